set_option maxRecDepth 100000 in
set_option maxHeartbeats 4000000 in
theorem c_filled {d n : Nat} {sh : zSh} {h : zMem} {v : Int} (hv : zi32 v) : zF yX8_filled cX8_filled 2 (some (.array .int)) (d + 1) 1 30 [(0, v)] n sh h (some (2, (n : Int))) (n + 1) (zshn sh n (100, 30)) (zfil (znew h n (fun _ => 0)) n 30 v) := by
  refine zF.ofT (by decide +kernel) [some (0, v), none] rfl (Nat.le_of_ble_eq_true rfl) ?_
  refine zt_bipush dX8_filled_0 (by decide) ?_
  refine zt_newa_int (N0 := 30) dX8_filled_2 zac_int rfl (by decide) ?_
  refine zt_astore_n_1 dX8_filled_4 (by decide) rfl ?_
  refine zt_aload_n dX8_filled_5 rfl ?_
  refine zt_iload_n dX8_filled_6 rfl ?_
  refine zt_callS2v dX8_filled_7 ml_X8_60 (Nat.le_of_ble_eq_true rfl) (c_fillI (N0 := 30) zshn_at (by decide) hv) ?_
  refine zt_aload_n dX8_filled_10 rfl ?_
  exact zt_aret dX8_filled_11 (Or.inr ⟨_, rfl⟩) ⟨rfl, rfl, rfl, rfl⟩

/-- what a new TABLE's arrays hold -/
def tV (j : Int) : Int := if j = 1 ∨ j = 4 ∨ j = 7 ∨ j = 10 then -2147483648 else if j = 9 then 0 else -1
def tSh (sh : zSh) (t j : Int) : zSh := fun x => if t < x ∧ x ≤ t + j then (100, 30) else sh x
def tMm (h : zMem) (t e j : Int) : zMem := fun x y => if x = t ∧ y = 0 then e else if x = t ∧ 1 ≤ y ∧ y ≤ j then t + y else if t < x ∧ x ≤ t + j then (if 0 ≤ y ∧ y < 30 then tV (x - t) else 0) else h x y
theorem tSh_t {sh : zSh} {t j : Int} (hs : sh t = (8, 14)) : tSh sh t j t = (8, 14) := by unfold tSh; rw [if_neg (by omega)]; exact hs
theorem tSh_0 {sh : zSh} {t : Int} : tSh sh t 0 = sh := by funext x; unfold tSh; rw [if_neg (by omega)]
theorem tSh_s {sh : zSh} {t j : Int} (hj : 0 ≤ j) : zshn (tSh sh t j) (t + (j + 1)) (100, 30) = tSh sh t (j + 1) := by
  funext x
  unfold zshn tSh
  by_cases h1 : x = t + (j + 1)
  · rw [if_pos h1, if_pos (by omega)]
  · rw [if_neg h1]
    by_cases h2 : t < x ∧ x ≤ t + j
    · rw [if_pos h2, if_pos (by omega)]
    · rw [if_neg h2, if_neg (by omega)]
theorem tMm_s {h : zMem} {t e j : Int} (hj : 0 ≤ j) : zup (zfil (znew (tMm h t e j) (t + (j + 1)) (fun _ => 0)) (t + (j + 1)) 30 (tV (j + 1))) t (j + 1) (t + (j + 1)) = tMm h t e (j + 1) := zmem_ext (fun x y => by
  unfold zup zfil znew tMm
  by_cases h2 : x = t + (j + 1)
  · subst h2
    rw [show t + (j + 1) - t = j + 1 by omega]
    (repeat' split) <;> first | rfl | (exfalso; omega) | omega
  · (repeat' split) <;> first | rfl | (exfalso; omega) | omega)
theorem tMm_0 {h : zMem} {t e : Int} : zup h t 0 e = tMm h t e 0 := zmem_ext (fun x y => by
  unfold zup tMm
  by_cases h1 : x = t ∧ y = 0
  · rw [if_pos h1, if_pos h1]
  · rw [if_neg h1, if_neg h1, if_neg (by omega), if_neg (by omega)])

set_option maxRecDepth 100000 in
set_option maxHeartbeats 4000000 in
theorem c_tinit {d n : Nat} {sh : zSh} {h : zMem} {t e : Int} (hs : sh t = (8, 14)) (hn : (n : Int) = t + 1) (h0 : 80 ≤ t) (he : 4 ≤ e ∧ e ≤ 30) : zF yX8_init cX8_init 2 none (d + 2) 10 300 [(2, t), (0, e)] n sh h none (n + 10) (tSh sh t 10) (tMm h t e 10) := by
  refine zF.ofT (by decide +kernel) [some (2, t), some (0, e)] rfl (Nat.le_of_ble_eq_true rfl) ?_
  refine zt_aload_n dX8_init_0 rfl ?_
  refine zt_objInit dX8_init_1 ml_X8_3 (by rw [hs]; decide) (Nat.le_of_ble_eq_true rfl) ?_
  refine zt_aload_n dX8_init_4 rfl ?_
  refine zt_iconst dX8_init_5 ?_
  refine zt_bipush dX8_init_6 (by decide) ?_
  refine zt_iload_n dX8_init_8 rfl ?_
  refine zt_callS2r (v := (0, e)) dX8_init_9 ml_X8_9 (Nat.le_of_ble_eq_true rfl) (zF.of_eq (by congr 2; unfold zmi; split <;> omega) rfl rfl rfl (c_min (by decide) (by omega))) ?_
  refine zt_callS2r (v := (0, e)) dX8_init_12 ml_X8_15 (Nat.le_of_ble_eq_true rfl) (zF.of_eq (by congr 2; unfold zmx; split <;> omega) rfl rfl rfl (c_max (by decide) (by omega))) ?_
  refine zt_putFi dX8_init_15 fl_X8_18 ⟨rfl, rfl⟩ hs (by omega) ?_
  rw [tMm_0, ← tSh_0 (sh := sh) (t := t)]
  refine zt_aload_n dX8_init_18 rfl ?_
  refine zt_ldc dX8_init_19 kc_X8_24 ?_
  refine zt_callS1r (v := (2, t + (0 + 1))) dX8_init_21 ml_X8_25 (Nat.le_of_ble_eq_true rfl) (zF.of_eq (show some (2, ((n + 0 : Nat) : Int)) = some (2, t + (0 + 1)) by rw [show ((n + 0 : Nat) : Int) = t + (0 + 1) by omega]) rfl (show zshn _ ((n + 0 : Nat) : Int) _ = zshn _ (t + (0 + 1)) _ by rw [show ((n + 0 : Nat) : Int) = t + (0 + 1) by omega]) (show zfil (znew _ ((n + 0 : Nat) : Int) _) ((n + 0 : Nat) : Int) _ _ = zfil (znew _ (t + (0 + 1)) _) (t + (0 + 1)) _ _ by rw [show ((n + 0 : Nat) : Int) = t + (0 + 1) by omega]) (c_filled (v := -2147483648) (by decide))) ?_
  refine zt_putFr dX8_init_24 fl_X8_29 ⟨rfl, rfl⟩ (by rw [tSh_s (by decide)]; exact tSh_t hs) ?_
  have e0 : zup (zfil (znew (tMm h t e 0) (t + (0 + 1)) (fun _ => 0)) (t + (0 + 1)) 30 (-2147483648)) t 1 (t + (0 + 1)) = tMm h t e 1 := tMm_s (h := h) (t := t) (e := e) (j := 0) (by decide)
  rw [e0, show zshn (tSh sh t 0) (t + (0 + 1)) (100, 30) = tSh sh t 1 from tSh_s (by decide)]
  refine zt_aload_n dX8_init_27 rfl ?_
  refine zt_iconst dX8_init_28 ?_
  refine zt_callS1r (v := (2, t + (1 + 1))) dX8_init_29 ml_X8_25 (Nat.le_of_ble_eq_true rfl) (zF.of_eq (show some (2, ((n + 1 : Nat) : Int)) = some (2, t + (1 + 1)) by rw [show ((n + 1 : Nat) : Int) = t + (1 + 1) by omega]) rfl (show zshn _ ((n + 1 : Nat) : Int) _ = zshn _ (t + (1 + 1)) _ by rw [show ((n + 1 : Nat) : Int) = t + (1 + 1) by omega]) (show zfil (znew _ ((n + 1 : Nat) : Int) _) ((n + 1 : Nat) : Int) _ _ = zfil (znew _ (t + (1 + 1)) _) (t + (1 + 1)) _ _ by rw [show ((n + 1 : Nat) : Int) = t + (1 + 1) by omega]) (c_filled (v := -1) (by decide))) ?_
  refine zt_putFr dX8_init_32 fl_X8_33 ⟨rfl, rfl⟩ (by rw [tSh_s (by decide)]; exact tSh_t hs) ?_
  have e1 : zup (zfil (znew (tMm h t e 1) (t + (1 + 1)) (fun _ => 0)) (t + (1 + 1)) 30 (-1)) t 2 (t + (1 + 1)) = tMm h t e 2 := tMm_s (h := h) (t := t) (e := e) (j := 1) (by decide)
  rw [e1, show zshn (tSh sh t 1) (t + (1 + 1)) (100, 30) = tSh sh t 2 from tSh_s (by decide)]
  refine zt_aload_n dX8_init_35 rfl ?_
  refine zt_iconst dX8_init_36 ?_
  refine zt_callS1r (v := (2, t + (2 + 1))) dX8_init_37 ml_X8_25 (Nat.le_of_ble_eq_true rfl) (zF.of_eq (show some (2, ((n + 2 : Nat) : Int)) = some (2, t + (2 + 1)) by rw [show ((n + 2 : Nat) : Int) = t + (2 + 1) by omega]) rfl (show zshn _ ((n + 2 : Nat) : Int) _ = zshn _ (t + (2 + 1)) _ by rw [show ((n + 2 : Nat) : Int) = t + (2 + 1) by omega]) (show zfil (znew _ ((n + 2 : Nat) : Int) _) ((n + 2 : Nat) : Int) _ _ = zfil (znew _ (t + (2 + 1)) _) (t + (2 + 1)) _ _ by rw [show ((n + 2 : Nat) : Int) = t + (2 + 1) by omega]) (c_filled (v := -1) (by decide))) ?_
  refine zt_putFr dX8_init_40 fl_X8_36 ⟨rfl, rfl⟩ (by rw [tSh_s (by decide)]; exact tSh_t hs) ?_
  have e2 : zup (zfil (znew (tMm h t e 2) (t + (2 + 1)) (fun _ => 0)) (t + (2 + 1)) 30 (-1)) t 3 (t + (2 + 1)) = tMm h t e 3 := tMm_s (h := h) (t := t) (e := e) (j := 2) (by decide)
  rw [e2, show zshn (tSh sh t 2) (t + (2 + 1)) (100, 30) = tSh sh t 3 from tSh_s (by decide)]
  refine zt_aload_n dX8_init_43 rfl ?_
  refine zt_ldc dX8_init_44 kc_X8_24 ?_
  refine zt_callS1r (v := (2, t + (3 + 1))) dX8_init_46 ml_X8_25 (Nat.le_of_ble_eq_true rfl) (zF.of_eq (show some (2, ((n + 3 : Nat) : Int)) = some (2, t + (3 + 1)) by rw [show ((n + 3 : Nat) : Int) = t + (3 + 1) by omega]) rfl (show zshn _ ((n + 3 : Nat) : Int) _ = zshn _ (t + (3 + 1)) _ by rw [show ((n + 3 : Nat) : Int) = t + (3 + 1) by omega]) (show zfil (znew _ ((n + 3 : Nat) : Int) _) ((n + 3 : Nat) : Int) _ _ = zfil (znew _ (t + (3 + 1)) _) (t + (3 + 1)) _ _ by rw [show ((n + 3 : Nat) : Int) = t + (3 + 1) by omega]) (c_filled (v := -2147483648) (by decide))) ?_
  refine zt_putFr dX8_init_49 fl_X8_39 ⟨rfl, rfl⟩ (by rw [tSh_s (by decide)]; exact tSh_t hs) ?_
  have e3 : zup (zfil (znew (tMm h t e 3) (t + (3 + 1)) (fun _ => 0)) (t + (3 + 1)) 30 (-2147483648)) t 4 (t + (3 + 1)) = tMm h t e 4 := tMm_s (h := h) (t := t) (e := e) (j := 3) (by decide)
  rw [e3, show zshn (tSh sh t 3) (t + (3 + 1)) (100, 30) = tSh sh t 4 from tSh_s (by decide)]
  refine zt_aload_n dX8_init_52 rfl ?_
  refine zt_iconst dX8_init_53 ?_
  refine zt_callS1r (v := (2, t + (4 + 1))) dX8_init_54 ml_X8_25 (Nat.le_of_ble_eq_true rfl) (zF.of_eq (show some (2, ((n + 4 : Nat) : Int)) = some (2, t + (4 + 1)) by rw [show ((n + 4 : Nat) : Int) = t + (4 + 1) by omega]) rfl (show zshn _ ((n + 4 : Nat) : Int) _ = zshn _ (t + (4 + 1)) _ by rw [show ((n + 4 : Nat) : Int) = t + (4 + 1) by omega]) (show zfil (znew _ ((n + 4 : Nat) : Int) _) ((n + 4 : Nat) : Int) _ _ = zfil (znew _ (t + (4 + 1)) _) (t + (4 + 1)) _ _ by rw [show ((n + 4 : Nat) : Int) = t + (4 + 1) by omega]) (c_filled (v := -1) (by decide))) ?_
  refine zt_putFr dX8_init_57 fl_X8_42 ⟨rfl, rfl⟩ (by rw [tSh_s (by decide)]; exact tSh_t hs) ?_
  have e4 : zup (zfil (znew (tMm h t e 4) (t + (4 + 1)) (fun _ => 0)) (t + (4 + 1)) 30 (-1)) t 5 (t + (4 + 1)) = tMm h t e 5 := tMm_s (h := h) (t := t) (e := e) (j := 4) (by decide)
  rw [e4, show zshn (tSh sh t 4) (t + (4 + 1)) (100, 30) = tSh sh t 5 from tSh_s (by decide)]
  refine zt_aload_n dX8_init_60 rfl ?_
  refine zt_iconst dX8_init_61 ?_
  refine zt_callS1r (v := (2, t + (5 + 1))) dX8_init_62 ml_X8_25 (Nat.le_of_ble_eq_true rfl) (zF.of_eq (show some (2, ((n + 5 : Nat) : Int)) = some (2, t + (5 + 1)) by rw [show ((n + 5 : Nat) : Int) = t + (5 + 1) by omega]) rfl (show zshn _ ((n + 5 : Nat) : Int) _ = zshn _ (t + (5 + 1)) _ by rw [show ((n + 5 : Nat) : Int) = t + (5 + 1) by omega]) (show zfil (znew _ ((n + 5 : Nat) : Int) _) ((n + 5 : Nat) : Int) _ _ = zfil (znew _ (t + (5 + 1)) _) (t + (5 + 1)) _ _ by rw [show ((n + 5 : Nat) : Int) = t + (5 + 1) by omega]) (c_filled (v := -1) (by decide))) ?_
  refine zt_putFr dX8_init_65 fl_X8_45 ⟨rfl, rfl⟩ (by rw [tSh_s (by decide)]; exact tSh_t hs) ?_
  have e5 : zup (zfil (znew (tMm h t e 5) (t + (5 + 1)) (fun _ => 0)) (t + (5 + 1)) 30 (-1)) t 6 (t + (5 + 1)) = tMm h t e 6 := tMm_s (h := h) (t := t) (e := e) (j := 5) (by decide)
  rw [e5, show zshn (tSh sh t 5) (t + (5 + 1)) (100, 30) = tSh sh t 6 from tSh_s (by decide)]
  refine zt_aload_n dX8_init_68 rfl ?_
  refine zt_ldc dX8_init_69 kc_X8_24 ?_
  refine zt_callS1r (v := (2, t + (6 + 1))) dX8_init_71 ml_X8_25 (Nat.le_of_ble_eq_true rfl) (zF.of_eq (show some (2, ((n + 6 : Nat) : Int)) = some (2, t + (6 + 1)) by rw [show ((n + 6 : Nat) : Int) = t + (6 + 1) by omega]) rfl (show zshn _ ((n + 6 : Nat) : Int) _ = zshn _ (t + (6 + 1)) _ by rw [show ((n + 6 : Nat) : Int) = t + (6 + 1) by omega]) (show zfil (znew _ ((n + 6 : Nat) : Int) _) ((n + 6 : Nat) : Int) _ _ = zfil (znew _ (t + (6 + 1)) _) (t + (6 + 1)) _ _ by rw [show ((n + 6 : Nat) : Int) = t + (6 + 1) by omega]) (c_filled (v := -2147483648) (by decide))) ?_
  refine zt_putFr dX8_init_74 fl_X8_48 ⟨rfl, rfl⟩ (by rw [tSh_s (by decide)]; exact tSh_t hs) ?_
  have e6 : zup (zfil (znew (tMm h t e 6) (t + (6 + 1)) (fun _ => 0)) (t + (6 + 1)) 30 (-2147483648)) t 7 (t + (6 + 1)) = tMm h t e 7 := tMm_s (h := h) (t := t) (e := e) (j := 6) (by decide)
  rw [e6, show zshn (tSh sh t 6) (t + (6 + 1)) (100, 30) = tSh sh t 7 from tSh_s (by decide)]
  refine zt_aload_n dX8_init_77 rfl ?_
  refine zt_iconst dX8_init_78 ?_
  refine zt_callS1r (v := (2, t + (7 + 1))) dX8_init_79 ml_X8_25 (Nat.le_of_ble_eq_true rfl) (zF.of_eq (show some (2, ((n + 7 : Nat) : Int)) = some (2, t + (7 + 1)) by rw [show ((n + 7 : Nat) : Int) = t + (7 + 1) by omega]) rfl (show zshn _ ((n + 7 : Nat) : Int) _ = zshn _ (t + (7 + 1)) _ by rw [show ((n + 7 : Nat) : Int) = t + (7 + 1) by omega]) (show zfil (znew _ ((n + 7 : Nat) : Int) _) ((n + 7 : Nat) : Int) _ _ = zfil (znew _ (t + (7 + 1)) _) (t + (7 + 1)) _ _ by rw [show ((n + 7 : Nat) : Int) = t + (7 + 1) by omega]) (c_filled (v := -1) (by decide))) ?_
  refine zt_putFr dX8_init_82 fl_X8_51 ⟨rfl, rfl⟩ (by rw [tSh_s (by decide)]; exact tSh_t hs) ?_
  have e7 : zup (zfil (znew (tMm h t e 7) (t + (7 + 1)) (fun _ => 0)) (t + (7 + 1)) 30 (-1)) t 8 (t + (7 + 1)) = tMm h t e 8 := tMm_s (h := h) (t := t) (e := e) (j := 7) (by decide)
  rw [e7, show zshn (tSh sh t 7) (t + (7 + 1)) (100, 30) = tSh sh t 8 from tSh_s (by decide)]
  refine zt_aload_n dX8_init_85 rfl ?_
  refine zt_iconst dX8_init_86 ?_
  refine zt_callS1r (v := (2, t + (8 + 1))) dX8_init_87 ml_X8_25 (Nat.le_of_ble_eq_true rfl) (zF.of_eq (show some (2, ((n + 8 : Nat) : Int)) = some (2, t + (8 + 1)) by rw [show ((n + 8 : Nat) : Int) = t + (8 + 1) by omega]) rfl (show zshn _ ((n + 8 : Nat) : Int) _ = zshn _ (t + (8 + 1)) _ by rw [show ((n + 8 : Nat) : Int) = t + (8 + 1) by omega]) (show zfil (znew _ ((n + 8 : Nat) : Int) _) ((n + 8 : Nat) : Int) _ _ = zfil (znew _ (t + (8 + 1)) _) (t + (8 + 1)) _ _ by rw [show ((n + 8 : Nat) : Int) = t + (8 + 1) by omega]) (c_filled (v := 0) (by decide))) ?_
  refine zt_putFr dX8_init_90 fl_X8_54 ⟨rfl, rfl⟩ (by rw [tSh_s (by decide)]; exact tSh_t hs) ?_
  have e8 : zup (zfil (znew (tMm h t e 8) (t + (8 + 1)) (fun _ => 0)) (t + (8 + 1)) 30 (0)) t 9 (t + (8 + 1)) = tMm h t e 9 := tMm_s (h := h) (t := t) (e := e) (j := 8) (by decide)
  rw [e8, show zshn (tSh sh t 8) (t + (8 + 1)) (100, 30) = tSh sh t 9 from tSh_s (by decide)]
  refine zt_aload_n dX8_init_93 rfl ?_
  refine zt_ldc dX8_init_94 kc_X8_24 ?_
  refine zt_callS1r (v := (2, t + (9 + 1))) dX8_init_96 ml_X8_25 (Nat.le_of_ble_eq_true rfl) (zF.of_eq (show some (2, ((n + 9 : Nat) : Int)) = some (2, t + (9 + 1)) by rw [show ((n + 9 : Nat) : Int) = t + (9 + 1) by omega]) rfl (show zshn _ ((n + 9 : Nat) : Int) _ = zshn _ (t + (9 + 1)) _ by rw [show ((n + 9 : Nat) : Int) = t + (9 + 1) by omega]) (show zfil (znew _ ((n + 9 : Nat) : Int) _) ((n + 9 : Nat) : Int) _ _ = zfil (znew _ (t + (9 + 1)) _) (t + (9 + 1)) _ _ by rw [show ((n + 9 : Nat) : Int) = t + (9 + 1) by omega]) (c_filled (v := -2147483648) (by decide))) ?_
  refine zt_putFr dX8_init_99 fl_X8_57 ⟨rfl, rfl⟩ (by rw [tSh_s (by decide)]; exact tSh_t hs) ?_
  have e9 : zup (zfil (znew (tMm h t e 9) (t + (9 + 1)) (fun _ => 0)) (t + (9 + 1)) 30 (-2147483648)) t 10 (t + (9 + 1)) = tMm h t e 10 := tMm_s (h := h) (t := t) (e := e) (j := 9) (by decide)
  rw [e9, show zshn (tSh sh t 9) (t + (9 + 1)) (100, 30) = tSh sh t 10 from tSh_s (by decide)]
  exact zt_vret dX8_init_102 ⟨rfl, rfl, by rw [tSh_0], rfl⟩
