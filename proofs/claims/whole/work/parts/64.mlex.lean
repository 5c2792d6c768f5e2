/-- the reference's TEXT is the class' -/
def mTx (h : zMem) : Prop := tOK h ∧ h 38 1 = h 1 1 ∧ ∀ p, 0 ≤ p → p < h 1 1 → (h 2 p < 128 ∧ h 39 p = h 2 p) ∨ (128 ≤ h 2 p ∧ h 39 p = h 2 p - 256)
/-- the same, of any text T, L -/
def mTt (h : zMem) (T : Int → Int) (L : Int) : Prop := ((0 ≤ L ∧ L ≤ 200) ∧ ∀ p, 0 ≤ p → p < L → 0 ≤ T p ∧ T p ≤ 255) ∧ h 38 1 = L ∧ ∀ p, 0 ≤ p → p < L → (T p < 128 ∧ h 39 p = T p) ∨ (128 ≤ T p ∧ h 39 p = T p - 256)
/-- the same, of the text in rows that no object has -/
def mTg (h : zMem) : Prop := ((0 ≤ h (-2001) 1 ∧ h (-2001) 1 ≤ 200) ∧ ∀ p, 0 ≤ p → p < h (-2001) 1 → 0 ≤ h (-2002) p ∧ h (-2002) p ≤ 255) ∧ h 38 1 = h (-2001) 1 ∧ ∀ p, 0 ≤ p → p < h (-2001) 1 → (h (-2002) p < 128 ∧ h 39 p = h (-2002) p) ∨ (128 ≤ h (-2002) p ∧ h 39 p = h (-2002) p - 256)
/-- the reference's token for a kind and a number of the class -/
def mtk (k N t v : Int) : Prop := (k = 0 ∧ t = 0) ∨ (k = 2 ∧ t = 1 ∧ v = N ∧ 0 ≤ v ∧ v ≤ 999999) ∨ (3 ≤ k ∧ k ≤ 10 ∧ t = 2 ∧ v = k - 3) ∨ (40 ≤ k ∧ k ≤ 62 ∧ t = 3 ∧ v = k) ∨ (k = 1 ∧ ((t = 1 ∧ 999999 < v) ∨ (t = 2 ∧ v = -1) ∨ t = 4))
def nM (h : zMem) (a b v t : Int) : zMem := znew h 38 (fun y => if y = 2 then a else if y = 3 then t else if y = 4 then b else if y = 5 then v else h 38 y)
theorem nM_n {h : zMem} {a b v t x : Int} (hx : x ≠ 38) : nM h a b v t x = h x := znew_ne hx
theorem nM_38 {h : zMem} {a b v t y : Int} : nM h a b v t 38 y = if y = 2 then a else if y = 3 then t else if y = 4 then b else if y = 5 then v else h 38 y := by unfold nM; rw [znew_at]
theorem nM_o {h : zMem} {a b v t y : Int} (hy : y ≠ 2 ∧ y ≠ 3 ∧ y ≠ 4 ∧ y ≠ 5) : nM h a b v t 38 y = h 38 y := by rw [nM_38, if_neg hy.1, if_neg hy.2.1, if_neg hy.2.2.1, if_neg hy.2.2.2]
theorem nM_2 {h : zMem} {a b v t z : Int} : zup (nM h a b v t) 38 2 z = nM h z b v t := by
  unfold nM; rw [znew_up]; congr 1; funext y; by_cases h2 : y = 2 <;> simp [h2]
theorem nM_3 {h : zMem} {a b v t z : Int} : zup (nM h a b v t) 38 3 z = nM h a b v z := by
  unfold nM; rw [znew_up]; congr 1; funext y
  by_cases h2 : y = 3
  · subst h2; simp
  · simp [h2]
theorem nM_4 {h : zMem} {a b v t z : Int} : zup (nM h a b v t) 38 4 z = nM h a z v t := by
  unfold nM; rw [znew_up]; congr 1; funext y
  by_cases h2 : y = 4
  · subst h2; simp
  · simp [h2]
theorem nM_5 {h : zMem} {a b v t z : Int} : zup (nM h a b v t) 38 5 z = nM h a b z t := by
  unfold nM; rw [znew_up]; congr 1; funext y
  by_cases h2 : y = 5
  · subst h2; simp
  · simp [h2]
theorem nM_self {h : zMem} : nM h (h 38 2) (h 38 4) (h 38 5) (h 38 3) = h := by
  unfold nM
  rw [show (fun y => if y = 2 then h 38 2 else if y = 3 then h 38 3 else if y = 4 then h 38 4 else if y = 5 then h 38 5 else h 38 y) = h 38 from ?_]
  · exact znew_self
  · funext y
    by_cases h2 : y = 2
    · simp [h2]
    · by_cases h3 : y = 3
      · simp [h3]
      · by_cases h4 : y = 4
        · simp [h4]
        · by_cases h5 : y = 5
          · simp [h5]
          · simp [h2, h3, h4, h5]
theorem nM_rf {h : zMem} {a b v t : Int} (hR : zRf h) : zRf (nM h a b v t) := fun q hq => by
  have h1 : ∀ q ∈ zrf0, q.1 ≠ 38 ∨ (q.2.1 ≠ 2 ∧ q.2.1 ≠ 3 ∧ q.2.1 ≠ 4 ∧ q.2.1 ≠ 5) := by decide
  rcases h1 q hq with e | e
  · rw [nM_n e]; exact hR q hq
  · by_cases e2 : q.1 = 38
    · have := hR q hq; rw [e2] at this ⊢; rw [nM_o e]; exact this
    · rw [nM_n e2]; exact hR q hq

set_option maxRecDepth 100000 in
set_option maxHeartbeats 4000000 in
theorem l_wd8 {d n : Nat} {sh : zSh} {h : zMem} {s e : Int} {T : Int → Int} (hS : zShp sh) (hR : zRf h) (hse : (0 ≤ s ∧ s ≤ e) ∧ e ≤ 200) (hw : ∀ j, s ≤ j → j < e → h 39 j = T j) (n0 : ¬ isw T 0 s e) (n1 : ¬ isw T 1 s e) (n2 : ¬ isw T 2 s e) (n3 : ¬ isw T 3 s e) (n4 : ¬ isw T 4 s e) (n5 : ¬ isw T 5 s e) (n6 : ¬ isw T 6 s e) (n7 : ¬ isw T 7 s e) : zT yX11_wordAt cX11_wordAt 8 (some .int) (d + 4) 0 0 (zq (some (0, wix T s e)) n sh h) 5 [some (2, 38), some (0, s), some (0, e), some (0, 8), some (0, 36), none, none, none] [] n sh h := by
  refine zt_rg (fun hm => ?_)
  refine zt_iload dX11_wordAt_5 rfl ?_
  refine zt_ldcs (i := 9) (v := -20) dX11_wordAt_7 ⟨rfl, by decide⟩ ⟨rfl, rfl⟩ ?_
  refine zt_callVS0r dX11_wordAt_9 ml_X11_149 (i := 9) ⟨rfl, by decide⟩ (Nat.le_of_ble_eq_true rfl) (zF.of_eq (r' := some (0, 36)) rfl rfl rfl rfl (c_slen (i := 9) ⟨rfl, by decide⟩)) ?_
  refine zt_icmp_ge (tgt := 126) dX11_wordAt_12 (by decide) (by decide) (by decide) (fun c_12 => ?_) (fun q => absurd q (by decide))
  refine zt_iconst dX11_wordAt_126 ?_
  exact zt_iret dX11_wordAt_127 ⟨by rw [show wix T s e = -1 by unfold wix; rw [wit_f n0, wit_f n1, wit_f n2, wit_f n3, wit_f n4, wit_f n5, wit_f n6, wit_f n7]], rfl, rfl, rfl⟩

set_option maxRecDepth 100000 in
set_option maxHeartbeats 4000000 in
theorem l_wd7 {d n : Nat} {sh : zSh} {h : zMem} {s e : Int} {T : Int → Int} (hS : zShp sh) (hR : zRf h) (hse : (0 ≤ s ∧ s ≤ e) ∧ e ≤ 200) (hw : ∀ j, s ≤ j → j < e → h 39 j = T j) (n0 : ¬ isw T 0 s e) (n1 : ¬ isw T 1 s e) (n2 : ¬ isw T 2 s e) (n3 : ¬ isw T 3 s e) (n4 : ¬ isw T 4 s e) (n5 : ¬ isw T 5 s e) (n6 : ¬ isw T 6 s e) : zT yX11_wordAt cX11_wordAt 8 (some .int) (d + 4) 0 0 (zq (some (0, wix T s e)) n sh h) 5 [some (2, 38), some (0, s), some (0, e), some (0, 7), some (0, 31), none, none, none] [] n sh h := by
  refine zt_rg (fun hm => ?_)
  refine zt_iload dX11_wordAt_5 rfl ?_
  refine zt_ldcs (i := 9) (v := -20) dX11_wordAt_7 ⟨rfl, by decide⟩ ⟨rfl, rfl⟩ ?_
  refine zt_callVS0r dX11_wordAt_9 ml_X11_149 (i := 9) ⟨rfl, by decide⟩ (Nat.le_of_ble_eq_true rfl) (zF.of_eq (r' := some (0, 36)) rfl rfl rfl rfl (c_slen (i := 9) ⟨rfl, by decide⟩)) ?_
  refine zt_icmp_ge (tgt := 126) dX11_wordAt_12 (by decide) (by decide) (by decide) (fun q => absurd q (by decide)) (fun c_12 => ?_)
  refine zt_iconst dX11_wordAt_15 ?_
  refine zt_istore_5 dX11_wordAt_16 (by decide) rfl ?_
  refine zt_ldcs (i := 9) (v := -20) dX11_wordAt_18 ⟨rfl, by decide⟩ ⟨rfl, rfl⟩ ?_
  refine zt_iload dX11_wordAt_20 rfl ?_
  refine zt_iload dX11_wordAt_22 rfl ?_
  refine zt_iadd dX11_wordAt_24 ?_
  refine zt_topv (v := 31) (by decide) ?_
  refine zt_callVS1r dX11_wordAt_25 ml_X11_155 (i := 9) ⟨rfl, by decide⟩ (Nat.le_of_ble_eq_true rfl) (zF.of_eq (r' := some (0, 101)) (by decide) rfl rfl rfl (c_sch (i := 9) (k := 31) ⟨rfl, by decide⟩ (by decide))) ?_
  refine zt_bipush dX11_wordAt_28 (by decide) ?_
  refine zt_icmp_eq (tgt := 39) dX11_wordAt_30 (by decide) (by decide) (by decide) (fun q => absurd q (by decide)) (fun c_30 => ?_)
  refine zt_iincv_5 (v := 1) dX11_wordAt_33 (by decide) rfl (by decide) ?_
  refine zt_goto (tgt := 18) dX11_wordAt_36 (by decide) ?_
  refine zt_ldcs (i := 9) (v := -20) dX11_wordAt_18 ⟨rfl, by decide⟩ ⟨rfl, rfl⟩ ?_
  refine zt_iload dX11_wordAt_20 rfl ?_
  refine zt_iload dX11_wordAt_22 rfl ?_
  refine zt_iadd dX11_wordAt_24 ?_
  refine zt_topv (v := 32) (by decide) ?_
  refine zt_callVS1r dX11_wordAt_25 ml_X11_155 (i := 9) ⟨rfl, by decide⟩ (Nat.le_of_ble_eq_true rfl) (zF.of_eq (r' := some (0, 108)) (by decide) rfl rfl rfl (c_sch (i := 9) (k := 32) ⟨rfl, by decide⟩ (by decide))) ?_
  refine zt_bipush dX11_wordAt_28 (by decide) ?_
  refine zt_icmp_eq (tgt := 39) dX11_wordAt_30 (by decide) (by decide) (by decide) (fun q => absurd q (by decide)) (fun c_30 => ?_)
  refine zt_iincv_5 (v := 2) dX11_wordAt_33 (by decide) rfl (by decide) ?_
  refine zt_goto (tgt := 18) dX11_wordAt_36 (by decide) ?_
  refine zt_ldcs (i := 9) (v := -20) dX11_wordAt_18 ⟨rfl, by decide⟩ ⟨rfl, rfl⟩ ?_
  refine zt_iload dX11_wordAt_20 rfl ?_
  refine zt_iload dX11_wordAt_22 rfl ?_
  refine zt_iadd dX11_wordAt_24 ?_
  refine zt_topv (v := 33) (by decide) ?_
  refine zt_callVS1r dX11_wordAt_25 ml_X11_155 (i := 9) ⟨rfl, by decide⟩ (Nat.le_of_ble_eq_true rfl) (zF.of_eq (r' := some (0, 115)) (by decide) rfl rfl rfl (c_sch (i := 9) (k := 33) ⟨rfl, by decide⟩ (by decide))) ?_
  refine zt_bipush dX11_wordAt_28 (by decide) ?_
  refine zt_icmp_eq (tgt := 39) dX11_wordAt_30 (by decide) (by decide) (by decide) (fun q => absurd q (by decide)) (fun c_30 => ?_)
  refine zt_iincv_5 (v := 3) dX11_wordAt_33 (by decide) rfl (by decide) ?_
  refine zt_goto (tgt := 18) dX11_wordAt_36 (by decide) ?_
  refine zt_ldcs (i := 9) (v := -20) dX11_wordAt_18 ⟨rfl, by decide⟩ ⟨rfl, rfl⟩ ?_
  refine zt_iload dX11_wordAt_20 rfl ?_
  refine zt_iload dX11_wordAt_22 rfl ?_
  refine zt_iadd dX11_wordAt_24 ?_
  refine zt_topv (v := 34) (by decide) ?_
  refine zt_callVS1r dX11_wordAt_25 ml_X11_155 (i := 9) ⟨rfl, by decide⟩ (Nat.le_of_ble_eq_true rfl) (zF.of_eq (r' := some (0, 101)) (by decide) rfl rfl rfl (c_sch (i := 9) (k := 34) ⟨rfl, by decide⟩ (by decide))) ?_
  refine zt_bipush dX11_wordAt_28 (by decide) ?_
  refine zt_icmp_eq (tgt := 39) dX11_wordAt_30 (by decide) (by decide) (by decide) (fun q => absurd q (by decide)) (fun c_30 => ?_)
  refine zt_iincv_5 (v := 4) dX11_wordAt_33 (by decide) rfl (by decide) ?_
  refine zt_goto (tgt := 18) dX11_wordAt_36 (by decide) ?_
  refine zt_ldcs (i := 9) (v := -20) dX11_wordAt_18 ⟨rfl, by decide⟩ ⟨rfl, rfl⟩ ?_
  refine zt_iload dX11_wordAt_20 rfl ?_
  refine zt_iload dX11_wordAt_22 rfl ?_
  refine zt_iadd dX11_wordAt_24 ?_
  refine zt_topv (v := 35) (by decide) ?_
  refine zt_callVS1r dX11_wordAt_25 ml_X11_155 (i := 9) ⟨rfl, by decide⟩ (Nat.le_of_ble_eq_true rfl) (zF.of_eq (r' := some (0, 32)) (by decide) rfl rfl rfl (c_sch (i := 9) (k := 35) ⟨rfl, by decide⟩ (by decide))) ?_
  refine zt_bipush dX11_wordAt_28 (by decide) ?_
  refine zt_icmp_eq (tgt := 39) dX11_wordAt_30 (by decide) (by decide) (by decide) (fun c_30 => ?_) (fun q => absurd q (by decide))
  refine zt_iload dX11_wordAt_39 rfl ?_
  refine zt_iload_n dX11_wordAt_41 rfl ?_
  refine zt_iload_n dX11_wordAt_42 rfl ?_
  refine zt_isub dX11_wordAt_43 ?_
  refine zt_icmp_ne (tgt := 51) dX11_wordAt_44 (by decide) (by decide) (by omega) (fun c_44 => ?_) (fun c_44 => ?_)
  · refine zt_iconst dX11_wordAt_51 ?_
    refine zt_istore_6 dX11_wordAt_52 (by decide) rfl ?_
    refine zt_iconst dX11_wordAt_54 ?_
    refine zt_istore_7 dX11_wordAt_55 (by decide) rfl ?_
    refine zt_iload dX11_wordAt_57 rfl ?_
    refine zt_iload dX11_wordAt_59 rfl ?_
    refine zt_icmp_ge (tgt := 104) dX11_wordAt_61 (by decide) (by decide) (by decide) (fun q => absurd q (by decide)) (fun c_61 => ?_)
    refine zt_iload dX11_wordAt_64 rfl ?_
    refine zt_if_eq (tgt := 104) dX11_wordAt_66 (by decide) (by decide) (fun c_66 => ?_) (fun q => absurd q (by decide))
    refine zt_iload dX11_wordAt_104 rfl ?_
    refine zt_if_eq (tgt := 111) dX11_wordAt_106 (by decide) (by decide) (fun c_106 => ?_) (fun q => absurd q (by decide))
    refine zt_iincv_3 (v := 8) dX11_wordAt_111 (by decide) rfl (by decide) ?_
    refine zt_iload dX11_wordAt_114 rfl ?_
    refine zt_iload dX11_wordAt_116 rfl ?_
    refine zt_iconst dX11_wordAt_118 ?_
    refine zt_iadd dX11_wordAt_119 ?_
    refine zt_topv (v := 5) (by decide) ?_
    refine zt_iadd dX11_wordAt_120 ?_
    refine zt_topv (v := 36) (by decide) ?_
    refine zt_istore_4 dX11_wordAt_121 (by decide) rfl ?_
    refine zt_goto (tgt := 5) dX11_wordAt_123 (by decide) ?_
    refine zt_kill_5 ?_
    refine zt_kill_6 ?_
    refine zt_kill_7 ?_
    exact l_wd8 hS hR hse hw n0 n1 n2 n3 n4 n5 n6 (fun z => by have z := z.1; replace z : (4 : Int) = e - s := z; omega)
  · refine zt_iconst dX11_wordAt_47 ?_
    refine zt_goto (tgt := 52) dX11_wordAt_48 (by decide) ?_
    refine zt_istore_6 dX11_wordAt_52 (by decide) rfl ?_
    refine zt_iconst dX11_wordAt_54 ?_
    refine zt_istore_7 dX11_wordAt_55 (by decide) rfl ?_
    refine zt_iload dX11_wordAt_57 rfl ?_
    refine zt_iload dX11_wordAt_59 rfl ?_
    refine zt_icmp_ge (tgt := 104) dX11_wordAt_61 (by decide) (by decide) (by decide) (fun q => absurd q (by decide)) (fun c_61 => ?_)
    refine zt_iload dX11_wordAt_64 rfl ?_
    refine zt_if_eq (tgt := 104) dX11_wordAt_66 (by decide) (by decide) (fun q => absurd q (by decide)) (fun c_66 => ?_)
    refine zt_ldcs (i := 9) (v := -20) dX11_wordAt_69 ⟨rfl, by decide⟩ ⟨rfl, rfl⟩ ?_
    refine zt_iload dX11_wordAt_71 rfl ?_
    refine zt_iload dX11_wordAt_73 rfl ?_
    refine zt_iadd dX11_wordAt_75 ?_
    refine zt_topv (v := 31) (by decide) ?_
    refine zt_callVS1r dX11_wordAt_76 ml_X11_155 (i := 9) ⟨rfl, by decide⟩ (Nat.le_of_ble_eq_true rfl) (zF.of_eq (r' := some (0, 101)) (by decide) rfl rfl rfl (c_sch (i := 9) (k := 31) ⟨rfl, by decide⟩ (by decide))) ?_
    refine zt_aload_n dX11_wordAt_79 rfl ?_
    refine zt_getv dX11_wordAt_80 fl_X11_9 (zs_38 hS) (rf_38_0 hR) ?_
    refine zt_iload_n dX11_wordAt_83 rfl ?_
    refine zt_iload dX11_wordAt_84 rfl ?_
    refine zt_iadd dX11_wordAt_86 ?_
    refine zt_baload dX11_wordAt_87 (zs_39 hS) (by decide) (by omega) (by omega) ?_
    have hc0 := hw (s + 0) (by omega) (by omega)
    refine zt_icmp_ne (tgt := 95) dX11_wordAt_88 (by decide) (by decide) (zbyte (hm.byte (zs_39 hS) (by omega) (by omega))) (fun c_88 => ?_) (fun c_88 => ?_)
    · refine zt_iconst dX11_wordAt_95 ?_
      refine zt_istore_6 dX11_wordAt_96 (by decide) rfl ?_
      refine zt_iincv_7 (v := 1) dX11_wordAt_98 (by decide) rfl (by decide) ?_
      refine zt_goto (tgt := 57) dX11_wordAt_101 (by decide) ?_
      refine zt_iload dX11_wordAt_57 rfl ?_
      refine zt_iload dX11_wordAt_59 rfl ?_
      refine zt_icmp_ge (tgt := 104) dX11_wordAt_61 (by decide) (by decide) (by decide) (fun q => absurd q (by decide)) (fun c_61 => ?_)
      refine zt_iload dX11_wordAt_64 rfl ?_
      refine zt_if_eq (tgt := 104) dX11_wordAt_66 (by decide) (by decide) (fun c_66 => ?_) (fun q => absurd q (by decide))
      refine zt_iload dX11_wordAt_104 rfl ?_
      refine zt_if_eq (tgt := 111) dX11_wordAt_106 (by decide) (by decide) (fun c_106 => ?_) (fun q => absurd q (by decide))
      refine zt_iincv_3 (v := 8) dX11_wordAt_111 (by decide) rfl (by decide) ?_
      refine zt_iload dX11_wordAt_114 rfl ?_
      refine zt_iload dX11_wordAt_116 rfl ?_
      refine zt_iconst dX11_wordAt_118 ?_
      refine zt_iadd dX11_wordAt_119 ?_
      refine zt_topv (v := 5) (by decide) ?_
      refine zt_iadd dX11_wordAt_120 ?_
      refine zt_topv (v := 36) (by decide) ?_
      refine zt_istore_4 dX11_wordAt_121 (by decide) rfl ?_
      refine zt_goto (tgt := 5) dX11_wordAt_123 (by decide) ?_
      refine zt_kill_5 ?_
      refine zt_kill_6 ?_
      refine zt_kill_7 ?_
      exact l_wd8 hS hR hse hw n0 n1 n2 n3 n4 n5 n6 (fun z => by have z := z.2 0 (by decide) (by decide); rw [show zsb 7 0 = 101 by decide] at z; omega)
    · refine zt_iconst dX11_wordAt_91 ?_
      refine zt_goto (tgt := 96) dX11_wordAt_92 (by decide) ?_
      refine zt_istore_6 dX11_wordAt_96 (by decide) rfl ?_
      refine zt_iincv_7 (v := 1) dX11_wordAt_98 (by decide) rfl (by decide) ?_
      refine zt_goto (tgt := 57) dX11_wordAt_101 (by decide) ?_
      refine zt_iload dX11_wordAt_57 rfl ?_
      refine zt_iload dX11_wordAt_59 rfl ?_
      refine zt_icmp_ge (tgt := 104) dX11_wordAt_61 (by decide) (by decide) (by decide) (fun q => absurd q (by decide)) (fun c_61 => ?_)
      refine zt_iload dX11_wordAt_64 rfl ?_
      refine zt_if_eq (tgt := 104) dX11_wordAt_66 (by decide) (by decide) (fun q => absurd q (by decide)) (fun c_66 => ?_)
      refine zt_ldcs (i := 9) (v := -20) dX11_wordAt_69 ⟨rfl, by decide⟩ ⟨rfl, rfl⟩ ?_
      refine zt_iload dX11_wordAt_71 rfl ?_
      refine zt_iload dX11_wordAt_73 rfl ?_
      refine zt_iadd dX11_wordAt_75 ?_
      refine zt_topv (v := 32) (by decide) ?_
      refine zt_callVS1r dX11_wordAt_76 ml_X11_155 (i := 9) ⟨rfl, by decide⟩ (Nat.le_of_ble_eq_true rfl) (zF.of_eq (r' := some (0, 108)) (by decide) rfl rfl rfl (c_sch (i := 9) (k := 32) ⟨rfl, by decide⟩ (by decide))) ?_
      refine zt_aload_n dX11_wordAt_79 rfl ?_
      refine zt_getv dX11_wordAt_80 fl_X11_9 (zs_38 hS) (rf_38_0 hR) ?_
      refine zt_iload_n dX11_wordAt_83 rfl ?_
      refine zt_iload dX11_wordAt_84 rfl ?_
      refine zt_iadd dX11_wordAt_86 ?_
      refine zt_baload dX11_wordAt_87 (zs_39 hS) (by decide) (by omega) (by omega) ?_
      have hc1 := hw (s + 1) (by omega) (by omega)
      refine zt_icmp_ne (tgt := 95) dX11_wordAt_88 (by decide) (by decide) (zbyte (hm.byte (zs_39 hS) (by omega) (by omega))) (fun c_88 => ?_) (fun c_88 => ?_)
      · refine zt_iconst dX11_wordAt_95 ?_
        refine zt_istore_6 dX11_wordAt_96 (by decide) rfl ?_
        refine zt_iincv_7 (v := 2) dX11_wordAt_98 (by decide) rfl (by decide) ?_
        refine zt_goto (tgt := 57) dX11_wordAt_101 (by decide) ?_
        refine zt_iload dX11_wordAt_57 rfl ?_
        refine zt_iload dX11_wordAt_59 rfl ?_
        refine zt_icmp_ge (tgt := 104) dX11_wordAt_61 (by decide) (by decide) (by decide) (fun q => absurd q (by decide)) (fun c_61 => ?_)
        refine zt_iload dX11_wordAt_64 rfl ?_
        refine zt_if_eq (tgt := 104) dX11_wordAt_66 (by decide) (by decide) (fun c_66 => ?_) (fun q => absurd q (by decide))
        refine zt_iload dX11_wordAt_104 rfl ?_
        refine zt_if_eq (tgt := 111) dX11_wordAt_106 (by decide) (by decide) (fun c_106 => ?_) (fun q => absurd q (by decide))
        refine zt_iincv_3 (v := 8) dX11_wordAt_111 (by decide) rfl (by decide) ?_
        refine zt_iload dX11_wordAt_114 rfl ?_
        refine zt_iload dX11_wordAt_116 rfl ?_
        refine zt_iconst dX11_wordAt_118 ?_
        refine zt_iadd dX11_wordAt_119 ?_
        refine zt_topv (v := 5) (by decide) ?_
        refine zt_iadd dX11_wordAt_120 ?_
        refine zt_topv (v := 36) (by decide) ?_
        refine zt_istore_4 dX11_wordAt_121 (by decide) rfl ?_
        refine zt_goto (tgt := 5) dX11_wordAt_123 (by decide) ?_
        refine zt_kill_5 ?_
        refine zt_kill_6 ?_
        refine zt_kill_7 ?_
        exact l_wd8 hS hR hse hw n0 n1 n2 n3 n4 n5 n6 (fun z => by have z := z.2 1 (by decide) (by decide); rw [show zsb 7 1 = 108 by decide] at z; omega)
      · refine zt_iconst dX11_wordAt_91 ?_
        refine zt_goto (tgt := 96) dX11_wordAt_92 (by decide) ?_
        refine zt_istore_6 dX11_wordAt_96 (by decide) rfl ?_
        refine zt_iincv_7 (v := 2) dX11_wordAt_98 (by decide) rfl (by decide) ?_
        refine zt_goto (tgt := 57) dX11_wordAt_101 (by decide) ?_
        refine zt_iload dX11_wordAt_57 rfl ?_
        refine zt_iload dX11_wordAt_59 rfl ?_
        refine zt_icmp_ge (tgt := 104) dX11_wordAt_61 (by decide) (by decide) (by decide) (fun q => absurd q (by decide)) (fun c_61 => ?_)
        refine zt_iload dX11_wordAt_64 rfl ?_
        refine zt_if_eq (tgt := 104) dX11_wordAt_66 (by decide) (by decide) (fun q => absurd q (by decide)) (fun c_66 => ?_)
        refine zt_ldcs (i := 9) (v := -20) dX11_wordAt_69 ⟨rfl, by decide⟩ ⟨rfl, rfl⟩ ?_
        refine zt_iload dX11_wordAt_71 rfl ?_
        refine zt_iload dX11_wordAt_73 rfl ?_
        refine zt_iadd dX11_wordAt_75 ?_
        refine zt_topv (v := 33) (by decide) ?_
        refine zt_callVS1r dX11_wordAt_76 ml_X11_155 (i := 9) ⟨rfl, by decide⟩ (Nat.le_of_ble_eq_true rfl) (zF.of_eq (r' := some (0, 115)) (by decide) rfl rfl rfl (c_sch (i := 9) (k := 33) ⟨rfl, by decide⟩ (by decide))) ?_
        refine zt_aload_n dX11_wordAt_79 rfl ?_
        refine zt_getv dX11_wordAt_80 fl_X11_9 (zs_38 hS) (rf_38_0 hR) ?_
        refine zt_iload_n dX11_wordAt_83 rfl ?_
        refine zt_iload dX11_wordAt_84 rfl ?_
        refine zt_iadd dX11_wordAt_86 ?_
        refine zt_baload dX11_wordAt_87 (zs_39 hS) (by decide) (by omega) (by omega) ?_
        have hc2 := hw (s + 2) (by omega) (by omega)
        refine zt_icmp_ne (tgt := 95) dX11_wordAt_88 (by decide) (by decide) (zbyte (hm.byte (zs_39 hS) (by omega) (by omega))) (fun c_88 => ?_) (fun c_88 => ?_)
        · refine zt_iconst dX11_wordAt_95 ?_
          refine zt_istore_6 dX11_wordAt_96 (by decide) rfl ?_
          refine zt_iincv_7 (v := 3) dX11_wordAt_98 (by decide) rfl (by decide) ?_
          refine zt_goto (tgt := 57) dX11_wordAt_101 (by decide) ?_
          refine zt_iload dX11_wordAt_57 rfl ?_
          refine zt_iload dX11_wordAt_59 rfl ?_
          refine zt_icmp_ge (tgt := 104) dX11_wordAt_61 (by decide) (by decide) (by decide) (fun q => absurd q (by decide)) (fun c_61 => ?_)
          refine zt_iload dX11_wordAt_64 rfl ?_
          refine zt_if_eq (tgt := 104) dX11_wordAt_66 (by decide) (by decide) (fun c_66 => ?_) (fun q => absurd q (by decide))
          refine zt_iload dX11_wordAt_104 rfl ?_
          refine zt_if_eq (tgt := 111) dX11_wordAt_106 (by decide) (by decide) (fun c_106 => ?_) (fun q => absurd q (by decide))
          refine zt_iincv_3 (v := 8) dX11_wordAt_111 (by decide) rfl (by decide) ?_
          refine zt_iload dX11_wordAt_114 rfl ?_
          refine zt_iload dX11_wordAt_116 rfl ?_
          refine zt_iconst dX11_wordAt_118 ?_
          refine zt_iadd dX11_wordAt_119 ?_
          refine zt_topv (v := 5) (by decide) ?_
          refine zt_iadd dX11_wordAt_120 ?_
          refine zt_topv (v := 36) (by decide) ?_
          refine zt_istore_4 dX11_wordAt_121 (by decide) rfl ?_
          refine zt_goto (tgt := 5) dX11_wordAt_123 (by decide) ?_
          refine zt_kill_5 ?_
          refine zt_kill_6 ?_
          refine zt_kill_7 ?_
          exact l_wd8 hS hR hse hw n0 n1 n2 n3 n4 n5 n6 (fun z => by have z := z.2 2 (by decide) (by decide); rw [show zsb 7 2 = 115 by decide] at z; omega)
        · refine zt_iconst dX11_wordAt_91 ?_
          refine zt_goto (tgt := 96) dX11_wordAt_92 (by decide) ?_
          refine zt_istore_6 dX11_wordAt_96 (by decide) rfl ?_
          refine zt_iincv_7 (v := 3) dX11_wordAt_98 (by decide) rfl (by decide) ?_
          refine zt_goto (tgt := 57) dX11_wordAt_101 (by decide) ?_
          refine zt_iload dX11_wordAt_57 rfl ?_
          refine zt_iload dX11_wordAt_59 rfl ?_
          refine zt_icmp_ge (tgt := 104) dX11_wordAt_61 (by decide) (by decide) (by decide) (fun q => absurd q (by decide)) (fun c_61 => ?_)
          refine zt_iload dX11_wordAt_64 rfl ?_
          refine zt_if_eq (tgt := 104) dX11_wordAt_66 (by decide) (by decide) (fun q => absurd q (by decide)) (fun c_66 => ?_)
          refine zt_ldcs (i := 9) (v := -20) dX11_wordAt_69 ⟨rfl, by decide⟩ ⟨rfl, rfl⟩ ?_
          refine zt_iload dX11_wordAt_71 rfl ?_
          refine zt_iload dX11_wordAt_73 rfl ?_
          refine zt_iadd dX11_wordAt_75 ?_
          refine zt_topv (v := 34) (by decide) ?_
          refine zt_callVS1r dX11_wordAt_76 ml_X11_155 (i := 9) ⟨rfl, by decide⟩ (Nat.le_of_ble_eq_true rfl) (zF.of_eq (r' := some (0, 101)) (by decide) rfl rfl rfl (c_sch (i := 9) (k := 34) ⟨rfl, by decide⟩ (by decide))) ?_
          refine zt_aload_n dX11_wordAt_79 rfl ?_
          refine zt_getv dX11_wordAt_80 fl_X11_9 (zs_38 hS) (rf_38_0 hR) ?_
          refine zt_iload_n dX11_wordAt_83 rfl ?_
          refine zt_iload dX11_wordAt_84 rfl ?_
          refine zt_iadd dX11_wordAt_86 ?_
          refine zt_baload dX11_wordAt_87 (zs_39 hS) (by decide) (by omega) (by omega) ?_
          have hc3 := hw (s + 3) (by omega) (by omega)
          refine zt_icmp_ne (tgt := 95) dX11_wordAt_88 (by decide) (by decide) (zbyte (hm.byte (zs_39 hS) (by omega) (by omega))) (fun c_88 => ?_) (fun c_88 => ?_)
          · refine zt_iconst dX11_wordAt_95 ?_
            refine zt_istore_6 dX11_wordAt_96 (by decide) rfl ?_
            refine zt_iincv_7 (v := 4) dX11_wordAt_98 (by decide) rfl (by decide) ?_
            refine zt_goto (tgt := 57) dX11_wordAt_101 (by decide) ?_
            refine zt_iload dX11_wordAt_57 rfl ?_
            refine zt_iload dX11_wordAt_59 rfl ?_
            refine zt_icmp_ge (tgt := 104) dX11_wordAt_61 (by decide) (by decide) (by decide) (fun c_61 => ?_) (fun q => absurd q (by decide))
            refine zt_iload dX11_wordAt_104 rfl ?_
            refine zt_if_eq (tgt := 111) dX11_wordAt_106 (by decide) (by decide) (fun c_106 => ?_) (fun q => absurd q (by decide))
            refine zt_iincv_3 (v := 8) dX11_wordAt_111 (by decide) rfl (by decide) ?_
            refine zt_iload dX11_wordAt_114 rfl ?_
            refine zt_iload dX11_wordAt_116 rfl ?_
            refine zt_iconst dX11_wordAt_118 ?_
            refine zt_iadd dX11_wordAt_119 ?_
            refine zt_topv (v := 5) (by decide) ?_
            refine zt_iadd dX11_wordAt_120 ?_
            refine zt_topv (v := 36) (by decide) ?_
            refine zt_istore_4 dX11_wordAt_121 (by decide) rfl ?_
            refine zt_goto (tgt := 5) dX11_wordAt_123 (by decide) ?_
            refine zt_kill_5 ?_
            refine zt_kill_6 ?_
            refine zt_kill_7 ?_
            exact l_wd8 hS hR hse hw n0 n1 n2 n3 n4 n5 n6 (fun z => by have z := z.2 3 (by decide) (by decide); rw [show zsb 7 3 = 101 by decide] at z; omega)
          · refine zt_iconst dX11_wordAt_91 ?_
            refine zt_goto (tgt := 96) dX11_wordAt_92 (by decide) ?_
            refine zt_istore_6 dX11_wordAt_96 (by decide) rfl ?_
            refine zt_iincv_7 (v := 4) dX11_wordAt_98 (by decide) rfl (by decide) ?_
            refine zt_goto (tgt := 57) dX11_wordAt_101 (by decide) ?_
            refine zt_iload dX11_wordAt_57 rfl ?_
            refine zt_iload dX11_wordAt_59 rfl ?_
            refine zt_icmp_ge (tgt := 104) dX11_wordAt_61 (by decide) (by decide) (by decide) (fun c_61 => ?_) (fun q => absurd q (by decide))
            refine zt_iload dX11_wordAt_104 rfl ?_
            refine zt_if_eq (tgt := 111) dX11_wordAt_106 (by decide) (by decide) (fun q => absurd q (by decide)) (fun c_106 => ?_)
            refine zt_iload_n dX11_wordAt_109 rfl ?_
            exact zt_iret dX11_wordAt_110 ⟨by rw [show wix T s e = 7 by unfold wix; rw [wit_f n0, wit_f n1, wit_f n2, wit_f n3, wit_f n4, wit_f n5, wit_f n6, wit_t (show isw T 7 s e from ⟨by show (4 : Int) = e - s; omega, fun j a b => by replace b : j < 4 := b; rcases (show j = 0 ∨ j = 1 ∨ j = 2 ∨ j = 3 by omega) with rfl | rfl | rfl | rfl <;> first | (rw [show zsb 7 0 = 101 by decide]; omega) | (rw [show zsb 7 1 = 108 by decide]; omega) | (rw [show zsb 7 2 = 115 by decide]; omega) | (rw [show zsb 7 3 = 101 by decide]; omega)⟩)]], rfl, rfl, rfl⟩

set_option maxRecDepth 100000 in
set_option maxHeartbeats 4000000 in
theorem l_wd6 {d n : Nat} {sh : zSh} {h : zMem} {s e : Int} {T : Int → Int} (hS : zShp sh) (hR : zRf h) (hse : (0 ≤ s ∧ s ≤ e) ∧ e ≤ 200) (hw : ∀ j, s ≤ j → j < e → h 39 j = T j) (n0 : ¬ isw T 0 s e) (n1 : ¬ isw T 1 s e) (n2 : ¬ isw T 2 s e) (n3 : ¬ isw T 3 s e) (n4 : ¬ isw T 4 s e) (n5 : ¬ isw T 5 s e) : zT yX11_wordAt cX11_wordAt 8 (some .int) (d + 4) 0 0 (zq (some (0, wix T s e)) n sh h) 5 [some (2, 38), some (0, s), some (0, e), some (0, 6), some (0, 26), none, none, none] [] n sh h := by
  refine zt_rg (fun hm => ?_)
  refine zt_iload dX11_wordAt_5 rfl ?_
  refine zt_ldcs (i := 9) (v := -20) dX11_wordAt_7 ⟨rfl, by decide⟩ ⟨rfl, rfl⟩ ?_
  refine zt_callVS0r dX11_wordAt_9 ml_X11_149 (i := 9) ⟨rfl, by decide⟩ (Nat.le_of_ble_eq_true rfl) (zF.of_eq (r' := some (0, 36)) rfl rfl rfl rfl (c_slen (i := 9) ⟨rfl, by decide⟩)) ?_
  refine zt_icmp_ge (tgt := 126) dX11_wordAt_12 (by decide) (by decide) (by decide) (fun q => absurd q (by decide)) (fun c_12 => ?_)
  refine zt_iconst dX11_wordAt_15 ?_
  refine zt_istore_5 dX11_wordAt_16 (by decide) rfl ?_
  refine zt_ldcs (i := 9) (v := -20) dX11_wordAt_18 ⟨rfl, by decide⟩ ⟨rfl, rfl⟩ ?_
  refine zt_iload dX11_wordAt_20 rfl ?_
  refine zt_iload dX11_wordAt_22 rfl ?_
  refine zt_iadd dX11_wordAt_24 ?_
  refine zt_topv (v := 26) (by decide) ?_
  refine zt_callVS1r dX11_wordAt_25 ml_X11_155 (i := 9) ⟨rfl, by decide⟩ (Nat.le_of_ble_eq_true rfl) (zF.of_eq (r' := some (0, 116)) (by decide) rfl rfl rfl (c_sch (i := 9) (k := 26) ⟨rfl, by decide⟩ (by decide))) ?_
  refine zt_bipush dX11_wordAt_28 (by decide) ?_
  refine zt_icmp_eq (tgt := 39) dX11_wordAt_30 (by decide) (by decide) (by decide) (fun q => absurd q (by decide)) (fun c_30 => ?_)
  refine zt_iincv_5 (v := 1) dX11_wordAt_33 (by decide) rfl (by decide) ?_
  refine zt_goto (tgt := 18) dX11_wordAt_36 (by decide) ?_
  refine zt_ldcs (i := 9) (v := -20) dX11_wordAt_18 ⟨rfl, by decide⟩ ⟨rfl, rfl⟩ ?_
  refine zt_iload dX11_wordAt_20 rfl ?_
  refine zt_iload dX11_wordAt_22 rfl ?_
  refine zt_iadd dX11_wordAt_24 ?_
  refine zt_topv (v := 27) (by decide) ?_
  refine zt_callVS1r dX11_wordAt_25 ml_X11_155 (i := 9) ⟨rfl, by decide⟩ (Nat.le_of_ble_eq_true rfl) (zF.of_eq (r' := some (0, 104)) (by decide) rfl rfl rfl (c_sch (i := 9) (k := 27) ⟨rfl, by decide⟩ (by decide))) ?_
  refine zt_bipush dX11_wordAt_28 (by decide) ?_
  refine zt_icmp_eq (tgt := 39) dX11_wordAt_30 (by decide) (by decide) (by decide) (fun q => absurd q (by decide)) (fun c_30 => ?_)
  refine zt_iincv_5 (v := 2) dX11_wordAt_33 (by decide) rfl (by decide) ?_
  refine zt_goto (tgt := 18) dX11_wordAt_36 (by decide) ?_
  refine zt_ldcs (i := 9) (v := -20) dX11_wordAt_18 ⟨rfl, by decide⟩ ⟨rfl, rfl⟩ ?_
  refine zt_iload dX11_wordAt_20 rfl ?_
  refine zt_iload dX11_wordAt_22 rfl ?_
  refine zt_iadd dX11_wordAt_24 ?_
  refine zt_topv (v := 28) (by decide) ?_
  refine zt_callVS1r dX11_wordAt_25 ml_X11_155 (i := 9) ⟨rfl, by decide⟩ (Nat.le_of_ble_eq_true rfl) (zF.of_eq (r' := some (0, 101)) (by decide) rfl rfl rfl (c_sch (i := 9) (k := 28) ⟨rfl, by decide⟩ (by decide))) ?_
  refine zt_bipush dX11_wordAt_28 (by decide) ?_
  refine zt_icmp_eq (tgt := 39) dX11_wordAt_30 (by decide) (by decide) (by decide) (fun q => absurd q (by decide)) (fun c_30 => ?_)
  refine zt_iincv_5 (v := 3) dX11_wordAt_33 (by decide) rfl (by decide) ?_
  refine zt_goto (tgt := 18) dX11_wordAt_36 (by decide) ?_
  refine zt_ldcs (i := 9) (v := -20) dX11_wordAt_18 ⟨rfl, by decide⟩ ⟨rfl, rfl⟩ ?_
  refine zt_iload dX11_wordAt_20 rfl ?_
  refine zt_iload dX11_wordAt_22 rfl ?_
  refine zt_iadd dX11_wordAt_24 ?_
  refine zt_topv (v := 29) (by decide) ?_
  refine zt_callVS1r dX11_wordAt_25 ml_X11_155 (i := 9) ⟨rfl, by decide⟩ (Nat.le_of_ble_eq_true rfl) (zF.of_eq (r' := some (0, 110)) (by decide) rfl rfl rfl (c_sch (i := 9) (k := 29) ⟨rfl, by decide⟩ (by decide))) ?_
  refine zt_bipush dX11_wordAt_28 (by decide) ?_
  refine zt_icmp_eq (tgt := 39) dX11_wordAt_30 (by decide) (by decide) (by decide) (fun q => absurd q (by decide)) (fun c_30 => ?_)
  refine zt_iincv_5 (v := 4) dX11_wordAt_33 (by decide) rfl (by decide) ?_
  refine zt_goto (tgt := 18) dX11_wordAt_36 (by decide) ?_
  refine zt_ldcs (i := 9) (v := -20) dX11_wordAt_18 ⟨rfl, by decide⟩ ⟨rfl, rfl⟩ ?_
  refine zt_iload dX11_wordAt_20 rfl ?_
  refine zt_iload dX11_wordAt_22 rfl ?_
  refine zt_iadd dX11_wordAt_24 ?_
  refine zt_topv (v := 30) (by decide) ?_
  refine zt_callVS1r dX11_wordAt_25 ml_X11_155 (i := 9) ⟨rfl, by decide⟩ (Nat.le_of_ble_eq_true rfl) (zF.of_eq (r' := some (0, 32)) (by decide) rfl rfl rfl (c_sch (i := 9) (k := 30) ⟨rfl, by decide⟩ (by decide))) ?_
  refine zt_bipush dX11_wordAt_28 (by decide) ?_
  refine zt_icmp_eq (tgt := 39) dX11_wordAt_30 (by decide) (by decide) (by decide) (fun c_30 => ?_) (fun q => absurd q (by decide))
  refine zt_iload dX11_wordAt_39 rfl ?_
  refine zt_iload_n dX11_wordAt_41 rfl ?_
  refine zt_iload_n dX11_wordAt_42 rfl ?_
  refine zt_isub dX11_wordAt_43 ?_
  refine zt_icmp_ne (tgt := 51) dX11_wordAt_44 (by decide) (by decide) (by omega) (fun c_44 => ?_) (fun c_44 => ?_)
  · refine zt_iconst dX11_wordAt_51 ?_
    refine zt_istore_6 dX11_wordAt_52 (by decide) rfl ?_
    refine zt_iconst dX11_wordAt_54 ?_
    refine zt_istore_7 dX11_wordAt_55 (by decide) rfl ?_
    refine zt_iload dX11_wordAt_57 rfl ?_
    refine zt_iload dX11_wordAt_59 rfl ?_
    refine zt_icmp_ge (tgt := 104) dX11_wordAt_61 (by decide) (by decide) (by decide) (fun q => absurd q (by decide)) (fun c_61 => ?_)
    refine zt_iload dX11_wordAt_64 rfl ?_
    refine zt_if_eq (tgt := 104) dX11_wordAt_66 (by decide) (by decide) (fun c_66 => ?_) (fun q => absurd q (by decide))
    refine zt_iload dX11_wordAt_104 rfl ?_
    refine zt_if_eq (tgt := 111) dX11_wordAt_106 (by decide) (by decide) (fun c_106 => ?_) (fun q => absurd q (by decide))
    refine zt_iincv_3 (v := 7) dX11_wordAt_111 (by decide) rfl (by decide) ?_
    refine zt_iload dX11_wordAt_114 rfl ?_
    refine zt_iload dX11_wordAt_116 rfl ?_
    refine zt_iconst dX11_wordAt_118 ?_
    refine zt_iadd dX11_wordAt_119 ?_
    refine zt_topv (v := 5) (by decide) ?_
    refine zt_iadd dX11_wordAt_120 ?_
    refine zt_topv (v := 31) (by decide) ?_
    refine zt_istore_4 dX11_wordAt_121 (by decide) rfl ?_
    refine zt_goto (tgt := 5) dX11_wordAt_123 (by decide) ?_
    refine zt_kill_5 ?_
    refine zt_kill_6 ?_
    refine zt_kill_7 ?_
    exact l_wd7 hS hR hse hw n0 n1 n2 n3 n4 n5 (fun z => by have z := z.1; replace z : (4 : Int) = e - s := z; omega)
  · refine zt_iconst dX11_wordAt_47 ?_
    refine zt_goto (tgt := 52) dX11_wordAt_48 (by decide) ?_
    refine zt_istore_6 dX11_wordAt_52 (by decide) rfl ?_
    refine zt_iconst dX11_wordAt_54 ?_
    refine zt_istore_7 dX11_wordAt_55 (by decide) rfl ?_
    refine zt_iload dX11_wordAt_57 rfl ?_
    refine zt_iload dX11_wordAt_59 rfl ?_
    refine zt_icmp_ge (tgt := 104) dX11_wordAt_61 (by decide) (by decide) (by decide) (fun q => absurd q (by decide)) (fun c_61 => ?_)
    refine zt_iload dX11_wordAt_64 rfl ?_
    refine zt_if_eq (tgt := 104) dX11_wordAt_66 (by decide) (by decide) (fun q => absurd q (by decide)) (fun c_66 => ?_)
    refine zt_ldcs (i := 9) (v := -20) dX11_wordAt_69 ⟨rfl, by decide⟩ ⟨rfl, rfl⟩ ?_
    refine zt_iload dX11_wordAt_71 rfl ?_
    refine zt_iload dX11_wordAt_73 rfl ?_
    refine zt_iadd dX11_wordAt_75 ?_
    refine zt_topv (v := 26) (by decide) ?_
    refine zt_callVS1r dX11_wordAt_76 ml_X11_155 (i := 9) ⟨rfl, by decide⟩ (Nat.le_of_ble_eq_true rfl) (zF.of_eq (r' := some (0, 116)) (by decide) rfl rfl rfl (c_sch (i := 9) (k := 26) ⟨rfl, by decide⟩ (by decide))) ?_
    refine zt_aload_n dX11_wordAt_79 rfl ?_
    refine zt_getv dX11_wordAt_80 fl_X11_9 (zs_38 hS) (rf_38_0 hR) ?_
    refine zt_iload_n dX11_wordAt_83 rfl ?_
    refine zt_iload dX11_wordAt_84 rfl ?_
    refine zt_iadd dX11_wordAt_86 ?_
    refine zt_baload dX11_wordAt_87 (zs_39 hS) (by decide) (by omega) (by omega) ?_
    have hc0 := hw (s + 0) (by omega) (by omega)
    refine zt_icmp_ne (tgt := 95) dX11_wordAt_88 (by decide) (by decide) (zbyte (hm.byte (zs_39 hS) (by omega) (by omega))) (fun c_88 => ?_) (fun c_88 => ?_)
    · refine zt_iconst dX11_wordAt_95 ?_
      refine zt_istore_6 dX11_wordAt_96 (by decide) rfl ?_
      refine zt_iincv_7 (v := 1) dX11_wordAt_98 (by decide) rfl (by decide) ?_
      refine zt_goto (tgt := 57) dX11_wordAt_101 (by decide) ?_
      refine zt_iload dX11_wordAt_57 rfl ?_
      refine zt_iload dX11_wordAt_59 rfl ?_
      refine zt_icmp_ge (tgt := 104) dX11_wordAt_61 (by decide) (by decide) (by decide) (fun q => absurd q (by decide)) (fun c_61 => ?_)
      refine zt_iload dX11_wordAt_64 rfl ?_
      refine zt_if_eq (tgt := 104) dX11_wordAt_66 (by decide) (by decide) (fun c_66 => ?_) (fun q => absurd q (by decide))
      refine zt_iload dX11_wordAt_104 rfl ?_
      refine zt_if_eq (tgt := 111) dX11_wordAt_106 (by decide) (by decide) (fun c_106 => ?_) (fun q => absurd q (by decide))
      refine zt_iincv_3 (v := 7) dX11_wordAt_111 (by decide) rfl (by decide) ?_
      refine zt_iload dX11_wordAt_114 rfl ?_
      refine zt_iload dX11_wordAt_116 rfl ?_
      refine zt_iconst dX11_wordAt_118 ?_
      refine zt_iadd dX11_wordAt_119 ?_
      refine zt_topv (v := 5) (by decide) ?_
      refine zt_iadd dX11_wordAt_120 ?_
      refine zt_topv (v := 31) (by decide) ?_
      refine zt_istore_4 dX11_wordAt_121 (by decide) rfl ?_
      refine zt_goto (tgt := 5) dX11_wordAt_123 (by decide) ?_
      refine zt_kill_5 ?_
      refine zt_kill_6 ?_
      refine zt_kill_7 ?_
      exact l_wd7 hS hR hse hw n0 n1 n2 n3 n4 n5 (fun z => by have z := z.2 0 (by decide) (by decide); rw [show zsb 6 0 = 116 by decide] at z; omega)
    · refine zt_iconst dX11_wordAt_91 ?_
      refine zt_goto (tgt := 96) dX11_wordAt_92 (by decide) ?_
      refine zt_istore_6 dX11_wordAt_96 (by decide) rfl ?_
      refine zt_iincv_7 (v := 1) dX11_wordAt_98 (by decide) rfl (by decide) ?_
      refine zt_goto (tgt := 57) dX11_wordAt_101 (by decide) ?_
      refine zt_iload dX11_wordAt_57 rfl ?_
      refine zt_iload dX11_wordAt_59 rfl ?_
      refine zt_icmp_ge (tgt := 104) dX11_wordAt_61 (by decide) (by decide) (by decide) (fun q => absurd q (by decide)) (fun c_61 => ?_)
      refine zt_iload dX11_wordAt_64 rfl ?_
      refine zt_if_eq (tgt := 104) dX11_wordAt_66 (by decide) (by decide) (fun q => absurd q (by decide)) (fun c_66 => ?_)
      refine zt_ldcs (i := 9) (v := -20) dX11_wordAt_69 ⟨rfl, by decide⟩ ⟨rfl, rfl⟩ ?_
      refine zt_iload dX11_wordAt_71 rfl ?_
      refine zt_iload dX11_wordAt_73 rfl ?_
      refine zt_iadd dX11_wordAt_75 ?_
      refine zt_topv (v := 27) (by decide) ?_
      refine zt_callVS1r dX11_wordAt_76 ml_X11_155 (i := 9) ⟨rfl, by decide⟩ (Nat.le_of_ble_eq_true rfl) (zF.of_eq (r' := some (0, 104)) (by decide) rfl rfl rfl (c_sch (i := 9) (k := 27) ⟨rfl, by decide⟩ (by decide))) ?_
      refine zt_aload_n dX11_wordAt_79 rfl ?_
      refine zt_getv dX11_wordAt_80 fl_X11_9 (zs_38 hS) (rf_38_0 hR) ?_
      refine zt_iload_n dX11_wordAt_83 rfl ?_
      refine zt_iload dX11_wordAt_84 rfl ?_
      refine zt_iadd dX11_wordAt_86 ?_
      refine zt_baload dX11_wordAt_87 (zs_39 hS) (by decide) (by omega) (by omega) ?_
      have hc1 := hw (s + 1) (by omega) (by omega)
      refine zt_icmp_ne (tgt := 95) dX11_wordAt_88 (by decide) (by decide) (zbyte (hm.byte (zs_39 hS) (by omega) (by omega))) (fun c_88 => ?_) (fun c_88 => ?_)
      · refine zt_iconst dX11_wordAt_95 ?_
        refine zt_istore_6 dX11_wordAt_96 (by decide) rfl ?_
        refine zt_iincv_7 (v := 2) dX11_wordAt_98 (by decide) rfl (by decide) ?_
        refine zt_goto (tgt := 57) dX11_wordAt_101 (by decide) ?_
        refine zt_iload dX11_wordAt_57 rfl ?_
        refine zt_iload dX11_wordAt_59 rfl ?_
        refine zt_icmp_ge (tgt := 104) dX11_wordAt_61 (by decide) (by decide) (by decide) (fun q => absurd q (by decide)) (fun c_61 => ?_)
        refine zt_iload dX11_wordAt_64 rfl ?_
        refine zt_if_eq (tgt := 104) dX11_wordAt_66 (by decide) (by decide) (fun c_66 => ?_) (fun q => absurd q (by decide))
        refine zt_iload dX11_wordAt_104 rfl ?_
        refine zt_if_eq (tgt := 111) dX11_wordAt_106 (by decide) (by decide) (fun c_106 => ?_) (fun q => absurd q (by decide))
        refine zt_iincv_3 (v := 7) dX11_wordAt_111 (by decide) rfl (by decide) ?_
        refine zt_iload dX11_wordAt_114 rfl ?_
        refine zt_iload dX11_wordAt_116 rfl ?_
        refine zt_iconst dX11_wordAt_118 ?_
        refine zt_iadd dX11_wordAt_119 ?_
        refine zt_topv (v := 5) (by decide) ?_
        refine zt_iadd dX11_wordAt_120 ?_
        refine zt_topv (v := 31) (by decide) ?_
        refine zt_istore_4 dX11_wordAt_121 (by decide) rfl ?_
        refine zt_goto (tgt := 5) dX11_wordAt_123 (by decide) ?_
        refine zt_kill_5 ?_
        refine zt_kill_6 ?_
        refine zt_kill_7 ?_
        exact l_wd7 hS hR hse hw n0 n1 n2 n3 n4 n5 (fun z => by have z := z.2 1 (by decide) (by decide); rw [show zsb 6 1 = 104 by decide] at z; omega)
      · refine zt_iconst dX11_wordAt_91 ?_
        refine zt_goto (tgt := 96) dX11_wordAt_92 (by decide) ?_
        refine zt_istore_6 dX11_wordAt_96 (by decide) rfl ?_
        refine zt_iincv_7 (v := 2) dX11_wordAt_98 (by decide) rfl (by decide) ?_
        refine zt_goto (tgt := 57) dX11_wordAt_101 (by decide) ?_
        refine zt_iload dX11_wordAt_57 rfl ?_
        refine zt_iload dX11_wordAt_59 rfl ?_
        refine zt_icmp_ge (tgt := 104) dX11_wordAt_61 (by decide) (by decide) (by decide) (fun q => absurd q (by decide)) (fun c_61 => ?_)
        refine zt_iload dX11_wordAt_64 rfl ?_
        refine zt_if_eq (tgt := 104) dX11_wordAt_66 (by decide) (by decide) (fun q => absurd q (by decide)) (fun c_66 => ?_)
        refine zt_ldcs (i := 9) (v := -20) dX11_wordAt_69 ⟨rfl, by decide⟩ ⟨rfl, rfl⟩ ?_
        refine zt_iload dX11_wordAt_71 rfl ?_
        refine zt_iload dX11_wordAt_73 rfl ?_
        refine zt_iadd dX11_wordAt_75 ?_
        refine zt_topv (v := 28) (by decide) ?_
        refine zt_callVS1r dX11_wordAt_76 ml_X11_155 (i := 9) ⟨rfl, by decide⟩ (Nat.le_of_ble_eq_true rfl) (zF.of_eq (r' := some (0, 101)) (by decide) rfl rfl rfl (c_sch (i := 9) (k := 28) ⟨rfl, by decide⟩ (by decide))) ?_
        refine zt_aload_n dX11_wordAt_79 rfl ?_
        refine zt_getv dX11_wordAt_80 fl_X11_9 (zs_38 hS) (rf_38_0 hR) ?_
        refine zt_iload_n dX11_wordAt_83 rfl ?_
        refine zt_iload dX11_wordAt_84 rfl ?_
        refine zt_iadd dX11_wordAt_86 ?_
        refine zt_baload dX11_wordAt_87 (zs_39 hS) (by decide) (by omega) (by omega) ?_
        have hc2 := hw (s + 2) (by omega) (by omega)
        refine zt_icmp_ne (tgt := 95) dX11_wordAt_88 (by decide) (by decide) (zbyte (hm.byte (zs_39 hS) (by omega) (by omega))) (fun c_88 => ?_) (fun c_88 => ?_)
        · refine zt_iconst dX11_wordAt_95 ?_
          refine zt_istore_6 dX11_wordAt_96 (by decide) rfl ?_
          refine zt_iincv_7 (v := 3) dX11_wordAt_98 (by decide) rfl (by decide) ?_
          refine zt_goto (tgt := 57) dX11_wordAt_101 (by decide) ?_
          refine zt_iload dX11_wordAt_57 rfl ?_
          refine zt_iload dX11_wordAt_59 rfl ?_
          refine zt_icmp_ge (tgt := 104) dX11_wordAt_61 (by decide) (by decide) (by decide) (fun q => absurd q (by decide)) (fun c_61 => ?_)
          refine zt_iload dX11_wordAt_64 rfl ?_
          refine zt_if_eq (tgt := 104) dX11_wordAt_66 (by decide) (by decide) (fun c_66 => ?_) (fun q => absurd q (by decide))
          refine zt_iload dX11_wordAt_104 rfl ?_
          refine zt_if_eq (tgt := 111) dX11_wordAt_106 (by decide) (by decide) (fun c_106 => ?_) (fun q => absurd q (by decide))
          refine zt_iincv_3 (v := 7) dX11_wordAt_111 (by decide) rfl (by decide) ?_
          refine zt_iload dX11_wordAt_114 rfl ?_
          refine zt_iload dX11_wordAt_116 rfl ?_
          refine zt_iconst dX11_wordAt_118 ?_
          refine zt_iadd dX11_wordAt_119 ?_
          refine zt_topv (v := 5) (by decide) ?_
          refine zt_iadd dX11_wordAt_120 ?_
          refine zt_topv (v := 31) (by decide) ?_
          refine zt_istore_4 dX11_wordAt_121 (by decide) rfl ?_
          refine zt_goto (tgt := 5) dX11_wordAt_123 (by decide) ?_
          refine zt_kill_5 ?_
          refine zt_kill_6 ?_
          refine zt_kill_7 ?_
          exact l_wd7 hS hR hse hw n0 n1 n2 n3 n4 n5 (fun z => by have z := z.2 2 (by decide) (by decide); rw [show zsb 6 2 = 101 by decide] at z; omega)
        · refine zt_iconst dX11_wordAt_91 ?_
          refine zt_goto (tgt := 96) dX11_wordAt_92 (by decide) ?_
          refine zt_istore_6 dX11_wordAt_96 (by decide) rfl ?_
          refine zt_iincv_7 (v := 3) dX11_wordAt_98 (by decide) rfl (by decide) ?_
          refine zt_goto (tgt := 57) dX11_wordAt_101 (by decide) ?_
          refine zt_iload dX11_wordAt_57 rfl ?_
          refine zt_iload dX11_wordAt_59 rfl ?_
          refine zt_icmp_ge (tgt := 104) dX11_wordAt_61 (by decide) (by decide) (by decide) (fun q => absurd q (by decide)) (fun c_61 => ?_)
          refine zt_iload dX11_wordAt_64 rfl ?_
          refine zt_if_eq (tgt := 104) dX11_wordAt_66 (by decide) (by decide) (fun q => absurd q (by decide)) (fun c_66 => ?_)
          refine zt_ldcs (i := 9) (v := -20) dX11_wordAt_69 ⟨rfl, by decide⟩ ⟨rfl, rfl⟩ ?_
          refine zt_iload dX11_wordAt_71 rfl ?_
          refine zt_iload dX11_wordAt_73 rfl ?_
          refine zt_iadd dX11_wordAt_75 ?_
          refine zt_topv (v := 29) (by decide) ?_
          refine zt_callVS1r dX11_wordAt_76 ml_X11_155 (i := 9) ⟨rfl, by decide⟩ (Nat.le_of_ble_eq_true rfl) (zF.of_eq (r' := some (0, 110)) (by decide) rfl rfl rfl (c_sch (i := 9) (k := 29) ⟨rfl, by decide⟩ (by decide))) ?_
          refine zt_aload_n dX11_wordAt_79 rfl ?_
          refine zt_getv dX11_wordAt_80 fl_X11_9 (zs_38 hS) (rf_38_0 hR) ?_
          refine zt_iload_n dX11_wordAt_83 rfl ?_
          refine zt_iload dX11_wordAt_84 rfl ?_
          refine zt_iadd dX11_wordAt_86 ?_
          refine zt_baload dX11_wordAt_87 (zs_39 hS) (by decide) (by omega) (by omega) ?_
          have hc3 := hw (s + 3) (by omega) (by omega)
          refine zt_icmp_ne (tgt := 95) dX11_wordAt_88 (by decide) (by decide) (zbyte (hm.byte (zs_39 hS) (by omega) (by omega))) (fun c_88 => ?_) (fun c_88 => ?_)
          · refine zt_iconst dX11_wordAt_95 ?_
            refine zt_istore_6 dX11_wordAt_96 (by decide) rfl ?_
            refine zt_iincv_7 (v := 4) dX11_wordAt_98 (by decide) rfl (by decide) ?_
            refine zt_goto (tgt := 57) dX11_wordAt_101 (by decide) ?_
            refine zt_iload dX11_wordAt_57 rfl ?_
            refine zt_iload dX11_wordAt_59 rfl ?_
            refine zt_icmp_ge (tgt := 104) dX11_wordAt_61 (by decide) (by decide) (by decide) (fun c_61 => ?_) (fun q => absurd q (by decide))
            refine zt_iload dX11_wordAt_104 rfl ?_
            refine zt_if_eq (tgt := 111) dX11_wordAt_106 (by decide) (by decide) (fun c_106 => ?_) (fun q => absurd q (by decide))
            refine zt_iincv_3 (v := 7) dX11_wordAt_111 (by decide) rfl (by decide) ?_
            refine zt_iload dX11_wordAt_114 rfl ?_
            refine zt_iload dX11_wordAt_116 rfl ?_
            refine zt_iconst dX11_wordAt_118 ?_
            refine zt_iadd dX11_wordAt_119 ?_
            refine zt_topv (v := 5) (by decide) ?_
            refine zt_iadd dX11_wordAt_120 ?_
            refine zt_topv (v := 31) (by decide) ?_
            refine zt_istore_4 dX11_wordAt_121 (by decide) rfl ?_
            refine zt_goto (tgt := 5) dX11_wordAt_123 (by decide) ?_
            refine zt_kill_5 ?_
            refine zt_kill_6 ?_
            refine zt_kill_7 ?_
            exact l_wd7 hS hR hse hw n0 n1 n2 n3 n4 n5 (fun z => by have z := z.2 3 (by decide) (by decide); rw [show zsb 6 3 = 110 by decide] at z; omega)
          · refine zt_iconst dX11_wordAt_91 ?_
            refine zt_goto (tgt := 96) dX11_wordAt_92 (by decide) ?_
            refine zt_istore_6 dX11_wordAt_96 (by decide) rfl ?_
            refine zt_iincv_7 (v := 4) dX11_wordAt_98 (by decide) rfl (by decide) ?_
            refine zt_goto (tgt := 57) dX11_wordAt_101 (by decide) ?_
            refine zt_iload dX11_wordAt_57 rfl ?_
            refine zt_iload dX11_wordAt_59 rfl ?_
            refine zt_icmp_ge (tgt := 104) dX11_wordAt_61 (by decide) (by decide) (by decide) (fun c_61 => ?_) (fun q => absurd q (by decide))
            refine zt_iload dX11_wordAt_104 rfl ?_
            refine zt_if_eq (tgt := 111) dX11_wordAt_106 (by decide) (by decide) (fun q => absurd q (by decide)) (fun c_106 => ?_)
            refine zt_iload_n dX11_wordAt_109 rfl ?_
            exact zt_iret dX11_wordAt_110 ⟨by rw [show wix T s e = 6 by unfold wix; rw [wit_f n0, wit_f n1, wit_f n2, wit_f n3, wit_f n4, wit_f n5, wit_t (show isw T 6 s e from ⟨by show (4 : Int) = e - s; omega, fun j a b => by replace b : j < 4 := b; rcases (show j = 0 ∨ j = 1 ∨ j = 2 ∨ j = 3 by omega) with rfl | rfl | rfl | rfl <;> first | (rw [show zsb 6 0 = 116 by decide]; omega) | (rw [show zsb 6 1 = 104 by decide]; omega) | (rw [show zsb 6 2 = 101 by decide]; omega) | (rw [show zsb 6 3 = 110 by decide]; omega)⟩)]], rfl, rfl, rfl⟩

set_option maxRecDepth 100000 in
set_option maxHeartbeats 4000000 in
theorem l_wd5 {d n : Nat} {sh : zSh} {h : zMem} {s e : Int} {T : Int → Int} (hS : zShp sh) (hR : zRf h) (hse : (0 ≤ s ∧ s ≤ e) ∧ e ≤ 200) (hw : ∀ j, s ≤ j → j < e → h 39 j = T j) (n0 : ¬ isw T 0 s e) (n1 : ¬ isw T 1 s e) (n2 : ¬ isw T 2 s e) (n3 : ¬ isw T 3 s e) (n4 : ¬ isw T 4 s e) : zT yX11_wordAt cX11_wordAt 8 (some .int) (d + 4) 0 0 (zq (some (0, wix T s e)) n sh h) 5 [some (2, 38), some (0, s), some (0, e), some (0, 5), some (0, 23), none, none, none] [] n sh h := by
  refine zt_rg (fun hm => ?_)
  refine zt_iload dX11_wordAt_5 rfl ?_
  refine zt_ldcs (i := 9) (v := -20) dX11_wordAt_7 ⟨rfl, by decide⟩ ⟨rfl, rfl⟩ ?_
  refine zt_callVS0r dX11_wordAt_9 ml_X11_149 (i := 9) ⟨rfl, by decide⟩ (Nat.le_of_ble_eq_true rfl) (zF.of_eq (r' := some (0, 36)) rfl rfl rfl rfl (c_slen (i := 9) ⟨rfl, by decide⟩)) ?_
  refine zt_icmp_ge (tgt := 126) dX11_wordAt_12 (by decide) (by decide) (by decide) (fun q => absurd q (by decide)) (fun c_12 => ?_)
  refine zt_iconst dX11_wordAt_15 ?_
  refine zt_istore_5 dX11_wordAt_16 (by decide) rfl ?_
  refine zt_ldcs (i := 9) (v := -20) dX11_wordAt_18 ⟨rfl, by decide⟩ ⟨rfl, rfl⟩ ?_
  refine zt_iload dX11_wordAt_20 rfl ?_
  refine zt_iload dX11_wordAt_22 rfl ?_
  refine zt_iadd dX11_wordAt_24 ?_
  refine zt_topv (v := 23) (by decide) ?_
  refine zt_callVS1r dX11_wordAt_25 ml_X11_155 (i := 9) ⟨rfl, by decide⟩ (Nat.le_of_ble_eq_true rfl) (zF.of_eq (r' := some (0, 105)) (by decide) rfl rfl rfl (c_sch (i := 9) (k := 23) ⟨rfl, by decide⟩ (by decide))) ?_
  refine zt_bipush dX11_wordAt_28 (by decide) ?_
  refine zt_icmp_eq (tgt := 39) dX11_wordAt_30 (by decide) (by decide) (by decide) (fun q => absurd q (by decide)) (fun c_30 => ?_)
  refine zt_iincv_5 (v := 1) dX11_wordAt_33 (by decide) rfl (by decide) ?_
  refine zt_goto (tgt := 18) dX11_wordAt_36 (by decide) ?_
  refine zt_ldcs (i := 9) (v := -20) dX11_wordAt_18 ⟨rfl, by decide⟩ ⟨rfl, rfl⟩ ?_
  refine zt_iload dX11_wordAt_20 rfl ?_
  refine zt_iload dX11_wordAt_22 rfl ?_
  refine zt_iadd dX11_wordAt_24 ?_
  refine zt_topv (v := 24) (by decide) ?_
  refine zt_callVS1r dX11_wordAt_25 ml_X11_155 (i := 9) ⟨rfl, by decide⟩ (Nat.le_of_ble_eq_true rfl) (zF.of_eq (r' := some (0, 102)) (by decide) rfl rfl rfl (c_sch (i := 9) (k := 24) ⟨rfl, by decide⟩ (by decide))) ?_
  refine zt_bipush dX11_wordAt_28 (by decide) ?_
  refine zt_icmp_eq (tgt := 39) dX11_wordAt_30 (by decide) (by decide) (by decide) (fun q => absurd q (by decide)) (fun c_30 => ?_)
  refine zt_iincv_5 (v := 2) dX11_wordAt_33 (by decide) rfl (by decide) ?_
  refine zt_goto (tgt := 18) dX11_wordAt_36 (by decide) ?_
  refine zt_ldcs (i := 9) (v := -20) dX11_wordAt_18 ⟨rfl, by decide⟩ ⟨rfl, rfl⟩ ?_
  refine zt_iload dX11_wordAt_20 rfl ?_
  refine zt_iload dX11_wordAt_22 rfl ?_
  refine zt_iadd dX11_wordAt_24 ?_
  refine zt_topv (v := 25) (by decide) ?_
  refine zt_callVS1r dX11_wordAt_25 ml_X11_155 (i := 9) ⟨rfl, by decide⟩ (Nat.le_of_ble_eq_true rfl) (zF.of_eq (r' := some (0, 32)) (by decide) rfl rfl rfl (c_sch (i := 9) (k := 25) ⟨rfl, by decide⟩ (by decide))) ?_
  refine zt_bipush dX11_wordAt_28 (by decide) ?_
  refine zt_icmp_eq (tgt := 39) dX11_wordAt_30 (by decide) (by decide) (by decide) (fun c_30 => ?_) (fun q => absurd q (by decide))
  refine zt_iload dX11_wordAt_39 rfl ?_
  refine zt_iload_n dX11_wordAt_41 rfl ?_
  refine zt_iload_n dX11_wordAt_42 rfl ?_
  refine zt_isub dX11_wordAt_43 ?_
  refine zt_icmp_ne (tgt := 51) dX11_wordAt_44 (by decide) (by decide) (by omega) (fun c_44 => ?_) (fun c_44 => ?_)
  · refine zt_iconst dX11_wordAt_51 ?_
    refine zt_istore_6 dX11_wordAt_52 (by decide) rfl ?_
    refine zt_iconst dX11_wordAt_54 ?_
    refine zt_istore_7 dX11_wordAt_55 (by decide) rfl ?_
    refine zt_iload dX11_wordAt_57 rfl ?_
    refine zt_iload dX11_wordAt_59 rfl ?_
    refine zt_icmp_ge (tgt := 104) dX11_wordAt_61 (by decide) (by decide) (by decide) (fun q => absurd q (by decide)) (fun c_61 => ?_)
    refine zt_iload dX11_wordAt_64 rfl ?_
    refine zt_if_eq (tgt := 104) dX11_wordAt_66 (by decide) (by decide) (fun c_66 => ?_) (fun q => absurd q (by decide))
    refine zt_iload dX11_wordAt_104 rfl ?_
    refine zt_if_eq (tgt := 111) dX11_wordAt_106 (by decide) (by decide) (fun c_106 => ?_) (fun q => absurd q (by decide))
    refine zt_iincv_3 (v := 6) dX11_wordAt_111 (by decide) rfl (by decide) ?_
    refine zt_iload dX11_wordAt_114 rfl ?_
    refine zt_iload dX11_wordAt_116 rfl ?_
    refine zt_iconst dX11_wordAt_118 ?_
    refine zt_iadd dX11_wordAt_119 ?_
    refine zt_topv (v := 3) (by decide) ?_
    refine zt_iadd dX11_wordAt_120 ?_
    refine zt_topv (v := 26) (by decide) ?_
    refine zt_istore_4 dX11_wordAt_121 (by decide) rfl ?_
    refine zt_goto (tgt := 5) dX11_wordAt_123 (by decide) ?_
    refine zt_kill_5 ?_
    refine zt_kill_6 ?_
    refine zt_kill_7 ?_
    exact l_wd6 hS hR hse hw n0 n1 n2 n3 n4 (fun z => by have z := z.1; replace z : (2 : Int) = e - s := z; omega)
  · refine zt_iconst dX11_wordAt_47 ?_
    refine zt_goto (tgt := 52) dX11_wordAt_48 (by decide) ?_
    refine zt_istore_6 dX11_wordAt_52 (by decide) rfl ?_
    refine zt_iconst dX11_wordAt_54 ?_
    refine zt_istore_7 dX11_wordAt_55 (by decide) rfl ?_
    refine zt_iload dX11_wordAt_57 rfl ?_
    refine zt_iload dX11_wordAt_59 rfl ?_
    refine zt_icmp_ge (tgt := 104) dX11_wordAt_61 (by decide) (by decide) (by decide) (fun q => absurd q (by decide)) (fun c_61 => ?_)
    refine zt_iload dX11_wordAt_64 rfl ?_
    refine zt_if_eq (tgt := 104) dX11_wordAt_66 (by decide) (by decide) (fun q => absurd q (by decide)) (fun c_66 => ?_)
    refine zt_ldcs (i := 9) (v := -20) dX11_wordAt_69 ⟨rfl, by decide⟩ ⟨rfl, rfl⟩ ?_
    refine zt_iload dX11_wordAt_71 rfl ?_
    refine zt_iload dX11_wordAt_73 rfl ?_
    refine zt_iadd dX11_wordAt_75 ?_
    refine zt_topv (v := 23) (by decide) ?_
    refine zt_callVS1r dX11_wordAt_76 ml_X11_155 (i := 9) ⟨rfl, by decide⟩ (Nat.le_of_ble_eq_true rfl) (zF.of_eq (r' := some (0, 105)) (by decide) rfl rfl rfl (c_sch (i := 9) (k := 23) ⟨rfl, by decide⟩ (by decide))) ?_
    refine zt_aload_n dX11_wordAt_79 rfl ?_
    refine zt_getv dX11_wordAt_80 fl_X11_9 (zs_38 hS) (rf_38_0 hR) ?_
    refine zt_iload_n dX11_wordAt_83 rfl ?_
    refine zt_iload dX11_wordAt_84 rfl ?_
    refine zt_iadd dX11_wordAt_86 ?_
    refine zt_baload dX11_wordAt_87 (zs_39 hS) (by decide) (by omega) (by omega) ?_
    have hc0 := hw (s + 0) (by omega) (by omega)
    refine zt_icmp_ne (tgt := 95) dX11_wordAt_88 (by decide) (by decide) (zbyte (hm.byte (zs_39 hS) (by omega) (by omega))) (fun c_88 => ?_) (fun c_88 => ?_)
    · refine zt_iconst dX11_wordAt_95 ?_
      refine zt_istore_6 dX11_wordAt_96 (by decide) rfl ?_
      refine zt_iincv_7 (v := 1) dX11_wordAt_98 (by decide) rfl (by decide) ?_
      refine zt_goto (tgt := 57) dX11_wordAt_101 (by decide) ?_
      refine zt_iload dX11_wordAt_57 rfl ?_
      refine zt_iload dX11_wordAt_59 rfl ?_
      refine zt_icmp_ge (tgt := 104) dX11_wordAt_61 (by decide) (by decide) (by decide) (fun q => absurd q (by decide)) (fun c_61 => ?_)
      refine zt_iload dX11_wordAt_64 rfl ?_
      refine zt_if_eq (tgt := 104) dX11_wordAt_66 (by decide) (by decide) (fun c_66 => ?_) (fun q => absurd q (by decide))
      refine zt_iload dX11_wordAt_104 rfl ?_
      refine zt_if_eq (tgt := 111) dX11_wordAt_106 (by decide) (by decide) (fun c_106 => ?_) (fun q => absurd q (by decide))
      refine zt_iincv_3 (v := 6) dX11_wordAt_111 (by decide) rfl (by decide) ?_
      refine zt_iload dX11_wordAt_114 rfl ?_
      refine zt_iload dX11_wordAt_116 rfl ?_
      refine zt_iconst dX11_wordAt_118 ?_
      refine zt_iadd dX11_wordAt_119 ?_
      refine zt_topv (v := 3) (by decide) ?_
      refine zt_iadd dX11_wordAt_120 ?_
      refine zt_topv (v := 26) (by decide) ?_
      refine zt_istore_4 dX11_wordAt_121 (by decide) rfl ?_
      refine zt_goto (tgt := 5) dX11_wordAt_123 (by decide) ?_
      refine zt_kill_5 ?_
      refine zt_kill_6 ?_
      refine zt_kill_7 ?_
      exact l_wd6 hS hR hse hw n0 n1 n2 n3 n4 (fun z => by have z := z.2 0 (by decide) (by decide); rw [show zsb 5 0 = 105 by decide] at z; omega)
    · refine zt_iconst dX11_wordAt_91 ?_
      refine zt_goto (tgt := 96) dX11_wordAt_92 (by decide) ?_
      refine zt_istore_6 dX11_wordAt_96 (by decide) rfl ?_
      refine zt_iincv_7 (v := 1) dX11_wordAt_98 (by decide) rfl (by decide) ?_
      refine zt_goto (tgt := 57) dX11_wordAt_101 (by decide) ?_
      refine zt_iload dX11_wordAt_57 rfl ?_
      refine zt_iload dX11_wordAt_59 rfl ?_
      refine zt_icmp_ge (tgt := 104) dX11_wordAt_61 (by decide) (by decide) (by decide) (fun q => absurd q (by decide)) (fun c_61 => ?_)
      refine zt_iload dX11_wordAt_64 rfl ?_
      refine zt_if_eq (tgt := 104) dX11_wordAt_66 (by decide) (by decide) (fun q => absurd q (by decide)) (fun c_66 => ?_)
      refine zt_ldcs (i := 9) (v := -20) dX11_wordAt_69 ⟨rfl, by decide⟩ ⟨rfl, rfl⟩ ?_
      refine zt_iload dX11_wordAt_71 rfl ?_
      refine zt_iload dX11_wordAt_73 rfl ?_
      refine zt_iadd dX11_wordAt_75 ?_
      refine zt_topv (v := 24) (by decide) ?_
      refine zt_callVS1r dX11_wordAt_76 ml_X11_155 (i := 9) ⟨rfl, by decide⟩ (Nat.le_of_ble_eq_true rfl) (zF.of_eq (r' := some (0, 102)) (by decide) rfl rfl rfl (c_sch (i := 9) (k := 24) ⟨rfl, by decide⟩ (by decide))) ?_
      refine zt_aload_n dX11_wordAt_79 rfl ?_
      refine zt_getv dX11_wordAt_80 fl_X11_9 (zs_38 hS) (rf_38_0 hR) ?_
      refine zt_iload_n dX11_wordAt_83 rfl ?_
      refine zt_iload dX11_wordAt_84 rfl ?_
      refine zt_iadd dX11_wordAt_86 ?_
      refine zt_baload dX11_wordAt_87 (zs_39 hS) (by decide) (by omega) (by omega) ?_
      have hc1 := hw (s + 1) (by omega) (by omega)
      refine zt_icmp_ne (tgt := 95) dX11_wordAt_88 (by decide) (by decide) (zbyte (hm.byte (zs_39 hS) (by omega) (by omega))) (fun c_88 => ?_) (fun c_88 => ?_)
      · refine zt_iconst dX11_wordAt_95 ?_
        refine zt_istore_6 dX11_wordAt_96 (by decide) rfl ?_
        refine zt_iincv_7 (v := 2) dX11_wordAt_98 (by decide) rfl (by decide) ?_
        refine zt_goto (tgt := 57) dX11_wordAt_101 (by decide) ?_
        refine zt_iload dX11_wordAt_57 rfl ?_
        refine zt_iload dX11_wordAt_59 rfl ?_
        refine zt_icmp_ge (tgt := 104) dX11_wordAt_61 (by decide) (by decide) (by decide) (fun c_61 => ?_) (fun q => absurd q (by decide))
        refine zt_iload dX11_wordAt_104 rfl ?_
        refine zt_if_eq (tgt := 111) dX11_wordAt_106 (by decide) (by decide) (fun c_106 => ?_) (fun q => absurd q (by decide))
        refine zt_iincv_3 (v := 6) dX11_wordAt_111 (by decide) rfl (by decide) ?_
        refine zt_iload dX11_wordAt_114 rfl ?_
        refine zt_iload dX11_wordAt_116 rfl ?_
        refine zt_iconst dX11_wordAt_118 ?_
        refine zt_iadd dX11_wordAt_119 ?_
        refine zt_topv (v := 3) (by decide) ?_
        refine zt_iadd dX11_wordAt_120 ?_
        refine zt_topv (v := 26) (by decide) ?_
        refine zt_istore_4 dX11_wordAt_121 (by decide) rfl ?_
        refine zt_goto (tgt := 5) dX11_wordAt_123 (by decide) ?_
        refine zt_kill_5 ?_
        refine zt_kill_6 ?_
        refine zt_kill_7 ?_
        exact l_wd6 hS hR hse hw n0 n1 n2 n3 n4 (fun z => by have z := z.2 1 (by decide) (by decide); rw [show zsb 5 1 = 102 by decide] at z; omega)
      · refine zt_iconst dX11_wordAt_91 ?_
        refine zt_goto (tgt := 96) dX11_wordAt_92 (by decide) ?_
        refine zt_istore_6 dX11_wordAt_96 (by decide) rfl ?_
        refine zt_iincv_7 (v := 2) dX11_wordAt_98 (by decide) rfl (by decide) ?_
        refine zt_goto (tgt := 57) dX11_wordAt_101 (by decide) ?_
        refine zt_iload dX11_wordAt_57 rfl ?_
        refine zt_iload dX11_wordAt_59 rfl ?_
        refine zt_icmp_ge (tgt := 104) dX11_wordAt_61 (by decide) (by decide) (by decide) (fun c_61 => ?_) (fun q => absurd q (by decide))
        refine zt_iload dX11_wordAt_104 rfl ?_
        refine zt_if_eq (tgt := 111) dX11_wordAt_106 (by decide) (by decide) (fun q => absurd q (by decide)) (fun c_106 => ?_)
        refine zt_iload_n dX11_wordAt_109 rfl ?_
        exact zt_iret dX11_wordAt_110 ⟨by rw [show wix T s e = 5 by unfold wix; rw [wit_f n0, wit_f n1, wit_f n2, wit_f n3, wit_f n4, wit_t (show isw T 5 s e from ⟨by show (2 : Int) = e - s; omega, fun j a b => by replace b : j < 2 := b; rcases (show j = 0 ∨ j = 1 by omega) with rfl | rfl <;> first | (rw [show zsb 5 0 = 105 by decide]; omega) | (rw [show zsb 5 1 = 102 by decide]; omega)⟩)]], rfl, rfl, rfl⟩

set_option maxRecDepth 100000 in
set_option maxHeartbeats 4000000 in
theorem l_wd4 {d n : Nat} {sh : zSh} {h : zMem} {s e : Int} {T : Int → Int} (hS : zShp sh) (hR : zRf h) (hse : (0 ≤ s ∧ s ≤ e) ∧ e ≤ 200) (hw : ∀ j, s ≤ j → j < e → h 39 j = T j) (n0 : ¬ isw T 0 s e) (n1 : ¬ isw T 1 s e) (n2 : ¬ isw T 2 s e) (n3 : ¬ isw T 3 s e) : zT yX11_wordAt cX11_wordAt 8 (some .int) (d + 4) 0 0 (zq (some (0, wix T s e)) n sh h) 5 [some (2, 38), some (0, s), some (0, e), some (0, 4), some (0, 18), none, none, none] [] n sh h := by
  refine zt_rg (fun hm => ?_)
  refine zt_iload dX11_wordAt_5 rfl ?_
  refine zt_ldcs (i := 9) (v := -20) dX11_wordAt_7 ⟨rfl, by decide⟩ ⟨rfl, rfl⟩ ?_
  refine zt_callVS0r dX11_wordAt_9 ml_X11_149 (i := 9) ⟨rfl, by decide⟩ (Nat.le_of_ble_eq_true rfl) (zF.of_eq (r' := some (0, 36)) rfl rfl rfl rfl (c_slen (i := 9) ⟨rfl, by decide⟩)) ?_
  refine zt_icmp_ge (tgt := 126) dX11_wordAt_12 (by decide) (by decide) (by decide) (fun q => absurd q (by decide)) (fun c_12 => ?_)
  refine zt_iconst dX11_wordAt_15 ?_
  refine zt_istore_5 dX11_wordAt_16 (by decide) rfl ?_
  refine zt_ldcs (i := 9) (v := -20) dX11_wordAt_18 ⟨rfl, by decide⟩ ⟨rfl, rfl⟩ ?_
  refine zt_iload dX11_wordAt_20 rfl ?_
  refine zt_iload dX11_wordAt_22 rfl ?_
  refine zt_iadd dX11_wordAt_24 ?_
  refine zt_topv (v := 18) (by decide) ?_
  refine zt_callVS1r dX11_wordAt_25 ml_X11_155 (i := 9) ⟨rfl, by decide⟩ (Nat.le_of_ble_eq_true rfl) (zF.of_eq (r' := some (0, 109)) (by decide) rfl rfl rfl (c_sch (i := 9) (k := 18) ⟨rfl, by decide⟩ (by decide))) ?_
  refine zt_bipush dX11_wordAt_28 (by decide) ?_
  refine zt_icmp_eq (tgt := 39) dX11_wordAt_30 (by decide) (by decide) (by decide) (fun q => absurd q (by decide)) (fun c_30 => ?_)
  refine zt_iincv_5 (v := 1) dX11_wordAt_33 (by decide) rfl (by decide) ?_
  refine zt_goto (tgt := 18) dX11_wordAt_36 (by decide) ?_
  refine zt_ldcs (i := 9) (v := -20) dX11_wordAt_18 ⟨rfl, by decide⟩ ⟨rfl, rfl⟩ ?_
  refine zt_iload dX11_wordAt_20 rfl ?_
  refine zt_iload dX11_wordAt_22 rfl ?_
  refine zt_iadd dX11_wordAt_24 ?_
  refine zt_topv (v := 19) (by decide) ?_
  refine zt_callVS1r dX11_wordAt_25 ml_X11_155 (i := 9) ⟨rfl, by decide⟩ (Nat.le_of_ble_eq_true rfl) (zF.of_eq (r' := some (0, 111)) (by decide) rfl rfl rfl (c_sch (i := 9) (k := 19) ⟨rfl, by decide⟩ (by decide))) ?_
  refine zt_bipush dX11_wordAt_28 (by decide) ?_
  refine zt_icmp_eq (tgt := 39) dX11_wordAt_30 (by decide) (by decide) (by decide) (fun q => absurd q (by decide)) (fun c_30 => ?_)
  refine zt_iincv_5 (v := 2) dX11_wordAt_33 (by decide) rfl (by decide) ?_
  refine zt_goto (tgt := 18) dX11_wordAt_36 (by decide) ?_
  refine zt_ldcs (i := 9) (v := -20) dX11_wordAt_18 ⟨rfl, by decide⟩ ⟨rfl, rfl⟩ ?_
  refine zt_iload dX11_wordAt_20 rfl ?_
  refine zt_iload dX11_wordAt_22 rfl ?_
  refine zt_iadd dX11_wordAt_24 ?_
  refine zt_topv (v := 20) (by decide) ?_
  refine zt_callVS1r dX11_wordAt_25 ml_X11_155 (i := 9) ⟨rfl, by decide⟩ (Nat.le_of_ble_eq_true rfl) (zF.of_eq (r' := some (0, 115)) (by decide) rfl rfl rfl (c_sch (i := 9) (k := 20) ⟨rfl, by decide⟩ (by decide))) ?_
  refine zt_bipush dX11_wordAt_28 (by decide) ?_
  refine zt_icmp_eq (tgt := 39) dX11_wordAt_30 (by decide) (by decide) (by decide) (fun q => absurd q (by decide)) (fun c_30 => ?_)
  refine zt_iincv_5 (v := 3) dX11_wordAt_33 (by decide) rfl (by decide) ?_
  refine zt_goto (tgt := 18) dX11_wordAt_36 (by decide) ?_
  refine zt_ldcs (i := 9) (v := -20) dX11_wordAt_18 ⟨rfl, by decide⟩ ⟨rfl, rfl⟩ ?_
  refine zt_iload dX11_wordAt_20 rfl ?_
  refine zt_iload dX11_wordAt_22 rfl ?_
  refine zt_iadd dX11_wordAt_24 ?_
  refine zt_topv (v := 21) (by decide) ?_
  refine zt_callVS1r dX11_wordAt_25 ml_X11_155 (i := 9) ⟨rfl, by decide⟩ (Nat.le_of_ble_eq_true rfl) (zF.of_eq (r' := some (0, 116)) (by decide) rfl rfl rfl (c_sch (i := 9) (k := 21) ⟨rfl, by decide⟩ (by decide))) ?_
  refine zt_bipush dX11_wordAt_28 (by decide) ?_
  refine zt_icmp_eq (tgt := 39) dX11_wordAt_30 (by decide) (by decide) (by decide) (fun q => absurd q (by decide)) (fun c_30 => ?_)
  refine zt_iincv_5 (v := 4) dX11_wordAt_33 (by decide) rfl (by decide) ?_
  refine zt_goto (tgt := 18) dX11_wordAt_36 (by decide) ?_
  refine zt_ldcs (i := 9) (v := -20) dX11_wordAt_18 ⟨rfl, by decide⟩ ⟨rfl, rfl⟩ ?_
  refine zt_iload dX11_wordAt_20 rfl ?_
  refine zt_iload dX11_wordAt_22 rfl ?_
  refine zt_iadd dX11_wordAt_24 ?_
  refine zt_topv (v := 22) (by decide) ?_
  refine zt_callVS1r dX11_wordAt_25 ml_X11_155 (i := 9) ⟨rfl, by decide⟩ (Nat.le_of_ble_eq_true rfl) (zF.of_eq (r' := some (0, 32)) (by decide) rfl rfl rfl (c_sch (i := 9) (k := 22) ⟨rfl, by decide⟩ (by decide))) ?_
  refine zt_bipush dX11_wordAt_28 (by decide) ?_
  refine zt_icmp_eq (tgt := 39) dX11_wordAt_30 (by decide) (by decide) (by decide) (fun c_30 => ?_) (fun q => absurd q (by decide))
  refine zt_iload dX11_wordAt_39 rfl ?_
  refine zt_iload_n dX11_wordAt_41 rfl ?_
  refine zt_iload_n dX11_wordAt_42 rfl ?_
  refine zt_isub dX11_wordAt_43 ?_
  refine zt_icmp_ne (tgt := 51) dX11_wordAt_44 (by decide) (by decide) (by omega) (fun c_44 => ?_) (fun c_44 => ?_)
  · refine zt_iconst dX11_wordAt_51 ?_
    refine zt_istore_6 dX11_wordAt_52 (by decide) rfl ?_
    refine zt_iconst dX11_wordAt_54 ?_
    refine zt_istore_7 dX11_wordAt_55 (by decide) rfl ?_
    refine zt_iload dX11_wordAt_57 rfl ?_
    refine zt_iload dX11_wordAt_59 rfl ?_
    refine zt_icmp_ge (tgt := 104) dX11_wordAt_61 (by decide) (by decide) (by decide) (fun q => absurd q (by decide)) (fun c_61 => ?_)
    refine zt_iload dX11_wordAt_64 rfl ?_
    refine zt_if_eq (tgt := 104) dX11_wordAt_66 (by decide) (by decide) (fun c_66 => ?_) (fun q => absurd q (by decide))
    refine zt_iload dX11_wordAt_104 rfl ?_
    refine zt_if_eq (tgt := 111) dX11_wordAt_106 (by decide) (by decide) (fun c_106 => ?_) (fun q => absurd q (by decide))
    refine zt_iincv_3 (v := 5) dX11_wordAt_111 (by decide) rfl (by decide) ?_
    refine zt_iload dX11_wordAt_114 rfl ?_
    refine zt_iload dX11_wordAt_116 rfl ?_
    refine zt_iconst dX11_wordAt_118 ?_
    refine zt_iadd dX11_wordAt_119 ?_
    refine zt_topv (v := 5) (by decide) ?_
    refine zt_iadd dX11_wordAt_120 ?_
    refine zt_topv (v := 23) (by decide) ?_
    refine zt_istore_4 dX11_wordAt_121 (by decide) rfl ?_
    refine zt_goto (tgt := 5) dX11_wordAt_123 (by decide) ?_
    refine zt_kill_5 ?_
    refine zt_kill_6 ?_
    refine zt_kill_7 ?_
    exact l_wd5 hS hR hse hw n0 n1 n2 n3 (fun z => by have z := z.1; replace z : (4 : Int) = e - s := z; omega)
  · refine zt_iconst dX11_wordAt_47 ?_
    refine zt_goto (tgt := 52) dX11_wordAt_48 (by decide) ?_
    refine zt_istore_6 dX11_wordAt_52 (by decide) rfl ?_
    refine zt_iconst dX11_wordAt_54 ?_
    refine zt_istore_7 dX11_wordAt_55 (by decide) rfl ?_
    refine zt_iload dX11_wordAt_57 rfl ?_
    refine zt_iload dX11_wordAt_59 rfl ?_
    refine zt_icmp_ge (tgt := 104) dX11_wordAt_61 (by decide) (by decide) (by decide) (fun q => absurd q (by decide)) (fun c_61 => ?_)
    refine zt_iload dX11_wordAt_64 rfl ?_
    refine zt_if_eq (tgt := 104) dX11_wordAt_66 (by decide) (by decide) (fun q => absurd q (by decide)) (fun c_66 => ?_)
    refine zt_ldcs (i := 9) (v := -20) dX11_wordAt_69 ⟨rfl, by decide⟩ ⟨rfl, rfl⟩ ?_
    refine zt_iload dX11_wordAt_71 rfl ?_
    refine zt_iload dX11_wordAt_73 rfl ?_
    refine zt_iadd dX11_wordAt_75 ?_
    refine zt_topv (v := 18) (by decide) ?_
    refine zt_callVS1r dX11_wordAt_76 ml_X11_155 (i := 9) ⟨rfl, by decide⟩ (Nat.le_of_ble_eq_true rfl) (zF.of_eq (r' := some (0, 109)) (by decide) rfl rfl rfl (c_sch (i := 9) (k := 18) ⟨rfl, by decide⟩ (by decide))) ?_
    refine zt_aload_n dX11_wordAt_79 rfl ?_
    refine zt_getv dX11_wordAt_80 fl_X11_9 (zs_38 hS) (rf_38_0 hR) ?_
    refine zt_iload_n dX11_wordAt_83 rfl ?_
    refine zt_iload dX11_wordAt_84 rfl ?_
    refine zt_iadd dX11_wordAt_86 ?_
    refine zt_baload dX11_wordAt_87 (zs_39 hS) (by decide) (by omega) (by omega) ?_
    have hc0 := hw (s + 0) (by omega) (by omega)
    refine zt_icmp_ne (tgt := 95) dX11_wordAt_88 (by decide) (by decide) (zbyte (hm.byte (zs_39 hS) (by omega) (by omega))) (fun c_88 => ?_) (fun c_88 => ?_)
    · refine zt_iconst dX11_wordAt_95 ?_
      refine zt_istore_6 dX11_wordAt_96 (by decide) rfl ?_
      refine zt_iincv_7 (v := 1) dX11_wordAt_98 (by decide) rfl (by decide) ?_
      refine zt_goto (tgt := 57) dX11_wordAt_101 (by decide) ?_
      refine zt_iload dX11_wordAt_57 rfl ?_
      refine zt_iload dX11_wordAt_59 rfl ?_
      refine zt_icmp_ge (tgt := 104) dX11_wordAt_61 (by decide) (by decide) (by decide) (fun q => absurd q (by decide)) (fun c_61 => ?_)
      refine zt_iload dX11_wordAt_64 rfl ?_
      refine zt_if_eq (tgt := 104) dX11_wordAt_66 (by decide) (by decide) (fun c_66 => ?_) (fun q => absurd q (by decide))
      refine zt_iload dX11_wordAt_104 rfl ?_
      refine zt_if_eq (tgt := 111) dX11_wordAt_106 (by decide) (by decide) (fun c_106 => ?_) (fun q => absurd q (by decide))
      refine zt_iincv_3 (v := 5) dX11_wordAt_111 (by decide) rfl (by decide) ?_
      refine zt_iload dX11_wordAt_114 rfl ?_
      refine zt_iload dX11_wordAt_116 rfl ?_
      refine zt_iconst dX11_wordAt_118 ?_
      refine zt_iadd dX11_wordAt_119 ?_
      refine zt_topv (v := 5) (by decide) ?_
      refine zt_iadd dX11_wordAt_120 ?_
      refine zt_topv (v := 23) (by decide) ?_
      refine zt_istore_4 dX11_wordAt_121 (by decide) rfl ?_
      refine zt_goto (tgt := 5) dX11_wordAt_123 (by decide) ?_
      refine zt_kill_5 ?_
      refine zt_kill_6 ?_
      refine zt_kill_7 ?_
      exact l_wd5 hS hR hse hw n0 n1 n2 n3 (fun z => by have z := z.2 0 (by decide) (by decide); rw [show zsb 4 0 = 109 by decide] at z; omega)
    · refine zt_iconst dX11_wordAt_91 ?_
      refine zt_goto (tgt := 96) dX11_wordAt_92 (by decide) ?_
      refine zt_istore_6 dX11_wordAt_96 (by decide) rfl ?_
      refine zt_iincv_7 (v := 1) dX11_wordAt_98 (by decide) rfl (by decide) ?_
      refine zt_goto (tgt := 57) dX11_wordAt_101 (by decide) ?_
      refine zt_iload dX11_wordAt_57 rfl ?_
      refine zt_iload dX11_wordAt_59 rfl ?_
      refine zt_icmp_ge (tgt := 104) dX11_wordAt_61 (by decide) (by decide) (by decide) (fun q => absurd q (by decide)) (fun c_61 => ?_)
      refine zt_iload dX11_wordAt_64 rfl ?_
      refine zt_if_eq (tgt := 104) dX11_wordAt_66 (by decide) (by decide) (fun q => absurd q (by decide)) (fun c_66 => ?_)
      refine zt_ldcs (i := 9) (v := -20) dX11_wordAt_69 ⟨rfl, by decide⟩ ⟨rfl, rfl⟩ ?_
      refine zt_iload dX11_wordAt_71 rfl ?_
      refine zt_iload dX11_wordAt_73 rfl ?_
      refine zt_iadd dX11_wordAt_75 ?_
      refine zt_topv (v := 19) (by decide) ?_
      refine zt_callVS1r dX11_wordAt_76 ml_X11_155 (i := 9) ⟨rfl, by decide⟩ (Nat.le_of_ble_eq_true rfl) (zF.of_eq (r' := some (0, 111)) (by decide) rfl rfl rfl (c_sch (i := 9) (k := 19) ⟨rfl, by decide⟩ (by decide))) ?_
      refine zt_aload_n dX11_wordAt_79 rfl ?_
      refine zt_getv dX11_wordAt_80 fl_X11_9 (zs_38 hS) (rf_38_0 hR) ?_
      refine zt_iload_n dX11_wordAt_83 rfl ?_
      refine zt_iload dX11_wordAt_84 rfl ?_
      refine zt_iadd dX11_wordAt_86 ?_
      refine zt_baload dX11_wordAt_87 (zs_39 hS) (by decide) (by omega) (by omega) ?_
      have hc1 := hw (s + 1) (by omega) (by omega)
      refine zt_icmp_ne (tgt := 95) dX11_wordAt_88 (by decide) (by decide) (zbyte (hm.byte (zs_39 hS) (by omega) (by omega))) (fun c_88 => ?_) (fun c_88 => ?_)
      · refine zt_iconst dX11_wordAt_95 ?_
        refine zt_istore_6 dX11_wordAt_96 (by decide) rfl ?_
        refine zt_iincv_7 (v := 2) dX11_wordAt_98 (by decide) rfl (by decide) ?_
        refine zt_goto (tgt := 57) dX11_wordAt_101 (by decide) ?_
        refine zt_iload dX11_wordAt_57 rfl ?_
        refine zt_iload dX11_wordAt_59 rfl ?_
        refine zt_icmp_ge (tgt := 104) dX11_wordAt_61 (by decide) (by decide) (by decide) (fun q => absurd q (by decide)) (fun c_61 => ?_)
        refine zt_iload dX11_wordAt_64 rfl ?_
        refine zt_if_eq (tgt := 104) dX11_wordAt_66 (by decide) (by decide) (fun c_66 => ?_) (fun q => absurd q (by decide))
        refine zt_iload dX11_wordAt_104 rfl ?_
        refine zt_if_eq (tgt := 111) dX11_wordAt_106 (by decide) (by decide) (fun c_106 => ?_) (fun q => absurd q (by decide))
        refine zt_iincv_3 (v := 5) dX11_wordAt_111 (by decide) rfl (by decide) ?_
        refine zt_iload dX11_wordAt_114 rfl ?_
        refine zt_iload dX11_wordAt_116 rfl ?_
        refine zt_iconst dX11_wordAt_118 ?_
        refine zt_iadd dX11_wordAt_119 ?_
        refine zt_topv (v := 5) (by decide) ?_
        refine zt_iadd dX11_wordAt_120 ?_
        refine zt_topv (v := 23) (by decide) ?_
        refine zt_istore_4 dX11_wordAt_121 (by decide) rfl ?_
        refine zt_goto (tgt := 5) dX11_wordAt_123 (by decide) ?_
        refine zt_kill_5 ?_
        refine zt_kill_6 ?_
        refine zt_kill_7 ?_
        exact l_wd5 hS hR hse hw n0 n1 n2 n3 (fun z => by have z := z.2 1 (by decide) (by decide); rw [show zsb 4 1 = 111 by decide] at z; omega)
      · refine zt_iconst dX11_wordAt_91 ?_
        refine zt_goto (tgt := 96) dX11_wordAt_92 (by decide) ?_
        refine zt_istore_6 dX11_wordAt_96 (by decide) rfl ?_
        refine zt_iincv_7 (v := 2) dX11_wordAt_98 (by decide) rfl (by decide) ?_
        refine zt_goto (tgt := 57) dX11_wordAt_101 (by decide) ?_
        refine zt_iload dX11_wordAt_57 rfl ?_
        refine zt_iload dX11_wordAt_59 rfl ?_
        refine zt_icmp_ge (tgt := 104) dX11_wordAt_61 (by decide) (by decide) (by decide) (fun q => absurd q (by decide)) (fun c_61 => ?_)
        refine zt_iload dX11_wordAt_64 rfl ?_
        refine zt_if_eq (tgt := 104) dX11_wordAt_66 (by decide) (by decide) (fun q => absurd q (by decide)) (fun c_66 => ?_)
        refine zt_ldcs (i := 9) (v := -20) dX11_wordAt_69 ⟨rfl, by decide⟩ ⟨rfl, rfl⟩ ?_
        refine zt_iload dX11_wordAt_71 rfl ?_
        refine zt_iload dX11_wordAt_73 rfl ?_
        refine zt_iadd dX11_wordAt_75 ?_
        refine zt_topv (v := 20) (by decide) ?_
        refine zt_callVS1r dX11_wordAt_76 ml_X11_155 (i := 9) ⟨rfl, by decide⟩ (Nat.le_of_ble_eq_true rfl) (zF.of_eq (r' := some (0, 115)) (by decide) rfl rfl rfl (c_sch (i := 9) (k := 20) ⟨rfl, by decide⟩ (by decide))) ?_
        refine zt_aload_n dX11_wordAt_79 rfl ?_
        refine zt_getv dX11_wordAt_80 fl_X11_9 (zs_38 hS) (rf_38_0 hR) ?_
        refine zt_iload_n dX11_wordAt_83 rfl ?_
        refine zt_iload dX11_wordAt_84 rfl ?_
        refine zt_iadd dX11_wordAt_86 ?_
        refine zt_baload dX11_wordAt_87 (zs_39 hS) (by decide) (by omega) (by omega) ?_
        have hc2 := hw (s + 2) (by omega) (by omega)
        refine zt_icmp_ne (tgt := 95) dX11_wordAt_88 (by decide) (by decide) (zbyte (hm.byte (zs_39 hS) (by omega) (by omega))) (fun c_88 => ?_) (fun c_88 => ?_)
        · refine zt_iconst dX11_wordAt_95 ?_
          refine zt_istore_6 dX11_wordAt_96 (by decide) rfl ?_
          refine zt_iincv_7 (v := 3) dX11_wordAt_98 (by decide) rfl (by decide) ?_
          refine zt_goto (tgt := 57) dX11_wordAt_101 (by decide) ?_
          refine zt_iload dX11_wordAt_57 rfl ?_
          refine zt_iload dX11_wordAt_59 rfl ?_
          refine zt_icmp_ge (tgt := 104) dX11_wordAt_61 (by decide) (by decide) (by decide) (fun q => absurd q (by decide)) (fun c_61 => ?_)
          refine zt_iload dX11_wordAt_64 rfl ?_
          refine zt_if_eq (tgt := 104) dX11_wordAt_66 (by decide) (by decide) (fun c_66 => ?_) (fun q => absurd q (by decide))
          refine zt_iload dX11_wordAt_104 rfl ?_
          refine zt_if_eq (tgt := 111) dX11_wordAt_106 (by decide) (by decide) (fun c_106 => ?_) (fun q => absurd q (by decide))
          refine zt_iincv_3 (v := 5) dX11_wordAt_111 (by decide) rfl (by decide) ?_
          refine zt_iload dX11_wordAt_114 rfl ?_
          refine zt_iload dX11_wordAt_116 rfl ?_
          refine zt_iconst dX11_wordAt_118 ?_
          refine zt_iadd dX11_wordAt_119 ?_
          refine zt_topv (v := 5) (by decide) ?_
          refine zt_iadd dX11_wordAt_120 ?_
          refine zt_topv (v := 23) (by decide) ?_
          refine zt_istore_4 dX11_wordAt_121 (by decide) rfl ?_
          refine zt_goto (tgt := 5) dX11_wordAt_123 (by decide) ?_
          refine zt_kill_5 ?_
          refine zt_kill_6 ?_
          refine zt_kill_7 ?_
          exact l_wd5 hS hR hse hw n0 n1 n2 n3 (fun z => by have z := z.2 2 (by decide) (by decide); rw [show zsb 4 2 = 115 by decide] at z; omega)
        · refine zt_iconst dX11_wordAt_91 ?_
          refine zt_goto (tgt := 96) dX11_wordAt_92 (by decide) ?_
          refine zt_istore_6 dX11_wordAt_96 (by decide) rfl ?_
          refine zt_iincv_7 (v := 3) dX11_wordAt_98 (by decide) rfl (by decide) ?_
          refine zt_goto (tgt := 57) dX11_wordAt_101 (by decide) ?_
          refine zt_iload dX11_wordAt_57 rfl ?_
          refine zt_iload dX11_wordAt_59 rfl ?_
          refine zt_icmp_ge (tgt := 104) dX11_wordAt_61 (by decide) (by decide) (by decide) (fun q => absurd q (by decide)) (fun c_61 => ?_)
          refine zt_iload dX11_wordAt_64 rfl ?_
          refine zt_if_eq (tgt := 104) dX11_wordAt_66 (by decide) (by decide) (fun q => absurd q (by decide)) (fun c_66 => ?_)
          refine zt_ldcs (i := 9) (v := -20) dX11_wordAt_69 ⟨rfl, by decide⟩ ⟨rfl, rfl⟩ ?_
          refine zt_iload dX11_wordAt_71 rfl ?_
          refine zt_iload dX11_wordAt_73 rfl ?_
          refine zt_iadd dX11_wordAt_75 ?_
          refine zt_topv (v := 21) (by decide) ?_
          refine zt_callVS1r dX11_wordAt_76 ml_X11_155 (i := 9) ⟨rfl, by decide⟩ (Nat.le_of_ble_eq_true rfl) (zF.of_eq (r' := some (0, 116)) (by decide) rfl rfl rfl (c_sch (i := 9) (k := 21) ⟨rfl, by decide⟩ (by decide))) ?_
          refine zt_aload_n dX11_wordAt_79 rfl ?_
          refine zt_getv dX11_wordAt_80 fl_X11_9 (zs_38 hS) (rf_38_0 hR) ?_
          refine zt_iload_n dX11_wordAt_83 rfl ?_
          refine zt_iload dX11_wordAt_84 rfl ?_
          refine zt_iadd dX11_wordAt_86 ?_
          refine zt_baload dX11_wordAt_87 (zs_39 hS) (by decide) (by omega) (by omega) ?_
          have hc3 := hw (s + 3) (by omega) (by omega)
          refine zt_icmp_ne (tgt := 95) dX11_wordAt_88 (by decide) (by decide) (zbyte (hm.byte (zs_39 hS) (by omega) (by omega))) (fun c_88 => ?_) (fun c_88 => ?_)
          · refine zt_iconst dX11_wordAt_95 ?_
            refine zt_istore_6 dX11_wordAt_96 (by decide) rfl ?_
            refine zt_iincv_7 (v := 4) dX11_wordAt_98 (by decide) rfl (by decide) ?_
            refine zt_goto (tgt := 57) dX11_wordAt_101 (by decide) ?_
            refine zt_iload dX11_wordAt_57 rfl ?_
            refine zt_iload dX11_wordAt_59 rfl ?_
            refine zt_icmp_ge (tgt := 104) dX11_wordAt_61 (by decide) (by decide) (by decide) (fun c_61 => ?_) (fun q => absurd q (by decide))
            refine zt_iload dX11_wordAt_104 rfl ?_
            refine zt_if_eq (tgt := 111) dX11_wordAt_106 (by decide) (by decide) (fun c_106 => ?_) (fun q => absurd q (by decide))
            refine zt_iincv_3 (v := 5) dX11_wordAt_111 (by decide) rfl (by decide) ?_
            refine zt_iload dX11_wordAt_114 rfl ?_
            refine zt_iload dX11_wordAt_116 rfl ?_
            refine zt_iconst dX11_wordAt_118 ?_
            refine zt_iadd dX11_wordAt_119 ?_
            refine zt_topv (v := 5) (by decide) ?_
            refine zt_iadd dX11_wordAt_120 ?_
            refine zt_topv (v := 23) (by decide) ?_
            refine zt_istore_4 dX11_wordAt_121 (by decide) rfl ?_
            refine zt_goto (tgt := 5) dX11_wordAt_123 (by decide) ?_
            refine zt_kill_5 ?_
            refine zt_kill_6 ?_
            refine zt_kill_7 ?_
            exact l_wd5 hS hR hse hw n0 n1 n2 n3 (fun z => by have z := z.2 3 (by decide) (by decide); rw [show zsb 4 3 = 116 by decide] at z; omega)
          · refine zt_iconst dX11_wordAt_91 ?_
            refine zt_goto (tgt := 96) dX11_wordAt_92 (by decide) ?_
            refine zt_istore_6 dX11_wordAt_96 (by decide) rfl ?_
            refine zt_iincv_7 (v := 4) dX11_wordAt_98 (by decide) rfl (by decide) ?_
            refine zt_goto (tgt := 57) dX11_wordAt_101 (by decide) ?_
            refine zt_iload dX11_wordAt_57 rfl ?_
            refine zt_iload dX11_wordAt_59 rfl ?_
            refine zt_icmp_ge (tgt := 104) dX11_wordAt_61 (by decide) (by decide) (by decide) (fun c_61 => ?_) (fun q => absurd q (by decide))
            refine zt_iload dX11_wordAt_104 rfl ?_
            refine zt_if_eq (tgt := 111) dX11_wordAt_106 (by decide) (by decide) (fun q => absurd q (by decide)) (fun c_106 => ?_)
            refine zt_iload_n dX11_wordAt_109 rfl ?_
            exact zt_iret dX11_wordAt_110 ⟨by rw [show wix T s e = 4 by unfold wix; rw [wit_f n0, wit_f n1, wit_f n2, wit_f n3, wit_t (show isw T 4 s e from ⟨by show (4 : Int) = e - s; omega, fun j a b => by replace b : j < 4 := b; rcases (show j = 0 ∨ j = 1 ∨ j = 2 ∨ j = 3 by omega) with rfl | rfl | rfl | rfl <;> first | (rw [show zsb 4 0 = 109 by decide]; omega) | (rw [show zsb 4 1 = 111 by decide]; omega) | (rw [show zsb 4 2 = 115 by decide]; omega) | (rw [show zsb 4 3 = 116 by decide]; omega)⟩)]], rfl, rfl, rfl⟩

set_option maxRecDepth 100000 in
set_option maxHeartbeats 4000000 in
theorem l_wd3 {d n : Nat} {sh : zSh} {h : zMem} {s e : Int} {T : Int → Int} (hS : zShp sh) (hR : zRf h) (hse : (0 ≤ s ∧ s ≤ e) ∧ e ≤ 200) (hw : ∀ j, s ≤ j → j < e → h 39 j = T j) (n0 : ¬ isw T 0 s e) (n1 : ¬ isw T 1 s e) (n2 : ¬ isw T 2 s e) : zT yX11_wordAt cX11_wordAt 8 (some .int) (d + 4) 0 0 (zq (some (0, wix T s e)) n sh h) 5 [some (2, 38), some (0, s), some (0, e), some (0, 3), some (0, 12), none, none, none] [] n sh h := by
  refine zt_rg (fun hm => ?_)
  refine zt_iload dX11_wordAt_5 rfl ?_
  refine zt_ldcs (i := 9) (v := -20) dX11_wordAt_7 ⟨rfl, by decide⟩ ⟨rfl, rfl⟩ ?_
  refine zt_callVS0r dX11_wordAt_9 ml_X11_149 (i := 9) ⟨rfl, by decide⟩ (Nat.le_of_ble_eq_true rfl) (zF.of_eq (r' := some (0, 36)) rfl rfl rfl rfl (c_slen (i := 9) ⟨rfl, by decide⟩)) ?_
  refine zt_icmp_ge (tgt := 126) dX11_wordAt_12 (by decide) (by decide) (by decide) (fun q => absurd q (by decide)) (fun c_12 => ?_)
  refine zt_iconst dX11_wordAt_15 ?_
  refine zt_istore_5 dX11_wordAt_16 (by decide) rfl ?_
  refine zt_ldcs (i := 9) (v := -20) dX11_wordAt_18 ⟨rfl, by decide⟩ ⟨rfl, rfl⟩ ?_
  refine zt_iload dX11_wordAt_20 rfl ?_
  refine zt_iload dX11_wordAt_22 rfl ?_
  refine zt_iadd dX11_wordAt_24 ?_
  refine zt_topv (v := 12) (by decide) ?_
  refine zt_callVS1r dX11_wordAt_25 ml_X11_155 (i := 9) ⟨rfl, by decide⟩ (Nat.le_of_ble_eq_true rfl) (zF.of_eq (r' := some (0, 108)) (by decide) rfl rfl rfl (c_sch (i := 9) (k := 12) ⟨rfl, by decide⟩ (by decide))) ?_
  refine zt_bipush dX11_wordAt_28 (by decide) ?_
  refine zt_icmp_eq (tgt := 39) dX11_wordAt_30 (by decide) (by decide) (by decide) (fun q => absurd q (by decide)) (fun c_30 => ?_)
  refine zt_iincv_5 (v := 1) dX11_wordAt_33 (by decide) rfl (by decide) ?_
  refine zt_goto (tgt := 18) dX11_wordAt_36 (by decide) ?_
  refine zt_ldcs (i := 9) (v := -20) dX11_wordAt_18 ⟨rfl, by decide⟩ ⟨rfl, rfl⟩ ?_
  refine zt_iload dX11_wordAt_20 rfl ?_
  refine zt_iload dX11_wordAt_22 rfl ?_
  refine zt_iadd dX11_wordAt_24 ?_
  refine zt_topv (v := 13) (by decide) ?_
  refine zt_callVS1r dX11_wordAt_25 ml_X11_155 (i := 9) ⟨rfl, by decide⟩ (Nat.le_of_ble_eq_true rfl) (zF.of_eq (r' := some (0, 101)) (by decide) rfl rfl rfl (c_sch (i := 9) (k := 13) ⟨rfl, by decide⟩ (by decide))) ?_
  refine zt_bipush dX11_wordAt_28 (by decide) ?_
  refine zt_icmp_eq (tgt := 39) dX11_wordAt_30 (by decide) (by decide) (by decide) (fun q => absurd q (by decide)) (fun c_30 => ?_)
  refine zt_iincv_5 (v := 2) dX11_wordAt_33 (by decide) rfl (by decide) ?_
  refine zt_goto (tgt := 18) dX11_wordAt_36 (by decide) ?_
  refine zt_ldcs (i := 9) (v := -20) dX11_wordAt_18 ⟨rfl, by decide⟩ ⟨rfl, rfl⟩ ?_
  refine zt_iload dX11_wordAt_20 rfl ?_
  refine zt_iload dX11_wordAt_22 rfl ?_
  refine zt_iadd dX11_wordAt_24 ?_
  refine zt_topv (v := 14) (by decide) ?_
  refine zt_callVS1r dX11_wordAt_25 ml_X11_155 (i := 9) ⟨rfl, by decide⟩ (Nat.le_of_ble_eq_true rfl) (zF.of_eq (r' := some (0, 97)) (by decide) rfl rfl rfl (c_sch (i := 9) (k := 14) ⟨rfl, by decide⟩ (by decide))) ?_
  refine zt_bipush dX11_wordAt_28 (by decide) ?_
  refine zt_icmp_eq (tgt := 39) dX11_wordAt_30 (by decide) (by decide) (by decide) (fun q => absurd q (by decide)) (fun c_30 => ?_)
  refine zt_iincv_5 (v := 3) dX11_wordAt_33 (by decide) rfl (by decide) ?_
  refine zt_goto (tgt := 18) dX11_wordAt_36 (by decide) ?_
  refine zt_ldcs (i := 9) (v := -20) dX11_wordAt_18 ⟨rfl, by decide⟩ ⟨rfl, rfl⟩ ?_
  refine zt_iload dX11_wordAt_20 rfl ?_
  refine zt_iload dX11_wordAt_22 rfl ?_
  refine zt_iadd dX11_wordAt_24 ?_
  refine zt_topv (v := 15) (by decide) ?_
  refine zt_callVS1r dX11_wordAt_25 ml_X11_155 (i := 9) ⟨rfl, by decide⟩ (Nat.le_of_ble_eq_true rfl) (zF.of_eq (r' := some (0, 115)) (by decide) rfl rfl rfl (c_sch (i := 9) (k := 15) ⟨rfl, by decide⟩ (by decide))) ?_
  refine zt_bipush dX11_wordAt_28 (by decide) ?_
  refine zt_icmp_eq (tgt := 39) dX11_wordAt_30 (by decide) (by decide) (by decide) (fun q => absurd q (by decide)) (fun c_30 => ?_)
  refine zt_iincv_5 (v := 4) dX11_wordAt_33 (by decide) rfl (by decide) ?_
  refine zt_goto (tgt := 18) dX11_wordAt_36 (by decide) ?_
  refine zt_ldcs (i := 9) (v := -20) dX11_wordAt_18 ⟨rfl, by decide⟩ ⟨rfl, rfl⟩ ?_
  refine zt_iload dX11_wordAt_20 rfl ?_
  refine zt_iload dX11_wordAt_22 rfl ?_
  refine zt_iadd dX11_wordAt_24 ?_
  refine zt_topv (v := 16) (by decide) ?_
  refine zt_callVS1r dX11_wordAt_25 ml_X11_155 (i := 9) ⟨rfl, by decide⟩ (Nat.le_of_ble_eq_true rfl) (zF.of_eq (r' := some (0, 116)) (by decide) rfl rfl rfl (c_sch (i := 9) (k := 16) ⟨rfl, by decide⟩ (by decide))) ?_
  refine zt_bipush dX11_wordAt_28 (by decide) ?_
  refine zt_icmp_eq (tgt := 39) dX11_wordAt_30 (by decide) (by decide) (by decide) (fun q => absurd q (by decide)) (fun c_30 => ?_)
  refine zt_iincv_5 (v := 5) dX11_wordAt_33 (by decide) rfl (by decide) ?_
  refine zt_goto (tgt := 18) dX11_wordAt_36 (by decide) ?_
  refine zt_ldcs (i := 9) (v := -20) dX11_wordAt_18 ⟨rfl, by decide⟩ ⟨rfl, rfl⟩ ?_
  refine zt_iload dX11_wordAt_20 rfl ?_
  refine zt_iload dX11_wordAt_22 rfl ?_
  refine zt_iadd dX11_wordAt_24 ?_
  refine zt_topv (v := 17) (by decide) ?_
  refine zt_callVS1r dX11_wordAt_25 ml_X11_155 (i := 9) ⟨rfl, by decide⟩ (Nat.le_of_ble_eq_true rfl) (zF.of_eq (r' := some (0, 32)) (by decide) rfl rfl rfl (c_sch (i := 9) (k := 17) ⟨rfl, by decide⟩ (by decide))) ?_
  refine zt_bipush dX11_wordAt_28 (by decide) ?_
  refine zt_icmp_eq (tgt := 39) dX11_wordAt_30 (by decide) (by decide) (by decide) (fun c_30 => ?_) (fun q => absurd q (by decide))
  refine zt_iload dX11_wordAt_39 rfl ?_
  refine zt_iload_n dX11_wordAt_41 rfl ?_
  refine zt_iload_n dX11_wordAt_42 rfl ?_
  refine zt_isub dX11_wordAt_43 ?_
  refine zt_icmp_ne (tgt := 51) dX11_wordAt_44 (by decide) (by decide) (by omega) (fun c_44 => ?_) (fun c_44 => ?_)
  · refine zt_iconst dX11_wordAt_51 ?_
    refine zt_istore_6 dX11_wordAt_52 (by decide) rfl ?_
    refine zt_iconst dX11_wordAt_54 ?_
    refine zt_istore_7 dX11_wordAt_55 (by decide) rfl ?_
    refine zt_iload dX11_wordAt_57 rfl ?_
    refine zt_iload dX11_wordAt_59 rfl ?_
    refine zt_icmp_ge (tgt := 104) dX11_wordAt_61 (by decide) (by decide) (by decide) (fun q => absurd q (by decide)) (fun c_61 => ?_)
    refine zt_iload dX11_wordAt_64 rfl ?_
    refine zt_if_eq (tgt := 104) dX11_wordAt_66 (by decide) (by decide) (fun c_66 => ?_) (fun q => absurd q (by decide))
    refine zt_iload dX11_wordAt_104 rfl ?_
    refine zt_if_eq (tgt := 111) dX11_wordAt_106 (by decide) (by decide) (fun c_106 => ?_) (fun q => absurd q (by decide))
    refine zt_iincv_3 (v := 4) dX11_wordAt_111 (by decide) rfl (by decide) ?_
    refine zt_iload dX11_wordAt_114 rfl ?_
    refine zt_iload dX11_wordAt_116 rfl ?_
    refine zt_iconst dX11_wordAt_118 ?_
    refine zt_iadd dX11_wordAt_119 ?_
    refine zt_topv (v := 6) (by decide) ?_
    refine zt_iadd dX11_wordAt_120 ?_
    refine zt_topv (v := 18) (by decide) ?_
    refine zt_istore_4 dX11_wordAt_121 (by decide) rfl ?_
    refine zt_goto (tgt := 5) dX11_wordAt_123 (by decide) ?_
    refine zt_kill_5 ?_
    refine zt_kill_6 ?_
    refine zt_kill_7 ?_
    exact l_wd4 hS hR hse hw n0 n1 n2 (fun z => by have z := z.1; replace z : (5 : Int) = e - s := z; omega)
  · refine zt_iconst dX11_wordAt_47 ?_
    refine zt_goto (tgt := 52) dX11_wordAt_48 (by decide) ?_
    refine zt_istore_6 dX11_wordAt_52 (by decide) rfl ?_
    refine zt_iconst dX11_wordAt_54 ?_
    refine zt_istore_7 dX11_wordAt_55 (by decide) rfl ?_
    refine zt_iload dX11_wordAt_57 rfl ?_
    refine zt_iload dX11_wordAt_59 rfl ?_
    refine zt_icmp_ge (tgt := 104) dX11_wordAt_61 (by decide) (by decide) (by decide) (fun q => absurd q (by decide)) (fun c_61 => ?_)
    refine zt_iload dX11_wordAt_64 rfl ?_
    refine zt_if_eq (tgt := 104) dX11_wordAt_66 (by decide) (by decide) (fun q => absurd q (by decide)) (fun c_66 => ?_)
    refine zt_ldcs (i := 9) (v := -20) dX11_wordAt_69 ⟨rfl, by decide⟩ ⟨rfl, rfl⟩ ?_
    refine zt_iload dX11_wordAt_71 rfl ?_
    refine zt_iload dX11_wordAt_73 rfl ?_
    refine zt_iadd dX11_wordAt_75 ?_
    refine zt_topv (v := 12) (by decide) ?_
    refine zt_callVS1r dX11_wordAt_76 ml_X11_155 (i := 9) ⟨rfl, by decide⟩ (Nat.le_of_ble_eq_true rfl) (zF.of_eq (r' := some (0, 108)) (by decide) rfl rfl rfl (c_sch (i := 9) (k := 12) ⟨rfl, by decide⟩ (by decide))) ?_
    refine zt_aload_n dX11_wordAt_79 rfl ?_
    refine zt_getv dX11_wordAt_80 fl_X11_9 (zs_38 hS) (rf_38_0 hR) ?_
    refine zt_iload_n dX11_wordAt_83 rfl ?_
    refine zt_iload dX11_wordAt_84 rfl ?_
    refine zt_iadd dX11_wordAt_86 ?_
    refine zt_baload dX11_wordAt_87 (zs_39 hS) (by decide) (by omega) (by omega) ?_
    have hc0 := hw (s + 0) (by omega) (by omega)
    refine zt_icmp_ne (tgt := 95) dX11_wordAt_88 (by decide) (by decide) (zbyte (hm.byte (zs_39 hS) (by omega) (by omega))) (fun c_88 => ?_) (fun c_88 => ?_)
    · refine zt_iconst dX11_wordAt_95 ?_
      refine zt_istore_6 dX11_wordAt_96 (by decide) rfl ?_
      refine zt_iincv_7 (v := 1) dX11_wordAt_98 (by decide) rfl (by decide) ?_
      refine zt_goto (tgt := 57) dX11_wordAt_101 (by decide) ?_
      refine zt_iload dX11_wordAt_57 rfl ?_
      refine zt_iload dX11_wordAt_59 rfl ?_
      refine zt_icmp_ge (tgt := 104) dX11_wordAt_61 (by decide) (by decide) (by decide) (fun q => absurd q (by decide)) (fun c_61 => ?_)
      refine zt_iload dX11_wordAt_64 rfl ?_
      refine zt_if_eq (tgt := 104) dX11_wordAt_66 (by decide) (by decide) (fun c_66 => ?_) (fun q => absurd q (by decide))
      refine zt_iload dX11_wordAt_104 rfl ?_
      refine zt_if_eq (tgt := 111) dX11_wordAt_106 (by decide) (by decide) (fun c_106 => ?_) (fun q => absurd q (by decide))
      refine zt_iincv_3 (v := 4) dX11_wordAt_111 (by decide) rfl (by decide) ?_
      refine zt_iload dX11_wordAt_114 rfl ?_
      refine zt_iload dX11_wordAt_116 rfl ?_
      refine zt_iconst dX11_wordAt_118 ?_
      refine zt_iadd dX11_wordAt_119 ?_
      refine zt_topv (v := 6) (by decide) ?_
      refine zt_iadd dX11_wordAt_120 ?_
      refine zt_topv (v := 18) (by decide) ?_
      refine zt_istore_4 dX11_wordAt_121 (by decide) rfl ?_
      refine zt_goto (tgt := 5) dX11_wordAt_123 (by decide) ?_
      refine zt_kill_5 ?_
      refine zt_kill_6 ?_
      refine zt_kill_7 ?_
      exact l_wd4 hS hR hse hw n0 n1 n2 (fun z => by have z := z.2 0 (by decide) (by decide); rw [show zsb 3 0 = 108 by decide] at z; omega)
    · refine zt_iconst dX11_wordAt_91 ?_
      refine zt_goto (tgt := 96) dX11_wordAt_92 (by decide) ?_
      refine zt_istore_6 dX11_wordAt_96 (by decide) rfl ?_
      refine zt_iincv_7 (v := 1) dX11_wordAt_98 (by decide) rfl (by decide) ?_
      refine zt_goto (tgt := 57) dX11_wordAt_101 (by decide) ?_
      refine zt_iload dX11_wordAt_57 rfl ?_
      refine zt_iload dX11_wordAt_59 rfl ?_
      refine zt_icmp_ge (tgt := 104) dX11_wordAt_61 (by decide) (by decide) (by decide) (fun q => absurd q (by decide)) (fun c_61 => ?_)
      refine zt_iload dX11_wordAt_64 rfl ?_
      refine zt_if_eq (tgt := 104) dX11_wordAt_66 (by decide) (by decide) (fun q => absurd q (by decide)) (fun c_66 => ?_)
      refine zt_ldcs (i := 9) (v := -20) dX11_wordAt_69 ⟨rfl, by decide⟩ ⟨rfl, rfl⟩ ?_
      refine zt_iload dX11_wordAt_71 rfl ?_
      refine zt_iload dX11_wordAt_73 rfl ?_
      refine zt_iadd dX11_wordAt_75 ?_
      refine zt_topv (v := 13) (by decide) ?_
      refine zt_callVS1r dX11_wordAt_76 ml_X11_155 (i := 9) ⟨rfl, by decide⟩ (Nat.le_of_ble_eq_true rfl) (zF.of_eq (r' := some (0, 101)) (by decide) rfl rfl rfl (c_sch (i := 9) (k := 13) ⟨rfl, by decide⟩ (by decide))) ?_
      refine zt_aload_n dX11_wordAt_79 rfl ?_
      refine zt_getv dX11_wordAt_80 fl_X11_9 (zs_38 hS) (rf_38_0 hR) ?_
      refine zt_iload_n dX11_wordAt_83 rfl ?_
      refine zt_iload dX11_wordAt_84 rfl ?_
      refine zt_iadd dX11_wordAt_86 ?_
      refine zt_baload dX11_wordAt_87 (zs_39 hS) (by decide) (by omega) (by omega) ?_
      have hc1 := hw (s + 1) (by omega) (by omega)
      refine zt_icmp_ne (tgt := 95) dX11_wordAt_88 (by decide) (by decide) (zbyte (hm.byte (zs_39 hS) (by omega) (by omega))) (fun c_88 => ?_) (fun c_88 => ?_)
      · refine zt_iconst dX11_wordAt_95 ?_
        refine zt_istore_6 dX11_wordAt_96 (by decide) rfl ?_
        refine zt_iincv_7 (v := 2) dX11_wordAt_98 (by decide) rfl (by decide) ?_
        refine zt_goto (tgt := 57) dX11_wordAt_101 (by decide) ?_
        refine zt_iload dX11_wordAt_57 rfl ?_
        refine zt_iload dX11_wordAt_59 rfl ?_
        refine zt_icmp_ge (tgt := 104) dX11_wordAt_61 (by decide) (by decide) (by decide) (fun q => absurd q (by decide)) (fun c_61 => ?_)
        refine zt_iload dX11_wordAt_64 rfl ?_
        refine zt_if_eq (tgt := 104) dX11_wordAt_66 (by decide) (by decide) (fun c_66 => ?_) (fun q => absurd q (by decide))
        refine zt_iload dX11_wordAt_104 rfl ?_
        refine zt_if_eq (tgt := 111) dX11_wordAt_106 (by decide) (by decide) (fun c_106 => ?_) (fun q => absurd q (by decide))
        refine zt_iincv_3 (v := 4) dX11_wordAt_111 (by decide) rfl (by decide) ?_
        refine zt_iload dX11_wordAt_114 rfl ?_
        refine zt_iload dX11_wordAt_116 rfl ?_
        refine zt_iconst dX11_wordAt_118 ?_
        refine zt_iadd dX11_wordAt_119 ?_
        refine zt_topv (v := 6) (by decide) ?_
        refine zt_iadd dX11_wordAt_120 ?_
        refine zt_topv (v := 18) (by decide) ?_
        refine zt_istore_4 dX11_wordAt_121 (by decide) rfl ?_
        refine zt_goto (tgt := 5) dX11_wordAt_123 (by decide) ?_
        refine zt_kill_5 ?_
        refine zt_kill_6 ?_
        refine zt_kill_7 ?_
        exact l_wd4 hS hR hse hw n0 n1 n2 (fun z => by have z := z.2 1 (by decide) (by decide); rw [show zsb 3 1 = 101 by decide] at z; omega)
      · refine zt_iconst dX11_wordAt_91 ?_
        refine zt_goto (tgt := 96) dX11_wordAt_92 (by decide) ?_
        refine zt_istore_6 dX11_wordAt_96 (by decide) rfl ?_
        refine zt_iincv_7 (v := 2) dX11_wordAt_98 (by decide) rfl (by decide) ?_
        refine zt_goto (tgt := 57) dX11_wordAt_101 (by decide) ?_
        refine zt_iload dX11_wordAt_57 rfl ?_
        refine zt_iload dX11_wordAt_59 rfl ?_
        refine zt_icmp_ge (tgt := 104) dX11_wordAt_61 (by decide) (by decide) (by decide) (fun q => absurd q (by decide)) (fun c_61 => ?_)
        refine zt_iload dX11_wordAt_64 rfl ?_
        refine zt_if_eq (tgt := 104) dX11_wordAt_66 (by decide) (by decide) (fun q => absurd q (by decide)) (fun c_66 => ?_)
        refine zt_ldcs (i := 9) (v := -20) dX11_wordAt_69 ⟨rfl, by decide⟩ ⟨rfl, rfl⟩ ?_
        refine zt_iload dX11_wordAt_71 rfl ?_
        refine zt_iload dX11_wordAt_73 rfl ?_
        refine zt_iadd dX11_wordAt_75 ?_
        refine zt_topv (v := 14) (by decide) ?_
        refine zt_callVS1r dX11_wordAt_76 ml_X11_155 (i := 9) ⟨rfl, by decide⟩ (Nat.le_of_ble_eq_true rfl) (zF.of_eq (r' := some (0, 97)) (by decide) rfl rfl rfl (c_sch (i := 9) (k := 14) ⟨rfl, by decide⟩ (by decide))) ?_
        refine zt_aload_n dX11_wordAt_79 rfl ?_
        refine zt_getv dX11_wordAt_80 fl_X11_9 (zs_38 hS) (rf_38_0 hR) ?_
        refine zt_iload_n dX11_wordAt_83 rfl ?_
        refine zt_iload dX11_wordAt_84 rfl ?_
        refine zt_iadd dX11_wordAt_86 ?_
        refine zt_baload dX11_wordAt_87 (zs_39 hS) (by decide) (by omega) (by omega) ?_
        have hc2 := hw (s + 2) (by omega) (by omega)
        refine zt_icmp_ne (tgt := 95) dX11_wordAt_88 (by decide) (by decide) (zbyte (hm.byte (zs_39 hS) (by omega) (by omega))) (fun c_88 => ?_) (fun c_88 => ?_)
        · refine zt_iconst dX11_wordAt_95 ?_
          refine zt_istore_6 dX11_wordAt_96 (by decide) rfl ?_
          refine zt_iincv_7 (v := 3) dX11_wordAt_98 (by decide) rfl (by decide) ?_
          refine zt_goto (tgt := 57) dX11_wordAt_101 (by decide) ?_
          refine zt_iload dX11_wordAt_57 rfl ?_
          refine zt_iload dX11_wordAt_59 rfl ?_
          refine zt_icmp_ge (tgt := 104) dX11_wordAt_61 (by decide) (by decide) (by decide) (fun q => absurd q (by decide)) (fun c_61 => ?_)
          refine zt_iload dX11_wordAt_64 rfl ?_
          refine zt_if_eq (tgt := 104) dX11_wordAt_66 (by decide) (by decide) (fun c_66 => ?_) (fun q => absurd q (by decide))
          refine zt_iload dX11_wordAt_104 rfl ?_
          refine zt_if_eq (tgt := 111) dX11_wordAt_106 (by decide) (by decide) (fun c_106 => ?_) (fun q => absurd q (by decide))
          refine zt_iincv_3 (v := 4) dX11_wordAt_111 (by decide) rfl (by decide) ?_
          refine zt_iload dX11_wordAt_114 rfl ?_
          refine zt_iload dX11_wordAt_116 rfl ?_
          refine zt_iconst dX11_wordAt_118 ?_
          refine zt_iadd dX11_wordAt_119 ?_
          refine zt_topv (v := 6) (by decide) ?_
          refine zt_iadd dX11_wordAt_120 ?_
          refine zt_topv (v := 18) (by decide) ?_
          refine zt_istore_4 dX11_wordAt_121 (by decide) rfl ?_
          refine zt_goto (tgt := 5) dX11_wordAt_123 (by decide) ?_
          refine zt_kill_5 ?_
          refine zt_kill_6 ?_
          refine zt_kill_7 ?_
          exact l_wd4 hS hR hse hw n0 n1 n2 (fun z => by have z := z.2 2 (by decide) (by decide); rw [show zsb 3 2 = 97 by decide] at z; omega)
        · refine zt_iconst dX11_wordAt_91 ?_
          refine zt_goto (tgt := 96) dX11_wordAt_92 (by decide) ?_
          refine zt_istore_6 dX11_wordAt_96 (by decide) rfl ?_
          refine zt_iincv_7 (v := 3) dX11_wordAt_98 (by decide) rfl (by decide) ?_
          refine zt_goto (tgt := 57) dX11_wordAt_101 (by decide) ?_
          refine zt_iload dX11_wordAt_57 rfl ?_
          refine zt_iload dX11_wordAt_59 rfl ?_
          refine zt_icmp_ge (tgt := 104) dX11_wordAt_61 (by decide) (by decide) (by decide) (fun q => absurd q (by decide)) (fun c_61 => ?_)
          refine zt_iload dX11_wordAt_64 rfl ?_
          refine zt_if_eq (tgt := 104) dX11_wordAt_66 (by decide) (by decide) (fun q => absurd q (by decide)) (fun c_66 => ?_)
          refine zt_ldcs (i := 9) (v := -20) dX11_wordAt_69 ⟨rfl, by decide⟩ ⟨rfl, rfl⟩ ?_
          refine zt_iload dX11_wordAt_71 rfl ?_
          refine zt_iload dX11_wordAt_73 rfl ?_
          refine zt_iadd dX11_wordAt_75 ?_
          refine zt_topv (v := 15) (by decide) ?_
          refine zt_callVS1r dX11_wordAt_76 ml_X11_155 (i := 9) ⟨rfl, by decide⟩ (Nat.le_of_ble_eq_true rfl) (zF.of_eq (r' := some (0, 115)) (by decide) rfl rfl rfl (c_sch (i := 9) (k := 15) ⟨rfl, by decide⟩ (by decide))) ?_
          refine zt_aload_n dX11_wordAt_79 rfl ?_
          refine zt_getv dX11_wordAt_80 fl_X11_9 (zs_38 hS) (rf_38_0 hR) ?_
          refine zt_iload_n dX11_wordAt_83 rfl ?_
          refine zt_iload dX11_wordAt_84 rfl ?_
          refine zt_iadd dX11_wordAt_86 ?_
          refine zt_baload dX11_wordAt_87 (zs_39 hS) (by decide) (by omega) (by omega) ?_
          have hc3 := hw (s + 3) (by omega) (by omega)
          refine zt_icmp_ne (tgt := 95) dX11_wordAt_88 (by decide) (by decide) (zbyte (hm.byte (zs_39 hS) (by omega) (by omega))) (fun c_88 => ?_) (fun c_88 => ?_)
          · refine zt_iconst dX11_wordAt_95 ?_
            refine zt_istore_6 dX11_wordAt_96 (by decide) rfl ?_
            refine zt_iincv_7 (v := 4) dX11_wordAt_98 (by decide) rfl (by decide) ?_
            refine zt_goto (tgt := 57) dX11_wordAt_101 (by decide) ?_
            refine zt_iload dX11_wordAt_57 rfl ?_
            refine zt_iload dX11_wordAt_59 rfl ?_
            refine zt_icmp_ge (tgt := 104) dX11_wordAt_61 (by decide) (by decide) (by decide) (fun q => absurd q (by decide)) (fun c_61 => ?_)
            refine zt_iload dX11_wordAt_64 rfl ?_
            refine zt_if_eq (tgt := 104) dX11_wordAt_66 (by decide) (by decide) (fun c_66 => ?_) (fun q => absurd q (by decide))
            refine zt_iload dX11_wordAt_104 rfl ?_
            refine zt_if_eq (tgt := 111) dX11_wordAt_106 (by decide) (by decide) (fun c_106 => ?_) (fun q => absurd q (by decide))
            refine zt_iincv_3 (v := 4) dX11_wordAt_111 (by decide) rfl (by decide) ?_
            refine zt_iload dX11_wordAt_114 rfl ?_
            refine zt_iload dX11_wordAt_116 rfl ?_
            refine zt_iconst dX11_wordAt_118 ?_
            refine zt_iadd dX11_wordAt_119 ?_
            refine zt_topv (v := 6) (by decide) ?_
            refine zt_iadd dX11_wordAt_120 ?_
            refine zt_topv (v := 18) (by decide) ?_
            refine zt_istore_4 dX11_wordAt_121 (by decide) rfl ?_
            refine zt_goto (tgt := 5) dX11_wordAt_123 (by decide) ?_
            refine zt_kill_5 ?_
            refine zt_kill_6 ?_
            refine zt_kill_7 ?_
            exact l_wd4 hS hR hse hw n0 n1 n2 (fun z => by have z := z.2 3 (by decide) (by decide); rw [show zsb 3 3 = 115 by decide] at z; omega)
          · refine zt_iconst dX11_wordAt_91 ?_
            refine zt_goto (tgt := 96) dX11_wordAt_92 (by decide) ?_
            refine zt_istore_6 dX11_wordAt_96 (by decide) rfl ?_
            refine zt_iincv_7 (v := 4) dX11_wordAt_98 (by decide) rfl (by decide) ?_
            refine zt_goto (tgt := 57) dX11_wordAt_101 (by decide) ?_
            refine zt_iload dX11_wordAt_57 rfl ?_
            refine zt_iload dX11_wordAt_59 rfl ?_
            refine zt_icmp_ge (tgt := 104) dX11_wordAt_61 (by decide) (by decide) (by decide) (fun q => absurd q (by decide)) (fun c_61 => ?_)
            refine zt_iload dX11_wordAt_64 rfl ?_
            refine zt_if_eq (tgt := 104) dX11_wordAt_66 (by decide) (by decide) (fun q => absurd q (by decide)) (fun c_66 => ?_)
            refine zt_ldcs (i := 9) (v := -20) dX11_wordAt_69 ⟨rfl, by decide⟩ ⟨rfl, rfl⟩ ?_
            refine zt_iload dX11_wordAt_71 rfl ?_
            refine zt_iload dX11_wordAt_73 rfl ?_
            refine zt_iadd dX11_wordAt_75 ?_
            refine zt_topv (v := 16) (by decide) ?_
            refine zt_callVS1r dX11_wordAt_76 ml_X11_155 (i := 9) ⟨rfl, by decide⟩ (Nat.le_of_ble_eq_true rfl) (zF.of_eq (r' := some (0, 116)) (by decide) rfl rfl rfl (c_sch (i := 9) (k := 16) ⟨rfl, by decide⟩ (by decide))) ?_
            refine zt_aload_n dX11_wordAt_79 rfl ?_
            refine zt_getv dX11_wordAt_80 fl_X11_9 (zs_38 hS) (rf_38_0 hR) ?_
            refine zt_iload_n dX11_wordAt_83 rfl ?_
            refine zt_iload dX11_wordAt_84 rfl ?_
            refine zt_iadd dX11_wordAt_86 ?_
            refine zt_baload dX11_wordAt_87 (zs_39 hS) (by decide) (by omega) (by omega) ?_
            have hc4 := hw (s + 4) (by omega) (by omega)
            refine zt_icmp_ne (tgt := 95) dX11_wordAt_88 (by decide) (by decide) (zbyte (hm.byte (zs_39 hS) (by omega) (by omega))) (fun c_88 => ?_) (fun c_88 => ?_)
            · refine zt_iconst dX11_wordAt_95 ?_
              refine zt_istore_6 dX11_wordAt_96 (by decide) rfl ?_
              refine zt_iincv_7 (v := 5) dX11_wordAt_98 (by decide) rfl (by decide) ?_
              refine zt_goto (tgt := 57) dX11_wordAt_101 (by decide) ?_
              refine zt_iload dX11_wordAt_57 rfl ?_
              refine zt_iload dX11_wordAt_59 rfl ?_
              refine zt_icmp_ge (tgt := 104) dX11_wordAt_61 (by decide) (by decide) (by decide) (fun c_61 => ?_) (fun q => absurd q (by decide))
              refine zt_iload dX11_wordAt_104 rfl ?_
              refine zt_if_eq (tgt := 111) dX11_wordAt_106 (by decide) (by decide) (fun c_106 => ?_) (fun q => absurd q (by decide))
              refine zt_iincv_3 (v := 4) dX11_wordAt_111 (by decide) rfl (by decide) ?_
              refine zt_iload dX11_wordAt_114 rfl ?_
              refine zt_iload dX11_wordAt_116 rfl ?_
              refine zt_iconst dX11_wordAt_118 ?_
              refine zt_iadd dX11_wordAt_119 ?_
              refine zt_topv (v := 6) (by decide) ?_
              refine zt_iadd dX11_wordAt_120 ?_
              refine zt_topv (v := 18) (by decide) ?_
              refine zt_istore_4 dX11_wordAt_121 (by decide) rfl ?_
              refine zt_goto (tgt := 5) dX11_wordAt_123 (by decide) ?_
              refine zt_kill_5 ?_
              refine zt_kill_6 ?_
              refine zt_kill_7 ?_
              exact l_wd4 hS hR hse hw n0 n1 n2 (fun z => by have z := z.2 4 (by decide) (by decide); rw [show zsb 3 4 = 116 by decide] at z; omega)
            · refine zt_iconst dX11_wordAt_91 ?_
              refine zt_goto (tgt := 96) dX11_wordAt_92 (by decide) ?_
              refine zt_istore_6 dX11_wordAt_96 (by decide) rfl ?_
              refine zt_iincv_7 (v := 5) dX11_wordAt_98 (by decide) rfl (by decide) ?_
              refine zt_goto (tgt := 57) dX11_wordAt_101 (by decide) ?_
              refine zt_iload dX11_wordAt_57 rfl ?_
              refine zt_iload dX11_wordAt_59 rfl ?_
              refine zt_icmp_ge (tgt := 104) dX11_wordAt_61 (by decide) (by decide) (by decide) (fun c_61 => ?_) (fun q => absurd q (by decide))
              refine zt_iload dX11_wordAt_104 rfl ?_
              refine zt_if_eq (tgt := 111) dX11_wordAt_106 (by decide) (by decide) (fun q => absurd q (by decide)) (fun c_106 => ?_)
              refine zt_iload_n dX11_wordAt_109 rfl ?_
              exact zt_iret dX11_wordAt_110 ⟨by rw [show wix T s e = 3 by unfold wix; rw [wit_f n0, wit_f n1, wit_f n2, wit_t (show isw T 3 s e from ⟨by show (5 : Int) = e - s; omega, fun j a b => by replace b : j < 5 := b; rcases (show j = 0 ∨ j = 1 ∨ j = 2 ∨ j = 3 ∨ j = 4 by omega) with rfl | rfl | rfl | rfl | rfl <;> first | (rw [show zsb 3 0 = 108 by decide]; omega) | (rw [show zsb 3 1 = 101 by decide]; omega) | (rw [show zsb 3 2 = 97 by decide]; omega) | (rw [show zsb 3 3 = 115 by decide]; omega) | (rw [show zsb 3 4 = 116 by decide]; omega)⟩)]], rfl, rfl, rfl⟩

set_option maxRecDepth 100000 in
set_option maxHeartbeats 4000000 in
theorem l_wd2 {d n : Nat} {sh : zSh} {h : zMem} {s e : Int} {T : Int → Int} (hS : zShp sh) (hR : zRf h) (hse : (0 ≤ s ∧ s ≤ e) ∧ e ≤ 200) (hw : ∀ j, s ≤ j → j < e → h 39 j = T j) (n0 : ¬ isw T 0 s e) (n1 : ¬ isw T 1 s e) : zT yX11_wordAt cX11_wordAt 8 (some .int) (d + 4) 0 0 (zq (some (0, wix T s e)) n sh h) 5 [some (2, 38), some (0, s), some (0, e), some (0, 2), some (0, 8), none, none, none] [] n sh h := by
  refine zt_rg (fun hm => ?_)
  refine zt_iload dX11_wordAt_5 rfl ?_
  refine zt_ldcs (i := 9) (v := -20) dX11_wordAt_7 ⟨rfl, by decide⟩ ⟨rfl, rfl⟩ ?_
  refine zt_callVS0r dX11_wordAt_9 ml_X11_149 (i := 9) ⟨rfl, by decide⟩ (Nat.le_of_ble_eq_true rfl) (zF.of_eq (r' := some (0, 36)) rfl rfl rfl rfl (c_slen (i := 9) ⟨rfl, by decide⟩)) ?_
  refine zt_icmp_ge (tgt := 126) dX11_wordAt_12 (by decide) (by decide) (by decide) (fun q => absurd q (by decide)) (fun c_12 => ?_)
  refine zt_iconst dX11_wordAt_15 ?_
  refine zt_istore_5 dX11_wordAt_16 (by decide) rfl ?_
  refine zt_ldcs (i := 9) (v := -20) dX11_wordAt_18 ⟨rfl, by decide⟩ ⟨rfl, rfl⟩ ?_
  refine zt_iload dX11_wordAt_20 rfl ?_
  refine zt_iload dX11_wordAt_22 rfl ?_
  refine zt_iadd dX11_wordAt_24 ?_
  refine zt_topv (v := 8) (by decide) ?_
  refine zt_callVS1r dX11_wordAt_25 ml_X11_155 (i := 9) ⟨rfl, by decide⟩ (Nat.le_of_ble_eq_true rfl) (zF.of_eq (r' := some (0, 99)) (by decide) rfl rfl rfl (c_sch (i := 9) (k := 8) ⟨rfl, by decide⟩ (by decide))) ?_
  refine zt_bipush dX11_wordAt_28 (by decide) ?_
  refine zt_icmp_eq (tgt := 39) dX11_wordAt_30 (by decide) (by decide) (by decide) (fun q => absurd q (by decide)) (fun c_30 => ?_)
  refine zt_iincv_5 (v := 1) dX11_wordAt_33 (by decide) rfl (by decide) ?_
  refine zt_goto (tgt := 18) dX11_wordAt_36 (by decide) ?_
  refine zt_ldcs (i := 9) (v := -20) dX11_wordAt_18 ⟨rfl, by decide⟩ ⟨rfl, rfl⟩ ?_
  refine zt_iload dX11_wordAt_20 rfl ?_
  refine zt_iload dX11_wordAt_22 rfl ?_
  refine zt_iadd dX11_wordAt_24 ?_
  refine zt_topv (v := 9) (by decide) ?_
  refine zt_callVS1r dX11_wordAt_25 ml_X11_155 (i := 9) ⟨rfl, by decide⟩ (Nat.le_of_ble_eq_true rfl) (zF.of_eq (r' := some (0, 117)) (by decide) rfl rfl rfl (c_sch (i := 9) (k := 9) ⟨rfl, by decide⟩ (by decide))) ?_
  refine zt_bipush dX11_wordAt_28 (by decide) ?_
  refine zt_icmp_eq (tgt := 39) dX11_wordAt_30 (by decide) (by decide) (by decide) (fun q => absurd q (by decide)) (fun c_30 => ?_)
  refine zt_iincv_5 (v := 2) dX11_wordAt_33 (by decide) rfl (by decide) ?_
  refine zt_goto (tgt := 18) dX11_wordAt_36 (by decide) ?_
  refine zt_ldcs (i := 9) (v := -20) dX11_wordAt_18 ⟨rfl, by decide⟩ ⟨rfl, rfl⟩ ?_
  refine zt_iload dX11_wordAt_20 rfl ?_
  refine zt_iload dX11_wordAt_22 rfl ?_
  refine zt_iadd dX11_wordAt_24 ?_
  refine zt_topv (v := 10) (by decide) ?_
  refine zt_callVS1r dX11_wordAt_25 ml_X11_155 (i := 9) ⟨rfl, by decide⟩ (Nat.le_of_ble_eq_true rfl) (zF.of_eq (r' := some (0, 116)) (by decide) rfl rfl rfl (c_sch (i := 9) (k := 10) ⟨rfl, by decide⟩ (by decide))) ?_
  refine zt_bipush dX11_wordAt_28 (by decide) ?_
  refine zt_icmp_eq (tgt := 39) dX11_wordAt_30 (by decide) (by decide) (by decide) (fun q => absurd q (by decide)) (fun c_30 => ?_)
  refine zt_iincv_5 (v := 3) dX11_wordAt_33 (by decide) rfl (by decide) ?_
  refine zt_goto (tgt := 18) dX11_wordAt_36 (by decide) ?_
  refine zt_ldcs (i := 9) (v := -20) dX11_wordAt_18 ⟨rfl, by decide⟩ ⟨rfl, rfl⟩ ?_
  refine zt_iload dX11_wordAt_20 rfl ?_
  refine zt_iload dX11_wordAt_22 rfl ?_
  refine zt_iadd dX11_wordAt_24 ?_
  refine zt_topv (v := 11) (by decide) ?_
  refine zt_callVS1r dX11_wordAt_25 ml_X11_155 (i := 9) ⟨rfl, by decide⟩ (Nat.le_of_ble_eq_true rfl) (zF.of_eq (r' := some (0, 32)) (by decide) rfl rfl rfl (c_sch (i := 9) (k := 11) ⟨rfl, by decide⟩ (by decide))) ?_
  refine zt_bipush dX11_wordAt_28 (by decide) ?_
  refine zt_icmp_eq (tgt := 39) dX11_wordAt_30 (by decide) (by decide) (by decide) (fun c_30 => ?_) (fun q => absurd q (by decide))
  refine zt_iload dX11_wordAt_39 rfl ?_
  refine zt_iload_n dX11_wordAt_41 rfl ?_
  refine zt_iload_n dX11_wordAt_42 rfl ?_
  refine zt_isub dX11_wordAt_43 ?_
  refine zt_icmp_ne (tgt := 51) dX11_wordAt_44 (by decide) (by decide) (by omega) (fun c_44 => ?_) (fun c_44 => ?_)
  · refine zt_iconst dX11_wordAt_51 ?_
    refine zt_istore_6 dX11_wordAt_52 (by decide) rfl ?_
    refine zt_iconst dX11_wordAt_54 ?_
    refine zt_istore_7 dX11_wordAt_55 (by decide) rfl ?_
    refine zt_iload dX11_wordAt_57 rfl ?_
    refine zt_iload dX11_wordAt_59 rfl ?_
    refine zt_icmp_ge (tgt := 104) dX11_wordAt_61 (by decide) (by decide) (by decide) (fun q => absurd q (by decide)) (fun c_61 => ?_)
    refine zt_iload dX11_wordAt_64 rfl ?_
    refine zt_if_eq (tgt := 104) dX11_wordAt_66 (by decide) (by decide) (fun c_66 => ?_) (fun q => absurd q (by decide))
    refine zt_iload dX11_wordAt_104 rfl ?_
    refine zt_if_eq (tgt := 111) dX11_wordAt_106 (by decide) (by decide) (fun c_106 => ?_) (fun q => absurd q (by decide))
    refine zt_iincv_3 (v := 3) dX11_wordAt_111 (by decide) rfl (by decide) ?_
    refine zt_iload dX11_wordAt_114 rfl ?_
    refine zt_iload dX11_wordAt_116 rfl ?_
    refine zt_iconst dX11_wordAt_118 ?_
    refine zt_iadd dX11_wordAt_119 ?_
    refine zt_topv (v := 4) (by decide) ?_
    refine zt_iadd dX11_wordAt_120 ?_
    refine zt_topv (v := 12) (by decide) ?_
    refine zt_istore_4 dX11_wordAt_121 (by decide) rfl ?_
    refine zt_goto (tgt := 5) dX11_wordAt_123 (by decide) ?_
    refine zt_kill_5 ?_
    refine zt_kill_6 ?_
    refine zt_kill_7 ?_
    exact l_wd3 hS hR hse hw n0 n1 (fun z => by have z := z.1; replace z : (3 : Int) = e - s := z; omega)
  · refine zt_iconst dX11_wordAt_47 ?_
    refine zt_goto (tgt := 52) dX11_wordAt_48 (by decide) ?_
    refine zt_istore_6 dX11_wordAt_52 (by decide) rfl ?_
    refine zt_iconst dX11_wordAt_54 ?_
    refine zt_istore_7 dX11_wordAt_55 (by decide) rfl ?_
    refine zt_iload dX11_wordAt_57 rfl ?_
    refine zt_iload dX11_wordAt_59 rfl ?_
    refine zt_icmp_ge (tgt := 104) dX11_wordAt_61 (by decide) (by decide) (by decide) (fun q => absurd q (by decide)) (fun c_61 => ?_)
    refine zt_iload dX11_wordAt_64 rfl ?_
    refine zt_if_eq (tgt := 104) dX11_wordAt_66 (by decide) (by decide) (fun q => absurd q (by decide)) (fun c_66 => ?_)
    refine zt_ldcs (i := 9) (v := -20) dX11_wordAt_69 ⟨rfl, by decide⟩ ⟨rfl, rfl⟩ ?_
    refine zt_iload dX11_wordAt_71 rfl ?_
    refine zt_iload dX11_wordAt_73 rfl ?_
    refine zt_iadd dX11_wordAt_75 ?_
    refine zt_topv (v := 8) (by decide) ?_
    refine zt_callVS1r dX11_wordAt_76 ml_X11_155 (i := 9) ⟨rfl, by decide⟩ (Nat.le_of_ble_eq_true rfl) (zF.of_eq (r' := some (0, 99)) (by decide) rfl rfl rfl (c_sch (i := 9) (k := 8) ⟨rfl, by decide⟩ (by decide))) ?_
    refine zt_aload_n dX11_wordAt_79 rfl ?_
    refine zt_getv dX11_wordAt_80 fl_X11_9 (zs_38 hS) (rf_38_0 hR) ?_
    refine zt_iload_n dX11_wordAt_83 rfl ?_
    refine zt_iload dX11_wordAt_84 rfl ?_
    refine zt_iadd dX11_wordAt_86 ?_
    refine zt_baload dX11_wordAt_87 (zs_39 hS) (by decide) (by omega) (by omega) ?_
    have hc0 := hw (s + 0) (by omega) (by omega)
    refine zt_icmp_ne (tgt := 95) dX11_wordAt_88 (by decide) (by decide) (zbyte (hm.byte (zs_39 hS) (by omega) (by omega))) (fun c_88 => ?_) (fun c_88 => ?_)
    · refine zt_iconst dX11_wordAt_95 ?_
      refine zt_istore_6 dX11_wordAt_96 (by decide) rfl ?_
      refine zt_iincv_7 (v := 1) dX11_wordAt_98 (by decide) rfl (by decide) ?_
      refine zt_goto (tgt := 57) dX11_wordAt_101 (by decide) ?_
      refine zt_iload dX11_wordAt_57 rfl ?_
      refine zt_iload dX11_wordAt_59 rfl ?_
      refine zt_icmp_ge (tgt := 104) dX11_wordAt_61 (by decide) (by decide) (by decide) (fun q => absurd q (by decide)) (fun c_61 => ?_)
      refine zt_iload dX11_wordAt_64 rfl ?_
      refine zt_if_eq (tgt := 104) dX11_wordAt_66 (by decide) (by decide) (fun c_66 => ?_) (fun q => absurd q (by decide))
      refine zt_iload dX11_wordAt_104 rfl ?_
      refine zt_if_eq (tgt := 111) dX11_wordAt_106 (by decide) (by decide) (fun c_106 => ?_) (fun q => absurd q (by decide))
      refine zt_iincv_3 (v := 3) dX11_wordAt_111 (by decide) rfl (by decide) ?_
      refine zt_iload dX11_wordAt_114 rfl ?_
      refine zt_iload dX11_wordAt_116 rfl ?_
      refine zt_iconst dX11_wordAt_118 ?_
      refine zt_iadd dX11_wordAt_119 ?_
      refine zt_topv (v := 4) (by decide) ?_
      refine zt_iadd dX11_wordAt_120 ?_
      refine zt_topv (v := 12) (by decide) ?_
      refine zt_istore_4 dX11_wordAt_121 (by decide) rfl ?_
      refine zt_goto (tgt := 5) dX11_wordAt_123 (by decide) ?_
      refine zt_kill_5 ?_
      refine zt_kill_6 ?_
      refine zt_kill_7 ?_
      exact l_wd3 hS hR hse hw n0 n1 (fun z => by have z := z.2 0 (by decide) (by decide); rw [show zsb 2 0 = 99 by decide] at z; omega)
    · refine zt_iconst dX11_wordAt_91 ?_
      refine zt_goto (tgt := 96) dX11_wordAt_92 (by decide) ?_
      refine zt_istore_6 dX11_wordAt_96 (by decide) rfl ?_
      refine zt_iincv_7 (v := 1) dX11_wordAt_98 (by decide) rfl (by decide) ?_
      refine zt_goto (tgt := 57) dX11_wordAt_101 (by decide) ?_
      refine zt_iload dX11_wordAt_57 rfl ?_
      refine zt_iload dX11_wordAt_59 rfl ?_
      refine zt_icmp_ge (tgt := 104) dX11_wordAt_61 (by decide) (by decide) (by decide) (fun q => absurd q (by decide)) (fun c_61 => ?_)
      refine zt_iload dX11_wordAt_64 rfl ?_
      refine zt_if_eq (tgt := 104) dX11_wordAt_66 (by decide) (by decide) (fun q => absurd q (by decide)) (fun c_66 => ?_)
      refine zt_ldcs (i := 9) (v := -20) dX11_wordAt_69 ⟨rfl, by decide⟩ ⟨rfl, rfl⟩ ?_
      refine zt_iload dX11_wordAt_71 rfl ?_
      refine zt_iload dX11_wordAt_73 rfl ?_
      refine zt_iadd dX11_wordAt_75 ?_
      refine zt_topv (v := 9) (by decide) ?_
      refine zt_callVS1r dX11_wordAt_76 ml_X11_155 (i := 9) ⟨rfl, by decide⟩ (Nat.le_of_ble_eq_true rfl) (zF.of_eq (r' := some (0, 117)) (by decide) rfl rfl rfl (c_sch (i := 9) (k := 9) ⟨rfl, by decide⟩ (by decide))) ?_
      refine zt_aload_n dX11_wordAt_79 rfl ?_
      refine zt_getv dX11_wordAt_80 fl_X11_9 (zs_38 hS) (rf_38_0 hR) ?_
      refine zt_iload_n dX11_wordAt_83 rfl ?_
      refine zt_iload dX11_wordAt_84 rfl ?_
      refine zt_iadd dX11_wordAt_86 ?_
      refine zt_baload dX11_wordAt_87 (zs_39 hS) (by decide) (by omega) (by omega) ?_
      have hc1 := hw (s + 1) (by omega) (by omega)
      refine zt_icmp_ne (tgt := 95) dX11_wordAt_88 (by decide) (by decide) (zbyte (hm.byte (zs_39 hS) (by omega) (by omega))) (fun c_88 => ?_) (fun c_88 => ?_)
      · refine zt_iconst dX11_wordAt_95 ?_
        refine zt_istore_6 dX11_wordAt_96 (by decide) rfl ?_
        refine zt_iincv_7 (v := 2) dX11_wordAt_98 (by decide) rfl (by decide) ?_
        refine zt_goto (tgt := 57) dX11_wordAt_101 (by decide) ?_
        refine zt_iload dX11_wordAt_57 rfl ?_
        refine zt_iload dX11_wordAt_59 rfl ?_
        refine zt_icmp_ge (tgt := 104) dX11_wordAt_61 (by decide) (by decide) (by decide) (fun q => absurd q (by decide)) (fun c_61 => ?_)
        refine zt_iload dX11_wordAt_64 rfl ?_
        refine zt_if_eq (tgt := 104) dX11_wordAt_66 (by decide) (by decide) (fun c_66 => ?_) (fun q => absurd q (by decide))
        refine zt_iload dX11_wordAt_104 rfl ?_
        refine zt_if_eq (tgt := 111) dX11_wordAt_106 (by decide) (by decide) (fun c_106 => ?_) (fun q => absurd q (by decide))
        refine zt_iincv_3 (v := 3) dX11_wordAt_111 (by decide) rfl (by decide) ?_
        refine zt_iload dX11_wordAt_114 rfl ?_
        refine zt_iload dX11_wordAt_116 rfl ?_
        refine zt_iconst dX11_wordAt_118 ?_
        refine zt_iadd dX11_wordAt_119 ?_
        refine zt_topv (v := 4) (by decide) ?_
        refine zt_iadd dX11_wordAt_120 ?_
        refine zt_topv (v := 12) (by decide) ?_
        refine zt_istore_4 dX11_wordAt_121 (by decide) rfl ?_
        refine zt_goto (tgt := 5) dX11_wordAt_123 (by decide) ?_
        refine zt_kill_5 ?_
        refine zt_kill_6 ?_
        refine zt_kill_7 ?_
        exact l_wd3 hS hR hse hw n0 n1 (fun z => by have z := z.2 1 (by decide) (by decide); rw [show zsb 2 1 = 117 by decide] at z; omega)
      · refine zt_iconst dX11_wordAt_91 ?_
        refine zt_goto (tgt := 96) dX11_wordAt_92 (by decide) ?_
        refine zt_istore_6 dX11_wordAt_96 (by decide) rfl ?_
        refine zt_iincv_7 (v := 2) dX11_wordAt_98 (by decide) rfl (by decide) ?_
        refine zt_goto (tgt := 57) dX11_wordAt_101 (by decide) ?_
        refine zt_iload dX11_wordAt_57 rfl ?_
        refine zt_iload dX11_wordAt_59 rfl ?_
        refine zt_icmp_ge (tgt := 104) dX11_wordAt_61 (by decide) (by decide) (by decide) (fun q => absurd q (by decide)) (fun c_61 => ?_)
        refine zt_iload dX11_wordAt_64 rfl ?_
        refine zt_if_eq (tgt := 104) dX11_wordAt_66 (by decide) (by decide) (fun q => absurd q (by decide)) (fun c_66 => ?_)
        refine zt_ldcs (i := 9) (v := -20) dX11_wordAt_69 ⟨rfl, by decide⟩ ⟨rfl, rfl⟩ ?_
        refine zt_iload dX11_wordAt_71 rfl ?_
        refine zt_iload dX11_wordAt_73 rfl ?_
        refine zt_iadd dX11_wordAt_75 ?_
        refine zt_topv (v := 10) (by decide) ?_
        refine zt_callVS1r dX11_wordAt_76 ml_X11_155 (i := 9) ⟨rfl, by decide⟩ (Nat.le_of_ble_eq_true rfl) (zF.of_eq (r' := some (0, 116)) (by decide) rfl rfl rfl (c_sch (i := 9) (k := 10) ⟨rfl, by decide⟩ (by decide))) ?_
        refine zt_aload_n dX11_wordAt_79 rfl ?_
        refine zt_getv dX11_wordAt_80 fl_X11_9 (zs_38 hS) (rf_38_0 hR) ?_
        refine zt_iload_n dX11_wordAt_83 rfl ?_
        refine zt_iload dX11_wordAt_84 rfl ?_
        refine zt_iadd dX11_wordAt_86 ?_
        refine zt_baload dX11_wordAt_87 (zs_39 hS) (by decide) (by omega) (by omega) ?_
        have hc2 := hw (s + 2) (by omega) (by omega)
        refine zt_icmp_ne (tgt := 95) dX11_wordAt_88 (by decide) (by decide) (zbyte (hm.byte (zs_39 hS) (by omega) (by omega))) (fun c_88 => ?_) (fun c_88 => ?_)
        · refine zt_iconst dX11_wordAt_95 ?_
          refine zt_istore_6 dX11_wordAt_96 (by decide) rfl ?_
          refine zt_iincv_7 (v := 3) dX11_wordAt_98 (by decide) rfl (by decide) ?_
          refine zt_goto (tgt := 57) dX11_wordAt_101 (by decide) ?_
          refine zt_iload dX11_wordAt_57 rfl ?_
          refine zt_iload dX11_wordAt_59 rfl ?_
          refine zt_icmp_ge (tgt := 104) dX11_wordAt_61 (by decide) (by decide) (by decide) (fun c_61 => ?_) (fun q => absurd q (by decide))
          refine zt_iload dX11_wordAt_104 rfl ?_
          refine zt_if_eq (tgt := 111) dX11_wordAt_106 (by decide) (by decide) (fun c_106 => ?_) (fun q => absurd q (by decide))
          refine zt_iincv_3 (v := 3) dX11_wordAt_111 (by decide) rfl (by decide) ?_
          refine zt_iload dX11_wordAt_114 rfl ?_
          refine zt_iload dX11_wordAt_116 rfl ?_
          refine zt_iconst dX11_wordAt_118 ?_
          refine zt_iadd dX11_wordAt_119 ?_
          refine zt_topv (v := 4) (by decide) ?_
          refine zt_iadd dX11_wordAt_120 ?_
          refine zt_topv (v := 12) (by decide) ?_
          refine zt_istore_4 dX11_wordAt_121 (by decide) rfl ?_
          refine zt_goto (tgt := 5) dX11_wordAt_123 (by decide) ?_
          refine zt_kill_5 ?_
          refine zt_kill_6 ?_
          refine zt_kill_7 ?_
          exact l_wd3 hS hR hse hw n0 n1 (fun z => by have z := z.2 2 (by decide) (by decide); rw [show zsb 2 2 = 116 by decide] at z; omega)
        · refine zt_iconst dX11_wordAt_91 ?_
          refine zt_goto (tgt := 96) dX11_wordAt_92 (by decide) ?_
          refine zt_istore_6 dX11_wordAt_96 (by decide) rfl ?_
          refine zt_iincv_7 (v := 3) dX11_wordAt_98 (by decide) rfl (by decide) ?_
          refine zt_goto (tgt := 57) dX11_wordAt_101 (by decide) ?_
          refine zt_iload dX11_wordAt_57 rfl ?_
          refine zt_iload dX11_wordAt_59 rfl ?_
          refine zt_icmp_ge (tgt := 104) dX11_wordAt_61 (by decide) (by decide) (by decide) (fun c_61 => ?_) (fun q => absurd q (by decide))
          refine zt_iload dX11_wordAt_104 rfl ?_
          refine zt_if_eq (tgt := 111) dX11_wordAt_106 (by decide) (by decide) (fun q => absurd q (by decide)) (fun c_106 => ?_)
          refine zt_iload_n dX11_wordAt_109 rfl ?_
          exact zt_iret dX11_wordAt_110 ⟨by rw [show wix T s e = 2 by unfold wix; rw [wit_f n0, wit_f n1, wit_t (show isw T 2 s e from ⟨by show (3 : Int) = e - s; omega, fun j a b => by replace b : j < 3 := b; rcases (show j = 0 ∨ j = 1 ∨ j = 2 by omega) with rfl | rfl | rfl <;> first | (rw [show zsb 2 0 = 99 by decide]; omega) | (rw [show zsb 2 1 = 117 by decide]; omega) | (rw [show zsb 2 2 = 116 by decide]; omega)⟩)]], rfl, rfl, rfl⟩

set_option maxRecDepth 100000 in
set_option maxHeartbeats 4000000 in
theorem l_wd1 {d n : Nat} {sh : zSh} {h : zMem} {s e : Int} {T : Int → Int} (hS : zShp sh) (hR : zRf h) (hse : (0 ≤ s ∧ s ≤ e) ∧ e ≤ 200) (hw : ∀ j, s ≤ j → j < e → h 39 j = T j) (n0 : ¬ isw T 0 s e) : zT yX11_wordAt cX11_wordAt 8 (some .int) (d + 4) 0 0 (zq (some (0, wix T s e)) n sh h) 5 [some (2, 38), some (0, s), some (0, e), some (0, 1), some (0, 3), none, none, none] [] n sh h := by
  refine zt_rg (fun hm => ?_)
  refine zt_iload dX11_wordAt_5 rfl ?_
  refine zt_ldcs (i := 9) (v := -20) dX11_wordAt_7 ⟨rfl, by decide⟩ ⟨rfl, rfl⟩ ?_
  refine zt_callVS0r dX11_wordAt_9 ml_X11_149 (i := 9) ⟨rfl, by decide⟩ (Nat.le_of_ble_eq_true rfl) (zF.of_eq (r' := some (0, 36)) rfl rfl rfl rfl (c_slen (i := 9) ⟨rfl, by decide⟩)) ?_
  refine zt_icmp_ge (tgt := 126) dX11_wordAt_12 (by decide) (by decide) (by decide) (fun q => absurd q (by decide)) (fun c_12 => ?_)
  refine zt_iconst dX11_wordAt_15 ?_
  refine zt_istore_5 dX11_wordAt_16 (by decide) rfl ?_
  refine zt_ldcs (i := 9) (v := -20) dX11_wordAt_18 ⟨rfl, by decide⟩ ⟨rfl, rfl⟩ ?_
  refine zt_iload dX11_wordAt_20 rfl ?_
  refine zt_iload dX11_wordAt_22 rfl ?_
  refine zt_iadd dX11_wordAt_24 ?_
  refine zt_topv (v := 3) (by decide) ?_
  refine zt_callVS1r dX11_wordAt_25 ml_X11_155 (i := 9) ⟨rfl, by decide⟩ (Nat.le_of_ble_eq_true rfl) (zF.of_eq (r' := some (0, 114)) (by decide) rfl rfl rfl (c_sch (i := 9) (k := 3) ⟨rfl, by decide⟩ (by decide))) ?_
  refine zt_bipush dX11_wordAt_28 (by decide) ?_
  refine zt_icmp_eq (tgt := 39) dX11_wordAt_30 (by decide) (by decide) (by decide) (fun q => absurd q (by decide)) (fun c_30 => ?_)
  refine zt_iincv_5 (v := 1) dX11_wordAt_33 (by decide) rfl (by decide) ?_
  refine zt_goto (tgt := 18) dX11_wordAt_36 (by decide) ?_
  refine zt_ldcs (i := 9) (v := -20) dX11_wordAt_18 ⟨rfl, by decide⟩ ⟨rfl, rfl⟩ ?_
  refine zt_iload dX11_wordAt_20 rfl ?_
  refine zt_iload dX11_wordAt_22 rfl ?_
  refine zt_iadd dX11_wordAt_24 ?_
  refine zt_topv (v := 4) (by decide) ?_
  refine zt_callVS1r dX11_wordAt_25 ml_X11_155 (i := 9) ⟨rfl, by decide⟩ (Nat.le_of_ble_eq_true rfl) (zF.of_eq (r' := some (0, 111)) (by decide) rfl rfl rfl (c_sch (i := 9) (k := 4) ⟨rfl, by decide⟩ (by decide))) ?_
  refine zt_bipush dX11_wordAt_28 (by decide) ?_
  refine zt_icmp_eq (tgt := 39) dX11_wordAt_30 (by decide) (by decide) (by decide) (fun q => absurd q (by decide)) (fun c_30 => ?_)
  refine zt_iincv_5 (v := 2) dX11_wordAt_33 (by decide) rfl (by decide) ?_
  refine zt_goto (tgt := 18) dX11_wordAt_36 (by decide) ?_
  refine zt_ldcs (i := 9) (v := -20) dX11_wordAt_18 ⟨rfl, by decide⟩ ⟨rfl, rfl⟩ ?_
  refine zt_iload dX11_wordAt_20 rfl ?_
  refine zt_iload dX11_wordAt_22 rfl ?_
  refine zt_iadd dX11_wordAt_24 ?_
  refine zt_topv (v := 5) (by decide) ?_
  refine zt_callVS1r dX11_wordAt_25 ml_X11_155 (i := 9) ⟨rfl, by decide⟩ (Nat.le_of_ble_eq_true rfl) (zF.of_eq (r' := some (0, 111)) (by decide) rfl rfl rfl (c_sch (i := 9) (k := 5) ⟨rfl, by decide⟩ (by decide))) ?_
  refine zt_bipush dX11_wordAt_28 (by decide) ?_
  refine zt_icmp_eq (tgt := 39) dX11_wordAt_30 (by decide) (by decide) (by decide) (fun q => absurd q (by decide)) (fun c_30 => ?_)
  refine zt_iincv_5 (v := 3) dX11_wordAt_33 (by decide) rfl (by decide) ?_
  refine zt_goto (tgt := 18) dX11_wordAt_36 (by decide) ?_
  refine zt_ldcs (i := 9) (v := -20) dX11_wordAt_18 ⟨rfl, by decide⟩ ⟨rfl, rfl⟩ ?_
  refine zt_iload dX11_wordAt_20 rfl ?_
  refine zt_iload dX11_wordAt_22 rfl ?_
  refine zt_iadd dX11_wordAt_24 ?_
  refine zt_topv (v := 6) (by decide) ?_
  refine zt_callVS1r dX11_wordAt_25 ml_X11_155 (i := 9) ⟨rfl, by decide⟩ (Nat.le_of_ble_eq_true rfl) (zF.of_eq (r' := some (0, 116)) (by decide) rfl rfl rfl (c_sch (i := 9) (k := 6) ⟨rfl, by decide⟩ (by decide))) ?_
  refine zt_bipush dX11_wordAt_28 (by decide) ?_
  refine zt_icmp_eq (tgt := 39) dX11_wordAt_30 (by decide) (by decide) (by decide) (fun q => absurd q (by decide)) (fun c_30 => ?_)
  refine zt_iincv_5 (v := 4) dX11_wordAt_33 (by decide) rfl (by decide) ?_
  refine zt_goto (tgt := 18) dX11_wordAt_36 (by decide) ?_
  refine zt_ldcs (i := 9) (v := -20) dX11_wordAt_18 ⟨rfl, by decide⟩ ⟨rfl, rfl⟩ ?_
  refine zt_iload dX11_wordAt_20 rfl ?_
  refine zt_iload dX11_wordAt_22 rfl ?_
  refine zt_iadd dX11_wordAt_24 ?_
  refine zt_topv (v := 7) (by decide) ?_
  refine zt_callVS1r dX11_wordAt_25 ml_X11_155 (i := 9) ⟨rfl, by decide⟩ (Nat.le_of_ble_eq_true rfl) (zF.of_eq (r' := some (0, 32)) (by decide) rfl rfl rfl (c_sch (i := 9) (k := 7) ⟨rfl, by decide⟩ (by decide))) ?_
  refine zt_bipush dX11_wordAt_28 (by decide) ?_
  refine zt_icmp_eq (tgt := 39) dX11_wordAt_30 (by decide) (by decide) (by decide) (fun c_30 => ?_) (fun q => absurd q (by decide))
  refine zt_iload dX11_wordAt_39 rfl ?_
  refine zt_iload_n dX11_wordAt_41 rfl ?_
  refine zt_iload_n dX11_wordAt_42 rfl ?_
  refine zt_isub dX11_wordAt_43 ?_
  refine zt_icmp_ne (tgt := 51) dX11_wordAt_44 (by decide) (by decide) (by omega) (fun c_44 => ?_) (fun c_44 => ?_)
  · refine zt_iconst dX11_wordAt_51 ?_
    refine zt_istore_6 dX11_wordAt_52 (by decide) rfl ?_
    refine zt_iconst dX11_wordAt_54 ?_
    refine zt_istore_7 dX11_wordAt_55 (by decide) rfl ?_
    refine zt_iload dX11_wordAt_57 rfl ?_
    refine zt_iload dX11_wordAt_59 rfl ?_
    refine zt_icmp_ge (tgt := 104) dX11_wordAt_61 (by decide) (by decide) (by decide) (fun q => absurd q (by decide)) (fun c_61 => ?_)
    refine zt_iload dX11_wordAt_64 rfl ?_
    refine zt_if_eq (tgt := 104) dX11_wordAt_66 (by decide) (by decide) (fun c_66 => ?_) (fun q => absurd q (by decide))
    refine zt_iload dX11_wordAt_104 rfl ?_
    refine zt_if_eq (tgt := 111) dX11_wordAt_106 (by decide) (by decide) (fun c_106 => ?_) (fun q => absurd q (by decide))
    refine zt_iincv_3 (v := 2) dX11_wordAt_111 (by decide) rfl (by decide) ?_
    refine zt_iload dX11_wordAt_114 rfl ?_
    refine zt_iload dX11_wordAt_116 rfl ?_
    refine zt_iconst dX11_wordAt_118 ?_
    refine zt_iadd dX11_wordAt_119 ?_
    refine zt_topv (v := 5) (by decide) ?_
    refine zt_iadd dX11_wordAt_120 ?_
    refine zt_topv (v := 8) (by decide) ?_
    refine zt_istore_4 dX11_wordAt_121 (by decide) rfl ?_
    refine zt_goto (tgt := 5) dX11_wordAt_123 (by decide) ?_
    refine zt_kill_5 ?_
    refine zt_kill_6 ?_
    refine zt_kill_7 ?_
    exact l_wd2 hS hR hse hw n0 (fun z => by have z := z.1; replace z : (4 : Int) = e - s := z; omega)
  · refine zt_iconst dX11_wordAt_47 ?_
    refine zt_goto (tgt := 52) dX11_wordAt_48 (by decide) ?_
    refine zt_istore_6 dX11_wordAt_52 (by decide) rfl ?_
    refine zt_iconst dX11_wordAt_54 ?_
    refine zt_istore_7 dX11_wordAt_55 (by decide) rfl ?_
    refine zt_iload dX11_wordAt_57 rfl ?_
    refine zt_iload dX11_wordAt_59 rfl ?_
    refine zt_icmp_ge (tgt := 104) dX11_wordAt_61 (by decide) (by decide) (by decide) (fun q => absurd q (by decide)) (fun c_61 => ?_)
    refine zt_iload dX11_wordAt_64 rfl ?_
    refine zt_if_eq (tgt := 104) dX11_wordAt_66 (by decide) (by decide) (fun q => absurd q (by decide)) (fun c_66 => ?_)
    refine zt_ldcs (i := 9) (v := -20) dX11_wordAt_69 ⟨rfl, by decide⟩ ⟨rfl, rfl⟩ ?_
    refine zt_iload dX11_wordAt_71 rfl ?_
    refine zt_iload dX11_wordAt_73 rfl ?_
    refine zt_iadd dX11_wordAt_75 ?_
    refine zt_topv (v := 3) (by decide) ?_
    refine zt_callVS1r dX11_wordAt_76 ml_X11_155 (i := 9) ⟨rfl, by decide⟩ (Nat.le_of_ble_eq_true rfl) (zF.of_eq (r' := some (0, 114)) (by decide) rfl rfl rfl (c_sch (i := 9) (k := 3) ⟨rfl, by decide⟩ (by decide))) ?_
    refine zt_aload_n dX11_wordAt_79 rfl ?_
    refine zt_getv dX11_wordAt_80 fl_X11_9 (zs_38 hS) (rf_38_0 hR) ?_
    refine zt_iload_n dX11_wordAt_83 rfl ?_
    refine zt_iload dX11_wordAt_84 rfl ?_
    refine zt_iadd dX11_wordAt_86 ?_
    refine zt_baload dX11_wordAt_87 (zs_39 hS) (by decide) (by omega) (by omega) ?_
    have hc0 := hw (s + 0) (by omega) (by omega)
    refine zt_icmp_ne (tgt := 95) dX11_wordAt_88 (by decide) (by decide) (zbyte (hm.byte (zs_39 hS) (by omega) (by omega))) (fun c_88 => ?_) (fun c_88 => ?_)
    · refine zt_iconst dX11_wordAt_95 ?_
      refine zt_istore_6 dX11_wordAt_96 (by decide) rfl ?_
      refine zt_iincv_7 (v := 1) dX11_wordAt_98 (by decide) rfl (by decide) ?_
      refine zt_goto (tgt := 57) dX11_wordAt_101 (by decide) ?_
      refine zt_iload dX11_wordAt_57 rfl ?_
      refine zt_iload dX11_wordAt_59 rfl ?_
      refine zt_icmp_ge (tgt := 104) dX11_wordAt_61 (by decide) (by decide) (by decide) (fun q => absurd q (by decide)) (fun c_61 => ?_)
      refine zt_iload dX11_wordAt_64 rfl ?_
      refine zt_if_eq (tgt := 104) dX11_wordAt_66 (by decide) (by decide) (fun c_66 => ?_) (fun q => absurd q (by decide))
      refine zt_iload dX11_wordAt_104 rfl ?_
      refine zt_if_eq (tgt := 111) dX11_wordAt_106 (by decide) (by decide) (fun c_106 => ?_) (fun q => absurd q (by decide))
      refine zt_iincv_3 (v := 2) dX11_wordAt_111 (by decide) rfl (by decide) ?_
      refine zt_iload dX11_wordAt_114 rfl ?_
      refine zt_iload dX11_wordAt_116 rfl ?_
      refine zt_iconst dX11_wordAt_118 ?_
      refine zt_iadd dX11_wordAt_119 ?_
      refine zt_topv (v := 5) (by decide) ?_
      refine zt_iadd dX11_wordAt_120 ?_
      refine zt_topv (v := 8) (by decide) ?_
      refine zt_istore_4 dX11_wordAt_121 (by decide) rfl ?_
      refine zt_goto (tgt := 5) dX11_wordAt_123 (by decide) ?_
      refine zt_kill_5 ?_
      refine zt_kill_6 ?_
      refine zt_kill_7 ?_
      exact l_wd2 hS hR hse hw n0 (fun z => by have z := z.2 0 (by decide) (by decide); rw [show zsb 1 0 = 114 by decide] at z; omega)
    · refine zt_iconst dX11_wordAt_91 ?_
      refine zt_goto (tgt := 96) dX11_wordAt_92 (by decide) ?_
      refine zt_istore_6 dX11_wordAt_96 (by decide) rfl ?_
      refine zt_iincv_7 (v := 1) dX11_wordAt_98 (by decide) rfl (by decide) ?_
      refine zt_goto (tgt := 57) dX11_wordAt_101 (by decide) ?_
      refine zt_iload dX11_wordAt_57 rfl ?_
      refine zt_iload dX11_wordAt_59 rfl ?_
      refine zt_icmp_ge (tgt := 104) dX11_wordAt_61 (by decide) (by decide) (by decide) (fun q => absurd q (by decide)) (fun c_61 => ?_)
      refine zt_iload dX11_wordAt_64 rfl ?_
      refine zt_if_eq (tgt := 104) dX11_wordAt_66 (by decide) (by decide) (fun q => absurd q (by decide)) (fun c_66 => ?_)
      refine zt_ldcs (i := 9) (v := -20) dX11_wordAt_69 ⟨rfl, by decide⟩ ⟨rfl, rfl⟩ ?_
      refine zt_iload dX11_wordAt_71 rfl ?_
      refine zt_iload dX11_wordAt_73 rfl ?_
      refine zt_iadd dX11_wordAt_75 ?_
      refine zt_topv (v := 4) (by decide) ?_
      refine zt_callVS1r dX11_wordAt_76 ml_X11_155 (i := 9) ⟨rfl, by decide⟩ (Nat.le_of_ble_eq_true rfl) (zF.of_eq (r' := some (0, 111)) (by decide) rfl rfl rfl (c_sch (i := 9) (k := 4) ⟨rfl, by decide⟩ (by decide))) ?_
      refine zt_aload_n dX11_wordAt_79 rfl ?_
      refine zt_getv dX11_wordAt_80 fl_X11_9 (zs_38 hS) (rf_38_0 hR) ?_
      refine zt_iload_n dX11_wordAt_83 rfl ?_
      refine zt_iload dX11_wordAt_84 rfl ?_
      refine zt_iadd dX11_wordAt_86 ?_
      refine zt_baload dX11_wordAt_87 (zs_39 hS) (by decide) (by omega) (by omega) ?_
      have hc1 := hw (s + 1) (by omega) (by omega)
      refine zt_icmp_ne (tgt := 95) dX11_wordAt_88 (by decide) (by decide) (zbyte (hm.byte (zs_39 hS) (by omega) (by omega))) (fun c_88 => ?_) (fun c_88 => ?_)
      · refine zt_iconst dX11_wordAt_95 ?_
        refine zt_istore_6 dX11_wordAt_96 (by decide) rfl ?_
        refine zt_iincv_7 (v := 2) dX11_wordAt_98 (by decide) rfl (by decide) ?_
        refine zt_goto (tgt := 57) dX11_wordAt_101 (by decide) ?_
        refine zt_iload dX11_wordAt_57 rfl ?_
        refine zt_iload dX11_wordAt_59 rfl ?_
        refine zt_icmp_ge (tgt := 104) dX11_wordAt_61 (by decide) (by decide) (by decide) (fun q => absurd q (by decide)) (fun c_61 => ?_)
        refine zt_iload dX11_wordAt_64 rfl ?_
        refine zt_if_eq (tgt := 104) dX11_wordAt_66 (by decide) (by decide) (fun c_66 => ?_) (fun q => absurd q (by decide))
        refine zt_iload dX11_wordAt_104 rfl ?_
        refine zt_if_eq (tgt := 111) dX11_wordAt_106 (by decide) (by decide) (fun c_106 => ?_) (fun q => absurd q (by decide))
        refine zt_iincv_3 (v := 2) dX11_wordAt_111 (by decide) rfl (by decide) ?_
        refine zt_iload dX11_wordAt_114 rfl ?_
        refine zt_iload dX11_wordAt_116 rfl ?_
        refine zt_iconst dX11_wordAt_118 ?_
        refine zt_iadd dX11_wordAt_119 ?_
        refine zt_topv (v := 5) (by decide) ?_
        refine zt_iadd dX11_wordAt_120 ?_
        refine zt_topv (v := 8) (by decide) ?_
        refine zt_istore_4 dX11_wordAt_121 (by decide) rfl ?_
        refine zt_goto (tgt := 5) dX11_wordAt_123 (by decide) ?_
        refine zt_kill_5 ?_
        refine zt_kill_6 ?_
        refine zt_kill_7 ?_
        exact l_wd2 hS hR hse hw n0 (fun z => by have z := z.2 1 (by decide) (by decide); rw [show zsb 1 1 = 111 by decide] at z; omega)
      · refine zt_iconst dX11_wordAt_91 ?_
        refine zt_goto (tgt := 96) dX11_wordAt_92 (by decide) ?_
        refine zt_istore_6 dX11_wordAt_96 (by decide) rfl ?_
        refine zt_iincv_7 (v := 2) dX11_wordAt_98 (by decide) rfl (by decide) ?_
        refine zt_goto (tgt := 57) dX11_wordAt_101 (by decide) ?_
        refine zt_iload dX11_wordAt_57 rfl ?_
        refine zt_iload dX11_wordAt_59 rfl ?_
        refine zt_icmp_ge (tgt := 104) dX11_wordAt_61 (by decide) (by decide) (by decide) (fun q => absurd q (by decide)) (fun c_61 => ?_)
        refine zt_iload dX11_wordAt_64 rfl ?_
        refine zt_if_eq (tgt := 104) dX11_wordAt_66 (by decide) (by decide) (fun q => absurd q (by decide)) (fun c_66 => ?_)
        refine zt_ldcs (i := 9) (v := -20) dX11_wordAt_69 ⟨rfl, by decide⟩ ⟨rfl, rfl⟩ ?_
        refine zt_iload dX11_wordAt_71 rfl ?_
        refine zt_iload dX11_wordAt_73 rfl ?_
        refine zt_iadd dX11_wordAt_75 ?_
        refine zt_topv (v := 5) (by decide) ?_
        refine zt_callVS1r dX11_wordAt_76 ml_X11_155 (i := 9) ⟨rfl, by decide⟩ (Nat.le_of_ble_eq_true rfl) (zF.of_eq (r' := some (0, 111)) (by decide) rfl rfl rfl (c_sch (i := 9) (k := 5) ⟨rfl, by decide⟩ (by decide))) ?_
        refine zt_aload_n dX11_wordAt_79 rfl ?_
        refine zt_getv dX11_wordAt_80 fl_X11_9 (zs_38 hS) (rf_38_0 hR) ?_
        refine zt_iload_n dX11_wordAt_83 rfl ?_
        refine zt_iload dX11_wordAt_84 rfl ?_
        refine zt_iadd dX11_wordAt_86 ?_
        refine zt_baload dX11_wordAt_87 (zs_39 hS) (by decide) (by omega) (by omega) ?_
        have hc2 := hw (s + 2) (by omega) (by omega)
        refine zt_icmp_ne (tgt := 95) dX11_wordAt_88 (by decide) (by decide) (zbyte (hm.byte (zs_39 hS) (by omega) (by omega))) (fun c_88 => ?_) (fun c_88 => ?_)
        · refine zt_iconst dX11_wordAt_95 ?_
          refine zt_istore_6 dX11_wordAt_96 (by decide) rfl ?_
          refine zt_iincv_7 (v := 3) dX11_wordAt_98 (by decide) rfl (by decide) ?_
          refine zt_goto (tgt := 57) dX11_wordAt_101 (by decide) ?_
          refine zt_iload dX11_wordAt_57 rfl ?_
          refine zt_iload dX11_wordAt_59 rfl ?_
          refine zt_icmp_ge (tgt := 104) dX11_wordAt_61 (by decide) (by decide) (by decide) (fun q => absurd q (by decide)) (fun c_61 => ?_)
          refine zt_iload dX11_wordAt_64 rfl ?_
          refine zt_if_eq (tgt := 104) dX11_wordAt_66 (by decide) (by decide) (fun c_66 => ?_) (fun q => absurd q (by decide))
          refine zt_iload dX11_wordAt_104 rfl ?_
          refine zt_if_eq (tgt := 111) dX11_wordAt_106 (by decide) (by decide) (fun c_106 => ?_) (fun q => absurd q (by decide))
          refine zt_iincv_3 (v := 2) dX11_wordAt_111 (by decide) rfl (by decide) ?_
          refine zt_iload dX11_wordAt_114 rfl ?_
          refine zt_iload dX11_wordAt_116 rfl ?_
          refine zt_iconst dX11_wordAt_118 ?_
          refine zt_iadd dX11_wordAt_119 ?_
          refine zt_topv (v := 5) (by decide) ?_
          refine zt_iadd dX11_wordAt_120 ?_
          refine zt_topv (v := 8) (by decide) ?_
          refine zt_istore_4 dX11_wordAt_121 (by decide) rfl ?_
          refine zt_goto (tgt := 5) dX11_wordAt_123 (by decide) ?_
          refine zt_kill_5 ?_
          refine zt_kill_6 ?_
          refine zt_kill_7 ?_
          exact l_wd2 hS hR hse hw n0 (fun z => by have z := z.2 2 (by decide) (by decide); rw [show zsb 1 2 = 111 by decide] at z; omega)
        · refine zt_iconst dX11_wordAt_91 ?_
          refine zt_goto (tgt := 96) dX11_wordAt_92 (by decide) ?_
          refine zt_istore_6 dX11_wordAt_96 (by decide) rfl ?_
          refine zt_iincv_7 (v := 3) dX11_wordAt_98 (by decide) rfl (by decide) ?_
          refine zt_goto (tgt := 57) dX11_wordAt_101 (by decide) ?_
          refine zt_iload dX11_wordAt_57 rfl ?_
          refine zt_iload dX11_wordAt_59 rfl ?_
          refine zt_icmp_ge (tgt := 104) dX11_wordAt_61 (by decide) (by decide) (by decide) (fun q => absurd q (by decide)) (fun c_61 => ?_)
          refine zt_iload dX11_wordAt_64 rfl ?_
          refine zt_if_eq (tgt := 104) dX11_wordAt_66 (by decide) (by decide) (fun q => absurd q (by decide)) (fun c_66 => ?_)
          refine zt_ldcs (i := 9) (v := -20) dX11_wordAt_69 ⟨rfl, by decide⟩ ⟨rfl, rfl⟩ ?_
          refine zt_iload dX11_wordAt_71 rfl ?_
          refine zt_iload dX11_wordAt_73 rfl ?_
          refine zt_iadd dX11_wordAt_75 ?_
          refine zt_topv (v := 6) (by decide) ?_
          refine zt_callVS1r dX11_wordAt_76 ml_X11_155 (i := 9) ⟨rfl, by decide⟩ (Nat.le_of_ble_eq_true rfl) (zF.of_eq (r' := some (0, 116)) (by decide) rfl rfl rfl (c_sch (i := 9) (k := 6) ⟨rfl, by decide⟩ (by decide))) ?_
          refine zt_aload_n dX11_wordAt_79 rfl ?_
          refine zt_getv dX11_wordAt_80 fl_X11_9 (zs_38 hS) (rf_38_0 hR) ?_
          refine zt_iload_n dX11_wordAt_83 rfl ?_
          refine zt_iload dX11_wordAt_84 rfl ?_
          refine zt_iadd dX11_wordAt_86 ?_
          refine zt_baload dX11_wordAt_87 (zs_39 hS) (by decide) (by omega) (by omega) ?_
          have hc3 := hw (s + 3) (by omega) (by omega)
          refine zt_icmp_ne (tgt := 95) dX11_wordAt_88 (by decide) (by decide) (zbyte (hm.byte (zs_39 hS) (by omega) (by omega))) (fun c_88 => ?_) (fun c_88 => ?_)
          · refine zt_iconst dX11_wordAt_95 ?_
            refine zt_istore_6 dX11_wordAt_96 (by decide) rfl ?_
            refine zt_iincv_7 (v := 4) dX11_wordAt_98 (by decide) rfl (by decide) ?_
            refine zt_goto (tgt := 57) dX11_wordAt_101 (by decide) ?_
            refine zt_iload dX11_wordAt_57 rfl ?_
            refine zt_iload dX11_wordAt_59 rfl ?_
            refine zt_icmp_ge (tgt := 104) dX11_wordAt_61 (by decide) (by decide) (by decide) (fun c_61 => ?_) (fun q => absurd q (by decide))
            refine zt_iload dX11_wordAt_104 rfl ?_
            refine zt_if_eq (tgt := 111) dX11_wordAt_106 (by decide) (by decide) (fun c_106 => ?_) (fun q => absurd q (by decide))
            refine zt_iincv_3 (v := 2) dX11_wordAt_111 (by decide) rfl (by decide) ?_
            refine zt_iload dX11_wordAt_114 rfl ?_
            refine zt_iload dX11_wordAt_116 rfl ?_
            refine zt_iconst dX11_wordAt_118 ?_
            refine zt_iadd dX11_wordAt_119 ?_
            refine zt_topv (v := 5) (by decide) ?_
            refine zt_iadd dX11_wordAt_120 ?_
            refine zt_topv (v := 8) (by decide) ?_
            refine zt_istore_4 dX11_wordAt_121 (by decide) rfl ?_
            refine zt_goto (tgt := 5) dX11_wordAt_123 (by decide) ?_
            refine zt_kill_5 ?_
            refine zt_kill_6 ?_
            refine zt_kill_7 ?_
            exact l_wd2 hS hR hse hw n0 (fun z => by have z := z.2 3 (by decide) (by decide); rw [show zsb 1 3 = 116 by decide] at z; omega)
          · refine zt_iconst dX11_wordAt_91 ?_
            refine zt_goto (tgt := 96) dX11_wordAt_92 (by decide) ?_
            refine zt_istore_6 dX11_wordAt_96 (by decide) rfl ?_
            refine zt_iincv_7 (v := 4) dX11_wordAt_98 (by decide) rfl (by decide) ?_
            refine zt_goto (tgt := 57) dX11_wordAt_101 (by decide) ?_
            refine zt_iload dX11_wordAt_57 rfl ?_
            refine zt_iload dX11_wordAt_59 rfl ?_
            refine zt_icmp_ge (tgt := 104) dX11_wordAt_61 (by decide) (by decide) (by decide) (fun c_61 => ?_) (fun q => absurd q (by decide))
            refine zt_iload dX11_wordAt_104 rfl ?_
            refine zt_if_eq (tgt := 111) dX11_wordAt_106 (by decide) (by decide) (fun q => absurd q (by decide)) (fun c_106 => ?_)
            refine zt_iload_n dX11_wordAt_109 rfl ?_
            exact zt_iret dX11_wordAt_110 ⟨by rw [show wix T s e = 1 by unfold wix; rw [wit_f n0, wit_t (show isw T 1 s e from ⟨by show (4 : Int) = e - s; omega, fun j a b => by replace b : j < 4 := b; rcases (show j = 0 ∨ j = 1 ∨ j = 2 ∨ j = 3 by omega) with rfl | rfl | rfl | rfl <;> first | (rw [show zsb 1 0 = 114 by decide]; omega) | (rw [show zsb 1 1 = 111 by decide]; omega) | (rw [show zsb 1 2 = 111 by decide]; omega) | (rw [show zsb 1 3 = 116 by decide]; omega)⟩)]], rfl, rfl, rfl⟩

set_option maxRecDepth 100000 in
set_option maxHeartbeats 4000000 in
theorem l_wd0 {d n : Nat} {sh : zSh} {h : zMem} {s e : Int} {T : Int → Int} (hS : zShp sh) (hR : zRf h) (hse : (0 ≤ s ∧ s ≤ e) ∧ e ≤ 200) (hw : ∀ j, s ≤ j → j < e → h 39 j = T j) : zT yX11_wordAt cX11_wordAt 8 (some .int) (d + 4) 0 0 (zq (some (0, wix T s e)) n sh h) 5 [some (2, 38), some (0, s), some (0, e), some (0, 0), some (0, 1), none, none, none] [] n sh h := by
  refine zt_rg (fun hm => ?_)
  refine zt_iload dX11_wordAt_5 rfl ?_
  refine zt_ldcs (i := 9) (v := -20) dX11_wordAt_7 ⟨rfl, by decide⟩ ⟨rfl, rfl⟩ ?_
  refine zt_callVS0r dX11_wordAt_9 ml_X11_149 (i := 9) ⟨rfl, by decide⟩ (Nat.le_of_ble_eq_true rfl) (zF.of_eq (r' := some (0, 36)) rfl rfl rfl rfl (c_slen (i := 9) ⟨rfl, by decide⟩)) ?_
  refine zt_icmp_ge (tgt := 126) dX11_wordAt_12 (by decide) (by decide) (by decide) (fun q => absurd q (by decide)) (fun c_12 => ?_)
  refine zt_iconst dX11_wordAt_15 ?_
  refine zt_istore_5 dX11_wordAt_16 (by decide) rfl ?_
  refine zt_ldcs (i := 9) (v := -20) dX11_wordAt_18 ⟨rfl, by decide⟩ ⟨rfl, rfl⟩ ?_
  refine zt_iload dX11_wordAt_20 rfl ?_
  refine zt_iload dX11_wordAt_22 rfl ?_
  refine zt_iadd dX11_wordAt_24 ?_
  refine zt_topv (v := 1) (by decide) ?_
  refine zt_callVS1r dX11_wordAt_25 ml_X11_155 (i := 9) ⟨rfl, by decide⟩ (Nat.le_of_ble_eq_true rfl) (zF.of_eq (r' := some (0, 120)) (by decide) rfl rfl rfl (c_sch (i := 9) (k := 1) ⟨rfl, by decide⟩ (by decide))) ?_
  refine zt_bipush dX11_wordAt_28 (by decide) ?_
  refine zt_icmp_eq (tgt := 39) dX11_wordAt_30 (by decide) (by decide) (by decide) (fun q => absurd q (by decide)) (fun c_30 => ?_)
  refine zt_iincv_5 (v := 1) dX11_wordAt_33 (by decide) rfl (by decide) ?_
  refine zt_goto (tgt := 18) dX11_wordAt_36 (by decide) ?_
  refine zt_ldcs (i := 9) (v := -20) dX11_wordAt_18 ⟨rfl, by decide⟩ ⟨rfl, rfl⟩ ?_
  refine zt_iload dX11_wordAt_20 rfl ?_
  refine zt_iload dX11_wordAt_22 rfl ?_
  refine zt_iadd dX11_wordAt_24 ?_
  refine zt_topv (v := 2) (by decide) ?_
  refine zt_callVS1r dX11_wordAt_25 ml_X11_155 (i := 9) ⟨rfl, by decide⟩ (Nat.le_of_ble_eq_true rfl) (zF.of_eq (r' := some (0, 32)) (by decide) rfl rfl rfl (c_sch (i := 9) (k := 2) ⟨rfl, by decide⟩ (by decide))) ?_
  refine zt_bipush dX11_wordAt_28 (by decide) ?_
  refine zt_icmp_eq (tgt := 39) dX11_wordAt_30 (by decide) (by decide) (by decide) (fun c_30 => ?_) (fun q => absurd q (by decide))
  refine zt_iload dX11_wordAt_39 rfl ?_
  refine zt_iload_n dX11_wordAt_41 rfl ?_
  refine zt_iload_n dX11_wordAt_42 rfl ?_
  refine zt_isub dX11_wordAt_43 ?_
  refine zt_icmp_ne (tgt := 51) dX11_wordAt_44 (by decide) (by decide) (by omega) (fun c_44 => ?_) (fun c_44 => ?_)
  · refine zt_iconst dX11_wordAt_51 ?_
    refine zt_istore_6 dX11_wordAt_52 (by decide) rfl ?_
    refine zt_iconst dX11_wordAt_54 ?_
    refine zt_istore_7 dX11_wordAt_55 (by decide) rfl ?_
    refine zt_iload dX11_wordAt_57 rfl ?_
    refine zt_iload dX11_wordAt_59 rfl ?_
    refine zt_icmp_ge (tgt := 104) dX11_wordAt_61 (by decide) (by decide) (by decide) (fun q => absurd q (by decide)) (fun c_61 => ?_)
    refine zt_iload dX11_wordAt_64 rfl ?_
    refine zt_if_eq (tgt := 104) dX11_wordAt_66 (by decide) (by decide) (fun c_66 => ?_) (fun q => absurd q (by decide))
    refine zt_iload dX11_wordAt_104 rfl ?_
    refine zt_if_eq (tgt := 111) dX11_wordAt_106 (by decide) (by decide) (fun c_106 => ?_) (fun q => absurd q (by decide))
    refine zt_iincv_3 (v := 1) dX11_wordAt_111 (by decide) rfl (by decide) ?_
    refine zt_iload dX11_wordAt_114 rfl ?_
    refine zt_iload dX11_wordAt_116 rfl ?_
    refine zt_iconst dX11_wordAt_118 ?_
    refine zt_iadd dX11_wordAt_119 ?_
    refine zt_topv (v := 2) (by decide) ?_
    refine zt_iadd dX11_wordAt_120 ?_
    refine zt_topv (v := 3) (by decide) ?_
    refine zt_istore_4 dX11_wordAt_121 (by decide) rfl ?_
    refine zt_goto (tgt := 5) dX11_wordAt_123 (by decide) ?_
    refine zt_kill_5 ?_
    refine zt_kill_6 ?_
    refine zt_kill_7 ?_
    exact l_wd1 hS hR hse hw  (fun z => by have z := z.1; replace z : (1 : Int) = e - s := z; omega)
  · refine zt_iconst dX11_wordAt_47 ?_
    refine zt_goto (tgt := 52) dX11_wordAt_48 (by decide) ?_
    refine zt_istore_6 dX11_wordAt_52 (by decide) rfl ?_
    refine zt_iconst dX11_wordAt_54 ?_
    refine zt_istore_7 dX11_wordAt_55 (by decide) rfl ?_
    refine zt_iload dX11_wordAt_57 rfl ?_
    refine zt_iload dX11_wordAt_59 rfl ?_
    refine zt_icmp_ge (tgt := 104) dX11_wordAt_61 (by decide) (by decide) (by decide) (fun q => absurd q (by decide)) (fun c_61 => ?_)
    refine zt_iload dX11_wordAt_64 rfl ?_
    refine zt_if_eq (tgt := 104) dX11_wordAt_66 (by decide) (by decide) (fun q => absurd q (by decide)) (fun c_66 => ?_)
    refine zt_ldcs (i := 9) (v := -20) dX11_wordAt_69 ⟨rfl, by decide⟩ ⟨rfl, rfl⟩ ?_
    refine zt_iload dX11_wordAt_71 rfl ?_
    refine zt_iload dX11_wordAt_73 rfl ?_
    refine zt_iadd dX11_wordAt_75 ?_
    refine zt_topv (v := 1) (by decide) ?_
    refine zt_callVS1r dX11_wordAt_76 ml_X11_155 (i := 9) ⟨rfl, by decide⟩ (Nat.le_of_ble_eq_true rfl) (zF.of_eq (r' := some (0, 120)) (by decide) rfl rfl rfl (c_sch (i := 9) (k := 1) ⟨rfl, by decide⟩ (by decide))) ?_
    refine zt_aload_n dX11_wordAt_79 rfl ?_
    refine zt_getv dX11_wordAt_80 fl_X11_9 (zs_38 hS) (rf_38_0 hR) ?_
    refine zt_iload_n dX11_wordAt_83 rfl ?_
    refine zt_iload dX11_wordAt_84 rfl ?_
    refine zt_iadd dX11_wordAt_86 ?_
    refine zt_baload dX11_wordAt_87 (zs_39 hS) (by decide) (by omega) (by omega) ?_
    have hc0 := hw (s + 0) (by omega) (by omega)
    refine zt_icmp_ne (tgt := 95) dX11_wordAt_88 (by decide) (by decide) (zbyte (hm.byte (zs_39 hS) (by omega) (by omega))) (fun c_88 => ?_) (fun c_88 => ?_)
    · refine zt_iconst dX11_wordAt_95 ?_
      refine zt_istore_6 dX11_wordAt_96 (by decide) rfl ?_
      refine zt_iincv_7 (v := 1) dX11_wordAt_98 (by decide) rfl (by decide) ?_
      refine zt_goto (tgt := 57) dX11_wordAt_101 (by decide) ?_
      refine zt_iload dX11_wordAt_57 rfl ?_
      refine zt_iload dX11_wordAt_59 rfl ?_
      refine zt_icmp_ge (tgt := 104) dX11_wordAt_61 (by decide) (by decide) (by decide) (fun c_61 => ?_) (fun q => absurd q (by decide))
      refine zt_iload dX11_wordAt_104 rfl ?_
      refine zt_if_eq (tgt := 111) dX11_wordAt_106 (by decide) (by decide) (fun c_106 => ?_) (fun q => absurd q (by decide))
      refine zt_iincv_3 (v := 1) dX11_wordAt_111 (by decide) rfl (by decide) ?_
      refine zt_iload dX11_wordAt_114 rfl ?_
      refine zt_iload dX11_wordAt_116 rfl ?_
      refine zt_iconst dX11_wordAt_118 ?_
      refine zt_iadd dX11_wordAt_119 ?_
      refine zt_topv (v := 2) (by decide) ?_
      refine zt_iadd dX11_wordAt_120 ?_
      refine zt_topv (v := 3) (by decide) ?_
      refine zt_istore_4 dX11_wordAt_121 (by decide) rfl ?_
      refine zt_goto (tgt := 5) dX11_wordAt_123 (by decide) ?_
      refine zt_kill_5 ?_
      refine zt_kill_6 ?_
      refine zt_kill_7 ?_
      exact l_wd1 hS hR hse hw  (fun z => by have z := z.2 0 (by decide) (by decide); rw [show zsb 0 0 = 120 by decide] at z; omega)
    · refine zt_iconst dX11_wordAt_91 ?_
      refine zt_goto (tgt := 96) dX11_wordAt_92 (by decide) ?_
      refine zt_istore_6 dX11_wordAt_96 (by decide) rfl ?_
      refine zt_iincv_7 (v := 1) dX11_wordAt_98 (by decide) rfl (by decide) ?_
      refine zt_goto (tgt := 57) dX11_wordAt_101 (by decide) ?_
      refine zt_iload dX11_wordAt_57 rfl ?_
      refine zt_iload dX11_wordAt_59 rfl ?_
      refine zt_icmp_ge (tgt := 104) dX11_wordAt_61 (by decide) (by decide) (by decide) (fun c_61 => ?_) (fun q => absurd q (by decide))
      refine zt_iload dX11_wordAt_104 rfl ?_
      refine zt_if_eq (tgt := 111) dX11_wordAt_106 (by decide) (by decide) (fun q => absurd q (by decide)) (fun c_106 => ?_)
      refine zt_iload_n dX11_wordAt_109 rfl ?_
      exact zt_iret dX11_wordAt_110 ⟨by rw [show wix T s e = 0 by unfold wix; rw [wit_t (show isw T 0 s e from ⟨by show (1 : Int) = e - s; omega, fun j a b => by replace b : j < 1 := b; rcases (show j = 0 by omega) with rfl <;> first | (rw [show zsb 0 0 = 120 by decide]; omega)⟩)]], rfl, rfl, rfl⟩

set_option maxRecDepth 100000 in
set_option maxHeartbeats 4000000 in
theorem c_mwd {d n : Nat} {sh : zSh} {h : zMem} {s e : Int} {T : Int → Int} (hS : zShp sh) (hR : zRf h) (hse : (0 ≤ s ∧ s ≤ e) ∧ e ≤ 200) (hw : ∀ j, s ≤ j → j < e → h 39 j = T j)  : zF yX11_wordAt cX11_wordAt 8 (some .int) (d + 4) 0 0 [(2, 38), (0, s), (0, e)] n sh h (some (0, wix T s e)) n sh h := by
  refine zF.ofT (by decide +kernel) [some (2, 38), some (0, s), some (0, e), none, none, none, none, none] rfl (Nat.le_of_ble_eq_true rfl) ?_
  refine zt_iconst dX11_wordAt_0 ?_
  refine zt_istore_n_3 dX11_wordAt_1 (by decide) rfl ?_
  refine zt_iconst dX11_wordAt_2 ?_
  refine zt_istore_4 dX11_wordAt_3 (by decide) rfl ?_
  exact l_wd0 hS hR hse hw

theorem byR {x y c : Int} (h : (x < 128 ∧ y = x) ∨ (128 ≤ x ∧ y = x - 256)) (hx : x ≤ 255) (e : y = c) (hc : 0 ≤ c) : x = c := by omega
theorem byE {x y c : Int} (h : (x < 128 ∧ y = x) ∨ (128 ≤ x ∧ y = x - 256)) (e : x = c) (hc : c < 128) : y = c := by omega
theorem sgI_o {x c : Int} (e : x = c) (h : 0 ≤ sgI c) : 0 ≤ sgI x := e ▸ h
theorem mtk_s {x y N : Int} (h : (x < 128 ∧ y = x) ∨ (128 ≤ x ∧ y = x - 256)) (hs : 0 ≤ sgI x) : mtk x N 3 y := by
  have := sgI_v hs
  exact Or.inr (Or.inr (Or.inr (Or.inl ⟨by omega, by omega, rfl, by omega⟩)))

set_option maxRecDepth 100000 in
set_option maxHeartbeats 4000000 in
theorem l_nxw {d n : Nat} {sh : zSh} {h : zMem} {p b : Int} (hS : zShp sh) (hR : zRf h) (hX : mTg h) (hm0 : True) (hz : h 38 1 = h (-2001) 1) (hl : 0 ≤ h (-2001) 1 ∧ h (-2001) 1 ≤ 200) (hkS : kS (h (-2002)) (h (-2001) 1) p = b) (hb : 0 ≤ b ∧ b < h (-2001) 1) (hlet : 97 ≤ h (-2002) b ∧ h (-2002) b ≤ 122)  : ∀ (k : Nat) (a : Int), h (-2001) 1 - a < (k : Int) → (b ≤ a ∧ a ≤ h (-2001) 1) → sc 97 122 (h (-2002)) (h (-2001) 1) b = sc 97 122 (h (-2002)) (h (-2001) 1) a → (∀ j, b ≤ j → j < a → 97 ≤ h (-2002) j ∧ h (-2002) j ≤ 122) → zT yX11_next cX11_next 2 none (d + 5) 0 0 (fun r n1 sh1 h1 => r = none ∧ n1 = n ∧ sh1 = sh ∧ ∃ v t, h1 = nM h (kE (h (-2002)) (h (-2001) 1) p) (kS (h (-2002)) (h (-2001) 1) p) v t ∧ mtk (kK (h (-2002)) (h (-2001) 1) p) (kN (h (-2002)) (h (-2001) 1) p) t v) 85 [some (2, 38), none] [] n sh (nM h a b 0 0) := by
  intro k
  induction k with
  | zero => intros; exfalso; omega
  | succ k ih =>
    intro a hk h0 hr hin
    refine zt_aload_n dX11_next_85 rfl ?_
    refine zt_getv (v := a) dX11_next_86 fl_X11_159 (zs_38 hS) nM_38 ?_
    refine zt_aload_n dX11_next_89 rfl ?_
    refine zt_getv (v := h 38 1) dX11_next_90 fl_X11_140 (zs_38 hS) (nM_o (by decide)) ?_
    refine zt_icmp_ge (tgt := 124) dX11_next_93 (by decide) (by omega) (by omega) (fun c_93 => ?_) (fun c_93 => ?_)
    · refine zt_aload_n dX11_next_124 rfl ?_
      refine zt_iconst dX11_next_125 ?_
      refine zt_puti dX11_next_126 fl_X11_168 rfl (zs_38 hS) (by decide) ?_
      rw [nM_3]
      refine zt_aload_n dX11_next_129 rfl ?_
      refine zt_aload_n dX11_next_130 rfl ?_
      refine zt_aload_n dX11_next_131 rfl ?_
      refine zt_getv (v := b) dX11_next_132 fl_X11_162 (zs_38 hS) nM_38 ?_
      refine zt_aload_n dX11_next_135 rfl ?_
      refine zt_getv (v := a) dX11_next_136 fl_X11_159 (zs_38 hS) nM_38 ?_
      refine zt_callV2r dX11_next_139 ml_X11_175 (zs_38 hS) (Nat.le_of_ble_eq_true rfl) (c_mwd (T := h (-2002)) hS (nM_rf hR) (by omega) (fun j q1 q2 => by rw [nM_n (by decide)]; have h1 := hin j q1 q2; have h2 := hX.2.2 j (by omega) (by omega); omega)) ?_
      refine zt_puti dX11_next_142 fl_X11_165 rfl (zs_38 hS) (by have := wix_b (T := h (-2002)) (s := b) (e := a); omega) ?_
      refine zt_goto (tgt := 326) dX11_next_145 (by decide) ?_
      rw [nM_5]
      have hst : ¬ (a < h (-2001) 1 ∧ 97 ≤ h (-2002) a ∧ h (-2002) a ≤ 122) := fun q => by have := hX.2.2 a (by omega) (by omega); omega
      have hkE : kE (h (-2002)) (h (-2001) 1) p = a := by rw [kE_w (by omega) (by rw [hkS]; exact hlet), hkS, hr, sc_e hst]
      have hwb := wix_b (T := h (-2002)) (s := b) (e := a)
      have hmt : mtk (kK (h (-2002)) (h (-2001) 1) p) (kN (h (-2002)) (h (-2001) 1) p) 2 (wix (h (-2002)) b a) := by
        rw [kK_w (by omega) (by rw [hkS]; exact hlet), hkS, hkE]; unfold mtk wkd; split <;> omega
      exact zt_vret dX11_next_326 ⟨rfl, rfl, rfl, wix (h (-2002)) b a, 2, by rw [hkE, hkS], hmt⟩
    · have hby : (h (-2002) a < 128 ∧ h 39 a = h (-2002) a) ∨ (128 ≤ h (-2002) a ∧ h 39 a = h (-2002) a - 256) := hX.2.2 a (by omega) (by omega)
      have hb2 := hX.1.2 a (by omega) (by omega)
      refine zt_aload_n dX11_next_96 rfl ?_
      refine zt_getv dX11_next_97 fl_X11_9 (zs_38 hS) (rf_38_0 (nM_rf hR)) ?_
      refine zt_aload_n dX11_next_100 rfl ?_
      refine zt_getv (v := a) dX11_next_101 fl_X11_159 (zs_38 hS) nM_38 ?_
      refine zt_baloadv (v := h 39 a) dX11_next_104 (zs_39 hS) (by decide) (by omega) (by omega) (congrFun (nM_n (by decide)) _) ?_
      refine zt_callS1r dX11_next_105 ml_X11_171 (Nat.le_of_ble_eq_true rfl) (c_mlet (by omega)) ?_
      refine zt_ifb_eq (tgt := 124) dX11_next_108 (by decide) (fun c_108 => ?_) (fun c_108 => ?_)
      · refine zt_aload_n dX11_next_124 rfl ?_
        refine zt_iconst dX11_next_125 ?_
        refine zt_puti dX11_next_126 fl_X11_168 rfl (zs_38 hS) (by decide) ?_
        rw [nM_3]
        refine zt_aload_n dX11_next_129 rfl ?_
        refine zt_aload_n dX11_next_130 rfl ?_
        refine zt_aload_n dX11_next_131 rfl ?_
        refine zt_getv (v := b) dX11_next_132 fl_X11_162 (zs_38 hS) nM_38 ?_
        refine zt_aload_n dX11_next_135 rfl ?_
        refine zt_getv (v := a) dX11_next_136 fl_X11_159 (zs_38 hS) nM_38 ?_
        refine zt_callV2r dX11_next_139 ml_X11_175 (zs_38 hS) (Nat.le_of_ble_eq_true rfl) (c_mwd (T := h (-2002)) hS (nM_rf hR) (by omega) (fun j q1 q2 => by rw [nM_n (by decide)]; have h1 := hin j q1 q2; have h2 := hX.2.2 j (by omega) (by omega); omega)) ?_
        refine zt_puti dX11_next_142 fl_X11_165 rfl (zs_38 hS) (by have := wix_b (T := h (-2002)) (s := b) (e := a); omega) ?_
        refine zt_goto (tgt := 326) dX11_next_145 (by decide) ?_
        rw [nM_5]
        have hst : ¬ (a < h (-2001) 1 ∧ 97 ≤ h (-2002) a ∧ h (-2002) a ≤ 122) := fun q => by have := hX.2.2 a (by omega) (by omega); omega
        have hkE : kE (h (-2002)) (h (-2001) 1) p = a := by rw [kE_w (by omega) (by rw [hkS]; exact hlet), hkS, hr, sc_e hst]
        have hwb := wix_b (T := h (-2002)) (s := b) (e := a)
        have hmt : mtk (kK (h (-2002)) (h (-2001) 1) p) (kN (h (-2002)) (h (-2001) 1) p) 2 (wix (h (-2002)) b a) := by
          rw [kK_w (by omega) (by rw [hkS]; exact hlet), hkS, hkE]; unfold mtk wkd; split <;> omega
        exact zt_vret dX11_next_326 ⟨rfl, rfl, rfl, wix (h (-2002)) b a, 2, by rw [hkE, hkS], hmt⟩
      · refine zt_aload_n dX11_next_111 rfl ?_
        refine zt_dup dX11_next_112 (Nat.ne_of_beq_eq_false rfl) ?_
        refine zt_getv (v := a) dX11_next_113 fl_X11_159 (zs_38 hS) nM_38 ?_
        refine zt_iconst dX11_next_116 ?_
        refine zt_iadd dX11_next_117 ?_
        refine zt_puti dX11_next_118 fl_X11_159 rfl (zs_38 hS) (by omega) ?_
        refine zt_goto (tgt := 85) dX11_next_121 (by decide) ?_
        rw [nM_2]
        exact ih (a + 1) (by omega) (by omega) (by rw [hr]; exact sc_s (by omega)) (fun j q1 q2 => by by_cases z : j = a; subst z; omega; exact hin j q1 (by omega))

set_option maxRecDepth 100000 in
set_option maxHeartbeats 4000000 in
theorem l_nxn {d n : Nat} {sh : zSh} {h : zMem} {p b : Int} (hS : zShp sh) (hR : zRf h) (hX : mTg h) (hz : h 38 1 = h (-2001) 1) (hl : 0 ≤ h (-2001) 1 ∧ h (-2001) 1 ≤ 200) (hkS : kS (h (-2002)) (h (-2001) 1) p = b) (hb : 0 ≤ b ∧ b < h (-2001) 1) (hlet : 48 ≤ h (-2002) b ∧ h (-2002) b ≤ 57)  : ∀ (k : Nat) (a : Int) (v : Int) (u : Int), h (-2001) 1 - a < (k : Int) → (b ≤ a ∧ a ≤ h (-2001) 1) → sc 48 57 (h (-2002)) (h (-2001) 1) b = sc 48 57 (h (-2002)) (h (-2001) 1) a → nv (h (-2002)) (h (-2001) 1) b 0 = nv (h (-2002)) (h (-2001) 1) a u → ((0 ≤ u ∧ u ≤ 999999 ∧ v = u) ∨ (u = 1000000 ∧ 999999 < v ∧ v ≤ 100000100)) → zT yX11_next cX11_next 2 none (d + 5) 0 0 (fun r n1 sh1 h1 => r = none ∧ n1 = n ∧ sh1 = sh ∧ ∃ v t, h1 = nM h (kE (h (-2002)) (h (-2001) 1) p) (kS (h (-2002)) (h (-2001) 1) p) v t ∧ mtk (kK (h (-2002)) (h (-2001) 1) p) (kN (h (-2002)) (h (-2001) 1) p) t v) 155 [some (2, 38), none] [] n sh (nM h a b v 0) := by
  intro k
  induction k with
  | zero => intros; exfalso; omega
  | succ k ih =>
    intro a v u hk h0 hr hnv huv
    refine zt_aload_n dX11_next_155 rfl ?_
    refine zt_getv (v := a) dX11_next_156 fl_X11_159 (zs_38 hS) nM_38 ?_
    refine zt_aload_n dX11_next_159 rfl ?_
    refine zt_getv (v := h 38 1) dX11_next_160 fl_X11_140 (zs_38 hS) (nM_o (by decide)) ?_
    refine zt_icmp_ge (tgt := 234) dX11_next_163 (by decide) (by omega) (by omega) (fun c_163 => ?_) (fun c_163 => ?_)
    · refine zt_aload_n dX11_next_234 rfl ?_
      refine zt_iconst dX11_next_235 ?_
      refine zt_puti dX11_next_236 fl_X11_168 rfl (zs_38 hS) (by decide) ?_
      refine zt_goto (tgt := 326) dX11_next_239 (by decide) ?_
      rw [nM_3]
      have hst : ¬ (a < h (-2001) 1 ∧ 48 ≤ h (-2002) a ∧ h (-2002) a ≤ 57) := fun q => by have := hX.2.2 a (by omega) (by omega); omega
      have hkE : kE (h (-2002)) (h (-2001) 1) p = a := by rw [kE_n (by omega) (by rw [hkS]; exact hlet), hkS, hr, sc_e hst]
      have hkN : kN (h (-2002)) (h (-2001) 1) p = u := by unfold kN; rw [hkS, hnv, nv_e hst]
      have hmt : mtk (kK (h (-2002)) (h (-2001) 1) p) (kN (h (-2002)) (h (-2001) 1) p) 1 v := by
        rw [kK_n (by omega) (by rw [hkS]; exact hlet), hkN]; unfold mtk; split <;> omega
      exact zt_vret dX11_next_326 ⟨rfl, rfl, rfl, v, 1, by rw [hkE, hkS], hmt⟩
    · have hby : (h (-2002) a < 128 ∧ h 39 a = h (-2002) a) ∨ (128 ≤ h (-2002) a ∧ h 39 a = h (-2002) a - 256) := hX.2.2 a (by omega) (by omega)
      have hb2 := hX.1.2 a (by omega) (by omega)
      refine zt_aload_n dX11_next_166 rfl ?_
      refine zt_getv dX11_next_167 fl_X11_9 (zs_38 hS) (rf_38_0 (nM_rf hR)) ?_
      refine zt_aload_n dX11_next_170 rfl ?_
      refine zt_getv (v := a) dX11_next_171 fl_X11_159 (zs_38 hS) nM_38 ?_
      refine zt_baloadv (v := h 39 a) dX11_next_174 (zs_39 hS) (by decide) (by omega) (by omega) (congrFun (nM_n (by decide)) _) ?_
      refine zt_callS1r dX11_next_175 ml_X11_179 (Nat.le_of_ble_eq_true rfl) (c_mdig (by omega)) ?_
      refine zt_ifb_eq (tgt := 234) dX11_next_178 (by decide) (fun c_178 => ?_) (fun c_178 => ?_)
      · refine zt_aload_n dX11_next_234 rfl ?_
        refine zt_iconst dX11_next_235 ?_
        refine zt_puti dX11_next_236 fl_X11_168 rfl (zs_38 hS) (by decide) ?_
        refine zt_goto (tgt := 326) dX11_next_239 (by decide) ?_
        rw [nM_3]
        have hst : ¬ (a < h (-2001) 1 ∧ 48 ≤ h (-2002) a ∧ h (-2002) a ≤ 57) := fun q => by have := hX.2.2 a (by omega) (by omega); omega
        have hkE : kE (h (-2002)) (h (-2001) 1) p = a := by rw [kE_n (by omega) (by rw [hkS]; exact hlet), hkS, hr, sc_e hst]
        have hkN : kN (h (-2002)) (h (-2001) 1) p = u := by unfold kN; rw [hkS, hnv, nv_e hst]
        have hmt : mtk (kK (h (-2002)) (h (-2001) 1) p) (kN (h (-2002)) (h (-2001) 1) p) 1 v := by
          rw [kK_n (by omega) (by rw [hkS]; exact hlet), hkN]; unfold mtk; split <;> omega
        exact zt_vret dX11_next_326 ⟨rfl, rfl, rfl, v, 1, by rw [hkE, hkS], hmt⟩
      · refine zt_aload_n dX11_next_181 rfl ?_
        refine zt_aload_n dX11_next_182 rfl ?_
        refine zt_getv (v := v) dX11_next_183 fl_X11_165 (zs_38 hS) nM_38 ?_
        refine zt_ldc dX11_next_186 kc_X11_182 ?_
        refine zt_icmp_le (tgt := 198) dX11_next_188 (by decide) (by omega) (by decide) (fun c_188 => ?_) (fun c_188 => ?_)
        · refine zt_bipush dX11_next_198 (by decide) ?_
          refine zt_aload_n dX11_next_200 rfl ?_
          refine zt_getv (v := v) dX11_next_201 fl_X11_165 (zs_38 hS) nM_38 ?_
          refine zt_imul dX11_next_204 ?_
          refine zt_aload_n dX11_next_205 rfl ?_
          refine zt_getv dX11_next_206 fl_X11_9 (zs_38 hS) (rf_38_0 (nM_rf hR)) ?_
          refine zt_aload_n dX11_next_209 rfl ?_
          refine zt_getv (v := a) dX11_next_210 fl_X11_159 (zs_38 hS) nM_38 ?_
          refine zt_baloadv (v := h 39 a) dX11_next_213 (zs_39 hS) (by decide) (by omega) (by omega) (congrFun (nM_n (by decide)) _) ?_
          refine zt_iadd dX11_next_214 ?_
          refine zt_bipush dX11_next_215 (by decide) ?_
          refine zt_isub dX11_next_217 ?_
          refine zt_puti dX11_next_218 fl_X11_165 rfl (zs_38 hS) (by omega) ?_
          refine zt_aload_n dX11_next_221 rfl ?_
          refine zt_dup dX11_next_222 (Nat.ne_of_beq_eq_false rfl) ?_
          refine zt_getv (v := a) dX11_next_223 fl_X11_159 (zs_38 hS) ((zupJ (by decide)).trans nM_38) ?_
          refine zt_iconst dX11_next_226 ?_
          refine zt_iadd dX11_next_227 ?_
          refine zt_puti dX11_next_228 fl_X11_159 rfl (zs_38 hS) (by omega) ?_
          refine zt_goto (tgt := 155) dX11_next_231 (by decide) ?_
          have hdg : a < h (-2001) 1 ∧ 48 ≤ h (-2002) a ∧ h (-2002) a ≤ 57 := by omega
          rw [nM_5, nM_2]
          exact ih (a + 1) (((10 * v) + (h 39 a)) - 48) (if u * 10 + h (-2002) a - 48 < 1000000 then u * 10 + h (-2002) a - 48 else 1000000) (by omega) (by omega) (by rw [hr]; exact sc_s hdg) (by rw [hnv, nv_s hdg]) (by split <;> omega)
        · refine zt_aload_n dX11_next_191 rfl ?_
          refine zt_getv (v := v) dX11_next_192 fl_X11_165 (zs_38 hS) nM_38 ?_
          refine zt_goto (tgt := 218) dX11_next_195 (by decide) ?_
          refine zt_puti dX11_next_218 fl_X11_165 rfl (zs_38 hS) (by omega) ?_
          refine zt_aload_n dX11_next_221 rfl ?_
          refine zt_dup dX11_next_222 (Nat.ne_of_beq_eq_false rfl) ?_
          refine zt_getv (v := a) dX11_next_223 fl_X11_159 (zs_38 hS) ((zupJ (by decide)).trans nM_38) ?_
          refine zt_iconst dX11_next_226 ?_
          refine zt_iadd dX11_next_227 ?_
          refine zt_puti dX11_next_228 fl_X11_159 rfl (zs_38 hS) (by omega) ?_
          refine zt_goto (tgt := 155) dX11_next_231 (by decide) ?_
          have hdg : a < h (-2001) 1 ∧ 48 ≤ h (-2002) a ∧ h (-2002) a ≤ 57 := by omega
          rw [nM_5, nM_2]
          exact ih (a + 1) v (if u * 10 + h (-2002) a - 48 < 1000000 then u * 10 + h (-2002) a - 48 else 1000000) (by omega) (by omega) (by rw [hr]; exact sc_s hdg) (by rw [hnv, nv_s hdg]) (by split <;> omega)

set_option maxRecDepth 100000 in
set_option maxHeartbeats 4000000 in
theorem l_nx1 {d n : Nat} {sh : zSh} {h : zMem} {p b v t : Int} (hS : zShp sh) (hR : zRf h) (hX : mTg h) (hz : h 38 1 = h (-2001) 1) (hl : 0 ≤ h (-2001) 1 ∧ h (-2001) 1 ≤ 200) (hp : 0 ≤ p)  : ∀ (k : Nat) (a : Int), h (-2001) 1 - a < (k : Int) → (p ≤ a ∧ a ≤ h (-2001) 1) → kS (h (-2002)) (h (-2001) 1) p = sc 32 32 (h (-2002)) (h (-2001) 1) a → zT yX11_next cX11_next 2 none (d + 5) 0 0 (fun r n1 sh1 h1 => r = none ∧ n1 = n ∧ sh1 = sh ∧ ∃ v t, h1 = nM h (kE (h (-2002)) (h (-2001) 1) p) (kS (h (-2002)) (h (-2001) 1) p) v t ∧ mtk (kK (h (-2002)) (h (-2001) 1) p) (kN (h (-2002)) (h (-2001) 1) p) t v) 0 [some (2, 38), none] [] n sh (nM h a b v t) := by
  intro k
  induction k with
  | zero => intros; exfalso; omega
  | succ k ih =>
    intro a hk h0 hr
    refine zt_aload_n dX11_next_0 rfl ?_
    refine zt_getv (v := a) dX11_next_1 fl_X11_159 (zs_38 hS) nM_38 ?_
    refine zt_aload_n dX11_next_4 rfl ?_
    refine zt_getv (v := h 38 1) dX11_next_5 fl_X11_140 (zs_38 hS) (nM_o (by decide)) ?_
    refine zt_icmp_ge (tgt := 38) dX11_next_8 (by decide) (by omega) (by omega) (fun c_8 => ?_) (fun c_8 => ?_)
    · refine zt_aload_n dX11_next_38 rfl ?_
      refine zt_aload_n dX11_next_39 rfl ?_
      refine zt_getv (v := a) dX11_next_40 fl_X11_159 (zs_38 hS) nM_38 ?_
      refine zt_puti dX11_next_43 fl_X11_162 rfl (zs_38 hS) (by omega) ?_
      refine zt_aload_n dX11_next_46 rfl ?_
      refine zt_iconst dX11_next_47 ?_
      refine zt_puti dX11_next_48 fl_X11_165 rfl (zs_38 hS) (by decide) ?_
      refine zt_aload_n dX11_next_51 rfl ?_
      refine zt_iconst dX11_next_52 ?_
      refine zt_puti dX11_next_53 fl_X11_168 rfl (zs_38 hS) (by decide) ?_
      have hst : ¬ (a < h (-2001) 1 ∧ 32 ≤ h (-2002) a ∧ h (-2002) a ≤ 32) := fun q => by have := hX.2.2 a (by omega) (by omega); omega
      have hkS : kS (h (-2002)) (h (-2001) 1) p = a := hr.trans (sc_e hst)
      rw [nM_4, nM_5, nM_3]
      refine zt_aload_n dX11_next_56 rfl ?_
      refine zt_getv (v := a) dX11_next_57 fl_X11_159 (zs_38 hS) nM_38 ?_
      refine zt_aload_n dX11_next_60 rfl ?_
      refine zt_getv (v := h 38 1) dX11_next_61 fl_X11_140 (zs_38 hS) (nM_o (by decide)) ?_
      refine zt_icmp_ne (tgt := 68) dX11_next_64 (by decide) (by omega) (by omega) (fun c_64 => ?_) (fun c_64 => ?_)
      · have hby : (h (-2002) a < 128 ∧ h 39 a = h (-2002) a) ∨ (128 ≤ h (-2002) a ∧ h 39 a = h (-2002) a - 256) := hX.2.2 a (by omega) (by omega)
        have hb2 := hX.1.2 a (by omega) (by omega)
        have f0 : ¬ h (-2001) 1 ≤ kS (h (-2002)) (h (-2001) 1) p := by omega
        have hr39 : zi32 (h 39 a) := by omega
        have hra : zi32 (a + 1) := by omega
        refine zt_aload_n dX11_next_68 rfl ?_
        refine zt_getv dX11_next_69 fl_X11_9 (zs_38 hS) (rf_38_0 (nM_rf hR)) ?_
        refine zt_aload_n dX11_next_72 rfl ?_
        refine zt_getv (v := a) dX11_next_73 fl_X11_159 (zs_38 hS) nM_38 ?_
        refine zt_baloadv (v := h 39 a) dX11_next_76 (zs_39 hS) (by decide) (by omega) (by omega) (congrFun (nM_n (by decide)) _) ?_
        refine zt_istore_n_1 dX11_next_77 (by decide) rfl ?_
        refine zt_iload_n dX11_next_78 rfl ?_
        refine zt_callS1r dX11_next_79 ml_X11_171 (Nat.le_of_ble_eq_true rfl) (c_mlet (by omega)) ?_
        refine zt_ifb_eq (tgt := 148) dX11_next_82 (by decide) (fun c_82 => ?_) (fun c_82 => ?_)
        · refine zt_iload_n dX11_next_148 rfl ?_
          refine zt_callS1r dX11_next_149 ml_X11_179 (Nat.le_of_ble_eq_true rfl) (c_mdig (by omega)) ?_
          refine zt_ifb_eq (tgt := 242) dX11_next_152 (by decide) (fun c_152 => ?_) (fun c_152 => ?_)
          · have f1 : ¬ (97 ≤ h (-2002) (kS (h (-2002)) (h (-2001) 1) p) ∧ h (-2002) (kS (h (-2002)) (h (-2001) 1) p) ≤ 122) := by rw [hkS]; omega
            have f2 : ¬ (48 ≤ h (-2002) (kS (h (-2002)) (h (-2001) 1) p) ∧ h (-2002) (kS (h (-2002)) (h (-2001) 1) p) ≤ 57) := by rw [hkS]; omega
            refine zt_aload_n dX11_next_242 rfl ?_
            refine zt_iload_n dX11_next_243 rfl ?_
            refine zt_bipush dX11_next_244 (by decide) ?_
            refine zt_icmp_eq (tgt := 303) dX11_next_246 (by decide) hr39 (by decide) (fun c_246 => ?_) (fun c_246 => ?_)
            · refine zt_iconst dX11_next_303 ?_
              refine zt_goto (tgt := 308) dX11_next_304 (by decide) ?_
              refine zt_puti dX11_next_308 fl_X11_168 rfl (zs_38 hS) (by decide) ?_
              refine zt_aload_n dX11_next_311 rfl ?_
              refine zt_iload_n dX11_next_312 rfl ?_
              refine zt_puti dX11_next_313 fl_X11_165 rfl (zs_38 hS) hr39 ?_
              refine zt_aload_n dX11_next_316 rfl ?_
              refine zt_dup dX11_next_317 (Nat.ne_of_beq_eq_false rfl) ?_
              refine zt_getv (v := a) dX11_next_318 fl_X11_159 (zs_38 hS) ((zupJ (by decide)).trans ((zupJ (by decide)).trans nM_38)) ?_
              refine zt_iconst dX11_next_321 ?_
              refine zt_iadd dX11_next_322 ?_
              refine zt_puti dX11_next_323 fl_X11_159 rfl (zs_38 hS) hra ?_
              rw [nM_3, nM_5, nM_2]
              have hsg : 0 ≤ sgI (h (-2002) a) := by
                first | exact sgI_o (byR hby hb2.2 c_246 (by decide)) (by decide) | exact sgI_o (byR hby hb2.2 c_252 (by decide)) (by decide) | exact sgI_o (byR hby hb2.2 c_258 (by decide)) (by decide) | exact sgI_o (byR hby hb2.2 c_264 (by decide)) (by decide) | exact sgI_o (byR hby hb2.2 c_270 (by decide)) (by decide) | exact sgI_o (byR hby hb2.2 c_276 (by decide)) (by decide) | exact sgI_o (byR hby hb2.2 c_282 (by decide)) (by decide) | exact sgI_o (byR hby hb2.2 c_288 (by decide)) (by decide) | exact sgI_o (byR hby hb2.2 c_294 (by decide)) (by decide) | exact sgI_o (byR hby hb2.2 c_300 (by decide)) (by decide)
              have hmt : mtk (kK (h (-2002)) (h (-2001) 1) p) (kN (h (-2002)) (h (-2001) 1) p) 3 (h 39 a) := by
                rw [kK_s f0 f1 f2, hkS]
                rw [if_pos hsg]; exact mtk_s hby hsg
              exact zt_vret dX11_next_326 ⟨rfl, rfl, rfl, h 39 a, 3, by rw [kE_s f0 f1 f2, hkS], hmt⟩
            · refine zt_iload_n dX11_next_249 rfl ?_
              refine zt_bipush dX11_next_250 (by decide) ?_
              refine zt_icmp_eq (tgt := 303) dX11_next_252 (by decide) hr39 (by decide) (fun c_252 => ?_) (fun c_252 => ?_)
              · refine zt_iconst dX11_next_303 ?_
                refine zt_goto (tgt := 308) dX11_next_304 (by decide) ?_
                refine zt_puti dX11_next_308 fl_X11_168 rfl (zs_38 hS) (by decide) ?_
                refine zt_aload_n dX11_next_311 rfl ?_
                refine zt_iload_n dX11_next_312 rfl ?_
                refine zt_puti dX11_next_313 fl_X11_165 rfl (zs_38 hS) hr39 ?_
                refine zt_aload_n dX11_next_316 rfl ?_
                refine zt_dup dX11_next_317 (Nat.ne_of_beq_eq_false rfl) ?_
                refine zt_getv (v := a) dX11_next_318 fl_X11_159 (zs_38 hS) ((zupJ (by decide)).trans ((zupJ (by decide)).trans nM_38)) ?_
                refine zt_iconst dX11_next_321 ?_
                refine zt_iadd dX11_next_322 ?_
                refine zt_puti dX11_next_323 fl_X11_159 rfl (zs_38 hS) hra ?_
                rw [nM_3, nM_5, nM_2]
                have hsg : 0 ≤ sgI (h (-2002) a) := by
                  first | exact sgI_o (byR hby hb2.2 c_246 (by decide)) (by decide) | exact sgI_o (byR hby hb2.2 c_252 (by decide)) (by decide) | exact sgI_o (byR hby hb2.2 c_258 (by decide)) (by decide) | exact sgI_o (byR hby hb2.2 c_264 (by decide)) (by decide) | exact sgI_o (byR hby hb2.2 c_270 (by decide)) (by decide) | exact sgI_o (byR hby hb2.2 c_276 (by decide)) (by decide) | exact sgI_o (byR hby hb2.2 c_282 (by decide)) (by decide) | exact sgI_o (byR hby hb2.2 c_288 (by decide)) (by decide) | exact sgI_o (byR hby hb2.2 c_294 (by decide)) (by decide) | exact sgI_o (byR hby hb2.2 c_300 (by decide)) (by decide)
                have hmt : mtk (kK (h (-2002)) (h (-2001) 1) p) (kN (h (-2002)) (h (-2001) 1) p) 3 (h 39 a) := by
                  rw [kK_s f0 f1 f2, hkS]
                  rw [if_pos hsg]; exact mtk_s hby hsg
                exact zt_vret dX11_next_326 ⟨rfl, rfl, rfl, h 39 a, 3, by rw [kE_s f0 f1 f2, hkS], hmt⟩
              · refine zt_iload_n dX11_next_255 rfl ?_
                refine zt_bipush dX11_next_256 (by decide) ?_
                refine zt_icmp_eq (tgt := 303) dX11_next_258 (by decide) hr39 (by decide) (fun c_258 => ?_) (fun c_258 => ?_)
                · refine zt_iconst dX11_next_303 ?_
                  refine zt_goto (tgt := 308) dX11_next_304 (by decide) ?_
                  refine zt_puti dX11_next_308 fl_X11_168 rfl (zs_38 hS) (by decide) ?_
                  refine zt_aload_n dX11_next_311 rfl ?_
                  refine zt_iload_n dX11_next_312 rfl ?_
                  refine zt_puti dX11_next_313 fl_X11_165 rfl (zs_38 hS) hr39 ?_
                  refine zt_aload_n dX11_next_316 rfl ?_
                  refine zt_dup dX11_next_317 (Nat.ne_of_beq_eq_false rfl) ?_
                  refine zt_getv (v := a) dX11_next_318 fl_X11_159 (zs_38 hS) ((zupJ (by decide)).trans ((zupJ (by decide)).trans nM_38)) ?_
                  refine zt_iconst dX11_next_321 ?_
                  refine zt_iadd dX11_next_322 ?_
                  refine zt_puti dX11_next_323 fl_X11_159 rfl (zs_38 hS) hra ?_
                  rw [nM_3, nM_5, nM_2]
                  have hsg : 0 ≤ sgI (h (-2002) a) := by
                    first | exact sgI_o (byR hby hb2.2 c_246 (by decide)) (by decide) | exact sgI_o (byR hby hb2.2 c_252 (by decide)) (by decide) | exact sgI_o (byR hby hb2.2 c_258 (by decide)) (by decide) | exact sgI_o (byR hby hb2.2 c_264 (by decide)) (by decide) | exact sgI_o (byR hby hb2.2 c_270 (by decide)) (by decide) | exact sgI_o (byR hby hb2.2 c_276 (by decide)) (by decide) | exact sgI_o (byR hby hb2.2 c_282 (by decide)) (by decide) | exact sgI_o (byR hby hb2.2 c_288 (by decide)) (by decide) | exact sgI_o (byR hby hb2.2 c_294 (by decide)) (by decide) | exact sgI_o (byR hby hb2.2 c_300 (by decide)) (by decide)
                  have hmt : mtk (kK (h (-2002)) (h (-2001) 1) p) (kN (h (-2002)) (h (-2001) 1) p) 3 (h 39 a) := by
                    rw [kK_s f0 f1 f2, hkS]
                    rw [if_pos hsg]; exact mtk_s hby hsg
                  exact zt_vret dX11_next_326 ⟨rfl, rfl, rfl, h 39 a, 3, by rw [kE_s f0 f1 f2, hkS], hmt⟩
                · refine zt_iload_n dX11_next_261 rfl ?_
                  refine zt_bipush dX11_next_262 (by decide) ?_
                  refine zt_icmp_eq (tgt := 303) dX11_next_264 (by decide) hr39 (by decide) (fun c_264 => ?_) (fun c_264 => ?_)
                  · refine zt_iconst dX11_next_303 ?_
                    refine zt_goto (tgt := 308) dX11_next_304 (by decide) ?_
                    refine zt_puti dX11_next_308 fl_X11_168 rfl (zs_38 hS) (by decide) ?_
                    refine zt_aload_n dX11_next_311 rfl ?_
                    refine zt_iload_n dX11_next_312 rfl ?_
                    refine zt_puti dX11_next_313 fl_X11_165 rfl (zs_38 hS) hr39 ?_
                    refine zt_aload_n dX11_next_316 rfl ?_
                    refine zt_dup dX11_next_317 (Nat.ne_of_beq_eq_false rfl) ?_
                    refine zt_getv (v := a) dX11_next_318 fl_X11_159 (zs_38 hS) ((zupJ (by decide)).trans ((zupJ (by decide)).trans nM_38)) ?_
                    refine zt_iconst dX11_next_321 ?_
                    refine zt_iadd dX11_next_322 ?_
                    refine zt_puti dX11_next_323 fl_X11_159 rfl (zs_38 hS) hra ?_
                    rw [nM_3, nM_5, nM_2]
                    have hsg : 0 ≤ sgI (h (-2002) a) := by
                      first | exact sgI_o (byR hby hb2.2 c_246 (by decide)) (by decide) | exact sgI_o (byR hby hb2.2 c_252 (by decide)) (by decide) | exact sgI_o (byR hby hb2.2 c_258 (by decide)) (by decide) | exact sgI_o (byR hby hb2.2 c_264 (by decide)) (by decide) | exact sgI_o (byR hby hb2.2 c_270 (by decide)) (by decide) | exact sgI_o (byR hby hb2.2 c_276 (by decide)) (by decide) | exact sgI_o (byR hby hb2.2 c_282 (by decide)) (by decide) | exact sgI_o (byR hby hb2.2 c_288 (by decide)) (by decide) | exact sgI_o (byR hby hb2.2 c_294 (by decide)) (by decide) | exact sgI_o (byR hby hb2.2 c_300 (by decide)) (by decide)
                    have hmt : mtk (kK (h (-2002)) (h (-2001) 1) p) (kN (h (-2002)) (h (-2001) 1) p) 3 (h 39 a) := by
                      rw [kK_s f0 f1 f2, hkS]
                      rw [if_pos hsg]; exact mtk_s hby hsg
                    exact zt_vret dX11_next_326 ⟨rfl, rfl, rfl, h 39 a, 3, by rw [kE_s f0 f1 f2, hkS], hmt⟩
                  · refine zt_iload_n dX11_next_267 rfl ?_
                    refine zt_bipush dX11_next_268 (by decide) ?_
                    refine zt_icmp_eq (tgt := 303) dX11_next_270 (by decide) hr39 (by decide) (fun c_270 => ?_) (fun c_270 => ?_)
                    · refine zt_iconst dX11_next_303 ?_
                      refine zt_goto (tgt := 308) dX11_next_304 (by decide) ?_
                      refine zt_puti dX11_next_308 fl_X11_168 rfl (zs_38 hS) (by decide) ?_
                      refine zt_aload_n dX11_next_311 rfl ?_
                      refine zt_iload_n dX11_next_312 rfl ?_
                      refine zt_puti dX11_next_313 fl_X11_165 rfl (zs_38 hS) hr39 ?_
                      refine zt_aload_n dX11_next_316 rfl ?_
                      refine zt_dup dX11_next_317 (Nat.ne_of_beq_eq_false rfl) ?_
                      refine zt_getv (v := a) dX11_next_318 fl_X11_159 (zs_38 hS) ((zupJ (by decide)).trans ((zupJ (by decide)).trans nM_38)) ?_
                      refine zt_iconst dX11_next_321 ?_
                      refine zt_iadd dX11_next_322 ?_
                      refine zt_puti dX11_next_323 fl_X11_159 rfl (zs_38 hS) hra ?_
                      rw [nM_3, nM_5, nM_2]
                      have hsg : 0 ≤ sgI (h (-2002) a) := by
                        first | exact sgI_o (byR hby hb2.2 c_246 (by decide)) (by decide) | exact sgI_o (byR hby hb2.2 c_252 (by decide)) (by decide) | exact sgI_o (byR hby hb2.2 c_258 (by decide)) (by decide) | exact sgI_o (byR hby hb2.2 c_264 (by decide)) (by decide) | exact sgI_o (byR hby hb2.2 c_270 (by decide)) (by decide) | exact sgI_o (byR hby hb2.2 c_276 (by decide)) (by decide) | exact sgI_o (byR hby hb2.2 c_282 (by decide)) (by decide) | exact sgI_o (byR hby hb2.2 c_288 (by decide)) (by decide) | exact sgI_o (byR hby hb2.2 c_294 (by decide)) (by decide) | exact sgI_o (byR hby hb2.2 c_300 (by decide)) (by decide)
                      have hmt : mtk (kK (h (-2002)) (h (-2001) 1) p) (kN (h (-2002)) (h (-2001) 1) p) 3 (h 39 a) := by
                        rw [kK_s f0 f1 f2, hkS]
                        rw [if_pos hsg]; exact mtk_s hby hsg
                      exact zt_vret dX11_next_326 ⟨rfl, rfl, rfl, h 39 a, 3, by rw [kE_s f0 f1 f2, hkS], hmt⟩
                    · refine zt_iload_n dX11_next_273 rfl ?_
                      refine zt_bipush dX11_next_274 (by decide) ?_
                      refine zt_icmp_eq (tgt := 303) dX11_next_276 (by decide) hr39 (by decide) (fun c_276 => ?_) (fun c_276 => ?_)
                      · refine zt_iconst dX11_next_303 ?_
                        refine zt_goto (tgt := 308) dX11_next_304 (by decide) ?_
                        refine zt_puti dX11_next_308 fl_X11_168 rfl (zs_38 hS) (by decide) ?_
                        refine zt_aload_n dX11_next_311 rfl ?_
                        refine zt_iload_n dX11_next_312 rfl ?_
                        refine zt_puti dX11_next_313 fl_X11_165 rfl (zs_38 hS) hr39 ?_
                        refine zt_aload_n dX11_next_316 rfl ?_
                        refine zt_dup dX11_next_317 (Nat.ne_of_beq_eq_false rfl) ?_
                        refine zt_getv (v := a) dX11_next_318 fl_X11_159 (zs_38 hS) ((zupJ (by decide)).trans ((zupJ (by decide)).trans nM_38)) ?_
                        refine zt_iconst dX11_next_321 ?_
                        refine zt_iadd dX11_next_322 ?_
                        refine zt_puti dX11_next_323 fl_X11_159 rfl (zs_38 hS) hra ?_
                        rw [nM_3, nM_5, nM_2]
                        have hsg : 0 ≤ sgI (h (-2002) a) := by
                          first | exact sgI_o (byR hby hb2.2 c_246 (by decide)) (by decide) | exact sgI_o (byR hby hb2.2 c_252 (by decide)) (by decide) | exact sgI_o (byR hby hb2.2 c_258 (by decide)) (by decide) | exact sgI_o (byR hby hb2.2 c_264 (by decide)) (by decide) | exact sgI_o (byR hby hb2.2 c_270 (by decide)) (by decide) | exact sgI_o (byR hby hb2.2 c_276 (by decide)) (by decide) | exact sgI_o (byR hby hb2.2 c_282 (by decide)) (by decide) | exact sgI_o (byR hby hb2.2 c_288 (by decide)) (by decide) | exact sgI_o (byR hby hb2.2 c_294 (by decide)) (by decide) | exact sgI_o (byR hby hb2.2 c_300 (by decide)) (by decide)
                        have hmt : mtk (kK (h (-2002)) (h (-2001) 1) p) (kN (h (-2002)) (h (-2001) 1) p) 3 (h 39 a) := by
                          rw [kK_s f0 f1 f2, hkS]
                          rw [if_pos hsg]; exact mtk_s hby hsg
                        exact zt_vret dX11_next_326 ⟨rfl, rfl, rfl, h 39 a, 3, by rw [kE_s f0 f1 f2, hkS], hmt⟩
                      · refine zt_iload_n dX11_next_279 rfl ?_
                        refine zt_bipush dX11_next_280 (by decide) ?_
                        refine zt_icmp_eq (tgt := 303) dX11_next_282 (by decide) hr39 (by decide) (fun c_282 => ?_) (fun c_282 => ?_)
                        · refine zt_iconst dX11_next_303 ?_
                          refine zt_goto (tgt := 308) dX11_next_304 (by decide) ?_
                          refine zt_puti dX11_next_308 fl_X11_168 rfl (zs_38 hS) (by decide) ?_
                          refine zt_aload_n dX11_next_311 rfl ?_
                          refine zt_iload_n dX11_next_312 rfl ?_
                          refine zt_puti dX11_next_313 fl_X11_165 rfl (zs_38 hS) hr39 ?_
                          refine zt_aload_n dX11_next_316 rfl ?_
                          refine zt_dup dX11_next_317 (Nat.ne_of_beq_eq_false rfl) ?_
                          refine zt_getv (v := a) dX11_next_318 fl_X11_159 (zs_38 hS) ((zupJ (by decide)).trans ((zupJ (by decide)).trans nM_38)) ?_
                          refine zt_iconst dX11_next_321 ?_
                          refine zt_iadd dX11_next_322 ?_
                          refine zt_puti dX11_next_323 fl_X11_159 rfl (zs_38 hS) hra ?_
                          rw [nM_3, nM_5, nM_2]
                          have hsg : 0 ≤ sgI (h (-2002) a) := by
                            first | exact sgI_o (byR hby hb2.2 c_246 (by decide)) (by decide) | exact sgI_o (byR hby hb2.2 c_252 (by decide)) (by decide) | exact sgI_o (byR hby hb2.2 c_258 (by decide)) (by decide) | exact sgI_o (byR hby hb2.2 c_264 (by decide)) (by decide) | exact sgI_o (byR hby hb2.2 c_270 (by decide)) (by decide) | exact sgI_o (byR hby hb2.2 c_276 (by decide)) (by decide) | exact sgI_o (byR hby hb2.2 c_282 (by decide)) (by decide) | exact sgI_o (byR hby hb2.2 c_288 (by decide)) (by decide) | exact sgI_o (byR hby hb2.2 c_294 (by decide)) (by decide) | exact sgI_o (byR hby hb2.2 c_300 (by decide)) (by decide)
                          have hmt : mtk (kK (h (-2002)) (h (-2001) 1) p) (kN (h (-2002)) (h (-2001) 1) p) 3 (h 39 a) := by
                            rw [kK_s f0 f1 f2, hkS]
                            rw [if_pos hsg]; exact mtk_s hby hsg
                          exact zt_vret dX11_next_326 ⟨rfl, rfl, rfl, h 39 a, 3, by rw [kE_s f0 f1 f2, hkS], hmt⟩
                        · refine zt_iload_n dX11_next_285 rfl ?_
                          refine zt_bipush dX11_next_286 (by decide) ?_
                          refine zt_icmp_eq (tgt := 303) dX11_next_288 (by decide) hr39 (by decide) (fun c_288 => ?_) (fun c_288 => ?_)
                          · refine zt_iconst dX11_next_303 ?_
                            refine zt_goto (tgt := 308) dX11_next_304 (by decide) ?_
                            refine zt_puti dX11_next_308 fl_X11_168 rfl (zs_38 hS) (by decide) ?_
                            refine zt_aload_n dX11_next_311 rfl ?_
                            refine zt_iload_n dX11_next_312 rfl ?_
                            refine zt_puti dX11_next_313 fl_X11_165 rfl (zs_38 hS) hr39 ?_
                            refine zt_aload_n dX11_next_316 rfl ?_
                            refine zt_dup dX11_next_317 (Nat.ne_of_beq_eq_false rfl) ?_
                            refine zt_getv (v := a) dX11_next_318 fl_X11_159 (zs_38 hS) ((zupJ (by decide)).trans ((zupJ (by decide)).trans nM_38)) ?_
                            refine zt_iconst dX11_next_321 ?_
                            refine zt_iadd dX11_next_322 ?_
                            refine zt_puti dX11_next_323 fl_X11_159 rfl (zs_38 hS) hra ?_
                            rw [nM_3, nM_5, nM_2]
                            have hsg : 0 ≤ sgI (h (-2002) a) := by
                              first | exact sgI_o (byR hby hb2.2 c_246 (by decide)) (by decide) | exact sgI_o (byR hby hb2.2 c_252 (by decide)) (by decide) | exact sgI_o (byR hby hb2.2 c_258 (by decide)) (by decide) | exact sgI_o (byR hby hb2.2 c_264 (by decide)) (by decide) | exact sgI_o (byR hby hb2.2 c_270 (by decide)) (by decide) | exact sgI_o (byR hby hb2.2 c_276 (by decide)) (by decide) | exact sgI_o (byR hby hb2.2 c_282 (by decide)) (by decide) | exact sgI_o (byR hby hb2.2 c_288 (by decide)) (by decide) | exact sgI_o (byR hby hb2.2 c_294 (by decide)) (by decide) | exact sgI_o (byR hby hb2.2 c_300 (by decide)) (by decide)
                            have hmt : mtk (kK (h (-2002)) (h (-2001) 1) p) (kN (h (-2002)) (h (-2001) 1) p) 3 (h 39 a) := by
                              rw [kK_s f0 f1 f2, hkS]
                              rw [if_pos hsg]; exact mtk_s hby hsg
                            exact zt_vret dX11_next_326 ⟨rfl, rfl, rfl, h 39 a, 3, by rw [kE_s f0 f1 f2, hkS], hmt⟩
                          · refine zt_iload_n dX11_next_291 rfl ?_
                            refine zt_bipush dX11_next_292 (by decide) ?_
                            refine zt_icmp_eq (tgt := 303) dX11_next_294 (by decide) hr39 (by decide) (fun c_294 => ?_) (fun c_294 => ?_)
                            · refine zt_iconst dX11_next_303 ?_
                              refine zt_goto (tgt := 308) dX11_next_304 (by decide) ?_
                              refine zt_puti dX11_next_308 fl_X11_168 rfl (zs_38 hS) (by decide) ?_
                              refine zt_aload_n dX11_next_311 rfl ?_
                              refine zt_iload_n dX11_next_312 rfl ?_
                              refine zt_puti dX11_next_313 fl_X11_165 rfl (zs_38 hS) hr39 ?_
                              refine zt_aload_n dX11_next_316 rfl ?_
                              refine zt_dup dX11_next_317 (Nat.ne_of_beq_eq_false rfl) ?_
                              refine zt_getv (v := a) dX11_next_318 fl_X11_159 (zs_38 hS) ((zupJ (by decide)).trans ((zupJ (by decide)).trans nM_38)) ?_
                              refine zt_iconst dX11_next_321 ?_
                              refine zt_iadd dX11_next_322 ?_
                              refine zt_puti dX11_next_323 fl_X11_159 rfl (zs_38 hS) hra ?_
                              rw [nM_3, nM_5, nM_2]
                              have hsg : 0 ≤ sgI (h (-2002) a) := by
                                first | exact sgI_o (byR hby hb2.2 c_246 (by decide)) (by decide) | exact sgI_o (byR hby hb2.2 c_252 (by decide)) (by decide) | exact sgI_o (byR hby hb2.2 c_258 (by decide)) (by decide) | exact sgI_o (byR hby hb2.2 c_264 (by decide)) (by decide) | exact sgI_o (byR hby hb2.2 c_270 (by decide)) (by decide) | exact sgI_o (byR hby hb2.2 c_276 (by decide)) (by decide) | exact sgI_o (byR hby hb2.2 c_282 (by decide)) (by decide) | exact sgI_o (byR hby hb2.2 c_288 (by decide)) (by decide) | exact sgI_o (byR hby hb2.2 c_294 (by decide)) (by decide) | exact sgI_o (byR hby hb2.2 c_300 (by decide)) (by decide)
                              have hmt : mtk (kK (h (-2002)) (h (-2001) 1) p) (kN (h (-2002)) (h (-2001) 1) p) 3 (h 39 a) := by
                                rw [kK_s f0 f1 f2, hkS]
                                rw [if_pos hsg]; exact mtk_s hby hsg
                              exact zt_vret dX11_next_326 ⟨rfl, rfl, rfl, h 39 a, 3, by rw [kE_s f0 f1 f2, hkS], hmt⟩
                            · refine zt_iload_n dX11_next_297 rfl ?_
                              refine zt_bipush dX11_next_298 (by decide) ?_
                              refine zt_icmp_ne (tgt := 307) dX11_next_300 (by decide) hr39 (by decide) (fun c_300 => ?_) (fun c_300 => ?_)
                              · refine zt_iconst dX11_next_307 ?_
                                refine zt_puti dX11_next_308 fl_X11_168 rfl (zs_38 hS) (by decide) ?_
                                refine zt_aload_n dX11_next_311 rfl ?_
                                refine zt_iload_n dX11_next_312 rfl ?_
                                refine zt_puti dX11_next_313 fl_X11_165 rfl (zs_38 hS) hr39 ?_
                                refine zt_aload_n dX11_next_316 rfl ?_
                                refine zt_dup dX11_next_317 (Nat.ne_of_beq_eq_false rfl) ?_
                                refine zt_getv (v := a) dX11_next_318 fl_X11_159 (zs_38 hS) ((zupJ (by decide)).trans ((zupJ (by decide)).trans nM_38)) ?_
                                refine zt_iconst dX11_next_321 ?_
                                refine zt_iadd dX11_next_322 ?_
                                refine zt_puti dX11_next_323 fl_X11_159 rfl (zs_38 hS) hra ?_
                                rw [nM_3, nM_5, nM_2]
                                have hsg : ¬ 0 ≤ sgI (h (-2002) a) := fun q => by
                                  rcases sgI_v q with e | e | e | e | e | e | e | e | e | e
                                  · exact c_246 (byE hby e (by decide))
                                  · exact c_252 (byE hby e (by decide))
                                  · exact c_258 (byE hby e (by decide))
                                  · exact c_264 (byE hby e (by decide))
                                  · exact c_270 (byE hby e (by decide))
                                  · exact c_276 (byE hby e (by decide))
                                  · exact c_282 (byE hby e (by decide))
                                  · exact c_288 (byE hby e (by decide))
                                  · exact c_294 (byE hby e (by decide))
                                  · exact c_300 (byE hby e (by decide))
                                have hmt : mtk (kK (h (-2002)) (h (-2001) 1) p) (kN (h (-2002)) (h (-2001) 1) p) 4 (h 39 a) := by
                                  rw [kK_s f0 f1 f2, hkS]
                                  rw [if_neg hsg]; exact Or.inr (Or.inr (Or.inr (Or.inr ⟨rfl, Or.inr (Or.inr rfl)⟩)))
                                exact zt_vret dX11_next_326 ⟨rfl, rfl, rfl, h 39 a, 4, by rw [kE_s f0 f1 f2, hkS], hmt⟩
                              · refine zt_iconst dX11_next_303 ?_
                                refine zt_goto (tgt := 308) dX11_next_304 (by decide) ?_
                                refine zt_puti dX11_next_308 fl_X11_168 rfl (zs_38 hS) (by decide) ?_
                                refine zt_aload_n dX11_next_311 rfl ?_
                                refine zt_iload_n dX11_next_312 rfl ?_
                                refine zt_puti dX11_next_313 fl_X11_165 rfl (zs_38 hS) hr39 ?_
                                refine zt_aload_n dX11_next_316 rfl ?_
                                refine zt_dup dX11_next_317 (Nat.ne_of_beq_eq_false rfl) ?_
                                refine zt_getv (v := a) dX11_next_318 fl_X11_159 (zs_38 hS) ((zupJ (by decide)).trans ((zupJ (by decide)).trans nM_38)) ?_
                                refine zt_iconst dX11_next_321 ?_
                                refine zt_iadd dX11_next_322 ?_
                                refine zt_puti dX11_next_323 fl_X11_159 rfl (zs_38 hS) hra ?_
                                rw [nM_3, nM_5, nM_2]
                                have hsg : 0 ≤ sgI (h (-2002) a) := by
                                  first | exact sgI_o (byR hby hb2.2 c_246 (by decide)) (by decide) | exact sgI_o (byR hby hb2.2 c_252 (by decide)) (by decide) | exact sgI_o (byR hby hb2.2 c_258 (by decide)) (by decide) | exact sgI_o (byR hby hb2.2 c_264 (by decide)) (by decide) | exact sgI_o (byR hby hb2.2 c_270 (by decide)) (by decide) | exact sgI_o (byR hby hb2.2 c_276 (by decide)) (by decide) | exact sgI_o (byR hby hb2.2 c_282 (by decide)) (by decide) | exact sgI_o (byR hby hb2.2 c_288 (by decide)) (by decide) | exact sgI_o (byR hby hb2.2 c_294 (by decide)) (by decide) | exact sgI_o (byR hby hb2.2 c_300 (by decide)) (by decide)
                                have hmt : mtk (kK (h (-2002)) (h (-2001) 1) p) (kN (h (-2002)) (h (-2001) 1) p) 3 (h 39 a) := by
                                  rw [kK_s f0 f1 f2, hkS]
                                  rw [if_pos hsg]; exact mtk_s hby hsg
                                exact zt_vret dX11_next_326 ⟨rfl, rfl, rfl, h 39 a, 3, by rw [kE_s f0 f1 f2, hkS], hmt⟩
          · refine zt_kill_1 ?_
            exact l_nxn hS hR hX hz hl hkS (by omega) (by omega) 201 a 0 0 (by omega) (by omega) rfl rfl (by omega)
        · refine zt_kill_1 ?_
          exact l_nxw hS hR hX trivial hz hl hkS (by omega) (by omega) 201 a (by omega) (by omega) rfl (fun j q1 q2 => by omega)
      · exact zt_vret dX11_next_67 ⟨rfl, rfl, rfl, 0, 0, by rw [kE_end (by omega), hkS], Or.inl ⟨kK_end (by omega), rfl⟩⟩
    · have hby : (h (-2002) a < 128 ∧ h 39 a = h (-2002) a) ∨ (128 ≤ h (-2002) a ∧ h 39 a = h (-2002) a - 256) := hX.2.2 a (by omega) (by omega)
      have hb2 := hX.1.2 a (by omega) (by omega)
      have hr39 : zi32 (h 39 a) := by omega
      refine zt_aload_n dX11_next_11 rfl ?_
      refine zt_getv dX11_next_12 fl_X11_9 (zs_38 hS) (rf_38_0 (nM_rf hR)) ?_
      refine zt_aload_n dX11_next_15 rfl ?_
      refine zt_getv (v := a) dX11_next_16 fl_X11_159 (zs_38 hS) nM_38 ?_
      refine zt_baloadv (v := h 39 a) dX11_next_19 (zs_39 hS) (by decide) (by omega) (by omega) (congrFun (nM_n (by decide)) _) ?_
      refine zt_bipush dX11_next_20 (by decide) ?_
      refine zt_icmp_ne (tgt := 38) dX11_next_22 (by decide) hr39 (by decide) (fun c_22 => ?_) (fun c_22 => ?_)
      · refine zt_aload_n dX11_next_38 rfl ?_
        refine zt_aload_n dX11_next_39 rfl ?_
        refine zt_getv (v := a) dX11_next_40 fl_X11_159 (zs_38 hS) nM_38 ?_
        refine zt_puti dX11_next_43 fl_X11_162 rfl (zs_38 hS) (by omega) ?_
        refine zt_aload_n dX11_next_46 rfl ?_
        refine zt_iconst dX11_next_47 ?_
        refine zt_puti dX11_next_48 fl_X11_165 rfl (zs_38 hS) (by decide) ?_
        refine zt_aload_n dX11_next_51 rfl ?_
        refine zt_iconst dX11_next_52 ?_
        refine zt_puti dX11_next_53 fl_X11_168 rfl (zs_38 hS) (by decide) ?_
        have hst : ¬ (a < h (-2001) 1 ∧ 32 ≤ h (-2002) a ∧ h (-2002) a ≤ 32) := fun q => by have := hX.2.2 a (by omega) (by omega); omega
        have hkS : kS (h (-2002)) (h (-2001) 1) p = a := hr.trans (sc_e hst)
        rw [nM_4, nM_5, nM_3]
        refine zt_aload_n dX11_next_56 rfl ?_
        refine zt_getv (v := a) dX11_next_57 fl_X11_159 (zs_38 hS) nM_38 ?_
        refine zt_aload_n dX11_next_60 rfl ?_
        refine zt_getv (v := h 38 1) dX11_next_61 fl_X11_140 (zs_38 hS) (nM_o (by decide)) ?_
        refine zt_icmp_ne (tgt := 68) dX11_next_64 (by decide) (by omega) (by omega) (fun c_64 => ?_) (fun c_64 => ?_)
        · have hby : (h (-2002) a < 128 ∧ h 39 a = h (-2002) a) ∨ (128 ≤ h (-2002) a ∧ h 39 a = h (-2002) a - 256) := hX.2.2 a (by omega) (by omega)
          have hb2 := hX.1.2 a (by omega) (by omega)
          have f0 : ¬ h (-2001) 1 ≤ kS (h (-2002)) (h (-2001) 1) p := by omega
          have hr39 : zi32 (h 39 a) := by omega
          have hra : zi32 (a + 1) := by omega
          refine zt_aload_n dX11_next_68 rfl ?_
          refine zt_getv dX11_next_69 fl_X11_9 (zs_38 hS) (rf_38_0 (nM_rf hR)) ?_
          refine zt_aload_n dX11_next_72 rfl ?_
          refine zt_getv (v := a) dX11_next_73 fl_X11_159 (zs_38 hS) nM_38 ?_
          refine zt_baloadv (v := h 39 a) dX11_next_76 (zs_39 hS) (by decide) (by omega) (by omega) (congrFun (nM_n (by decide)) _) ?_
          refine zt_istore_n_1 dX11_next_77 (by decide) rfl ?_
          refine zt_iload_n dX11_next_78 rfl ?_
          refine zt_callS1r dX11_next_79 ml_X11_171 (Nat.le_of_ble_eq_true rfl) (c_mlet (by omega)) ?_
          refine zt_ifb_eq (tgt := 148) dX11_next_82 (by decide) (fun c_82 => ?_) (fun c_82 => ?_)
          · refine zt_iload_n dX11_next_148 rfl ?_
            refine zt_callS1r dX11_next_149 ml_X11_179 (Nat.le_of_ble_eq_true rfl) (c_mdig (by omega)) ?_
            refine zt_ifb_eq (tgt := 242) dX11_next_152 (by decide) (fun c_152 => ?_) (fun c_152 => ?_)
            · have f1 : ¬ (97 ≤ h (-2002) (kS (h (-2002)) (h (-2001) 1) p) ∧ h (-2002) (kS (h (-2002)) (h (-2001) 1) p) ≤ 122) := by rw [hkS]; omega
              have f2 : ¬ (48 ≤ h (-2002) (kS (h (-2002)) (h (-2001) 1) p) ∧ h (-2002) (kS (h (-2002)) (h (-2001) 1) p) ≤ 57) := by rw [hkS]; omega
              refine zt_aload_n dX11_next_242 rfl ?_
              refine zt_iload_n dX11_next_243 rfl ?_
              refine zt_bipush dX11_next_244 (by decide) ?_
              refine zt_icmp_eq (tgt := 303) dX11_next_246 (by decide) hr39 (by decide) (fun c_246 => ?_) (fun c_246 => ?_)
              · refine zt_iconst dX11_next_303 ?_
                refine zt_goto (tgt := 308) dX11_next_304 (by decide) ?_
                refine zt_puti dX11_next_308 fl_X11_168 rfl (zs_38 hS) (by decide) ?_
                refine zt_aload_n dX11_next_311 rfl ?_
                refine zt_iload_n dX11_next_312 rfl ?_
                refine zt_puti dX11_next_313 fl_X11_165 rfl (zs_38 hS) hr39 ?_
                refine zt_aload_n dX11_next_316 rfl ?_
                refine zt_dup dX11_next_317 (Nat.ne_of_beq_eq_false rfl) ?_
                refine zt_getv (v := a) dX11_next_318 fl_X11_159 (zs_38 hS) ((zupJ (by decide)).trans ((zupJ (by decide)).trans nM_38)) ?_
                refine zt_iconst dX11_next_321 ?_
                refine zt_iadd dX11_next_322 ?_
                refine zt_puti dX11_next_323 fl_X11_159 rfl (zs_38 hS) hra ?_
                rw [nM_3, nM_5, nM_2]
                have hsg : 0 ≤ sgI (h (-2002) a) := by
                  first | exact sgI_o (byR hby hb2.2 c_246 (by decide)) (by decide) | exact sgI_o (byR hby hb2.2 c_252 (by decide)) (by decide) | exact sgI_o (byR hby hb2.2 c_258 (by decide)) (by decide) | exact sgI_o (byR hby hb2.2 c_264 (by decide)) (by decide) | exact sgI_o (byR hby hb2.2 c_270 (by decide)) (by decide) | exact sgI_o (byR hby hb2.2 c_276 (by decide)) (by decide) | exact sgI_o (byR hby hb2.2 c_282 (by decide)) (by decide) | exact sgI_o (byR hby hb2.2 c_288 (by decide)) (by decide) | exact sgI_o (byR hby hb2.2 c_294 (by decide)) (by decide) | exact sgI_o (byR hby hb2.2 c_300 (by decide)) (by decide)
                have hmt : mtk (kK (h (-2002)) (h (-2001) 1) p) (kN (h (-2002)) (h (-2001) 1) p) 3 (h 39 a) := by
                  rw [kK_s f0 f1 f2, hkS]
                  rw [if_pos hsg]; exact mtk_s hby hsg
                exact zt_vret dX11_next_326 ⟨rfl, rfl, rfl, h 39 a, 3, by rw [kE_s f0 f1 f2, hkS], hmt⟩
              · refine zt_iload_n dX11_next_249 rfl ?_
                refine zt_bipush dX11_next_250 (by decide) ?_
                refine zt_icmp_eq (tgt := 303) dX11_next_252 (by decide) hr39 (by decide) (fun c_252 => ?_) (fun c_252 => ?_)
                · refine zt_iconst dX11_next_303 ?_
                  refine zt_goto (tgt := 308) dX11_next_304 (by decide) ?_
                  refine zt_puti dX11_next_308 fl_X11_168 rfl (zs_38 hS) (by decide) ?_
                  refine zt_aload_n dX11_next_311 rfl ?_
                  refine zt_iload_n dX11_next_312 rfl ?_
                  refine zt_puti dX11_next_313 fl_X11_165 rfl (zs_38 hS) hr39 ?_
                  refine zt_aload_n dX11_next_316 rfl ?_
                  refine zt_dup dX11_next_317 (Nat.ne_of_beq_eq_false rfl) ?_
                  refine zt_getv (v := a) dX11_next_318 fl_X11_159 (zs_38 hS) ((zupJ (by decide)).trans ((zupJ (by decide)).trans nM_38)) ?_
                  refine zt_iconst dX11_next_321 ?_
                  refine zt_iadd dX11_next_322 ?_
                  refine zt_puti dX11_next_323 fl_X11_159 rfl (zs_38 hS) hra ?_
                  rw [nM_3, nM_5, nM_2]
                  have hsg : 0 ≤ sgI (h (-2002) a) := by
                    first | exact sgI_o (byR hby hb2.2 c_246 (by decide)) (by decide) | exact sgI_o (byR hby hb2.2 c_252 (by decide)) (by decide) | exact sgI_o (byR hby hb2.2 c_258 (by decide)) (by decide) | exact sgI_o (byR hby hb2.2 c_264 (by decide)) (by decide) | exact sgI_o (byR hby hb2.2 c_270 (by decide)) (by decide) | exact sgI_o (byR hby hb2.2 c_276 (by decide)) (by decide) | exact sgI_o (byR hby hb2.2 c_282 (by decide)) (by decide) | exact sgI_o (byR hby hb2.2 c_288 (by decide)) (by decide) | exact sgI_o (byR hby hb2.2 c_294 (by decide)) (by decide) | exact sgI_o (byR hby hb2.2 c_300 (by decide)) (by decide)
                  have hmt : mtk (kK (h (-2002)) (h (-2001) 1) p) (kN (h (-2002)) (h (-2001) 1) p) 3 (h 39 a) := by
                    rw [kK_s f0 f1 f2, hkS]
                    rw [if_pos hsg]; exact mtk_s hby hsg
                  exact zt_vret dX11_next_326 ⟨rfl, rfl, rfl, h 39 a, 3, by rw [kE_s f0 f1 f2, hkS], hmt⟩
                · refine zt_iload_n dX11_next_255 rfl ?_
                  refine zt_bipush dX11_next_256 (by decide) ?_
                  refine zt_icmp_eq (tgt := 303) dX11_next_258 (by decide) hr39 (by decide) (fun c_258 => ?_) (fun c_258 => ?_)
                  · refine zt_iconst dX11_next_303 ?_
                    refine zt_goto (tgt := 308) dX11_next_304 (by decide) ?_
                    refine zt_puti dX11_next_308 fl_X11_168 rfl (zs_38 hS) (by decide) ?_
                    refine zt_aload_n dX11_next_311 rfl ?_
                    refine zt_iload_n dX11_next_312 rfl ?_
                    refine zt_puti dX11_next_313 fl_X11_165 rfl (zs_38 hS) hr39 ?_
                    refine zt_aload_n dX11_next_316 rfl ?_
                    refine zt_dup dX11_next_317 (Nat.ne_of_beq_eq_false rfl) ?_
                    refine zt_getv (v := a) dX11_next_318 fl_X11_159 (zs_38 hS) ((zupJ (by decide)).trans ((zupJ (by decide)).trans nM_38)) ?_
                    refine zt_iconst dX11_next_321 ?_
                    refine zt_iadd dX11_next_322 ?_
                    refine zt_puti dX11_next_323 fl_X11_159 rfl (zs_38 hS) hra ?_
                    rw [nM_3, nM_5, nM_2]
                    have hsg : 0 ≤ sgI (h (-2002) a) := by
                      first | exact sgI_o (byR hby hb2.2 c_246 (by decide)) (by decide) | exact sgI_o (byR hby hb2.2 c_252 (by decide)) (by decide) | exact sgI_o (byR hby hb2.2 c_258 (by decide)) (by decide) | exact sgI_o (byR hby hb2.2 c_264 (by decide)) (by decide) | exact sgI_o (byR hby hb2.2 c_270 (by decide)) (by decide) | exact sgI_o (byR hby hb2.2 c_276 (by decide)) (by decide) | exact sgI_o (byR hby hb2.2 c_282 (by decide)) (by decide) | exact sgI_o (byR hby hb2.2 c_288 (by decide)) (by decide) | exact sgI_o (byR hby hb2.2 c_294 (by decide)) (by decide) | exact sgI_o (byR hby hb2.2 c_300 (by decide)) (by decide)
                    have hmt : mtk (kK (h (-2002)) (h (-2001) 1) p) (kN (h (-2002)) (h (-2001) 1) p) 3 (h 39 a) := by
                      rw [kK_s f0 f1 f2, hkS]
                      rw [if_pos hsg]; exact mtk_s hby hsg
                    exact zt_vret dX11_next_326 ⟨rfl, rfl, rfl, h 39 a, 3, by rw [kE_s f0 f1 f2, hkS], hmt⟩
                  · refine zt_iload_n dX11_next_261 rfl ?_
                    refine zt_bipush dX11_next_262 (by decide) ?_
                    refine zt_icmp_eq (tgt := 303) dX11_next_264 (by decide) hr39 (by decide) (fun c_264 => ?_) (fun c_264 => ?_)
                    · refine zt_iconst dX11_next_303 ?_
                      refine zt_goto (tgt := 308) dX11_next_304 (by decide) ?_
                      refine zt_puti dX11_next_308 fl_X11_168 rfl (zs_38 hS) (by decide) ?_
                      refine zt_aload_n dX11_next_311 rfl ?_
                      refine zt_iload_n dX11_next_312 rfl ?_
                      refine zt_puti dX11_next_313 fl_X11_165 rfl (zs_38 hS) hr39 ?_
                      refine zt_aload_n dX11_next_316 rfl ?_
                      refine zt_dup dX11_next_317 (Nat.ne_of_beq_eq_false rfl) ?_
                      refine zt_getv (v := a) dX11_next_318 fl_X11_159 (zs_38 hS) ((zupJ (by decide)).trans ((zupJ (by decide)).trans nM_38)) ?_
                      refine zt_iconst dX11_next_321 ?_
                      refine zt_iadd dX11_next_322 ?_
                      refine zt_puti dX11_next_323 fl_X11_159 rfl (zs_38 hS) hra ?_
                      rw [nM_3, nM_5, nM_2]
                      have hsg : 0 ≤ sgI (h (-2002) a) := by
                        first | exact sgI_o (byR hby hb2.2 c_246 (by decide)) (by decide) | exact sgI_o (byR hby hb2.2 c_252 (by decide)) (by decide) | exact sgI_o (byR hby hb2.2 c_258 (by decide)) (by decide) | exact sgI_o (byR hby hb2.2 c_264 (by decide)) (by decide) | exact sgI_o (byR hby hb2.2 c_270 (by decide)) (by decide) | exact sgI_o (byR hby hb2.2 c_276 (by decide)) (by decide) | exact sgI_o (byR hby hb2.2 c_282 (by decide)) (by decide) | exact sgI_o (byR hby hb2.2 c_288 (by decide)) (by decide) | exact sgI_o (byR hby hb2.2 c_294 (by decide)) (by decide) | exact sgI_o (byR hby hb2.2 c_300 (by decide)) (by decide)
                      have hmt : mtk (kK (h (-2002)) (h (-2001) 1) p) (kN (h (-2002)) (h (-2001) 1) p) 3 (h 39 a) := by
                        rw [kK_s f0 f1 f2, hkS]
                        rw [if_pos hsg]; exact mtk_s hby hsg
                      exact zt_vret dX11_next_326 ⟨rfl, rfl, rfl, h 39 a, 3, by rw [kE_s f0 f1 f2, hkS], hmt⟩
                    · refine zt_iload_n dX11_next_267 rfl ?_
                      refine zt_bipush dX11_next_268 (by decide) ?_
                      refine zt_icmp_eq (tgt := 303) dX11_next_270 (by decide) hr39 (by decide) (fun c_270 => ?_) (fun c_270 => ?_)
                      · refine zt_iconst dX11_next_303 ?_
                        refine zt_goto (tgt := 308) dX11_next_304 (by decide) ?_
                        refine zt_puti dX11_next_308 fl_X11_168 rfl (zs_38 hS) (by decide) ?_
                        refine zt_aload_n dX11_next_311 rfl ?_
                        refine zt_iload_n dX11_next_312 rfl ?_
                        refine zt_puti dX11_next_313 fl_X11_165 rfl (zs_38 hS) hr39 ?_
                        refine zt_aload_n dX11_next_316 rfl ?_
                        refine zt_dup dX11_next_317 (Nat.ne_of_beq_eq_false rfl) ?_
                        refine zt_getv (v := a) dX11_next_318 fl_X11_159 (zs_38 hS) ((zupJ (by decide)).trans ((zupJ (by decide)).trans nM_38)) ?_
                        refine zt_iconst dX11_next_321 ?_
                        refine zt_iadd dX11_next_322 ?_
                        refine zt_puti dX11_next_323 fl_X11_159 rfl (zs_38 hS) hra ?_
                        rw [nM_3, nM_5, nM_2]
                        have hsg : 0 ≤ sgI (h (-2002) a) := by
                          first | exact sgI_o (byR hby hb2.2 c_246 (by decide)) (by decide) | exact sgI_o (byR hby hb2.2 c_252 (by decide)) (by decide) | exact sgI_o (byR hby hb2.2 c_258 (by decide)) (by decide) | exact sgI_o (byR hby hb2.2 c_264 (by decide)) (by decide) | exact sgI_o (byR hby hb2.2 c_270 (by decide)) (by decide) | exact sgI_o (byR hby hb2.2 c_276 (by decide)) (by decide) | exact sgI_o (byR hby hb2.2 c_282 (by decide)) (by decide) | exact sgI_o (byR hby hb2.2 c_288 (by decide)) (by decide) | exact sgI_o (byR hby hb2.2 c_294 (by decide)) (by decide) | exact sgI_o (byR hby hb2.2 c_300 (by decide)) (by decide)
                        have hmt : mtk (kK (h (-2002)) (h (-2001) 1) p) (kN (h (-2002)) (h (-2001) 1) p) 3 (h 39 a) := by
                          rw [kK_s f0 f1 f2, hkS]
                          rw [if_pos hsg]; exact mtk_s hby hsg
                        exact zt_vret dX11_next_326 ⟨rfl, rfl, rfl, h 39 a, 3, by rw [kE_s f0 f1 f2, hkS], hmt⟩
                      · refine zt_iload_n dX11_next_273 rfl ?_
                        refine zt_bipush dX11_next_274 (by decide) ?_
                        refine zt_icmp_eq (tgt := 303) dX11_next_276 (by decide) hr39 (by decide) (fun c_276 => ?_) (fun c_276 => ?_)
                        · refine zt_iconst dX11_next_303 ?_
                          refine zt_goto (tgt := 308) dX11_next_304 (by decide) ?_
                          refine zt_puti dX11_next_308 fl_X11_168 rfl (zs_38 hS) (by decide) ?_
                          refine zt_aload_n dX11_next_311 rfl ?_
                          refine zt_iload_n dX11_next_312 rfl ?_
                          refine zt_puti dX11_next_313 fl_X11_165 rfl (zs_38 hS) hr39 ?_
                          refine zt_aload_n dX11_next_316 rfl ?_
                          refine zt_dup dX11_next_317 (Nat.ne_of_beq_eq_false rfl) ?_
                          refine zt_getv (v := a) dX11_next_318 fl_X11_159 (zs_38 hS) ((zupJ (by decide)).trans ((zupJ (by decide)).trans nM_38)) ?_
                          refine zt_iconst dX11_next_321 ?_
                          refine zt_iadd dX11_next_322 ?_
                          refine zt_puti dX11_next_323 fl_X11_159 rfl (zs_38 hS) hra ?_
                          rw [nM_3, nM_5, nM_2]
                          have hsg : 0 ≤ sgI (h (-2002) a) := by
                            first | exact sgI_o (byR hby hb2.2 c_246 (by decide)) (by decide) | exact sgI_o (byR hby hb2.2 c_252 (by decide)) (by decide) | exact sgI_o (byR hby hb2.2 c_258 (by decide)) (by decide) | exact sgI_o (byR hby hb2.2 c_264 (by decide)) (by decide) | exact sgI_o (byR hby hb2.2 c_270 (by decide)) (by decide) | exact sgI_o (byR hby hb2.2 c_276 (by decide)) (by decide) | exact sgI_o (byR hby hb2.2 c_282 (by decide)) (by decide) | exact sgI_o (byR hby hb2.2 c_288 (by decide)) (by decide) | exact sgI_o (byR hby hb2.2 c_294 (by decide)) (by decide) | exact sgI_o (byR hby hb2.2 c_300 (by decide)) (by decide)
                          have hmt : mtk (kK (h (-2002)) (h (-2001) 1) p) (kN (h (-2002)) (h (-2001) 1) p) 3 (h 39 a) := by
                            rw [kK_s f0 f1 f2, hkS]
                            rw [if_pos hsg]; exact mtk_s hby hsg
                          exact zt_vret dX11_next_326 ⟨rfl, rfl, rfl, h 39 a, 3, by rw [kE_s f0 f1 f2, hkS], hmt⟩
                        · refine zt_iload_n dX11_next_279 rfl ?_
                          refine zt_bipush dX11_next_280 (by decide) ?_
                          refine zt_icmp_eq (tgt := 303) dX11_next_282 (by decide) hr39 (by decide) (fun c_282 => ?_) (fun c_282 => ?_)
                          · refine zt_iconst dX11_next_303 ?_
                            refine zt_goto (tgt := 308) dX11_next_304 (by decide) ?_
                            refine zt_puti dX11_next_308 fl_X11_168 rfl (zs_38 hS) (by decide) ?_
                            refine zt_aload_n dX11_next_311 rfl ?_
                            refine zt_iload_n dX11_next_312 rfl ?_
                            refine zt_puti dX11_next_313 fl_X11_165 rfl (zs_38 hS) hr39 ?_
                            refine zt_aload_n dX11_next_316 rfl ?_
                            refine zt_dup dX11_next_317 (Nat.ne_of_beq_eq_false rfl) ?_
                            refine zt_getv (v := a) dX11_next_318 fl_X11_159 (zs_38 hS) ((zupJ (by decide)).trans ((zupJ (by decide)).trans nM_38)) ?_
                            refine zt_iconst dX11_next_321 ?_
                            refine zt_iadd dX11_next_322 ?_
                            refine zt_puti dX11_next_323 fl_X11_159 rfl (zs_38 hS) hra ?_
                            rw [nM_3, nM_5, nM_2]
                            have hsg : 0 ≤ sgI (h (-2002) a) := by
                              first | exact sgI_o (byR hby hb2.2 c_246 (by decide)) (by decide) | exact sgI_o (byR hby hb2.2 c_252 (by decide)) (by decide) | exact sgI_o (byR hby hb2.2 c_258 (by decide)) (by decide) | exact sgI_o (byR hby hb2.2 c_264 (by decide)) (by decide) | exact sgI_o (byR hby hb2.2 c_270 (by decide)) (by decide) | exact sgI_o (byR hby hb2.2 c_276 (by decide)) (by decide) | exact sgI_o (byR hby hb2.2 c_282 (by decide)) (by decide) | exact sgI_o (byR hby hb2.2 c_288 (by decide)) (by decide) | exact sgI_o (byR hby hb2.2 c_294 (by decide)) (by decide) | exact sgI_o (byR hby hb2.2 c_300 (by decide)) (by decide)
                            have hmt : mtk (kK (h (-2002)) (h (-2001) 1) p) (kN (h (-2002)) (h (-2001) 1) p) 3 (h 39 a) := by
                              rw [kK_s f0 f1 f2, hkS]
                              rw [if_pos hsg]; exact mtk_s hby hsg
                            exact zt_vret dX11_next_326 ⟨rfl, rfl, rfl, h 39 a, 3, by rw [kE_s f0 f1 f2, hkS], hmt⟩
                          · refine zt_iload_n dX11_next_285 rfl ?_
                            refine zt_bipush dX11_next_286 (by decide) ?_
                            refine zt_icmp_eq (tgt := 303) dX11_next_288 (by decide) hr39 (by decide) (fun c_288 => ?_) (fun c_288 => ?_)
                            · refine zt_iconst dX11_next_303 ?_
                              refine zt_goto (tgt := 308) dX11_next_304 (by decide) ?_
                              refine zt_puti dX11_next_308 fl_X11_168 rfl (zs_38 hS) (by decide) ?_
                              refine zt_aload_n dX11_next_311 rfl ?_
                              refine zt_iload_n dX11_next_312 rfl ?_
                              refine zt_puti dX11_next_313 fl_X11_165 rfl (zs_38 hS) hr39 ?_
                              refine zt_aload_n dX11_next_316 rfl ?_
                              refine zt_dup dX11_next_317 (Nat.ne_of_beq_eq_false rfl) ?_
                              refine zt_getv (v := a) dX11_next_318 fl_X11_159 (zs_38 hS) ((zupJ (by decide)).trans ((zupJ (by decide)).trans nM_38)) ?_
                              refine zt_iconst dX11_next_321 ?_
                              refine zt_iadd dX11_next_322 ?_
                              refine zt_puti dX11_next_323 fl_X11_159 rfl (zs_38 hS) hra ?_
                              rw [nM_3, nM_5, nM_2]
                              have hsg : 0 ≤ sgI (h (-2002) a) := by
                                first | exact sgI_o (byR hby hb2.2 c_246 (by decide)) (by decide) | exact sgI_o (byR hby hb2.2 c_252 (by decide)) (by decide) | exact sgI_o (byR hby hb2.2 c_258 (by decide)) (by decide) | exact sgI_o (byR hby hb2.2 c_264 (by decide)) (by decide) | exact sgI_o (byR hby hb2.2 c_270 (by decide)) (by decide) | exact sgI_o (byR hby hb2.2 c_276 (by decide)) (by decide) | exact sgI_o (byR hby hb2.2 c_282 (by decide)) (by decide) | exact sgI_o (byR hby hb2.2 c_288 (by decide)) (by decide) | exact sgI_o (byR hby hb2.2 c_294 (by decide)) (by decide) | exact sgI_o (byR hby hb2.2 c_300 (by decide)) (by decide)
                              have hmt : mtk (kK (h (-2002)) (h (-2001) 1) p) (kN (h (-2002)) (h (-2001) 1) p) 3 (h 39 a) := by
                                rw [kK_s f0 f1 f2, hkS]
                                rw [if_pos hsg]; exact mtk_s hby hsg
                              exact zt_vret dX11_next_326 ⟨rfl, rfl, rfl, h 39 a, 3, by rw [kE_s f0 f1 f2, hkS], hmt⟩
                            · refine zt_iload_n dX11_next_291 rfl ?_
                              refine zt_bipush dX11_next_292 (by decide) ?_
                              refine zt_icmp_eq (tgt := 303) dX11_next_294 (by decide) hr39 (by decide) (fun c_294 => ?_) (fun c_294 => ?_)
                              · refine zt_iconst dX11_next_303 ?_
                                refine zt_goto (tgt := 308) dX11_next_304 (by decide) ?_
                                refine zt_puti dX11_next_308 fl_X11_168 rfl (zs_38 hS) (by decide) ?_
                                refine zt_aload_n dX11_next_311 rfl ?_
                                refine zt_iload_n dX11_next_312 rfl ?_
                                refine zt_puti dX11_next_313 fl_X11_165 rfl (zs_38 hS) hr39 ?_
                                refine zt_aload_n dX11_next_316 rfl ?_
                                refine zt_dup dX11_next_317 (Nat.ne_of_beq_eq_false rfl) ?_
                                refine zt_getv (v := a) dX11_next_318 fl_X11_159 (zs_38 hS) ((zupJ (by decide)).trans ((zupJ (by decide)).trans nM_38)) ?_
                                refine zt_iconst dX11_next_321 ?_
                                refine zt_iadd dX11_next_322 ?_
                                refine zt_puti dX11_next_323 fl_X11_159 rfl (zs_38 hS) hra ?_
                                rw [nM_3, nM_5, nM_2]
                                have hsg : 0 ≤ sgI (h (-2002) a) := by
                                  first | exact sgI_o (byR hby hb2.2 c_246 (by decide)) (by decide) | exact sgI_o (byR hby hb2.2 c_252 (by decide)) (by decide) | exact sgI_o (byR hby hb2.2 c_258 (by decide)) (by decide) | exact sgI_o (byR hby hb2.2 c_264 (by decide)) (by decide) | exact sgI_o (byR hby hb2.2 c_270 (by decide)) (by decide) | exact sgI_o (byR hby hb2.2 c_276 (by decide)) (by decide) | exact sgI_o (byR hby hb2.2 c_282 (by decide)) (by decide) | exact sgI_o (byR hby hb2.2 c_288 (by decide)) (by decide) | exact sgI_o (byR hby hb2.2 c_294 (by decide)) (by decide) | exact sgI_o (byR hby hb2.2 c_300 (by decide)) (by decide)
                                have hmt : mtk (kK (h (-2002)) (h (-2001) 1) p) (kN (h (-2002)) (h (-2001) 1) p) 3 (h 39 a) := by
                                  rw [kK_s f0 f1 f2, hkS]
                                  rw [if_pos hsg]; exact mtk_s hby hsg
                                exact zt_vret dX11_next_326 ⟨rfl, rfl, rfl, h 39 a, 3, by rw [kE_s f0 f1 f2, hkS], hmt⟩
                              · refine zt_iload_n dX11_next_297 rfl ?_
                                refine zt_bipush dX11_next_298 (by decide) ?_
                                refine zt_icmp_ne (tgt := 307) dX11_next_300 (by decide) hr39 (by decide) (fun c_300 => ?_) (fun c_300 => ?_)
                                · refine zt_iconst dX11_next_307 ?_
                                  refine zt_puti dX11_next_308 fl_X11_168 rfl (zs_38 hS) (by decide) ?_
                                  refine zt_aload_n dX11_next_311 rfl ?_
                                  refine zt_iload_n dX11_next_312 rfl ?_
                                  refine zt_puti dX11_next_313 fl_X11_165 rfl (zs_38 hS) hr39 ?_
                                  refine zt_aload_n dX11_next_316 rfl ?_
                                  refine zt_dup dX11_next_317 (Nat.ne_of_beq_eq_false rfl) ?_
                                  refine zt_getv (v := a) dX11_next_318 fl_X11_159 (zs_38 hS) ((zupJ (by decide)).trans ((zupJ (by decide)).trans nM_38)) ?_
                                  refine zt_iconst dX11_next_321 ?_
                                  refine zt_iadd dX11_next_322 ?_
                                  refine zt_puti dX11_next_323 fl_X11_159 rfl (zs_38 hS) hra ?_
                                  rw [nM_3, nM_5, nM_2]
                                  have hsg : ¬ 0 ≤ sgI (h (-2002) a) := fun q => by
                                    rcases sgI_v q with e | e | e | e | e | e | e | e | e | e
                                    · exact c_246 (byE hby e (by decide))
                                    · exact c_252 (byE hby e (by decide))
                                    · exact c_258 (byE hby e (by decide))
                                    · exact c_264 (byE hby e (by decide))
                                    · exact c_270 (byE hby e (by decide))
                                    · exact c_276 (byE hby e (by decide))
                                    · exact c_282 (byE hby e (by decide))
                                    · exact c_288 (byE hby e (by decide))
                                    · exact c_294 (byE hby e (by decide))
                                    · exact c_300 (byE hby e (by decide))
                                  have hmt : mtk (kK (h (-2002)) (h (-2001) 1) p) (kN (h (-2002)) (h (-2001) 1) p) 4 (h 39 a) := by
                                    rw [kK_s f0 f1 f2, hkS]
                                    rw [if_neg hsg]; exact Or.inr (Or.inr (Or.inr (Or.inr ⟨rfl, Or.inr (Or.inr rfl)⟩)))
                                  exact zt_vret dX11_next_326 ⟨rfl, rfl, rfl, h 39 a, 4, by rw [kE_s f0 f1 f2, hkS], hmt⟩
                                · refine zt_iconst dX11_next_303 ?_
                                  refine zt_goto (tgt := 308) dX11_next_304 (by decide) ?_
                                  refine zt_puti dX11_next_308 fl_X11_168 rfl (zs_38 hS) (by decide) ?_
                                  refine zt_aload_n dX11_next_311 rfl ?_
                                  refine zt_iload_n dX11_next_312 rfl ?_
                                  refine zt_puti dX11_next_313 fl_X11_165 rfl (zs_38 hS) hr39 ?_
                                  refine zt_aload_n dX11_next_316 rfl ?_
                                  refine zt_dup dX11_next_317 (Nat.ne_of_beq_eq_false rfl) ?_
                                  refine zt_getv (v := a) dX11_next_318 fl_X11_159 (zs_38 hS) ((zupJ (by decide)).trans ((zupJ (by decide)).trans nM_38)) ?_
                                  refine zt_iconst dX11_next_321 ?_
                                  refine zt_iadd dX11_next_322 ?_
                                  refine zt_puti dX11_next_323 fl_X11_159 rfl (zs_38 hS) hra ?_
                                  rw [nM_3, nM_5, nM_2]
                                  have hsg : 0 ≤ sgI (h (-2002) a) := by
                                    first | exact sgI_o (byR hby hb2.2 c_246 (by decide)) (by decide) | exact sgI_o (byR hby hb2.2 c_252 (by decide)) (by decide) | exact sgI_o (byR hby hb2.2 c_258 (by decide)) (by decide) | exact sgI_o (byR hby hb2.2 c_264 (by decide)) (by decide) | exact sgI_o (byR hby hb2.2 c_270 (by decide)) (by decide) | exact sgI_o (byR hby hb2.2 c_276 (by decide)) (by decide) | exact sgI_o (byR hby hb2.2 c_282 (by decide)) (by decide) | exact sgI_o (byR hby hb2.2 c_288 (by decide)) (by decide) | exact sgI_o (byR hby hb2.2 c_294 (by decide)) (by decide) | exact sgI_o (byR hby hb2.2 c_300 (by decide)) (by decide)
                                  have hmt : mtk (kK (h (-2002)) (h (-2001) 1) p) (kN (h (-2002)) (h (-2001) 1) p) 3 (h 39 a) := by
                                    rw [kK_s f0 f1 f2, hkS]
                                    rw [if_pos hsg]; exact mtk_s hby hsg
                                  exact zt_vret dX11_next_326 ⟨rfl, rfl, rfl, h 39 a, 3, by rw [kE_s f0 f1 f2, hkS], hmt⟩
            · refine zt_kill_1 ?_
              exact l_nxn hS hR hX hz hl hkS (by omega) (by omega) 201 a 0 0 (by omega) (by omega) rfl rfl (by omega)
          · refine zt_kill_1 ?_
            exact l_nxw hS hR hX trivial hz hl hkS (by omega) (by omega) 201 a (by omega) (by omega) rfl (fun j q1 q2 => by omega)
        · exact zt_vret dX11_next_67 ⟨rfl, rfl, rfl, 0, 0, by rw [kE_end (by omega), hkS], Or.inl ⟨kK_end (by omega), rfl⟩⟩
      · refine zt_aload_n dX11_next_25 rfl ?_
        refine zt_dup dX11_next_26 (Nat.ne_of_beq_eq_false rfl) ?_
        refine zt_getv (v := a) dX11_next_27 fl_X11_159 (zs_38 hS) nM_38 ?_
        refine zt_iconst dX11_next_30 ?_
        refine zt_iadd dX11_next_31 ?_
        refine zt_puti dX11_next_32 fl_X11_159 rfl (zs_38 hS) (by omega) ?_
        refine zt_goto (tgt := 0) dX11_next_35 (by decide) ?_
        rw [nM_2]
        exact ih (a + 1) (by omega) (by omega) (by rw [hr]; exact sc_s (by omega))

theorem c_next {d n : Nat} {sh : zSh} {h : zMem} {p : Int} (hS : zShp sh) (hR : zRf h) (hX : mTg h) (hp : 0 ≤ p ∧ p ≤ h (-2001) 1) (hat : h 38 2 = p) : zM yX11_next cX11_next 2 none (d + 5) 0 0 [(2, 38)] n sh h (fun r n1 sh1 h1 => r = none ∧ n1 = n ∧ sh1 = sh ∧ ∃ v t, h1 = nM h (kE (h (-2002)) (h (-2001) 1) p) (kS (h (-2002)) (h (-2001) 1) p) v t ∧ mtk (kK (h (-2002)) (h (-2001) 1) p) (kN (h (-2002)) (h (-2001) 1) p) t v) := by
  refine zM.ofT2 (by decide +kernel) [some (2, 38), none] rfl (Nat.le_of_ble_eq_true rfl) ?_
  refine zt_mem (h1 := nM h p (h 38 4) (h 38 5) (h 38 3)) (by rw [← hat]; exact nM_self.symm) ?_
  exact l_nx1 hS hR hX hX.2.1 hX.1.1 hp.1 201 p (by have := hX.1.1; omega) (by omega) rfl
