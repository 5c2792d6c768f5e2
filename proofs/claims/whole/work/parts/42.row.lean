abbrev rTh (h : zMem) (i : Int) : Prop := (0 ≤ i ∧ i < h 26 0) ∧ h 27 i ≠ -2147483648
def rOK (h : zMem) : Prop := (0 ≤ h 26 0 ∧ h 26 0 ≤ 20) ∧ ∀ i, 0 ≤ i → i < h 26 0 → h 27 i = -2147483648 ∨ (-999999 ≤ h 27 i ∧ h 27 i ≤ 999999)

set_option maxRecDepth 100000 in
set_option maxHeartbeats 4000000 in
theorem c_isrn {d n : Nat} {sh : zSh} {h : zMem} {x : Int} (hx : zi32 x) : zF yX6_isRowNumber cX6_isRowNumber 1 (some .boolean) (d + 0) 0 0 [(0, x)] n sh h (some (0, zb (-999999 ≤ x ∧ x ≤ 999999))) n sh h := by
  refine zF.ofT (by decide +kernel) [some (0, x)] rfl (Nat.le_of_ble_eq_true rfl) ?_
  refine zt_iload_n dX6_isRowNumber_0 rfl ?_
  refine zt_ldc dX6_isRowNumber_1 kc_X6_36 ?_
  refine zt_icmp_lt (tgt := 16) dX6_isRowNumber_3 (by decide) (by omega) (by decide) (fun c_3 => ?_) (fun c_3 => ?_)
  · refine zt_iconst dX6_isRowNumber_16 ?_
    exact zt_zret dX6_isRowNumber_17 (by decide) ⟨zb0 (by omega), rfl, rfl, rfl⟩
  · refine zt_iload_n dX6_isRowNumber_6 rfl ?_
    refine zt_ldc dX6_isRowNumber_7 kc_X6_37 ?_
    refine zt_icmp_gt (tgt := 16) dX6_isRowNumber_9 (by decide) (by omega) (by decide) (fun c_9 => ?_) (fun c_9 => ?_)
    · refine zt_iconst dX6_isRowNumber_16 ?_
      exact zt_zret dX6_isRowNumber_17 (by decide) ⟨zb0 (by omega), rfl, rfl, rfl⟩
    · refine zt_iconst dX6_isRowNumber_12 ?_
      refine zt_goto (tgt := 17) dX6_isRowNumber_13 (by decide) ?_
      exact zt_zret dX6_isRowNumber_17 (by decide) ⟨zb1 (by omega), rfl, rfl, rfl⟩

abbrev rTok (h : zMem) (x : Int) : Prop := h 26 0 < 20 ∧ -999999 ≤ x ∧ x ≤ 999999
def rTel (h : zMem) (x : Int) : zMem := zup (zup h 27 (h 26 0) x) 26 0 (h 26 0 + 1)

set_option maxRecDepth 100000 in
set_option maxHeartbeats 4000000 in
theorem c_rtell {d n : Nat} {sh : zSh} {h : zMem} {x : Int} (hS : zShp sh) (hR : zRf h) (hr0 : rOK h) (hx : zi32 x) : zF yX6_tell cX6_tell 2 (some .boolean) (d + 1) 0 0 [(2, 26), (0, x)] n sh h (some (0, zb (rTok h x))) n sh (if rTok h x then rTel h x else h) := by
  refine zF.ofT (by decide +kernel) [some (2, 26), some (0, x)] rfl (Nat.le_of_ble_eq_true rfl) ?_
  have hl := hr0.1
  refine zt_rg (fun hm => ?_)
  refine zt_aload_n dX6_tell_0 rfl ?_
  refine zt_get dX6_tell_1 fl_X6_28 (zs_26 hS) ?_
  refine zt_bipush dX6_tell_4 (by decide) ?_
  refine zt_icmp_ge (tgt := 16) dX6_tell_6 (by decide) (hm.fld (j := 0) (zs_26 hS) (by decide) (by decide) (by decide)) (by decide) (fun c_6 => ?_) (fun c_6 => ?_)
  · refine zt_iconst dX6_tell_16 ?_
    exact zt_zret dX6_tell_17 (by decide) ⟨zb0 (by omega), rfl, rfl, by rw [if_neg (by omega)]⟩
  · refine zt_iload_n dX6_tell_9 rfl ?_
    refine zt_callS1r dX6_tell_10 ml_X6_32 (Nat.le_of_ble_eq_true rfl) (c_isrn (by omega)) ?_
    refine zt_ifb_ne (tgt := 18) dX6_tell_13 (by decide) (fun c_13 => ?_) (fun c_13 => ?_)
    · refine zt_aload_n dX6_tell_18 rfl ?_
      refine zt_getv dX6_tell_19 fl_X6_11 (zs_26 hS) (rf_26_3 hR) ?_
      refine zt_aload_n dX6_tell_22 rfl ?_
      refine zt_get dX6_tell_23 fl_X6_28 (zs_26 hS) ?_
      refine zt_iload_n dX6_tell_26 rfl ?_
      refine zt_iastore dX6_tell_27 (zs_27 hS) (by decide) (by omega) (by omega) (by omega) ?_
      refine zt_aload_n dX6_tell_28 rfl ?_
      refine zt_dup dX6_tell_29 (Nat.ne_of_beq_eq_false rfl) ?_
      refine zt_getv (v := h 26 0) dX6_tell_30 fl_X6_28 (zs_26 hS) ((zupA (by decide)).trans rfl) ?_
      refine zt_iconst dX6_tell_33 ?_
      refine zt_iadd dX6_tell_34 ?_
      refine zt_puti dX6_tell_35 fl_X6_28 rfl (zs_26 hS) (by omega) ?_
      refine zt_iconst dX6_tell_38 ?_
      exact zt_zret dX6_tell_39 (by decide) ⟨zb1 (by omega), rfl, rfl, by rw [if_pos (by omega)]; rfl⟩
    · refine zt_iconst dX6_tell_16 ?_
      exact zt_zret dX6_tell_17 (by decide) ⟨zb0 (by omega), rfl, rfl, by rw [if_neg (by omega)]⟩

set_option maxRecDepth 100000 in
set_option maxHeartbeats 4000000 in
theorem c_rth {d n : Nat} {sh : zSh} {h : zMem} {i : Int} (hS : zShp sh) (hR : zRf h) (hr0 : rOK h) (hi : zi32 i) : zF yX6_isThere cX6_isThere 2 (some .boolean) (d + 0) 0 0 [(2, 26), (0, i)] n sh h (some (0, zb (rTh h i))) n sh h := by
  refine zF.ofT (by decide +kernel) [some (2, 26), some (0, i)] rfl (Nat.le_of_ble_eq_true rfl) ?_
  have hl := hr0.1
  refine zt_rg (fun hm => ?_)
  refine zt_iload_n dX6_isThere_0 rfl ?_
  refine zt_if_lt (tgt := 33) dX6_isThere_1 (by decide) (by omega) (fun c_1 => ?_) (fun c_1 => ?_)
  · refine zt_iconst dX6_isThere_33 ?_
    exact zt_zret dX6_isThere_34 (by decide) ⟨zb0 (by omega), rfl, rfl, rfl⟩
  · refine zt_iload_n dX6_isThere_4 rfl ?_
    refine zt_aload_n dX6_isThere_5 rfl ?_
    refine zt_get dX6_isThere_6 fl_X6_28 (zs_26 hS) ?_
    refine zt_icmp_ge (tgt := 33) dX6_isThere_9 (by decide) (by omega) (hm.fld (j := 0) (zs_26 hS) (by decide) (by decide) (by decide)) (fun c_9 => ?_) (fun c_9 => ?_)
    · refine zt_iconst dX6_isThere_33 ?_
      exact zt_zret dX6_isThere_34 (by decide) ⟨zb0 (by omega), rfl, rfl, rfl⟩
    · refine zt_iload_n dX6_isThere_12 rfl ?_
      refine zt_bipush dX6_isThere_13 (by decide) ?_
      refine zt_icmp_ge (tgt := 33) dX6_isThere_15 (by decide) (by omega) (by decide) (fun c_15 => ?_) (fun c_15 => ?_)
      · refine zt_iconst dX6_isThere_33 ?_
        exact zt_zret dX6_isThere_34 (by decide) ⟨zb0 (by omega), rfl, rfl, rfl⟩
      · refine zt_aload_n dX6_isThere_18 rfl ?_
        refine zt_getv dX6_isThere_19 fl_X6_11 (zs_26 hS) (rf_26_3 hR) ?_
        refine zt_iload_n dX6_isThere_22 rfl ?_
        refine zt_iaload dX6_isThere_23 (zs_27 hS) (by decide) (by omega) (by omega) ?_
        refine zt_ldc dX6_isThere_24 kc_X6_53 ?_
        refine zt_icmp_eq (tgt := 33) dX6_isThere_26 (by decide) (hm.int (zs_27 hS) (by omega) (by omega)) (by decide) (fun c_26 => ?_) (fun c_26 => ?_)
        · refine zt_iconst dX6_isThere_33 ?_
          exact zt_zret dX6_isThere_34 (by decide) ⟨zb0 (by omega), rfl, rfl, rfl⟩
        · refine zt_iconst dX6_isThere_29 ?_
          refine zt_goto (tgt := 34) dX6_isThere_30 (by decide) ?_
          exact zt_zret dX6_isThere_34 (by decide) ⟨zb1 (by omega), rfl, rfl, rfl⟩

set_option maxRecDepth 100000 in
set_option maxHeartbeats 4000000 in
theorem l_rare {d n : Nat} {sh : zSh} {h : zMem} {a b : Int} (hS : zShp sh) (hR : zRf h) (hr0 : rOK h) (hm : zMok sh h) (hab : -100 ≤ a ∧ -100 ≤ b ∧ b ≤ 100)  : ∀ (k : Nat) (i : Int), 101 - i < (k : Int) → a ≤ i → i ≤ 101 → (∀ j, a ≤ j → j < i → rTh h j) → zT yX6_areThere cX6_areThere 4 (some .boolean) (d + 1) 0 0 (zq (some (0, zbp (∀ j, a ≤ j → j ≤ b → rTh h j))) n sh h) 2 [some (2, 26), some (0, a), some (0, b), some (0, i)] [] n sh h := by
  intro k
  induction k with
  | zero => intros; exfalso; omega
  | succ k ih =>
    intro i hk h0 h1 ha
    refine zt_iload_n dX6_areThere_2 rfl ?_
    refine zt_iload_n dX6_areThere_3 rfl ?_
    refine zt_icmp_gt (tgt := 23) dX6_areThere_4 (by decide) (by omega) (by omega) (fun c_4 => ?_) (fun c_4 => ?_)
    · refine zt_iconst dX6_areThere_23 ?_
      exact zt_zret dX6_areThere_24 (by decide) ⟨by rw [zbp_t (P := ∀ j, a ≤ j → j ≤ b → rTh h j) (fun j q1 q2 => ha j q1 (by omega))], rfl, rfl, rfl⟩
    · refine zt_aload_n dX6_areThere_7 rfl ?_
      refine zt_iload_n dX6_areThere_8 rfl ?_
      refine zt_callV1r dX6_areThere_9 ml_X6_54 (zs_26 hS) (Nat.le_of_ble_eq_true rfl) (c_rth hS hR hr0 (by omega)) ?_
      refine zt_ifb_ne (tgt := 17) dX6_areThere_12 (by decide) (fun c_12 => ?_) (fun c_12 => ?_)
      · refine zt_iinc_3 dX6_areThere_17 (by decide) rfl ?_
        refine zt_goto (tgt := 2) dX6_areThere_20 (by decide) ?_
        exact ih (i + 1) (by omega) (by omega) (by omega) (fun j q1 q2 => by by_cases q : j < i; exact ha j q1 q; rw [show j = i by omega]; exact c_12)
      · refine zt_iconst dX6_areThere_15 ?_
        exact zt_zret dX6_areThere_16 (by decide) ⟨by rw [zbp_f (P := ∀ j, a ≤ j → j ≤ b → rTh h j) (fun q => c_12 (q i (by omega) (by omega)))], rfl, rfl, rfl⟩

set_option maxRecDepth 100000 in
set_option maxHeartbeats 4000000 in
theorem c_rare {d n : Nat} {sh : zSh} {h : zMem} {a b : Int} (hS : zShp sh) (hR : zRf h) (hr0 : rOK h) (hab : -100 ≤ a ∧ -100 ≤ b ∧ b ≤ 100) (ha1 : a ≤ 101) : zF yX6_areThere cX6_areThere 4 (some .boolean) (d + 1) 0 0 [(2, 26), (0, a), (0, b)] n sh h (some (0, zbp (∀ j, a ≤ j → j ≤ b → rTh h j))) n sh h := by
  refine zF.ofT (by decide +kernel) [some (2, 26), some (0, a), some (0, b), none] rfl (Nat.le_of_ble_eq_true rfl) ?_
  have hl := hr0.1
  refine zt_rg (fun hm => ?_)
  refine zt_iload_n dX6_areThere_0 rfl ?_
  refine zt_istore_n_3 dX6_areThere_1 (by decide) rfl ?_
  exact l_rare hS hR hr0 hm hab 202 a (by omega) (by omega) (by omega) (fun j q1 q2 => by omega)

set_option maxRecDepth 100000 in
set_option maxHeartbeats 4000000 in
theorem c_rnum {d n : Nat} {sh : zSh} {h : zMem} {i : Int} (hS : zShp sh) (hR : zRf h) (hi : 0 ≤ i ∧ i < 20) : zF yX6_numberAt cX6_numberAt 2 (some .int) (d + 0) 0 0 [(2, 26), (0, i)] n sh h (some (0, h 27 i)) n sh h := by
  refine zF.ofT (by decide +kernel) [some (2, 26), some (0, i)] rfl (Nat.le_of_ble_eq_true rfl) ?_
  refine zt_rg (fun hm => ?_)
  refine zt_iload_n dX6_numberAt_0 rfl ?_
  refine zt_if_lt (tgt := 13) dX6_numberAt_1 (by decide) (by omega) (fun c_1 => ?_) (fun c_1 => ?_)
  · exfalso
    omega
  · refine zt_iload_n dX6_numberAt_4 rfl ?_
    refine zt_aload_n dX6_numberAt_5 rfl ?_
    refine zt_getv dX6_numberAt_6 fl_X6_11 (zs_26 hS) (rf_26_3 hR) ?_
    refine zt_alenv (v := 20) dX6_numberAt_9 (zs_27 hS) (by decide) (by decide) rfl ?_
    refine zt_icmp_lt (tgt := 17) dX6_numberAt_10 (by decide) (by omega) (by decide) (fun c_10 => ?_) (fun c_10 => ?_)
    · refine zt_aload_n dX6_numberAt_17 rfl ?_
      refine zt_getv dX6_numberAt_18 fl_X6_11 (zs_26 hS) (rf_26_3 hR) ?_
      refine zt_iload_n dX6_numberAt_21 rfl ?_
      refine zt_iaload dX6_numberAt_22 (zs_27 hS) (by decide) (by omega) (by omega) ?_
      exact zt_iret dX6_numberAt_23 ⟨rfl, rfl, rfl, rfl⟩
    · exfalso
      omega

/-- what a laid FIGURE becomes -/
def rLv (h : zMem) (t f i : Int) : Int := if -999999 ≤ tFig h t (f + i) ∧ tFig h t (f + i) ≤ 999999 then tFig h t (f + i) else -2147483648
def rLm (h : zMem) (t f n i : Int) : zMem := fun x y => if x = 26 ∧ y = 0 then n else if x = 27 ∧ 0 ≤ y ∧ y < i then rLv h t f y else h x y
theorem rLm_0 {h : zMem} {t f n : Int} : zup h 26 0 n = rLm h t f n 0 := zmem_ext (fun x y => by unfold zup rLm; split; rfl; rw [if_neg (by omega)])
theorem rLm_s {h : zMem} {t f n i : Int} (h0 : 0 ≤ i) : zup (rLm h t f n i) 27 i (rLv h t f i) = rLm h t f n (i + 1) := zmem_ext (fun x y => by
  unfold zup rLm
  by_cases h1 : x = 27 ∧ y = i
  · rw [if_pos h1, if_neg (by omega), if_pos (by omega), h1.2]
  · rw [if_neg h1]
    by_cases h2 : x = 26 ∧ y = 0
    · rw [if_pos h2, if_pos h2]
    · rw [if_neg h2, if_neg h2]
      by_cases h3 : x = 27 ∧ 0 ≤ y ∧ y < i
      · rw [if_pos h3, if_pos (by omega)]
      · rw [if_neg h3, if_neg (by omega)])
theorem rLm_ne {h : zMem} {t f n i x y : Int} (hx : x ≠ 27) (hy : x ≠ 26 ∨ y ≠ 0) : rLm h t f n i x y = h x y := by unfold rLm; rw [if_neg (by omega), if_neg (by omega)]
theorem rLm_l {h : zMem} {t f n i : Int} : rLm h t f n i 26 0 = n := if_pos ⟨rfl, rfl⟩
theorem rLm_rf {h : zMem} {t f n i : Int} (hR : zRf h) : zRf (rLm h t f n i) := fun q hq => by
  have h1 : ∀ q ∈ zrf0, q.1 ≠ 27 ∧ (q.1 ≠ 26 ∨ q.2.1 ≠ 0) := by decide
  rw [rLm_ne (h1 q hq).1 (h1 q hq).2]; exact hR q hq
theorem rLm_row {h : zMem} {t f n i x : Int} (hx : 80 ≤ x) : rLm h t f n i x = h x := by funext y; exact rLm_ne (by omega) (by omega)
theorem rLm_tab {sh : zSh} {h : zMem} {t f n i : Int} (hT : zTab sh h t) : zTab sh (rLm h t f n i) t := by
  have e := rLm_row (h := h) (t := t) (f := f) (n := n) (i := i) hT.1
  refine ⟨hT.1, hT.2.1, by rw [e]; exact hT.2.2.1, fun j h1 h2 => ?_⟩
  rw [e]; exact hT.2.2.2 j h1 h2
theorem rLm_fig {h : zMem} {t f n i e : Int} (ht : 80 ≤ t) : tFig (rLm h t f n i) t e = tFig h t e := by
  unfold tFig; rw [rLm_row (x := t) (by omega), rLm_row (x := t + 8) (by omega), rLm_row (x := t + 4) (by omega)]
theorem tFig_zi {sh : zSh} {h : zMem} {t e : Int} (hT : zTab sh h t) (hm : zMok sh h) : zi32 (tFig h t e) := by
  have hE := hT.2.2.1
  unfold tFig
  split
  · exact hm.int (hT.ar 4 (by decide) (by decide)) (by omega) (by omega)
  · decide

set_option maxRecDepth 100000 in
set_option maxHeartbeats 4000000 in
theorem l_lay {d n : Nat} {sh : zSh} {h : zMem} {t f m : Int} (hS : zShp sh) (hR : zRf h) (hT : zTab sh h t) (hm : zMok sh h) (hfm : (0 ≤ f ∧ f ≤ 30) ∧ 1 ≤ m ∧ m ≤ 20)  : ∀ (k : Nat) (i : Int) (c : Int), m - i < (k : Int) → 0 ≤ i → i ≤ m → zS (fun j => zb (rLv h t f j ≠ -2147483648)) 0 m = c + zS (fun j => zb (rLv h t f j ≠ -2147483648)) i m → zT yX6_layFigures cX6_layFigures 7 (some .int) (d + 3) 0 0 (zq (some (0, zS (fun j => zb (rLv h t f j ≠ -2147483648)) 0 m)) n sh (rLm h t f m m)) 20 [some (2, 26), some (2, t), some (0, f), some (0, m), some (0, c), some (0, i), none] [] n sh (rLm h t f m i) := by
  intro k
  induction k with
  | zero => intros; exfalso; omega
  | succ k ih =>
    intro i c hk h0 h1 hr
    refine zt_iload dX6_layFigures_20 rfl ?_
    refine zt_aload_n dX6_layFigures_22 rfl ?_
    refine zt_getv (v := m) dX6_layFigures_23 fl_X6_28 (zs_26 hS) rLm_l ?_
    refine zt_icmp_ge (tgt := 89) dX6_layFigures_26 (by decide) (by omega) (by omega) (fun c_26 => ?_) (fun c_26 => ?_)
    · refine zt_iload dX6_layFigures_89 rfl ?_
      exact zt_iret dX6_layFigures_91 ⟨by rw [hr, zS_e (by omega)]; congr 2; omega, rfl, rfl, by rw [show i = m by omega]⟩
    · refine zt_aload_n dX6_layFigures_29 rfl ?_
      refine zt_iload_n dX6_layFigures_30 rfl ?_
      refine zt_iload dX6_layFigures_31 rfl ?_
      refine zt_iadd dX6_layFigures_33 ?_
      refine zt_callV1r dX6_layFigures_34 ml_X6_47 hT.sh (Nat.le_of_ble_eq_true rfl) (zF.of_eq (by rw [rLm_fig hT.1]) rfl rfl rfl (c_tfig (rLm_tab hT) (by omega))) ?_
      refine zt_istore_6 dX6_layFigures_37 (by decide) rfl ?_
      refine zt_aload_n dX6_layFigures_39 rfl ?_
      refine zt_getv dX6_layFigures_40 fl_X6_11 (zs_26 hS) (rf_26_3 (rLm_rf hR)) ?_
      refine zt_iload dX6_layFigures_43 rfl ?_
      refine zt_iload dX6_layFigures_45 rfl ?_
      refine zt_callS1r dX6_layFigures_47 ml_X6_32 (Nat.le_of_ble_eq_true rfl) (c_isrn (tFig_zi hT hm)) ?_
      refine zt_ifb_eq (tgt := 58) dX6_layFigures_50 (by decide) (fun c_50 => ?_) (fun c_50 => ?_)
      · refine zt_ldc dX6_layFigures_58 kc_X6_53 ?_
        refine zt_iastore dX6_layFigures_60 (zs_27 hS) (by decide) (by omega) (by omega) (by decide) ?_
        refine zt_iload dX6_layFigures_61 rfl ?_
        refine zt_aload_n dX6_layFigures_63 rfl ?_
        refine zt_getv dX6_layFigures_64 fl_X6_11 (zs_26 hS) (rf_26_3 ((rLm_rf hR).upA (by decide))) ?_
        refine zt_iload dX6_layFigures_67 rfl ?_
        refine zt_ialoadv (v := -2147483648) dX6_layFigures_69 (zs_27 hS) (by decide) (by omega) (by omega) zupE ?_
        refine zt_ldc dX6_layFigures_70 kc_X6_53 ?_
        refine zt_icmp_ne (tgt := 79) dX6_layFigures_72 (by decide) (by decide) (by decide) (fun q => absurd q (by decide)) (fun c_72 => ?_)
        refine zt_iconst dX6_layFigures_75 ?_
        refine zt_goto (tgt := 80) dX6_layFigures_76 (by decide) ?_
        refine zt_iadd dX6_layFigures_80 ?_
        refine zt_istore_4 dX6_layFigures_81 (by decide) rfl ?_
        refine zt_iinc_5 dX6_layFigures_83 (by decide) rfl ?_
        refine zt_goto (tgt := 20) dX6_layFigures_86 (by decide) ?_
        refine zt_kill_6 ?_
        have e : rLv h t f i = -2147483648 := by unfold rLv; rw [if_neg c_50]
        rw [show zup (rLm h t f m i) 27 i (-2147483648) = rLm h t f m (i + 1) by rw [← rLm_s h0, e]]
        exact ih (i + 1) _ (by omega) (by omega) (by omega) (by rw [hr, zS_s (by omega)]; first | (rw [zb_t (by omega)]; omega) | (rw [zb_f (by omega)]; omega))
      · refine zt_iload dX6_layFigures_53 rfl ?_
        refine zt_goto (tgt := 60) dX6_layFigures_55 (by decide) ?_
        refine zt_iastore dX6_layFigures_60 (zs_27 hS) (by decide) (by omega) (by omega) (by omega) ?_
        refine zt_iload dX6_layFigures_61 rfl ?_
        refine zt_aload_n dX6_layFigures_63 rfl ?_
        refine zt_getv dX6_layFigures_64 fl_X6_11 (zs_26 hS) (rf_26_3 ((rLm_rf hR).upA (by decide))) ?_
        refine zt_iload dX6_layFigures_67 rfl ?_
        refine zt_ialoadv (v := tFig h t (f + i)) dX6_layFigures_69 (zs_27 hS) (by decide) (by omega) (by omega) zupE ?_
        refine zt_ldc dX6_layFigures_70 kc_X6_53 ?_
        refine zt_icmp_ne (tgt := 79) dX6_layFigures_72 (by decide) (tFig_zi hT hm) (by decide) (fun c_72 => ?_) (fun c_72 => ?_)
        · refine zt_iconst dX6_layFigures_79 ?_
          refine zt_iadd dX6_layFigures_80 ?_
          refine zt_istore_4 dX6_layFigures_81 (by decide) rfl ?_
          refine zt_iinc_5 dX6_layFigures_83 (by decide) rfl ?_
          refine zt_goto (tgt := 20) dX6_layFigures_86 (by decide) ?_
          refine zt_kill_6 ?_
          have e : rLv h t f i = tFig h t (f + i) := by unfold rLv; rw [if_pos c_50]
          rw [show zup (rLm h t f m i) 27 i (tFig h t (f + i)) = rLm h t f m (i + 1) by rw [← rLm_s h0, e]]
          exact ih (i + 1) _ (by omega) (by omega) (by omega) (by rw [hr, zS_s (by omega)]; first | (rw [zb_t (by omega)]; omega) | (rw [zb_f (by omega)]; omega))
        · refine zt_iconst dX6_layFigures_75 ?_
          refine zt_goto (tgt := 80) dX6_layFigures_76 (by decide) ?_
          refine zt_iadd dX6_layFigures_80 ?_
          refine zt_istore_4 dX6_layFigures_81 (by decide) rfl ?_
          refine zt_iinc_5 dX6_layFigures_83 (by decide) rfl ?_
          refine zt_goto (tgt := 20) dX6_layFigures_86 (by decide) ?_
          refine zt_kill_6 ?_
          have e : rLv h t f i = tFig h t (f + i) := by unfold rLv; rw [if_pos c_50]
          rw [show zup (rLm h t f m i) 27 i (tFig h t (f + i)) = rLm h t f m (i + 1) by rw [← rLm_s h0, e]]
          exact ih (i + 1) _ (by omega) (by omega) (by omega) (by rw [hr, zS_s (by omega)]; first | (rw [zb_t (by omega)]; omega) | (rw [zb_f (by omega)]; omega))

set_option maxRecDepth 100000 in
set_option maxHeartbeats 4000000 in
theorem c_lay {d n : Nat} {sh : zSh} {h : zMem} {t f m : Int} (hS : zShp sh) (hR : zRf h) (hT : zTab sh h t) (hfm : (0 ≤ f ∧ f ≤ 30) ∧ 1 ≤ m ∧ m ≤ 20) : zF yX6_layFigures cX6_layFigures 7 (some .int) (d + 3) 0 0 [(2, 26), (2, t), (0, f), (0, m)] n sh h (some (0, zS (fun j => zb (rLv h t f j ≠ -2147483648)) 0 m)) n sh (rLm h t f m m) := by
  refine zF.ofT (by decide +kernel) [some (2, 26), some (2, t), some (0, f), some (0, m), none, none, none] rfl (Nat.le_of_ble_eq_true rfl) ?_
  refine zt_rg (fun hm => ?_)
  refine zt_aload_n dX6_layFigures_0 rfl ?_
  refine zt_iconst dX6_layFigures_1 ?_
  refine zt_iload_n dX6_layFigures_2 rfl ?_
  refine zt_bipush dX6_layFigures_3 (by decide) ?_
  refine zt_callS2r dX6_layFigures_5 ml_X6_38 (Nat.le_of_ble_eq_true rfl) (zF.of_eq (show some (0, zmi m 20) = some (0, m) by congr 2; unfold zmi; split <;> omega) rfl rfl rfl (c_min (by omega) (by omega))) ?_
  refine zt_callS2r dX6_layFigures_8 ml_X6_44 (Nat.le_of_ble_eq_true rfl) (zF.of_eq (show some (0, zmx 0 m) = some (0, m) by congr 2; unfold zmx; split <;> omega) rfl rfl rfl (c_max (by omega) (by omega))) ?_
  refine zt_puti dX6_layFigures_11 fl_X6_28 rfl (zs_26 hS) (by omega) ?_
  refine zt_iconst dX6_layFigures_14 ?_
  refine zt_istore_4 dX6_layFigures_15 (by decide) rfl ?_
  refine zt_iconst dX6_layFigures_17 ?_
  refine zt_istore_5 dX6_layFigures_18 (by decide) rfl ?_
  rw [rLm_0 (t := t) (f := f)]
  exact l_lay hS hR hT hm hfm 21 0 0 (by omega) (by omega) (by omega) (by omega)

theorem zbp_or (P : Prop) : zbp P = 0 ∨ zbp P = 1 := @zb_or P (Classical.propDecidable P)
theorem zbp_in (P : Prop) : zi32 (zbp P) := @zb_in P (Classical.propDecidable P)
theorem zbp_ne {P : Prop} (h : zbp P ≠ 0) : P := Classical.byContradiction fun q => h (zbp_f q)
theorem zbp_eq0 {P : Prop} (h : zbp P = 0) : ¬ P := fun q => by rw [zbp_t q] at h; exact absurd h (by decide)
/-- four numbers there, from i - 1 on -/
abbrev r4 (h : zMem) (i : Int) : Prop := rTh h (i - 1) ∧ rTh h i ∧ rTh h (i + 1) ∧ rTh h (i + 2)
abbrev r5 (h : zMem) (i : Int) : Prop := rTh h i ∧ rTh h (i + 1) ∧ rTh h (i + 2) ∧ rTh h (i + 3) ∧ rTh h (i + 4)
theorem r4_iff {h : zMem} {i : Int} : (∀ j, i - 1 ≤ j → j ≤ i + 2 → rTh h j) ↔ r4 h i := ⟨fun q => ⟨q _ (by omega) (by omega), q _ (by omega) (by omega), q _ (by omega) (by omega), q _ (by omega) (by omega)⟩, fun q j a b => by
  rcases (show j = i - 1 ∨ j = i ∨ j = i + 1 ∨ j = i + 2 by omega) with rfl | rfl | rfl | rfl
  · exact q.1
  · exact q.2.1
  · exact q.2.2.1
  · exact q.2.2.2⟩
theorem r5_iff {h : zMem} {i : Int} : (∀ j, i ≤ j → j ≤ i + 4 → rTh h j) ↔ r5 h i := ⟨fun q => ⟨q _ (by omega) (by omega), q _ (by omega) (by omega), q _ (by omega) (by omega), q _ (by omega) (by omega), q _ (by omega) (by omega)⟩, fun q j a b => by
  rcases (show j = i ∨ j = i + 1 ∨ j = i + 2 ∨ j = i + 3 ∨ j = i + 4 by omega) with rfl | rfl | rfl | rfl | rfl
  · exact q.1
  · exact q.2.1
  · exact q.2.2.1
  · exact q.2.2.2.1
  · exact q.2.2.2.2⟩
def r4d (g : Int → Int) (i : Int) : Int := g i - 4 * g (i + 1) + 6 * g (i + 2) - 4 * g (i + 3) + g (i + 4)
noncomputable def rFo (h : zMem) (i : Int) : Int := if r5 h i then zabs (r4d (h 27) i) else -1

set_option maxRecDepth 100000 in
set_option maxHeartbeats 4000000 in
theorem c_rfo {d n : Nat} {sh : zSh} {h : zMem} {i : Int} (hS : zShp sh) (hR : zRf h) (hr0 : rOK h) (hi : -50 ≤ i ∧ i ≤ 50) : zF yX6_fourthDifference cX6_fourthDifference 2 (some .int) (d + 2) 0 0 [(2, 26), (0, i)] n sh h (some (0, rFo h i)) n sh h := by
  refine zF.ofT (by decide +kernel) [some (2, 26), some (0, i)] rfl (Nat.le_of_ble_eq_true rfl) ?_
  have hl := hr0.1
  refine zt_rg (fun hm => ?_)
  refine zt_aload_n dX6_fourthDifference_0 rfl ?_
  refine zt_iload_n dX6_fourthDifference_1 rfl ?_
  refine zt_iload_n dX6_fourthDifference_2 rfl ?_
  refine zt_iconst dX6_fourthDifference_3 ?_
  refine zt_iadd dX6_fourthDifference_4 ?_
  refine zt_callV2r dX6_fourthDifference_5 ml_X6_122 (zs_26 hS) (Nat.le_of_ble_eq_true rfl) (c_rare hS hR hr0 (by omega) (by omega)) ?_
  refine zt_if_ne (tgt := 13) dX6_fourthDifference_8 (by decide) (zbp_in _) (fun c_8 => ?_) (fun c_8 => ?_)
  · have hr5 := r5_iff.mp (zbp_ne c_8)
    have g0 := hr0.2 i (by omega) (by omega)
    have g1 := hr0.2 (i + 1) (by omega) (by omega)
    have g2 := hr0.2 (i + 2) (by omega) (by omega)
    have g3 := hr0.2 (i + 3) (by omega) (by omega)
    have g4 := hr0.2 (i + 4) (by omega) (by omega)
    refine zt_aload_n dX6_fourthDifference_13 rfl ?_
    refine zt_iload_n dX6_fourthDifference_14 rfl ?_
    refine zt_callV1r dX6_fourthDifference_15 ml_X6_111 (zs_26 hS) (Nat.le_of_ble_eq_true rfl) (c_rnum hS hR (by omega)) ?_
    refine zt_iconst dX6_fourthDifference_18 ?_
    refine zt_aload_n dX6_fourthDifference_19 rfl ?_
    refine zt_iload_n dX6_fourthDifference_20 rfl ?_
    refine zt_iconst dX6_fourthDifference_21 ?_
    refine zt_iadd dX6_fourthDifference_22 ?_
    refine zt_callV1r dX6_fourthDifference_23 ml_X6_111 (zs_26 hS) (Nat.le_of_ble_eq_true rfl) (c_rnum hS hR (by omega)) ?_
    refine zt_imul dX6_fourthDifference_26 ?_
    refine zt_isub dX6_fourthDifference_27 ?_
    refine zt_bipush dX6_fourthDifference_28 (by decide) ?_
    refine zt_aload_n dX6_fourthDifference_30 rfl ?_
    refine zt_iload_n dX6_fourthDifference_31 rfl ?_
    refine zt_iconst dX6_fourthDifference_32 ?_
    refine zt_iadd dX6_fourthDifference_33 ?_
    refine zt_callV1r dX6_fourthDifference_34 ml_X6_111 (zs_26 hS) (Nat.le_of_ble_eq_true rfl) (c_rnum hS hR (by omega)) ?_
    refine zt_imul dX6_fourthDifference_37 ?_
    refine zt_iadd dX6_fourthDifference_38 ?_
    refine zt_iconst dX6_fourthDifference_39 ?_
    refine zt_aload_n dX6_fourthDifference_40 rfl ?_
    refine zt_iload_n dX6_fourthDifference_41 rfl ?_
    refine zt_iconst dX6_fourthDifference_42 ?_
    refine zt_iadd dX6_fourthDifference_43 ?_
    refine zt_callV1r dX6_fourthDifference_44 ml_X6_111 (zs_26 hS) (Nat.le_of_ble_eq_true rfl) (c_rnum hS hR (by omega)) ?_
    refine zt_imul dX6_fourthDifference_47 ?_
    refine zt_isub dX6_fourthDifference_48 ?_
    refine zt_aload_n dX6_fourthDifference_49 rfl ?_
    refine zt_iload_n dX6_fourthDifference_50 rfl ?_
    refine zt_iconst dX6_fourthDifference_51 ?_
    refine zt_iadd dX6_fourthDifference_52 ?_
    refine zt_callV1r dX6_fourthDifference_53 ml_X6_111 (zs_26 hS) (Nat.le_of_ble_eq_true rfl) (c_rnum hS hR (by omega)) ?_
    refine zt_iadd dX6_fourthDifference_56 ?_
    refine zt_callS1r dX6_fourthDifference_57 ml_X6_135 (Nat.le_of_ble_eq_true rfl) (c_abs (by omega)) ?_
    exact zt_iret dX6_fourthDifference_60 ⟨by congr 2; unfold rFo; rw [if_pos hr5]; rfl, rfl, rfl, rfl⟩
  · refine zt_iconst dX6_fourthDifference_11 ?_
    exact zt_iret dX6_fourthDifference_12 ⟨by congr 2; unfold rFo; rw [if_neg (fun q => zbp_eq0 c_8 (r5_iff.mpr q))], rfl, rfl, rfl⟩

theorem rFo_r {h : zMem} {i : Int} (hr0 : rOK h) : -1 ≤ rFo h i ∧ rFo h i ≤ 16000000 := by
  unfold rFo
  split
  · rename_i q
    have g0 := hr0.2 i (by omega) (by omega)
    have g1 := hr0.2 (i + 1) (by omega) (by omega)
    have g2 := hr0.2 (i + 2) (by omega) (by omega)
    have g3 := hr0.2 (i + 3) (by omega) (by omega)
    have g4 := hr0.2 (i + 4) (by omega) (by omega)
    have := zabs_le (B := 16000000) (n := r4d (h 27) i) (by unfold r4d; omega)
    omega
  · omega
noncomputable def rBo (h : zMem) (i : Int) : Int := if 1 ≤ i ∧ i < 20 then (if zmx (rFo h (i - 2)) (rFo h (i - 1)) = -1 then -1 else (3 * zmx (rFo h (i - 2)) (rFo h (i - 1)) + 127) / 128) else -1

set_option maxRecDepth 100000 in
set_option maxHeartbeats 4000000 in
theorem c_rbo {d n : Nat} {sh : zSh} {h : zMem} {i : Int} (hS : zShp sh) (hR : zRf h) (hr0 : rOK h) (hi : zi32 i) : zF yX6_boundAt cX6_boundAt 3 (some .int) (d + 3) 0 0 [(2, 26), (0, i)] n sh h (some (0, rBo h i)) n sh h := by
  refine zF.ofT (by decide +kernel) [some (2, 26), some (0, i), none] rfl (Nat.le_of_ble_eq_true rfl) ?_
  refine zt_iload_n dX6_boundAt_0 rfl ?_
  refine zt_iconst dX6_boundAt_1 ?_
  refine zt_icmp_lt (tgt := 11) dX6_boundAt_2 (by decide) (by omega) (by decide) (fun c_2 => ?_) (fun c_2 => ?_)
  · refine zt_iconst dX6_boundAt_11 ?_
    exact zt_iret dX6_boundAt_12 ⟨by congr 2; unfold rBo; first | (rw [if_neg (by omega)]; done) | (rw [if_pos (by omega), if_pos (by omega)]; done) | (rw [if_pos (by omega), if_neg (by omega)]), rfl, rfl, rfl⟩
  · refine zt_iload_n dX6_boundAt_5 rfl ?_
    refine zt_bipush dX6_boundAt_6 (by decide) ?_
    refine zt_icmp_lt (tgt := 13) dX6_boundAt_8 (by decide) (by omega) (by decide) (fun c_8 => ?_) (fun c_8 => ?_)
    · have b1 := rFo_r (i := i - 2) hr0
      have b2 := rFo_r (i := i - 1) hr0
      refine zt_aload_n dX6_boundAt_13 rfl ?_
      refine zt_iload_n dX6_boundAt_14 rfl ?_
      refine zt_iconst dX6_boundAt_15 ?_
      refine zt_isub dX6_boundAt_16 ?_
      refine zt_callV1r dX6_boundAt_17 ml_X6_132 (zs_26 hS) (Nat.le_of_ble_eq_true rfl) (c_rfo hS hR hr0 (by omega)) ?_
      refine zt_aload_n dX6_boundAt_20 rfl ?_
      refine zt_iload_n dX6_boundAt_21 rfl ?_
      refine zt_iconst dX6_boundAt_22 ?_
      refine zt_isub dX6_boundAt_23 ?_
      refine zt_callV1r dX6_boundAt_24 ml_X6_132 (zs_26 hS) (Nat.le_of_ble_eq_true rfl) (c_rfo hS hR hr0 (by omega)) ?_
      refine zt_callS2r dX6_boundAt_27 ml_X6_44 (Nat.le_of_ble_eq_true rfl) (c_max (by omega) (by omega)) ?_
      have hx : zmx (rFo h (i - 2)) (rFo h (i - 1)) = rFo h (i - 2) ∨ zmx (rFo h (i - 2)) (rFo h (i - 1)) = rFo h (i - 1) := by unfold zmx; split <;> omega
      refine zt_istore_n_2 dX6_boundAt_30 (by decide) rfl ?_
      refine zt_iload_n dX6_boundAt_31 rfl ?_
      refine zt_iconst dX6_boundAt_32 ?_
      refine zt_icmp_ne (tgt := 40) dX6_boundAt_33 (by decide) (by omega) (by decide) (fun c_33 => ?_) (fun c_33 => ?_)
      · refine zt_iconst dX6_boundAt_40 ?_
        refine zt_iload_n dX6_boundAt_41 rfl ?_
        refine zt_imul dX6_boundAt_42 ?_
        refine zt_bipush dX6_boundAt_43 (by decide) ?_
        refine zt_iadd dX6_boundAt_45 ?_
        refine zt_sipush dX6_boundAt_46 (by decide) ?_
        refine zt_idiv dX6_boundAt_49 (by omega) (by decide) (by decide) ?_
        refine zt_topv (ztm_p (by decide) (by omega)).2 ?_
        exact zt_iret dX6_boundAt_50 ⟨by congr 2; unfold rBo; first | (rw [if_neg (by omega)]; done) | (rw [if_pos (by omega), if_pos (by omega)]; done) | (rw [if_pos (by omega), if_neg (by omega)]), rfl, rfl, rfl⟩
      · refine zt_iconst dX6_boundAt_36 ?_
        refine zt_goto (tgt := 50) dX6_boundAt_37 (by decide) ?_
        exact zt_iret dX6_boundAt_50 ⟨by congr 2; unfold rBo; first | (rw [if_neg (by omega)]; done) | (rw [if_pos (by omega), if_pos (by omega)]; done) | (rw [if_pos (by omega), if_neg (by omega)]), rfl, rfl, rfl⟩
    · refine zt_iconst dX6_boundAt_11 ?_
      exact zt_iret dX6_boundAt_12 ⟨by congr 2; unfold rBo; first | (rw [if_neg (by omega)]; done) | (rw [if_pos (by omega), if_pos (by omega)]; done) | (rw [if_pos (by omega), if_neg (by omega)]), rfl, rfl, rfl⟩
