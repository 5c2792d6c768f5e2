def lOf (L : Int → Int) (p v : Int) : Int → Int := fun y => if y = p ∧ v < L p then v else L y
def cAdd (c : Int → Int) : Int → Int := fun k => if 0 ≤ k ∧ k ≤ 3 then (c k + c (k + 1)) % 1000000000 else c k
abbrev rGd (h : zMem) (t e j : Int) (c : Int → Int) : Prop := h (t + 1) j ≠ -2147483648 ∧ -e ≤ zsho (c 0) - h (t + 1) j ∧ zsho (c 0) - h (t + 1) j ≤ e
def lRun (h : zMem) (t e i g cost : Int) : Nat → Int → (Int → Int) → (Int → Int) → (Int → Int)
  | 0, _, _, L => L
  | k + 1, j, c, L => if rGd h t e j c then lRun h t e i g cost k (j + 1) (cAdd c) (if i + g ≤ j then lOf L (j + 1) (cost + j - i) else L) else L
def lRuns (h : zMem) (t e i g : Int) (L : Int → Int) : Int → Int := if tDok h t i g then lRun h t e i g (L i + (14 + 4 * g)) (h t 0 - i).toNat i (tDc h t i g) L else L
def lStep (h : zMem) (t e i : Int) (L : Int → Int) : Int → Int := if h (t + 1) i = -2147483648 then lOf L (i + 1) (L i + 0) else zFor (lRuns h t e i) 1 5 (lOf L (i + 1) (L i + 30))
def lL0 (h : zMem) : Int → Int := fun y => if y = 0 then 0 else if 0 ≤ y ∧ y < 31 then 900 else h 25 y
def lAll (h : zMem) (t e : Int) : Int → Int := zFor (lStep h t e) 0 (h t 0) (lL0 h)
def lRg (L : Int → Int) : Prop := ∀ y, 0 ≤ y → y ≤ 30 → 0 ≤ L y ∧ L y ≤ 900
def cRg (c : Int → Int) : Prop := ∀ k, 0 ≤ k → k ≤ 4 → 0 ≤ c k ∧ c k < 1000000000
theorem lOf_rg {L : Int → Int} {p v : Int} (h : lRg L) (hv : 0 ≤ v) (hp : 0 ≤ p ∧ p ≤ 30) : lRg (lOf L p v) := fun y h0 h1 => by
  have a := h y h0 h1
  have b := h p hp.1 hp.2
  unfold lOf
  split <;> omega
theorem cAdd_rg {c : Int → Int} (h : cRg c) : cRg (cAdd c) := fun k h0 h1 => by
  unfold cAdd
  split
  · omega
  · exact h k h0 h1
theorem cAdd_congr {c c' : Int → Int} (h : ∀ k, 0 ≤ k → k ≤ 4 → c k = c' k) : ∀ k, 0 ≤ k → k ≤ 4 → cAdd c k = cAdd c' k := fun k h0 h1 => by
  unfold cAdd
  split
  · rw [h k h0 h1, h (k + 1) (by omega) (by omega)]
  · exact h k h0 h1
theorem tDc_rg {h : zMem} {t e g : Int} : cRg (tDc h t e g) := fun k h0 h1 => by unfold tDc; split <;> omega
theorem zabs_iff {x e : Int} : zabs x ≤ e ↔ -e ≤ x ∧ x ≤ e := by unfold zabs; split <;> omega
theorem rGd_c {h : zMem} {t e j : Int} {c C : Int → Int} (hc : c 0 = C 0) : rGd h t e j C ↔ rGd h t e j c := by unfold rGd; rw [hc]
theorem zsho_r {x : Int} (h : 0 ≤ x ∧ x < 1000000000) : -500000000 ≤ zsho x ∧ zsho x ≤ 499999999 := by unfold zsho; split <;> omega

set_option maxRecDepth 100000 in
set_option maxHeartbeats 4000000 in
theorem c_scost {d n : Nat} {sh : zSh} {h : zMem} {g : Int}  : zF yX5_settingCost cX5_settingCost 1 (some .int) (d + 0) 0 0 [(0, g)] n sh h (some (0, 14 + 4 * g)) n sh h := by
  refine zF.ofT (by decide +kernel) [some (0, g)] rfl (Nat.le_of_ble_eq_true rfl) ?_
  refine zt_bipush dX5_settingCost_0 (by decide) ?_
  refine zt_iconst dX5_settingCost_2 ?_
  refine zt_iload_n dX5_settingCost_3 rfl ?_
  refine zt_imul dX5_settingCost_4 ?_
  refine zt_iadd dX5_settingCost_5 ?_
  exact zt_iret dX5_settingCost_6 ⟨rfl, rfl, rfl, rfl⟩

theorem lOf_up {h : zMem} {p v : Int} (hv : v < h 25 p) : zup h 25 p v = znew h 25 (lOf (h 25) p v) := zmem_ext (fun x y => by
  unfold zup znew lOf
  by_cases hx : x = 25
  · subst hx; simp [hv]
  · simp [hx])
theorem lOf_no {h : zMem} {p v : Int} (hv : h 25 p ≤ v) : znew h 25 (lOf (h 25) p v) = h := by
  have : lOf (h 25) p v = h 25 := by funext y; unfold lOf; rw [if_neg (by omega)]
  rw [this]; exact znew_self

set_option maxRecDepth 100000 in
set_option maxHeartbeats 4000000 in
theorem c_offer {d n : Nat} {sh : zSh} {h : zMem} {p v : Int} (hS : zShp sh) (hR : zRf h) (hp : 0 ≤ p ∧ p ≤ 30) (hv : zi32 v) : zF yX5_offer cX5_offer 3 none (d + 0) 0 0 [(2, 23), (0, p), (0, v)] n sh h none n sh (znew h 25 (lOf (h 25) p v)) := by
  refine zF.ofT (by decide +kernel) [some (2, 23), some (0, p), some (0, v)] rfl (Nat.le_of_ble_eq_true rfl) ?_
  refine zt_rg (fun hm => ?_)
  refine zt_iload_n dX5_offer_0 rfl ?_
  refine zt_if_lt (tgt := 30) dX5_offer_1 (by decide) (by omega) (fun c_1 => ?_) (fun c_1 => ?_)
  · exfalso
    omega
  · refine zt_iload_n dX5_offer_4 rfl ?_
    refine zt_aload_n dX5_offer_5 rfl ?_
    refine zt_getv dX5_offer_6 fl_X5_17 (zs_23 hS) (rf_23_1 hR) ?_
    refine zt_alenv (v := 31) dX5_offer_9 (zs_25 hS) (by decide) (by decide) rfl ?_
    refine zt_icmp_ge (tgt := 30) dX5_offer_10 (by decide) (by omega) (by decide) (fun c_10 => ?_) (fun c_10 => ?_)
    · exfalso
      omega
    · refine zt_iload_n dX5_offer_13 rfl ?_
      refine zt_aload_n dX5_offer_14 rfl ?_
      refine zt_getv dX5_offer_15 fl_X5_17 (zs_23 hS) (rf_23_1 hR) ?_
      refine zt_iload_n dX5_offer_18 rfl ?_
      refine zt_iaload dX5_offer_19 (zs_25 hS) (by decide) (by omega) (by omega) ?_
      refine zt_icmp_ge (tgt := 30) dX5_offer_20 (by decide) (by omega) (hm.int (zs_25 hS) (by omega) (by omega)) (fun c_20 => ?_) (fun c_20 => ?_)
      · exact zt_vret dX5_offer_30 ⟨rfl, rfl, rfl, (lOf_no (by omega)).symm⟩
      · refine zt_aload_n dX5_offer_23 rfl ?_
        refine zt_getv dX5_offer_24 fl_X5_17 (zs_23 hS) (rf_23_1 hR) ?_
        refine zt_iload_n dX5_offer_27 rfl ?_
        refine zt_iload_n dX5_offer_28 rfl ?_
        refine zt_iastore dX5_offer_29 (zs_25 hS) (by decide) (by omega) (by omega) (by omega) ?_
        exact zt_vret dX5_offer_30 ⟨rfl, rfl, rfl, by rw [show zup h 25 p v = znew h 25 (lOf (h 25) p v) from lOf_up (by omega)]⟩

theorem cAdd_up {h : zMem} : zup (zup (zup (zup h 24 0 ((h 24 0 + h 24 1) % 1000000000)) 24 1 ((h 24 1 + h 24 2) % 1000000000)) 24 2 ((h 24 2 + h 24 3) % 1000000000)) 24 3 ((h 24 3 + h 24 4) % 1000000000) = znew h 24 (cAdd (h 24)) := zmem_ext (fun x y => by
  unfold zup znew cAdd
  by_cases hx : x = 24
  · subst hx
    simp only [true_and, if_true]
    by_cases h3 : y = 3
    · subst h3; rfl
    · rw [if_neg h3]
      by_cases h2 : y = 2
      · subst h2; rfl
      · rw [if_neg h2]
        by_cases h1 : y = 1
        · subst h1; rfl
        · rw [if_neg h1]
          by_cases h0 : y = 0
          · subst h0; rfl
          · rw [if_neg h0, if_neg (by omega)]
  · simp [hx])

set_option maxRecDepth 100000 in
set_option maxHeartbeats 4000000 in
theorem c_addc {d n : Nat} {sh : zSh} {h : zMem} (hS : zShp sh) (hR : zRf h) (hc : cRg (h 24)) : zF yX5_addColumns cX5_addColumns 2 none (d + 0) 0 0 [(2, 23)] n sh h none n sh (znew h 24 (cAdd (h 24))) := by
  refine zF.ofT (by decide +kernel) [some (2, 23), none] rfl (Nat.le_of_ble_eq_true rfl) ?_
  have q0 := hc 0 (by decide) (by decide)
  have q1 := hc 1 (by decide) (by decide)
  have q2 := hc 2 (by decide) (by decide)
  have q3 := hc 3 (by decide) (by decide)
  have q4 := hc 4 (by decide) (by decide)
  refine zt_iconst dX5_addColumns_0 ?_
  refine zt_istore_n_1 dX5_addColumns_1 (by decide) rfl ?_
  refine zt_iload_n dX5_addColumns_2 rfl ?_
  refine zt_aload_n dX5_addColumns_3 rfl ?_
  refine zt_getv dX5_addColumns_4 fl_X5_11 (zs_23 hS) (rf_23_0 hR) ?_
  refine zt_alenv (v := 5) dX5_addColumns_7 (zs_24 hS) (by decide) (by decide) rfl ?_
  refine zt_iconst dX5_addColumns_8 ?_
  refine zt_isub dX5_addColumns_9 ?_
  refine zt_topv (v := 4) (by decide) ?_
  refine zt_icmp_ge (tgt := 44) dX5_addColumns_10 (by decide) (by decide) (by decide) (fun q => absurd q (by decide)) (fun c_10 => ?_)
  refine zt_aload_n dX5_addColumns_13 rfl ?_
  refine zt_getv dX5_addColumns_14 fl_X5_11 (zs_23 hS) (rf_23_0 hR) ?_
  refine zt_iload_n dX5_addColumns_17 rfl ?_
  refine zt_aload_n dX5_addColumns_18 rfl ?_
  refine zt_getv dX5_addColumns_19 fl_X5_11 (zs_23 hS) (rf_23_0 hR) ?_
  refine zt_iload_n dX5_addColumns_22 rfl ?_
  refine zt_laload dX5_addColumns_23 (zs_24 hS) (by decide) (by decide) (by decide) ?_
  refine zt_aload_n dX5_addColumns_24 rfl ?_
  refine zt_getv dX5_addColumns_25 fl_X5_11 (zs_23 hS) (rf_23_0 hR) ?_
  refine zt_iload_n dX5_addColumns_28 rfl ?_
  refine zt_iconst dX5_addColumns_29 ?_
  refine zt_iadd dX5_addColumns_30 ?_
  refine zt_topv (v := 1) (by decide) ?_
  refine zt_laload dX5_addColumns_31 (zs_24 hS) (by decide) (by decide) (by decide) ?_
  refine zt_ladd dX5_addColumns_32 ?_
  refine zt_ldc2 dX5_addColumns_33 kc_X5_66 ?_
  refine zt_lrem dX5_addColumns_36 (by omega) (by decide) (by decide) ?_
  refine zt_topv (ztm_p (by decide) (by omega)).1 ?_
  refine zt_lastore dX5_addColumns_37 (zs_24 hS) (by decide) (by decide) (by decide) (by omega) ?_
  refine zt_iincv_1 (v := 1) dX5_addColumns_38 (by decide) rfl (by decide) ?_
  refine zt_goto (tgt := 2) dX5_addColumns_41 (by decide) ?_
  refine zt_iload_n dX5_addColumns_2 rfl ?_
  refine zt_aload_n dX5_addColumns_3 rfl ?_
  refine zt_getv dX5_addColumns_4 fl_X5_11 (zs_23 hS) (rf_23_0 (hR.upA (by decide))) ?_
  refine zt_alenv (v := 5) dX5_addColumns_7 (zs_24 hS) (by decide) (by decide) rfl ?_
  refine zt_iconst dX5_addColumns_8 ?_
  refine zt_isub dX5_addColumns_9 ?_
  refine zt_topv (v := 4) (by decide) ?_
  refine zt_icmp_ge (tgt := 44) dX5_addColumns_10 (by decide) (by decide) (by decide) (fun q => absurd q (by decide)) (fun c_10 => ?_)
  refine zt_aload_n dX5_addColumns_13 rfl ?_
  refine zt_getv dX5_addColumns_14 fl_X5_11 (zs_23 hS) (rf_23_0 (hR.upA (by decide))) ?_
  refine zt_iload_n dX5_addColumns_17 rfl ?_
  refine zt_aload_n dX5_addColumns_18 rfl ?_
  refine zt_getv dX5_addColumns_19 fl_X5_11 (zs_23 hS) (rf_23_0 (hR.upA (by decide))) ?_
  refine zt_iload_n dX5_addColumns_22 rfl ?_
  refine zt_laloadv (v := h 24 1) dX5_addColumns_23 (zs_24 hS) (by decide) (by decide) (by decide) ((zupJ (by decide)).trans rfl) ?_
  refine zt_aload_n dX5_addColumns_24 rfl ?_
  refine zt_getv dX5_addColumns_25 fl_X5_11 (zs_23 hS) (rf_23_0 (hR.upA (by decide))) ?_
  refine zt_iload_n dX5_addColumns_28 rfl ?_
  refine zt_iconst dX5_addColumns_29 ?_
  refine zt_iadd dX5_addColumns_30 ?_
  refine zt_topv (v := 2) (by decide) ?_
  refine zt_laloadv (v := h 24 2) dX5_addColumns_31 (zs_24 hS) (by decide) (by decide) (by decide) ((zupJ (by decide)).trans rfl) ?_
  refine zt_ladd dX5_addColumns_32 ?_
  refine zt_ldc2 dX5_addColumns_33 kc_X5_66 ?_
  refine zt_lrem dX5_addColumns_36 (by omega) (by decide) (by decide) ?_
  refine zt_topv (ztm_p (by decide) (by omega)).1 ?_
  refine zt_lastore dX5_addColumns_37 (zs_24 hS) (by decide) (by decide) (by decide) (by omega) ?_
  refine zt_iincv_1 (v := 2) dX5_addColumns_38 (by decide) rfl (by decide) ?_
  refine zt_goto (tgt := 2) dX5_addColumns_41 (by decide) ?_
  refine zt_iload_n dX5_addColumns_2 rfl ?_
  refine zt_aload_n dX5_addColumns_3 rfl ?_
  refine zt_getv dX5_addColumns_4 fl_X5_11 (zs_23 hS) (rf_23_0 ((hR.upA (by decide)).upA (by decide))) ?_
  refine zt_alenv (v := 5) dX5_addColumns_7 (zs_24 hS) (by decide) (by decide) rfl ?_
  refine zt_iconst dX5_addColumns_8 ?_
  refine zt_isub dX5_addColumns_9 ?_
  refine zt_topv (v := 4) (by decide) ?_
  refine zt_icmp_ge (tgt := 44) dX5_addColumns_10 (by decide) (by decide) (by decide) (fun q => absurd q (by decide)) (fun c_10 => ?_)
  refine zt_aload_n dX5_addColumns_13 rfl ?_
  refine zt_getv dX5_addColumns_14 fl_X5_11 (zs_23 hS) (rf_23_0 ((hR.upA (by decide)).upA (by decide))) ?_
  refine zt_iload_n dX5_addColumns_17 rfl ?_
  refine zt_aload_n dX5_addColumns_18 rfl ?_
  refine zt_getv dX5_addColumns_19 fl_X5_11 (zs_23 hS) (rf_23_0 ((hR.upA (by decide)).upA (by decide))) ?_
  refine zt_iload_n dX5_addColumns_22 rfl ?_
  refine zt_laloadv (v := h 24 2) dX5_addColumns_23 (zs_24 hS) (by decide) (by decide) (by decide) ((zupJ (by decide)).trans ((zupJ (by decide)).trans rfl)) ?_
  refine zt_aload_n dX5_addColumns_24 rfl ?_
  refine zt_getv dX5_addColumns_25 fl_X5_11 (zs_23 hS) (rf_23_0 ((hR.upA (by decide)).upA (by decide))) ?_
  refine zt_iload_n dX5_addColumns_28 rfl ?_
  refine zt_iconst dX5_addColumns_29 ?_
  refine zt_iadd dX5_addColumns_30 ?_
  refine zt_topv (v := 3) (by decide) ?_
  refine zt_laloadv (v := h 24 3) dX5_addColumns_31 (zs_24 hS) (by decide) (by decide) (by decide) ((zupJ (by decide)).trans ((zupJ (by decide)).trans rfl)) ?_
  refine zt_ladd dX5_addColumns_32 ?_
  refine zt_ldc2 dX5_addColumns_33 kc_X5_66 ?_
  refine zt_lrem dX5_addColumns_36 (by omega) (by decide) (by decide) ?_
  refine zt_topv (ztm_p (by decide) (by omega)).1 ?_
  refine zt_lastore dX5_addColumns_37 (zs_24 hS) (by decide) (by decide) (by decide) (by omega) ?_
  refine zt_iincv_1 (v := 3) dX5_addColumns_38 (by decide) rfl (by decide) ?_
  refine zt_goto (tgt := 2) dX5_addColumns_41 (by decide) ?_
  refine zt_iload_n dX5_addColumns_2 rfl ?_
  refine zt_aload_n dX5_addColumns_3 rfl ?_
  refine zt_getv dX5_addColumns_4 fl_X5_11 (zs_23 hS) (rf_23_0 (((hR.upA (by decide)).upA (by decide)).upA (by decide))) ?_
  refine zt_alenv (v := 5) dX5_addColumns_7 (zs_24 hS) (by decide) (by decide) rfl ?_
  refine zt_iconst dX5_addColumns_8 ?_
  refine zt_isub dX5_addColumns_9 ?_
  refine zt_topv (v := 4) (by decide) ?_
  refine zt_icmp_ge (tgt := 44) dX5_addColumns_10 (by decide) (by decide) (by decide) (fun q => absurd q (by decide)) (fun c_10 => ?_)
  refine zt_aload_n dX5_addColumns_13 rfl ?_
  refine zt_getv dX5_addColumns_14 fl_X5_11 (zs_23 hS) (rf_23_0 (((hR.upA (by decide)).upA (by decide)).upA (by decide))) ?_
  refine zt_iload_n dX5_addColumns_17 rfl ?_
  refine zt_aload_n dX5_addColumns_18 rfl ?_
  refine zt_getv dX5_addColumns_19 fl_X5_11 (zs_23 hS) (rf_23_0 (((hR.upA (by decide)).upA (by decide)).upA (by decide))) ?_
  refine zt_iload_n dX5_addColumns_22 rfl ?_
  refine zt_laloadv (v := h 24 3) dX5_addColumns_23 (zs_24 hS) (by decide) (by decide) (by decide) ((zupJ (by decide)).trans ((zupJ (by decide)).trans ((zupJ (by decide)).trans rfl))) ?_
  refine zt_aload_n dX5_addColumns_24 rfl ?_
  refine zt_getv dX5_addColumns_25 fl_X5_11 (zs_23 hS) (rf_23_0 (((hR.upA (by decide)).upA (by decide)).upA (by decide))) ?_
  refine zt_iload_n dX5_addColumns_28 rfl ?_
  refine zt_iconst dX5_addColumns_29 ?_
  refine zt_iadd dX5_addColumns_30 ?_
  refine zt_topv (v := 4) (by decide) ?_
  refine zt_laloadv (v := h 24 4) dX5_addColumns_31 (zs_24 hS) (by decide) (by decide) (by decide) ((zupJ (by decide)).trans ((zupJ (by decide)).trans ((zupJ (by decide)).trans rfl))) ?_
  refine zt_ladd dX5_addColumns_32 ?_
  refine zt_ldc2 dX5_addColumns_33 kc_X5_66 ?_
  refine zt_lrem dX5_addColumns_36 (by omega) (by decide) (by decide) ?_
  refine zt_topv (ztm_p (by decide) (by omega)).1 ?_
  refine zt_lastore dX5_addColumns_37 (zs_24 hS) (by decide) (by decide) (by decide) (by omega) ?_
  refine zt_iincv_1 (v := 4) dX5_addColumns_38 (by decide) rfl (by decide) ?_
  refine zt_goto (tgt := 2) dX5_addColumns_41 (by decide) ?_
  refine zt_iload_n dX5_addColumns_2 rfl ?_
  refine zt_aload_n dX5_addColumns_3 rfl ?_
  refine zt_getv dX5_addColumns_4 fl_X5_11 (zs_23 hS) (rf_23_0 ((((hR.upA (by decide)).upA (by decide)).upA (by decide)).upA (by decide))) ?_
  refine zt_alenv (v := 5) dX5_addColumns_7 (zs_24 hS) (by decide) (by decide) rfl ?_
  refine zt_iconst dX5_addColumns_8 ?_
  refine zt_isub dX5_addColumns_9 ?_
  refine zt_topv (v := 4) (by decide) ?_
  refine zt_icmp_ge (tgt := 44) dX5_addColumns_10 (by decide) (by decide) (by decide) (fun c_10 => ?_) (fun q => absurd q (by decide))
  exact zt_vret dX5_addColumns_44 ⟨rfl, rfl, rfl, cAdd_up⟩

/-- the planner's memory: columns, least costs -/
def lM (h : zMem) (c L : Int → Int) : zMem := znew (znew h 24 c) 25 L
theorem lM_25 {h : zMem} {c L : Int → Int} : lM h c L 25 = L := znew_at
theorem lM_24 {h : zMem} {c L : Int → Int} : lM h c L 24 = c := by unfold lM; rw [znew_ne (by decide)]; exact znew_at
theorem lM_ne {h : zMem} {c L : Int → Int} {x : Int} (hx : x ≠ 24 ∧ x ≠ 25) : lM h c L x = h x := by unfold lM; rw [znew_ne hx.2, znew_ne hx.1]
theorem lM_rf {h : zMem} {c L : Int → Int} (hR : zRf h) : zRf (lM h c L) := (hR.new (by decide)).new (by decide)
theorem lM_tab {sh : zSh} {h : zMem} {c L : Int → Int} {t : Int} (hT : zTab sh h t) : zTab sh (lM h c L) t := (hT.new (by decide)).new (by decide)
theorem lM_L {h : zMem} {c L L' : Int → Int} : znew (lM h c L) 25 L' = lM h c L' := znew_new
theorem lM_c {h : zMem} {c c' L : Int → Int} : znew (lM h c L) 24 c' = lM h c' L := zmem_ext (fun x y => by
  unfold lM znew
  by_cases h1 : x = 24
  · subst h1; simp
  · by_cases h2 : x = 25
    · subst h2; simp
    · simp [h1, h2])
theorem lM_self {h : zMem} : lM h (h 24) (h 25) = h := by unfold lM; rw [znew_self, znew_self]
theorem lM_eq {h h1 : zMem} {L : Int → Int} {c : Int → Int} (e : ∀ x, x ≠ 24 → h1 x = lM h c L x) : h1 = lM h (h1 24) L := zmem_ext (fun x y => by
  by_cases h2 : x = 24
  · subst h2; rw [lM_24]
  · rw [e x h2]
    by_cases h3 : x = 25
    · subst h3; rw [lM_25, lM_25]
    · rw [lM_ne ⟨h2, h3⟩, lM_ne ⟨h2, h3⟩])
theorem tD_lM {h : zMem} {c L : Int → Int} {t e g : Int} (ht : 80 ≤ t) : tDok (lM h c L) t e g = tDok h t e g ∧ tDc (lM h c L) t e g = tDc h t e g := by
  refine ⟨by unfold tDok; rw [lM_ne (x := t) (by omega), lM_ne (x := t + 1) (by omega)], ?_⟩
  funext k; unfold tDc tD; rw [lM_ne (x := t + 1) (by omega)]

set_option maxRecDepth 100000 in
set_option maxHeartbeats 4000000 in
theorem l_orun {d n : Nat} {sh : zSh} {h : zMem} {t i g e v : Int} {R : Int → Int} (hS : zShp sh) (hR : zRf h) (hT : zTab sh h t) (hok : tTok h t) (h80 : 80 ≤ t) (hE : 4 ≤ h t 0 ∧ h t 0 ≤ 30) (he : 0 ≤ e ∧ e ≤ 99) (hg : 1 ≤ g ∧ g ≤ 4) (hi : 0 ≤ i ∧ i < h t 0) (hv : 0 ≤ v ∧ v ≤ 1000)  : ∀ (k : Nat) (j : Int) (c : Int → Int) (C : Int → Int) (L : Int → Int), h t 0 - j < (k : Int) → i ≤ j → j ≤ h t 0 → cRg c → (∀ k, 0 ≤ k → k ≤ 4 → c k = C k) → lRg L → R = lRun h t e i g v (h t 0 - j).toNat j C L → zT yX5_offerRuns cX5_offerRuns 8 none (d + 3) 0 0 (fun r n1 sh1 h1 => r = none ∧ n1 = n ∧ sh1 = sh ∧ ∃ c1 : Int → Int, h1 = lM h c1 R) 43 [some (2, 23), some (2, t), some (0, i), some (0, g), some (0, e), some (0, v), some (0, j), none] [] n sh (lM h c L) := by
  intro k
  induction k with
  | zero => intros; exfalso; omega
  | succ k ih =>
    intro j c C L hk h0 h1 hcr hcc hL hr
    refine zt_iload dX5_offerRuns_43 rfl ?_
    refine zt_aload_n dX5_offerRuns_45 rfl ?_
    refine zt_getv (v := h t 0) dX5_offerRuns_46 fl_X5_27 hT.sh (congrFun (lM_ne (by omega)) _) ?_
    refine zt_icmp_ge (tgt := 125) dX5_offerRuns_49 (by decide) (by omega) (by omega) (fun c_49 => ?_) (fun c_49 => ?_)
    · exact zt_vret dX5_offerRuns_125 ⟨rfl, rfl, rfl, c, by rw [hr, show (h t 0 - j).toNat = 0 by omega]; rfl⟩
    · refine zt_aload_n dX5_offerRuns_52 rfl ?_
      refine zt_iload dX5_offerRuns_53 rfl ?_
      refine zt_callV1r dX5_offerRuns_55 ml_X5_33 hT.sh (Nat.le_of_ble_eq_true rfl) (c_ttrJ (lM_tab hT) (by rw [lM_ne (by omega)]; omega) (congrFun (lM_ne (by omega)) _)) ?_
      refine zt_istore_7 dX5_offerRuns_58 (by decide) rfl ?_
      refine zt_iload dX5_offerRuns_60 rfl ?_
      refine zt_ldc dX5_offerRuns_62 kc_X5_37 ?_
      refine zt_icmp_eq (tgt := 91) dX5_offerRuns_64 (by decide) (by have := hok j (by omega) (by omega); omega) (by decide) (fun c_64 => ?_) (fun c_64 => ?_)
      · exact zt_vret dX5_offerRuns_91 ⟨rfl, rfl, rfl, c, by rw [hr, show (h t 0 - j).toNat = (h t 0 - (j + 1)).toNat + 1 by omega]; show _ = lM h c (if rGd h t e j C then _ else _); rw [if_neg (fun q => by have q := (rGd_c (hcc 0 (by decide) (by decide))).mp q; have := (zabs_iff (x := zsho (c 0) - h (t + 1) j) (e := e)).mpr ⟨q.2.1, q.2.2⟩; omega)]⟩
      · refine zt_aload_n dX5_offerRuns_67 rfl ?_
        refine zt_getv dX5_offerRuns_68 fl_X5_11 (zs_23 hS) (rf_23_0 (lM_rf hR)) ?_
        refine zt_iconst dX5_offerRuns_71 ?_
        refine zt_laloadv (v := c 0) dX5_offerRuns_72 (zs_24 hS) (by decide) (by decide) (by decide) (congrFun lM_24 _) ?_
        refine zt_callSN1r dX5_offerRuns_73 ml_X5_53 (Nat.le_of_ble_eq_true rfl) (c_shown (by have := hcr 0 (by decide) (by decide); omega)) ?_
        have hz := zsho_r (hcr 0 (by decide) (by decide))
        have hz2 := hok j (by omega) (by omega)
        refine zt_i2l dX5_offerRuns_76 (by omega) ?_
        refine zt_iload dX5_offerRuns_77 rfl ?_
        refine zt_i2l dX5_offerRuns_79 (by have := hok j (by omega) (by omega); omega) ?_
        refine zt_lsub dX5_offerRuns_80 ?_
        refine zt_callS1r dX5_offerRuns_81 ml_X5_57 (Nat.le_of_ble_eq_true rfl) (c_labs (by omega)) ?_
        have hz3 := zabs_le (B := 2000000000) (n := (zsho (c 0)) - (h (t + 1) j)) (by omega)
        refine zt_iload dX5_offerRuns_84 rfl ?_
        refine zt_i2l dX5_offerRuns_86 (by omega) ?_
        refine zt_lc_le (tgt := 92) dX5_offerRuns_87 dX5_offerRuns_88 (by decide) (by omega) (by omega) (fun c_87 => ?_) (fun c_87 => ?_)
        · refine zt_iload dX5_offerRuns_92 rfl ?_
          refine zt_iload_n dX5_offerRuns_94 rfl ?_
          refine zt_iload_n dX5_offerRuns_95 rfl ?_
          refine zt_iadd dX5_offerRuns_96 ?_
          refine zt_icmp_lt (tgt := 115) dX5_offerRuns_97 (by decide) (by omega) (by omega) (fun c_97 => ?_) (fun c_97 => ?_)
          · refine zt_aload_n dX5_offerRuns_115 rfl ?_
            refine zt_callV0v dX5_offerRuns_116 ml_X5_63 (zs_23 hS) (Nat.le_of_ble_eq_true rfl) (zF.of_eq rfl rfl rfl (by rw [lM_24, lM_c]) (c_addc hS (lM_rf hR) (by rw [lM_24]; exact hcr))) ?_
            refine zt_iinc_6 dX5_offerRuns_119 (by decide) rfl ?_
            refine zt_goto (tgt := 43) dX5_offerRuns_122 (by decide) ?_
            refine zt_kill_7 ?_
            have hgd : rGd h t e j C := (rGd_c (hcc 0 (by decide) (by decide))).mpr (by have := zabs_iff.mp c_87; omega)
            exact ih (j + 1) (cAdd c) (cAdd C) L (by omega) (by omega) (by omega) (cAdd_rg hcr) (cAdd_congr hcc) hL (by rw [hr, show (h t 0 - j).toNat = (h t 0 - (j + 1)).toNat + 1 by omega]; show (if rGd h t e j C then _ else _) = _; rw [if_pos hgd, if_neg (by omega)])
          · refine zt_aload_n dX5_offerRuns_100 rfl ?_
            refine zt_iload dX5_offerRuns_101 rfl ?_
            refine zt_iconst dX5_offerRuns_103 ?_
            refine zt_iadd dX5_offerRuns_104 ?_
            refine zt_iload dX5_offerRuns_105 rfl ?_
            refine zt_iload dX5_offerRuns_107 rfl ?_
            refine zt_iadd dX5_offerRuns_109 ?_
            refine zt_iload_n dX5_offerRuns_110 rfl ?_
            refine zt_isub dX5_offerRuns_111 ?_
            refine zt_callV2v dX5_offerRuns_112 ml_X5_38 (zs_23 hS) (Nat.le_of_ble_eq_true rfl) (zF.of_eq rfl rfl rfl (by rw [lM_25, lM_L]) (c_offer hS (lM_rf hR) (by omega) (by omega))) ?_
            refine zt_aload_n dX5_offerRuns_115 rfl ?_
            refine zt_callV0v dX5_offerRuns_116 ml_X5_63 (zs_23 hS) (Nat.le_of_ble_eq_true rfl) (zF.of_eq rfl rfl rfl (by rw [lM_24, lM_c]) (c_addc hS (lM_rf hR) (by rw [lM_24]; exact hcr))) ?_
            refine zt_iinc_6 dX5_offerRuns_119 (by decide) rfl ?_
            refine zt_goto (tgt := 43) dX5_offerRuns_122 (by decide) ?_
            refine zt_kill_7 ?_
            have hgd : rGd h t e j C := (rGd_c (hcc 0 (by decide) (by decide))).mpr (by have := zabs_iff.mp c_87; omega)
            exact ih (j + 1) (cAdd c) (cAdd C) _ (by omega) (by omega) (by omega) (cAdd_rg hcr) (cAdd_congr hcc) (lOf_rg hL (by omega) (by omega)) (by rw [hr, show (h t 0 - j).toNat = (h t 0 - (j + 1)).toNat + 1 by omega]; show (if rGd h t e j C then _ else _) = _; rw [if_pos hgd, if_pos (by omega)])
        · exact zt_vret dX5_offerRuns_91 ⟨rfl, rfl, rfl, c, by rw [hr, show (h t 0 - j).toNat = (h t 0 - (j + 1)).toNat + 1 by omega]; show _ = lM h c (if rGd h t e j C then _ else _); rw [if_neg (fun q => by have q := (rGd_c (hcc 0 (by decide) (by decide))).mp q; have := (zabs_iff (x := zsho (c 0) - h (t + 1) j) (e := e)).mpr ⟨q.2.1, q.2.2⟩; omega)]⟩

set_option maxRecDepth 100000 in
set_option maxHeartbeats 4000000 in
theorem c_oruns {d n : Nat} {sh : zSh} {h : zMem} {t i g e : Int} {c L : Int → Int} (hS : zShp sh) (hR : zRf h) (hT : zTab sh h t) (hok : tTok h t) (h80 : 80 ≤ t) (hE : 4 ≤ h t 0 ∧ h t 0 ≤ 30) (he : 0 ≤ e ∧ e ≤ 99) (hg : 1 ≤ g ∧ g ≤ 4) (hi : 0 ≤ i ∧ i < h t 0) (hL : lRg L) : zM yX5_offerRuns cX5_offerRuns 8 none (d + 3) 0 0 [(2, 23), (2, t), (0, i), (0, g), (0, e)] n sh (lM h c L) (fun r n1 sh1 h1 => r = none ∧ n1 = n ∧ sh1 = sh ∧ ∃ c1 : Int → Int, h1 = lM h c1 (lRuns h t e i g L)) := by
  refine zM.ofT2 (by decide +kernel) [some (2, 23), some (2, t), some (0, i), some (0, g), some (0, e), none, none, none] rfl (Nat.le_of_ble_eq_true rfl) ?_
  refine zt_iload_n dX5_offerRuns_0 rfl ?_
  refine zt_if_lt (tgt := 26) dX5_offerRuns_1 (by decide) (by omega) (fun c_1 => ?_) (fun c_1 => ?_)
  · exfalso
    omega
  · refine zt_iload_n dX5_offerRuns_4 rfl ?_
    refine zt_aload_n dX5_offerRuns_5 rfl ?_
    refine zt_getv dX5_offerRuns_6 fl_X5_17 (zs_23 hS) (rf_23_1 (lM_rf hR)) ?_
    refine zt_alenv (v := 31) dX5_offerRuns_9 (zs_25 hS) (by decide) (by decide) rfl ?_
    refine zt_icmp_ge (tgt := 26) dX5_offerRuns_10 (by decide) (by omega) (by decide) (fun c_10 => ?_) (fun c_10 => ?_)
    · exfalso
      omega
    · refine zt_aload_n dX5_offerRuns_13 rfl ?_
      refine zt_iload_n dX5_offerRuns_14 rfl ?_
      refine zt_iload_n dX5_offerRuns_15 rfl ?_
      refine zt_aload_n dX5_offerRuns_16 rfl ?_
      refine zt_getv dX5_offerRuns_17 fl_X5_11 (zs_23 hS) (rf_23_0 (lM_rf hR)) ?_
      refine zt_callV3q dX5_offerRuns_20 ml_X5_46 hT.sh (Nat.le_of_ble_eq_true rfl) (c_diff hS (lM_tab hT) (by omega) (by omega)) ?_
      rintro r n1 sh1 h1 ⟨rfl, rfl, hfr, hd⟩
      rw [(tD_lM h80).1, (tD_lM h80).2] at hd
      have hh := lM_eq hfr
      have e25 : h1 25 = L := by rw [hfr 25 (by decide), lM_25]
      generalize h1 24 = c1 at hh hd
      subst hh
      rcases hd with ⟨rfl, hd1, hd2⟩ | ⟨rfl, hd1⟩
      case inr =>
        simp only [Option.toList, List.cons_append, List.nil_append]
        refine zt_if_ne (tgt := 27) dX5_offerRuns_23 (by decide) (by decide) (fun q => absurd rfl q) (fun c_23 => ?_)
        exact zt_vret dX5_offerRuns_26 ⟨rfl, rfl, rfl, c1, by unfold lRuns; rw [if_neg hd1]⟩
      simp only [Option.toList, List.cons_append, List.nil_append]
      refine zt_if_ne (tgt := 27) dX5_offerRuns_23 (by decide) (by decide) (fun c_23 => ?_) (fun q => absurd q (by decide))
      refine zt_aload_n dX5_offerRuns_27 rfl ?_
      refine zt_getv dX5_offerRuns_28 fl_X5_17 (zs_23 hS) (rf_23_1 (lM_rf hR)) ?_
      refine zt_iload_n dX5_offerRuns_31 rfl ?_
      refine zt_ialoadv (v := L i) dX5_offerRuns_32 (zs_25 hS) (by decide) (by omega) (by omega) (congrFun lM_25 _) ?_
      refine zt_iload_n dX5_offerRuns_33 rfl ?_
      refine zt_callS1r dX5_offerRuns_34 ml_X5_50 (Nat.le_of_ble_eq_true rfl) (c_scost) ?_
      refine zt_iadd dX5_offerRuns_37 ?_
      refine zt_istore_5 dX5_offerRuns_38 (by decide) rfl ?_
      refine zt_iload_n dX5_offerRuns_40 rfl ?_
      refine zt_istore_6 dX5_offerRuns_41 (by decide) rfl ?_
      have hLi := hL i (by omega) (by omega)
      exact l_orun (d := d) hS hR hT hok h80 hE he hg (by omega) (by omega) 31 i c1 (tDc h t i g) L (by omega) (by omega) (by omega) (fun k a b => by rw [hd2 k a b]; exact tDc_rg k a b) hd2 hL (by unfold lRuns; rw [if_pos hd1])

theorem lRun_rg {h : zMem} {t e i g v : Int} (hv : 0 ≤ v) (hE : h t 0 ≤ 30) (hi : 0 ≤ i) : ∀ (k : Nat) (j : Int) (c L : Int → Int), i ≤ j → j + k ≤ h t 0 → lRg L → lRg (lRun h t e i g v k j c L)
  | 0, _, _, _, _, _, hL => hL
  | k + 1, j, c, L, h0, h1, hL => by
    show lRg (if rGd h t e j c then _ else _)
    split
    · refine lRun_rg hv hE hi k (j + 1) (cAdd c) _ (by omega) (by omega) ?_
      split
      · exact lOf_rg hL (by omega) (by omega)
      · exact hL
    · exact hL
theorem lRuns_rg {h : zMem} {t e i g : Int} {L : Int → Int} (hE : 4 ≤ h t 0 ∧ h t 0 ≤ 30) (hi : 0 ≤ i ∧ i < h t 0) (hg : 1 ≤ g) (hL : lRg L) : lRg (lRuns h t e i g L) := by
  unfold lRuns
  split
  · have := hL i (by omega) (by omega)
    exact lRun_rg (by omega) (by omega) hi.1 _ _ _ _ (by omega) (by omega) hL
  · exact hL
theorem lL0_lM {h : zMem} : zup (zfil h 25 31 900) 25 0 0 = lM h (h 24) (lL0 h) := zmem_ext (fun x y => by
  unfold zup zfil lM znew lL0
  by_cases hx : x = 25
  · subst hx; simp only [true_and, if_true]
  · by_cases h2 : x = 24
    · subst h2; simp
    · simp [hx, h2])
theorem lL0_rg {h : zMem} : lRg (lL0 h) := fun y h0 h1 => by unfold lL0; split; omega; rw [if_pos (by omega)]; omega

set_option maxRecDepth 100000 in
set_option maxHeartbeats 4000000 in
theorem l_lc1 {d n : Nat} {sh : zSh} {h : zMem} {t i e : Int} {Q : Option zV → Nat → zSh → zMem → Prop} {R : Int → Int} (hS : zShp sh) (hR : zRf h) (hT : zTab sh h t) (hok : tTok h t) (h80 : 80 ≤ t) (hE : 4 ≤ h t 0 ∧ h t 0 ≤ 30) (he : 0 ≤ e ∧ e ≤ 99) (hi : 0 ≤ i ∧ i < h t 0) (hK : lRg R → ∀ c1 : Int → Int, zT yX5_leastCost cX5_leastCost 6 (some .int) (d + 4) 0 0 Q 104 [some (2, 23), some (2, t), some (0, e), some (0, i), none, none] [] n sh (lM h c1 R))  : ∀ (k : Nat) (g : Int) (c : Int → Int) (L : Int → Int), 5 - g < (k : Int) → 1 ≤ g → g ≤ 5 → lRg L → R = zFor (lRuns h t e i) g 5 L → zT yX5_leastCost cX5_leastCost 6 (some .int) (d + 4) 0 0 Q 78 [some (2, 23), some (2, t), some (0, e), some (0, i), some (0, 0), some (0, g)] [] n sh (lM h c L) := by
  intro k
  induction k with
  | zero => intros; exfalso; omega
  | succ k ih =>
    intro g c L hk h0 h1 hL hr
    refine zt_iload dX5_leastCost_78 rfl ?_
    refine zt_iconst dX5_leastCost_80 ?_
    refine zt_icmp_ge (tgt := 104) dX5_leastCost_81 (by decide) (by omega) (by decide) (fun c_81 => ?_) (fun c_81 => ?_)
    · refine zt_kill_4 ?_
      refine zt_kill_5 ?_
      rw [zFor_e (by omega)] at hr
      rw [← hr]
      exact hK (hr ▸ hL) c
    · refine zt_iload dX5_leastCost_84 rfl ?_
      refine zt_if_ne (tgt := 104) dX5_leastCost_86 (by decide) (by decide) (fun q => absurd q (by decide)) (fun c_86 => ?_)
      refine zt_aload_n dX5_leastCost_89 rfl ?_
      refine zt_aload_n dX5_leastCost_90 rfl ?_
      refine zt_iload_n dX5_leastCost_91 rfl ?_
      refine zt_iload dX5_leastCost_92 rfl ?_
      refine zt_iload_n dX5_leastCost_94 rfl ?_
      refine zt_callV4q dX5_leastCost_95 ml_X5_42 (zs_23 hS) (Nat.le_of_ble_eq_true rfl) (c_oruns hS hR hT hok h80 hE he (by omega) (by omega) hL) ?_
      rintro r n1 sh1 h1 ⟨rfl, rfl, rfl, c1, rfl⟩
      simp only [Option.toList, List.nil_append]
      refine zt_iinc_5 dX5_leastCost_98 (by decide) rfl ?_
      refine zt_goto (tgt := 78) dX5_leastCost_101 (by decide) ?_
      exact ih (g + 1) c1 _ (by omega) (by omega) (by omega) (lRuns_rg hE hi (by omega) hL) (by rw [hr, zFor_s (by omega)])

set_option maxRecDepth 100000 in
set_option maxHeartbeats 4000000 in
theorem l_lc2 {d n : Nat} {sh : zSh} {h : zMem} {t e : Int} (hS : zShp sh) (hR : zRf h) (hT : zTab sh h t) (hok : tTok h t) (h80 : 80 ≤ t) (hE : 4 ≤ h t 0 ∧ h t 0 ≤ 30) (he : 0 ≤ e ∧ e ≤ 99)  : ∀ (k : Nat) (i : Int) (c : Int → Int) (L : Int → Int), h t 0 - i < (k : Int) → 0 ≤ i → i ≤ h t 0 → lRg L → lAll h t e = zFor (lStep h t e) i (h t 0) L → zT yX5_leastCost cX5_leastCost 6 (some .int) (d + 4) 0 0 (fun r n1 sh1 h1 => r = some (0, lAll h t e (h t 0)) ∧ n1 = n ∧ sh1 = sh ∧ ∃ c1 : Int → Int, h1 = lM h c1 (lAll h t e)) 19 [some (2, 23), some (2, t), some (0, e), some (0, i), none, none] [] n sh (lM h c L) := by
  intro k
  induction k with
  | zero => intros; exfalso; omega
  | succ k ih =>
    intro i c L hk h0 h1 hL hr
    refine zt_iload_n dX5_leastCost_19 rfl ?_
    refine zt_aload_n dX5_leastCost_20 rfl ?_
    refine zt_getv (v := h t 0) dX5_leastCost_21 fl_X5_27 hT.sh (congrFun (lM_ne (by omega)) _) ?_
    refine zt_icmp_ge (tgt := 110) dX5_leastCost_24 (by decide) (by omega) (by omega) (fun c_24 => ?_) (fun c_24 => ?_)
    · refine zt_aload_n dX5_leastCost_110 rfl ?_
      refine zt_getv (v := h t 0) dX5_leastCost_111 fl_X5_27 hT.sh (congrFun (lM_ne (by omega)) _) ?_
      refine zt_aload_n dX5_leastCost_114 rfl ?_
      refine zt_getv dX5_leastCost_115 fl_X5_17 (zs_23 hS) (rf_23_1 (lM_rf hR)) ?_
      refine zt_alenv (v := 31) dX5_leastCost_118 (zs_25 hS) (by decide) (by decide) rfl ?_
      refine zt_icmp_ge (tgt := 134) dX5_leastCost_119 (by decide) (by omega) (by decide) (fun c_119 => ?_) (fun c_119 => ?_)
      · exfalso
        omega
      · refine zt_aload_n dX5_leastCost_122 rfl ?_
        refine zt_getv dX5_leastCost_123 fl_X5_17 (zs_23 hS) (rf_23_1 (lM_rf hR)) ?_
        refine zt_aload_n dX5_leastCost_126 rfl ?_
        refine zt_getv (v := h t 0) dX5_leastCost_127 fl_X5_27 hT.sh (congrFun (lM_ne (by omega)) _) ?_
        refine zt_ialoadv (v := L (h t 0)) dX5_leastCost_130 (zs_25 hS) (by decide) (by omega) (by omega) (congrFun lM_25 _) ?_
        refine zt_goto (tgt := 135) dX5_leastCost_131 (by decide) ?_
        exact zt_iret dX5_leastCost_135 ⟨by rw [hr, zFor_e (by omega)], rfl, rfl, c, by rw [hr, zFor_e (by omega)]⟩
    · have hLi := hL i (by omega) (by omega)
      refine zt_iload_n dX5_leastCost_27 rfl ?_
      refine zt_bipush dX5_leastCost_28 (by decide) ?_
      refine zt_icmp_ge (tgt := 110) dX5_leastCost_30 (by decide) (by omega) (by decide) (fun c_30 => ?_) (fun c_30 => ?_)
      · exfalso
        omega
      · refine zt_aload_n dX5_leastCost_33 rfl ?_
        refine zt_iload_n dX5_leastCost_34 rfl ?_
        refine zt_callV1r dX5_leastCost_35 ml_X5_33 hT.sh (Nat.le_of_ble_eq_true rfl) (c_ttrJ (lM_tab hT) (by rw [lM_ne (by omega)]; omega) (congrFun (lM_ne (by omega)) _)) ?_
        refine zt_ldc dX5_leastCost_38 kc_X5_37 ?_
        refine zt_icmp_ne (tgt := 47) dX5_leastCost_40 (by decide) (by have := hok i (by omega) (by omega); omega) (by decide) (fun c_40 => ?_) (fun c_40 => ?_)
        · refine zt_iconst dX5_leastCost_47 ?_
          refine zt_istore_4 dX5_leastCost_48 (by decide) rfl ?_
          refine zt_aload_n dX5_leastCost_50 rfl ?_
          refine zt_iload_n dX5_leastCost_51 rfl ?_
          refine zt_iconst dX5_leastCost_52 ?_
          refine zt_iadd dX5_leastCost_53 ?_
          refine zt_aload_n dX5_leastCost_54 rfl ?_
          refine zt_getv dX5_leastCost_55 fl_X5_17 (zs_23 hS) (rf_23_1 (lM_rf hR)) ?_
          refine zt_iload_n dX5_leastCost_58 rfl ?_
          refine zt_ialoadv (v := L i) dX5_leastCost_59 (zs_25 hS) (by decide) (by omega) (by omega) (congrFun lM_25 _) ?_
          refine zt_iload dX5_leastCost_60 rfl ?_
          refine zt_if_eq (tgt := 69) dX5_leastCost_62 (by decide) (by decide) (fun c_62 => ?_) (fun q => absurd q (by decide))
          refine zt_bipush dX5_leastCost_69 (by decide) ?_
          refine zt_iadd dX5_leastCost_71 ?_
          refine zt_callV2v dX5_leastCost_72 ml_X5_38 (zs_23 hS) (Nat.le_of_ble_eq_true rfl) (zF.of_eq rfl rfl rfl (by rw [lM_25, lM_L]) (c_offer hS (lM_rf hR) (by omega) (by omega))) ?_
          refine zt_iconst dX5_leastCost_75 ?_
          refine zt_istore_5 dX5_leastCost_76 (by decide) rfl ?_
          refine l_lc1 (R := lStep h t e i L) hS hR hT hok h80 hE he (by omega) (fun hL1 c2 => ?_) 5 1 c _ (by omega) (by omega) (by omega) (lOf_rg hL (by omega) (by omega)) (by unfold lStep; rw [if_neg c_40])
          refine zt_iinc_3 dX5_leastCost_104 (by decide) rfl ?_
          refine zt_goto (tgt := 19) dX5_leastCost_107 (by decide) ?_
          exact ih (i + 1) c2 _ (by omega) (by omega) (by omega) hL1 (by rw [hr, zFor_s (by omega)])
        · refine zt_iconst dX5_leastCost_43 ?_
          refine zt_goto (tgt := 48) dX5_leastCost_44 (by decide) ?_
          refine zt_istore_4 dX5_leastCost_48 (by decide) rfl ?_
          refine zt_aload_n dX5_leastCost_50 rfl ?_
          refine zt_iload_n dX5_leastCost_51 rfl ?_
          refine zt_iconst dX5_leastCost_52 ?_
          refine zt_iadd dX5_leastCost_53 ?_
          refine zt_aload_n dX5_leastCost_54 rfl ?_
          refine zt_getv dX5_leastCost_55 fl_X5_17 (zs_23 hS) (rf_23_1 (lM_rf hR)) ?_
          refine zt_iload_n dX5_leastCost_58 rfl ?_
          refine zt_ialoadv (v := L i) dX5_leastCost_59 (zs_25 hS) (by decide) (by omega) (by omega) (congrFun lM_25 _) ?_
          refine zt_iload dX5_leastCost_60 rfl ?_
          refine zt_if_eq (tgt := 69) dX5_leastCost_62 (by decide) (by decide) (fun q => absurd q (by decide)) (fun c_62 => ?_)
          refine zt_iconst dX5_leastCost_65 ?_
          refine zt_goto (tgt := 71) dX5_leastCost_66 (by decide) ?_
          refine zt_iadd dX5_leastCost_71 ?_
          refine zt_callV2v dX5_leastCost_72 ml_X5_38 (zs_23 hS) (Nat.le_of_ble_eq_true rfl) (zF.of_eq rfl rfl rfl (by rw [lM_25, lM_L]) (c_offer hS (lM_rf hR) (by omega) (by omega))) ?_
          refine zt_iconst dX5_leastCost_75 ?_
          refine zt_istore_5 dX5_leastCost_76 (by decide) rfl ?_
          refine zt_iload dX5_leastCost_78 rfl ?_
          refine zt_iconst dX5_leastCost_80 ?_
          refine zt_icmp_ge (tgt := 104) dX5_leastCost_81 (by decide) (by decide) (by decide) (fun q => absurd q (by decide)) (fun c_81 => ?_)
          refine zt_iload dX5_leastCost_84 rfl ?_
          refine zt_if_ne (tgt := 104) dX5_leastCost_86 (by decide) (by decide) (fun c_86 => ?_) (fun q => absurd q (by decide))
          refine zt_iinc_3 dX5_leastCost_104 (by decide) rfl ?_
          refine zt_goto (tgt := 19) dX5_leastCost_107 (by decide) ?_
          refine zt_kill_4 ?_
          refine zt_kill_5 ?_
          exact ih (i + 1) c _ (by omega) (by omega) (by omega) (lOf_rg hL (by omega) (by omega)) (by rw [hr, zFor_s (by omega)]; congr 1; unfold lStep; rw [if_pos c_40])

set_option maxRecDepth 100000 in
set_option maxHeartbeats 4000000 in
theorem c_least {d n : Nat} {sh : zSh} {h : zMem} {t e : Int} (hS : zShp sh) (hR : zRf h) (hT : zTab sh h t) (hok : tTok h t) (he : 0 ≤ e ∧ e ≤ 99) : zM yX5_leastCost cX5_leastCost 6 (some .int) (d + 4) 0 0 [(2, 23), (2, t), (0, e)] n sh h (fun r n1 sh1 h1 => r = some (0, lAll h t e (h t 0)) ∧ n1 = n ∧ sh1 = sh ∧ ∃ c1 : Int → Int, h1 = lM h c1 (lAll h t e)) := by
  refine zM.ofT2 (by decide +kernel) [some (2, 23), some (2, t), some (0, e), none, none, none] rfl (Nat.le_of_ble_eq_true rfl) ?_
  have hRf : zRf (zfil h 25 31 900) := fun q hq => by
    have h1 : ∀ q ∈ zrf0, q.1 ≠ 25 := by decide
    rw [zfil_ne (h1 q hq)]; exact hR q hq
  refine zt_aload_n dX5_leastCost_0 rfl ?_
  refine zt_getv dX5_leastCost_1 fl_X5_17 (zs_23 hS) (rf_23_1 hR) ?_
  refine zt_sipush dX5_leastCost_4 (by decide) ?_
  refine zt_callS2v dX5_leastCost_7 ml_X5_21 (Nat.le_of_ble_eq_true rfl) (c_fillI (N0 := 31) (zs_25 hS) (by decide) (by decide)) ?_
  refine zt_aload_n dX5_leastCost_10 rfl ?_
  refine zt_getv dX5_leastCost_11 fl_X5_17 (zs_23 hS) (rf_23_1 hRf) ?_
  refine zt_iconst dX5_leastCost_14 ?_
  refine zt_iconst dX5_leastCost_15 ?_
  refine zt_iastore dX5_leastCost_16 (zs_25 hS) (by decide) (by decide) (by decide) (by decide) ?_
  refine zt_iconst dX5_leastCost_17 ?_
  refine zt_istore_n_3 dX5_leastCost_18 (by decide) rfl ?_
  rw [show ((31 : Nat) : Int) = 31 from rfl, lL0_lM]
  exact l_lc2 hS hR hT hok hT.1 hT.2.2.1 he 31 0 _ _ (by have := hT.2.2.1; omega) (by omega) (by have := hT.2.2.1; omega) lL0_rg rfl
