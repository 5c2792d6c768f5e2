/-- a TABLE's cells, at t -/
def zTab (sh : zSh) (h : zMem) (t : Int) : Prop := 80 ≤ t ∧ sh t = (8, 14) ∧ (4 ≤ h t 0 ∧ h t 0 ≤ 30) ∧ ∀ j : Int, 1 ≤ j → j ≤ 10 → sh (t + j) = (100, 30) ∧ h t j = t + j
theorem zTab.sh {sh : zSh} {h : zMem} {t : Int} (hT : zTab sh h t) : sh t = (8, 14) := hT.2.1
theorem zTab.ar {sh : zSh} {h : zMem} {t : Int} (hT : zTab sh h t) (j : Int) (h1 : 1 ≤ j) (h2 : j ≤ 10) : sh (t + j) = (100, 30) := (hT.2.2.2 j h1 h2).1
theorem zTab.rf {sh : zSh} {h : zMem} {t : Int} (hT : zTab sh h t) (j : Int) (h1 : 1 ≤ j) (h2 : j ≤ 10) : h t j = t + j := (hT.2.2.2 j h1 h2).2
theorem zTab.up {sh : zSh} {h : zMem} {t a i z : Int} (hT : zTab sh h t) (hn : a ≠ t ∨ 10 < i) : zTab sh (zup h a i z) t := by
  have e : ∀ j, j ≤ 10 → zup h a i z t j = h t j := fun j hj => by
    rcases hn with h1 | h1
    · exact zupA (fun q => h1 q.symm)
    · exact zupJ (by omega)
  refine ⟨hT.1, hT.2.1, by rw [e 0 (by omega)]; exact hT.2.2.1, fun j h1 h2 => ?_⟩
  rw [e j h2]; exact hT.2.2.2 j h1 h2
abbrev tHas (h : zMem) (t e : Int) : Prop := 0 ≤ e ∧ e < h t 0
abbrev tAg (h : zMem) (t e : Int) : Prop := (0 ≤ e ∧ e < h t 0) ∧ h (t + 8) e ≠ -1
abbrev tFa (h : zMem) (t e : Int) : Prop := ((0 ≤ e ∧ e < h t 0) ∧ h (t + 8) e ≠ -1) ∧ h (t + 4) e ≠ h (t + 1) e
def tTr (h : zMem) (t e : Int) : Int := if 0 ≤ e ∧ e < h t 0 then h (t + 1) e else -2147483648
def tFig (h : zMem) (t e : Int) : Int := if (0 ≤ e ∧ e < h t 0) ∧ h (t + 8) e ≠ -1 then h (t + 4) e else -2147483648
def tFh (h : zMem) (t e : Int) : Int := if (0 ≤ e ∧ e < h t 0) ∧ h (t + 8) e ≠ -1 then zb (tFa h t e) else -1

set_option maxRecDepth 100000 in
set_option maxHeartbeats 4000000 in
theorem c_thas {d n : Nat} {sh : zSh} {h : zMem} {t e : Int} (hT : zTab sh h t) (he : zi32 e) : zF yX8_has cX8_has 2 (some .boolean) (d + 0) 0 0 [(2, t), (0, e)] n sh h (some (0, zb (tHas h t e))) n sh h := by
  refine zF.ofT (by decide +kernel) [some (2, t), some (0, e)] rfl (Nat.le_of_ble_eq_true rfl) ?_
  have hE := hT.2.2.1
  refine zt_rg (fun hm => ?_)
  refine zt_iload_n dX8_has_0 rfl ?_
  refine zt_if_lt (tgt := 22) dX8_has_1 (by decide) (by omega) (fun c_1 => ?_) (fun c_1 => ?_)
  · refine zt_iconst dX8_has_22 ?_
    exact zt_zret dX8_has_23 (by decide) ⟨zb0 (by omega), rfl, rfl, rfl⟩
  · refine zt_iload_n dX8_has_4 rfl ?_
    refine zt_aload_n dX8_has_5 rfl ?_
    refine zt_get dX8_has_6 fl_X8_18 hT.sh ?_
    refine zt_icmp_ge (tgt := 22) dX8_has_9 (by decide) (by omega) (hm.fld (j := 0) hT.sh (by decide) (by decide) (by decide)) (fun c_9 => ?_) (fun c_9 => ?_)
    · refine zt_iconst dX8_has_22 ?_
      exact zt_zret dX8_has_23 (by decide) ⟨zb0 (by omega), rfl, rfl, rfl⟩
    · refine zt_iload_n dX8_has_12 rfl ?_
      refine zt_bipush dX8_has_13 (by decide) ?_
      refine zt_icmp_ge (tgt := 22) dX8_has_15 (by decide) (by omega) (by decide) (fun c_15 => ?_) (fun c_15 => ?_)
      · refine zt_iconst dX8_has_22 ?_
        exact zt_zret dX8_has_23 (by decide) ⟨zb0 (by omega), rfl, rfl, rfl⟩
      · refine zt_iconst dX8_has_18 ?_
        refine zt_goto (tgt := 23) dX8_has_19 (by decide) ?_
        exact zt_zret dX8_has_23 (by decide) ⟨zb1 (by omega), rfl, rfl, rfl⟩

set_option maxRecDepth 100000 in
set_option maxHeartbeats 4000000 in
theorem c_ttr {d n : Nat} {sh : zSh} {h : zMem} {t e : Int} (hT : zTab sh h t) (he : zi32 e) : zF yX8_truthOf cX8_truthOf 2 (some .int) (d + 1) 0 0 [(2, t), (0, e)] n sh h (some (0, tTr h t e)) n sh h := by
  refine zF.ofT (by decide +kernel) [some (2, t), some (0, e)] rfl (Nat.le_of_ble_eq_true rfl) ?_
  have hE := hT.2.2.1
  refine zt_rg (fun hm => ?_)
  refine zt_aload_n dX8_truthOf_0 rfl ?_
  refine zt_iload_n dX8_truthOf_1 rfl ?_
  refine zt_callV1r dX8_truthOf_2 ml_X8_66 hT.sh (Nat.le_of_ble_eq_true rfl) (c_thas hT (by omega)) ?_
  refine zt_ifb_eq (tgt := 17) dX8_truthOf_5 (by decide) (fun c_5 => ?_) (fun c_5 => ?_)
  · refine zt_ldc dX8_truthOf_17 kc_X8_24 ?_
    exact zt_iret dX8_truthOf_19 ⟨by congr 2; unfold tTr; (repeat' split) <;> omega, rfl, rfl, rfl⟩
  · refine zt_aload_n dX8_truthOf_8 rfl ?_
    refine zt_getv (v := t + 1) dX8_truthOf_9 fl_X8_29 hT.sh (hT.rf 1 (by decide) (by decide)) ?_
    refine zt_iload_n dX8_truthOf_12 rfl ?_
    refine zt_iaload dX8_truthOf_13 (hT.ar 1 (by decide) (by decide)) (by decide) (by omega) (by omega) ?_
    refine zt_goto (tgt := 19) dX8_truthOf_14 (by decide) ?_
    exact zt_iret dX8_truthOf_19 ⟨by congr 2; unfold tTr; (repeat' split) <;> omega, rfl, rfl, rfl⟩

set_option maxRecDepth 100000 in
set_option maxHeartbeats 4000000 in
theorem c_tag {d n : Nat} {sh : zSh} {h : zMem} {t e : Int} (hT : zTab sh h t) (he : zi32 e) : zF yX8_isAgreed cX8_isAgreed 2 (some .boolean) (d + 1) 0 0 [(2, t), (0, e)] n sh h (some (0, zb (tAg h t e))) n sh h := by
  refine zF.ofT (by decide +kernel) [some (2, t), some (0, e)] rfl (Nat.le_of_ble_eq_true rfl) ?_
  have hE := hT.2.2.1
  refine zt_rg (fun hm => ?_)
  refine zt_aload_n dX8_isAgreed_0 rfl ?_
  refine zt_iload_n dX8_isAgreed_1 rfl ?_
  refine zt_callV1r dX8_isAgreed_2 ml_X8_66 hT.sh (Nat.le_of_ble_eq_true rfl) (c_thas hT (by omega)) ?_
  refine zt_ifb_eq (tgt := 22) dX8_isAgreed_5 (by decide) (fun c_5 => ?_) (fun c_5 => ?_)
  · refine zt_iconst dX8_isAgreed_22 ?_
    exact zt_zret dX8_isAgreed_23 (by decide) ⟨zb0 (by omega), rfl, rfl, rfl⟩
  · refine zt_aload_n dX8_isAgreed_8 rfl ?_
    refine zt_getv (v := t + 8) dX8_isAgreed_9 fl_X8_51 hT.sh (hT.rf 8 (by decide) (by decide)) ?_
    refine zt_iload_n dX8_isAgreed_12 rfl ?_
    refine zt_iaload dX8_isAgreed_13 (hT.ar 8 (by decide) (by decide)) (by decide) (by omega) (by omega) ?_
    refine zt_iconst dX8_isAgreed_14 ?_
    refine zt_icmp_eq (tgt := 22) dX8_isAgreed_15 (by decide) (hm.int (hT.ar 8 (by decide) (by decide)) (by omega) (by omega)) (by decide) (fun c_15 => ?_) (fun c_15 => ?_)
    · refine zt_iconst dX8_isAgreed_22 ?_
      exact zt_zret dX8_isAgreed_23 (by decide) ⟨zb0 (by omega), rfl, rfl, rfl⟩
    · refine zt_iconst dX8_isAgreed_18 ?_
      refine zt_goto (tgt := 23) dX8_isAgreed_19 (by decide) ?_
      exact zt_zret dX8_isAgreed_23 (by decide) ⟨zb1 (by omega), rfl, rfl, rfl⟩

set_option maxRecDepth 100000 in
set_option maxHeartbeats 4000000 in
theorem c_tfig {d n : Nat} {sh : zSh} {h : zMem} {t e : Int} (hT : zTab sh h t) (he : zi32 e) : zF yX8_figureOf cX8_figureOf 2 (some .int) (d + 2) 0 0 [(2, t), (0, e)] n sh h (some (0, tFig h t e)) n sh h := by
  refine zF.ofT (by decide +kernel) [some (2, t), some (0, e)] rfl (Nat.le_of_ble_eq_true rfl) ?_
  have hE := hT.2.2.1
  refine zt_rg (fun hm => ?_)
  refine zt_aload_n dX8_figureOf_0 rfl ?_
  refine zt_iload_n dX8_figureOf_1 rfl ?_
  refine zt_callV1r dX8_figureOf_2 ml_X8_70 hT.sh (Nat.le_of_ble_eq_true rfl) (c_tag hT (by omega)) ?_
  refine zt_ifb_eq (tgt := 17) dX8_figureOf_5 (by decide) (fun c_5 => ?_) (fun c_5 => ?_)
  · refine zt_ldc dX8_figureOf_17 kc_X8_24 ?_
    exact zt_iret dX8_figureOf_19 ⟨by congr 2; unfold tFig; (repeat' split) <;> omega, rfl, rfl, rfl⟩
  · refine zt_aload_n dX8_figureOf_8 rfl ?_
    refine zt_getv (v := t + 4) dX8_figureOf_9 fl_X8_39 hT.sh (hT.rf 4 (by decide) (by decide)) ?_
    refine zt_iload_n dX8_figureOf_12 rfl ?_
    refine zt_iaload dX8_figureOf_13 (hT.ar 4 (by decide) (by decide)) (by decide) (by omega) (by omega) ?_
    refine zt_goto (tgt := 19) dX8_figureOf_14 (by decide) ?_
    exact zt_iret dX8_figureOf_19 ⟨by congr 2; unfold tFig; (repeat' split) <;> omega, rfl, rfl, rfl⟩

set_option maxRecDepth 100000 in
set_option maxHeartbeats 4000000 in
theorem c_tfa {d n : Nat} {sh : zSh} {h : zMem} {t e : Int} (hT : zTab sh h t) (he : zi32 e) : zF yX8_isFalse cX8_isFalse 2 (some .boolean) (d + 2) 0 0 [(2, t), (0, e)] n sh h (some (0, zb (tFa h t e))) n sh h := by
  refine zF.ofT (by decide +kernel) [some (2, t), some (0, e)] rfl (Nat.le_of_ble_eq_true rfl) ?_
  have hE := hT.2.2.1
  refine zt_rg (fun hm => ?_)
  refine zt_aload_n dX8_isFalse_0 rfl ?_
  refine zt_iload_n dX8_isFalse_1 rfl ?_
  refine zt_callV1r dX8_isFalse_2 ml_X8_70 hT.sh (Nat.le_of_ble_eq_true rfl) (c_tag hT (by omega)) ?_
  refine zt_ifb_eq (tgt := 27) dX8_isFalse_5 (by decide) (fun c_5 => ?_) (fun c_5 => ?_)
  · refine zt_iconst dX8_isFalse_27 ?_
    exact zt_zret dX8_isFalse_28 (by decide) ⟨zb0 (by omega), rfl, rfl, rfl⟩
  · refine zt_aload_n dX8_isFalse_8 rfl ?_
    refine zt_getv (v := t + 4) dX8_isFalse_9 fl_X8_39 hT.sh (hT.rf 4 (by decide) (by decide)) ?_
    refine zt_iload_n dX8_isFalse_12 rfl ?_
    refine zt_iaload dX8_isFalse_13 (hT.ar 4 (by decide) (by decide)) (by decide) (by omega) (by omega) ?_
    refine zt_aload_n dX8_isFalse_14 rfl ?_
    refine zt_getv (v := t + 1) dX8_isFalse_15 fl_X8_29 hT.sh (hT.rf 1 (by decide) (by decide)) ?_
    refine zt_iload_n dX8_isFalse_18 rfl ?_
    refine zt_iaload dX8_isFalse_19 (hT.ar 1 (by decide) (by decide)) (by decide) (by omega) (by omega) ?_
    refine zt_icmp_eq (tgt := 27) dX8_isFalse_20 (by decide) (hm.int (hT.ar 4 (by decide) (by decide)) (by omega) (by omega)) (hm.int (hT.ar 1 (by decide) (by decide)) (by omega) (by omega)) (fun c_20 => ?_) (fun c_20 => ?_)
    · refine zt_iconst dX8_isFalse_27 ?_
      exact zt_zret dX8_isFalse_28 (by decide) ⟨zb0 (by omega), rfl, rfl, rfl⟩
    · refine zt_iconst dX8_isFalse_23 ?_
      refine zt_goto (tgt := 28) dX8_isFalse_24 (by decide) ?_
      exact zt_zret dX8_isFalse_28 (by decide) ⟨zb1 (by omega), rfl, rfl, rfl⟩

set_option maxRecDepth 100000 in
set_option maxHeartbeats 4000000 in
theorem c_tfh {d n : Nat} {sh : zSh} {h : zMem} {t e : Int} (hT : zTab sh h t) (he : zi32 e) : zF yX8_falsehood cX8_falsehood 2 (some .int) (d + 3) 0 0 [(2, t), (0, e)] n sh h (some (0, tFh h t e)) n sh h := by
  refine zF.ofT (by decide +kernel) [some (2, t), some (0, e)] rfl (Nat.le_of_ble_eq_true rfl) ?_
  have hE := hT.2.2.1
  refine zt_rg (fun hm => ?_)
  refine zt_aload_n dX8_falsehood_0 rfl ?_
  refine zt_iload_n dX8_falsehood_1 rfl ?_
  refine zt_callV1r dX8_falsehood_2 ml_X8_70 hT.sh (Nat.le_of_ble_eq_true rfl) (c_tag hT (by omega)) ?_
  refine zt_ifb_ne (tgt := 10) dX8_falsehood_5 (by decide) (fun c_5 => ?_) (fun c_5 => ?_)
  · refine zt_aload_n dX8_falsehood_10 rfl ?_
    refine zt_iload_n dX8_falsehood_11 rfl ?_
    refine zt_callV1r dX8_falsehood_12 ml_X8_73 hT.sh (Nat.le_of_ble_eq_true rfl) (c_tfa hT (by omega)) ?_
    refine zt_ifb_eq (tgt := 22) dX8_falsehood_15 (by decide) (fun c_15 => ?_) (fun c_15 => ?_)
    · refine zt_iconst dX8_falsehood_22 ?_
      exact zt_iret dX8_falsehood_23 ⟨by congr 2; unfold tFh; split <;> first | omega | (rw [zb_t (by omega)]) | (rw [zb_f (by omega)]), rfl, rfl, rfl⟩
    · refine zt_iconst dX8_falsehood_18 ?_
      refine zt_goto (tgt := 23) dX8_falsehood_19 (by decide) ?_
      exact zt_iret dX8_falsehood_23 ⟨by congr 2; unfold tFh; split <;> first | omega | (rw [zb_t (by omega)]) | (rw [zb_f (by omega)]), rfl, rfl, rfl⟩
  · refine zt_iconst dX8_falsehood_8 ?_
    exact zt_iret dX8_falsehood_9 ⟨by congr 2; unfold tFh; split <;> first | omega | (rw [zb_t (by omega)]) | (rw [zb_f (by omega)]), rfl, rfl, rfl⟩

set_option maxRecDepth 100000 in
set_option maxHeartbeats 4000000 in
theorem l_tagn {d n : Nat} {sh : zSh} {h : zMem} {t R : Int} (hT : zTab sh h t) (hm : zMok sh h) (hE : 4 ≤ h t 0 ∧ h t 0 ≤ 30) : ∀ (k : Nat) (i : Int) (f : Int), h t 0 - i < (k : Int) → 0 ≤ i → i ≤ h t 0 → R = f + zS (fun j => zb (tAg h t j)) i (h t 0) → zT yX8_agreedEntries cX8_agreedEntries 3 (some .int) (d + 2) 0 0 (zq (some (0, R)) n sh h) 4 [some (2, t), some (0, f), some (0, i)] [] n sh h := by
  intro k
  induction k with
  | zero => intros; exfalso; omega
  | succ k ih =>
    intro i f hk h0 h1 hr
    refine zt_iload_n dX8_agreedEntries_4 rfl ?_
    refine zt_aload_n dX8_agreedEntries_5 rfl ?_
    refine zt_get dX8_agreedEntries_6 fl_X8_18 hT.sh ?_
    refine zt_icmp_ge (tgt := 34) dX8_agreedEntries_9 (by decide) (by omega) (hm.fld (j := 0) hT.sh (by decide) (by decide) (by decide)) (fun c_9 => ?_) (fun c_9 => ?_)
    · refine zt_iload_n dX8_agreedEntries_34 rfl ?_
      exact zt_iret dX8_agreedEntries_35 ⟨by rw [hr, zS_e (by omega)]; congr 2; omega, rfl, rfl, rfl⟩
    · refine zt_iload_n dX8_agreedEntries_12 rfl ?_
      refine zt_aload_n dX8_agreedEntries_13 rfl ?_
      refine zt_iload_n dX8_agreedEntries_14 rfl ?_
      refine zt_callV1r dX8_agreedEntries_15 ml_X8_70 hT.sh (Nat.le_of_ble_eq_true rfl) (c_tag hT (by omega)) ?_
      refine zt_ifb_eq (tgt := 25) dX8_agreedEntries_18 (by decide) (fun c_18 => ?_) (fun c_18 => ?_)
      · refine zt_iconst dX8_agreedEntries_25 ?_
        refine zt_iadd dX8_agreedEntries_26 ?_
        refine zt_istore_n_1 dX8_agreedEntries_27 (by decide) rfl ?_
        refine zt_iinc_2 dX8_agreedEntries_28 (by decide) rfl ?_
        refine zt_goto (tgt := 4) dX8_agreedEntries_31 (by decide) ?_
        exact ih (i + 1) (f + 0) (by omega) (by omega) (by omega) (by rw [hr, zS_s (by omega)]; first | (rw [zb_t (by omega)]; omega) | (rw [zb_f (by omega)]; omega))
      · refine zt_iconst dX8_agreedEntries_21 ?_
        refine zt_goto (tgt := 26) dX8_agreedEntries_22 (by decide) ?_
        refine zt_iadd dX8_agreedEntries_26 ?_
        refine zt_istore_n_1 dX8_agreedEntries_27 (by decide) rfl ?_
        refine zt_iinc_2 dX8_agreedEntries_28 (by decide) rfl ?_
        refine zt_goto (tgt := 4) dX8_agreedEntries_31 (by decide) ?_
        exact ih (i + 1) (f + 1) (by omega) (by omega) (by omega) (by rw [hr, zS_s (by omega)]; first | (rw [zb_t (by omega)]; omega) | (rw [zb_f (by omega)]; omega))

set_option maxRecDepth 100000 in
set_option maxHeartbeats 4000000 in
theorem c_tagn {d n : Nat} {sh : zSh} {h : zMem} {t : Int} (hT : zTab sh h t) : zF yX8_agreedEntries cX8_agreedEntries 3 (some .int) (d + 2) 0 0 [(2, t)] n sh h (some (0, zS (fun j => zb (tAg h t j)) 0 (h t 0))) n sh h := by
  refine zF.ofT (by decide +kernel) [some (2, t), none, none] rfl (Nat.le_of_ble_eq_true rfl) ?_
  have hE := hT.2.2.1
  refine zt_rg (fun hm => ?_)
  refine zt_iconst dX8_agreedEntries_0 ?_
  refine zt_istore_n_1 dX8_agreedEntries_1 (by decide) rfl ?_
  refine zt_iconst dX8_agreedEntries_2 ?_
  refine zt_istore_n_2 dX8_agreedEntries_3 (by decide) rfl ?_
  exact l_tagn (R := zS (fun j => zb (tAg h t j)) 0 (h t 0)) hT hm hE 31 0 0 (by omega) (by omega) (by omega) (by omega)

set_option maxRecDepth 100000 in
set_option maxHeartbeats 4000000 in
theorem l_tfan {d n : Nat} {sh : zSh} {h : zMem} {t R : Int} (hT : zTab sh h t) (hm : zMok sh h) (hE : 4 ≤ h t 0 ∧ h t 0 ≤ 30) : ∀ (k : Nat) (i : Int) (f : Int), h t 0 - i < (k : Int) → 0 ≤ i → i ≤ h t 0 → R = f + zS (fun j => zb (tFa h t j)) i (h t 0) → zT yX8_falseEntries cX8_falseEntries 3 (some .int) (d + 3) 0 0 (zq (some (0, R)) n sh h) 4 [some (2, t), some (0, f), some (0, i)] [] n sh h := by
  intro k
  induction k with
  | zero => intros; exfalso; omega
  | succ k ih =>
    intro i f hk h0 h1 hr
    refine zt_iload_n dX8_falseEntries_4 rfl ?_
    refine zt_aload_n dX8_falseEntries_5 rfl ?_
    refine zt_get dX8_falseEntries_6 fl_X8_18 hT.sh ?_
    refine zt_icmp_ge (tgt := 34) dX8_falseEntries_9 (by decide) (by omega) (hm.fld (j := 0) hT.sh (by decide) (by decide) (by decide)) (fun c_9 => ?_) (fun c_9 => ?_)
    · refine zt_iload_n dX8_falseEntries_34 rfl ?_
      exact zt_iret dX8_falseEntries_35 ⟨by rw [hr, zS_e (by omega)]; congr 2; omega, rfl, rfl, rfl⟩
    · refine zt_iload_n dX8_falseEntries_12 rfl ?_
      refine zt_aload_n dX8_falseEntries_13 rfl ?_
      refine zt_iload_n dX8_falseEntries_14 rfl ?_
      refine zt_callV1r dX8_falseEntries_15 ml_X8_73 hT.sh (Nat.le_of_ble_eq_true rfl) (c_tfa hT (by omega)) ?_
      refine zt_ifb_eq (tgt := 25) dX8_falseEntries_18 (by decide) (fun c_18 => ?_) (fun c_18 => ?_)
      · refine zt_iconst dX8_falseEntries_25 ?_
        refine zt_iadd dX8_falseEntries_26 ?_
        refine zt_istore_n_1 dX8_falseEntries_27 (by decide) rfl ?_
        refine zt_iinc_2 dX8_falseEntries_28 (by decide) rfl ?_
        refine zt_goto (tgt := 4) dX8_falseEntries_31 (by decide) ?_
        exact ih (i + 1) (f + 0) (by omega) (by omega) (by omega) (by rw [hr, zS_s (by omega)]; first | (rw [zb_t (by omega)]; omega) | (rw [zb_f (by omega)]; omega))
      · refine zt_iconst dX8_falseEntries_21 ?_
        refine zt_goto (tgt := 26) dX8_falseEntries_22 (by decide) ?_
        refine zt_iadd dX8_falseEntries_26 ?_
        refine zt_istore_n_1 dX8_falseEntries_27 (by decide) rfl ?_
        refine zt_iinc_2 dX8_falseEntries_28 (by decide) rfl ?_
        refine zt_goto (tgt := 4) dX8_falseEntries_31 (by decide) ?_
        exact ih (i + 1) (f + 1) (by omega) (by omega) (by omega) (by rw [hr, zS_s (by omega)]; first | (rw [zb_t (by omega)]; omega) | (rw [zb_f (by omega)]; omega))

set_option maxRecDepth 100000 in
set_option maxHeartbeats 4000000 in
theorem c_tfan {d n : Nat} {sh : zSh} {h : zMem} {t : Int} (hT : zTab sh h t) : zF yX8_falseEntries cX8_falseEntries 3 (some .int) (d + 3) 0 0 [(2, t)] n sh h (some (0, zS (fun j => zb (tFa h t j)) 0 (h t 0))) n sh h := by
  refine zF.ofT (by decide +kernel) [some (2, t), none, none] rfl (Nat.le_of_ble_eq_true rfl) ?_
  have hE := hT.2.2.1
  refine zt_rg (fun hm => ?_)
  refine zt_iconst dX8_falseEntries_0 ?_
  refine zt_istore_n_1 dX8_falseEntries_1 (by decide) rfl ?_
  refine zt_iconst dX8_falseEntries_2 ?_
  refine zt_istore_n_2 dX8_falseEntries_3 (by decide) rfl ?_
  exact l_tfan (R := zS (fun j => zb (tFa h t j)) 0 (h t 0)) hT hm hE 31 0 0 (by omega) (by omega) (by omega) (by omega)

set_option maxRecDepth 100000 in
set_option maxHeartbeats 4000000 in
theorem l_tshf {d n : Nat} {sh : zSh} {h : zMem} {t R : Int} (hT : zTab sh h t) (hm : zMok sh h) (hE : 4 ≤ h t 0 ∧ h t 0 ≤ 30) : ∀ (k : Nat) (i : Int) (f : Int), h t 0 - i < (k : Int) → 0 ≤ i → i ≤ h t 0 → R = f + zS (fun j => zb (tFa h t j ∧ h (t + 10) j = h (t + 4) j)) i (h t 0) → zT yX8_sharedFalse cX8_sharedFalse 3 (some .int) (d + 3) 0 0 (zq (some (0, R)) n sh h) 4 [some (2, t), some (0, f), some (0, i)] [] n sh h := by
  intro k
  induction k with
  | zero => intros; exfalso; omega
  | succ k ih =>
    intro i f hk h0 h1 hr
    refine zt_iload_n dX8_sharedFalse_4 rfl ?_
    refine zt_aload_n dX8_sharedFalse_5 rfl ?_
    refine zt_get dX8_sharedFalse_6 fl_X8_18 hT.sh ?_
    refine zt_icmp_ge (tgt := 44) dX8_sharedFalse_9 (by decide) (by omega) (hm.fld (j := 0) hT.sh (by decide) (by decide) (by decide)) (fun c_9 => ?_) (fun c_9 => ?_)
    · refine zt_iload_n dX8_sharedFalse_44 rfl ?_
      exact zt_iret dX8_sharedFalse_45 ⟨by rw [hr, zS_e (by omega)]; congr 2; omega, rfl, rfl, rfl⟩
    · refine zt_aload_n dX8_sharedFalse_12 rfl ?_
      refine zt_iload_n dX8_sharedFalse_13 rfl ?_
      refine zt_callV1r dX8_sharedFalse_14 ml_X8_73 hT.sh (Nat.le_of_ble_eq_true rfl) (c_tfa hT (by omega)) ?_
      refine zt_ifb_eq (tgt := 38) dX8_sharedFalse_17 (by decide) (fun c_17 => ?_) (fun c_17 => ?_)
      · refine zt_iinc_2 dX8_sharedFalse_38 (by decide) rfl ?_
        refine zt_goto (tgt := 4) dX8_sharedFalse_41 (by decide) ?_
        exact ih (i + 1) f (by omega) (by omega) (by omega) (by rw [hr, zS_s (by omega)]; first | (rw [zb_t (by omega)]; omega) | (rw [zb_f (by omega)]; omega))
      · refine zt_aload_n dX8_sharedFalse_20 rfl ?_
        refine zt_getv (v := t + 10) dX8_sharedFalse_21 fl_X8_57 hT.sh (hT.rf 10 (by decide) (by decide)) ?_
        refine zt_iload_n dX8_sharedFalse_24 rfl ?_
        refine zt_iaload dX8_sharedFalse_25 (hT.ar 10 (by decide) (by decide)) (by decide) (by omega) (by omega) ?_
        refine zt_aload_n dX8_sharedFalse_26 rfl ?_
        refine zt_getv (v := t + 4) dX8_sharedFalse_27 fl_X8_39 hT.sh (hT.rf 4 (by decide) (by decide)) ?_
        refine zt_iload_n dX8_sharedFalse_30 rfl ?_
        refine zt_iaload dX8_sharedFalse_31 (hT.ar 4 (by decide) (by decide)) (by decide) (by omega) (by omega) ?_
        refine zt_icmp_ne (tgt := 38) dX8_sharedFalse_32 (by decide) (hm.int (hT.ar 10 (by decide) (by decide)) (by omega) (by omega)) (hm.int (hT.ar 4 (by decide) (by decide)) (by omega) (by omega)) (fun c_32 => ?_) (fun c_32 => ?_)
        · refine zt_iinc_2 dX8_sharedFalse_38 (by decide) rfl ?_
          refine zt_goto (tgt := 4) dX8_sharedFalse_41 (by decide) ?_
          exact ih (i + 1) f (by omega) (by omega) (by omega) (by rw [hr, zS_s (by omega)]; first | (rw [zb_t (by omega)]; omega) | (rw [zb_f (by omega)]; omega))
        · refine zt_iinc_1 dX8_sharedFalse_35 (by decide) rfl ?_
          refine zt_iinc_2 dX8_sharedFalse_38 (by decide) rfl ?_
          refine zt_goto (tgt := 4) dX8_sharedFalse_41 (by decide) ?_
          exact ih (i + 1) (f + 1) (by omega) (by omega) (by omega) (by rw [hr, zS_s (by omega)]; first | (rw [zb_t (by omega)]; omega) | (rw [zb_f (by omega)]; omega))

set_option maxRecDepth 100000 in
set_option maxHeartbeats 4000000 in
theorem c_tshf {d n : Nat} {sh : zSh} {h : zMem} {t : Int} (hT : zTab sh h t) : zF yX8_sharedFalse cX8_sharedFalse 3 (some .int) (d + 3) 0 0 [(2, t)] n sh h (some (0, zS (fun j => zb (tFa h t j ∧ h (t + 10) j = h (t + 4) j)) 0 (h t 0))) n sh h := by
  refine zF.ofT (by decide +kernel) [some (2, t), none, none] rfl (Nat.le_of_ble_eq_true rfl) ?_
  have hE := hT.2.2.1
  refine zt_rg (fun hm => ?_)
  refine zt_iconst dX8_sharedFalse_0 ?_
  refine zt_istore_n_1 dX8_sharedFalse_1 (by decide) rfl ?_
  refine zt_iconst dX8_sharedFalse_2 ?_
  refine zt_istore_n_2 dX8_sharedFalse_3 (by decide) rfl ?_
  exact l_tshf (R := zS (fun j => zb (tFa h t j ∧ h (t + 10) j = h (t + 4) j)) 0 (h t 0)) hT hm hE 31 0 0 (by omega) (by omega) (by omega) (by omega)

abbrev tAll (h : zMem) (t : Int) : Prop := ∀ j : Int, 0 ≤ j → j < h t 0 → h (t + 1) j = -2147483648 ∨ h (t + 8) j ≠ -1
noncomputable def zbp (P : Prop) : Int := @zb P (Classical.propDecidable P)
theorem zbp_t {P : Prop} (hp : P) : zbp P = 1 := @zb_t P (Classical.propDecidable P) hp
theorem zbp_f {P : Prop} (hp : ¬ P) : zbp P = 0 := @zb_f P (Classical.propDecidable P) hp
theorem tTr_in {h : zMem} {t e : Int} (h1 : 0 ≤ e ∧ e < h t 0) : tTr h t e = h (t + 1) e := if_pos h1
theorem c_ttrI {d n : Nat} {sh : zSh} {h : zMem} {t e : Int} (hT : zTab sh h t) (h1 : 0 ≤ e ∧ e < h t 0) : zF yX8_truthOf cX8_truthOf 2 (some .int) (d + 1) 0 0 [(2, t), (0, e)] n sh h (some (0, h (t + 1) e)) n sh h := tTr_in h1 ▸ c_ttr hT (by have := hT.2.2.1; omega)
theorem tTr_out {h : zMem} {t e : Int} (h1 : ¬ (0 ≤ e ∧ e < h t 0)) : tTr h t e = -2147483648 := if_neg h1

set_option maxRecDepth 100000 in
set_option maxHeartbeats 4000000 in
theorem l_tall {d n : Nat} {sh : zSh} {h : zMem} {t : Int} (hT : zTab sh h t) (hm : zMok sh h) (hE : 4 ≤ h t 0 ∧ h t 0 ≤ 30) : ∀ (k : Nat) (i : Int), h t 0 - i < (k : Int) → 0 ≤ i → i ≤ h t 0 → (∀ j : Int, 0 ≤ j → j < i → h (t + 1) j = -2147483648 ∨ h (t + 8) j ≠ -1) → zT yX8_allAgreed cX8_allAgreed 2 (some .boolean) (d + 2) 0 0 (zq (some (0, zbp (tAll h t))) n sh h) 2 [some (2, t), some (0, i)] [] n sh h := by
  intro k
  induction k with
  | zero => intros; exfalso; omega
  | succ k ih =>
    intro i hk h0 h1 ha
    refine zt_iload_n dX8_allAgreed_2 rfl ?_
    refine zt_aload_n dX8_allAgreed_3 rfl ?_
    refine zt_get dX8_allAgreed_4 fl_X8_18 hT.sh ?_
    refine zt_icmp_ge (tgt := 36) dX8_allAgreed_7 (by decide) (by omega) (hm.fld (j := 0) hT.sh (by decide) (by decide) (by decide)) (fun c_7 => ?_) (fun c_7 => ?_)
    · refine zt_iconst dX8_allAgreed_36 ?_
      exact zt_zret dX8_allAgreed_37 (by decide) ⟨by rw [zbp_t (P := tAll h t) (fun j h2 h3 => ha j h2 (by omega))], rfl, rfl, rfl⟩
    · refine zt_aload_n dX8_allAgreed_10 rfl ?_
      refine zt_iload_n dX8_allAgreed_11 rfl ?_
      refine zt_callV1r dX8_allAgreed_12 ml_X8_80 hT.sh (Nat.le_of_ble_eq_true rfl) (c_ttrI hT (by omega)) ?_
      refine zt_ldc dX8_allAgreed_15 kc_X8_24 ?_
      refine zt_icmp_eq (tgt := 30) dX8_allAgreed_17 (by decide) (hm.int (hT.ar 1 (by decide) (by decide)) (by omega) (by omega)) (by decide) (fun c_17 => ?_) (fun c_17 => ?_)
      · refine zt_iinc_1 dX8_allAgreed_30 (by decide) rfl ?_
        refine zt_goto (tgt := 2) dX8_allAgreed_33 (by decide) ?_
        exact ih (i + 1) (by omega) (by omega) (by omega) (fun j h2 h3 => by by_cases h4 : j < i; exact ha j h2 h4; rw [show j = i by omega]; omega)
      · refine zt_aload_n dX8_allAgreed_20 rfl ?_
        refine zt_iload_n dX8_allAgreed_21 rfl ?_
        refine zt_callV1r dX8_allAgreed_22 ml_X8_70 hT.sh (Nat.le_of_ble_eq_true rfl) (c_tag hT (by omega)) ?_
        refine zt_ifb_ne (tgt := 30) dX8_allAgreed_25 (by decide) (fun c_25 => ?_) (fun c_25 => ?_)
        · refine zt_iinc_1 dX8_allAgreed_30 (by decide) rfl ?_
          refine zt_goto (tgt := 2) dX8_allAgreed_33 (by decide) ?_
          exact ih (i + 1) (by omega) (by omega) (by omega) (fun j h2 h3 => by by_cases h4 : j < i; exact ha j h2 h4; rw [show j = i by omega]; omega)
        · refine zt_iconst dX8_allAgreed_28 ?_
          exact zt_zret dX8_allAgreed_29 (by decide) ⟨by rw [zbp_f (P := tAll h t) (fun q => by have := q i h0 (by omega); omega)], rfl, rfl, rfl⟩

set_option maxRecDepth 100000 in
set_option maxHeartbeats 4000000 in
theorem c_tall {d n : Nat} {sh : zSh} {h : zMem} {t : Int} (hT : zTab sh h t) : zF yX8_allAgreed cX8_allAgreed 2 (some .boolean) (d + 2) 0 0 [(2, t)] n sh h (some (0, zbp (tAll h t))) n sh h := by
  refine zF.ofT (by decide +kernel) [some (2, t), none] rfl (Nat.le_of_ble_eq_true rfl) ?_
  have hE := hT.2.2.1
  refine zt_rg (fun hm => ?_)
  refine zt_iconst dX8_allAgreed_0 ?_
  refine zt_istore_n_1 dX8_allAgreed_1 (by decide) rfl ?_
  exact l_tall hT hm hE 31 0 (by omega) (by omega) (by omega) (fun j h2 h3 => by omega)

theorem tTr_zi {sh : zSh} {h : zMem} {t e : Int} (hT : zTab sh h t) (hm : zMok sh h) : zi32 (tTr h t e) := by
  have hE := hT.2.2.1
  unfold tTr
  split
  · exact hm.int (hT.ar 1 (by decide) (by decide)) (by omega) (by omega)
  · decide
abbrev tMay (h : zMem) (t w e : Int) : Prop := h t 11 = 0 ∧ ¬ tAg h t e ∧ tTr h t e ≠ -2147483648 ∧ ((h (t + 5) e = -1 ∧ h (t + 2) e ≠ w) ∨ (h (t + 5) e ≠ -1 ∧ (h (t + 2) e = w ∨ h (t + 5) e = w)))

set_option maxRecDepth 100000 in
set_option maxHeartbeats 4000000 in
theorem c_tmay {d n : Nat} {sh : zSh} {h : zMem} {t w e : Int} (hT : zTab sh h t) (hw : zi32 w) (he : zi32 e) : zF yX8_mayWork cX8_mayWork 3 (some .boolean) (d + 2) 0 0 [(2, t), (0, w), (0, e)] n sh h (some (0, zb (tMay h t w e))) n sh h := by
  refine zF.ofT (by decide +kernel) [some (2, t), some (0, w), some (0, e)] rfl (Nat.le_of_ble_eq_true rfl) ?_
  have hE := hT.2.2.1
  refine zt_rg (fun hm => ?_)
  refine zt_aload_n dX8_mayWork_0 rfl ?_
  refine zt_get dX8_mayWork_1 fl_X8_76 hT.sh ?_
  refine zt_if_ne (tgt := 25) dX8_mayWork_4 (by decide) (zbool (hm.fld (j := 11) hT.sh (by decide) (by decide) (by decide))) (fun c_4 => ?_) (fun c_4 => ?_)
  · refine zt_iconst dX8_mayWork_25 ?_
    exact zt_zret dX8_mayWork_26 (by decide) ⟨zb0 (by omega), rfl, rfl, rfl⟩
  · refine zt_aload_n dX8_mayWork_7 rfl ?_
    refine zt_iload_n dX8_mayWork_8 rfl ?_
    refine zt_callV1r dX8_mayWork_9 ml_X8_70 hT.sh (Nat.le_of_ble_eq_true rfl) (c_tag hT (by omega)) ?_
    refine zt_ifb_ne (tgt := 25) dX8_mayWork_12 (by decide) (fun c_12 => ?_) (fun c_12 => ?_)
    · refine zt_iconst dX8_mayWork_25 ?_
      exact zt_zret dX8_mayWork_26 (by decide) ⟨zb0 (by omega), rfl, rfl, rfl⟩
    · refine zt_aload_n dX8_mayWork_15 rfl ?_
      refine zt_iload_n dX8_mayWork_16 rfl ?_
      refine zt_callV1r dX8_mayWork_17 ml_X8_80 hT.sh (Nat.le_of_ble_eq_true rfl) (c_ttr hT (by omega)) ?_
      refine zt_ldc dX8_mayWork_20 kc_X8_24 ?_
      refine zt_icmp_ne (tgt := 27) dX8_mayWork_22 (by decide) (tTr_zi hT hm) (by decide) (fun c_22 => ?_) (fun c_22 => ?_)
      · have hin : 0 ≤ e ∧ e < h t 0 := Classical.byContradiction fun q => c_22 (tTr_out q)
        refine zt_aload_n dX8_mayWork_27 rfl ?_
        refine zt_getv (v := t + 5) dX8_mayWork_28 fl_X8_42 hT.sh (hT.rf 5 (by decide) (by decide)) ?_
        refine zt_iload_n dX8_mayWork_31 rfl ?_
        refine zt_iaload dX8_mayWork_32 (hT.ar 5 (by decide) (by decide)) (by decide) (by omega) (by omega) ?_
        refine zt_iconst dX8_mayWork_33 ?_
        refine zt_icmp_ne (tgt := 53) dX8_mayWork_34 (by decide) (hm.int (hT.ar 5 (by decide) (by decide)) (by omega) (by omega)) (by decide) (fun c_34 => ?_) (fun c_34 => ?_)
        · refine zt_aload_n dX8_mayWork_53 rfl ?_
          refine zt_getv (v := t + 2) dX8_mayWork_54 fl_X8_33 hT.sh (hT.rf 2 (by decide) (by decide)) ?_
          refine zt_iload_n dX8_mayWork_57 rfl ?_
          refine zt_iaload dX8_mayWork_58 (hT.ar 2 (by decide) (by decide)) (by decide) (by omega) (by omega) ?_
          refine zt_iload_n dX8_mayWork_59 rfl ?_
          refine zt_icmp_eq (tgt := 73) dX8_mayWork_60 (by decide) (hm.int (hT.ar 2 (by decide) (by decide)) (by omega) (by omega)) (by omega) (fun c_60 => ?_) (fun c_60 => ?_)
          · refine zt_iconst dX8_mayWork_73 ?_
            refine zt_goto (tgt := 78) dX8_mayWork_74 (by decide) ?_
            exact zt_zret dX8_mayWork_78 (by decide) ⟨zb1 (by omega), rfl, rfl, rfl⟩
          · refine zt_aload_n dX8_mayWork_63 rfl ?_
            refine zt_getv (v := t + 5) dX8_mayWork_64 fl_X8_42 hT.sh (hT.rf 5 (by decide) (by decide)) ?_
            refine zt_iload_n dX8_mayWork_67 rfl ?_
            refine zt_iaload dX8_mayWork_68 (hT.ar 5 (by decide) (by decide)) (by decide) (by omega) (by omega) ?_
            refine zt_iload_n dX8_mayWork_69 rfl ?_
            refine zt_icmp_ne (tgt := 77) dX8_mayWork_70 (by decide) (hm.int (hT.ar 5 (by decide) (by decide)) (by omega) (by omega)) (by omega) (fun c_70 => ?_) (fun c_70 => ?_)
            · refine zt_iconst dX8_mayWork_77 ?_
              exact zt_zret dX8_mayWork_78 (by decide) ⟨zb0 (by omega), rfl, rfl, rfl⟩
            · refine zt_iconst dX8_mayWork_73 ?_
              refine zt_goto (tgt := 78) dX8_mayWork_74 (by decide) ?_
              exact zt_zret dX8_mayWork_78 (by decide) ⟨zb1 (by omega), rfl, rfl, rfl⟩
        · refine zt_aload_n dX8_mayWork_37 rfl ?_
          refine zt_getv (v := t + 2) dX8_mayWork_38 fl_X8_33 hT.sh (hT.rf 2 (by decide) (by decide)) ?_
          refine zt_iload_n dX8_mayWork_41 rfl ?_
          refine zt_iaload dX8_mayWork_42 (hT.ar 2 (by decide) (by decide)) (by decide) (by omega) (by omega) ?_
          refine zt_iload_n dX8_mayWork_43 rfl ?_
          refine zt_icmp_eq (tgt := 51) dX8_mayWork_44 (by decide) (hm.int (hT.ar 2 (by decide) (by decide)) (by omega) (by omega)) (by omega) (fun c_44 => ?_) (fun c_44 => ?_)
          · refine zt_iconst dX8_mayWork_51 ?_
            exact zt_zret dX8_mayWork_52 (by decide) ⟨zb0 (by omega), rfl, rfl, rfl⟩
          · refine zt_iconst dX8_mayWork_47 ?_
            refine zt_goto (tgt := 52) dX8_mayWork_48 (by decide) ?_
            exact zt_zret dX8_mayWork_52 (by decide) ⟨zb1 (by omega), rfl, rfl, rfl⟩
      · refine zt_iconst dX8_mayWork_25 ?_
        exact zt_zret dX8_mayWork_26 (by decide) ⟨zb0 (by omega), rfl, rfl, rfl⟩

/-- the memory behind takeWork -/
def tWork (h : zMem) (t w b e v g : Int) : zMem :=
  if h (t + 2) e = -1 ∨ h (t + 2) e = w then
    (if h (t + 5) e ≠ -1 ∧ v = h (t + 7) e ∧ b ≠ h (t + 6) e then zup (zup (zup (zup h (t + 2) e w) (t + 3) e b) (t + 4) e v) (t + 8) e g else (zup (zup (zup h (t + 2) e w) (t + 3) e b) (t + 4) e v))
  else (if h (t + 4) e = v ∧ h (t + 3) e ≠ b then zup (zup (zup (zup h (t + 5) e w) (t + 6) e b) (t + 7) e v) (t + 8) e g else (zup (zup (zup h (t + 5) e w) (t + 6) e b) (t + 7) e v))

set_option maxRecDepth 100000 in
set_option maxHeartbeats 4000000 in
theorem c_twork {d n : Nat} {sh : zSh} {h : zMem} {t w b e v g : Int} (hT : zTab sh h t) (hin : 0 ≤ e ∧ e < h t 0) (hw : 0 ≤ w ∧ w ≤ 1000) (hb : zi32 b) (hv : zi32 v) (hg : zi32 g) : zF yX8_takeWork cX8_takeWork 7 none (d + 1) 0 0 [(2, t), (0, w), (0, b), (0, e), (0, v), (0, g)] n sh h none n sh (tWork h t w b e v g) := by
  refine zF.ofT (by decide +kernel) [some (2, t), some (0, w), some (0, b), some (0, e), some (0, v), some (0, g), none] rfl (Nat.le_of_ble_eq_true rfl) ?_
  have hE := hT.2.2.1
  refine zt_rg (fun hm => ?_)
  refine zt_aload_n dX8_takeWork_0 rfl ?_
  refine zt_iload_n dX8_takeWork_1 rfl ?_
  refine zt_callV1r dX8_takeWork_2 ml_X8_66 hT.sh (Nat.le_of_ble_eq_true rfl) (c_thas hT (by omega)) ?_
  refine zt_ifb_ne (tgt := 9) dX8_takeWork_5 (by decide) (fun c_5 => ?_) (fun c_5 => ?_)
  · refine zt_aload_n dX8_takeWork_9 rfl ?_
    refine zt_getv (v := t + 2) dX8_takeWork_10 fl_X8_33 hT.sh (hT.rf 2 (by decide) (by decide)) ?_
    refine zt_iload_n dX8_takeWork_13 rfl ?_
    refine zt_iaload dX8_takeWork_14 (hT.ar 2 (by decide) (by decide)) (by decide) (by omega) (by omega) ?_
    refine zt_iconst dX8_takeWork_15 ?_
    refine zt_icmp_eq (tgt := 29) dX8_takeWork_16 (by decide) (hm.int (hT.ar 2 (by decide) (by decide)) (by omega) (by omega)) (by decide) (fun c_16 => ?_) (fun c_16 => ?_)
    · refine zt_aload_n dX8_takeWork_29 rfl ?_
      refine zt_getv (v := t + 2) dX8_takeWork_30 fl_X8_33 hT.sh (hT.rf 2 (by decide) (by decide)) ?_
      refine zt_iload_n dX8_takeWork_33 rfl ?_
      refine zt_iload_n dX8_takeWork_34 rfl ?_
      refine zt_iastore dX8_takeWork_35 (hT.ar 2 (by decide) (by decide)) (by decide) (by omega) (by omega) (by omega) ?_
      refine zt_aload_n dX8_takeWork_36 rfl ?_
      refine zt_getv (v := t + 3) dX8_takeWork_37 fl_X8_36 hT.sh ((hT.up (by omega)).rf 3 (by decide) (by decide)) ?_
      refine zt_iload_n dX8_takeWork_40 rfl ?_
      refine zt_iload_n dX8_takeWork_41 rfl ?_
      refine zt_iastore dX8_takeWork_42 (hT.ar 3 (by decide) (by decide)) (by decide) (by omega) (by omega) (by omega) ?_
      refine zt_aload_n dX8_takeWork_43 rfl ?_
      refine zt_getv (v := t + 4) dX8_takeWork_44 fl_X8_39 hT.sh (((hT.up (by omega)).up (by omega)).rf 4 (by decide) (by decide)) ?_
      refine zt_iload_n dX8_takeWork_47 rfl ?_
      refine zt_iload dX8_takeWork_48 rfl ?_
      refine zt_iastore dX8_takeWork_50 (hT.ar 4 (by decide) (by decide)) (by decide) (by omega) (by omega) (by omega) ?_
      refine zt_goto (tgt := 76) dX8_takeWork_51 (by decide) ?_
      refine zt_aload_n dX8_takeWork_76 rfl ?_
      refine zt_getv (v := t + 5) dX8_takeWork_77 fl_X8_42 hT.sh ((((hT.up (by omega)).up (by omega)).up (by omega)).rf 5 (by decide) (by decide)) ?_
      refine zt_iload_n dX8_takeWork_80 rfl ?_
      refine zt_ialoadv (v := h (t + 5) e) dX8_takeWork_81 (hT.ar 5 (by decide) (by decide)) (by decide) (by omega) (by omega) ((zupA (by omega)).trans ((zupA (by omega)).trans ((zupA (by omega)).trans rfl))) ?_
      refine zt_iconst dX8_takeWork_82 ?_
      refine zt_icmp_eq (tgt := 90) dX8_takeWork_83 (by decide) (hm.int (hT.ar 5 (by decide) (by decide)) (by omega) (by omega)) (by decide) (fun c_83 => ?_) (fun c_83 => ?_)
      · refine zt_iconst dX8_takeWork_90 ?_
        refine zt_istore_6 dX8_takeWork_91 (by decide) rfl ?_
        refine zt_iload dX8_takeWork_93 rfl ?_
        refine zt_if_eq (tgt := 136) dX8_takeWork_95 (by decide) (by decide) (fun c_95 => ?_) (fun q => absurd q (by decide))
        exact zt_vret dX8_takeWork_136 ⟨rfl, rfl, rfl, by unfold tWork; (repeat' split) <;> first | rfl | (exfalso; omega)⟩
      · refine zt_iconst dX8_takeWork_86 ?_
        refine zt_goto (tgt := 91) dX8_takeWork_87 (by decide) ?_
        refine zt_istore_6 dX8_takeWork_91 (by decide) rfl ?_
        refine zt_iload dX8_takeWork_93 rfl ?_
        refine zt_if_eq (tgt := 136) dX8_takeWork_95 (by decide) (by decide) (fun q => absurd q (by decide)) (fun c_95 => ?_)
        refine zt_aload_n dX8_takeWork_98 rfl ?_
        refine zt_getv (v := t + 4) dX8_takeWork_99 fl_X8_39 hT.sh ((((hT.up (by omega)).up (by omega)).up (by omega)).rf 4 (by decide) (by decide)) ?_
        refine zt_iload_n dX8_takeWork_102 rfl ?_
        refine zt_ialoadv (v := v) dX8_takeWork_103 (hT.ar 4 (by decide) (by decide)) (by decide) (by omega) (by omega) zupE ?_
        refine zt_aload_n dX8_takeWork_104 rfl ?_
        refine zt_getv (v := t + 7) dX8_takeWork_105 fl_X8_48 hT.sh ((((hT.up (by omega)).up (by omega)).up (by omega)).rf 7 (by decide) (by decide)) ?_
        refine zt_iload_n dX8_takeWork_108 rfl ?_
        refine zt_ialoadv (v := h (t + 7) e) dX8_takeWork_109 (hT.ar 7 (by decide) (by decide)) (by decide) (by omega) (by omega) ((zupA (by omega)).trans ((zupA (by omega)).trans ((zupA (by omega)).trans rfl))) ?_
        refine zt_icmp_ne (tgt := 136) dX8_takeWork_110 (by decide) (by omega) (hm.int (hT.ar 7 (by decide) (by decide)) (by omega) (by omega)) (fun c_110 => ?_) (fun c_110 => ?_)
        · exact zt_vret dX8_takeWork_136 ⟨rfl, rfl, rfl, by unfold tWork; (repeat' split) <;> first | rfl | (exfalso; omega)⟩
        · refine zt_aload_n dX8_takeWork_113 rfl ?_
          refine zt_getv (v := t + 3) dX8_takeWork_114 fl_X8_36 hT.sh ((((hT.up (by omega)).up (by omega)).up (by omega)).rf 3 (by decide) (by decide)) ?_
          refine zt_iload_n dX8_takeWork_117 rfl ?_
          refine zt_ialoadv (v := b) dX8_takeWork_118 (hT.ar 3 (by decide) (by decide)) (by decide) (by omega) (by omega) ((zupA (by omega)).trans zupE) ?_
          refine zt_aload_n dX8_takeWork_119 rfl ?_
          refine zt_getv (v := t + 6) dX8_takeWork_120 fl_X8_45 hT.sh ((((hT.up (by omega)).up (by omega)).up (by omega)).rf 6 (by decide) (by decide)) ?_
          refine zt_iload_n dX8_takeWork_123 rfl ?_
          refine zt_ialoadv (v := h (t + 6) e) dX8_takeWork_124 (hT.ar 6 (by decide) (by decide)) (by decide) (by omega) (by omega) ((zupA (by omega)).trans ((zupA (by omega)).trans ((zupA (by omega)).trans rfl))) ?_
          refine zt_icmp_eq (tgt := 136) dX8_takeWork_125 (by decide) (by omega) (hm.int (hT.ar 6 (by decide) (by decide)) (by omega) (by omega)) (fun c_125 => ?_) (fun c_125 => ?_)
          · exact zt_vret dX8_takeWork_136 ⟨rfl, rfl, rfl, by unfold tWork; (repeat' split) <;> first | rfl | (exfalso; omega)⟩
          · refine zt_aload_n dX8_takeWork_128 rfl ?_
            refine zt_getv (v := t + 8) dX8_takeWork_129 fl_X8_51 hT.sh ((((hT.up (by omega)).up (by omega)).up (by omega)).rf 8 (by decide) (by decide)) ?_
            refine zt_iload_n dX8_takeWork_132 rfl ?_
            refine zt_iload dX8_takeWork_133 rfl ?_
            refine zt_iastore dX8_takeWork_135 (hT.ar 8 (by decide) (by decide)) (by decide) (by omega) (by omega) (by omega) ?_
            exact zt_vret dX8_takeWork_136 ⟨rfl, rfl, rfl, by unfold tWork; (repeat' split) <;> first | rfl | (exfalso; omega)⟩
    · refine zt_aload_n dX8_takeWork_19 rfl ?_
      refine zt_getv (v := t + 2) dX8_takeWork_20 fl_X8_33 hT.sh (hT.rf 2 (by decide) (by decide)) ?_
      refine zt_iload_n dX8_takeWork_23 rfl ?_
      refine zt_iaload dX8_takeWork_24 (hT.ar 2 (by decide) (by decide)) (by decide) (by omega) (by omega) ?_
      refine zt_iload_n dX8_takeWork_25 rfl ?_
      refine zt_icmp_ne (tgt := 54) dX8_takeWork_26 (by decide) (hm.int (hT.ar 2 (by decide) (by decide)) (by omega) (by omega)) (by omega) (fun c_26 => ?_) (fun c_26 => ?_)
      · refine zt_aload_n dX8_takeWork_54 rfl ?_
        refine zt_getv (v := t + 5) dX8_takeWork_55 fl_X8_42 hT.sh (hT.rf 5 (by decide) (by decide)) ?_
        refine zt_iload_n dX8_takeWork_58 rfl ?_
        refine zt_iload_n dX8_takeWork_59 rfl ?_
        refine zt_iastore dX8_takeWork_60 (hT.ar 5 (by decide) (by decide)) (by decide) (by omega) (by omega) (by omega) ?_
        refine zt_aload_n dX8_takeWork_61 rfl ?_
        refine zt_getv (v := t + 6) dX8_takeWork_62 fl_X8_45 hT.sh ((hT.up (by omega)).rf 6 (by decide) (by decide)) ?_
        refine zt_iload_n dX8_takeWork_65 rfl ?_
        refine zt_iload_n dX8_takeWork_66 rfl ?_
        refine zt_iastore dX8_takeWork_67 (hT.ar 6 (by decide) (by decide)) (by decide) (by omega) (by omega) (by omega) ?_
        refine zt_aload_n dX8_takeWork_68 rfl ?_
        refine zt_getv (v := t + 7) dX8_takeWork_69 fl_X8_48 hT.sh (((hT.up (by omega)).up (by omega)).rf 7 (by decide) (by decide)) ?_
        refine zt_iload_n dX8_takeWork_72 rfl ?_
        refine zt_iload dX8_takeWork_73 rfl ?_
        refine zt_iastore dX8_takeWork_75 (hT.ar 7 (by decide) (by decide)) (by decide) (by omega) (by omega) (by omega) ?_
        refine zt_aload_n dX8_takeWork_76 rfl ?_
        refine zt_getv (v := t + 5) dX8_takeWork_77 fl_X8_42 hT.sh ((((hT.up (by omega)).up (by omega)).up (by omega)).rf 5 (by decide) (by decide)) ?_
        refine zt_iload_n dX8_takeWork_80 rfl ?_
        refine zt_ialoadv (v := w) dX8_takeWork_81 (hT.ar 5 (by decide) (by decide)) (by decide) (by omega) (by omega) ((zupA (by omega)).trans ((zupA (by omega)).trans zupE)) ?_
        refine zt_iconst dX8_takeWork_82 ?_
        refine zt_icmp_eq (tgt := 90) dX8_takeWork_83 (by decide) (by omega) (by decide) (fun c_83 => ?_) (fun c_83 => ?_)
        · refine zt_iconst dX8_takeWork_90 ?_
          refine zt_istore_6 dX8_takeWork_91 (by decide) rfl ?_
          refine zt_iload dX8_takeWork_93 rfl ?_
          refine zt_if_eq (tgt := 136) dX8_takeWork_95 (by decide) (by decide) (fun c_95 => ?_) (fun q => absurd q (by decide))
          exact zt_vret dX8_takeWork_136 ⟨rfl, rfl, rfl, by unfold tWork; (repeat' split) <;> first | rfl | (exfalso; omega)⟩
        · refine zt_iconst dX8_takeWork_86 ?_
          refine zt_goto (tgt := 91) dX8_takeWork_87 (by decide) ?_
          refine zt_istore_6 dX8_takeWork_91 (by decide) rfl ?_
          refine zt_iload dX8_takeWork_93 rfl ?_
          refine zt_if_eq (tgt := 136) dX8_takeWork_95 (by decide) (by decide) (fun q => absurd q (by decide)) (fun c_95 => ?_)
          refine zt_aload_n dX8_takeWork_98 rfl ?_
          refine zt_getv (v := t + 4) dX8_takeWork_99 fl_X8_39 hT.sh ((((hT.up (by omega)).up (by omega)).up (by omega)).rf 4 (by decide) (by decide)) ?_
          refine zt_iload_n dX8_takeWork_102 rfl ?_
          refine zt_ialoadv (v := h (t + 4) e) dX8_takeWork_103 (hT.ar 4 (by decide) (by decide)) (by decide) (by omega) (by omega) ((zupA (by omega)).trans ((zupA (by omega)).trans ((zupA (by omega)).trans rfl))) ?_
          refine zt_aload_n dX8_takeWork_104 rfl ?_
          refine zt_getv (v := t + 7) dX8_takeWork_105 fl_X8_48 hT.sh ((((hT.up (by omega)).up (by omega)).up (by omega)).rf 7 (by decide) (by decide)) ?_
          refine zt_iload_n dX8_takeWork_108 rfl ?_
          refine zt_ialoadv (v := v) dX8_takeWork_109 (hT.ar 7 (by decide) (by decide)) (by decide) (by omega) (by omega) zupE ?_
          refine zt_icmp_ne (tgt := 136) dX8_takeWork_110 (by decide) (hm.int (hT.ar 4 (by decide) (by decide)) (by omega) (by omega)) (by omega) (fun c_110 => ?_) (fun c_110 => ?_)
          · exact zt_vret dX8_takeWork_136 ⟨rfl, rfl, rfl, by unfold tWork; (repeat' split) <;> first | rfl | (exfalso; omega)⟩
          · refine zt_aload_n dX8_takeWork_113 rfl ?_
            refine zt_getv (v := t + 3) dX8_takeWork_114 fl_X8_36 hT.sh ((((hT.up (by omega)).up (by omega)).up (by omega)).rf 3 (by decide) (by decide)) ?_
            refine zt_iload_n dX8_takeWork_117 rfl ?_
            refine zt_ialoadv (v := h (t + 3) e) dX8_takeWork_118 (hT.ar 3 (by decide) (by decide)) (by decide) (by omega) (by omega) ((zupA (by omega)).trans ((zupA (by omega)).trans ((zupA (by omega)).trans rfl))) ?_
            refine zt_aload_n dX8_takeWork_119 rfl ?_
            refine zt_getv (v := t + 6) dX8_takeWork_120 fl_X8_45 hT.sh ((((hT.up (by omega)).up (by omega)).up (by omega)).rf 6 (by decide) (by decide)) ?_
            refine zt_iload_n dX8_takeWork_123 rfl ?_
            refine zt_ialoadv (v := b) dX8_takeWork_124 (hT.ar 6 (by decide) (by decide)) (by decide) (by omega) (by omega) ((zupA (by omega)).trans zupE) ?_
            refine zt_icmp_eq (tgt := 136) dX8_takeWork_125 (by decide) (hm.int (hT.ar 3 (by decide) (by decide)) (by omega) (by omega)) (by omega) (fun c_125 => ?_) (fun c_125 => ?_)
            · exact zt_vret dX8_takeWork_136 ⟨rfl, rfl, rfl, by unfold tWork; (repeat' split) <;> first | rfl | (exfalso; omega)⟩
            · refine zt_aload_n dX8_takeWork_128 rfl ?_
              refine zt_getv (v := t + 8) dX8_takeWork_129 fl_X8_51 hT.sh ((((hT.up (by omega)).up (by omega)).up (by omega)).rf 8 (by decide) (by decide)) ?_
              refine zt_iload_n dX8_takeWork_132 rfl ?_
              refine zt_iload dX8_takeWork_133 rfl ?_
              refine zt_iastore dX8_takeWork_135 (hT.ar 8 (by decide) (by decide)) (by decide) (by omega) (by omega) (by omega) ?_
              exact zt_vret dX8_takeWork_136 ⟨rfl, rfl, rfl, by unfold tWork; (repeat' split) <;> first | rfl | (exfalso; omega)⟩
      · refine zt_aload_n dX8_takeWork_29 rfl ?_
        refine zt_getv (v := t + 2) dX8_takeWork_30 fl_X8_33 hT.sh (hT.rf 2 (by decide) (by decide)) ?_
        refine zt_iload_n dX8_takeWork_33 rfl ?_
        refine zt_iload_n dX8_takeWork_34 rfl ?_
        refine zt_iastore dX8_takeWork_35 (hT.ar 2 (by decide) (by decide)) (by decide) (by omega) (by omega) (by omega) ?_
        refine zt_aload_n dX8_takeWork_36 rfl ?_
        refine zt_getv (v := t + 3) dX8_takeWork_37 fl_X8_36 hT.sh ((hT.up (by omega)).rf 3 (by decide) (by decide)) ?_
        refine zt_iload_n dX8_takeWork_40 rfl ?_
        refine zt_iload_n dX8_takeWork_41 rfl ?_
        refine zt_iastore dX8_takeWork_42 (hT.ar 3 (by decide) (by decide)) (by decide) (by omega) (by omega) (by omega) ?_
        refine zt_aload_n dX8_takeWork_43 rfl ?_
        refine zt_getv (v := t + 4) dX8_takeWork_44 fl_X8_39 hT.sh (((hT.up (by omega)).up (by omega)).rf 4 (by decide) (by decide)) ?_
        refine zt_iload_n dX8_takeWork_47 rfl ?_
        refine zt_iload dX8_takeWork_48 rfl ?_
        refine zt_iastore dX8_takeWork_50 (hT.ar 4 (by decide) (by decide)) (by decide) (by omega) (by omega) (by omega) ?_
        refine zt_goto (tgt := 76) dX8_takeWork_51 (by decide) ?_
        refine zt_aload_n dX8_takeWork_76 rfl ?_
        refine zt_getv (v := t + 5) dX8_takeWork_77 fl_X8_42 hT.sh ((((hT.up (by omega)).up (by omega)).up (by omega)).rf 5 (by decide) (by decide)) ?_
        refine zt_iload_n dX8_takeWork_80 rfl ?_
        refine zt_ialoadv (v := h (t + 5) e) dX8_takeWork_81 (hT.ar 5 (by decide) (by decide)) (by decide) (by omega) (by omega) ((zupA (by omega)).trans ((zupA (by omega)).trans ((zupA (by omega)).trans rfl))) ?_
        refine zt_iconst dX8_takeWork_82 ?_
        refine zt_icmp_eq (tgt := 90) dX8_takeWork_83 (by decide) (hm.int (hT.ar 5 (by decide) (by decide)) (by omega) (by omega)) (by decide) (fun c_83 => ?_) (fun c_83 => ?_)
        · refine zt_iconst dX8_takeWork_90 ?_
          refine zt_istore_6 dX8_takeWork_91 (by decide) rfl ?_
          refine zt_iload dX8_takeWork_93 rfl ?_
          refine zt_if_eq (tgt := 136) dX8_takeWork_95 (by decide) (by decide) (fun c_95 => ?_) (fun q => absurd q (by decide))
          exact zt_vret dX8_takeWork_136 ⟨rfl, rfl, rfl, by unfold tWork; (repeat' split) <;> first | rfl | (exfalso; omega)⟩
        · refine zt_iconst dX8_takeWork_86 ?_
          refine zt_goto (tgt := 91) dX8_takeWork_87 (by decide) ?_
          refine zt_istore_6 dX8_takeWork_91 (by decide) rfl ?_
          refine zt_iload dX8_takeWork_93 rfl ?_
          refine zt_if_eq (tgt := 136) dX8_takeWork_95 (by decide) (by decide) (fun q => absurd q (by decide)) (fun c_95 => ?_)
          refine zt_aload_n dX8_takeWork_98 rfl ?_
          refine zt_getv (v := t + 4) dX8_takeWork_99 fl_X8_39 hT.sh ((((hT.up (by omega)).up (by omega)).up (by omega)).rf 4 (by decide) (by decide)) ?_
          refine zt_iload_n dX8_takeWork_102 rfl ?_
          refine zt_ialoadv (v := v) dX8_takeWork_103 (hT.ar 4 (by decide) (by decide)) (by decide) (by omega) (by omega) zupE ?_
          refine zt_aload_n dX8_takeWork_104 rfl ?_
          refine zt_getv (v := t + 7) dX8_takeWork_105 fl_X8_48 hT.sh ((((hT.up (by omega)).up (by omega)).up (by omega)).rf 7 (by decide) (by decide)) ?_
          refine zt_iload_n dX8_takeWork_108 rfl ?_
          refine zt_ialoadv (v := h (t + 7) e) dX8_takeWork_109 (hT.ar 7 (by decide) (by decide)) (by decide) (by omega) (by omega) ((zupA (by omega)).trans ((zupA (by omega)).trans ((zupA (by omega)).trans rfl))) ?_
          refine zt_icmp_ne (tgt := 136) dX8_takeWork_110 (by decide) (by omega) (hm.int (hT.ar 7 (by decide) (by decide)) (by omega) (by omega)) (fun c_110 => ?_) (fun c_110 => ?_)
          · exact zt_vret dX8_takeWork_136 ⟨rfl, rfl, rfl, by unfold tWork; (repeat' split) <;> first | rfl | (exfalso; omega)⟩
          · refine zt_aload_n dX8_takeWork_113 rfl ?_
            refine zt_getv (v := t + 3) dX8_takeWork_114 fl_X8_36 hT.sh ((((hT.up (by omega)).up (by omega)).up (by omega)).rf 3 (by decide) (by decide)) ?_
            refine zt_iload_n dX8_takeWork_117 rfl ?_
            refine zt_ialoadv (v := b) dX8_takeWork_118 (hT.ar 3 (by decide) (by decide)) (by decide) (by omega) (by omega) ((zupA (by omega)).trans zupE) ?_
            refine zt_aload_n dX8_takeWork_119 rfl ?_
            refine zt_getv (v := t + 6) dX8_takeWork_120 fl_X8_45 hT.sh ((((hT.up (by omega)).up (by omega)).up (by omega)).rf 6 (by decide) (by decide)) ?_
            refine zt_iload_n dX8_takeWork_123 rfl ?_
            refine zt_ialoadv (v := h (t + 6) e) dX8_takeWork_124 (hT.ar 6 (by decide) (by decide)) (by decide) (by omega) (by omega) ((zupA (by omega)).trans ((zupA (by omega)).trans ((zupA (by omega)).trans rfl))) ?_
            refine zt_icmp_eq (tgt := 136) dX8_takeWork_125 (by decide) (by omega) (hm.int (hT.ar 6 (by decide) (by decide)) (by omega) (by omega)) (fun c_125 => ?_) (fun c_125 => ?_)
            · exact zt_vret dX8_takeWork_136 ⟨rfl, rfl, rfl, by unfold tWork; (repeat' split) <;> first | rfl | (exfalso; omega)⟩
            · refine zt_aload_n dX8_takeWork_128 rfl ?_
              refine zt_getv (v := t + 8) dX8_takeWork_129 fl_X8_51 hT.sh ((((hT.up (by omega)).up (by omega)).up (by omega)).rf 8 (by decide) (by decide)) ?_
              refine zt_iload_n dX8_takeWork_132 rfl ?_
              refine zt_iload dX8_takeWork_133 rfl ?_
              refine zt_iastore dX8_takeWork_135 (hT.ar 8 (by decide) (by decide)) (by decide) (by omega) (by omega) (by omega) ?_
              exact zt_vret dX8_takeWork_136 ⟨rfl, rfl, rfl, by unfold tWork; (repeat' split) <;> first | rfl | (exfalso; omega)⟩
  · exfalso
    omega

/-- a digit as it is read -/
def rdg (d s : Int) : Int := if d = 3 then (if 4 ≤ s then 8 else 3) else if d = 8 then (if 7 ≤ s then 3 else 8) else if d = 1 then (if 5 ≤ s then 7 else 1) else if d = 6 then (if 6 ≤ s then 5 else 6) else d

set_option maxRecDepth 100000 in
set_option maxHeartbeats 4000000 in
theorem c_rdg {d n : Nat} {sh : zSh} {h : zMem} {x s : Int} (hx : zi32 x) (hs : zi32 s) : zF yX8_readDigit cX8_readDigit 2 (some .int) (d + 0) 0 0 [(0, x), (0, s)] n sh h (some (0, rdg x s)) n sh h := by
  refine zF.ofT (by decide +kernel) [some (0, x), some (0, s)] rfl (Nat.le_of_ble_eq_true rfl) ?_
  refine zt_iload_n dX8_readDigit_0 rfl ?_
  rcases (show x = 1 ∨ x = 2 ∨ x = 3 ∨ x = 4 ∨ x = 5 ∨ x = 6 ∨ x = 7 ∨ x = 8 ∨ (x < 1 ∨ 8 < x) by omega) with e_1 | e_1 | e_1 | e_1 | e_1 | e_1 | e_1 | e_1 | e_1
  · refine zt_tableIn (off := 72) (tgt := 73) dX8_readDigit_1 (by omega) (by omega) (by omega) (by rw [e_1]; rfl) (by decide) ?_
    refine zt_iload_n dX8_readDigit_73 rfl ?_
    refine zt_iconst dX8_readDigit_74 ?_
    refine zt_icmp_lt (tgt := 83) dX8_readDigit_75 (by decide) (by omega) (by decide) (fun c_75 => ?_) (fun c_75 => ?_)
    · refine zt_iconst dX8_readDigit_83 ?_
      exact zt_iret dX8_readDigit_84 ⟨by congr 2; unfold rdg; (repeat' split) <;> omega, rfl, rfl, rfl⟩
    · refine zt_bipush dX8_readDigit_78 (by decide) ?_
      refine zt_goto (tgt := 84) dX8_readDigit_80 (by decide) ?_
      exact zt_iret dX8_readDigit_84 ⟨by congr 2; unfold rdg; (repeat' split) <;> omega, rfl, rfl, rfl⟩
  · refine zt_tableIn (off := 97) (tgt := 98) dX8_readDigit_1 (by omega) (by omega) (by omega) (by rw [e_1]; rfl) (by decide) ?_
    refine zt_iload_n dX8_readDigit_98 rfl ?_
    exact zt_iret dX8_readDigit_99 ⟨by congr 2; unfold rdg; (repeat' split) <;> omega, rfl, rfl, rfl⟩
  · refine zt_tableIn (off := 47) (tgt := 48) dX8_readDigit_1 (by omega) (by omega) (by omega) (by rw [e_1]; rfl) (by decide) ?_
    refine zt_iload_n dX8_readDigit_48 rfl ?_
    refine zt_iconst dX8_readDigit_49 ?_
    refine zt_icmp_lt (tgt := 58) dX8_readDigit_50 (by decide) (by omega) (by decide) (fun c_50 => ?_) (fun c_50 => ?_)
    · refine zt_iconst dX8_readDigit_58 ?_
      exact zt_iret dX8_readDigit_59 ⟨by congr 2; unfold rdg; (repeat' split) <;> omega, rfl, rfl, rfl⟩
    · refine zt_bipush dX8_readDigit_53 (by decide) ?_
      refine zt_goto (tgt := 59) dX8_readDigit_55 (by decide) ?_
      exact zt_iret dX8_readDigit_59 ⟨by congr 2; unfold rdg; (repeat' split) <;> omega, rfl, rfl, rfl⟩
  · refine zt_tableIn (off := 97) (tgt := 98) dX8_readDigit_1 (by omega) (by omega) (by omega) (by rw [e_1]; rfl) (by decide) ?_
    refine zt_iload_n dX8_readDigit_98 rfl ?_
    exact zt_iret dX8_readDigit_99 ⟨by congr 2; unfold rdg; (repeat' split) <;> omega, rfl, rfl, rfl⟩
  · refine zt_tableIn (off := 97) (tgt := 98) dX8_readDigit_1 (by omega) (by omega) (by omega) (by rw [e_1]; rfl) (by decide) ?_
    refine zt_iload_n dX8_readDigit_98 rfl ?_
    exact zt_iret dX8_readDigit_99 ⟨by congr 2; unfold rdg; (repeat' split) <;> omega, rfl, rfl, rfl⟩
  · refine zt_tableIn (off := 84) (tgt := 85) dX8_readDigit_1 (by omega) (by omega) (by omega) (by rw [e_1]; rfl) (by decide) ?_
    refine zt_iload_n dX8_readDigit_85 rfl ?_
    refine zt_bipush dX8_readDigit_86 (by decide) ?_
    refine zt_icmp_lt (tgt := 95) dX8_readDigit_88 (by decide) (by omega) (by decide) (fun c_88 => ?_) (fun c_88 => ?_)
    · refine zt_bipush dX8_readDigit_95 (by decide) ?_
      exact zt_iret dX8_readDigit_97 ⟨by congr 2; unfold rdg; (repeat' split) <;> omega, rfl, rfl, rfl⟩
    · refine zt_iconst dX8_readDigit_91 ?_
      refine zt_goto (tgt := 97) dX8_readDigit_92 (by decide) ?_
      exact zt_iret dX8_readDigit_97 ⟨by congr 2; unfold rdg; (repeat' split) <;> omega, rfl, rfl, rfl⟩
  · refine zt_tableIn (off := 97) (tgt := 98) dX8_readDigit_1 (by omega) (by omega) (by omega) (by rw [e_1]; rfl) (by decide) ?_
    refine zt_iload_n dX8_readDigit_98 rfl ?_
    exact zt_iret dX8_readDigit_99 ⟨by congr 2; unfold rdg; (repeat' split) <;> omega, rfl, rfl, rfl⟩
  · refine zt_tableIn (off := 59) (tgt := 60) dX8_readDigit_1 (by omega) (by omega) (by omega) (by rw [e_1]; rfl) (by decide) ?_
    refine zt_iload_n dX8_readDigit_60 rfl ?_
    refine zt_bipush dX8_readDigit_61 (by decide) ?_
    refine zt_icmp_lt (tgt := 70) dX8_readDigit_63 (by decide) (by omega) (by decide) (fun c_63 => ?_) (fun c_63 => ?_)
    · refine zt_bipush dX8_readDigit_70 (by decide) ?_
      exact zt_iret dX8_readDigit_72 ⟨by congr 2; unfold rdg; (repeat' split) <;> omega, rfl, rfl, rfl⟩
    · refine zt_iconst dX8_readDigit_66 ?_
      refine zt_goto (tgt := 72) dX8_readDigit_67 (by decide) ?_
      exact zt_iret dX8_readDigit_72 ⟨by congr 2; unfold rdg; (repeat' split) <;> omega, rfl, rfl, rfl⟩
  · refine zt_tableOut (tgt := 98) dX8_readDigit_1 (by omega) e_1 (by decide) ?_
    refine zt_iload_n dX8_readDigit_98 rfl ?_
    exact zt_iret dX8_readDigit_99 ⟨by congr 2; unfold rdg; (repeat' split) <;> omega, rfl, rfl, rfl⟩

def zbn (n k : Nat) : Nat → Nat
  | 0 => 1
  | i + 1 => zbn n k i * (n - k + (i + 1)) / (i + 1)
theorem zbn_ok : ∀ n, n < 31 → ∀ k, k < 31 → ∀ i, i < 31 → k ≤ n → i ≤ k → zbn n k i ≤ 200000000 := by decide +kernel
theorem zbn_pow : ∀ n, n < 31 → ∀ k, k < 31 → k ≤ n → zbn n k k ≤ 2 ^ n := by decide +kernel
def zbi (a s : Int) : Int := if s < 0 ∨ a < s then 0 else (zbn a.toNat s.toNat s.toNat : Int)
theorem zbi_le {a s : Int} (ha : 0 ≤ a ∧ a ≤ 30) : 0 ≤ zbi a s ∧ zbi a s ≤ 2 ^ a.toNat := by
  unfold zbi
  split
  · exact ⟨by omega, Int.le_of_lt (Int.pow_pos (by omega))⟩
  · refine ⟨by omega, ?_⟩
    have := zbn_pow a.toNat (by omega) s.toNat (by omega) (by omega)
    exact_mod_cast this

theorem zbn_rng {a s i v : Int} (ha : 0 ≤ a ∧ a ≤ 30) (hs : 0 ≤ s ∧ s ≤ a) (hi : 1 ≤ i ∧ i ≤ s) (hv : v = (zbn a.toNat s.toNat (i - 1).toNat : Int)) : zi64 (v * (a - s + i)) := by
  have h1 := zbn_ok a.toNat (by omega) s.toNat (by omega) (i - 1).toNat (by omega) (by omega) (by omega)
  have h2 : 0 ≤ v ∧ v ≤ 200000000 := by omega
  have h3 : 0 ≤ v * (a - s + i) := Int.mul_nonneg h2.1 (by omega)
  have h4 : v * (a - s + i) ≤ 200000000 * 30 := Int.mul_le_mul h2.2 (by omega) (by omega) (by omega)
  omega
theorem zbn_step {a s i v : Int} (ha : 0 ≤ a ∧ a ≤ 30) (hs : 0 ≤ s ∧ s ≤ a) (hi : 1 ≤ i ∧ i ≤ s) (hv : v = (zbn a.toNat s.toNat (i - 1).toNat : Int)) : Int.tdiv (v * (a - s + i)) i = (zbn a.toNat s.toNat (i + 1 - 1).toNat : Int) := by
  obtain ⟨q, rfl⟩ : ∃ q : Nat, i = q + 1 := ⟨(i - 1).toNat, by omega⟩
  rw [show ((q : Int) + 1 - 1).toNat = q by omega] at hv
  rw [show ((q : Int) + 1 + 1 - 1).toNat = q + 1 by omega, hv]
  show _ = ((zbn a.toNat s.toNat q * (a.toNat - s.toNat + (q + 1)) / (q + 1) : Nat) : Int)
  rw [Int.tdiv_eq_ediv_of_nonneg (Int.mul_nonneg (by omega) (by omega)), Int.natCast_ediv, Int.natCast_mul]
  congr 2
  omega

set_option maxRecDepth 100000 in
set_option maxHeartbeats 4000000 in
theorem l_heaps {d n : Nat} {sh : zSh} {h : zMem} {a s : Int} (ha : 0 ≤ a ∧ a ≤ 30) (hs0 : 0 ≤ s ∧ s ≤ a) : ∀ (k : Nat) (i : Int) (v : Int), s + 1 - i < (k : Int) → 1 ≤ i → i ≤ s + 1 → v = (zbn a.toNat s.toNat (i - 1).toNat : Int) → zT yX8_heapsOf cX8_heapsOf 5 (some .long) (d + 0) 0 0 (zq (some (1, zbi a s)) n sh h) 16 [some (0, a), some (0, s), some (1, v), none, some (0, i)] [] n sh h := by
  intro k
  induction k with
  | zero => intros; exfalso; omega
  | succ k ih =>
    intro i v hk h0 h1 hv
    refine zt_iload dX8_heapsOf_16 rfl ?_
    refine zt_iload_n dX8_heapsOf_18 rfl ?_
    refine zt_icmp_gt (tgt := 42) dX8_heapsOf_19 (by decide) (by omega) (by omega) (fun c_19 => ?_) (fun c_19 => ?_)
    · refine zt_lload_n dX8_heapsOf_42 rfl ?_
      exact zt_lret dX8_heapsOf_43 ⟨by rw [hv]; congr 2; unfold zbi; rw [if_neg (by omega)]; congr 2; omega, rfl, rfl, rfl⟩
    · refine zt_lload_n dX8_heapsOf_22 rfl ?_
      refine zt_iload_n dX8_heapsOf_23 rfl ?_
      refine zt_iload_n dX8_heapsOf_24 rfl ?_
      refine zt_isub dX8_heapsOf_25 ?_
      refine zt_iload dX8_heapsOf_26 rfl ?_
      refine zt_iadd dX8_heapsOf_28 ?_
      refine zt_i2l dX8_heapsOf_29 (by omega) ?_
      refine zt_lmul dX8_heapsOf_30 ?_
      refine zt_iload dX8_heapsOf_31 rfl ?_
      refine zt_i2l dX8_heapsOf_33 (by omega) ?_
      refine zt_ldiv dX8_heapsOf_34 (zbn_rng ha hs0 (by omega) hv) (by omega) (by omega) ?_
      refine zt_lstore_n_2 dX8_heapsOf_35 (by decide) rfl ?_
      refine zt_iinc_4 dX8_heapsOf_36 (by decide) rfl ?_
      refine zt_goto (tgt := 16) dX8_heapsOf_39 (by decide) ?_
      exact ih (i + 1) _ (by omega) (by omega) (by omega) (zbn_step ha hs0 (by omega) hv)

set_option maxRecDepth 100000 in
set_option maxHeartbeats 4000000 in
theorem c_heaps {d n : Nat} {sh : zSh} {h : zMem} {a s : Int} (ha : 0 ≤ a ∧ a ≤ 30) (hs : zi32 s) : zF yX8_heapsOf cX8_heapsOf 5 (some .long) (d + 0) 0 0 [(0, a), (0, s)] n sh h (some (1, zbi a s)) n sh h := by
  refine zF.ofT (by decide +kernel) [some (0, a), some (0, s), none, none, none] rfl (Nat.le_of_ble_eq_true rfl) ?_
  refine zt_iload_n dX8_heapsOf_0 rfl ?_
  refine zt_if_lt (tgt := 9) dX8_heapsOf_1 (by decide) (by omega) (fun c_1 => ?_) (fun c_1 => ?_)
  · refine zt_lconst (v := 0) dX8_heapsOf_9 rfl ?_
    exact zt_lret dX8_heapsOf_10 ⟨by congr 2; unfold zbi; rw [if_pos (by omega)], rfl, rfl, rfl⟩
  · refine zt_iload_n dX8_heapsOf_4 rfl ?_
    refine zt_iload_n dX8_heapsOf_5 rfl ?_
    refine zt_icmp_le (tgt := 11) dX8_heapsOf_6 (by decide) (by omega) (by omega) (fun c_6 => ?_) (fun c_6 => ?_)
    · refine zt_lconst (v := 1) dX8_heapsOf_11 rfl ?_
      refine zt_lstore_n_2 dX8_heapsOf_12 (by decide) rfl ?_
      refine zt_iconst dX8_heapsOf_13 ?_
      refine zt_istore_4 dX8_heapsOf_14 (by decide) rfl ?_
      exact l_heaps ha (by omega) 32 1 1 (by omega) (by omega) (by omega) rfl
    · refine zt_lconst (v := 0) dX8_heapsOf_9 rfl ?_
      exact zt_lret dX8_heapsOf_10 ⟨by congr 2; unfold zbi; rw [if_pos (by omega)], rfl, rfl, rfl⟩

/-- a number of k digits as it is read -/
def rdn (w s : Int) : Nat → Int
  | 0 => 0
  | k + 1 => rdg (w % 10) s + 10 * rdn (w / 10) s k
def tRd (h : zMem) (t e : Int) : Int := if (0 ≤ e ∧ e < h t 0) ∧ h (t + 8) e ≠ -1 then (if h (t + 4) e < 0 then -rdn (zabs (h (t + 4) e)) (h (t + 9) e) 9 else rdn (zabs (h (t + 4) e)) (h (t + 9) e) 9) else -2147483648
theorem rdg_r {d s : Int} (h : 0 ≤ d ∧ d ≤ 9) : 0 ≤ rdg d s ∧ rdg d s ≤ 9 := by unfold rdg; (repeat' split) <;> omega
theorem rdn_r {s : Int} : ∀ (k : Nat) (w : Int), 0 ≤ w → 0 ≤ rdn w s k ∧ rdn w s k ≤ ztenN k - 1
  | 0, w, _ => by show 0 ≤ (0 : Int) ∧ (0 : Int) ≤ 1 - 1; omega
  | k + 1, w, hw => by
    have h1 := rdg_r (d := w % 10) (s := s) (by omega)
    have h2 := rdn_r (s := s) k (w / 10) (by omega)
    show 0 ≤ rdg (w % 10) s + 10 * rdn (w / 10) s k ∧ rdg (w % 10) s + 10 * rdn (w / 10) s k ≤ ztenN k * 10 - 1
    omega

theorem rdn_step {w v s i : Int} (hi : 0 ≤ i ∧ i < 9) : v + zten i * rdn w s (9 - i).toNat = v + rdg (w % 10) s * zten i + zten (i + 1) * rdn (w / 10) s (9 - (i + 1)).toNat := by
  rw [show (9 - i).toNat = (9 - (i + 1)).toNat + 1 by omega, zten_s hi.1]
  show v + zten i * (rdg (w % 10) s + 10 * rdn (w / 10) s (9 - (i + 1)).toNat) = _
  rw [Int.mul_add, Int.mul_comm (zten i) (rdg _ _), Int.mul_assoc, Int.add_assoc]

set_option maxRecDepth 100000 in
set_option maxHeartbeats 4000000 in
theorem l_read {d n : Nat} {sh : zSh} {h : zMem} {t e : Int} (hT : zTab sh h t) (hm : zMok sh h) (hE : 4 ≤ h t 0 ∧ h t 0 ≤ 30) (ha : (0 ≤ e ∧ e < h t 0) ∧ h (t + 8) e ≠ -1) : ∀ (k : Nat) (i : Int) (w : Int) (v : Int), 9 - i < (k : Int) → 0 ≤ i → i ≤ 9 → 0 ≤ w ∧ w ≤ 2147483647 → rdn (zabs (h (t + 4) e)) (h (t + 9) e) 9 = v + zten i * rdn w (h (t + 9) e) (9 - i).toNat → zT yX8_readable cX8_readable 5 (some .int) (d + 2) 0 0 (zq (some (0, tRd h t e)) n sh h) 26 [some (2, t), some (0, e), some (0, w), some (0, v), some (0, i)] [] n sh h := by
  intro k
  induction k with
  | zero => intros; exfalso; omega
  | succ k ih =>
    intro i w v hk h0 h1 hw hr
    refine zt_iload dX8_readable_26 rfl ?_
    refine zt_bipush dX8_readable_28 (by decide) ?_
    refine zt_icmp_ge (tgt := 66) dX8_readable_30 (by decide) (by omega) (by decide) (fun c_30 => ?_) (fun c_30 => ?_)
    · refine zt_aload_n dX8_readable_66 rfl ?_
      refine zt_getv (v := t + 4) dX8_readable_67 fl_X8_39 hT.sh (hT.rf 4 (by decide) (by decide)) ?_
      refine zt_iload_n dX8_readable_70 rfl ?_
      refine zt_iaload dX8_readable_71 (hT.ar 4 (by decide) (by decide)) (by decide) (by omega) (by omega) ?_
      refine zt_if_ge (tgt := 80) dX8_readable_72 (by decide) (hm.int (hT.ar 4 (by decide) (by decide)) (by omega) (by omega)) (fun c_72 => ?_) (fun c_72 => ?_)
      · refine zt_iload_n dX8_readable_80 rfl ?_
        exact zt_iret dX8_readable_81 ⟨by unfold tRd; rw [if_pos (by omega)]; first | (rw [if_pos (by omega), hr, show (9 - i).toNat = 0 by omega]; show some (0, -v) = some (0, -(v + _ * 0)); rw [Int.mul_zero, Int.add_zero]) | (rw [if_neg (by omega), hr, show (9 - i).toNat = 0 by omega]; show some (0, v) = some (0, v + _ * 0); rw [Int.mul_zero, Int.add_zero]), rfl, rfl, rfl⟩
      · refine zt_iload_n dX8_readable_75 rfl ?_
        refine zt_ineg dX8_readable_76 ?_
        refine zt_goto (tgt := 81) dX8_readable_77 (by decide) ?_
        exact zt_iret dX8_readable_81 ⟨by unfold tRd; rw [if_pos (by omega)]; first | (rw [if_pos (by omega), hr, show (9 - i).toNat = 0 by omega]; show some (0, -v) = some (0, -(v + _ * 0)); rw [Int.mul_zero, Int.add_zero]) | (rw [if_neg (by omega), hr, show (9 - i).toNat = 0 by omega]; show some (0, v) = some (0, v + _ * 0); rw [Int.mul_zero, Int.add_zero]), rfl, rfl, rfl⟩
    · refine zt_iload_n dX8_readable_33 rfl ?_
      refine zt_iload_n dX8_readable_34 rfl ?_
      refine zt_bipush dX8_readable_35 (by decide) ?_
      refine zt_irem dX8_readable_37 (by omega) (by decide) (by decide) ?_
      refine zt_topv (ztm_p (by decide) (by omega)).1 ?_
      refine zt_aload_n dX8_readable_38 rfl ?_
      refine zt_getv (v := t + 9) dX8_readable_39 fl_X8_54 hT.sh (hT.rf 9 (by decide) (by decide)) ?_
      refine zt_iload_n dX8_readable_42 rfl ?_
      refine zt_iaload dX8_readable_43 (hT.ar 9 (by decide) (by decide)) (by decide) (by omega) (by omega) ?_
      refine zt_callS2r dX8_readable_44 ml_X8_105 (Nat.le_of_ble_eq_true rfl) (c_rdg (by omega) (hm.int (hT.ar 9 (by decide) (by decide)) (by omega) (by omega))) ?_
      refine zt_iload dX8_readable_47 rfl ?_
      refine zt_callSN1r dX8_readable_49 ml_X8_108 (Nat.le_of_ble_eq_true rfl) (c_tenTo (by omega)) ?_
      refine zt_imul dX8_readable_52 ?_
      refine zt_iadd dX8_readable_53 ?_
      refine zt_istore_n_3 dX8_readable_54 (by decide) rfl ?_
      refine zt_iload_n dX8_readable_55 rfl ?_
      refine zt_bipush dX8_readable_56 (by decide) ?_
      refine zt_idiv dX8_readable_58 (by omega) (by decide) (by decide) ?_
      refine zt_topv (ztm_p (by decide) (by omega)).2 ?_
      refine zt_istore_n_2 dX8_readable_59 (by decide) rfl ?_
      refine zt_iinc_4 dX8_readable_60 (by decide) rfl ?_
      refine zt_goto (tgt := 26) dX8_readable_63 (by decide) ?_
      exact ih (i + 1) _ _ (by omega) (by omega) (by omega) (by omega) (by rw [hr]; exact rdn_step (by omega))

set_option maxRecDepth 100000 in
set_option maxHeartbeats 4000000 in
theorem c_tread {d n : Nat} {sh : zSh} {h : zMem} {t e : Int} (hT : zTab sh h t) (he : zi32 e) (hf : tAg h t e → -999999999 ≤ h (t + 4) e ∧ h (t + 4) e ≤ 999999999) : zF yX8_readable cX8_readable 5 (some .int) (d + 2) 0 0 [(2, t), (0, e)] n sh h (some (0, tRd h t e)) n sh h := by
  refine zF.ofT (by decide +kernel) [some (2, t), some (0, e), none, none, none] rfl (Nat.le_of_ble_eq_true rfl) ?_
  have hE := hT.2.2.1
  refine zt_rg (fun hm => ?_)
  refine zt_aload_n dX8_readable_0 rfl ?_
  refine zt_iload_n dX8_readable_1 rfl ?_
  refine zt_callV1r dX8_readable_2 ml_X8_70 hT.sh (Nat.le_of_ble_eq_true rfl) (c_tag hT (by omega)) ?_
  refine zt_ifb_ne (tgt := 11) dX8_readable_5 (by decide) (fun c_5 => ?_) (fun c_5 => ?_)
  · refine zt_aload_n dX8_readable_11 rfl ?_
    refine zt_getv (v := t + 4) dX8_readable_12 fl_X8_39 hT.sh (hT.rf 4 (by decide) (by decide)) ?_
    refine zt_iload_n dX8_readable_15 rfl ?_
    refine zt_iaload dX8_readable_16 (hT.ar 4 (by decide) (by decide)) (by decide) (by omega) (by omega) ?_
    refine zt_callS1r dX8_readable_17 ml_X8_102 (Nat.le_of_ble_eq_true rfl) (c_abs (hm.int (hT.ar 4 (by decide) (by decide)) (by omega) (by omega))) ?_
    refine zt_istore_n_2 dX8_readable_20 (by decide) rfl ?_
    refine zt_iconst dX8_readable_21 ?_
    refine zt_istore_n_3 dX8_readable_22 (by decide) rfl ?_
    refine zt_iconst dX8_readable_23 ?_
    refine zt_istore_4 dX8_readable_24 (by decide) rfl ?_
    have hz := zabs_le (B := 999999999) (hf (by omega))
    exact l_read hT hm hE (by omega) 10 0 _ _ (by omega) (by omega) (by omega) (by omega) (by rw [show zten 0 = 1 from rfl, Int.one_mul, Int.zero_add]; rfl)
  · refine zt_ldc dX8_readable_8 kc_X8_24 ?_
    exact zt_iret dX8_readable_10 ⟨by congr 2; unfold tRd; rw [if_neg (by omega)], rfl, rfl, rfl⟩

/-- the first i digits' steps more by one -/
def zwr (h : zMem) (a i : Int) : zMem := fun x y => if x = a ∧ 0 ≤ y ∧ y < i then h x y + 1 else h x y
theorem zwr_0 {h : zMem} {a : Int} : zwr h a 0 = h := zmem_ext (fun x y => by unfold zwr; rw [if_neg (by omega)])
theorem zwr_at {h : zMem} {a i : Int} : zwr h a i a i = h a i := if_neg (by omega)
theorem zwr_s {h : zMem} {a i : Int} (h0 : 0 ≤ i) : zup (zwr h a i) a i (h a i + 1) = zwr h a (i + 1) := zmem_ext (fun x y => by
  unfold zup zwr
  by_cases h1 : x = a ∧ y = i
  · rw [if_pos h1, if_pos (by omega), h1.1, h1.2]
  · rw [if_neg h1]
    by_cases h2 : x = a ∧ 0 ≤ y ∧ y < i
    · rw [if_pos h2, if_pos (by omega)]
    · rw [if_neg h2, if_neg (by omega)])
theorem zwr_ne {h : zMem} {a i x : Int} (h1 : x ≠ a) : zwr h a i x = h x := by funext y; exact if_neg (fun q => h1 q.1)
theorem zTab.wr {sh : zSh} {h : zMem} {t a i : Int} (hT : zTab sh h t) (hn : a ≠ t) : zTab sh (zwr h a i) t := by
  have e : zwr h a i t = h t := zwr_ne (fun q => hn q.symm)
  refine ⟨hT.1, hT.2.1, by rw [e]; exact hT.2.2.1, fun j h1 h2 => ?_⟩
  rw [e]; exact hT.2.2.2 j h1 h2

set_option maxRecDepth 100000 in
set_option maxHeartbeats 4000000 in
theorem l_wear {d n : Nat} {sh : zSh} {h : zMem} {t : Int} (hT : zTab sh h t) (hw : ∀ j : Int, 0 ≤ j → j < 30 → 0 ≤ h (t + 9) j ∧ h (t + 9) j ≤ 1000000) : ∀ (k : Nat) (i : Int), 30 - i < (k : Int) → 0 ≤ i → i ≤ 30 → zT yX8_wearAll cX8_wearAll 2 none (d + 0) 0 0 (zq none n sh (zwr h (t + 9) 30)) 2 [some (2, t), some (0, i)] [] n sh (zwr h (t + 9) i) := by
  intro k
  induction k with
  | zero => intros; exfalso; omega
  | succ k ih =>
    intro i hk h0 h1
    refine zt_iload_n dX8_wearAll_2 rfl ?_
    refine zt_aload_n dX8_wearAll_3 rfl ?_
    refine zt_getv (v := t + 9) dX8_wearAll_4 fl_X8_54 hT.sh ((hT.wr (by omega)).rf 9 (by decide) (by decide)) ?_
    refine zt_alenv (v := 30) dX8_wearAll_7 (hT.ar 9 (by decide) (by decide)) (by decide) (by decide) rfl ?_
    refine zt_icmp_ge (tgt := 27) dX8_wearAll_8 (by decide) (by omega) (by decide) (fun c_8 => ?_) (fun c_8 => ?_)
    · exact zt_vret dX8_wearAll_27 ⟨rfl, rfl, rfl, by rw [show i = 30 by omega]⟩
    · refine zt_aload_n dX8_wearAll_11 rfl ?_
      refine zt_getv (v := t + 9) dX8_wearAll_12 fl_X8_54 hT.sh ((hT.wr (by omega)).rf 9 (by decide) (by decide)) ?_
      refine zt_iload_n dX8_wearAll_15 rfl ?_
      refine zt_dup2 dX8_wearAll_16 (Nat.ne_of_beq_eq_false rfl) (Nat.ne_of_beq_eq_false rfl) ?_
      refine zt_ialoadv (v := h (t + 9) i) dX8_wearAll_17 (hT.ar 9 (by decide) (by decide)) (by decide) (by omega) (by omega) zwr_at ?_
      refine zt_iconst dX8_wearAll_18 ?_
      refine zt_iadd dX8_wearAll_19 ?_
      refine zt_iastore dX8_wearAll_20 (hT.ar 9 (by decide) (by decide)) (by decide) (by omega) (by omega) (by have := hw i (by omega) (by omega); omega) ?_
      refine zt_iinc_1 dX8_wearAll_21 (by decide) rfl ?_
      refine zt_goto (tgt := 2) dX8_wearAll_24 (by decide) ?_
      rw [zwr_s (by omega)]
      exact ih (i + 1) (by omega) (by omega) (by omega)

set_option maxRecDepth 100000 in
set_option maxHeartbeats 4000000 in
theorem c_wear {d n : Nat} {sh : zSh} {h : zMem} {t : Int} (hT : zTab sh h t) (hw : ∀ j : Int, 0 ≤ j → j < 30 → 0 ≤ h (t + 9) j ∧ h (t + 9) j ≤ 1000000) : zF yX8_wearAll cX8_wearAll 2 none (d + 0) 0 0 [(2, t)] n sh h none n sh (zwr h (t + 9) 30) := by
  refine zF.ofT (by decide +kernel) [some (2, t), none] rfl (Nat.le_of_ble_eq_true rfl) ?_
  refine zt_iconst dX8_wearAll_0 ?_
  refine zt_istore_n_1 dX8_wearAll_1 (by decide) rfl ?_
  have e := l_wear (d := d) (n := n) hT hw 31 0 (by omega) (by omega) (by omega)
  rw [zwr_0] at e
  exact e
