/-- a TABLE's cells, at t -/
def zTab (sh : zSh) (h : zMem) (t : Int) : Prop := 80 ≤ t ∧ sh t = (8, 14) ∧ (4 ≤ h t 0 ∧ h t 0 ≤ 30) ∧ ∀ j : Int, 1 ≤ j → j ≤ 10 → sh (t + j) = (100, 30) ∧ h t j = t + j
theorem zTab.sh {sh : zSh} {h : zMem} {t : Int} (hT : zTab sh h t) : sh t = (8, 14) := hT.2.1
theorem zTab.ar {sh : zSh} {h : zMem} {t : Int} (hT : zTab sh h t) (j : Int) (h1 : 1 ≤ j) (h2 : j ≤ 10) : sh (t + j) = (100, 30) := (hT.2.2.2 j h1 h2).1
theorem zTab.rf {sh : zSh} {h : zMem} {t : Int} (hT : zTab sh h t) (j : Int) (h1 : 1 ≤ j) (h2 : j ≤ 10) : h t j = t + j := (hT.2.2.2 j h1 h2).2
theorem zTab.up {sh : zSh} {h : zMem} {t a i z : Int} (hT : zTab sh h t) (hn : a ≠ t ∨ 10 < i) : zTab sh (zup h a i z) t := by
  have e : ∀ j, j ≤ 10 → zup h a i z t j = h t j := fun j hj => by
    rcases hn with h1 | h1
    · exact zupA (fun q => h1 q.symm)
    · exact zupJ (by omega)
  refine ⟨hT.1, hT.2.1, by rw [e 0 (by omega)]; exact hT.2.2.1, fun j h1 h2 => ?_⟩
  rw [e j h2]; exact hT.2.2.2 j h1 h2
abbrev tHas (h : zMem) (t e : Int) : Prop := 0 ≤ e ∧ e < h t 0
abbrev tAg (h : zMem) (t e : Int) : Prop := (0 ≤ e ∧ e < h t 0) ∧ h (t + 8) e ≠ -1
abbrev tFa (h : zMem) (t e : Int) : Prop := ((0 ≤ e ∧ e < h t 0) ∧ h (t + 8) e ≠ -1) ∧ h (t + 4) e ≠ h (t + 1) e
def tTr (h : zMem) (t e : Int) : Int := if 0 ≤ e ∧ e < h t 0 then h (t + 1) e else -2147483648
def tFig (h : zMem) (t e : Int) : Int := if (0 ≤ e ∧ e < h t 0) ∧ h (t + 8) e ≠ -1 then h (t + 4) e else -2147483648
def tFh (h : zMem) (t e : Int) : Int := if (0 ≤ e ∧ e < h t 0) ∧ h (t + 8) e ≠ -1 then zb (tFa h t e) else -1

set_option maxRecDepth 100000 in
set_option maxHeartbeats 4000000 in
theorem c_thas {d n : Nat} {sh : zSh} {h : zMem} {t e : Int} (hT : zTab sh h t) (he : zi32 e) : zF yX8_has cX8_has 2 (some .boolean) (d + 0) 0 0 [(2, t), (0, e)] n sh h (some (0, zb (tHas h t e))) n sh h := by
  refine zF.ofT (by decide +kernel) [some (2, t), some (0, e)] rfl (Nat.le_of_ble_eq_true rfl) ?_
  have hE := hT.2.2.1
  refine zt_rg (fun hm => ?_)
  refine zt_iload_n dX8_has_0 rfl ?_
  refine zt_if_lt (tgt := 22) dX8_has_1 (by decide) (by omega) (fun c_1 => ?_) (fun c_1 => ?_)
  · refine zt_iconst dX8_has_22 ?_
    exact zt_zret dX8_has_23 (by decide) ⟨zb0 (by omega), rfl, rfl, rfl⟩
  · refine zt_iload_n dX8_has_4 rfl ?_
    refine zt_aload_n dX8_has_5 rfl ?_
    refine zt_get dX8_has_6 fl_X8_18 hT.sh ?_
    refine zt_icmp_ge (tgt := 22) dX8_has_9 (by decide) (by omega) (hm.fld (j := 0) hT.sh (by decide) (by decide) (by decide)) (fun c_9 => ?_) (fun c_9 => ?_)
    · refine zt_iconst dX8_has_22 ?_
      exact zt_zret dX8_has_23 (by decide) ⟨zb0 (by omega), rfl, rfl, rfl⟩
    · refine zt_iload_n dX8_has_12 rfl ?_
      refine zt_bipush dX8_has_13 (by decide) ?_
      refine zt_icmp_ge (tgt := 22) dX8_has_15 (by decide) (by omega) (by decide) (fun c_15 => ?_) (fun c_15 => ?_)
      · refine zt_iconst dX8_has_22 ?_
        exact zt_zret dX8_has_23 (by decide) ⟨zb0 (by omega), rfl, rfl, rfl⟩
      · refine zt_iconst dX8_has_18 ?_
        refine zt_goto (tgt := 23) dX8_has_19 (by decide) ?_
        exact zt_zret dX8_has_23 (by decide) ⟨zb1 (by omega), rfl, rfl, rfl⟩

set_option maxRecDepth 100000 in
set_option maxHeartbeats 4000000 in
theorem c_ttr {d n : Nat} {sh : zSh} {h : zMem} {t e : Int} (hT : zTab sh h t) (he : zi32 e) : zF yX8_truthOf cX8_truthOf 2 (some .int) (d + 1) 0 0 [(2, t), (0, e)] n sh h (some (0, tTr h t e)) n sh h := by
  refine zF.ofT (by decide +kernel) [some (2, t), some (0, e)] rfl (Nat.le_of_ble_eq_true rfl) ?_
  have hE := hT.2.2.1
  refine zt_rg (fun hm => ?_)
  refine zt_aload_n dX8_truthOf_0 rfl ?_
  refine zt_iload_n dX8_truthOf_1 rfl ?_
  refine zt_callV1r dX8_truthOf_2 ml_X8_66 hT.sh (Nat.le_of_ble_eq_true rfl) (c_thas hT (by omega)) ?_
  refine zt_ifb_eq (tgt := 17) dX8_truthOf_5 (by decide) (fun c_5 => ?_) (fun c_5 => ?_)
  · refine zt_ldc dX8_truthOf_17 kc_X8_24 ?_
    exact zt_iret dX8_truthOf_19 ⟨by congr 2; unfold tTr; (repeat' split) <;> omega, rfl, rfl, rfl⟩
  · refine zt_aload_n dX8_truthOf_8 rfl ?_
    refine zt_getv (v := t + 1) dX8_truthOf_9 fl_X8_29 hT.sh (hT.rf 1 (by decide) (by decide)) ?_
    refine zt_iload_n dX8_truthOf_12 rfl ?_
    refine zt_iaload dX8_truthOf_13 (hT.ar 1 (by decide) (by decide)) (by decide) (by omega) (by omega) ?_
    refine zt_goto (tgt := 19) dX8_truthOf_14 (by decide) ?_
    exact zt_iret dX8_truthOf_19 ⟨by congr 2; unfold tTr; (repeat' split) <;> omega, rfl, rfl, rfl⟩

set_option maxRecDepth 100000 in
set_option maxHeartbeats 4000000 in
theorem c_tag {d n : Nat} {sh : zSh} {h : zMem} {t e : Int} (hT : zTab sh h t) (he : zi32 e) : zF yX8_isAgreed cX8_isAgreed 2 (some .boolean) (d + 1) 0 0 [(2, t), (0, e)] n sh h (some (0, zb (tAg h t e))) n sh h := by
  refine zF.ofT (by decide +kernel) [some (2, t), some (0, e)] rfl (Nat.le_of_ble_eq_true rfl) ?_
  have hE := hT.2.2.1
  refine zt_rg (fun hm => ?_)
  refine zt_aload_n dX8_isAgreed_0 rfl ?_
  refine zt_iload_n dX8_isAgreed_1 rfl ?_
  refine zt_callV1r dX8_isAgreed_2 ml_X8_66 hT.sh (Nat.le_of_ble_eq_true rfl) (c_thas hT (by omega)) ?_
  refine zt_ifb_eq (tgt := 22) dX8_isAgreed_5 (by decide) (fun c_5 => ?_) (fun c_5 => ?_)
  · refine zt_iconst dX8_isAgreed_22 ?_
    exact zt_zret dX8_isAgreed_23 (by decide) ⟨zb0 (by omega), rfl, rfl, rfl⟩
  · refine zt_aload_n dX8_isAgreed_8 rfl ?_
    refine zt_getv (v := t + 8) dX8_isAgreed_9 fl_X8_51 hT.sh (hT.rf 8 (by decide) (by decide)) ?_
    refine zt_iload_n dX8_isAgreed_12 rfl ?_
    refine zt_iaload dX8_isAgreed_13 (hT.ar 8 (by decide) (by decide)) (by decide) (by omega) (by omega) ?_
    refine zt_iconst dX8_isAgreed_14 ?_
    refine zt_icmp_eq (tgt := 22) dX8_isAgreed_15 (by decide) (hm.int (hT.ar 8 (by decide) (by decide)) (by omega) (by omega)) (by decide) (fun c_15 => ?_) (fun c_15 => ?_)
    · refine zt_iconst dX8_isAgreed_22 ?_
      exact zt_zret dX8_isAgreed_23 (by decide) ⟨zb0 (by omega), rfl, rfl, rfl⟩
    · refine zt_iconst dX8_isAgreed_18 ?_
      refine zt_goto (tgt := 23) dX8_isAgreed_19 (by decide) ?_
      exact zt_zret dX8_isAgreed_23 (by decide) ⟨zb1 (by omega), rfl, rfl, rfl⟩

set_option maxRecDepth 100000 in
set_option maxHeartbeats 4000000 in
theorem c_tfig {d n : Nat} {sh : zSh} {h : zMem} {t e : Int} (hT : zTab sh h t) (he : zi32 e) : zF yX8_figureOf cX8_figureOf 2 (some .int) (d + 2) 0 0 [(2, t), (0, e)] n sh h (some (0, tFig h t e)) n sh h := by
  refine zF.ofT (by decide +kernel) [some (2, t), some (0, e)] rfl (Nat.le_of_ble_eq_true rfl) ?_
  have hE := hT.2.2.1
  refine zt_rg (fun hm => ?_)
  refine zt_aload_n dX8_figureOf_0 rfl ?_
  refine zt_iload_n dX8_figureOf_1 rfl ?_
  refine zt_callV1r dX8_figureOf_2 ml_X8_70 hT.sh (Nat.le_of_ble_eq_true rfl) (c_tag hT (by omega)) ?_
  refine zt_ifb_eq (tgt := 17) dX8_figureOf_5 (by decide) (fun c_5 => ?_) (fun c_5 => ?_)
  · refine zt_ldc dX8_figureOf_17 kc_X8_24 ?_
    exact zt_iret dX8_figureOf_19 ⟨by congr 2; unfold tFig; (repeat' split) <;> omega, rfl, rfl, rfl⟩
  · refine zt_aload_n dX8_figureOf_8 rfl ?_
    refine zt_getv (v := t + 4) dX8_figureOf_9 fl_X8_39 hT.sh (hT.rf 4 (by decide) (by decide)) ?_
    refine zt_iload_n dX8_figureOf_12 rfl ?_
    refine zt_iaload dX8_figureOf_13 (hT.ar 4 (by decide) (by decide)) (by decide) (by omega) (by omega) ?_
    refine zt_goto (tgt := 19) dX8_figureOf_14 (by decide) ?_
    exact zt_iret dX8_figureOf_19 ⟨by congr 2; unfold tFig; (repeat' split) <;> omega, rfl, rfl, rfl⟩

set_option maxRecDepth 100000 in
set_option maxHeartbeats 4000000 in
theorem c_tfa {d n : Nat} {sh : zSh} {h : zMem} {t e : Int} (hT : zTab sh h t) (he : zi32 e) : zF yX8_isFalse cX8_isFalse 2 (some .boolean) (d + 2) 0 0 [(2, t), (0, e)] n sh h (some (0, zb (tFa h t e))) n sh h := by
  refine zF.ofT (by decide +kernel) [some (2, t), some (0, e)] rfl (Nat.le_of_ble_eq_true rfl) ?_
  have hE := hT.2.2.1
  refine zt_rg (fun hm => ?_)
  refine zt_aload_n dX8_isFalse_0 rfl ?_
  refine zt_iload_n dX8_isFalse_1 rfl ?_
  refine zt_callV1r dX8_isFalse_2 ml_X8_70 hT.sh (Nat.le_of_ble_eq_true rfl) (c_tag hT (by omega)) ?_
  refine zt_ifb_eq (tgt := 27) dX8_isFalse_5 (by decide) (fun c_5 => ?_) (fun c_5 => ?_)
  · refine zt_iconst dX8_isFalse_27 ?_
    exact zt_zret dX8_isFalse_28 (by decide) ⟨zb0 (by omega), rfl, rfl, rfl⟩
  · refine zt_aload_n dX8_isFalse_8 rfl ?_
    refine zt_getv (v := t + 4) dX8_isFalse_9 fl_X8_39 hT.sh (hT.rf 4 (by decide) (by decide)) ?_
    refine zt_iload_n dX8_isFalse_12 rfl ?_
    refine zt_iaload dX8_isFalse_13 (hT.ar 4 (by decide) (by decide)) (by decide) (by omega) (by omega) ?_
    refine zt_aload_n dX8_isFalse_14 rfl ?_
    refine zt_getv (v := t + 1) dX8_isFalse_15 fl_X8_29 hT.sh (hT.rf 1 (by decide) (by decide)) ?_
    refine zt_iload_n dX8_isFalse_18 rfl ?_
    refine zt_iaload dX8_isFalse_19 (hT.ar 1 (by decide) (by decide)) (by decide) (by omega) (by omega) ?_
    refine zt_icmp_eq (tgt := 27) dX8_isFalse_20 (by decide) (hm.int (hT.ar 4 (by decide) (by decide)) (by omega) (by omega)) (hm.int (hT.ar 1 (by decide) (by decide)) (by omega) (by omega)) (fun c_20 => ?_) (fun c_20 => ?_)
    · refine zt_iconst dX8_isFalse_27 ?_
      exact zt_zret dX8_isFalse_28 (by decide) ⟨zb0 (by omega), rfl, rfl, rfl⟩
    · refine zt_iconst dX8_isFalse_23 ?_
      refine zt_goto (tgt := 28) dX8_isFalse_24 (by decide) ?_
      exact zt_zret dX8_isFalse_28 (by decide) ⟨zb1 (by omega), rfl, rfl, rfl⟩

set_option maxRecDepth 100000 in
set_option maxHeartbeats 4000000 in
theorem c_tfh {d n : Nat} {sh : zSh} {h : zMem} {t e : Int} (hT : zTab sh h t) (he : zi32 e) : zF yX8_falsehood cX8_falsehood 2 (some .int) (d + 3) 0 0 [(2, t), (0, e)] n sh h (some (0, tFh h t e)) n sh h := by
  refine zF.ofT (by decide +kernel) [some (2, t), some (0, e)] rfl (Nat.le_of_ble_eq_true rfl) ?_
  have hE := hT.2.2.1
  refine zt_rg (fun hm => ?_)
  refine zt_aload_n dX8_falsehood_0 rfl ?_
  refine zt_iload_n dX8_falsehood_1 rfl ?_
  refine zt_callV1r dX8_falsehood_2 ml_X8_70 hT.sh (Nat.le_of_ble_eq_true rfl) (c_tag hT (by omega)) ?_
  refine zt_ifb_ne (tgt := 10) dX8_falsehood_5 (by decide) (fun c_5 => ?_) (fun c_5 => ?_)
  · refine zt_aload_n dX8_falsehood_10 rfl ?_
    refine zt_iload_n dX8_falsehood_11 rfl ?_
    refine zt_callV1r dX8_falsehood_12 ml_X8_73 hT.sh (Nat.le_of_ble_eq_true rfl) (c_tfa hT (by omega)) ?_
    refine zt_ifb_eq (tgt := 22) dX8_falsehood_15 (by decide) (fun c_15 => ?_) (fun c_15 => ?_)
    · refine zt_iconst dX8_falsehood_22 ?_
      exact zt_iret dX8_falsehood_23 ⟨by congr 2; unfold tFh; split <;> first | omega | (rw [zb_t (by omega)]) | (rw [zb_f (by omega)]), rfl, rfl, rfl⟩
    · refine zt_iconst dX8_falsehood_18 ?_
      refine zt_goto (tgt := 23) dX8_falsehood_19 (by decide) ?_
      exact zt_iret dX8_falsehood_23 ⟨by congr 2; unfold tFh; split <;> first | omega | (rw [zb_t (by omega)]) | (rw [zb_f (by omega)]), rfl, rfl, rfl⟩
  · refine zt_iconst dX8_falsehood_8 ?_
    exact zt_iret dX8_falsehood_9 ⟨by congr 2; unfold tFh; split <;> first | omega | (rw [zb_t (by omega)]) | (rw [zb_f (by omega)]), rfl, rfl, rfl⟩
