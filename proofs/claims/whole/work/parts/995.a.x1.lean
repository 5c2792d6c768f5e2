/-- the class' tables -/
def xTb (sh : zSh) (h : zMem) : Prop := (0 ≤ h 0 11 ∧ h 0 11 ≤ 5) ∧ ∀ p, 0 ≤ p → p < h 0 11 → zTab sh h (h 9 p) ∧ tTok h (h 9 p)
abbrev xT (h : zMem) (p : Int) : Prop := 0 ≤ p ∧ p < h 0 11
def xAt (h : zMem) (p : Int) : Int := if 0 ≤ p ∧ p < h 0 11 then h 9 p else -1
abbrev xP (h : zMem) (p : Int) : Prop := (0 ≤ p ∧ p < h 0 11) ∧ h (xAt h p) 11 ≠ 0
def yAt (h : zMem) (p : Int) : Int := if (0 ≤ p ∧ p < h 0 11) ∧ h (xAt h p) 11 ≠ 0 then xAt h p else -1
theorem xAt_0 {sh : zSh} {h : zMem} {p : Int} (hTb : xTb sh h) (q : xAt h p = -1) : ¬ (0 ≤ p ∧ p < h 0 11) := fun c => by
  have := (hTb.2 p c.1 c.2).1.1
  unfold xAt at q
  rw [if_pos c] at q
  omega
theorem xAt_1 {sh : zSh} {h : zMem} {p : Int} (hTb : xTb sh h) (q : xAt h p ≠ -1) : (0 ≤ p ∧ p < h 0 11) ∧ zTab sh h (xAt h p) ∧ tTok h (xAt h p) := by
  by_cases c : 0 ≤ p ∧ p < h 0 11
  · refine ⟨c, ?_⟩
    unfold xAt
    rw [if_pos c]; exact hTb.2 p c.1 c.2
  · unfold xAt at q
    rw [if_neg c] at q
    exact absurd rfl q
theorem yAt_0 {sh : zSh} {h : zMem} {p : Int} (hTb : xTb sh h) (q : yAt h p = -1) : ¬ ((0 ≤ p ∧ p < h 0 11) ∧ h (xAt h p) 11 ≠ 0) := fun c => by
  have := (hTb.2 p c.1.1 c.1.2).1.1
  unfold yAt at q
  rw [if_pos c] at q
  unfold xAt at q
  rw [if_pos c.1] at q
  omega
theorem yAt_1 {sh : zSh} {h : zMem} {p : Int} (hTb : xTb sh h) (q : yAt h p ≠ -1) : yAt h p = xAt h p ∧ ((0 ≤ p ∧ p < h 0 11) ∧ h (xAt h p) 11 ≠ 0) ∧ zTab sh h (xAt h p) ∧ tTok h (xAt h p) := by
  by_cases c : (0 ≤ p ∧ p < h 0 11) ∧ h (xAt h p) 11 ≠ 0
  · refine ⟨if_pos c, c, ?_⟩
    unfold xAt
    rw [if_pos c.1]; exact hTb.2 p c.1.1 c.1.2
  · unfold yAt at q
    rw [if_neg c] at q
    exact absurd rfl q
theorem tTr_r {h : zMem} {t e : Int} (q : tTok h t) : tTr h t e = -2147483648 ∨ (-999999999 ≤ tTr h t e ∧ tTr h t e ≤ 999999999) := by
  unfold tTr; split
  · rename_i c; exact q e c.1 c.2
  · left; rfl
theorem tTr_ne {h : zMem} {t e : Int} (q : tTr h t e ≠ -2147483648) : (0 ≤ e ∧ e < h t 0) ∧ tTr h t e = h (t + 1) e := by
  by_cases c : 0 ≤ e ∧ e < h t 0
  · exact ⟨c, tTr_in c⟩
  · unfold tTr at q; rw [if_neg c] at q; exact absurd rfl q

set_option maxRecDepth 100000 in
set_option maxHeartbeats 4000000 in
theorem c_xtA {d n : Nat} {sh : zSh} {h : zMem} {p : Int} (hS : zShp sh) (hR : zRf h) (hTb : xTb sh h) (hp : zi32 p) : zF yX10_tableAt cX10_tableAt 2 (some (.object "TableHouse$Table")) (d + 0) 0 0 [(2, 0), (0, p)] n sh h (some (2, xAt h p)) n sh h := by
  refine zF.ofT (by decide +kernel) [some (2, 0), some (0, p)] rfl (Nat.le_of_ble_eq_true rfl) ?_
  have x1 := hTb.1
  refine zt_rg (fun hm => ?_)
  refine zt_iload_n dX10_tableAt_0 rfl ?_
  refine zt_if_lt (tgt := 21) dX10_tableAt_1 (by decide) (by omega) (fun c_1 => ?_) (fun c_1 => ?_)
  · refine zt_null dX10_tableAt_21 ?_
    refine zt_goto (tgt := 31) dX10_tableAt_22 (by decide) ?_
    exact zt_aret dX10_tableAt_31 (Or.inl ⟨_, rfl⟩) ⟨by congr 2; unfold xAt; first | (rw [if_pos (by omega)]; done) | (rw [if_neg (by omega)]), rfl, rfl, rfl⟩
  · refine zt_iload_n dX10_tableAt_4 rfl ?_
    refine zt_aload_n dX10_tableAt_5 rfl ?_
    refine zt_get dX10_tableAt_6 fl_X10_144 (zs_0 hS) ?_
    refine zt_icmp_ge (tgt := 21) dX10_tableAt_9 (by decide) (by omega) (hm.fld (j := 11) (zs_0 hS) (by decide) (by decide) (by decide)) (fun c_9 => ?_) (fun c_9 => ?_)
    · refine zt_null dX10_tableAt_21 ?_
      refine zt_goto (tgt := 31) dX10_tableAt_22 (by decide) ?_
      exact zt_aret dX10_tableAt_31 (Or.inl ⟨_, rfl⟩) ⟨by congr 2; unfold xAt; first | (rw [if_pos (by omega)]; done) | (rw [if_neg (by omega)]), rfl, rfl, rfl⟩
    · refine zt_iload_n dX10_tableAt_12 rfl ?_
      refine zt_aload_n dX10_tableAt_13 rfl ?_
      refine zt_getv dX10_tableAt_14 fl_X10_40 (zs_0 hS) (rf_0_4 hR) ?_
      refine zt_alenv (v := 5) dX10_tableAt_17 (zs_9 hS) (by decide) (by decide) rfl ?_
      refine zt_icmp_lt (tgt := 25) dX10_tableAt_18 (by decide) (by omega) (by decide) (fun c_18 => ?_) (fun c_18 => ?_)
      · refine zt_aload_n dX10_tableAt_25 rfl ?_
        refine zt_getv dX10_tableAt_26 fl_X10_40 (zs_0 hS) (rf_0_4 hR) ?_
        refine zt_iload_n dX10_tableAt_29 rfl ?_
        refine zt_aaload dX10_tableAt_30 (zs_9 hS) (by decide) (by decide) (by omega) (by omega) ?_
        exact zt_aret dX10_tableAt_31 (Or.inl ⟨_, rfl⟩) ⟨by congr 2; unfold xAt; first | (rw [if_pos (by omega)]; done) | (rw [if_neg (by omega)]), rfl, rfl, rfl⟩
      · exfalso
        omega

set_option maxRecDepth 100000 in
set_option maxHeartbeats 4000000 in
theorem c_xpA {d n : Nat} {sh : zSh} {h : zMem} {p : Int} (hS : zShp sh) (hR : zRf h) (hTb : xTb sh h) (hp : zi32 p) : zF yX10_plateAt cX10_plateAt 3 (some (.object "TableHouse$Table")) (d + 1) 0 0 [(2, 0), (0, p)] n sh h (some (2, yAt h p)) n sh h := by
  refine zF.ofT (by decide +kernel) [some (2, 0), some (0, p), none] rfl (Nat.le_of_ble_eq_true rfl) ?_
  have x1 := hTb.1
  refine zt_rg (fun hm => ?_)
  refine zt_aload_n dX10_plateAt_0 rfl ?_
  refine zt_iload_n dX10_plateAt_1 rfl ?_
  refine zt_callV1r dX10_plateAt_2 ml_X10_159 (zs_0 hS) (Nat.le_of_ble_eq_true rfl) (c_xtA hS hR hTb (by omega)) ?_
  refine zt_astore_n_2 dX10_plateAt_5 (by decide) rfl ?_
  refine zt_aload_n dX10_plateAt_6 rfl ?_
  refine zt_ifnull (tgt := 17) dX10_plateAt_7 (by decide) (fun c_7 => ?_) (fun c_7 => ?_)
  · have hnt := xAt_0 hTb c_7
    refine zt_null dX10_plateAt_17 ?_
    refine zt_goto (tgt := 22) dX10_plateAt_18 (by decide) ?_
    exact zt_aret dX10_plateAt_22 (Or.inl ⟨_, rfl⟩) ⟨by congr 2; unfold yAt; first | (rw [if_pos ⟨hxT, by rw [← htd]; omega⟩, ← htd]; done) | (rw [if_neg (fun q => hnt q.1)]; done) | (rw [if_neg (fun q => absurd q.2 (by rw [← htd]; omega))]), rfl, rfl, rfl⟩
  · obtain ⟨hxT, hT, hTk⟩ := xAt_1 hTb c_7
    obtain ⟨t, htd⟩ : ∃ t, t = xAt h p := ⟨_, rfl⟩
    rw [← htd] at hT hTk ⊢
    have hE := hT.2.2.1
    refine zt_aload_n dX10_plateAt_10 rfl ?_
    refine zt_get dX10_plateAt_11 fl_X10_264 hT.sh ?_
    refine zt_if_ne (tgt := 21) dX10_plateAt_14 (by decide) (zbool (hm.fld (j := 11) hT.sh (by decide) (by decide) (by decide))) (fun c_14 => ?_) (fun c_14 => ?_)
    · refine zt_aload_n dX10_plateAt_21 rfl ?_
      exact zt_aret dX10_plateAt_22 (Or.inl ⟨_, rfl⟩) ⟨by congr 2; unfold yAt; first | (rw [if_pos ⟨hxT, by rw [← htd]; omega⟩, ← htd]; done) | (rw [if_neg (fun q => hnt q.1)]; done) | (rw [if_neg (fun q => absurd q.2 (by rw [← htd]; omega))]), rfl, rfl, rfl⟩
    · refine zt_null dX10_plateAt_17 ?_
      refine zt_goto (tgt := 22) dX10_plateAt_18 (by decide) ?_
      exact zt_aret dX10_plateAt_22 (Or.inl ⟨_, rfl⟩) ⟨by congr 2; unfold yAt; first | (rw [if_pos ⟨hxT, by rw [← htd]; omega⟩, ← htd]; done) | (rw [if_neg (fun q => hnt q.1)]; done) | (rw [if_neg (fun q => absurd q.2 (by rw [← htd]; omega))]), rfl, rfl, rfl⟩

set_option maxRecDepth 100000 in
set_option maxHeartbeats 4000000 in
theorem c_xend {d n : Nat} {sh : zSh} {h : zMem} {x : Int} (hS : zShp sh) (hR : zRf h) (hTb : xTb sh h) (hx : zi32 x) : zF yX10_end cX10_end 2 (some .boolean) (d + 0) 0 0 [(2, 0), (0, x)] n sh h (some (0, zb (0 ≤ x ∧ x ≤ h 1 1))) n sh (if 0 ≤ x ∧ x ≤ h 1 1 then zup h 1 1 x else h) := by
  refine zF.ofT (by decide +kernel) [some (2, 0), some (0, x)] rfl (Nat.le_of_ble_eq_true rfl) ?_
  have x1 := hTb.1
  refine zt_rg (fun hm => ?_)
  refine zt_iload_n dX10_end_0 rfl ?_
  refine zt_if_lt (tgt := 15) dX10_end_1 (by decide) (by omega) (fun c_1 => ?_) (fun c_1 => ?_)
  · refine zt_iconst dX10_end_15 ?_
    exact zt_zret dX10_end_16 (by decide) ⟨by first | rfl | (rw [if_pos (by omega)]; done) | (rw [if_neg (by omega)]; done) | (rw [zb_t (by omega)]; done) | (rw [zb_f (by omega)]; done), rfl, rfl, by first | rfl | (rw [if_pos (by omega)]; done) | (rw [if_neg (by omega)]; done)⟩
  · refine zt_iload_n dX10_end_4 rfl ?_
    refine zt_aload_n dX10_end_5 rfl ?_
    refine zt_getv dX10_end_6 fl_X10_10 (zs_0 hS) (rf_0_0 hR) ?_
    refine zt_get dX10_end_9 fl_X10_83 (zs_1 hS) ?_
    refine zt_icmp_le (tgt := 17) dX10_end_12 (by decide) (by omega) (hm.fld (j := 1) (zs_1 hS) (by decide) (by decide) (by decide)) (fun c_12 => ?_) (fun c_12 => ?_)
    · refine zt_aload_n dX10_end_17 rfl ?_
      refine zt_getv dX10_end_18 fl_X10_10 (zs_0 hS) (rf_0_0 hR) ?_
      refine zt_iload_n dX10_end_21 rfl ?_
      refine zt_puti dX10_end_22 fl_X10_83 rfl (zs_1 hS) (by omega) ?_
      refine zt_iconst dX10_end_25 ?_
      exact zt_zret dX10_end_26 (by decide) ⟨by first | rfl | (rw [if_pos (by omega)]; done) | (rw [if_neg (by omega)]; done) | (rw [zb_t (by omega)]; done) | (rw [zb_f (by omega)]; done), rfl, rfl, by first | rfl | (rw [if_pos (by omega)]; done) | (rw [if_neg (by omega)]; done)⟩
    · refine zt_iconst dX10_end_15 ?_
      exact zt_zret dX10_end_16 (by decide) ⟨by first | rfl | (rw [if_pos (by omega)]; done) | (rw [if_neg (by omega)]; done) | (rw [zb_t (by omega)]; done) | (rw [zb_f (by omega)]; done), rfl, rfl, by first | rfl | (rw [if_pos (by omega)]; done) | (rw [if_neg (by omega)]; done)⟩

set_option maxRecDepth 100000 in
set_option maxHeartbeats 4000000 in
theorem c_xgo {d n : Nat} {sh : zSh} {h : zMem} {x : Int} (hS : zShp sh) (hR : zRf h) (hTb : xTb sh h) (hx : zi32 x) (h12 : 0 ≤ h 0 12 ∧ h 0 12 ≤ 999) : zF yX10_go cX10_go 2 (some .int) (d + 1) 0 0 [(2, 0), (0, x)] n sh h (some (0, (if 0 ≤ x ∧ x ≤ 100 then zmi 999 (h 0 12 + x) else -1))) n sh (if 0 ≤ x ∧ x ≤ 100 then zup h 0 12 (zmi 999 (h 0 12 + x)) else h) := by
  refine zF.ofT (by decide +kernel) [some (2, 0), some (0, x)] rfl (Nat.le_of_ble_eq_true rfl) ?_
  have x1 := hTb.1
  refine zt_rg (fun hm => ?_)
  refine zt_iload_n dX10_go_0 rfl ?_
  refine zt_if_lt (tgt := 10) dX10_go_1 (by decide) (by omega) (fun c_1 => ?_) (fun c_1 => ?_)
  · refine zt_iconst dX10_go_10 ?_
    exact zt_iret dX10_go_11 ⟨by first | rfl | (rw [if_pos (by omega)]; done) | (rw [if_neg (by omega)]; done) | (rw [zb_t (by omega)]; done) | (rw [zb_f (by omega)]; done), rfl, rfl, by first | rfl | (rw [if_pos (by omega)]; done) | (rw [if_neg (by omega)]; done)⟩
  · refine zt_iload_n dX10_go_4 rfl ?_
    refine zt_bipush dX10_go_5 (by decide) ?_
    refine zt_icmp_le (tgt := 12) dX10_go_7 (by decide) (by omega) (by decide) (fun c_7 => ?_) (fun c_7 => ?_)
    · refine zt_aload_n dX10_go_12 rfl ?_
      refine zt_sipush dX10_go_13 (by decide) ?_
      refine zt_aload_n dX10_go_16 rfl ?_
      refine zt_get dX10_go_17 fl_X10_135 (zs_0 hS) ?_
      refine zt_iload_n dX10_go_20 rfl ?_
      refine zt_iadd dX10_go_21 ?_
      refine zt_callS2r dX10_go_22 ml_X10_138 (Nat.le_of_ble_eq_true rfl) (c_min (by decide) (by omega)) ?_
      have hmi : zmi 999 (h 0 12 + x) = h 0 12 + x ∨ zmi 999 (h 0 12 + x) = 999 := by unfold zmi; split <;> omega
      refine zt_puti dX10_go_25 fl_X10_135 rfl (zs_0 hS) (by omega) ?_
      refine zt_aload_n dX10_go_28 rfl ?_
      refine zt_getv (v := zmi 999 (h 0 12 + x)) dX10_go_29 fl_X10_135 (zs_0 hS) zupE ?_
      exact zt_iret dX10_go_32 ⟨by first | rfl | (rw [if_pos (by omega)]; done) | (rw [if_neg (by omega)]; done) | (rw [zb_t (by omega)]; done) | (rw [zb_f (by omega)]; done), rfl, rfl, by first | rfl | (rw [if_pos (by omega)]; done) | (rw [if_neg (by omega)]; done)⟩
    · refine zt_iconst dX10_go_10 ?_
      exact zt_iret dX10_go_11 ⟨by first | rfl | (rw [if_pos (by omega)]; done) | (rw [if_neg (by omega)]; done) | (rw [zb_t (by omega)]; done) | (rw [zb_f (by omega)]; done), rfl, rfl, by first | rfl | (rw [if_pos (by omega)]; done) | (rw [if_neg (by omega)]; done)⟩

set_option maxRecDepth 100000 in
set_option maxHeartbeats 4000000 in
theorem c_xhand {d n : Nat} {sh : zSh} {h : zMem} (hS : zShp sh) (hR : zRf h) (hTb : xTb sh h) (h10 : 0 ≤ h 10 0 ∧ h 10 0 ≤ 8) : zF yX10_hand cX10_hand 1 (some .int) (d + 0) 0 0 [(2, 0)] n sh h (some (0, (if h 10 0 < 8 then h 10 0 else -1))) n sh (if h 10 0 < 8 then zup h 10 0 (h 10 0 + 1) else h) := by
  refine zF.ofT (by decide +kernel) [some (2, 0)] rfl (Nat.le_of_ble_eq_true rfl) ?_
  have x1 := hTb.1
  refine zt_rg (fun hm => ?_)
  refine zt_aload_n dX10_hand_0 rfl ?_
  refine zt_getv dX10_hand_1 fl_X10_47 (zs_0 hS) (rf_0_5 hR) ?_
  refine zt_get dX10_hand_4 fl_X10_166 (zs_10 hS) ?_
  refine zt_bipush dX10_hand_7 (by decide) ?_
  refine zt_icmp_lt (tgt := 14) dX10_hand_9 (by decide) (hm.fld (j := 0) (zs_10 hS) (by decide) (by decide) (by decide)) (by decide) (fun c_9 => ?_) (fun c_9 => ?_)
  · refine zt_aload_n dX10_hand_14 rfl ?_
    refine zt_getv dX10_hand_15 fl_X10_47 (zs_0 hS) (rf_0_5 hR) ?_
    refine zt_dup dX10_hand_18 (Nat.ne_of_beq_eq_false rfl) ?_
    refine zt_get dX10_hand_19 fl_X10_166 (zs_10 hS) ?_
    refine zt_iconst dX10_hand_22 ?_
    refine zt_iadd dX10_hand_23 ?_
    refine zt_puti dX10_hand_24 fl_X10_166 rfl (zs_10 hS) (by omega) ?_
    refine zt_aload_n dX10_hand_27 rfl ?_
    refine zt_getv dX10_hand_28 fl_X10_47 (zs_0 hS) (rf_0_5 (hR.up (by decide))) ?_
    refine zt_getv (v := (h 10 0) + 1) dX10_hand_31 fl_X10_166 (zs_10 hS) zupE ?_
    refine zt_iconst dX10_hand_34 ?_
    refine zt_isub dX10_hand_35 ?_
    exact zt_iret dX10_hand_36 ⟨by first | (rw [if_pos (by omega)]; congr 2; omega) | (rw [if_neg (by omega)]), rfl, rfl, by first | (rw [if_pos (by omega)]; done) | (rw [if_neg (by omega)]; done)⟩
  · refine zt_iconst dX10_hand_12 ?_
    exact zt_iret dX10_hand_13 ⟨by first | (rw [if_pos (by omega)]; congr 2; omega) | (rw [if_neg (by omega)]), rfl, rfl, by first | (rw [if_pos (by omega)]; done) | (rw [if_neg (by omega)]; done)⟩

set_option maxRecDepth 100000 in
set_option maxHeartbeats 4000000 in
theorem c_xexact {d n : Nat} {sh : zSh} {h : zMem} {p e : Int} (hS : zShp sh) (hR : zRf h) (hTb : xTb sh h) (hp : zi32 p) (he : zi32 e) : zF yX10_exact cX10_exact 4 (some .int) (d + 2) 0 0 [(2, 0), (0, p), (0, e)] n sh h (some (0, (if xT h p then tTr h (xAt h p) e else -2147483648))) n sh h := by
  refine zF.ofT (by decide +kernel) [some (2, 0), some (0, p), some (0, e), none] rfl (Nat.le_of_ble_eq_true rfl) ?_
  have x1 := hTb.1
  refine zt_rg (fun hm => ?_)
  refine zt_aload_n dX10_exact_0 rfl ?_
  refine zt_iload_n dX10_exact_1 rfl ?_
  refine zt_callV1r dX10_exact_2 ml_X10_159 (zs_0 hS) (Nat.le_of_ble_eq_true rfl) (c_xtA hS hR hTb (by omega)) ?_
  refine zt_astore_n_3 dX10_exact_5 (by decide) rfl ?_
  refine zt_aload_n dX10_exact_6 rfl ?_
  refine zt_ifnonnull (tgt := 15) dX10_exact_7 (by decide) (fun c_7 => ?_) (fun c_7 => ?_)
  · obtain ⟨hxT, hT, hTk⟩ := xAt_1 hTb c_7
    obtain ⟨t, htd⟩ : ∃ t, t = xAt h p := ⟨_, rfl⟩
    rw [← htd] at hT hTk ⊢
    have hE := hT.2.2.1
    refine zt_aload_n dX10_exact_15 rfl ?_
    refine zt_iload_n dX10_exact_16 rfl ?_
    refine zt_callV1r dX10_exact_17 ml_X10_163 hT.sh (Nat.le_of_ble_eq_true rfl) (c_ttr hT (by omega)) ?_
    exact zt_iret dX10_exact_20 ⟨by first | rfl | (rw [if_pos (by omega)]; done) | (rw [if_neg (by omega)]; done) | (rw [zb_t (by omega)]; done) | (rw [zb_f (by omega)]; done), rfl, rfl, rfl⟩
  · have hnt := xAt_0 hTb c_7
    refine zt_ldc dX10_exact_10 kc_X10_118 ?_
    refine zt_goto (tgt := 20) dX10_exact_12 (by decide) ?_
    exact zt_iret dX10_exact_20 ⟨by first | rfl | (rw [if_pos (by omega)]; done) | (rw [if_neg (by omega)]; done) | (rw [zb_t (by omega)]; done) | (rw [zb_f (by omega)]; done), rfl, rfl, rfl⟩

set_option maxRecDepth 100000 in
set_option maxHeartbeats 4000000 in
theorem c_xfig {d n : Nat} {sh : zSh} {h : zMem} {p e : Int} (hS : zShp sh) (hR : zRf h) (hTb : xTb sh h) (hp : zi32 p) (he : zi32 e) : zF yX10_figure cX10_figure 4 (some .int) (d + 3) 0 0 [(2, 0), (0, p), (0, e)] n sh h (some (0, (if xT h p then tFig h (xAt h p) e else -2147483648))) n sh h := by
  refine zF.ofT (by decide +kernel) [some (2, 0), some (0, p), some (0, e), none] rfl (Nat.le_of_ble_eq_true rfl) ?_
  have x1 := hTb.1
  refine zt_rg (fun hm => ?_)
  refine zt_aload_n dX10_figure_0 rfl ?_
  refine zt_iload_n dX10_figure_1 rfl ?_
  refine zt_callV1r dX10_figure_2 ml_X10_159 (zs_0 hS) (Nat.le_of_ble_eq_true rfl) (c_xtA hS hR hTb (by omega)) ?_
  refine zt_astore_n_3 dX10_figure_5 (by decide) rfl ?_
  refine zt_aload_n dX10_figure_6 rfl ?_
  refine zt_ifnonnull (tgt := 15) dX10_figure_7 (by decide) (fun c_7 => ?_) (fun c_7 => ?_)
  · obtain ⟨hxT, hT, hTk⟩ := xAt_1 hTb c_7
    obtain ⟨t, htd⟩ : ∃ t, t = xAt h p := ⟨_, rfl⟩
    rw [← htd] at hT hTk ⊢
    have hE := hT.2.2.1
    refine zt_aload_n dX10_figure_15 rfl ?_
    refine zt_iload_n dX10_figure_16 rfl ?_
    refine zt_callV1r dX10_figure_17 ml_X10_191 hT.sh (Nat.le_of_ble_eq_true rfl) (c_tfig hT (by omega)) ?_
    exact zt_iret dX10_figure_20 ⟨by first | rfl | (rw [if_pos (by omega)]; done) | (rw [if_neg (by omega)]; done) | (rw [zb_t (by omega)]; done) | (rw [zb_f (by omega)]; done), rfl, rfl, rfl⟩
  · have hnt := xAt_0 hTb c_7
    refine zt_ldc dX10_figure_10 kc_X10_118 ?_
    refine zt_goto (tgt := 20) dX10_figure_12 (by decide) ?_
    exact zt_iret dX10_figure_20 ⟨by first | rfl | (rw [if_pos (by omega)]; done) | (rw [if_neg (by omega)]; done) | (rw [zb_t (by omega)]; done) | (rw [zb_f (by omega)]; done), rfl, rfl, rfl⟩

set_option maxRecDepth 100000 in
set_option maxHeartbeats 4000000 in
theorem c_xwo {d n : Nat} {sh : zSh} {h : zMem} {a w p e : Int} (hS : zShp sh) (hR : zRf h) (hTb : xTb sh h) (ha : zi32 a) (hw : zi32 w) (hp : zi32 p) (he : zi32 e) (hb : hbOK h) : zF yX10_would cX10_would 6 (some .int) (d + 2) 0 0 [(2, 0), (0, a), (0, w), (0, p), (0, e)] n sh h (some (0, (if xT h p ∧ (0 ≤ a ∧ a < h 10 0) ∧ 0 ≤ w ∧ w < 3 then hWr h a w (tTr h (xAt h p) e) else -2147483648))) n sh h := by
  refine zF.ofT (by decide +kernel) [some (2, 0), some (0, a), some (0, w), some (0, p), some (0, e), none] rfl (Nat.le_of_ble_eq_true rfl) ?_
  have x1 := hTb.1
  refine zt_rg (fun hm => ?_)
  refine zt_aload_n dX10_would_0 rfl ?_
  refine zt_iload_n dX10_would_1 rfl ?_
  refine zt_callV1r dX10_would_2 ml_X10_159 (zs_0 hS) (Nat.le_of_ble_eq_true rfl) (c_xtA hS hR hTb (by omega)) ?_
  refine zt_astore_5 dX10_would_5 (by decide) rfl ?_
  refine zt_aload dX10_would_7 rfl ?_
  refine zt_ifnull (tgt := 24) dX10_would_9 (by decide) (fun c_9 => ?_) (fun c_9 => ?_)
  · have hnt := xAt_0 hTb c_9
    refine zt_ldc dX10_would_24 kc_X10_118 ?_
    exact zt_iret dX10_would_26 ⟨by first | rfl | (rw [if_pos (by omega)]; done) | (rw [if_neg (by omega)]; done) | (rw [zb_t (by omega)]; done) | (rw [zb_f (by omega)]; done), rfl, rfl, rfl⟩
  · obtain ⟨hxT, hT, hTk⟩ := xAt_1 hTb c_9
    obtain ⟨t, htd⟩ : ∃ t, t = xAt h p := ⟨_, rfl⟩
    rw [← htd] at hT hTk ⊢
    have hE := hT.2.2.1
    refine zt_aload_n dX10_would_12 rfl ?_
    refine zt_getv dX10_would_13 fl_X10_47 (zs_0 hS) (rf_0_5 hR) ?_
    refine zt_iload_n dX10_would_16 rfl ?_
    refine zt_iload_n dX10_would_17 rfl ?_
    refine zt_callV2r dX10_would_18 ml_X10_169 (zs_10 hS) (Nat.le_of_ble_eq_true rfl) (c_hhas hS hR (by omega) (by omega)) ?_
    refine zt_ifb_ne (tgt := 27) dX10_would_21 (by decide) (fun c_21 => ?_) (fun c_21 => ?_)
    · refine zt_aload_n dX10_would_27 rfl ?_
      refine zt_getv dX10_would_28 fl_X10_47 (zs_0 hS) (rf_0_5 hR) ?_
      refine zt_iload_n dX10_would_31 rfl ?_
      refine zt_iload_n dX10_would_32 rfl ?_
      refine zt_aload dX10_would_33 rfl ?_
      refine zt_iload dX10_would_35 rfl ?_
      refine zt_callV1r dX10_would_37 ml_X10_163 hT.sh (Nat.le_of_ble_eq_true rfl) (c_ttr hT (by omega)) ?_
      refine zt_callV3r dX10_would_40 ml_X10_180 (zs_10 hS) (Nat.le_of_ble_eq_true rfl) (c_hwr hS hR (by omega) (by omega) (tTr_r hTk) hb) ?_
      exact zt_iret dX10_would_43 ⟨by first | rfl | (rw [if_pos (by omega)]; done) | (rw [if_neg (by omega)]; done) | (rw [zb_t (by omega)]; done) | (rw [zb_f (by omega)]; done), rfl, rfl, rfl⟩
    · refine zt_ldc dX10_would_24 kc_X10_118 ?_
      exact zt_iret dX10_would_26 ⟨by first | rfl | (rw [if_pos (by omega)]; done) | (rw [if_neg (by omega)]; done) | (rw [zb_t (by omega)]; done) | (rw [zb_f (by omega)]; done), rfl, rfl, rfl⟩

set_option maxRecDepth 100000 in
set_option maxHeartbeats 4000000 in
theorem c_xwk {d n : Nat} {sh : zSh} {h : zMem} {a w p e : Int} (hS : zShp sh) (hR : zRf h) (hTb : xTb sh h) (ha : zi32 a) (hw : zi32 w) (hp : zi32 p) (he : zi32 e) (hb : hbOK h) (h12 : 0 ≤ h 0 12 ∧ h 0 12 ≤ 999) : zF yX10_work cX10_work 7 (some .int) (d + 3) 0 0 [(2, 0), (0, a), (0, w), (0, p), (0, e)] n sh h (some (0, (if xT h p ∧ ((0 ≤ a ∧ a < h 10 0) ∧ 0 ≤ w ∧ w < 3) ∧ tMay h (xAt h p) a e then hWr h a w (tTr h (xAt h p) e) else -2147483648))) n sh (if xT h p ∧ ((0 ≤ a ∧ a < h 10 0) ∧ 0 ≤ w ∧ w < 3) ∧ tMay h (xAt h p) a e then tWork h (xAt h p) a w e (hWr h a w (tTr h (xAt h p) e)) (h 0 12) else h) := by
  refine zF.ofT (by decide +kernel) [some (2, 0), some (0, a), some (0, w), some (0, p), some (0, e), none, none] rfl (Nat.le_of_ble_eq_true rfl) ?_
  have x1 := hTb.1
  refine zt_rg (fun hm => ?_)
  refine zt_aload_n dX10_work_0 rfl ?_
  refine zt_iload_n dX10_work_1 rfl ?_
  refine zt_callV1r dX10_work_2 ml_X10_159 (zs_0 hS) (Nat.le_of_ble_eq_true rfl) (c_xtA hS hR hTb (by omega)) ?_
  refine zt_astore_5 dX10_work_5 (by decide) rfl ?_
  refine zt_aload dX10_work_7 rfl ?_
  refine zt_ifnull (tgt := 35) dX10_work_9 (by decide) (fun c_9 => ?_) (fun c_9 => ?_)
  · have hnt := xAt_0 hTb c_9
    refine zt_ldc dX10_work_35 kc_X10_118 ?_
    exact zt_iret dX10_work_37 ⟨by first | rfl | (rw [if_pos (by omega)]; done) | (rw [if_neg (by omega)]; done) | (rw [zb_t (by omega)]; done) | (rw [zb_f (by omega)]; done), rfl, rfl, by first | rfl | (rw [if_pos (by omega)]; done) | (rw [if_neg (by omega)]; done)⟩
  · obtain ⟨hxT, hT, hTk⟩ := xAt_1 hTb c_9
    obtain ⟨t, htd⟩ : ∃ t, t = xAt h p := ⟨_, rfl⟩
    rw [← htd] at hT hTk ⊢
    have hE := hT.2.2.1
    refine zt_aload_n dX10_work_12 rfl ?_
    refine zt_getv dX10_work_13 fl_X10_47 (zs_0 hS) (rf_0_5 hR) ?_
    refine zt_iload_n dX10_work_16 rfl ?_
    refine zt_iload_n dX10_work_17 rfl ?_
    refine zt_callV2r dX10_work_18 ml_X10_169 (zs_10 hS) (Nat.le_of_ble_eq_true rfl) (c_hhas hS hR (by omega) (by omega)) ?_
    refine zt_ifb_eq (tgt := 35) dX10_work_21 (by decide) (fun c_21 => ?_) (fun c_21 => ?_)
    · refine zt_ldc dX10_work_35 kc_X10_118 ?_
      exact zt_iret dX10_work_37 ⟨by first | rfl | (rw [if_pos (by omega)]; done) | (rw [if_neg (by omega)]; done) | (rw [zb_t (by omega)]; done) | (rw [zb_f (by omega)]; done), rfl, rfl, by first | rfl | (rw [if_pos (by omega)]; done) | (rw [if_neg (by omega)]; done)⟩
    · refine zt_aload dX10_work_24 rfl ?_
      refine zt_iload_n dX10_work_26 rfl ?_
      refine zt_iload dX10_work_27 rfl ?_
      refine zt_callV2r dX10_work_29 ml_X10_184 hT.sh (Nat.le_of_ble_eq_true rfl) (c_tmay hT (by omega) (by omega)) ?_
      refine zt_ifb_ne (tgt := 38) dX10_work_32 (by decide) (fun c_32 => ?_) (fun c_32 => ?_)
      · have hte := tTr_ne c_32.2.2.1
        have hwv := hWr_r (a := a) (w := w) hb (tTr_r (e := e) hTk)
        have h8 := hb.1
        refine zt_aload_n dX10_work_38 rfl ?_
        refine zt_getv dX10_work_39 fl_X10_47 (zs_0 hS) (rf_0_5 hR) ?_
        refine zt_iload_n dX10_work_42 rfl ?_
        refine zt_iload_n dX10_work_43 rfl ?_
        refine zt_aload dX10_work_44 rfl ?_
        refine zt_iload dX10_work_46 rfl ?_
        refine zt_callV1r dX10_work_48 ml_X10_163 hT.sh (Nat.le_of_ble_eq_true rfl) (c_ttr hT (by omega)) ?_
        refine zt_callV3r dX10_work_51 ml_X10_180 (zs_10 hS) (Nat.le_of_ble_eq_true rfl) (c_hwr hS hR (by omega) (by omega) (tTr_r hTk) hb) ?_
        refine zt_istore_6 dX10_work_54 (by decide) rfl ?_
        refine zt_aload dX10_work_56 rfl ?_
        refine zt_iload_n dX10_work_58 rfl ?_
        refine zt_iload_n dX10_work_59 rfl ?_
        refine zt_iload dX10_work_60 rfl ?_
        refine zt_iload dX10_work_62 rfl ?_
        refine zt_aload_n dX10_work_64 rfl ?_
        refine zt_get dX10_work_65 fl_X10_135 (zs_0 hS) ?_
        refine zt_callV5v dX10_work_68 ml_X10_187 hT.sh (Nat.le_of_ble_eq_true rfl) (c_twork hT hte.1 (by omega) (by omega) (by omega) (by omega)) ?_
        refine zt_iload dX10_work_71 rfl ?_
        exact zt_iret dX10_work_73 ⟨by first | rfl | (rw [if_pos (by omega)]; done) | (rw [if_neg (by omega)]; done) | (rw [zb_t (by omega)]; done) | (rw [zb_f (by omega)]; done), rfl, rfl, by first | rfl | (rw [if_pos (by omega)]; done) | (rw [if_neg (by omega)]; done)⟩
      · refine zt_ldc dX10_work_35 kc_X10_118 ?_
        exact zt_iret dX10_work_37 ⟨by first | rfl | (rw [if_pos (by omega)]; done) | (rw [if_neg (by omega)]; done) | (rw [zb_t (by omega)]; done) | (rw [zb_f (by omega)]; done), rfl, rfl, by first | rfl | (rw [if_pos (by omega)]; done) | (rw [if_neg (by omega)]; done)⟩

set_option maxRecDepth 100000 in
set_option maxHeartbeats 4000000 in
theorem c_xstk {d n : Nat} {sh : zSh} {h : zMem} {x a b : Int} (hS : zShp sh) (hR : zRf h) (hTb : xTb sh h) (hx : zi32 x) (ha : zi32 a) (hb : zi32 b) (hE : eOK h) : zF yX10_stick cX10_stick 4 (some .boolean) (d + 1) 0 0 [(2, 0), (0, x), (0, a), (0, b)] n sh h (some (0, zb ((0 ≤ a ∧ a ≤ 50) ∧ (1 ≤ b ∧ b ≤ 50) ∧ eTok h x))) n sh (if (0 ≤ a ∧ a ≤ 50) ∧ (1 ≤ b ∧ b ≤ 50) ∧ eTok h x then eTel h x a b else h) := by
  refine zF.ofT (by decide +kernel) [some (2, 0), some (0, x), some (0, a), some (0, b)] rfl (Nat.le_of_ble_eq_true rfl) ?_
  have x1 := hTb.1
  refine zt_rg (fun hm => ?_)
  refine zt_iload_n dX10_stick_0 rfl ?_
  refine zt_if_lt (tgt := 21) dX10_stick_1 (by decide) (by omega) (fun c_1 => ?_) (fun c_1 => ?_)
  · refine zt_iconst dX10_stick_21 ?_
    exact zt_zret dX10_stick_22 (by decide) ⟨by first | (rw [zb_f (by omega)]; done) | (congr 2; exact zb_eq (by omega)), rfl, rfl, by first | (rw [if_neg (by omega)]; done) | (by_cases q : eTok h x; (rw [if_pos q, if_pos (by omega)]); (rw [if_neg q, if_neg (by omega)]))⟩
  · refine zt_iload_n dX10_stick_4 rfl ?_
    refine zt_bipush dX10_stick_5 (by decide) ?_
    refine zt_icmp_gt (tgt := 21) dX10_stick_7 (by decide) (by omega) (by decide) (fun c_7 => ?_) (fun c_7 => ?_)
    · refine zt_iconst dX10_stick_21 ?_
      exact zt_zret dX10_stick_22 (by decide) ⟨by first | (rw [zb_f (by omega)]; done) | (congr 2; exact zb_eq (by omega)), rfl, rfl, by first | (rw [if_neg (by omega)]; done) | (by_cases q : eTok h x; (rw [if_pos q, if_pos (by omega)]); (rw [if_neg q, if_neg (by omega)]))⟩
    · refine zt_iload_n dX10_stick_10 rfl ?_
      refine zt_iconst dX10_stick_11 ?_
      refine zt_icmp_lt (tgt := 21) dX10_stick_12 (by decide) (by omega) (by decide) (fun c_12 => ?_) (fun c_12 => ?_)
      · refine zt_iconst dX10_stick_21 ?_
        exact zt_zret dX10_stick_22 (by decide) ⟨by first | (rw [zb_f (by omega)]; done) | (congr 2; exact zb_eq (by omega)), rfl, rfl, by first | (rw [if_neg (by omega)]; done) | (by_cases q : eTok h x; (rw [if_pos q, if_pos (by omega)]); (rw [if_neg q, if_neg (by omega)]))⟩
      · refine zt_iload_n dX10_stick_15 rfl ?_
        refine zt_bipush dX10_stick_16 (by decide) ?_
        refine zt_icmp_le (tgt := 23) dX10_stick_18 (by decide) (by omega) (by decide) (fun c_18 => ?_) (fun c_18 => ?_)
        · refine zt_aload_n dX10_stick_23 rfl ?_
          refine zt_getv dX10_stick_24 fl_X10_54 (zs_0 hS) (rf_0_6 hR) ?_
          refine zt_iload_n dX10_stick_27 rfl ?_
          refine zt_iload_n dX10_stick_28 rfl ?_
          refine zt_iload_n dX10_stick_29 rfl ?_
          refine zt_callV3r dX10_stick_30 ml_X10_216 (zs_18 hS) (Nat.le_of_ble_eq_true rfl) (c_tst hS hR hE (by omega) (by omega) (by omega)) ?_
          exact zt_zret dX10_stick_33 (zb_or _) ⟨by first | (rw [zb_f (by omega)]; done) | (congr 2; exact zb_eq (by omega)), rfl, rfl, by first | (rw [if_neg (by omega)]; done) | (by_cases q : eTok h x; (rw [if_pos q, if_pos (by omega)]); (rw [if_neg q, if_neg (by omega)]))⟩
        · refine zt_iconst dX10_stick_21 ?_
          exact zt_zret dX10_stick_22 (by decide) ⟨by first | (rw [zb_f (by omega)]; done) | (congr 2; exact zb_eq (by omega)), rfl, rfl, by first | (rw [if_neg (by omega)]; done) | (by_cases q : eTok h x; (rw [if_pos q, if_pos (by omega)]); (rw [if_neg q, if_neg (by omega)]))⟩

set_option maxRecDepth 100000 in
set_option maxHeartbeats 4000000 in
theorem c_xcol {d n : Nat} {sh : zSh} {h : zMem} {x : Int} (hS : zShp sh) (hR : zRf h) (hTb : xTb sh h) (hx : zi32 x) : zF yX10_column cX10_column 2 (some .int) (d + 1) 0 0 [(2, 0), (0, x)] n sh h (some (0, (if 0 ≤ x ∧ x ≤ 6 then (if x < 5 then eNum (h 19) x else if x = 5 then h 18 0 else h 18 1) else -1))) n sh h := by
  refine zF.ofT (by decide +kernel) [some (2, 0), some (0, x)] rfl (Nat.le_of_ble_eq_true rfl) ?_
  have x1 := hTb.1
  refine zt_rg (fun hm => ?_)
  refine zt_iload_n dX10_column_0 rfl ?_
  refine zt_iconst dX10_column_1 ?_
  refine zt_icmp_ne (tgt := 13) dX10_column_2 (by decide) (by omega) (by decide) (fun c_2 => ?_) (fun c_2 => ?_)
  · refine zt_iload_n dX10_column_13 rfl ?_
    refine zt_bipush dX10_column_14 (by decide) ?_
    refine zt_icmp_ne (tgt := 27) dX10_column_16 (by decide) (by omega) (by decide) (fun c_16 => ?_) (fun c_16 => ?_)
    · refine zt_iload_n dX10_column_27 rfl ?_
      refine zt_if_lt (tgt := 37) dX10_column_28 (by decide) (by omega) (fun c_28 => ?_) (fun c_28 => ?_)
      · refine zt_iconst dX10_column_37 ?_
        refine zt_goto (tgt := 49) dX10_column_38 (by decide) ?_
        exact zt_iret dX10_column_49 ⟨by congr 2; (repeat' split) <;> first | rfl | omega, rfl, rfl, rfl⟩
      · refine zt_iload_n dX10_column_31 rfl ?_
        refine zt_bipush dX10_column_32 (by decide) ?_
        refine zt_icmp_le (tgt := 41) dX10_column_34 (by decide) (by omega) (by decide) (fun c_34 => ?_) (fun c_34 => ?_)
        · refine zt_aload_n dX10_column_41 rfl ?_
          refine zt_getv dX10_column_42 fl_X10_54 (zs_0 hS) (rf_0_6 hR) ?_
          refine zt_iload_n dX10_column_45 rfl ?_
          refine zt_callV1r dX10_column_46 ml_X10_222 (zs_18 hS) (Nat.le_of_ble_eq_true rfl) (c_num hS hR (by omega)) ?_
          exact zt_iret dX10_column_49 ⟨by congr 2; (repeat' split) <;> first | rfl | omega, rfl, rfl, rfl⟩
        · refine zt_iconst dX10_column_37 ?_
          refine zt_goto (tgt := 49) dX10_column_38 (by decide) ?_
          exact zt_iret dX10_column_49 ⟨by congr 2; (repeat' split) <;> first | rfl | omega, rfl, rfl, rfl⟩
    · refine zt_aload_n dX10_column_19 rfl ?_
      refine zt_getv dX10_column_20 fl_X10_54 (zs_0 hS) (rf_0_6 hR) ?_
      refine zt_get dX10_column_23 fl_X10_232 (zs_18 hS) ?_
      exact zt_iret dX10_column_26 ⟨by congr 2; (repeat' split) <;> first | rfl | omega, rfl, rfl, rfl⟩
  · refine zt_aload_n dX10_column_5 rfl ?_
    refine zt_getv dX10_column_6 fl_X10_54 (zs_0 hS) (rf_0_6 hR) ?_
    refine zt_get dX10_column_9 fl_X10_229 (zs_18 hS) ?_
    exact zt_iret dX10_column_12 ⟨by congr 2; (repeat' split) <;> first | rfl | omega, rfl, rfl, rfl⟩

set_option maxRecDepth 100000 in
set_option maxHeartbeats 4000000 in
theorem c_xrow {d n : Nat} {sh : zSh} {h : zMem} {x : Int} (hS : zShp sh) (hR : zRf h) (hTb : xTb sh h) (hx : zi32 x) (hr0 : rOK h) : zF yX10_row cX10_row 2 (some .int) (d + 2) 0 0 [(2, 0), (0, x)] n sh h (some (0, (if rTok h x then h 26 0 + 1 else -1))) n sh (if rTok h x then rTel h x else h) := by
  refine zF.ofT (by decide +kernel) [some (2, 0), some (0, x)] rfl (Nat.le_of_ble_eq_true rfl) ?_
  have x1 := hTb.1
  refine zt_rg (fun hm => ?_)
  refine zt_aload_n dX10_row_0 rfl ?_
  refine zt_getv dX10_row_1 fl_X10_68 (zs_0 hS) (rf_0_8 hR) ?_
  refine zt_iload_n dX10_row_4 rfl ?_
  refine zt_callV1r dX10_row_5 ml_X10_239 (zs_26 hS) (Nat.le_of_ble_eq_true rfl) (c_rtell hS hR hr0 (by omega)) ?_
  refine zt_ifb_eq (tgt := 21) dX10_row_8 (by decide) (fun c_8 => ?_) (fun c_8 => ?_)
  · rw [if_neg c_8, if_neg c_8]
    refine zt_iconst dX10_row_21 ?_
    exact zt_iret dX10_row_22 ⟨rfl, rfl, rfl, rfl⟩
  · rw [if_pos c_8, if_pos c_8]
    refine zt_aload_n dX10_row_11 rfl ?_
    refine zt_getv dX10_row_12 fl_X10_68 (zs_0 hS) (rf_0_8 ((hR.upA (by decide)).up (by decide))) ?_
    refine zt_getv (v := h 26 0 + 1) dX10_row_15 fl_X10_243 (zs_26 hS) zupE ?_
    refine zt_goto (tgt := 22) dX10_row_18 (by decide) ?_
    exact zt_iret dX10_row_22 ⟨rfl, rfl, rfl, rfl⟩

set_option maxRecDepth 100000 in
set_option maxHeartbeats 4000000 in
theorem c_xclr {d n : Nat} {sh : zSh} {h : zMem} (hS : zShp sh) (hR : zRf h) (hTb : xTb sh h)  : zF yX10_clear cX10_clear 2 (some .int) (d + 0) 0 0 [(2, 0)] n sh h (some (0, h 26 0)) n sh (zup h 26 0 0) := by
  refine zF.ofT (by decide +kernel) [some (2, 0), none] rfl (Nat.le_of_ble_eq_true rfl) ?_
  have x1 := hTb.1
  refine zt_rg (fun hm => ?_)
  refine zt_aload_n dX10_clear_0 rfl ?_
  refine zt_getv dX10_clear_1 fl_X10_68 (zs_0 hS) (rf_0_8 hR) ?_
  refine zt_get dX10_clear_4 fl_X10_243 (zs_26 hS) ?_
  refine zt_istore_n_1 dX10_clear_7 (by decide) rfl ?_
  refine zt_aload_n dX10_clear_8 rfl ?_
  refine zt_getv dX10_clear_9 fl_X10_68 (zs_0 hS) (rf_0_8 hR) ?_
  refine zt_iconst dX10_clear_12 ?_
  refine zt_puti dX10_clear_13 fl_X10_243 rfl (zs_26 hS) (by decide) ?_
  refine zt_iload_n dX10_clear_16 rfl ?_
  exact zt_iret dX10_clear_17 ⟨rfl, rfl, rfl, rfl⟩

set_option maxRecDepth 100000 in
set_option maxHeartbeats 4000000 in
theorem c_xmid {d n : Nat} {sh : zSh} {h : zMem} {i a b : Int} (hS : zShp sh) (hR : zRf h) (hTb : xTb sh h) (hi : zi32 i) (ha : zi32 a) (hb : zi32 b) (hr0 : rOK h) : zF yX10_middle cX10_middle 4 (some .int) (d + 3) 0 0 [(2, 0), (0, i), (0, a), (0, b)] n sh h (some (0, rMid h i a b)) n sh h := by
  refine zF.ofT (by decide +kernel) [some (2, 0), some (0, i), some (0, a), some (0, b)] rfl (Nat.le_of_ble_eq_true rfl) ?_
  have x1 := hTb.1
  refine zt_rg (fun hm => ?_)
  refine zt_aload_n dX10_middle_0 rfl ?_
  refine zt_getv dX10_middle_1 fl_X10_68 (zs_0 hS) (rf_0_8 hR) ?_
  refine zt_iload_n dX10_middle_4 rfl ?_
  refine zt_iload_n dX10_middle_5 rfl ?_
  refine zt_iload_n dX10_middle_6 rfl ?_
  refine zt_callV3r dX10_middle_7 ml_X10_258 (zs_26 hS) (Nat.le_of_ble_eq_true rfl) (c_rmid hS hR hr0 (by omega) (by omega) (by omega)) ?_
  exact zt_iret dX10_middle_10 ⟨rfl, rfl, rfl, rfl⟩

set_option maxRecDepth 100000 in
set_option maxHeartbeats 4000000 in
theorem c_xbnd {d n : Nat} {sh : zSh} {h : zMem} {i : Int} (hS : zShp sh) (hR : zRf h) (hTb : xTb sh h) (hi : zi32 i) (hr0 : rOK h) : zF yX10_bound cX10_bound 2 (some .int) (d + 4) 0 0 [(2, 0), (0, i)] n sh h (some (0, rBo h i)) n sh h := by
  refine zF.ofT (by decide +kernel) [some (2, 0), some (0, i)] rfl (Nat.le_of_ble_eq_true rfl) ?_
  have x1 := hTb.1
  refine zt_rg (fun hm => ?_)
  refine zt_aload_n dX10_bound_0 rfl ?_
  refine zt_getv dX10_bound_1 fl_X10_68 (zs_0 hS) (rf_0_8 hR) ?_
  refine zt_iload_n dX10_bound_4 rfl ?_
  refine zt_callV1r dX10_bound_5 ml_X10_261 (zs_26 hS) (Nat.le_of_ble_eq_true rfl) (c_rbo hS hR hr0 (by omega)) ?_
  exact zt_iret dX10_bound_8 ⟨rfl, rfl, rfl, rfl⟩

set_option maxRecDepth 100000 in
set_option maxHeartbeats 4000000 in
theorem c_xlay {d n : Nat} {sh : zSh} {h : zMem} {p a b : Int} (hS : zShp sh) (hR : zRf h) (hTb : xTb sh h) (hp : zi32 p) (ha : zi32 a) (hb : zi32 b) : zF yX10_lay cX10_lay 5 (some .int) (d + 4) 0 0 [(2, 0), (0, p), (0, a), (0, b)] n sh h (some (0, (if xT h p ∧ (1 ≤ b ∧ b ≤ 20) ∧ 0 ≤ a ∧ a ≤ h (xAt h p) 0 - b then zS (fun j => zb (rLv h (xAt h p) a j ≠ -2147483648)) 0 b else -1))) n sh (if xT h p ∧ (1 ≤ b ∧ b ≤ 20) ∧ 0 ≤ a ∧ a ≤ h (xAt h p) 0 - b then rLm h (xAt h p) a b b else h) := by
  refine zF.ofT (by decide +kernel) [some (2, 0), some (0, p), some (0, a), some (0, b), none] rfl (Nat.le_of_ble_eq_true rfl) ?_
  have x1 := hTb.1
  refine zt_rg (fun hm => ?_)
  refine zt_aload_n dX10_lay_0 rfl ?_
  refine zt_iload_n dX10_lay_1 rfl ?_
  refine zt_callV1r dX10_lay_2 ml_X10_159 (zs_0 hS) (Nat.le_of_ble_eq_true rfl) (c_xtA hS hR hTb (by omega)) ?_
  refine zt_astore_4 dX10_lay_5 (by decide) rfl ?_
  refine zt_aload dX10_lay_7 rfl ?_
  refine zt_ifnull (tgt := 23) dX10_lay_9 (by decide) (fun c_9 => ?_) (fun c_9 => ?_)
  · have hnt := xAt_0 hTb c_9
    refine zt_iconst dX10_lay_23 ?_
    exact zt_iret dX10_lay_24 ⟨by first | rfl | (rw [if_pos (by omega)]; done) | (rw [if_neg (by omega)]; done) | (rw [zb_t (by omega)]; done) | (rw [zb_f (by omega)]; done), rfl, rfl, by first | rfl | (rw [if_pos (by omega)]; done) | (rw [if_neg (by omega)]; done)⟩
  · obtain ⟨hxT, hT, hTk⟩ := xAt_1 hTb c_9
    obtain ⟨t, htd⟩ : ∃ t, t = xAt h p := ⟨_, rfl⟩
    rw [← htd] at hT hTk ⊢
    have hE := hT.2.2.1
    refine zt_iload_n dX10_lay_12 rfl ?_
    refine zt_iconst dX10_lay_13 ?_
    refine zt_icmp_lt (tgt := 23) dX10_lay_14 (by decide) (by omega) (by decide) (fun c_14 => ?_) (fun c_14 => ?_)
    · refine zt_iconst dX10_lay_23 ?_
      exact zt_iret dX10_lay_24 ⟨by first | rfl | (rw [if_pos (by omega)]; done) | (rw [if_neg (by omega)]; done) | (rw [zb_t (by omega)]; done) | (rw [zb_f (by omega)]; done), rfl, rfl, by first | rfl | (rw [if_pos (by omega)]; done) | (rw [if_neg (by omega)]; done)⟩
    · refine zt_iload_n dX10_lay_17 rfl ?_
      refine zt_bipush dX10_lay_18 (by decide) ?_
      refine zt_icmp_le (tgt := 25) dX10_lay_20 (by decide) (by omega) (by decide) (fun c_20 => ?_) (fun c_20 => ?_)
      · refine zt_iload_n dX10_lay_25 rfl ?_
        refine zt_if_lt (tgt := 40) dX10_lay_26 (by decide) (by omega) (fun c_26 => ?_) (fun c_26 => ?_)
        · refine zt_iconst dX10_lay_40 ?_
          exact zt_iret dX10_lay_41 ⟨by first | rfl | (rw [if_pos (by omega)]; done) | (rw [if_neg (by omega)]; done) | (rw [zb_t (by omega)]; done) | (rw [zb_f (by omega)]; done), rfl, rfl, by first | rfl | (rw [if_pos (by omega)]; done) | (rw [if_neg (by omega)]; done)⟩
        · refine zt_iload_n dX10_lay_29 rfl ?_
          refine zt_aload dX10_lay_30 rfl ?_
          refine zt_get dX10_lay_32 fl_X10_149 hT.sh ?_
          refine zt_iload_n dX10_lay_35 rfl ?_
          refine zt_isub dX10_lay_36 ?_
          refine zt_icmp_le (tgt := 42) dX10_lay_37 (by decide) (by omega) (by omega) (fun c_37 => ?_) (fun c_37 => ?_)
          · refine zt_aload_n dX10_lay_42 rfl ?_
            refine zt_getv dX10_lay_43 fl_X10_68 (zs_0 hS) (rf_0_8 hR) ?_
            refine zt_aload dX10_lay_46 rfl ?_
            refine zt_iload_n dX10_lay_48 rfl ?_
            refine zt_iload_n dX10_lay_49 rfl ?_
            refine zt_callV3r dX10_lay_50 ml_X10_244 (zs_26 hS) (Nat.le_of_ble_eq_true rfl) (c_lay hS hR hT (by omega)) ?_
            exact zt_iret dX10_lay_53 ⟨by first | rfl | (rw [if_pos (by omega)]; done) | (rw [if_neg (by omega)]; done) | (rw [zb_t (by omega)]; done) | (rw [zb_f (by omega)]; done), rfl, rfl, by first | rfl | (rw [if_pos (by omega)]; done) | (rw [if_neg (by omega)]; done)⟩
          · refine zt_iconst dX10_lay_40 ?_
            exact zt_iret dX10_lay_41 ⟨by first | rfl | (rw [if_pos (by omega)]; done) | (rw [if_neg (by omega)]; done) | (rw [zb_t (by omega)]; done) | (rw [zb_f (by omega)]; done), rfl, rfl, by first | rfl | (rw [if_pos (by omega)]; done) | (rw [if_neg (by omega)]; done)⟩
      · refine zt_iconst dX10_lay_23 ?_
        exact zt_iret dX10_lay_24 ⟨by first | rfl | (rw [if_pos (by omega)]; done) | (rw [if_neg (by omega)]; done) | (rw [zb_t (by omega)]; done) | (rw [zb_f (by omega)]; done), rfl, rfl, by first | rfl | (rw [if_pos (by omega)]; done) | (rw [if_neg (by omega)]; done)⟩

set_option maxRecDepth 100000 in
set_option maxHeartbeats 4000000 in
theorem c_xhard {d n : Nat} {sh : zSh} {h : zMem} {x : Int} (hS : zShp sh) (hR : zRf h) (hTb : xTb sh h) (hx : zi32 x) : zF yX10_hard cX10_hard 2 (some .boolean) (d + 0) 0 0 [(2, 0), (0, x)] n sh h (some (0, zb (100 ≤ x ∧ x ≤ 5000))) n sh (if 100 ≤ x ∧ x ≤ 5000 then zup h 0 13 x else h) := by
  refine zF.ofT (by decide +kernel) [some (2, 0), some (0, x)] rfl (Nat.le_of_ble_eq_true rfl) ?_
  have x1 := hTb.1
  refine zt_rg (fun hm => ?_)
  refine zt_iload_n dX10_hard_0 rfl ?_
  refine zt_bipush dX10_hard_1 (by decide) ?_
  refine zt_icmp_lt (tgt := 13) dX10_hard_3 (by decide) (by omega) (by decide) (fun c_3 => ?_) (fun c_3 => ?_)
  · refine zt_iconst dX10_hard_13 ?_
    exact zt_zret dX10_hard_14 (by decide) ⟨by first | rfl | (rw [if_pos (by omega)]; done) | (rw [if_neg (by omega)]; done) | (rw [zb_t (by omega)]; done) | (rw [zb_f (by omega)]; done), rfl, rfl, by first | rfl | (rw [if_pos (by omega)]; done) | (rw [if_neg (by omega)]; done)⟩
  · refine zt_iload_n dX10_hard_6 rfl ?_
    refine zt_sipush dX10_hard_7 (by decide) ?_
    refine zt_icmp_le (tgt := 15) dX10_hard_10 (by decide) (by omega) (by decide) (fun c_10 => ?_) (fun c_10 => ?_)
    · refine zt_aload_n dX10_hard_15 rfl ?_
      refine zt_iload_n dX10_hard_16 rfl ?_
      refine zt_puti dX10_hard_17 fl_X10_79 rfl (zs_0 hS) (by omega) ?_
      refine zt_iconst dX10_hard_20 ?_
      exact zt_zret dX10_hard_21 (by decide) ⟨by first | rfl | (rw [if_pos (by omega)]; done) | (rw [if_neg (by omega)]; done) | (rw [zb_t (by omega)]; done) | (rw [zb_f (by omega)]; done), rfl, rfl, by first | rfl | (rw [if_pos (by omega)]; done) | (rw [if_neg (by omega)]; done)⟩
    · refine zt_iconst dX10_hard_13 ?_
      exact zt_zret dX10_hard_14 (by decide) ⟨by first | rfl | (rw [if_pos (by omega)]; done) | (rw [if_neg (by omega)]; done) | (rw [zb_t (by omega)]; done) | (rw [zb_f (by omega)]; done), rfl, rfl, by first | rfl | (rw [if_pos (by omega)]; done) | (rw [if_neg (by omega)]; done)⟩

set_option maxRecDepth 100000 in
set_option maxHeartbeats 4000000 in
theorem c_xmend {d n : Nat} {sh : zSh} {h : zMem} {p e : Int} (hS : zShp sh) (hR : zRf h) (hTb : xTb sh h) (hp : zi32 p) (he : zi32 e) : zF yX10_mend cX10_mend 4 (some .boolean) (d + 2) 0 0 [(2, 0), (0, p), (0, e)] n sh h (some (0, zb (((0 ≤ p ∧ p < h 0 11) ∧ h (xAt h p) 11 ≠ 0) ∧ tAg h (xAt h p) e))) n sh (if ((0 ≤ p ∧ p < h 0 11) ∧ h (xAt h p) 11 ≠ 0) ∧ tAg h (xAt h p) e then zup h (xAt h p + 9) e 0 else h) := by
  refine zF.ofT (by decide +kernel) [some (2, 0), some (0, p), some (0, e), none] rfl (Nat.le_of_ble_eq_true rfl) ?_
  have x1 := hTb.1
  refine zt_rg (fun hm => ?_)
  refine zt_aload_n dX10_mend_0 rfl ?_
  refine zt_iload_n dX10_mend_1 rfl ?_
  refine zt_callV1r dX10_mend_2 ml_X10_274 (zs_0 hS) (Nat.le_of_ble_eq_true rfl) (c_xpA hS hR hTb (by omega)) ?_
  refine zt_astore_n_3 dX10_mend_5 (by decide) rfl ?_
  refine zt_aload_n dX10_mend_6 rfl ?_
  refine zt_ifnull (tgt := 18) dX10_mend_7 (by decide) (fun c_7 => ?_) (fun c_7 => ?_)
  · have hnt := yAt_0 hTb c_7
    refine zt_iconst dX10_mend_18 ?_
    exact zt_zret dX10_mend_19 (by decide) ⟨by first | rfl | (rw [if_pos (by omega)]; done) | (rw [if_neg (by omega)]; done) | (rw [zb_t (by omega)]; done) | (rw [zb_f (by omega)]; done), rfl, rfl, by first | rfl | (rw [if_pos (by omega)]; done) | (rw [if_neg (by omega)]; done)⟩
  · obtain ⟨hyx, hxT, hT, hTk⟩ := yAt_1 hTb c_7
    obtain ⟨t, htd⟩ : ∃ t, t = xAt h p := ⟨_, rfl⟩
    rw [hyx]
    rw [← htd] at hxT hT hTk ⊢
    have hE := hT.2.2.1
    refine zt_aload_n dX10_mend_10 rfl ?_
    refine zt_iload_n dX10_mend_11 rfl ?_
    refine zt_callV1r dX10_mend_12 ml_X10_285 hT.sh (Nat.le_of_ble_eq_true rfl) (c_tag hT (by omega)) ?_
    refine zt_ifb_ne (tgt := 20) dX10_mend_15 (by decide) (fun c_15 => ?_) (fun c_15 => ?_)
    · refine zt_aload_n dX10_mend_20 rfl ?_
      refine zt_getv (v := t + 9) dX10_mend_21 fl_X10_288 hT.sh (hT.rf 9 (by decide) (by decide)) ?_
      refine zt_iload_n dX10_mend_24 rfl ?_
      refine zt_iconst dX10_mend_25 ?_
      refine zt_iastore dX10_mend_26 (hT.ar 9 (by decide) (by decide)) (by decide) (by omega) (by omega) (by decide) ?_
      refine zt_iconst dX10_mend_27 ?_
      exact zt_zret dX10_mend_28 (by decide) ⟨by first | rfl | (rw [if_pos (by omega)]; done) | (rw [if_neg (by omega)]; done) | (rw [zb_t (by omega)]; done) | (rw [zb_f (by omega)]; done), rfl, rfl, by first | rfl | (rw [if_pos (by omega)]; done) | (rw [if_neg (by omega)]; done)⟩
    · refine zt_iconst dX10_mend_18 ?_
      exact zt_zret dX10_mend_19 (by decide) ⟨by first | rfl | (rw [if_pos (by omega)]; done) | (rw [if_neg (by omega)]; done) | (rw [zb_t (by omega)]; done) | (rw [zb_f (by omega)]; done), rfl, rfl, by first | rfl | (rw [if_pos (by omega)]; done) | (rw [if_neg (by omega)]; done)⟩

set_option maxRecDepth 100000 in
set_option maxHeartbeats 4000000 in
theorem c_xread {d n : Nat} {sh : zSh} {h : zMem} {p e : Int} (hS : zShp sh) (hR : zRf h) (hTb : xTb sh h) (hp : zi32 p) (he : zi32 e) (hf : xP h p → tAg h (xAt h p) e → -999999999 ≤ h (xAt h p + 4) e ∧ h (xAt h p + 4) e ≤ 999999999) : zF yX10_read cX10_read 4 (some .int) (d + 3) 0 0 [(2, 0), (0, p), (0, e)] n sh h (some (0, (if ((0 ≤ p ∧ p < h 0 11) ∧ h (xAt h p) 11 ≠ 0) then tRd h (xAt h p) e else -2147483648))) n sh h := by
  refine zF.ofT (by decide +kernel) [some (2, 0), some (0, p), some (0, e), none] rfl (Nat.le_of_ble_eq_true rfl) ?_
  have x1 := hTb.1
  refine zt_rg (fun hm => ?_)
  refine zt_aload_n dX10_read_0 rfl ?_
  refine zt_iload_n dX10_read_1 rfl ?_
  refine zt_callV1r dX10_read_2 ml_X10_274 (zs_0 hS) (Nat.le_of_ble_eq_true rfl) (c_xpA hS hR hTb (by omega)) ?_
  refine zt_astore_n_3 dX10_read_5 (by decide) rfl ?_
  refine zt_aload_n dX10_read_6 rfl ?_
  refine zt_ifnonnull (tgt := 15) dX10_read_7 (by decide) (fun c_7 => ?_) (fun c_7 => ?_)
  · obtain ⟨hyx, hxT, hT, hTk⟩ := yAt_1 hTb c_7
    obtain ⟨t, htd⟩ : ∃ t, t = xAt h p := ⟨_, rfl⟩
    rw [hyx]
    rw [← htd] at hxT hT hTk ⊢
    have hE := hT.2.2.1
    refine zt_aload_n dX10_read_15 rfl ?_
    refine zt_iload_n dX10_read_16 rfl ?_
    refine zt_callV1r dX10_read_17 ml_X10_291 hT.sh (Nat.le_of_ble_eq_true rfl) (c_tread hT (by omega) (fun q => by rw [htd] at q ⊢; exact hf (by rw [htd] at hxT; exact hxT) q)) ?_
    exact zt_iret dX10_read_20 ⟨by first | rfl | (rw [if_pos (by omega)]; done) | (rw [if_neg (by omega)]; done) | (rw [zb_t (by omega)]; done) | (rw [zb_f (by omega)]; done), rfl, rfl, rfl⟩
  · have hnt := yAt_0 hTb c_7
    refine zt_ldc dX10_read_10 kc_X10_118 ?_
    refine zt_goto (tgt := 20) dX10_read_12 (by decide) ?_
    exact zt_iret dX10_read_20 ⟨by first | rfl | (rw [if_pos (by omega)]; done) | (rw [if_neg (by omega)]; done) | (rw [zb_t (by omega)]; done) | (rw [zb_f (by omega)]; done), rfl, rfl, rfl⟩

set_option maxRecDepth 100000 in
set_option maxHeartbeats 4000000 in
theorem c_xerr {d n : Nat} {sh : zSh} {h : zMem} {p e x y : Int} (hS : zShp sh) (hR : zRf h) (hTb : xTb sh h) (hp : zi32 p) (he : zi32 e) (hx : zi32 x) (hy : zi32 y) (hc : 0 ≤ h 32 0 ∧ h 32 0 ≤ 40) : zF yX10_erratum cX10_erratum 6 (some .int) (d + 2) 0 0 [(2, 0), (0, p), (0, e), (0, x), (0, y)] n sh h (some (0, (if ((((0 ≤ p ∧ p < h 0 11) ∧ h (xAt h p) 11 ≠ 0) ∧ tAg h (xAt h p) e) ∧ (-999999999 ≤ x ∧ x ≤ 999999999) ∧ (-999999999 ≤ y ∧ y ≤ 999999999)) ∧ h 32 0 < 40 then h 32 0 else -1))) n sh (if ((((0 ≤ p ∧ p < h 0 11) ∧ h (xAt h p) 11 ≠ 0) ∧ tAg h (xAt h p) e) ∧ (-999999999 ≤ x ∧ x ≤ 999999999) ∧ (-999999999 ≤ y ∧ y ≤ 999999999)) ∧ h 32 0 < 40 then eTell h p e x y (h 0 12) else h) := by
  refine zF.ofT (by decide +kernel) [some (2, 0), some (0, p), some (0, e), some (0, x), some (0, y), none] rfl (Nat.le_of_ble_eq_true rfl) ?_
  have x1 := hTb.1
  refine zt_rg (fun hm => ?_)
  refine zt_aload_n dX10_erratum_0 rfl ?_
  refine zt_iload_n dX10_erratum_1 rfl ?_
  refine zt_callV1r dX10_erratum_2 ml_X10_274 (zs_0 hS) (Nat.le_of_ble_eq_true rfl) (c_xpA hS hR hTb (by omega)) ?_
  refine zt_astore_5 dX10_erratum_5 (by decide) rfl ?_
  refine zt_aload dX10_erratum_7 rfl ?_
  refine zt_ifnull (tgt := 36) dX10_erratum_9 (by decide) (fun c_9 => ?_) (fun c_9 => ?_)
  · have hnt := yAt_0 hTb c_9
    refine zt_iconst dX10_erratum_36 ?_
    exact zt_iret dX10_erratum_37 ⟨by first | (rw [if_neg (by omega)]; done) | (by_cases q : h 32 0 < 40; (rw [if_pos q, if_pos (by omega)]); (rw [if_neg q, if_neg (by omega)])), rfl, rfl, by first | (rw [if_neg (by omega)]; done) | (by_cases q : h 32 0 < 40; (rw [if_pos q, if_pos (by omega)]); (rw [if_neg q, if_neg (by omega)]))⟩
  · obtain ⟨hyx, hxT, hT, hTk⟩ := yAt_1 hTb c_9
    obtain ⟨t, htd⟩ : ∃ t, t = xAt h p := ⟨_, rfl⟩
    rw [hyx]
    rw [← htd] at hxT hT hTk ⊢
    have hE := hT.2.2.1
    refine zt_aload dX10_erratum_12 rfl ?_
    refine zt_iload_n dX10_erratum_14 rfl ?_
    refine zt_callV1r dX10_erratum_15 ml_X10_285 hT.sh (Nat.le_of_ble_eq_true rfl) (c_tag hT (by omega)) ?_
    refine zt_ifb_eq (tgt := 36) dX10_erratum_18 (by decide) (fun c_18 => ?_) (fun c_18 => ?_)
    · refine zt_iconst dX10_erratum_36 ?_
      exact zt_iret dX10_erratum_37 ⟨by first | (rw [if_neg (by omega)]; done) | (by_cases q : h 32 0 < 40; (rw [if_pos q, if_pos (by omega)]); (rw [if_neg q, if_neg (by omega)])), rfl, rfl, by first | (rw [if_neg (by omega)]; done) | (by_cases q : h 32 0 < 40; (rw [if_pos q, if_pos (by omega)]); (rw [if_neg q, if_neg (by omega)]))⟩
    · refine zt_iload_n dX10_erratum_21 rfl ?_
      refine zt_callS1r dX10_erratum_22 ml_X10_294 (Nat.le_of_ble_eq_true rfl) (c_writable (by omega)) ?_
      refine zt_ifb_eq (tgt := 36) dX10_erratum_25 (by decide) (fun c_25 => ?_) (fun c_25 => ?_)
      · refine zt_iconst dX10_erratum_36 ?_
        exact zt_iret dX10_erratum_37 ⟨by first | (rw [if_neg (by omega)]; done) | (by_cases q : h 32 0 < 40; (rw [if_pos q, if_pos (by omega)]); (rw [if_neg q, if_neg (by omega)])), rfl, rfl, by first | (rw [if_neg (by omega)]; done) | (by_cases q : h 32 0 < 40; (rw [if_pos q, if_pos (by omega)]); (rw [if_neg q, if_neg (by omega)]))⟩
      · refine zt_iload dX10_erratum_28 rfl ?_
        refine zt_callS1r dX10_erratum_30 ml_X10_294 (Nat.le_of_ble_eq_true rfl) (c_writable (by omega)) ?_
        refine zt_ifb_ne (tgt := 38) dX10_erratum_33 (by decide) (fun c_33 => ?_) (fun c_33 => ?_)
        · refine zt_aload_n dX10_erratum_38 rfl ?_
          refine zt_getv dX10_erratum_39 fl_X10_75 (zs_0 hS) (rf_0_9 hR) ?_
          refine zt_iload_n dX10_erratum_42 rfl ?_
          refine zt_iload_n dX10_erratum_43 rfl ?_
          refine zt_iload_n dX10_erratum_44 rfl ?_
          refine zt_iload dX10_erratum_45 rfl ?_
          refine zt_aload_n dX10_erratum_47 rfl ?_
          refine zt_get dX10_erratum_48 fl_X10_135 (zs_0 hS) ?_
          refine zt_callV5r dX10_erratum_51 ml_X10_297 (zs_32 hS) (Nat.le_of_ble_eq_true rfl) (c_etell hS hR hc (by omega) (by omega) (by omega) (by omega) (hm.fld (j := 12) (zs_0 hS) (by decide) (by decide) (by decide))) ?_
          exact zt_iret dX10_erratum_54 ⟨by first | (rw [if_neg (by omega)]; done) | (by_cases q : h 32 0 < 40; (rw [if_pos q, if_pos (by omega)]); (rw [if_neg q, if_neg (by omega)])), rfl, rfl, by first | (rw [if_neg (by omega)]; done) | (by_cases q : h 32 0 < 40; (rw [if_pos q, if_pos (by omega)]); (rw [if_neg q, if_neg (by omega)]))⟩
        · refine zt_iconst dX10_erratum_36 ?_
          exact zt_iret dX10_erratum_37 ⟨by first | (rw [if_neg (by omega)]; done) | (by_cases q : h 32 0 < 40; (rw [if_pos q, if_pos (by omega)]); (rw [if_neg q, if_neg (by omega)])), rfl, rfl, by first | (rw [if_neg (by omega)]; done) | (by_cases q : h 32 0 < 40; (rw [if_pos q, if_pos (by omega)]); (rw [if_neg q, if_neg (by omega)]))⟩

set_option maxRecDepth 100000 in
set_option maxHeartbeats 4000000 in
theorem c_xkn {d n : Nat} {sh : zSh} {h : zMem} {p e x : Int} (hS : zShp sh) (hR : zRf h) (hTb : xTb sh h) (hp : zi32 p) (he : zi32 e) (hx : zi32 x) (hc : 0 ≤ h 32 0 ∧ h 32 0 ≤ 40) : zF yX10_known cX10_known 5 (some .int) (d + 3) 0 0 [(2, 0), (0, p), (0, e), (0, x)] n sh h (some (0, (if (((0 ≤ p ∧ p < h 0 11) ∧ h (xAt h p) 11 ≠ 0) ∧ tAg h (xAt h p) e) ∧ 0 ≤ x ∧ x ≤ 999 then zFor (eAp h p e x) 0 (h 32 0) (tFig h (xAt h p) e) else -2147483648))) n sh h := by
  refine zF.ofT (by decide +kernel) [some (2, 0), some (0, p), some (0, e), some (0, x), none] rfl (Nat.le_of_ble_eq_true rfl) ?_
  have x1 := hTb.1
  refine zt_rg (fun hm => ?_)
  refine zt_aload_n dX10_known_0 rfl ?_
  refine zt_iload_n dX10_known_1 rfl ?_
  refine zt_callV1r dX10_known_2 ml_X10_274 (zs_0 hS) (Nat.le_of_ble_eq_true rfl) (c_xpA hS hR hTb (by omega)) ?_
  refine zt_astore_4 dX10_known_5 (by decide) rfl ?_
  refine zt_aload dX10_known_7 rfl ?_
  refine zt_ifnull (tgt := 32) dX10_known_9 (by decide) (fun c_9 => ?_) (fun c_9 => ?_)
  · have hnt := yAt_0 hTb c_9
    refine zt_ldc dX10_known_32 kc_X10_118 ?_
    exact zt_iret dX10_known_34 ⟨by first | rfl | (rw [if_pos (by omega)]; done) | (rw [if_neg (by omega)]; done) | (rw [zb_t (by omega)]; done) | (rw [zb_f (by omega)]; done), rfl, rfl, rfl⟩
  · obtain ⟨hyx, hxT, hT, hTk⟩ := yAt_1 hTb c_9
    obtain ⟨t, htd⟩ : ∃ t, t = xAt h p := ⟨_, rfl⟩
    rw [hyx]
    rw [← htd] at hxT hT hTk ⊢
    have hE := hT.2.2.1
    refine zt_aload dX10_known_12 rfl ?_
    refine zt_iload_n dX10_known_14 rfl ?_
    refine zt_callV1r dX10_known_15 ml_X10_285 hT.sh (Nat.le_of_ble_eq_true rfl) (c_tag hT (by omega)) ?_
    refine zt_ifb_eq (tgt := 32) dX10_known_18 (by decide) (fun c_18 => ?_) (fun c_18 => ?_)
    · refine zt_ldc dX10_known_32 kc_X10_118 ?_
      exact zt_iret dX10_known_34 ⟨by first | rfl | (rw [if_pos (by omega)]; done) | (rw [if_neg (by omega)]; done) | (rw [zb_t (by omega)]; done) | (rw [zb_f (by omega)]; done), rfl, rfl, rfl⟩
    · refine zt_iload_n dX10_known_21 rfl ?_
      refine zt_if_lt (tgt := 32) dX10_known_22 (by decide) (by omega) (fun c_22 => ?_) (fun c_22 => ?_)
      · refine zt_ldc dX10_known_32 kc_X10_118 ?_
        exact zt_iret dX10_known_34 ⟨by first | rfl | (rw [if_pos (by omega)]; done) | (rw [if_neg (by omega)]; done) | (rw [zb_t (by omega)]; done) | (rw [zb_f (by omega)]; done), rfl, rfl, rfl⟩
      · refine zt_iload_n dX10_known_25 rfl ?_
        refine zt_sipush dX10_known_26 (by decide) ?_
        refine zt_icmp_le (tgt := 35) dX10_known_29 (by decide) (by omega) (by decide) (fun c_29 => ?_) (fun c_29 => ?_)
        · refine zt_aload_n dX10_known_35 rfl ?_
          refine zt_getv dX10_known_36 fl_X10_75 (zs_0 hS) (rf_0_9 hR) ?_
          refine zt_iload_n dX10_known_39 rfl ?_
          refine zt_iload_n dX10_known_40 rfl ?_
          refine zt_aload dX10_known_41 rfl ?_
          refine zt_iload_n dX10_known_43 rfl ?_
          refine zt_callV1r dX10_known_44 ml_X10_191 hT.sh (Nat.le_of_ble_eq_true rfl) (c_tfig hT (by omega)) ?_
          refine zt_aload_n dX10_known_47 rfl ?_
          refine zt_getv dX10_known_48 fl_X10_75 (zs_0 hS) (rf_0_9 hR) ?_
          refine zt_get dX10_known_51 fl_X10_314 (zs_32 hS) ?_
          refine zt_iload_n dX10_known_54 rfl ?_
          refine zt_callV5r dX10_known_55 ml_X10_308 (zs_32 hS) (Nat.le_of_ble_eq_true rfl) (c_eap hS hR hc (by omega) (by omega) (tFig_zi hT hm) (by omega) (by omega)) ?_
          exact zt_iret dX10_known_58 ⟨by first | rfl | (rw [if_pos (by omega)]; done) | (rw [if_neg (by omega)]; done) | (rw [zb_t (by omega)]; done) | (rw [zb_f (by omega)]; done), rfl, rfl, rfl⟩
        · refine zt_ldc dX10_known_32 kc_X10_118 ?_
          exact zt_iret dX10_known_34 ⟨by first | rfl | (rw [if_pos (by omega)]; done) | (rw [if_neg (by omega)]; done) | (rw [zb_t (by omega)]; done) | (rw [zb_f (by omega)]; done), rfl, rfl, rfl⟩

set_option maxRecDepth 100000 in
set_option maxHeartbeats 4000000 in
theorem c_xriv {d n : Nat} {sh : zSh} {h : zMem} {p e x : Int} (hS : zShp sh) (hR : zRf h) (hTb : xTb sh h) (hp : zi32 p) (he : zi32 e) (hx : zi32 x) : zF yX10_rival cX10_rival 5 (some .boolean) (d + 2) 0 0 [(2, 0), (0, p), (0, e), (0, x)] n sh h (some (0, zb (((0 ≤ p ∧ p < h 0 11) ∧ h (xAt h p) 11 ≠ 0) ∧ tHas h (xAt h p) e ∧ (x = -2147483648 ∨ (-999999999 ≤ x ∧ x ≤ 999999999))))) n sh (if ((0 ≤ p ∧ p < h 0 11) ∧ h (xAt h p) 11 ≠ 0) ∧ tHas h (xAt h p) e ∧ (x = -2147483648 ∨ (-999999999 ≤ x ∧ x ≤ 999999999)) then zup h (xAt h p + 10) e x else h) := by
  refine zF.ofT (by decide +kernel) [some (2, 0), some (0, p), some (0, e), some (0, x), none] rfl (Nat.le_of_ble_eq_true rfl) ?_
  have x1 := hTb.1
  refine zt_rg (fun hm => ?_)
  refine zt_aload_n dX10_rival_0 rfl ?_
  refine zt_iload_n dX10_rival_1 rfl ?_
  refine zt_callV1r dX10_rival_2 ml_X10_274 (zs_0 hS) (Nat.le_of_ble_eq_true rfl) (c_xpA hS hR hTb (by omega)) ?_
  refine zt_astore_4 dX10_rival_5 (by decide) rfl ?_
  refine zt_aload dX10_rival_7 rfl ?_
  refine zt_ifnull (tgt := 34) dX10_rival_9 (by decide) (fun c_9 => ?_) (fun c_9 => ?_)
  · have hnt := yAt_0 hTb c_9
    refine zt_iconst dX10_rival_34 ?_
    exact zt_zret dX10_rival_35 (by decide) ⟨by first | rfl | (rw [if_pos (by omega)]; done) | (rw [if_neg (by omega)]; done) | (rw [zb_t (by omega)]; done) | (rw [zb_f (by omega)]; done), rfl, rfl, by first | rfl | (rw [if_pos (by omega)]; done) | (rw [if_neg (by omega)]; done)⟩
  · obtain ⟨hyx, hxT, hT, hTk⟩ := yAt_1 hTb c_9
    obtain ⟨t, htd⟩ : ∃ t, t = xAt h p := ⟨_, rfl⟩
    rw [hyx]
    rw [← htd] at hxT hT hTk ⊢
    have hE := hT.2.2.1
    refine zt_aload dX10_rival_12 rfl ?_
    refine zt_iload_n dX10_rival_14 rfl ?_
    refine zt_callV1r dX10_rival_15 ml_X10_315 hT.sh (Nat.le_of_ble_eq_true rfl) (c_thas hT (by omega)) ?_
    refine zt_ifb_eq (tgt := 34) dX10_rival_18 (by decide) (fun c_18 => ?_) (fun c_18 => ?_)
    · refine zt_iconst dX10_rival_34 ?_
      exact zt_zret dX10_rival_35 (by decide) ⟨by first | rfl | (rw [if_pos (by omega)]; done) | (rw [if_neg (by omega)]; done) | (rw [zb_t (by omega)]; done) | (rw [zb_f (by omega)]; done), rfl, rfl, by first | rfl | (rw [if_pos (by omega)]; done) | (rw [if_neg (by omega)]; done)⟩
    · refine zt_iload_n dX10_rival_21 rfl ?_
      refine zt_ldc dX10_rival_22 kc_X10_118 ?_
      refine zt_icmp_eq (tgt := 36) dX10_rival_24 (by decide) (by omega) (by decide) (fun c_24 => ?_) (fun c_24 => ?_)
      · refine zt_aload dX10_rival_36 rfl ?_
        refine zt_getv (v := t + 10) dX10_rival_38 fl_X10_316 hT.sh (hT.rf 10 (by decide) (by decide)) ?_
        refine zt_iload_n dX10_rival_41 rfl ?_
        refine zt_iload_n dX10_rival_42 rfl ?_
        refine zt_iastore dX10_rival_43 (hT.ar 10 (by decide) (by decide)) (by decide) (by omega) (by omega) (by omega) ?_
        refine zt_iconst dX10_rival_44 ?_
        exact zt_zret dX10_rival_45 (by decide) ⟨by first | rfl | (rw [if_pos (by omega)]; done) | (rw [if_neg (by omega)]; done) | (rw [zb_t (by omega)]; done) | (rw [zb_f (by omega)]; done), rfl, rfl, by first | rfl | (rw [if_pos (by omega)]; done) | (rw [if_neg (by omega)]; done)⟩
      · refine zt_iload_n dX10_rival_27 rfl ?_
        refine zt_callS1r dX10_rival_28 ml_X10_294 (Nat.le_of_ble_eq_true rfl) (c_writable (by omega)) ?_
        refine zt_ifb_ne (tgt := 36) dX10_rival_31 (by decide) (fun c_31 => ?_) (fun c_31 => ?_)
        · refine zt_aload dX10_rival_36 rfl ?_
          refine zt_getv (v := t + 10) dX10_rival_38 fl_X10_316 hT.sh (hT.rf 10 (by decide) (by decide)) ?_
          refine zt_iload_n dX10_rival_41 rfl ?_
          refine zt_iload_n dX10_rival_42 rfl ?_
          refine zt_iastore dX10_rival_43 (hT.ar 10 (by decide) (by decide)) (by decide) (by omega) (by omega) (by omega) ?_
          refine zt_iconst dX10_rival_44 ?_
          exact zt_zret dX10_rival_45 (by decide) ⟨by first | rfl | (rw [if_pos (by omega)]; done) | (rw [if_neg (by omega)]; done) | (rw [zb_t (by omega)]; done) | (rw [zb_f (by omega)]; done), rfl, rfl, by first | rfl | (rw [if_pos (by omega)]; done) | (rw [if_neg (by omega)]; done)⟩
        · refine zt_iconst dX10_rival_34 ?_
          exact zt_zret dX10_rival_35 (by decide) ⟨by first | rfl | (rw [if_pos (by omega)]; done) | (rw [if_neg (by omega)]; done) | (rw [zb_t (by omega)]; done) | (rw [zb_f (by omega)]; done), rfl, rfl, by first | rfl | (rw [if_pos (by omega)]; done) | (rw [if_neg (by omega)]; done)⟩

set_option maxRecDepth 100000 in
set_option maxHeartbeats 4000000 in
theorem c_xsha {d n : Nat} {sh : zSh} {h : zMem} {p : Int} (hS : zShp sh) (hR : zRf h) (hTb : xTb sh h) (hp : zi32 p) : zF yX10_shared cX10_shared 3 (some .int) (d + 4) 0 0 [(2, 0), (0, p)] n sh h (some (0, (if ((0 ≤ p ∧ p < h 0 11) ∧ h (xAt h p) 11 ≠ 0) then tcS h (xAt h p) else -1))) n sh h := by
  refine zF.ofT (by decide +kernel) [some (2, 0), some (0, p), none] rfl (Nat.le_of_ble_eq_true rfl) ?_
  have x1 := hTb.1
  refine zt_rg (fun hm => ?_)
  refine zt_aload_n dX10_shared_0 rfl ?_
  refine zt_iload_n dX10_shared_1 rfl ?_
  refine zt_callV1r dX10_shared_2 ml_X10_274 (zs_0 hS) (Nat.le_of_ble_eq_true rfl) (c_xpA hS hR hTb (by omega)) ?_
  refine zt_astore_n_2 dX10_shared_5 (by decide) rfl ?_
  refine zt_aload_n dX10_shared_6 rfl ?_
  refine zt_ifnonnull (tgt := 14) dX10_shared_7 (by decide) (fun c_7 => ?_) (fun c_7 => ?_)
  · obtain ⟨hyx, hxT, hT, hTk⟩ := yAt_1 hTb c_7
    obtain ⟨t, htd⟩ : ∃ t, t = xAt h p := ⟨_, rfl⟩
    rw [hyx]
    rw [← htd] at hxT hT hTk ⊢
    have hE := hT.2.2.1
    refine zt_aload_n dX10_shared_14 rfl ?_
    refine zt_callV0r dX10_shared_15 ml_X10_319 hT.sh (Nat.le_of_ble_eq_true rfl) (c_tshf hT ) ?_
    exact zt_iret dX10_shared_18 ⟨by first | rfl | (rw [if_pos (by omega)]; done) | (rw [if_neg (by omega)]; done) | (rw [zb_t (by omega)]; done) | (rw [zb_f (by omega)]; done), rfl, rfl, rfl⟩
  · have hnt := yAt_0 hTb c_7
    refine zt_iconst dX10_shared_10 ?_
    refine zt_goto (tgt := 18) dX10_shared_11 (by decide) ?_
    exact zt_iret dX10_shared_18 ⟨by first | rfl | (rw [if_pos (by omega)]; done) | (rw [if_neg (by omega)]; done) | (rw [zb_t (by omega)]; done) | (rw [zb_f (by omega)]; done), rfl, rfl, rfl⟩

abbrev tCop2 (h : zMem) (t : Int) : Prop := zS (zcp (tcN h t) (tcF h t) (tcO h t)) (tcS h t) (tcF h t + 1) * 100 < zbi (tcN h t) (tcF h t)

set_option maxRecDepth 100000 in
set_option maxHeartbeats 4000000 in
theorem c_xcop {d n : Nat} {sh : zSh} {h : zMem} {p : Int} (hS : zShp sh) (hR : zRf h) (hTb : xTb sh h) (hp : zi32 p) : zF yX10_copied cX10_copied 3 (some .int) (d + 5) 0 0 [(2, 0), (0, p)] n sh h (some (0, (if ((0 ≤ p ∧ p < h 0 11) ∧ h (xAt h p) 11 ≠ 0) then zb (tCop2 h (xAt h p)) else -1))) n sh h := by
  refine zF.ofT (by decide +kernel) [some (2, 0), some (0, p), none] rfl (Nat.le_of_ble_eq_true rfl) ?_
  have x1 := hTb.1
  refine zt_rg (fun hm => ?_)
  refine zt_aload_n dX10_copied_0 rfl ?_
  refine zt_iload_n dX10_copied_1 rfl ?_
  refine zt_callV1r dX10_copied_2 ml_X10_274 (zs_0 hS) (Nat.le_of_ble_eq_true rfl) (c_xpA hS hR hTb (by omega)) ?_
  refine zt_astore_n_2 dX10_copied_5 (by decide) rfl ?_
  refine zt_aload_n dX10_copied_6 rfl ?_
  refine zt_ifnonnull (tgt := 12) dX10_copied_7 (by decide) (fun c_7 => ?_) (fun c_7 => ?_)
  · obtain ⟨hyx, hxT, hT, hTk⟩ := yAt_1 hTb c_7
    obtain ⟨t, htd⟩ : ∃ t, t = xAt h p := ⟨_, rfl⟩
    rw [hyx]
    rw [← htd] at hxT hT hTk ⊢
    have hE := hT.2.2.1
    refine zt_aload_n dX10_copied_12 rfl ?_
    refine zt_callV0r dX10_copied_13 ml_X10_322 hT.sh (Nat.le_of_ble_eq_true rfl) (c_tcop hT) ?_
    refine zt_ifb_eq (tgt := 23) dX10_copied_16 (by decide) (fun c_16 => ?_) (fun c_16 => ?_)
    · refine zt_iconst dX10_copied_23 ?_
      exact zt_iret dX10_copied_24 ⟨by first | (rw [if_neg (by omega)]; done) | (rw [if_pos hxT, zb_t c_16]; done) | (rw [if_pos hxT, zb_f c_16]), rfl, rfl, rfl⟩
    · refine zt_iconst dX10_copied_19 ?_
      refine zt_goto (tgt := 24) dX10_copied_20 (by decide) ?_
      exact zt_iret dX10_copied_24 ⟨by first | (rw [if_neg (by omega)]; done) | (rw [if_pos hxT, zb_t c_16]; done) | (rw [if_pos hxT, zb_f c_16]), rfl, rfl, rfl⟩
  · have hnt := yAt_0 hTb c_7
    refine zt_iconst dX10_copied_10 ?_
    exact zt_iret dX10_copied_11 ⟨by first | (rw [if_neg (by omega)]; done) | (rw [if_pos hxT, zb_t c_16]; done) | (rw [if_pos hxT, zb_f c_16]), rfl, rfl, rfl⟩

set_option maxRecDepth 100000 in
set_option maxHeartbeats 4000000 in
theorem c_xld {d n : Nat} {sh : zSh} {h : zMem} {p e x : Int} (hS : zShp sh) (hR : zRf h) (hTb : xTb sh h) (hp : zi32 p) (he : zi32 e) (hx : zi32 x) : zF yX10_lead cX10_lead 5 (some .int) (d + 4) 0 0 [(2, 0), (0, p), (0, e), (0, x)] n sh h (some (0, (if xT h p ∧ tHas h (xAt h p) e then (if x = 0 then h (xAt h p + 2) e else if x = 1 then h (xAt h p + 3) e else if x = 2 then h (xAt h p + 5) e else if x = 3 then h (xAt h p + 6) e else if x = 4 then h (xAt h p + 8) e else if x = 5 then tFh h (xAt h p) e else if x = 6 then (if h (xAt h p) 11 ≠ 0 ∧ tAg h (xAt h p) e then h (xAt h p + 9) e else -1) else -1) else -1))) n sh h := by
  refine zF.ofT (by decide +kernel) [some (2, 0), some (0, p), some (0, e), some (0, x), none] rfl (Nat.le_of_ble_eq_true rfl) ?_
  have x1 := hTb.1
  refine zt_rg (fun hm => ?_)
  refine zt_aload_n dX10_lead_0 rfl ?_
  refine zt_iload_n dX10_lead_1 rfl ?_
  refine zt_callV1r dX10_lead_2 ml_X10_159 (zs_0 hS) (Nat.le_of_ble_eq_true rfl) (c_xtA hS hR hTb (by omega)) ?_
  refine zt_astore_4 dX10_lead_5 (by decide) rfl ?_
  refine zt_aload dX10_lead_7 rfl ?_
  refine zt_ifnull (tgt := 21) dX10_lead_9 (by decide) (fun c_9 => ?_) (fun c_9 => ?_)
  · have hnt := xAt_0 hTb c_9
    refine zt_iconst dX10_lead_21 ?_
    exact zt_iret dX10_lead_22 ⟨by congr 2; first | (rw [if_neg (by omega)]; done) | (rw [if_pos (by omega)]; (repeat' split) <;> first | rfl | omega), rfl, rfl, rfl⟩
  · obtain ⟨hxT, hT, hTk⟩ := xAt_1 hTb c_9
    obtain ⟨t, htd⟩ : ∃ t, t = xAt h p := ⟨_, rfl⟩
    rw [← htd] at hT hTk ⊢
    have hE := hT.2.2.1
    refine zt_aload dX10_lead_12 rfl ?_
    refine zt_iload_n dX10_lead_14 rfl ?_
    refine zt_callV1r dX10_lead_15 ml_X10_315 hT.sh (Nat.le_of_ble_eq_true rfl) (c_thas hT (by omega)) ?_
    refine zt_ifb_ne (tgt := 23) dX10_lead_18 (by decide) (fun c_18 => ?_) (fun c_18 => ?_)
    · refine zt_iload_n dX10_lead_23 rfl ?_
      rcases (show x = 0 ∨ x = 1 ∨ x = 2 ∨ x = 3 ∨ x = 4 ∨ x = 5 ∨ x = 6 ∨ (x < 0 ∨ 6 < x) by omega) with e_24 | e_24 | e_24 | e_24 | e_24 | e_24 | e_24 | e_24
      · refine zt_tableIn (off := 44) (tgt := 68) dX10_lead_24 (by omega) (by omega) (by omega) (by rw [e_24]; rfl) (by decide) ?_
        refine zt_aload dX10_lead_68 rfl ?_
        refine zt_getv (v := t + 2) dX10_lead_70 fl_X10_325 hT.sh (hT.rf 2 (by decide) (by decide)) ?_
        refine zt_iload_n dX10_lead_73 rfl ?_
        refine zt_iaload dX10_lead_74 (hT.ar 2 (by decide) (by decide)) (by decide) (by omega) (by omega) ?_
        exact zt_iret dX10_lead_75 ⟨by congr 2; first | (rw [if_neg (by omega)]; done) | (rw [if_pos (by omega)]; (repeat' split) <;> first | rfl | omega), rfl, rfl, rfl⟩
      · refine zt_tableIn (off := 52) (tgt := 76) dX10_lead_24 (by omega) (by omega) (by omega) (by rw [e_24]; rfl) (by decide) ?_
        refine zt_aload dX10_lead_76 rfl ?_
        refine zt_getv (v := t + 3) dX10_lead_78 fl_X10_328 hT.sh (hT.rf 3 (by decide) (by decide)) ?_
        refine zt_iload_n dX10_lead_81 rfl ?_
        refine zt_iaload dX10_lead_82 (hT.ar 3 (by decide) (by decide)) (by decide) (by omega) (by omega) ?_
        exact zt_iret dX10_lead_83 ⟨by congr 2; first | (rw [if_neg (by omega)]; done) | (rw [if_pos (by omega)]; (repeat' split) <;> first | rfl | omega), rfl, rfl, rfl⟩
      · refine zt_tableIn (off := 60) (tgt := 84) dX10_lead_24 (by omega) (by omega) (by omega) (by rw [e_24]; rfl) (by decide) ?_
        refine zt_aload dX10_lead_84 rfl ?_
        refine zt_getv (v := t + 5) dX10_lead_86 fl_X10_331 hT.sh (hT.rf 5 (by decide) (by decide)) ?_
        refine zt_iload_n dX10_lead_89 rfl ?_
        refine zt_iaload dX10_lead_90 (hT.ar 5 (by decide) (by decide)) (by decide) (by omega) (by omega) ?_
        exact zt_iret dX10_lead_91 ⟨by congr 2; first | (rw [if_neg (by omega)]; done) | (rw [if_pos (by omega)]; (repeat' split) <;> first | rfl | omega), rfl, rfl, rfl⟩
      · refine zt_tableIn (off := 68) (tgt := 92) dX10_lead_24 (by omega) (by omega) (by omega) (by rw [e_24]; rfl) (by decide) ?_
        refine zt_aload dX10_lead_92 rfl ?_
        refine zt_getv (v := t + 6) dX10_lead_94 fl_X10_334 hT.sh (hT.rf 6 (by decide) (by decide)) ?_
        refine zt_iload_n dX10_lead_97 rfl ?_
        refine zt_iaload dX10_lead_98 (hT.ar 6 (by decide) (by decide)) (by decide) (by omega) (by omega) ?_
        exact zt_iret dX10_lead_99 ⟨by congr 2; first | (rw [if_neg (by omega)]; done) | (rw [if_pos (by omega)]; (repeat' split) <;> first | rfl | omega), rfl, rfl, rfl⟩
      · refine zt_tableIn (off := 76) (tgt := 100) dX10_lead_24 (by omega) (by omega) (by omega) (by rw [e_24]; rfl) (by decide) ?_
        refine zt_aload dX10_lead_100 rfl ?_
        refine zt_getv (v := t + 8) dX10_lead_102 fl_X10_337 hT.sh (hT.rf 8 (by decide) (by decide)) ?_
        refine zt_iload_n dX10_lead_105 rfl ?_
        refine zt_iaload dX10_lead_106 (hT.ar 8 (by decide) (by decide)) (by decide) (by omega) (by omega) ?_
        exact zt_iret dX10_lead_107 ⟨by congr 2; first | (rw [if_neg (by omega)]; done) | (rw [if_pos (by omega)]; (repeat' split) <;> first | rfl | omega), rfl, rfl, rfl⟩
      · refine zt_tableIn (off := 84) (tgt := 108) dX10_lead_24 (by omega) (by omega) (by omega) (by rw [e_24]; rfl) (by decide) ?_
        refine zt_aload dX10_lead_108 rfl ?_
        refine zt_iload_n dX10_lead_110 rfl ?_
        refine zt_callV1r dX10_lead_111 ml_X10_340 hT.sh (Nat.le_of_ble_eq_true rfl) (c_tfh hT (by omega)) ?_
        exact zt_iret dX10_lead_114 ⟨by congr 2; first | (rw [if_neg (by omega)]; done) | (rw [if_pos (by omega)]; (repeat' split) <;> first | rfl | omega), rfl, rfl, rfl⟩
      · refine zt_tableIn (off := 91) (tgt := 115) dX10_lead_24 (by omega) (by omega) (by omega) (by rw [e_24]; rfl) (by decide) ?_
        refine zt_aload dX10_lead_115 rfl ?_
        refine zt_get dX10_lead_117 fl_X10_264 hT.sh ?_
        refine zt_if_eq (tgt := 142) dX10_lead_120 (by decide) (zbool (hm.fld (j := 11) hT.sh (by decide) (by decide) (by decide))) (fun c_120 => ?_) (fun c_120 => ?_)
        · refine zt_iconst dX10_lead_142 ?_
          exact zt_iret dX10_lead_143 ⟨by congr 2; first | (rw [if_neg (by omega)]; done) | (rw [if_pos (by omega)]; (repeat' split) <;> first | rfl | omega), rfl, rfl, rfl⟩
        · refine zt_aload dX10_lead_123 rfl ?_
          refine zt_iload_n dX10_lead_125 rfl ?_
          refine zt_callV1r dX10_lead_126 ml_X10_285 hT.sh (Nat.le_of_ble_eq_true rfl) (c_tag hT (by omega)) ?_
          refine zt_ifb_eq (tgt := 142) dX10_lead_129 (by decide) (fun c_129 => ?_) (fun c_129 => ?_)
          · refine zt_iconst dX10_lead_142 ?_
            exact zt_iret dX10_lead_143 ⟨by congr 2; first | (rw [if_neg (by omega)]; done) | (rw [if_pos (by omega)]; (repeat' split) <;> first | rfl | omega), rfl, rfl, rfl⟩
          · refine zt_aload dX10_lead_132 rfl ?_
            refine zt_getv (v := t + 9) dX10_lead_134 fl_X10_288 hT.sh (hT.rf 9 (by decide) (by decide)) ?_
            refine zt_iload_n dX10_lead_137 rfl ?_
            refine zt_iaload dX10_lead_138 (hT.ar 9 (by decide) (by decide)) (by decide) (by omega) (by omega) ?_
            refine zt_goto (tgt := 143) dX10_lead_139 (by decide) ?_
            exact zt_iret dX10_lead_143 ⟨by congr 2; first | (rw [if_neg (by omega)]; done) | (rw [if_pos (by omega)]; (repeat' split) <;> first | rfl | omega), rfl, rfl, rfl⟩
      · refine zt_tableOut (tgt := 144) dX10_lead_24 (by omega) e_24 (by decide) ?_
        refine zt_iconst dX10_lead_144 ?_
        exact zt_iret dX10_lead_145 ⟨by congr 2; first | (rw [if_neg (by omega)]; done) | (rw [if_pos (by omega)]; (repeat' split) <;> first | rfl | omega), rfl, rfl, rfl⟩
    · refine zt_iconst dX10_lead_21 ?_
      exact zt_iret dX10_lead_22 ⟨by congr 2; first | (rw [if_neg (by omega)]; done) | (rw [if_pos (by omega)]; (repeat' split) <;> first | rfl | omega), rfl, rfl, rfl⟩

set_option maxRecDepth 100000 in
set_option maxHeartbeats 4000000 in
theorem c_xprt {d n : Nat} {sh : zSh} {h : zMem} {p x : Int} (hS : zShp sh) (hR : zRf h) (hTb : xTb sh h) (hp : zi32 p) (hx : zi32 x) (hd : 100 ≤ h 0 13 ∧ h 0 13 ≤ 5000) (hpb : xP h p → (∀ j : Int, 0 ≤ j → j < 30 → 0 ≤ h (xAt h p + 9) j ∧ h (xAt h p + 9) j ≤ 100000) ∧ (0 ≤ h (xAt h p) 12 ∧ h (xAt h p) 12 ≤ 60000) ∧ (0 ≤ h (xAt h p) 13 ∧ h (xAt h p) 13 ≤ 5000)) : zF yX10_print cX10_print 4 (some .int) (d + 2) 0 0 [(2, 0), (0, p), (0, x)] n sh h (some (0, (if ((0 ≤ p ∧ p < h 0 11) ∧ h (xAt h p) 11 ≠ 0) ∧ (1 ≤ x ∧ x ≤ 5000) ∧ h (xAt h p) 12 + x ≤ 60000 then h (xAt h p) 12 + x else -1))) n sh (if ((0 ≤ p ∧ p < h 0 11) ∧ h (xAt h p) 11 ≠ 0) ∧ (1 ≤ x ∧ x ≤ 5000) ∧ h (xAt h p) 12 + x ≤ 60000 then pM h (xAt h p) (h (xAt h p) 12 + x) (zpr (h 0 13) x.toNat (h (xAt h p) 13) 0).1 (zpr (h 0 13) x.toNat (h (xAt h p) 13) 0).2 else h) := by
  refine zF.ofT (by decide +kernel) [some (2, 0), some (0, p), some (0, x), none] rfl (Nat.le_of_ble_eq_true rfl) ?_
  have x1 := hTb.1
  refine zt_rg (fun hm => ?_)
  refine zt_aload_n dX10_print_0 rfl ?_
  refine zt_iload_n dX10_print_1 rfl ?_
  refine zt_callV1r dX10_print_2 ml_X10_274 (zs_0 hS) (Nat.le_of_ble_eq_true rfl) (c_xpA hS hR hTb (by omega)) ?_
  refine zt_astore_n_3 dX10_print_5 (by decide) rfl ?_
  refine zt_aload_n dX10_print_6 rfl ?_
  refine zt_ifnull (tgt := 34) dX10_print_7 (by decide) (fun c_7 => ?_) (fun c_7 => ?_)
  · have hnt := yAt_0 hTb c_7
    refine zt_iconst dX10_print_34 ?_
    exact zt_iret dX10_print_35 ⟨by first | rfl | (rw [if_pos (by omega)]; done) | (rw [if_neg (by omega)]; done) | (rw [zb_t (by omega)]; done) | (rw [zb_f (by omega)]; done), rfl, rfl, by first | rfl | (rw [if_pos (by omega)]; done) | (rw [if_neg (by omega)]; done)⟩
  · obtain ⟨hyx, hxT, hT, hTk⟩ := yAt_1 hTb c_7
    obtain ⟨t, htd⟩ : ∃ t, t = xAt h p := ⟨_, rfl⟩
    rw [hyx]
    rw [← htd] at hxT hT hTk ⊢
    have hE := hT.2.2.1
    have hpb2 := hpb (by rw [htd] at hxT; exact hxT)
    rw [← htd] at hpb2
    refine zt_iload_n dX10_print_10 rfl ?_
    refine zt_iconst dX10_print_11 ?_
    refine zt_icmp_lt (tgt := 34) dX10_print_12 (by decide) (by omega) (by decide) (fun c_12 => ?_) (fun c_12 => ?_)
    · refine zt_iconst dX10_print_34 ?_
      exact zt_iret dX10_print_35 ⟨by first | rfl | (rw [if_pos (by omega)]; done) | (rw [if_neg (by omega)]; done) | (rw [zb_t (by omega)]; done) | (rw [zb_f (by omega)]; done), rfl, rfl, by first | rfl | (rw [if_pos (by omega)]; done) | (rw [if_neg (by omega)]; done)⟩
    · refine zt_iload_n dX10_print_15 rfl ?_
      refine zt_sipush dX10_print_16 (by decide) ?_
      refine zt_icmp_gt (tgt := 34) dX10_print_19 (by decide) (by omega) (by decide) (fun c_19 => ?_) (fun c_19 => ?_)
      · refine zt_iconst dX10_print_34 ?_
        exact zt_iret dX10_print_35 ⟨by first | rfl | (rw [if_pos (by omega)]; done) | (rw [if_neg (by omega)]; done) | (rw [zb_t (by omega)]; done) | (rw [zb_f (by omega)]; done), rfl, rfl, by first | rfl | (rw [if_pos (by omega)]; done) | (rw [if_neg (by omega)]; done)⟩
      · refine zt_aload_n dX10_print_22 rfl ?_
        refine zt_get dX10_print_23 fl_X10_277 hT.sh ?_
        refine zt_ldc_w dX10_print_26 kc_X10_280 ?_
        refine zt_iload_n dX10_print_29 rfl ?_
        refine zt_isub dX10_print_30 ?_
        refine zt_icmp_le (tgt := 36) dX10_print_31 (by decide) (hm.fld (j := 12) hT.sh (by decide) (by decide) (by decide)) (by omega) (fun c_31 => ?_) (fun c_31 => ?_)
        · refine zt_aload_n dX10_print_36 rfl ?_
          refine zt_iload_n dX10_print_37 rfl ?_
          refine zt_aload_n dX10_print_38 rfl ?_
          refine zt_get dX10_print_39 fl_X10_79 (zs_0 hS) ?_
          refine zt_callV2v dX10_print_42 ml_X10_281 hT.sh (Nat.le_of_ble_eq_true rfl) (c_print hT (by omega) hd hpb2.1 ⟨by omega, by omega⟩ hpb2.2.2) ?_
          refine zt_aload_n dX10_print_45 rfl ?_
          refine zt_getv (v := h t 12 + x) dX10_print_46 fl_X10_277 hT.sh (if_pos ⟨rfl, rfl⟩) ?_
          exact zt_iret dX10_print_49 ⟨by first | rfl | (rw [if_pos (by omega)]; done) | (rw [if_neg (by omega)]; done) | (rw [zb_t (by omega)]; done) | (rw [zb_f (by omega)]; done), rfl, rfl, by first | rfl | (rw [if_pos (by omega)]; done) | (rw [if_neg (by omega)]; done)⟩
        · refine zt_iconst dX10_print_34 ?_
          exact zt_iret dX10_print_35 ⟨by first | rfl | (rw [if_pos (by omega)]; done) | (rw [if_neg (by omega)]; done) | (rw [zb_t (by omega)]; done) | (rw [zb_f (by omega)]; done), rfl, rfl, by first | rfl | (rw [if_pos (by omega)]; done) | (rw [if_neg (by omega)]; done)⟩

