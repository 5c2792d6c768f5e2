/-- the reference's counts are in their bounds -/
def mB (h : zMem) : Prop := (0 ≤ h 38 17 ∧ h 38 17 ≤ 5) ∧ (∀ t, 0 ≤ t → t < h 38 17 → 4 ≤ h 46 t ∧ h 46 t ≤ 30) ∧ (0 ≤ h 38 20 ∧ h 38 20 ≤ 8) ∧ (0 ≤ h 38 21 ∧ h 38 21 ≤ 24) ∧ (0 ≤ h 38 50 ∧ h 38 50 ≤ 20) ∧ (0 ≤ h 38 37 ∧ h 38 37 ≤ 40) ∧ (0 ≤ h 38 16 ∧ h 38 16 ≤ 999) ∧ (0 ≤ h 38 46 ∧ h 38 46 ≤ 12) ∧ (0 ≤ h 38 45 ∧ h 38 45 ≤ 100000) ∧ (0 ≤ h 38 1 ∧ h 38 1 ≤ 200) ∧ (0 ≤ h 38 12 ∧ h 38 12 ≤ 10)
abbrev jT (h : zMem) (t : Int) : Prop := 0 ≤ t ∧ t < h 38 17
abbrev jE (h : zMem) (t i : Int) : Prop := (0 ≤ t ∧ t < h 38 17) ∧ 0 ≤ i ∧ i < h 46 t
abbrev jAg (h : zMem) (e : Int) : Prop := h 57 e ≠ -1
abbrev jF (h : zMem) (e : Int) : Prop := h 57 e ≠ -1 ∧ h 53 e ≠ h 47 e
abbrev jS (h : zMem) (t : Int) : Prop := (0 ≤ t ∧ t < h 38 17) ∧ h 58 t ≠ 0
abbrev jG (h : zMem) (t i : Int) : Prop := ((0 ≤ t ∧ t < h 38 17) ∧ h 58 t ≠ 0) ∧ ((0 ≤ t ∧ t < h 38 17) ∧ 0 ≤ i ∧ i < h 46 t) ∧ h 57 (30 * t + i) ≠ -1

set_option maxRecDepth 100000 in
set_option maxHeartbeats 4000000 in
theorem c_jT {d n : Nat} {sh : zSh} {h : zMem} {t : Int} (hS : zShp sh) (hR : zRf h) (hB : mB h) (ht : zi32 t) : zF yX11_isTable cX11_isTable 2 (some .boolean) (d + 1) 0 0 [(2, 38), (0, t)] n sh h (some (0, zb (jT h t))) n sh h := by
  refine zF.ofT (by decide +kernel) [some (2, 38), some (0, t)] rfl (Nat.le_of_ble_eq_true rfl) ?_
  refine zt_rg (fun hm => ?_)
  have b1 := hB.1
  have b3 := hB.2.2.1
  have b4 := hB.2.2.2.1
  have b5 := hB.2.2.2.2.1
  have b6 := hB.2.2.2.2.2.1
  have b7 := hB.2.2.2.2.2.2.1
  have b8 := hB.2.2.2.2.2.2.2.1
  have b9 := hB.2.2.2.2.2.2.2.2.1
  have b10 := hB.2.2.2.2.2.2.2.2.2.1
  have b11 := hB.2.2.2.2.2.2.2.2.2.2
  refine zt_iload_n dX11_isTable_0 rfl ?_
  refine zt_i2l dX11_isTable_1 (by omega) ?_
  refine zt_lconst (v := 0) dX11_isTable_2 rfl ?_
  refine zt_aload_n dX11_isTable_3 rfl ?_
  refine zt_get dX11_isTable_4 fl_X11_298 (zs_38 hS) ?_
  refine zt_iconst dX11_isTable_7 ?_
  refine zt_isub dX11_isTable_8 ?_
  refine zt_i2l dX11_isTable_9 (by omega) ?_
  refine zt_callS3r dX11_isTable_10 ml_X11_143 (Nat.le_of_ble_eq_true rfl) (c_min_ (x := t) (y := 0) (z := (h 38 17) - 1) (by omega) (by decide) (by omega)) ?_
  exact zt_zret dX11_isTable_13 (zb_or _) ⟨by congr 2; exact zb_eq (by omega), rfl, rfl, rfl⟩

set_option maxRecDepth 100000 in
set_option maxHeartbeats 4000000 in
theorem c_jE {d n : Nat} {sh : zSh} {h : zMem} {t i : Int} (hS : zShp sh) (hR : zRf h) (hB : mB h) (ht : zi32 t) (hi : zi32 i) : zF yX11_isEntry cX11_isEntry 3 (some .boolean) (d + 2) 0 0 [(2, 38), (0, t), (0, i)] n sh h (some (0, zb (jE h t i))) n sh h := by
  refine zF.ofT (by decide +kernel) [some (2, 38), some (0, t), some (0, i)] rfl (Nat.le_of_ble_eq_true rfl) ?_
  refine zt_rg (fun hm => ?_)
  have b1 := hB.1
  have b3 := hB.2.2.1
  have b4 := hB.2.2.2.1
  have b5 := hB.2.2.2.2.1
  have b6 := hB.2.2.2.2.2.1
  have b7 := hB.2.2.2.2.2.2.1
  have b8 := hB.2.2.2.2.2.2.2.1
  have b9 := hB.2.2.2.2.2.2.2.2.1
  have b10 := hB.2.2.2.2.2.2.2.2.2.1
  have b11 := hB.2.2.2.2.2.2.2.2.2.2
  refine zt_aload_n dX11_isEntry_0 rfl ?_
  refine zt_iload_n dX11_isEntry_1 rfl ?_
  refine zt_callV1r dX11_isEntry_2 ml_X11_310 (zs_38 hS) (Nat.le_of_ble_eq_true rfl) (c_jT hS hR hB (by omega)) ?_
  refine zt_ifb_eq (tgt := 30) dX11_isEntry_5 (by decide) (fun c_5 => ?_) (fun c_5 => ?_)
  · refine zt_iconst dX11_isEntry_30 ?_
    exact zt_zret dX11_isEntry_31 (by decide) ⟨zb0 (by omega), rfl, rfl, rfl⟩
  · have hb := hB.2.1 t c_5.1 c_5.2
    refine zt_iload_n dX11_isEntry_8 rfl ?_
    refine zt_i2l dX11_isEntry_9 (by omega) ?_
    refine zt_lconst (v := 0) dX11_isEntry_10 rfl ?_
    refine zt_aload_n dX11_isEntry_11 rfl ?_
    refine zt_getv dX11_isEntry_12 fl_X11_32 (zs_38 hS) (rf_38_18 hR) ?_
    refine zt_iload_n dX11_isEntry_15 rfl ?_
    refine zt_iaload dX11_isEntry_16 (zs_46 hS) (by decide) (by omega) (by omega) ?_
    refine zt_iconst dX11_isEntry_17 ?_
    refine zt_isub dX11_isEntry_18 ?_
    refine zt_i2l dX11_isEntry_19 (by omega) ?_
    refine zt_callS3r dX11_isEntry_20 ml_X11_143 (Nat.le_of_ble_eq_true rfl) (c_min_ (x := i) (y := 0) (z := (h 46 t) - 1) (by omega) (by decide) (by omega)) ?_
    refine zt_ifb_eq (tgt := 30) dX11_isEntry_23 (by decide) (fun c_23 => ?_) (fun c_23 => ?_)
    · refine zt_iconst dX11_isEntry_30 ?_
      exact zt_zret dX11_isEntry_31 (by decide) ⟨zb0 (by omega), rfl, rfl, rfl⟩
    · refine zt_iconst dX11_isEntry_26 ?_
      refine zt_goto (tgt := 31) dX11_isEntry_27 (by decide) ?_
      exact zt_zret dX11_isEntry_31 (by decide) ⟨zb1 (by omega), rfl, rfl, rfl⟩

set_option maxRecDepth 100000 in
set_option maxHeartbeats 4000000 in
theorem c_jH {d n : Nat} {sh : zSh} {h : zMem} {t : Int} (hS : zShp sh) (hR : zRf h) (hB : mB h) (ht : zi32 t) : zF yX11_isHand cX11_isHand 2 (some .boolean) (d + 1) 0 0 [(2, 38), (0, t)] n sh h (some (0, zb (0 ≤ t ∧ t < h 38 20))) n sh h := by
  refine zF.ofT (by decide +kernel) [some (2, 38), some (0, t)] rfl (Nat.le_of_ble_eq_true rfl) ?_
  refine zt_rg (fun hm => ?_)
  have b1 := hB.1
  have b3 := hB.2.2.1
  have b4 := hB.2.2.2.1
  have b5 := hB.2.2.2.2.1
  have b6 := hB.2.2.2.2.2.1
  have b7 := hB.2.2.2.2.2.2.1
  have b8 := hB.2.2.2.2.2.2.2.1
  have b9 := hB.2.2.2.2.2.2.2.2.1
  have b10 := hB.2.2.2.2.2.2.2.2.2.1
  have b11 := hB.2.2.2.2.2.2.2.2.2.2
  refine zt_iload_n dX11_isHand_0 rfl ?_
  refine zt_i2l dX11_isHand_1 (by omega) ?_
  refine zt_lconst (v := 0) dX11_isHand_2 rfl ?_
  refine zt_aload_n dX11_isHand_3 rfl ?_
  refine zt_get dX11_isHand_4 fl_X11_319 (zs_38 hS) ?_
  refine zt_iconst dX11_isHand_7 ?_
  refine zt_isub dX11_isHand_8 ?_
  refine zt_i2l dX11_isHand_9 (by omega) ?_
  refine zt_callS3r dX11_isHand_10 ml_X11_143 (Nat.le_of_ble_eq_true rfl) (c_min_ (x := t) (y := 0) (z := (h 38 20) - 1) (by omega) (by decide) (by omega)) ?_
  exact zt_zret dX11_isHand_13 (zb_or _) ⟨by congr 2; exact zb_eq (by omega), rfl, rfl, rfl⟩

set_option maxRecDepth 100000 in
set_option maxHeartbeats 4000000 in
theorem c_jA {d n : Nat} {sh : zSh} {h : zMem} {e : Int} (hS : zShp sh) (hR : zRf h) (hB : mB h) (he : 0 ≤ e ∧ e < 150) : zF yX11_isAgreed cX11_isAgreed 2 (some .boolean) (d + 0) 0 0 [(2, 38), (0, e)] n sh h (some (0, zb (jAg h e))) n sh h := by
  refine zF.ofT (by decide +kernel) [some (2, 38), some (0, e)] rfl (Nat.le_of_ble_eq_true rfl) ?_
  refine zt_rg (fun hm => ?_)
  have b1 := hB.1
  have b3 := hB.2.2.1
  have b4 := hB.2.2.2.1
  have b5 := hB.2.2.2.2.1
  have b6 := hB.2.2.2.2.2.1
  have b7 := hB.2.2.2.2.2.2.1
  have b8 := hB.2.2.2.2.2.2.2.1
  have b9 := hB.2.2.2.2.2.2.2.2.1
  have b10 := hB.2.2.2.2.2.2.2.2.2.1
  have b11 := hB.2.2.2.2.2.2.2.2.2.2
  refine zt_aload_n dX11_isAgreed_0 rfl ?_
  refine zt_getv dX11_isAgreed_1 fl_X11_65 (zs_38 hS) (rf_38_31 hR) ?_
  refine zt_iload_n dX11_isAgreed_4 rfl ?_
  refine zt_iaload dX11_isAgreed_5 (zs_57 hS) (by decide) (by omega) (by omega) ?_
  refine zt_iconst dX11_isAgreed_6 ?_
  refine zt_icmp_eq (tgt := 14) dX11_isAgreed_7 (by decide) (hm.int (zs_57 hS) (by omega) (by omega)) (by decide) (fun c_7 => ?_) (fun c_7 => ?_)
  · refine zt_iconst dX11_isAgreed_14 ?_
    exact zt_zret dX11_isAgreed_15 (by decide) ⟨zb0 (by omega), rfl, rfl, rfl⟩
  · refine zt_iconst dX11_isAgreed_10 ?_
    refine zt_goto (tgt := 15) dX11_isAgreed_11 (by decide) ?_
    exact zt_zret dX11_isAgreed_15 (by decide) ⟨zb1 (by omega), rfl, rfl, rfl⟩

set_option maxRecDepth 100000 in
set_option maxHeartbeats 4000000 in
theorem c_jF {d n : Nat} {sh : zSh} {h : zMem} {e : Int} (hS : zShp sh) (hR : zRf h) (hB : mB h) (he : 0 ≤ e ∧ e < 150) : zF yX11_isFalse cX11_isFalse 2 (some .boolean) (d + 1) 0 0 [(2, 38), (0, e)] n sh h (some (0, zb (jF h e))) n sh h := by
  refine zF.ofT (by decide +kernel) [some (2, 38), some (0, e)] rfl (Nat.le_of_ble_eq_true rfl) ?_
  refine zt_rg (fun hm => ?_)
  have b1 := hB.1
  have b3 := hB.2.2.1
  have b4 := hB.2.2.2.1
  have b5 := hB.2.2.2.2.1
  have b6 := hB.2.2.2.2.2.1
  have b7 := hB.2.2.2.2.2.2.1
  have b8 := hB.2.2.2.2.2.2.2.1
  have b9 := hB.2.2.2.2.2.2.2.2.1
  have b10 := hB.2.2.2.2.2.2.2.2.2.1
  have b11 := hB.2.2.2.2.2.2.2.2.2.2
  refine zt_aload_n dX11_isFalse_0 rfl ?_
  refine zt_iload_n dX11_isFalse_1 rfl ?_
  refine zt_callV1r dX11_isFalse_2 ml_X11_332 (zs_38 hS) (Nat.le_of_ble_eq_true rfl) (c_jA hS hR hB (by omega)) ?_
  refine zt_ifb_eq (tgt := 27) dX11_isFalse_5 (by decide) (fun c_5 => ?_) (fun c_5 => ?_)
  · refine zt_iconst dX11_isFalse_27 ?_
    exact zt_zret dX11_isFalse_28 (by decide) ⟨zb0 (by omega), rfl, rfl, rfl⟩
  · refine zt_aload_n dX11_isFalse_8 rfl ?_
    refine zt_getv dX11_isFalse_9 fl_X11_53 (zs_38 hS) (rf_38_27 hR) ?_
    refine zt_iload_n dX11_isFalse_12 rfl ?_
    refine zt_iaload dX11_isFalse_13 (zs_53 hS) (by decide) (by omega) (by omega) ?_
    refine zt_aload_n dX11_isFalse_14 rfl ?_
    refine zt_getv dX11_isFalse_15 fl_X11_35 (zs_38 hS) (rf_38_19 hR) ?_
    refine zt_iload_n dX11_isFalse_18 rfl ?_
    refine zt_iaload dX11_isFalse_19 (zs_47 hS) (by decide) (by omega) (by omega) ?_
    refine zt_icmp_eq (tgt := 27) dX11_isFalse_20 (by decide) (hm.int (zs_53 hS) (by omega) (by omega)) (hm.int (zs_47 hS) (by omega) (by omega)) (fun c_20 => ?_) (fun c_20 => ?_)
    · refine zt_iconst dX11_isFalse_27 ?_
      exact zt_zret dX11_isFalse_28 (by decide) ⟨zb0 (by omega), rfl, rfl, rfl⟩
    · refine zt_iconst dX11_isFalse_23 ?_
      refine zt_goto (tgt := 28) dX11_isFalse_24 (by decide) ?_
      exact zt_zret dX11_isFalse_28 (by decide) ⟨zb1 (by omega), rfl, rfl, rfl⟩

set_option maxRecDepth 100000 in
set_option maxHeartbeats 4000000 in
theorem c_jS {d n : Nat} {sh : zSh} {h : zMem} {t : Int} (hS : zShp sh) (hR : zRf h) (hB : mB h) (ht : zi32 t) : zF yX11_isSetTable cX11_isSetTable 2 (some .boolean) (d + 2) 0 0 [(2, 38), (0, t)] n sh h (some (0, zb (jS h t))) n sh h := by
  refine zF.ofT (by decide +kernel) [some (2, 38), some (0, t)] rfl (Nat.le_of_ble_eq_true rfl) ?_
  refine zt_rg (fun hm => ?_)
  have b1 := hB.1
  have b3 := hB.2.2.1
  have b4 := hB.2.2.2.1
  have b5 := hB.2.2.2.2.1
  have b6 := hB.2.2.2.2.2.1
  have b7 := hB.2.2.2.2.2.2.1
  have b8 := hB.2.2.2.2.2.2.2.1
  have b9 := hB.2.2.2.2.2.2.2.2.1
  have b10 := hB.2.2.2.2.2.2.2.2.2.1
  have b11 := hB.2.2.2.2.2.2.2.2.2.2
  refine zt_aload_n dX11_isSetTable_0 rfl ?_
  refine zt_iload_n dX11_isSetTable_1 rfl ?_
  refine zt_callV1r dX11_isSetTable_2 ml_X11_310 (zs_38 hS) (Nat.le_of_ble_eq_true rfl) (c_jT hS hR hB (by omega)) ?_
  refine zt_ifb_eq (tgt := 21) dX11_isSetTable_5 (by decide) (fun c_5 => ?_) (fun c_5 => ?_)
  · refine zt_iconst dX11_isSetTable_21 ?_
    exact zt_zret dX11_isSetTable_22 (by decide) ⟨zb0 (by omega), rfl, rfl, rfl⟩
  · refine zt_aload_n dX11_isSetTable_8 rfl ?_
    refine zt_getv dX11_isSetTable_9 fl_X11_68 (zs_38 hS) (rf_38_32 hR) ?_
    refine zt_iload_n dX11_isSetTable_12 rfl ?_
    refine zt_zaload dX11_isSetTable_13 (zs_58 hS) (by decide) (by omega) (by omega) ?_
    refine zt_if_eq (tgt := 21) dX11_isSetTable_14 (by decide) (zbool (hm.bool (zs_58 hS) (by omega) (by omega))) (fun c_14 => ?_) (fun c_14 => ?_)
    · refine zt_iconst dX11_isSetTable_21 ?_
      exact zt_zret dX11_isSetTable_22 (by decide) ⟨zb0 (by omega), rfl, rfl, rfl⟩
    · refine zt_iconst dX11_isSetTable_17 ?_
      refine zt_goto (tgt := 22) dX11_isSetTable_18 (by decide) ?_
      exact zt_zret dX11_isSetTable_22 (by decide) ⟨zb1 (by omega), rfl, rfl, rfl⟩

set_option maxRecDepth 100000 in
set_option maxHeartbeats 4000000 in
theorem c_jG {d n : Nat} {sh : zSh} {h : zMem} {t i : Int} (hS : zShp sh) (hR : zRf h) (hB : mB h) (ht : zi32 t) (hi : zi32 i) : zF yX11_isFigure cX11_isFigure 3 (some .boolean) (d + 3) 0 0 [(2, 38), (0, t), (0, i)] n sh h (some (0, zb (jG h t i))) n sh h := by
  refine zF.ofT (by decide +kernel) [some (2, 38), some (0, t), some (0, i)] rfl (Nat.le_of_ble_eq_true rfl) ?_
  refine zt_rg (fun hm => ?_)
  have b1 := hB.1
  have b3 := hB.2.2.1
  have b4 := hB.2.2.2.1
  have b5 := hB.2.2.2.2.1
  have b6 := hB.2.2.2.2.2.1
  have b7 := hB.2.2.2.2.2.2.1
  have b8 := hB.2.2.2.2.2.2.2.1
  have b9 := hB.2.2.2.2.2.2.2.2.1
  have b10 := hB.2.2.2.2.2.2.2.2.2.1
  have b11 := hB.2.2.2.2.2.2.2.2.2.2
  refine zt_aload_n dX11_isFigure_0 rfl ?_
  refine zt_iload_n dX11_isFigure_1 rfl ?_
  refine zt_callV1r dX11_isFigure_2 ml_X11_420 (zs_38 hS) (Nat.le_of_ble_eq_true rfl) (c_jS hS hR hB (by omega)) ?_
  refine zt_ifb_eq (tgt := 33) dX11_isFigure_5 (by decide) (fun c_5 => ?_) (fun c_5 => ?_)
  · refine zt_iconst dX11_isFigure_33 ?_
    exact zt_zret dX11_isFigure_34 (by decide) ⟨zb0 (by omega), rfl, rfl, rfl⟩
  · refine zt_aload_n dX11_isFigure_8 rfl ?_
    refine zt_iload_n dX11_isFigure_9 rfl ?_
    refine zt_iload_n dX11_isFigure_10 rfl ?_
    refine zt_callV2r dX11_isFigure_11 ml_X11_313 (zs_38 hS) (Nat.le_of_ble_eq_true rfl) (c_jE hS hR hB (by omega) (by omega)) ?_
    refine zt_ifb_eq (tgt := 33) dX11_isFigure_14 (by decide) (fun c_14 => ?_) (fun c_14 => ?_)
    · refine zt_iconst dX11_isFigure_33 ?_
      exact zt_zret dX11_isFigure_34 (by decide) ⟨zb0 (by omega), rfl, rfl, rfl⟩
    · have hb := hB.2.1 t c_14.1.1 c_14.1.2
      refine zt_aload_n dX11_isFigure_17 rfl ?_
      refine zt_iload_n dX11_isFigure_18 rfl ?_
      refine zt_iload_n dX11_isFigure_19 rfl ?_
      refine zt_callS2r dX11_isFigure_20 ml_X11_316 (Nat.le_of_ble_eq_true rfl) (c_place) ?_
      refine zt_callV1r dX11_isFigure_23 ml_X11_332 (zs_38 hS) (Nat.le_of_ble_eq_true rfl) (c_jA hS hR hB (by omega)) ?_
      refine zt_ifb_eq (tgt := 33) dX11_isFigure_26 (by decide) (fun c_26 => ?_) (fun c_26 => ?_)
      · refine zt_iconst dX11_isFigure_33 ?_
        exact zt_zret dX11_isFigure_34 (by decide) ⟨zb0 (by omega), rfl, rfl, rfl⟩
      · refine zt_iconst dX11_isFigure_29 ?_
        refine zt_goto (tgt := 34) dX11_isFigure_30 (by decide) ?_
        exact zt_zret dX11_isFigure_34 (by decide) ⟨zb1 (by omega), rfl, rfl, rfl⟩

def jEx (h : zMem) (t i : Int) : Int := if jE h t i then h 47 (30 * t + i) else -2147483648
def jFg (h : zMem) (t i : Int) : Int := if jE h t i ∧ jAg h (30 * t + i) then h 53 (30 * t + i) else -2147483648

set_option maxRecDepth 100000 in
set_option maxHeartbeats 4000000 in
theorem c_jEx {d n : Nat} {sh : zSh} {h : zMem} {t i : Int} (hS : zShp sh) (hR : zRf h) (hB : mB h) (ht : zi32 t) (hi : zi32 i) : zF yX11_exact cX11_exact 3 (some .int) (d + 3) 0 0 [(2, 38), (0, t), (0, i)] n sh h (some (0, jEx h t i)) n sh h := by
  refine zF.ofT (by decide +kernel) [some (2, 38), some (0, t), some (0, i)] rfl (Nat.le_of_ble_eq_true rfl) ?_
  refine zt_rg (fun hm => ?_)
  have b1 := hB.1
  have b3 := hB.2.2.1
  have b4 := hB.2.2.2.1
  have b5 := hB.2.2.2.2.1
  have b6 := hB.2.2.2.2.2.1
  have b7 := hB.2.2.2.2.2.2.1
  have b8 := hB.2.2.2.2.2.2.2.1
  have b9 := hB.2.2.2.2.2.2.2.2.1
  have b10 := hB.2.2.2.2.2.2.2.2.2.1
  have b11 := hB.2.2.2.2.2.2.2.2.2.2
  refine zt_aload_n dX11_exact_0 rfl ?_
  refine zt_iload_n dX11_exact_1 rfl ?_
  refine zt_iload_n dX11_exact_2 rfl ?_
  refine zt_callV2r dX11_exact_3 ml_X11_313 (zs_38 hS) (Nat.le_of_ble_eq_true rfl) (c_jE hS hR hB (by omega) (by omega)) ?_
  refine zt_ifb_eq (tgt := 22) dX11_exact_6 (by decide) (fun c_6 => ?_) (fun c_6 => ?_)
  · refine zt_ldc_w dX11_exact_22 kc_X11_283 ?_
    exact zt_iret dX11_exact_25 ⟨by congr 2; unfold jEx; (repeat' split) <;> omega, rfl, rfl, rfl⟩
  · have hb := hB.2.1 t c_6.1.1 c_6.1.2
    refine zt_aload_n dX11_exact_9 rfl ?_
    refine zt_getv dX11_exact_10 fl_X11_35 (zs_38 hS) (rf_38_19 hR) ?_
    refine zt_iload_n dX11_exact_13 rfl ?_
    refine zt_iload_n dX11_exact_14 rfl ?_
    refine zt_callS2r dX11_exact_15 ml_X11_316 (Nat.le_of_ble_eq_true rfl) (c_place) ?_
    refine zt_iaload dX11_exact_18 (zs_47 hS) (by decide) (by omega) (by omega) ?_
    refine zt_goto (tgt := 25) dX11_exact_19 (by decide) ?_
    exact zt_iret dX11_exact_25 ⟨by congr 2; unfold jEx; (repeat' split) <;> omega, rfl, rfl, rfl⟩

set_option maxRecDepth 100000 in
set_option maxHeartbeats 4000000 in
theorem c_jFg {d n : Nat} {sh : zSh} {h : zMem} {t i : Int} (hS : zShp sh) (hR : zRf h) (hB : mB h) (ht : zi32 t) (hi : zi32 i) : zF yX11_figure cX11_figure 3 (some .int) (d + 3) 0 0 [(2, 38), (0, t), (0, i)] n sh h (some (0, jFg h t i)) n sh h := by
  refine zF.ofT (by decide +kernel) [some (2, 38), some (0, t), some (0, i)] rfl (Nat.le_of_ble_eq_true rfl) ?_
  refine zt_rg (fun hm => ?_)
  have b1 := hB.1
  have b3 := hB.2.2.1
  have b4 := hB.2.2.2.1
  have b5 := hB.2.2.2.2.1
  have b6 := hB.2.2.2.2.2.1
  have b7 := hB.2.2.2.2.2.2.1
  have b8 := hB.2.2.2.2.2.2.2.1
  have b9 := hB.2.2.2.2.2.2.2.2.1
  have b10 := hB.2.2.2.2.2.2.2.2.2.1
  have b11 := hB.2.2.2.2.2.2.2.2.2.2
  refine zt_aload_n dX11_figure_0 rfl ?_
  refine zt_iload_n dX11_figure_1 rfl ?_
  refine zt_iload_n dX11_figure_2 rfl ?_
  refine zt_callV2r dX11_figure_3 ml_X11_313 (zs_38 hS) (Nat.le_of_ble_eq_true rfl) (c_jE hS hR hB (by omega) (by omega)) ?_
  refine zt_ifb_eq (tgt := 34) dX11_figure_6 (by decide) (fun c_6 => ?_) (fun c_6 => ?_)
  · refine zt_ldc_w dX11_figure_34 kc_X11_283 ?_
    exact zt_iret dX11_figure_37 ⟨by congr 2; unfold jFg; (repeat' split) <;> omega, rfl, rfl, rfl⟩
  · have hb := hB.2.1 t c_6.1.1 c_6.1.2
    refine zt_aload_n dX11_figure_9 rfl ?_
    refine zt_iload_n dX11_figure_10 rfl ?_
    refine zt_iload_n dX11_figure_11 rfl ?_
    refine zt_callS2r dX11_figure_12 ml_X11_316 (Nat.le_of_ble_eq_true rfl) (c_place) ?_
    refine zt_callV1r dX11_figure_15 ml_X11_332 (zs_38 hS) (Nat.le_of_ble_eq_true rfl) (c_jA hS hR hB (by omega)) ?_
    refine zt_ifb_eq (tgt := 34) dX11_figure_18 (by decide) (fun c_18 => ?_) (fun c_18 => ?_)
    · refine zt_ldc_w dX11_figure_34 kc_X11_283 ?_
      exact zt_iret dX11_figure_37 ⟨by congr 2; unfold jFg; (repeat' split) <;> omega, rfl, rfl, rfl⟩
    · refine zt_aload_n dX11_figure_21 rfl ?_
      refine zt_getv dX11_figure_22 fl_X11_53 (zs_38 hS) (rf_38_27 hR) ?_
      refine zt_iload_n dX11_figure_25 rfl ?_
      refine zt_iload_n dX11_figure_26 rfl ?_
      refine zt_callS2r dX11_figure_27 ml_X11_316 (Nat.le_of_ble_eq_true rfl) (c_place) ?_
      refine zt_iaload dX11_figure_30 (zs_53 hS) (by decide) (by omega) (by omega) ?_
      refine zt_goto (tgt := 37) dX11_figure_31 (by decide) ?_
      exact zt_iret dX11_figure_37 ⟨by congr 2; unfold jFg; (repeat' split) <;> omega, rfl, rfl, rfl⟩

set_option maxRecDepth 100000 in
set_option maxHeartbeats 4000000 in
theorem c_jhand {d n : Nat} {sh : zSh} {h : zMem} (hS : zShp sh) (hR : zRf h) (hB : mB h)  : zF yX11_hand cX11_hand 1 (some .int) (d + 0) 0 0 [(2, 38)] n sh h (some (0, (if h 38 20 < 8 then h 38 20 else -1))) n sh (if h 38 20 < 8 then zup h 38 20 (h 38 20 + 1) else h) := by
  refine zF.ofT (by decide +kernel) [some (2, 38)] rfl (Nat.le_of_ble_eq_true rfl) ?_
  refine zt_rg (fun hm => ?_)
  have b1 := hB.1
  have b3 := hB.2.2.1
  have b4 := hB.2.2.2.1
  have b5 := hB.2.2.2.2.1
  have b6 := hB.2.2.2.2.2.1
  have b7 := hB.2.2.2.2.2.2.1
  have b8 := hB.2.2.2.2.2.2.2.1
  have b9 := hB.2.2.2.2.2.2.2.2.1
  have b10 := hB.2.2.2.2.2.2.2.2.2.1
  have b11 := hB.2.2.2.2.2.2.2.2.2.2
  refine zt_aload_n dX11_hand_0 rfl ?_
  refine zt_get dX11_hand_1 fl_X11_319 (zs_38 hS) ?_
  refine zt_bipush dX11_hand_4 (by decide) ?_
  refine zt_icmp_ne (tgt := 11) dX11_hand_6 (by decide) (hm.fld (j := 20) (zs_38 hS) (by decide) (by decide) (by decide)) (by decide) (fun c_6 => ?_) (fun c_6 => ?_)
  · refine zt_aload_n dX11_hand_11 rfl ?_
    refine zt_dup dX11_hand_12 (Nat.ne_of_beq_eq_false rfl) ?_
    refine zt_get dX11_hand_13 fl_X11_319 (zs_38 hS) ?_
    refine zt_iconst dX11_hand_16 ?_
    refine zt_iadd dX11_hand_17 ?_
    refine zt_puti dX11_hand_18 fl_X11_319 rfl (zs_38 hS) (by omega) ?_
    refine zt_aload_n dX11_hand_21 rfl ?_
    refine zt_getv (v := (h 38 20) + 1) dX11_hand_22 fl_X11_319 (zs_38 hS) zupE ?_
    refine zt_iconst dX11_hand_25 ?_
    refine zt_isub dX11_hand_26 ?_
    exact zt_iret dX11_hand_27 ⟨by first | rfl | (congr 2; (repeat' split) <;> omega) | (rw [zb_t (by omega)]) | (rw [zb_f (by omega)]), rfl, rfl, by first | (rw [if_pos (by omega)]; done) | (rw [if_neg (by omega)]; done)⟩
  · refine zt_iconst dX11_hand_9 ?_
    exact zt_iret dX11_hand_10 ⟨by first | rfl | (congr 2; (repeat' split) <;> omega) | (rw [zb_t (by omega)]) | (rw [zb_f (by omega)]), rfl, rfl, by first | (rw [if_pos (by omega)]; done) | (rw [if_neg (by omega)]; done)⟩

set_option maxRecDepth 100000 in
set_option maxHeartbeats 4000000 in
theorem c_jgo {d n : Nat} {sh : zSh} {h : zMem} {x : Int} (hS : zShp sh) (hR : zRf h) (hB : mB h) (hx : zi32 x) : zF yX11_go cX11_go 2 (some .int) (d + 1) 0 0 [(2, 38), (0, x)] n sh h (some (0, (if 0 ≤ x ∧ x ≤ 100 then (if h 38 16 + x < 999 then h 38 16 + x else 999) else -1))) n sh (if 0 ≤ x ∧ x ≤ 100 then zup h 38 16 (if h 38 16 + x < 999 then h 38 16 + x else 999) else h) := by
  refine zF.ofT (by decide +kernel) [some (2, 38), some (0, x)] rfl (Nat.le_of_ble_eq_true rfl) ?_
  refine zt_rg (fun hm => ?_)
  have b1 := hB.1
  have b3 := hB.2.2.1
  have b4 := hB.2.2.2.1
  have b5 := hB.2.2.2.2.1
  have b6 := hB.2.2.2.2.2.1
  have b7 := hB.2.2.2.2.2.2.1
  have b8 := hB.2.2.2.2.2.2.2.1
  have b9 := hB.2.2.2.2.2.2.2.2.1
  have b10 := hB.2.2.2.2.2.2.2.2.2.1
  have b11 := hB.2.2.2.2.2.2.2.2.2.2
  refine zt_iload_n dX11_go_0 rfl ?_
  refine zt_i2l dX11_go_1 (by omega) ?_
  refine zt_lconst (v := 0) dX11_go_2 rfl ?_
  refine zt_ldc2 dX11_go_3 kc_X11_270 ?_
  refine zt_callS3r dX11_go_6 ml_X11_143 (Nat.le_of_ble_eq_true rfl) (c_min_ (x := x) (y := 0) (z := 100) (by omega) (by decide) (by decide)) ?_
  refine zt_ifb_ne (tgt := 14) dX11_go_9 (by decide) (fun c_9 => ?_) (fun c_9 => ?_)
  · refine zt_aload_n dX11_go_14 rfl ?_
    refine zt_aload_n dX11_go_15 rfl ?_
    refine zt_get dX11_go_16 fl_X11_287 (zs_38 hS) ?_
    refine zt_iload_n dX11_go_19 rfl ?_
    refine zt_iadd dX11_go_20 ?_
    refine zt_sipush dX11_go_21 (by decide) ?_
    refine zt_icmp_le (tgt := 33) dX11_go_24 (by decide) (by omega) (by decide) (fun c_24 => ?_) (fun c_24 => ?_)
    · refine zt_aload_n dX11_go_33 rfl ?_
      refine zt_get dX11_go_34 fl_X11_287 (zs_38 hS) ?_
      refine zt_iload_n dX11_go_37 rfl ?_
      refine zt_iadd dX11_go_38 ?_
      refine zt_puti dX11_go_39 fl_X11_287 rfl (zs_38 hS) (by omega) ?_
      refine zt_aload_n dX11_go_42 rfl ?_
      refine zt_getv (v := (h 38 16) + x) dX11_go_43 fl_X11_287 (zs_38 hS) zupE ?_
      exact zt_iret dX11_go_46 ⟨by congr 2; (repeat' split) <;> omega, rfl, rfl, by first | (rw [if_neg (by omega)]; done) | (rw [if_pos (by omega), if_pos (by omega)]; done) | (rw [if_pos (by omega), if_neg (by omega)]; done) | (rw [if_pos (by omega)]; congr 1; split <;> omega)⟩
    · refine zt_sipush dX11_go_27 (by decide) ?_
      refine zt_goto (tgt := 39) dX11_go_30 (by decide) ?_
      refine zt_puti dX11_go_39 fl_X11_287 rfl (zs_38 hS) (by decide) ?_
      refine zt_aload_n dX11_go_42 rfl ?_
      refine zt_getv (v := 999) dX11_go_43 fl_X11_287 (zs_38 hS) zupE ?_
      exact zt_iret dX11_go_46 ⟨by congr 2; (repeat' split) <;> omega, rfl, rfl, by first | (rw [if_neg (by omega)]; done) | (rw [if_pos (by omega), if_pos (by omega)]; done) | (rw [if_pos (by omega), if_neg (by omega)]; done) | (rw [if_pos (by omega)]; congr 1; split <;> omega)⟩
  · refine zt_iconst dX11_go_12 ?_
    exact zt_iret dX11_go_13 ⟨by congr 2; (repeat' split) <;> omega, rfl, rfl, by first | (rw [if_neg (by omega)]; done) | (rw [if_pos (by omega), if_pos (by omega)]; done) | (rw [if_pos (by omega), if_neg (by omega)]; done) | (rw [if_pos (by omega)]; congr 1; split <;> omega)⟩

set_option maxRecDepth 100000 in
set_option maxHeartbeats 4000000 in
theorem c_jend {d n : Nat} {sh : zSh} {h : zMem} {x : Int} (hS : zShp sh) (hR : zRf h) (hB : mB h) (hx : zi32 x) : zF yX11_end cX11_end 2 (some .boolean) (d + 1) 0 0 [(2, 38), (0, x)] n sh h (some (0, zb (0 ≤ x ∧ x ≤ h 38 1))) n sh (if 0 ≤ x ∧ x ≤ h 38 1 then zup h 38 1 x else h) := by
  refine zF.ofT (by decide +kernel) [some (2, 38), some (0, x)] rfl (Nat.le_of_ble_eq_true rfl) ?_
  refine zt_rg (fun hm => ?_)
  have b1 := hB.1
  have b3 := hB.2.2.1
  have b4 := hB.2.2.2.1
  have b5 := hB.2.2.2.2.1
  have b6 := hB.2.2.2.2.2.1
  have b7 := hB.2.2.2.2.2.2.1
  have b8 := hB.2.2.2.2.2.2.2.1
  have b9 := hB.2.2.2.2.2.2.2.2.1
  have b10 := hB.2.2.2.2.2.2.2.2.2.1
  have b11 := hB.2.2.2.2.2.2.2.2.2.2
  refine zt_iload_n dX11_end_0 rfl ?_
  refine zt_i2l dX11_end_1 (by omega) ?_
  refine zt_lconst (v := 0) dX11_end_2 rfl ?_
  refine zt_aload_n dX11_end_3 rfl ?_
  refine zt_get dX11_end_4 fl_X11_140 (zs_38 hS) ?_
  refine zt_i2l dX11_end_7 (hm.fld (j := 1) (zs_38 hS) (by decide) (by decide) (by decide)) ?_
  refine zt_callS3r dX11_end_8 ml_X11_143 (Nat.le_of_ble_eq_true rfl) (c_min_ (x := x) (y := 0) (z := h 38 1) (by omega) (by decide) (by omega)) ?_
  refine zt_ifb_ne (tgt := 16) dX11_end_11 (by decide) (fun c_11 => ?_) (fun c_11 => ?_)
  · refine zt_aload_n dX11_end_16 rfl ?_
    refine zt_iload_n dX11_end_17 rfl ?_
    refine zt_puti dX11_end_18 fl_X11_140 rfl (zs_38 hS) (by omega) ?_
    refine zt_iconst dX11_end_21 ?_
    exact zt_zret dX11_end_22 (by decide) ⟨by first | rfl | (congr 2; (repeat' split) <;> omega) | (rw [zb_t (by omega)]) | (rw [zb_f (by omega)]), rfl, rfl, by first | (rw [if_pos (by omega)]; done) | (rw [if_neg (by omega)]; done)⟩
  · refine zt_iconst dX11_end_14 ?_
    exact zt_zret dX11_end_15 (by decide) ⟨by first | rfl | (congr 2; (repeat' split) <;> omega) | (rw [zb_t (by omega)]) | (rw [zb_f (by omega)]), rfl, rfl, by first | (rw [if_pos (by omega)]; done) | (rw [if_neg (by omega)]; done)⟩

set_option maxRecDepth 100000 in
set_option maxHeartbeats 4000000 in
theorem c_jhard {d n : Nat} {sh : zSh} {h : zMem} {x : Int} (hS : zShp sh) (hR : zRf h) (hB : mB h) (hx : zi32 x) : zF yX11_hard cX11_hard 2 (some .boolean) (d + 1) 0 0 [(2, 38), (0, x)] n sh h (some (0, zb (100 ≤ x ∧ x ≤ 5000))) n sh (if 100 ≤ x ∧ x ≤ 5000 then zup h 38 33 x else h) := by
  refine zF.ofT (by decide +kernel) [some (2, 38), some (0, x)] rfl (Nat.le_of_ble_eq_true rfl) ?_
  refine zt_rg (fun hm => ?_)
  have b1 := hB.1
  have b3 := hB.2.2.1
  have b4 := hB.2.2.2.1
  have b5 := hB.2.2.2.2.1
  have b6 := hB.2.2.2.2.2.1
  have b7 := hB.2.2.2.2.2.2.1
  have b8 := hB.2.2.2.2.2.2.2.1
  have b9 := hB.2.2.2.2.2.2.2.2.1
  have b10 := hB.2.2.2.2.2.2.2.2.2.1
  have b11 := hB.2.2.2.2.2.2.2.2.2.2
  refine zt_iload_n dX11_hard_0 rfl ?_
  refine zt_i2l dX11_hard_1 (by omega) ?_
  refine zt_ldc2 dX11_hard_2 kc_X11_270 ?_
  refine zt_ldc2 dX11_hard_5 kc_X11_418 ?_
  refine zt_callS3r dX11_hard_8 ml_X11_143 (Nat.le_of_ble_eq_true rfl) (c_min_ (x := x) (y := 100) (z := 5000) (by omega) (by decide) (by decide)) ?_
  refine zt_ifb_ne (tgt := 16) dX11_hard_11 (by decide) (fun c_11 => ?_) (fun c_11 => ?_)
  · refine zt_aload_n dX11_hard_16 rfl ?_
    refine zt_iload_n dX11_hard_17 rfl ?_
    refine zt_puti dX11_hard_18 fl_X11_72 rfl (zs_38 hS) (by omega) ?_
    refine zt_iconst dX11_hard_21 ?_
    exact zt_zret dX11_hard_22 (by decide) ⟨by first | rfl | (congr 2; (repeat' split) <;> omega) | (rw [zb_t (by omega)]) | (rw [zb_f (by omega)]), rfl, rfl, by first | (rw [if_pos (by omega)]; done) | (rw [if_neg (by omega)]; done)⟩
  · refine zt_iconst dX11_hard_14 ?_
    exact zt_zret dX11_hard_15 (by decide) ⟨by first | rfl | (congr 2; (repeat' split) <;> omega) | (rw [zb_t (by omega)]) | (rw [zb_f (by omega)]), rfl, rfl, by first | (rw [if_pos (by omega)]; done) | (rw [if_neg (by omega)]; done)⟩

set_option maxRecDepth 100000 in
set_option maxHeartbeats 4000000 in
theorem c_jclear {d n : Nat} {sh : zSh} {h : zMem} (hS : zShp sh) (hR : zRf h) (hB : mB h)  : zF yX11_clear cX11_clear 2 (some .int) (d + 0) 0 0 [(2, 38)] n sh h (some (0, h 38 50)) n sh (zup h 38 50 0) := by
  refine zF.ofT (by decide +kernel) [some (2, 38), none] rfl (Nat.le_of_ble_eq_true rfl) ?_
  refine zt_rg (fun hm => ?_)
  have b1 := hB.1
  have b3 := hB.2.2.1
  have b4 := hB.2.2.2.1
  have b5 := hB.2.2.2.2.1
  have b6 := hB.2.2.2.2.2.1
  have b7 := hB.2.2.2.2.2.2.1
  have b8 := hB.2.2.2.2.2.2.2.1
  have b9 := hB.2.2.2.2.2.2.2.2.1
  have b10 := hB.2.2.2.2.2.2.2.2.2.1
  have b11 := hB.2.2.2.2.2.2.2.2.2.2
  refine zt_aload_n dX11_clear_0 rfl ?_
  refine zt_get dX11_clear_1 fl_X11_388 (zs_38 hS) ?_
  refine zt_istore_n_1 dX11_clear_4 (by decide) rfl ?_
  refine zt_aload_n dX11_clear_5 rfl ?_
  refine zt_iconst dX11_clear_6 ?_
  refine zt_puti dX11_clear_7 fl_X11_388 rfl (zs_38 hS) (by decide) ?_
  refine zt_iload_n dX11_clear_10 rfl ?_
  exact zt_iret dX11_clear_11 ⟨rfl, rfl, rfl, rfl⟩

set_option maxRecDepth 100000 in
set_option maxHeartbeats 4000000 in
theorem c_jrow {d n : Nat} {sh : zSh} {h : zMem} {x : Int} (hS : zShp sh) (hR : zRf h) (hB : mB h) (hx : zi32 x) : zF yX11_row cX11_row 2 (some .int) (d + 1) 0 0 [(2, 38), (0, x)] n sh h (some (0, (if (-999999 ≤ x ∧ x ≤ 999999) ∧ h 38 50 < 20 then h 38 50 + 1 else -1))) n sh (if (-999999 ≤ x ∧ x ≤ 999999) ∧ h 38 50 < 20 then zup (zup h 71 (h 38 50) x) 38 50 (h 38 50 + 1) else h) := by
  refine zF.ofT (by decide +kernel) [some (2, 38), some (0, x)] rfl (Nat.le_of_ble_eq_true rfl) ?_
  refine zt_rg (fun hm => ?_)
  have b1 := hB.1
  have b3 := hB.2.2.1
  have b4 := hB.2.2.2.1
  have b5 := hB.2.2.2.2.1
  have b6 := hB.2.2.2.2.2.1
  have b7 := hB.2.2.2.2.2.2.1
  have b8 := hB.2.2.2.2.2.2.2.1
  have b9 := hB.2.2.2.2.2.2.2.2.1
  have b10 := hB.2.2.2.2.2.2.2.2.2.1
  have b11 := hB.2.2.2.2.2.2.2.2.2.2
  refine zt_iload_n dX11_row_0 rfl ?_
  refine zt_i2l dX11_row_1 (by omega) ?_
  refine zt_ldc2 dX11_row_2 kc_X11_384 ?_
  refine zt_ldc2 dX11_row_5 kc_X11_386 ?_
  refine zt_callS3r dX11_row_8 ml_X11_143 (Nat.le_of_ble_eq_true rfl) (c_min_ (x := x) (y := -999999) (z := 999999) (by omega) (by decide) (by decide)) ?_
  refine zt_ifb_eq (tgt := 23) dX11_row_11 (by decide) (fun c_11 => ?_) (fun c_11 => ?_)
  · refine zt_iconst dX11_row_23 ?_
    exact zt_iret dX11_row_24 ⟨by first | rfl | (congr 2; (repeat' split) <;> omega) | (rw [zb_t (by omega)]) | (rw [zb_f (by omega)]), rfl, rfl, by first | (rw [if_pos (by omega)]; done) | (rw [if_neg (by omega)]; done)⟩
  · refine zt_aload_n dX11_row_14 rfl ?_
    refine zt_get dX11_row_15 fl_X11_388 (zs_38 hS) ?_
    refine zt_bipush dX11_row_18 (by decide) ?_
    refine zt_icmp_ne (tgt := 25) dX11_row_20 (by decide) (hm.fld (j := 50) (zs_38 hS) (by decide) (by decide) (by decide)) (by decide) (fun c_20 => ?_) (fun c_20 => ?_)
    · refine zt_aload_n dX11_row_25 rfl ?_
      refine zt_getv dX11_row_26 fl_X11_112 (zs_38 hS) (rf_38_51 hR) ?_
      refine zt_aload_n dX11_row_29 rfl ?_
      refine zt_get dX11_row_30 fl_X11_388 (zs_38 hS) ?_
      refine zt_iload_n dX11_row_33 rfl ?_
      refine zt_iastore dX11_row_34 (zs_71 hS) (by decide) (by omega) (by omega) (by omega) ?_
      refine zt_aload_n dX11_row_35 rfl ?_
      refine zt_dup dX11_row_36 (Nat.ne_of_beq_eq_false rfl) ?_
      refine zt_getv (v := h 38 50) dX11_row_37 fl_X11_388 (zs_38 hS) ((zupA (by decide)).trans rfl) ?_
      refine zt_iconst dX11_row_40 ?_
      refine zt_iadd dX11_row_41 ?_
      refine zt_puti dX11_row_42 fl_X11_388 rfl (zs_38 hS) (by omega) ?_
      refine zt_aload_n dX11_row_45 rfl ?_
      refine zt_getv (v := (h 38 50) + 1) dX11_row_46 fl_X11_388 (zs_38 hS) zupE ?_
      exact zt_iret dX11_row_49 ⟨by first | rfl | (congr 2; (repeat' split) <;> omega) | (rw [zb_t (by omega)]) | (rw [zb_f (by omega)]), rfl, rfl, by first | (rw [if_pos (by omega)]; done) | (rw [if_neg (by omega)]; done)⟩
    · refine zt_iconst dX11_row_23 ?_
      exact zt_iret dX11_row_24 ⟨by first | rfl | (congr 2; (repeat' split) <;> omega) | (rw [zb_t (by omega)]) | (rw [zb_f (by omega)]), rfl, rfl, by first | (rw [if_pos (by omega)]; done) | (rw [if_neg (by omega)]; done)⟩

set_option maxRecDepth 100000 in
set_option maxHeartbeats 4000000 in
theorem c_jth {d n : Nat} {sh : zSh} {h : zMem} {i : Int} (hS : zShp sh) (hR : zRf h) (hB : mB h) (hi : zi32 i) : zF yX11_isThere cX11_isThere 2 (some .boolean) (d + 1) 0 0 [(2, 38), (0, i)] n sh h (some (0, zb ((0 ≤ i ∧ i < h 38 50) ∧ h 71 i ≠ -2147483648))) n sh h := by
  refine zF.ofT (by decide +kernel) [some (2, 38), some (0, i)] rfl (Nat.le_of_ble_eq_true rfl) ?_
  refine zt_rg (fun hm => ?_)
  have b1 := hB.1
  have b3 := hB.2.2.1
  have b4 := hB.2.2.2.1
  have b5 := hB.2.2.2.2.1
  have b6 := hB.2.2.2.2.2.1
  have b7 := hB.2.2.2.2.2.2.1
  have b8 := hB.2.2.2.2.2.2.2.1
  have b9 := hB.2.2.2.2.2.2.2.2.1
  have b10 := hB.2.2.2.2.2.2.2.2.2.1
  have b11 := hB.2.2.2.2.2.2.2.2.2.2
  refine zt_iload_n dX11_isThere_0 rfl ?_
  refine zt_i2l dX11_isThere_1 (by omega) ?_
  refine zt_lconst (v := 0) dX11_isThere_2 rfl ?_
  refine zt_aload_n dX11_isThere_3 rfl ?_
  refine zt_get dX11_isThere_4 fl_X11_388 (zs_38 hS) ?_
  refine zt_iconst dX11_isThere_7 ?_
  refine zt_isub dX11_isThere_8 ?_
  refine zt_i2l dX11_isThere_9 (by omega) ?_
  refine zt_callS3r dX11_isThere_10 ml_X11_143 (Nat.le_of_ble_eq_true rfl) (c_min_ (x := i) (y := 0) (z := (h 38 50) - 1) (by omega) (by decide) (by omega)) ?_
  refine zt_ifb_eq (tgt := 32) dX11_isThere_13 (by decide) (fun c_13 => ?_) (fun c_13 => ?_)
  · refine zt_iconst dX11_isThere_32 ?_
    exact zt_zret dX11_isThere_33 (by decide) ⟨zb0 (by omega), rfl, rfl, rfl⟩
  · refine zt_aload_n dX11_isThere_16 rfl ?_
    refine zt_getv dX11_isThere_17 fl_X11_112 (zs_38 hS) (rf_38_51 hR) ?_
    refine zt_iload_n dX11_isThere_20 rfl ?_
    refine zt_iaload dX11_isThere_21 (zs_71 hS) (by decide) (by omega) (by omega) ?_
    refine zt_ldc_w dX11_isThere_22 kc_X11_283 ?_
    refine zt_icmp_eq (tgt := 32) dX11_isThere_25 (by decide) (hm.int (zs_71 hS) (by omega) (by omega)) (by decide) (fun c_25 => ?_) (fun c_25 => ?_)
    · refine zt_iconst dX11_isThere_32 ?_
      exact zt_zret dX11_isThere_33 (by decide) ⟨zb0 (by omega), rfl, rfl, rfl⟩
    · refine zt_iconst dX11_isThere_28 ?_
      refine zt_goto (tgt := 33) dX11_isThere_29 (by decide) ?_
      exact zt_zret dX11_isThere_33 (by decide) ⟨zb1 (by omega), rfl, rfl, rfl⟩

set_option maxRecDepth 100000 in
set_option maxHeartbeats 4000000 in
theorem c_jmend {d n : Nat} {sh : zSh} {h : zMem} {t i : Int} (hS : zShp sh) (hR : zRf h) (hB : mB h) (ht : zi32 t) (hi : zi32 i) : zF yX11_mend cX11_mend 3 (some .boolean) (d + 4) 0 0 [(2, 38), (0, t), (0, i)] n sh h (some (0, zb (jG h t i))) n sh (if jG h t i then zup h 61 (30 * t + i) 0 else h) := by
  refine zF.ofT (by decide +kernel) [some (2, 38), some (0, t), some (0, i)] rfl (Nat.le_of_ble_eq_true rfl) ?_
  refine zt_rg (fun hm => ?_)
  have b1 := hB.1
  have b3 := hB.2.2.1
  have b4 := hB.2.2.2.1
  have b5 := hB.2.2.2.2.1
  have b6 := hB.2.2.2.2.2.1
  have b7 := hB.2.2.2.2.2.2.1
  have b8 := hB.2.2.2.2.2.2.2.1
  have b9 := hB.2.2.2.2.2.2.2.2.1
  have b10 := hB.2.2.2.2.2.2.2.2.2.1
  have b11 := hB.2.2.2.2.2.2.2.2.2.2
  refine zt_aload_n dX11_mend_0 rfl ?_
  refine zt_iload_n dX11_mend_1 rfl ?_
  refine zt_iload_n dX11_mend_2 rfl ?_
  refine zt_callV2r dX11_mend_3 ml_X11_424 (zs_38 hS) (Nat.le_of_ble_eq_true rfl) (c_jG hS hR hB (by omega) (by omega)) ?_
  refine zt_ifb_ne (tgt := 11) dX11_mend_6 (by decide) (fun c_6 => ?_) (fun c_6 => ?_)
  · have hb := hB.2.1 t c_6.2.1.1.1 c_6.2.1.1.2
    refine zt_aload_n dX11_mend_11 rfl ?_
    refine zt_getv dX11_mend_12 fl_X11_82 (zs_38 hS) (rf_38_36 hR) ?_
    refine zt_iload_n dX11_mend_15 rfl ?_
    refine zt_iload_n dX11_mend_16 rfl ?_
    refine zt_callS2r dX11_mend_17 ml_X11_316 (Nat.le_of_ble_eq_true rfl) (c_place) ?_
    refine zt_iconst dX11_mend_20 ?_
    refine zt_iastore dX11_mend_21 (zs_61 hS) (by decide) (by omega) (by omega) (by decide) ?_
    refine zt_iconst dX11_mend_22 ?_
    exact zt_zret dX11_mend_23 (by decide) ⟨by first | rfl | (congr 2; (repeat' split) <;> omega) | (rw [zb_t (by omega)]) | (rw [zb_f (by omega)]), rfl, rfl, by first | (rw [if_pos (by omega)]; done) | (rw [if_neg (by omega)]; done)⟩
  · refine zt_iconst dX11_mend_9 ?_
    exact zt_zret dX11_mend_10 (by decide) ⟨by first | rfl | (congr 2; (repeat' split) <;> omega) | (rw [zb_t (by omega)]) | (rw [zb_f (by omega)]), rfl, rfl, by first | (rw [if_pos (by omega)]; done) | (rw [if_neg (by omega)]; done)⟩

set_option maxRecDepth 100000 in
set_option maxHeartbeats 4000000 in
theorem c_jriv {d n : Nat} {sh : zSh} {h : zMem} {t i x : Int} (hS : zShp sh) (hR : zRf h) (hB : mB h) (ht : zi32 t) (hi : zi32 i) (hx : zi32 x) : zF yX11_rival cX11_rival 4 (some .boolean) (d + 3) 0 0 [(2, 38), (0, t), (0, i), (0, x)] n sh h (some (0, zb (jS h t ∧ jE h t i ∧ (x = -2147483648 ∨ (-999999999 ≤ x ∧ x ≤ 999999999))))) n sh (if jS h t ∧ jE h t i ∧ (x = -2147483648 ∨ (-999999999 ≤ x ∧ x ≤ 999999999)) then zup h 66 (30 * t + i) x else h) := by
  refine zF.ofT (by decide +kernel) [some (2, 38), some (0, t), some (0, i), some (0, x)] rfl (Nat.le_of_ble_eq_true rfl) ?_
  refine zt_rg (fun hm => ?_)
  have b1 := hB.1
  have b3 := hB.2.2.1
  have b4 := hB.2.2.2.1
  have b5 := hB.2.2.2.2.1
  have b6 := hB.2.2.2.2.2.1
  have b7 := hB.2.2.2.2.2.2.1
  have b8 := hB.2.2.2.2.2.2.2.1
  have b9 := hB.2.2.2.2.2.2.2.2.1
  have b10 := hB.2.2.2.2.2.2.2.2.2.1
  have b11 := hB.2.2.2.2.2.2.2.2.2.2
  refine zt_aload_n dX11_rival_0 rfl ?_
  refine zt_iload_n dX11_rival_1 rfl ?_
  refine zt_callV1r dX11_rival_2 ml_X11_420 (zs_38 hS) (Nat.le_of_ble_eq_true rfl) (c_jS hS hR hB (by omega)) ?_
  refine zt_ifb_eq (tgt := 38) dX11_rival_5 (by decide) (fun c_5 => ?_) (fun c_5 => ?_)
  · refine zt_iconst dX11_rival_38 ?_
    exact zt_zret dX11_rival_39 (by decide) ⟨by first | rfl | (congr 2; (repeat' split) <;> omega) | (rw [zb_t (by omega)]) | (rw [zb_f (by omega)]), rfl, rfl, by first | (rw [if_pos (by omega)]; done) | (rw [if_neg (by omega)]; done)⟩
  · refine zt_aload_n dX11_rival_8 rfl ?_
    refine zt_iload_n dX11_rival_9 rfl ?_
    refine zt_iload_n dX11_rival_10 rfl ?_
    refine zt_callV2r dX11_rival_11 ml_X11_313 (zs_38 hS) (Nat.le_of_ble_eq_true rfl) (c_jE hS hR hB (by omega) (by omega)) ?_
    refine zt_ifb_eq (tgt := 38) dX11_rival_14 (by decide) (fun c_14 => ?_) (fun c_14 => ?_)
    · refine zt_iconst dX11_rival_38 ?_
      exact zt_zret dX11_rival_39 (by decide) ⟨by first | rfl | (congr 2; (repeat' split) <;> omega) | (rw [zb_t (by omega)]) | (rw [zb_f (by omega)]), rfl, rfl, by first | (rw [if_pos (by omega)]; done) | (rw [if_neg (by omega)]; done)⟩
    · have hb := hB.2.1 t c_14.1.1 c_14.1.2
      refine zt_iload_n dX11_rival_17 rfl ?_
      refine zt_ldc_w dX11_rival_18 kc_X11_283 ?_
      refine zt_icmp_eq (tgt := 40) dX11_rival_21 (by decide) (by omega) (by decide) (fun c_21 => ?_) (fun c_21 => ?_)
      · refine zt_aload_n dX11_rival_40 rfl ?_
        refine zt_getv dX11_rival_41 fl_X11_97 (zs_38 hS) (rf_38_42 hR) ?_
        refine zt_iload_n dX11_rival_44 rfl ?_
        refine zt_iload_n dX11_rival_45 rfl ?_
        refine zt_callS2r dX11_rival_46 ml_X11_316 (Nat.le_of_ble_eq_true rfl) (c_place) ?_
        refine zt_iload_n dX11_rival_49 rfl ?_
        refine zt_iastore dX11_rival_50 (zs_66 hS) (by decide) (by omega) (by omega) (by omega) ?_
        refine zt_iconst dX11_rival_51 ?_
        exact zt_zret dX11_rival_52 (by decide) ⟨by first | rfl | (congr 2; (repeat' split) <;> omega) | (rw [zb_t (by omega)]) | (rw [zb_f (by omega)]), rfl, rfl, by first | (rw [if_pos (by omega)]; done) | (rw [if_neg (by omega)]; done)⟩
      · refine zt_iload_n dX11_rival_24 rfl ?_
        refine zt_i2l dX11_rival_25 (by omega) ?_
        refine zt_ldc2 dX11_rival_26 kc_X11_306 ?_
        refine zt_ldc2 dX11_rival_29 kc_X11_308 ?_
        refine zt_callS3r dX11_rival_32 ml_X11_143 (Nat.le_of_ble_eq_true rfl) (c_min_ (x := x) (y := -999999999) (z := 999999999) (by omega) (by decide) (by decide)) ?_
        refine zt_ifb_ne (tgt := 40) dX11_rival_35 (by decide) (fun c_35 => ?_) (fun c_35 => ?_)
        · refine zt_aload_n dX11_rival_40 rfl ?_
          refine zt_getv dX11_rival_41 fl_X11_97 (zs_38 hS) (rf_38_42 hR) ?_
          refine zt_iload_n dX11_rival_44 rfl ?_
          refine zt_iload_n dX11_rival_45 rfl ?_
          refine zt_callS2r dX11_rival_46 ml_X11_316 (Nat.le_of_ble_eq_true rfl) (c_place) ?_
          refine zt_iload_n dX11_rival_49 rfl ?_
          refine zt_iastore dX11_rival_50 (zs_66 hS) (by decide) (by omega) (by omega) (by omega) ?_
          refine zt_iconst dX11_rival_51 ?_
          exact zt_zret dX11_rival_52 (by decide) ⟨by first | rfl | (congr 2; (repeat' split) <;> omega) | (rw [zb_t (by omega)]) | (rw [zb_f (by omega)]), rfl, rfl, by first | (rw [if_pos (by omega)]; done) | (rw [if_neg (by omega)]; done)⟩
        · refine zt_iconst dX11_rival_38 ?_
          exact zt_zret dX11_rival_39 (by decide) ⟨by first | rfl | (congr 2; (repeat' split) <;> omega) | (rw [zb_t (by omega)]) | (rw [zb_f (by omega)]), rfl, rfl, by first | (rw [if_pos (by omega)]; done) | (rw [if_neg (by omega)]; done)⟩

set_option maxRecDepth 100000 in
set_option maxHeartbeats 4000000 in
theorem c_jerr {d n : Nat} {sh : zSh} {h : zMem} {t i x y : Int} (hS : zShp sh) (hR : zRf h) (hB : mB h) (ht : zi32 t) (hi : zi32 i) (hx : zi32 x) (hy : zi32 y) : zF yX11_erratum cX11_erratum 5 (some .int) (d + 4) 0 0 [(2, 38), (0, t), (0, i), (0, x), (0, y)] n sh h (some (0, (if (jG h t i ∧ (-999999999 ≤ x ∧ x ≤ 999999999) ∧ (-999999999 ≤ y ∧ y ≤ 999999999)) ∧ h 38 37 < 40 then h 38 37 else -1))) n sh (if (jG h t i ∧ (-999999999 ≤ x ∧ x ≤ 999999999) ∧ (-999999999 ≤ y ∧ y ≤ 999999999)) ∧ h 38 37 < 40 then zup (zup (zup (zup (zup h 62 (h 38 37) (30 * t + i)) 63 (h 38 37) x) 64 (h 38 37) y) 65 (h 38 37) (h 38 16)) 38 37 (h 38 37 + 1) else h) := by
  refine zF.ofT (by decide +kernel) [some (2, 38), some (0, t), some (0, i), some (0, x), some (0, y)] rfl (Nat.le_of_ble_eq_true rfl) ?_
  refine zt_rg (fun hm => ?_)
  have b1 := hB.1
  have b3 := hB.2.2.1
  have b4 := hB.2.2.2.1
  have b5 := hB.2.2.2.2.1
  have b6 := hB.2.2.2.2.2.1
  have b7 := hB.2.2.2.2.2.2.1
  have b8 := hB.2.2.2.2.2.2.2.1
  have b9 := hB.2.2.2.2.2.2.2.2.1
  have b10 := hB.2.2.2.2.2.2.2.2.2.1
  have b11 := hB.2.2.2.2.2.2.2.2.2.2
  refine zt_aload_n dX11_erratum_0 rfl ?_
  refine zt_iload_n dX11_erratum_1 rfl ?_
  refine zt_iload_n dX11_erratum_2 rfl ?_
  refine zt_callV2r dX11_erratum_3 ml_X11_424 (zs_38 hS) (Nat.le_of_ble_eq_true rfl) (c_jG hS hR hB (by omega) (by omega)) ?_
  refine zt_ifb_eq (tgt := 47) dX11_erratum_6 (by decide) (fun c_6 => ?_) (fun c_6 => ?_)
  · refine zt_iconst dX11_erratum_47 ?_
    exact zt_iret dX11_erratum_48 ⟨by first | rfl | (congr 2; (repeat' split) <;> omega) | (rw [zb_t (by omega)]) | (rw [zb_f (by omega)]), rfl, rfl, by first | (rw [if_pos (by omega)]; done) | (rw [if_neg (by omega)]; done)⟩
  · have hb := hB.2.1 t c_6.2.1.1.1 c_6.2.1.1.2
    refine zt_iload_n dX11_erratum_9 rfl ?_
    refine zt_i2l dX11_erratum_10 (by omega) ?_
    refine zt_ldc2 dX11_erratum_11 kc_X11_306 ?_
    refine zt_ldc2 dX11_erratum_14 kc_X11_308 ?_
    refine zt_callS3r dX11_erratum_17 ml_X11_143 (Nat.le_of_ble_eq_true rfl) (c_min_ (x := x) (y := -999999999) (z := 999999999) (by omega) (by decide) (by decide)) ?_
    refine zt_ifb_eq (tgt := 47) dX11_erratum_20 (by decide) (fun c_20 => ?_) (fun c_20 => ?_)
    · refine zt_iconst dX11_erratum_47 ?_
      exact zt_iret dX11_erratum_48 ⟨by first | rfl | (congr 2; (repeat' split) <;> omega) | (rw [zb_t (by omega)]) | (rw [zb_f (by omega)]), rfl, rfl, by first | (rw [if_pos (by omega)]; done) | (rw [if_neg (by omega)]; done)⟩
    · refine zt_iload dX11_erratum_23 rfl ?_
      refine zt_i2l dX11_erratum_25 (by omega) ?_
      refine zt_ldc2 dX11_erratum_26 kc_X11_306 ?_
      refine zt_ldc2 dX11_erratum_29 kc_X11_308 ?_
      refine zt_callS3r dX11_erratum_32 ml_X11_143 (Nat.le_of_ble_eq_true rfl) (c_min_ (x := y) (y := -999999999) (z := 999999999) (by omega) (by decide) (by decide)) ?_
      refine zt_ifb_eq (tgt := 47) dX11_erratum_35 (by decide) (fun c_35 => ?_) (fun c_35 => ?_)
      · refine zt_iconst dX11_erratum_47 ?_
        exact zt_iret dX11_erratum_48 ⟨by first | rfl | (congr 2; (repeat' split) <;> omega) | (rw [zb_t (by omega)]) | (rw [zb_f (by omega)]), rfl, rfl, by first | (rw [if_pos (by omega)]; done) | (rw [if_neg (by omega)]; done)⟩
      · refine zt_aload_n dX11_erratum_38 rfl ?_
        refine zt_get dX11_erratum_39 fl_X11_430 (zs_38 hS) ?_
        refine zt_bipush dX11_erratum_42 (by decide) ?_
        refine zt_icmp_ne (tgt := 49) dX11_erratum_44 (by decide) (hm.fld (j := 37) (zs_38 hS) (by decide) (by decide) (by decide)) (by decide) (fun c_44 => ?_) (fun c_44 => ?_)
        · refine zt_aload_n dX11_erratum_49 rfl ?_
          refine zt_getv dX11_erratum_50 fl_X11_85 (zs_38 hS) (rf_38_38 hR) ?_
          refine zt_aload_n dX11_erratum_53 rfl ?_
          refine zt_get dX11_erratum_54 fl_X11_430 (zs_38 hS) ?_
          refine zt_iload_n dX11_erratum_57 rfl ?_
          refine zt_iload_n dX11_erratum_58 rfl ?_
          refine zt_callS2r dX11_erratum_59 ml_X11_316 (Nat.le_of_ble_eq_true rfl) (c_place) ?_
          refine zt_iastore dX11_erratum_62 (zs_62 hS) (by decide) (by omega) (by omega) (by omega) ?_
          refine zt_aload_n dX11_erratum_63 rfl ?_
          refine zt_getv dX11_erratum_64 fl_X11_88 (zs_38 hS) (rf_38_39 (hR.upA (by decide))) ?_
          refine zt_aload_n dX11_erratum_67 rfl ?_
          refine zt_getv (v := h 38 37) dX11_erratum_68 fl_X11_430 (zs_38 hS) ((zupA (by decide)).trans rfl) ?_
          refine zt_iload_n dX11_erratum_71 rfl ?_
          refine zt_iastore dX11_erratum_72 (zs_63 hS) (by decide) (by omega) (by omega) (by omega) ?_
          refine zt_aload_n dX11_erratum_73 rfl ?_
          refine zt_getv dX11_erratum_74 fl_X11_91 (zs_38 hS) (rf_38_40 ((hR.upA (by decide)).upA (by decide))) ?_
          refine zt_aload_n dX11_erratum_77 rfl ?_
          refine zt_getv (v := h 38 37) dX11_erratum_78 fl_X11_430 (zs_38 hS) ((zupA (by decide)).trans ((zupA (by decide)).trans rfl)) ?_
          refine zt_iload dX11_erratum_81 rfl ?_
          refine zt_iastore dX11_erratum_83 (zs_64 hS) (by decide) (by omega) (by omega) (by omega) ?_
          refine zt_aload_n dX11_erratum_84 rfl ?_
          refine zt_getv dX11_erratum_85 fl_X11_94 (zs_38 hS) (rf_38_41 (((hR.upA (by decide)).upA (by decide)).upA (by decide))) ?_
          refine zt_aload_n dX11_erratum_88 rfl ?_
          refine zt_getv (v := h 38 37) dX11_erratum_89 fl_X11_430 (zs_38 hS) ((zupA (by decide)).trans ((zupA (by decide)).trans ((zupA (by decide)).trans rfl))) ?_
          refine zt_aload_n dX11_erratum_92 rfl ?_
          refine zt_getv (v := h 38 16) dX11_erratum_93 fl_X11_287 (zs_38 hS) ((zupA (by decide)).trans ((zupA (by decide)).trans ((zupA (by decide)).trans rfl))) ?_
          refine zt_iastore dX11_erratum_96 (zs_65 hS) (by decide) (by omega) (by omega) (by omega) ?_
          refine zt_aload_n dX11_erratum_97 rfl ?_
          refine zt_dup dX11_erratum_98 (Nat.ne_of_beq_eq_false rfl) ?_
          refine zt_getv (v := h 38 37) dX11_erratum_99 fl_X11_430 (zs_38 hS) ((zupA (by decide)).trans ((zupA (by decide)).trans ((zupA (by decide)).trans ((zupA (by decide)).trans rfl)))) ?_
          refine zt_iconst dX11_erratum_102 ?_
          refine zt_iadd dX11_erratum_103 ?_
          refine zt_puti dX11_erratum_104 fl_X11_430 rfl (zs_38 hS) (by omega) ?_
          refine zt_aload_n dX11_erratum_107 rfl ?_
          refine zt_getv (v := (h 38 37) + 1) dX11_erratum_108 fl_X11_430 (zs_38 hS) zupE ?_
          refine zt_iconst dX11_erratum_111 ?_
          refine zt_isub dX11_erratum_112 ?_
          exact zt_iret dX11_erratum_113 ⟨by first | rfl | (congr 2; (repeat' split) <;> omega) | (rw [zb_t (by omega)]) | (rw [zb_f (by omega)]), rfl, rfl, by first | (rw [if_pos (by omega)]; done) | (rw [if_neg (by omega)]; done)⟩
        · refine zt_iconst dX11_erratum_47 ?_
          exact zt_iret dX11_erratum_48 ⟨by first | rfl | (congr 2; (repeat' split) <;> omega) | (rw [zb_t (by omega)]) | (rw [zb_f (by omega)]), rfl, rfl, by first | (rw [if_pos (by omega)]; done) | (rw [if_neg (by omega)]; done)⟩

set_option maxRecDepth 100000 in
set_option maxHeartbeats 4000000 in
theorem c_jrdg {d n : Nat} {sh : zSh} {h : zMem} {x s : Int} (hx : zi32 x) (hs : zi32 s) : zF yX11_readAs cX11_readAs 2 (some .int) (d + 0) 0 0 [(0, x), (0, s)] n sh h (some (0, rdg x s)) n sh h := by
  refine zF.ofT (by decide +kernel) [some (0, x), some (0, s)] rfl (Nat.le_of_ble_eq_true rfl) ?_
  refine zt_iload_n dX11_readAs_0 rfl ?_
  refine zt_iconst dX11_readAs_1 ?_
  refine zt_icmp_ne (tgt := 13) dX11_readAs_2 (by decide) (by omega) (by decide) (fun c_2 => ?_) (fun c_2 => ?_)
  · refine zt_iload_n dX11_readAs_13 rfl ?_
    refine zt_bipush dX11_readAs_14 (by decide) ?_
    refine zt_icmp_ne (tgt := 27) dX11_readAs_16 (by decide) (by omega) (by decide) (fun c_16 => ?_) (fun c_16 => ?_)
    · refine zt_iload_n dX11_readAs_27 rfl ?_
      refine zt_iconst dX11_readAs_28 ?_
      refine zt_icmp_ne (tgt := 40) dX11_readAs_29 (by decide) (by omega) (by decide) (fun c_29 => ?_) (fun c_29 => ?_)
      · refine zt_iload_n dX11_readAs_40 rfl ?_
        refine zt_bipush dX11_readAs_41 (by decide) ?_
        refine zt_icmp_ne (tgt := 56) dX11_readAs_43 (by decide) (by omega) (by decide) (fun c_43 => ?_) (fun c_43 => ?_)
        · refine zt_iload_n dX11_readAs_56 rfl ?_
          exact zt_iret dX11_readAs_57 ⟨by congr 2; unfold rdg; (repeat' split) <;> omega, rfl, rfl, rfl⟩
        · refine zt_iload_n dX11_readAs_46 rfl ?_
          refine zt_bipush dX11_readAs_47 (by decide) ?_
          refine zt_icmp_lt (tgt := 56) dX11_readAs_49 (by decide) (by omega) (by decide) (fun c_49 => ?_) (fun c_49 => ?_)
          · refine zt_iload_n dX11_readAs_56 rfl ?_
            exact zt_iret dX11_readAs_57 ⟨by congr 2; unfold rdg; (repeat' split) <;> omega, rfl, rfl, rfl⟩
          · refine zt_iconst dX11_readAs_52 ?_
            refine zt_goto (tgt := 57) dX11_readAs_53 (by decide) ?_
            exact zt_iret dX11_readAs_57 ⟨by congr 2; unfold rdg; (repeat' split) <;> omega, rfl, rfl, rfl⟩
      · refine zt_iload_n dX11_readAs_32 rfl ?_
        refine zt_iconst dX11_readAs_33 ?_
        refine zt_icmp_lt (tgt := 40) dX11_readAs_34 (by decide) (by omega) (by decide) (fun c_34 => ?_) (fun c_34 => ?_)
        · refine zt_iload_n dX11_readAs_40 rfl ?_
          refine zt_bipush dX11_readAs_41 (by decide) ?_
          refine zt_icmp_ne (tgt := 56) dX11_readAs_43 (by decide) (by omega) (by decide) (fun c_43 => ?_) (fun c_43 => ?_)
          · refine zt_iload_n dX11_readAs_56 rfl ?_
            exact zt_iret dX11_readAs_57 ⟨by congr 2; unfold rdg; (repeat' split) <;> omega, rfl, rfl, rfl⟩
          · refine zt_iload_n dX11_readAs_46 rfl ?_
            refine zt_bipush dX11_readAs_47 (by decide) ?_
            refine zt_icmp_lt (tgt := 56) dX11_readAs_49 (by decide) (by omega) (by decide) (fun c_49 => ?_) (fun c_49 => ?_)
            · refine zt_iload_n dX11_readAs_56 rfl ?_
              exact zt_iret dX11_readAs_57 ⟨by congr 2; unfold rdg; (repeat' split) <;> omega, rfl, rfl, rfl⟩
            · refine zt_iconst dX11_readAs_52 ?_
              refine zt_goto (tgt := 57) dX11_readAs_53 (by decide) ?_
              exact zt_iret dX11_readAs_57 ⟨by congr 2; unfold rdg; (repeat' split) <;> omega, rfl, rfl, rfl⟩
        · refine zt_bipush dX11_readAs_37 (by decide) ?_
          exact zt_iret dX11_readAs_39 ⟨by congr 2; unfold rdg; (repeat' split) <;> omega, rfl, rfl, rfl⟩
    · refine zt_iload_n dX11_readAs_19 rfl ?_
      refine zt_bipush dX11_readAs_20 (by decide) ?_
      refine zt_icmp_lt (tgt := 27) dX11_readAs_22 (by decide) (by omega) (by decide) (fun c_22 => ?_) (fun c_22 => ?_)
      · refine zt_iload_n dX11_readAs_27 rfl ?_
        refine zt_iconst dX11_readAs_28 ?_
        refine zt_icmp_ne (tgt := 40) dX11_readAs_29 (by decide) (by omega) (by decide) (fun c_29 => ?_) (fun c_29 => ?_)
        · refine zt_iload_n dX11_readAs_40 rfl ?_
          refine zt_bipush dX11_readAs_41 (by decide) ?_
          refine zt_icmp_ne (tgt := 56) dX11_readAs_43 (by decide) (by omega) (by decide) (fun c_43 => ?_) (fun c_43 => ?_)
          · refine zt_iload_n dX11_readAs_56 rfl ?_
            exact zt_iret dX11_readAs_57 ⟨by congr 2; unfold rdg; (repeat' split) <;> omega, rfl, rfl, rfl⟩
          · refine zt_iload_n dX11_readAs_46 rfl ?_
            refine zt_bipush dX11_readAs_47 (by decide) ?_
            refine zt_icmp_lt (tgt := 56) dX11_readAs_49 (by decide) (by omega) (by decide) (fun c_49 => ?_) (fun c_49 => ?_)
            · refine zt_iload_n dX11_readAs_56 rfl ?_
              exact zt_iret dX11_readAs_57 ⟨by congr 2; unfold rdg; (repeat' split) <;> omega, rfl, rfl, rfl⟩
            · refine zt_iconst dX11_readAs_52 ?_
              refine zt_goto (tgt := 57) dX11_readAs_53 (by decide) ?_
              exact zt_iret dX11_readAs_57 ⟨by congr 2; unfold rdg; (repeat' split) <;> omega, rfl, rfl, rfl⟩
        · refine zt_iload_n dX11_readAs_32 rfl ?_
          refine zt_iconst dX11_readAs_33 ?_
          refine zt_icmp_lt (tgt := 40) dX11_readAs_34 (by decide) (by omega) (by decide) (fun c_34 => ?_) (fun c_34 => ?_)
          · refine zt_iload_n dX11_readAs_40 rfl ?_
            refine zt_bipush dX11_readAs_41 (by decide) ?_
            refine zt_icmp_ne (tgt := 56) dX11_readAs_43 (by decide) (by omega) (by decide) (fun c_43 => ?_) (fun c_43 => ?_)
            · refine zt_iload_n dX11_readAs_56 rfl ?_
              exact zt_iret dX11_readAs_57 ⟨by congr 2; unfold rdg; (repeat' split) <;> omega, rfl, rfl, rfl⟩
            · refine zt_iload_n dX11_readAs_46 rfl ?_
              refine zt_bipush dX11_readAs_47 (by decide) ?_
              refine zt_icmp_lt (tgt := 56) dX11_readAs_49 (by decide) (by omega) (by decide) (fun c_49 => ?_) (fun c_49 => ?_)
              · refine zt_iload_n dX11_readAs_56 rfl ?_
                exact zt_iret dX11_readAs_57 ⟨by congr 2; unfold rdg; (repeat' split) <;> omega, rfl, rfl, rfl⟩
              · refine zt_iconst dX11_readAs_52 ?_
                refine zt_goto (tgt := 57) dX11_readAs_53 (by decide) ?_
                exact zt_iret dX11_readAs_57 ⟨by congr 2; unfold rdg; (repeat' split) <;> omega, rfl, rfl, rfl⟩
          · refine zt_bipush dX11_readAs_37 (by decide) ?_
            exact zt_iret dX11_readAs_39 ⟨by congr 2; unfold rdg; (repeat' split) <;> omega, rfl, rfl, rfl⟩
      · refine zt_iconst dX11_readAs_25 ?_
        exact zt_iret dX11_readAs_26 ⟨by congr 2; unfold rdg; (repeat' split) <;> omega, rfl, rfl, rfl⟩
  · refine zt_iload_n dX11_readAs_5 rfl ?_
    refine zt_iconst dX11_readAs_6 ?_
    refine zt_icmp_lt (tgt := 13) dX11_readAs_7 (by decide) (by omega) (by decide) (fun c_7 => ?_) (fun c_7 => ?_)
    · refine zt_iload_n dX11_readAs_13 rfl ?_
      refine zt_bipush dX11_readAs_14 (by decide) ?_
      refine zt_icmp_ne (tgt := 27) dX11_readAs_16 (by decide) (by omega) (by decide) (fun c_16 => ?_) (fun c_16 => ?_)
      · refine zt_iload_n dX11_readAs_27 rfl ?_
        refine zt_iconst dX11_readAs_28 ?_
        refine zt_icmp_ne (tgt := 40) dX11_readAs_29 (by decide) (by omega) (by decide) (fun c_29 => ?_) (fun c_29 => ?_)
        · refine zt_iload_n dX11_readAs_40 rfl ?_
          refine zt_bipush dX11_readAs_41 (by decide) ?_
          refine zt_icmp_ne (tgt := 56) dX11_readAs_43 (by decide) (by omega) (by decide) (fun c_43 => ?_) (fun c_43 => ?_)
          · refine zt_iload_n dX11_readAs_56 rfl ?_
            exact zt_iret dX11_readAs_57 ⟨by congr 2; unfold rdg; (repeat' split) <;> omega, rfl, rfl, rfl⟩
          · refine zt_iload_n dX11_readAs_46 rfl ?_
            refine zt_bipush dX11_readAs_47 (by decide) ?_
            refine zt_icmp_lt (tgt := 56) dX11_readAs_49 (by decide) (by omega) (by decide) (fun c_49 => ?_) (fun c_49 => ?_)
            · refine zt_iload_n dX11_readAs_56 rfl ?_
              exact zt_iret dX11_readAs_57 ⟨by congr 2; unfold rdg; (repeat' split) <;> omega, rfl, rfl, rfl⟩
            · refine zt_iconst dX11_readAs_52 ?_
              refine zt_goto (tgt := 57) dX11_readAs_53 (by decide) ?_
              exact zt_iret dX11_readAs_57 ⟨by congr 2; unfold rdg; (repeat' split) <;> omega, rfl, rfl, rfl⟩
        · refine zt_iload_n dX11_readAs_32 rfl ?_
          refine zt_iconst dX11_readAs_33 ?_
          refine zt_icmp_lt (tgt := 40) dX11_readAs_34 (by decide) (by omega) (by decide) (fun c_34 => ?_) (fun c_34 => ?_)
          · refine zt_iload_n dX11_readAs_40 rfl ?_
            refine zt_bipush dX11_readAs_41 (by decide) ?_
            refine zt_icmp_ne (tgt := 56) dX11_readAs_43 (by decide) (by omega) (by decide) (fun c_43 => ?_) (fun c_43 => ?_)
            · refine zt_iload_n dX11_readAs_56 rfl ?_
              exact zt_iret dX11_readAs_57 ⟨by congr 2; unfold rdg; (repeat' split) <;> omega, rfl, rfl, rfl⟩
            · refine zt_iload_n dX11_readAs_46 rfl ?_
              refine zt_bipush dX11_readAs_47 (by decide) ?_
              refine zt_icmp_lt (tgt := 56) dX11_readAs_49 (by decide) (by omega) (by decide) (fun c_49 => ?_) (fun c_49 => ?_)
              · refine zt_iload_n dX11_readAs_56 rfl ?_
                exact zt_iret dX11_readAs_57 ⟨by congr 2; unfold rdg; (repeat' split) <;> omega, rfl, rfl, rfl⟩
              · refine zt_iconst dX11_readAs_52 ?_
                refine zt_goto (tgt := 57) dX11_readAs_53 (by decide) ?_
                exact zt_iret dX11_readAs_57 ⟨by congr 2; unfold rdg; (repeat' split) <;> omega, rfl, rfl, rfl⟩
          · refine zt_bipush dX11_readAs_37 (by decide) ?_
            exact zt_iret dX11_readAs_39 ⟨by congr 2; unfold rdg; (repeat' split) <;> omega, rfl, rfl, rfl⟩
      · refine zt_iload_n dX11_readAs_19 rfl ?_
        refine zt_bipush dX11_readAs_20 (by decide) ?_
        refine zt_icmp_lt (tgt := 27) dX11_readAs_22 (by decide) (by omega) (by decide) (fun c_22 => ?_) (fun c_22 => ?_)
        · refine zt_iload_n dX11_readAs_27 rfl ?_
          refine zt_iconst dX11_readAs_28 ?_
          refine zt_icmp_ne (tgt := 40) dX11_readAs_29 (by decide) (by omega) (by decide) (fun c_29 => ?_) (fun c_29 => ?_)
          · refine zt_iload_n dX11_readAs_40 rfl ?_
            refine zt_bipush dX11_readAs_41 (by decide) ?_
            refine zt_icmp_ne (tgt := 56) dX11_readAs_43 (by decide) (by omega) (by decide) (fun c_43 => ?_) (fun c_43 => ?_)
            · refine zt_iload_n dX11_readAs_56 rfl ?_
              exact zt_iret dX11_readAs_57 ⟨by congr 2; unfold rdg; (repeat' split) <;> omega, rfl, rfl, rfl⟩
            · refine zt_iload_n dX11_readAs_46 rfl ?_
              refine zt_bipush dX11_readAs_47 (by decide) ?_
              refine zt_icmp_lt (tgt := 56) dX11_readAs_49 (by decide) (by omega) (by decide) (fun c_49 => ?_) (fun c_49 => ?_)
              · refine zt_iload_n dX11_readAs_56 rfl ?_
                exact zt_iret dX11_readAs_57 ⟨by congr 2; unfold rdg; (repeat' split) <;> omega, rfl, rfl, rfl⟩
              · refine zt_iconst dX11_readAs_52 ?_
                refine zt_goto (tgt := 57) dX11_readAs_53 (by decide) ?_
                exact zt_iret dX11_readAs_57 ⟨by congr 2; unfold rdg; (repeat' split) <;> omega, rfl, rfl, rfl⟩
          · refine zt_iload_n dX11_readAs_32 rfl ?_
            refine zt_iconst dX11_readAs_33 ?_
            refine zt_icmp_lt (tgt := 40) dX11_readAs_34 (by decide) (by omega) (by decide) (fun c_34 => ?_) (fun c_34 => ?_)
            · refine zt_iload_n dX11_readAs_40 rfl ?_
              refine zt_bipush dX11_readAs_41 (by decide) ?_
              refine zt_icmp_ne (tgt := 56) dX11_readAs_43 (by decide) (by omega) (by decide) (fun c_43 => ?_) (fun c_43 => ?_)
              · refine zt_iload_n dX11_readAs_56 rfl ?_
                exact zt_iret dX11_readAs_57 ⟨by congr 2; unfold rdg; (repeat' split) <;> omega, rfl, rfl, rfl⟩
              · refine zt_iload_n dX11_readAs_46 rfl ?_
                refine zt_bipush dX11_readAs_47 (by decide) ?_
                refine zt_icmp_lt (tgt := 56) dX11_readAs_49 (by decide) (by omega) (by decide) (fun c_49 => ?_) (fun c_49 => ?_)
                · refine zt_iload_n dX11_readAs_56 rfl ?_
                  exact zt_iret dX11_readAs_57 ⟨by congr 2; unfold rdg; (repeat' split) <;> omega, rfl, rfl, rfl⟩
                · refine zt_iconst dX11_readAs_52 ?_
                  refine zt_goto (tgt := 57) dX11_readAs_53 (by decide) ?_
                  exact zt_iret dX11_readAs_57 ⟨by congr 2; unfold rdg; (repeat' split) <;> omega, rfl, rfl, rfl⟩
            · refine zt_bipush dX11_readAs_37 (by decide) ?_
              exact zt_iret dX11_readAs_39 ⟨by congr 2; unfold rdg; (repeat' split) <;> omega, rfl, rfl, rfl⟩
        · refine zt_iconst dX11_readAs_25 ?_
          exact zt_iret dX11_readAs_26 ⟨by congr 2; unfold rdg; (repeat' split) <;> omega, rfl, rfl, rfl⟩
    · refine zt_bipush dX11_readAs_10 (by decide) ?_
      exact zt_iret dX11_readAs_12 ⟨by congr 2; unfold rdg; (repeat' split) <;> omega, rfl, rfl, rfl⟩

abbrev jSt (h : zMem) (x a b : Int) : Prop := (0 ≤ x ∧ x / 10 < 5 ∧ x % 10 < 9) ∧ (0 ≤ a ∧ a ≤ 50) ∧ (1 ≤ b ∧ b ≤ 50) ∧ h 38 46 < 12

set_option maxRecDepth 100000 in
set_option maxHeartbeats 4000000 in
theorem c_jstk {d n : Nat} {sh : zSh} {h : zMem} {x a b : Int} (hS : zShp sh) (hR : zRf h) (hB : mB h) (hx : zi32 x) (ha : zi32 a) (hb0 : zi32 b) : zF yX11_stick cX11_stick 4 (some .boolean) (d + 1) 0 0 [(2, 38), (0, x), (0, a), (0, b)] n sh h (some (0, zb (jSt h x a b))) n sh (if jSt h x a b then zup (zup (zup (zup h 68 (h 38 46) (9 * (x / 10) + x % 10)) 69 (h 38 46) (h 38 45 + a)) 70 (h 38 46) (h 38 45 + a + b - 1)) 38 46 (h 38 46 + 1) else h) := by
  refine zF.ofT (by decide +kernel) [some (2, 38), some (0, x), some (0, a), some (0, b)] rfl (Nat.le_of_ble_eq_true rfl) ?_
  refine zt_rg (fun hm => ?_)
  have b1 := hB.1
  have b3 := hB.2.2.1
  have b4 := hB.2.2.2.1
  have b5 := hB.2.2.2.2.1
  have b6 := hB.2.2.2.2.2.1
  have b7 := hB.2.2.2.2.2.2.1
  have b8 := hB.2.2.2.2.2.2.2.1
  have b9 := hB.2.2.2.2.2.2.2.2.1
  have b10 := hB.2.2.2.2.2.2.2.2.2.1
  have b11 := hB.2.2.2.2.2.2.2.2.2.2
  refine zt_iload_n dX11_stick_0 rfl ?_
  refine zt_if_lt (tgt := 54) dX11_stick_1 (by decide) (by omega) (fun c_1 => ?_) (fun c_1 => ?_)
  · refine zt_iconst dX11_stick_54 ?_
    exact zt_zret dX11_stick_55 (by decide) ⟨by first | rfl | (congr 2; (repeat' split) <;> omega) | (rw [zb_t (by omega)]) | (rw [zb_f (by omega)]), rfl, rfl, by first | (rw [if_pos (by omega)]; done) | (rw [if_neg (by omega)]; done)⟩
  · refine zt_iload_n dX11_stick_4 rfl ?_
    refine zt_bipush dX11_stick_5 (by decide) ?_
    refine zt_idiv dX11_stick_7 (by omega) (by decide) (by decide) ?_
    refine zt_topv (v := x / 10) (Int.tdiv_eq_ediv_of_nonneg (by omega)) ?_
    refine zt_iconst dX11_stick_8 ?_
    refine zt_icmp_ge (tgt := 54) dX11_stick_9 (by decide) (by omega) (by decide) (fun c_9 => ?_) (fun c_9 => ?_)
    · refine zt_iconst dX11_stick_54 ?_
      exact zt_zret dX11_stick_55 (by decide) ⟨by first | rfl | (congr 2; (repeat' split) <;> omega) | (rw [zb_t (by omega)]) | (rw [zb_f (by omega)]), rfl, rfl, by first | (rw [if_pos (by omega)]; done) | (rw [if_neg (by omega)]; done)⟩
    · refine zt_iload_n dX11_stick_12 rfl ?_
      refine zt_bipush dX11_stick_13 (by decide) ?_
      refine zt_irem dX11_stick_15 (by omega) (by decide) (by decide) ?_
      refine zt_topv (v := x % 10) (Int.tmod_eq_emod_of_nonneg (by omega)) ?_
      refine zt_bipush dX11_stick_16 (by decide) ?_
      refine zt_icmp_ge (tgt := 54) dX11_stick_18 (by decide) (by omega) (by decide) (fun c_18 => ?_) (fun c_18 => ?_)
      · refine zt_iconst dX11_stick_54 ?_
        exact zt_zret dX11_stick_55 (by decide) ⟨by first | rfl | (congr 2; (repeat' split) <;> omega) | (rw [zb_t (by omega)]) | (rw [zb_f (by omega)]), rfl, rfl, by first | (rw [if_pos (by omega)]; done) | (rw [if_neg (by omega)]; done)⟩
      · refine zt_iload_n dX11_stick_21 rfl ?_
        refine zt_i2l dX11_stick_22 (by omega) ?_
        refine zt_lconst (v := 0) dX11_stick_23 rfl ?_
        refine zt_ldc2 dX11_stick_24 kc_X11_356 ?_
        refine zt_callS3r dX11_stick_27 ml_X11_143 (Nat.le_of_ble_eq_true rfl) (c_min_ (x := a) (y := 0) (z := 50) (by omega) (by decide) (by decide)) ?_
        refine zt_ifb_eq (tgt := 54) dX11_stick_30 (by decide) (fun c_30 => ?_) (fun c_30 => ?_)
        · refine zt_iconst dX11_stick_54 ?_
          exact zt_zret dX11_stick_55 (by decide) ⟨by first | rfl | (congr 2; (repeat' split) <;> omega) | (rw [zb_t (by omega)]) | (rw [zb_f (by omega)]), rfl, rfl, by first | (rw [if_pos (by omega)]; done) | (rw [if_neg (by omega)]; done)⟩
        · refine zt_iload_n dX11_stick_33 rfl ?_
          refine zt_i2l dX11_stick_34 (by omega) ?_
          refine zt_lconst (v := 1) dX11_stick_35 rfl ?_
          refine zt_ldc2 dX11_stick_36 kc_X11_356 ?_
          refine zt_callS3r dX11_stick_39 ml_X11_143 (Nat.le_of_ble_eq_true rfl) (c_min_ (x := b) (y := 1) (z := 50) (by omega) (by decide) (by decide)) ?_
          refine zt_ifb_eq (tgt := 54) dX11_stick_42 (by decide) (fun c_42 => ?_) (fun c_42 => ?_)
          · refine zt_iconst dX11_stick_54 ?_
            exact zt_zret dX11_stick_55 (by decide) ⟨by first | rfl | (congr 2; (repeat' split) <;> omega) | (rw [zb_t (by omega)]) | (rw [zb_f (by omega)]), rfl, rfl, by first | (rw [if_pos (by omega)]; done) | (rw [if_neg (by omega)]; done)⟩
          · refine zt_aload_n dX11_stick_45 rfl ?_
            refine zt_get dX11_stick_46 fl_X11_353 (zs_38 hS) ?_
            refine zt_bipush dX11_stick_49 (by decide) ?_
            refine zt_icmp_ne (tgt := 56) dX11_stick_51 (by decide) (hm.fld (j := 46) (zs_38 hS) (by decide) (by decide) (by decide)) (by decide) (fun c_51 => ?_) (fun c_51 => ?_)
            · refine zt_aload_n dX11_stick_56 rfl ?_
              refine zt_getv dX11_stick_57 fl_X11_103 (zs_38 hS) (rf_38_47 hR) ?_
              refine zt_aload_n dX11_stick_60 rfl ?_
              refine zt_get dX11_stick_61 fl_X11_353 (zs_38 hS) ?_
              refine zt_bipush dX11_stick_64 (by decide) ?_
              refine zt_iload_n dX11_stick_66 rfl ?_
              refine zt_bipush dX11_stick_67 (by decide) ?_
              refine zt_idiv dX11_stick_69 (by omega) (by decide) (by decide) ?_
              refine zt_topv (v := x / 10) (Int.tdiv_eq_ediv_of_nonneg (by omega)) ?_
              refine zt_imul dX11_stick_70 ?_
              refine zt_iload_n dX11_stick_71 rfl ?_
              refine zt_bipush dX11_stick_72 (by decide) ?_
              refine zt_irem dX11_stick_74 (by omega) (by decide) (by decide) ?_
              refine zt_topv (v := x % 10) (Int.tmod_eq_emod_of_nonneg (by omega)) ?_
              refine zt_iadd dX11_stick_75 ?_
              refine zt_iastore dX11_stick_76 (zs_68 hS) (by decide) (by omega) (by omega) (by omega) ?_
              refine zt_aload_n dX11_stick_77 rfl ?_
              refine zt_getv dX11_stick_78 fl_X11_106 (zs_38 hS) (rf_38_48 (hR.upA (by decide))) ?_
              refine zt_aload_n dX11_stick_81 rfl ?_
              refine zt_getv (v := h 38 46) dX11_stick_82 fl_X11_353 (zs_38 hS) ((zupA (by decide)).trans rfl) ?_
              refine zt_aload_n dX11_stick_85 rfl ?_
              refine zt_getv (v := h 38 45) dX11_stick_86 fl_X11_350 (zs_38 hS) ((zupA (by decide)).trans rfl) ?_
              refine zt_iload_n dX11_stick_89 rfl ?_
              refine zt_iadd dX11_stick_90 ?_
              refine zt_iastore dX11_stick_91 (zs_69 hS) (by decide) (by omega) (by omega) (by omega) ?_
              refine zt_aload_n dX11_stick_92 rfl ?_
              refine zt_getv dX11_stick_93 fl_X11_109 (zs_38 hS) (rf_38_49 ((hR.upA (by decide)).upA (by decide))) ?_
              refine zt_aload_n dX11_stick_96 rfl ?_
              refine zt_getv (v := h 38 46) dX11_stick_97 fl_X11_353 (zs_38 hS) ((zupA (by decide)).trans ((zupA (by decide)).trans rfl)) ?_
              refine zt_aload_n dX11_stick_100 rfl ?_
              refine zt_getv (v := h 38 45) dX11_stick_101 fl_X11_350 (zs_38 hS) ((zupA (by decide)).trans ((zupA (by decide)).trans rfl)) ?_
              refine zt_iload_n dX11_stick_104 rfl ?_
              refine zt_iadd dX11_stick_105 ?_
              refine zt_iload_n dX11_stick_106 rfl ?_
              refine zt_iadd dX11_stick_107 ?_
              refine zt_iconst dX11_stick_108 ?_
              refine zt_isub dX11_stick_109 ?_
              refine zt_iastore dX11_stick_110 (zs_70 hS) (by decide) (by omega) (by omega) (by omega) ?_
              refine zt_aload_n dX11_stick_111 rfl ?_
              refine zt_dup dX11_stick_112 (Nat.ne_of_beq_eq_false rfl) ?_
              refine zt_getv (v := h 38 46) dX11_stick_113 fl_X11_353 (zs_38 hS) ((zupA (by decide)).trans ((zupA (by decide)).trans ((zupA (by decide)).trans rfl))) ?_
              refine zt_iconst dX11_stick_116 ?_
              refine zt_iadd dX11_stick_117 ?_
              refine zt_puti dX11_stick_118 fl_X11_353 rfl (zs_38 hS) (by omega) ?_
              refine zt_iconst dX11_stick_121 ?_
              exact zt_zret dX11_stick_122 (by decide) ⟨by first | rfl | (congr 2; (repeat' split) <;> omega) | (rw [zb_t (by omega)]) | (rw [zb_f (by omega)]), rfl, rfl, by first | (rw [if_pos (by omega)]; done) | (rw [if_neg (by omega)]; done)⟩
            · refine zt_iconst dX11_stick_54 ?_
              exact zt_zret dX11_stick_55 (by decide) ⟨by first | rfl | (congr 2; (repeat' split) <;> omega) | (rw [zb_t (by omega)]) | (rw [zb_f (by omega)]), rfl, rfl, by first | (rw [if_pos (by omega)]; done) | (rw [if_neg (by omega)]; done)⟩
