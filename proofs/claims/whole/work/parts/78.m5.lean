/-- the ROW is the class' -/
def vRow (h : zMem) : Prop := h 38 50 = h 26 0 ∧ rOK h ∧ ∀ i, 0 ≤ i → i < h 26 0 → h 71 i = h 27 i
theorem vRow.th {h : zMem} (v : vRow h) (j : Int) : ((0 ≤ j ∧ j < h 38 50) ∧ h 71 j ≠ -2147483648) ↔ rTh h j := by
  have e := v.1
  constructor
  · rintro ⟨a, b⟩
    have := v.2.2 j a.1 (by omega)
    exact ⟨by omega, by rw [← this]; exact b⟩
  · rintro ⟨a, b⟩
    have := v.2.2 j a.1 a.2
    exact ⟨by omega, by rw [this]; exact b⟩
theorem c_jth2 {d n : Nat} {sh : zSh} {h : zMem} {i : Int} (hS : zShp sh) (hR : zRf h) (hB : mB h) (hv : vRow h) (hi : zi32 i) : zF yX11_isThere cX11_isThere 2 (some .boolean) (d + 1) 0 0 [(2, 38), (0, i)] n sh h (some (0, zb (rTh h i))) n sh h :=
  zF.of_eq (by rw [zb_eq (hv.th i)]) rfl rfl rfl (c_jth hS hR hB hi)
theorem rFo_out {h : zMem} {i : Int} (q : i < 0 ∨ h 26 0 ≤ i + 4) : rFo h i = -1 := if_neg (by rintro ⟨a, -, -, -, b⟩; have := a.1; have := b.1; omega)
theorem r5_t {h : zMem} {i : Int} (q : r5 h i) : rFo h i = zabs (r4d (h 27) i) := if_pos q
theorem r5_f {h : zMem} {i : Int} (q : ¬ r5 h i) : rFo h i = -1 := if_neg q
theorem rFo_b {h : zMem} {i : Int} (hr : rOK h) : -1 ≤ rFo h i ∧ rFo h i ≤ 16000000 := by
  by_cases q : r5 h i
  · rw [r5_t q]
    obtain ⟨q0, q1, q2, q3, q4⟩ := q
    have h0 := hr.2 i q0.1.1 q0.1.2
    have h1 := hr.2 (i + 1) q1.1.1 q1.1.2
    have h2 := hr.2 (i + 2) q2.1.1 q2.1.2
    have h3 := hr.2 (i + 3) q3.1.1 q3.1.2
    have h4 := hr.2 (i + 4) q4.1.1 q4.1.2
    unfold zabs r4d; split <;> omega
  · rw [r5_f q]; omega
theorem rBo_m {h : zMem} {i : Int} (hr : rOK h) (hi : 0 ≤ i ∧ i < h 26 0) : rBo h i = if zmx (rFo h (i - 2)) (rFo h (i - 1)) = -1 then -1 else (3 * zmx (rFo h (i - 2)) (rFo h (i - 1)) + 127) / 128 := by
  unfold rBo
  by_cases q : 1 ≤ i ∧ i < 20
  · rw [if_pos q]
  · have := hr.1
    have q0 : i = 0 := by omega
    subst q0
    rw [if_neg q, rFo_out (i := 0 - 2) (by omega), rFo_out (i := 0 - 1) (by omega)]; rfl
theorem rBo_o {h : zMem} {i : Int} (hi : ¬ (0 ≤ i ∧ i < h 26 0)) : rBo h i = -1 := by
  unfold rBo
  by_cases q : 1 ≤ i ∧ i < 20
  · rw [if_pos q, rFo_out (i := i - 2) (by omega), rFo_out (i := i - 1) (by omega)]; rfl
  · rw [if_neg q]

set_option maxRecDepth 100000 in
set_option maxHeartbeats 4000000 in
theorem c_jfo {d n : Nat} {sh : zSh} {h : zMem} {i : Int} (hS : zShp sh) (hR : zRf h) (hB : mB h) (hv : vRow h) (hi : -50 ≤ i ∧ i ≤ 50) : zF yX11_fourth cX11_fourth 3 (some .int) (d + 2) 0 0 [(2, 38), (0, i)] n sh h (some (0, rFo h i)) n sh h := by
  refine zF.ofT (by decide +kernel) [some (2, 38), some (0, i), none] rfl (Nat.le_of_ble_eq_true rfl) ?_
  refine zt_rg (fun hm => ?_)
  have b1 := hB.1
  have b3 := hB.2.2.1
  have b4 := hB.2.2.2.1
  have b5 := hB.2.2.2.2.1
  have b6 := hB.2.2.2.2.2.1
  have b7 := hB.2.2.2.2.2.2.1
  have b8 := hB.2.2.2.2.2.2.2.1
  have b9 := hB.2.2.2.2.2.2.2.2.1
  have b10 := hB.2.2.2.2.2.2.2.2.2.1
  have b11 := hB.2.2.2.2.2.2.2.2.2.2
  refine zt_iconst dX11_fourth_0 ?_
  refine zt_istore_n_2 dX11_fourth_1 (by decide) rfl ?_
  refine zt_iload_n dX11_fourth_2 rfl ?_
  refine zt_iconst dX11_fourth_3 ?_
  refine zt_icmp_ge (tgt := 25) dX11_fourth_4 (by decide) (by decide) (by decide) (fun q => absurd q (by decide)) (fun c_4 => ?_)
  refine zt_aload_n dX11_fourth_7 rfl ?_
  refine zt_iload_n dX11_fourth_8 rfl ?_
  refine zt_iload_n dX11_fourth_9 rfl ?_
  refine zt_iadd dX11_fourth_10 ?_
  refine zt_callV1r dX11_fourth_11 ml_X11_412 (zs_38 hS) (Nat.le_of_ble_eq_true rfl) (zF.of_eq (r' := some (0, zb (rTh h i))) (by rw [Int.add_zero]) rfl rfl rfl (c_jth2 hS hR hB hv (by omega))) ?_
  refine zt_ifb_ne (tgt := 19) dX11_fourth_14 (by decide) (fun c_14 => ?_) (fun c_14 => ?_)
  · have z0 := c_14
    refine zt_iincv_2 (v := 1) dX11_fourth_19 (by decide) rfl (by decide) ?_
    refine zt_goto (tgt := 2) dX11_fourth_22 (by decide) ?_
    refine zt_iload_n dX11_fourth_2 rfl ?_
    refine zt_iconst dX11_fourth_3 ?_
    refine zt_icmp_ge (tgt := 25) dX11_fourth_4 (by decide) (by decide) (by decide) (fun q => absurd q (by decide)) (fun c_4 => ?_)
    refine zt_aload_n dX11_fourth_7 rfl ?_
    refine zt_iload_n dX11_fourth_8 rfl ?_
    refine zt_iload_n dX11_fourth_9 rfl ?_
    refine zt_iadd dX11_fourth_10 ?_
    refine zt_callV1r dX11_fourth_11 ml_X11_412 (zs_38 hS) (Nat.le_of_ble_eq_true rfl) (c_jth2 hS hR hB hv (by omega)) ?_
    refine zt_ifb_ne (tgt := 19) dX11_fourth_14 (by decide) (fun c_14 => ?_) (fun c_14 => ?_)
    · have z1 := c_14
      refine zt_iincv_2 (v := 2) dX11_fourth_19 (by decide) rfl (by decide) ?_
      refine zt_goto (tgt := 2) dX11_fourth_22 (by decide) ?_
      refine zt_iload_n dX11_fourth_2 rfl ?_
      refine zt_iconst dX11_fourth_3 ?_
      refine zt_icmp_ge (tgt := 25) dX11_fourth_4 (by decide) (by decide) (by decide) (fun q => absurd q (by decide)) (fun c_4 => ?_)
      refine zt_aload_n dX11_fourth_7 rfl ?_
      refine zt_iload_n dX11_fourth_8 rfl ?_
      refine zt_iload_n dX11_fourth_9 rfl ?_
      refine zt_iadd dX11_fourth_10 ?_
      refine zt_callV1r dX11_fourth_11 ml_X11_412 (zs_38 hS) (Nat.le_of_ble_eq_true rfl) (c_jth2 hS hR hB hv (by omega)) ?_
      refine zt_ifb_ne (tgt := 19) dX11_fourth_14 (by decide) (fun c_14 => ?_) (fun c_14 => ?_)
      · have z2 := c_14
        refine zt_iincv_2 (v := 3) dX11_fourth_19 (by decide) rfl (by decide) ?_
        refine zt_goto (tgt := 2) dX11_fourth_22 (by decide) ?_
        refine zt_iload_n dX11_fourth_2 rfl ?_
        refine zt_iconst dX11_fourth_3 ?_
        refine zt_icmp_ge (tgt := 25) dX11_fourth_4 (by decide) (by decide) (by decide) (fun q => absurd q (by decide)) (fun c_4 => ?_)
        refine zt_aload_n dX11_fourth_7 rfl ?_
        refine zt_iload_n dX11_fourth_8 rfl ?_
        refine zt_iload_n dX11_fourth_9 rfl ?_
        refine zt_iadd dX11_fourth_10 ?_
        refine zt_callV1r dX11_fourth_11 ml_X11_412 (zs_38 hS) (Nat.le_of_ble_eq_true rfl) (c_jth2 hS hR hB hv (by omega)) ?_
        refine zt_ifb_ne (tgt := 19) dX11_fourth_14 (by decide) (fun c_14 => ?_) (fun c_14 => ?_)
        · have z3 := c_14
          refine zt_iincv_2 (v := 4) dX11_fourth_19 (by decide) rfl (by decide) ?_
          refine zt_goto (tgt := 2) dX11_fourth_22 (by decide) ?_
          refine zt_iload_n dX11_fourth_2 rfl ?_
          refine zt_iconst dX11_fourth_3 ?_
          refine zt_icmp_ge (tgt := 25) dX11_fourth_4 (by decide) (by decide) (by decide) (fun q => absurd q (by decide)) (fun c_4 => ?_)
          refine zt_aload_n dX11_fourth_7 rfl ?_
          refine zt_iload_n dX11_fourth_8 rfl ?_
          refine zt_iload_n dX11_fourth_9 rfl ?_
          refine zt_iadd dX11_fourth_10 ?_
          refine zt_callV1r dX11_fourth_11 ml_X11_412 (zs_38 hS) (Nat.le_of_ble_eq_true rfl) (c_jth2 hS hR hB hv (by omega)) ?_
          refine zt_ifb_ne (tgt := 19) dX11_fourth_14 (by decide) (fun c_14 => ?_) (fun c_14 => ?_)
          · have z4 := c_14
            refine zt_iincv_2 (v := 5) dX11_fourth_19 (by decide) rfl (by decide) ?_
            refine zt_goto (tgt := 2) dX11_fourth_22 (by decide) ?_
            refine zt_iload_n dX11_fourth_2 rfl ?_
            refine zt_iconst dX11_fourth_3 ?_
            refine zt_icmp_ge (tgt := 25) dX11_fourth_4 (by decide) (by decide) (by decide) (fun c_4 => ?_) (fun q => absurd q (by decide))
            have hq5 : r5 h i := ⟨z0, z1, z2, z3, z4⟩
            have y0 := hv.2.1.2 i z0.1.1 z0.1.2
            have y1 := hv.2.1.2 (i + 1) z1.1.1 z1.1.2
            have y2 := hv.2.1.2 (i + 2) z2.1.1 z2.1.2
            have y3 := hv.2.1.2 (i + 3) z3.1.1 z3.1.2
            have y4 := hv.2.1.2 (i + 4) z4.1.1 z4.1.2
            have hl := hv.2.1.1
            refine zt_aload_n dX11_fourth_25 rfl ?_
            refine zt_getv dX11_fourth_26 fl_X11_112 (zs_38 hS) (rf_38_51 hR) ?_
            refine zt_iload_n dX11_fourth_29 rfl ?_
            refine zt_ialoadv (v := h 27 i) dX11_fourth_30 (zs_71 hS) (by decide) (by omega) (by omega) (hv.2.2 _ (by omega) (by omega)) ?_
            refine zt_iconst dX11_fourth_31 ?_
            refine zt_aload_n dX11_fourth_32 rfl ?_
            refine zt_getv dX11_fourth_33 fl_X11_112 (zs_38 hS) (rf_38_51 hR) ?_
            refine zt_iload_n dX11_fourth_36 rfl ?_
            refine zt_iconst dX11_fourth_37 ?_
            refine zt_iadd dX11_fourth_38 ?_
            refine zt_ialoadv (v := h 27 (i + 1)) dX11_fourth_39 (zs_71 hS) (by decide) (by omega) (by omega) (hv.2.2 _ (by omega) (by omega)) ?_
            refine zt_imul dX11_fourth_40 ?_
            refine zt_isub dX11_fourth_41 ?_
            refine zt_bipush dX11_fourth_42 (by decide) ?_
            refine zt_aload_n dX11_fourth_44 rfl ?_
            refine zt_getv dX11_fourth_45 fl_X11_112 (zs_38 hS) (rf_38_51 hR) ?_
            refine zt_iload_n dX11_fourth_48 rfl ?_
            refine zt_iconst dX11_fourth_49 ?_
            refine zt_iadd dX11_fourth_50 ?_
            refine zt_ialoadv (v := h 27 (i + 2)) dX11_fourth_51 (zs_71 hS) (by decide) (by omega) (by omega) (hv.2.2 _ (by omega) (by omega)) ?_
            refine zt_imul dX11_fourth_52 ?_
            refine zt_iadd dX11_fourth_53 ?_
            refine zt_iconst dX11_fourth_54 ?_
            refine zt_aload_n dX11_fourth_55 rfl ?_
            refine zt_getv dX11_fourth_56 fl_X11_112 (zs_38 hS) (rf_38_51 hR) ?_
            refine zt_iload_n dX11_fourth_59 rfl ?_
            refine zt_iconst dX11_fourth_60 ?_
            refine zt_iadd dX11_fourth_61 ?_
            refine zt_ialoadv (v := h 27 (i + 3)) dX11_fourth_62 (zs_71 hS) (by decide) (by omega) (by omega) (hv.2.2 _ (by omega) (by omega)) ?_
            refine zt_imul dX11_fourth_63 ?_
            refine zt_isub dX11_fourth_64 ?_
            refine zt_aload_n dX11_fourth_65 rfl ?_
            refine zt_getv dX11_fourth_66 fl_X11_112 (zs_38 hS) (rf_38_51 hR) ?_
            refine zt_iload_n dX11_fourth_69 rfl ?_
            refine zt_iconst dX11_fourth_70 ?_
            refine zt_iadd dX11_fourth_71 ?_
            refine zt_ialoadv (v := h 27 (i + 4)) dX11_fourth_72 (zs_71 hS) (by decide) (by omega) (by omega) (hv.2.2 _ (by omega) (by omega)) ?_
            refine zt_iadd dX11_fourth_73 ?_
            refine zt_istore_n_2 dX11_fourth_74 (by decide) rfl ?_
            refine zt_iload_n dX11_fourth_75 rfl ?_
            refine zt_if_ge (tgt := 84) dX11_fourth_76 (by decide) (by omega) (fun c_76 => ?_) (fun c_76 => ?_)
            · refine zt_iload_n dX11_fourth_84 rfl ?_
              exact zt_iret dX11_fourth_85 ⟨by rw [r5_t hq5]; congr 2; unfold zabs r4d; first | (rw [if_pos (by omega)]; done) | (rw [if_neg (by omega)]; done), rfl, rfl, rfl⟩
            · refine zt_iload_n dX11_fourth_79 rfl ?_
              refine zt_ineg dX11_fourth_80 ?_
              refine zt_goto (tgt := 85) dX11_fourth_81 (by decide) ?_
              exact zt_iret dX11_fourth_85 ⟨by rw [r5_t hq5]; congr 2; unfold zabs r4d; first | (rw [if_pos (by omega)]; done) | (rw [if_neg (by omega)]; done), rfl, rfl, rfl⟩
          · refine zt_iconst dX11_fourth_17 ?_
            exact zt_iret dX11_fourth_18 ⟨by congr 2; exact (r5_f (fun q => c_14 (by first | exact q.1 | exact q.2.1 | exact q.2.2.1 | exact q.2.2.2.1 | exact q.2.2.2.2))).symm, rfl, rfl, rfl⟩
        · refine zt_iconst dX11_fourth_17 ?_
          exact zt_iret dX11_fourth_18 ⟨by congr 2; exact (r5_f (fun q => c_14 (by first | exact q.1 | exact q.2.1 | exact q.2.2.1 | exact q.2.2.2.1 | exact q.2.2.2.2))).symm, rfl, rfl, rfl⟩
      · refine zt_iconst dX11_fourth_17 ?_
        exact zt_iret dX11_fourth_18 ⟨by congr 2; exact (r5_f (fun q => c_14 (by first | exact q.1 | exact q.2.1 | exact q.2.2.1 | exact q.2.2.2.1 | exact q.2.2.2.2))).symm, rfl, rfl, rfl⟩
    · refine zt_iconst dX11_fourth_17 ?_
      exact zt_iret dX11_fourth_18 ⟨by congr 2; exact (r5_f (fun q => c_14 (by first | exact q.1 | exact q.2.1 | exact q.2.2.1 | exact q.2.2.2.1 | exact q.2.2.2.2))).symm, rfl, rfl, rfl⟩
  · refine zt_iconst dX11_fourth_17 ?_
    exact zt_iret dX11_fourth_18 ⟨by congr 2; exact (r5_f (fun q => c_14 (by first | exact q.1 | exact q.2.1 | exact q.2.2.1 | exact q.2.2.2.1 | exact q.2.2.2.2))).symm, rfl, rfl, rfl⟩

set_option maxRecDepth 100000 in
set_option maxHeartbeats 4000000 in
theorem c_jbo {d n : Nat} {sh : zSh} {h : zMem} {i : Int} (hS : zShp sh) (hR : zRf h) (hB : mB h) (hv : vRow h) (hi : zi32 i) : zF yX11_bound cX11_bound 5 (some .int) (d + 3) 0 0 [(2, 38), (0, i)] n sh h (some (0, rBo h i)) n sh h := by
  refine zF.ofT (by decide +kernel) [some (2, 38), some (0, i), none, none, none] rfl (Nat.le_of_ble_eq_true rfl) ?_
  refine zt_rg (fun hm => ?_)
  have b1 := hB.1
  have b3 := hB.2.2.1
  have b4 := hB.2.2.2.1
  have b5 := hB.2.2.2.2.1
  have b6 := hB.2.2.2.2.2.1
  have b7 := hB.2.2.2.2.2.2.1
  have b8 := hB.2.2.2.2.2.2.2.1
  have b9 := hB.2.2.2.2.2.2.2.2.1
  have b10 := hB.2.2.2.2.2.2.2.2.2.1
  have b11 := hB.2.2.2.2.2.2.2.2.2.2
  refine zt_iload_n dX11_bound_0 rfl ?_
  refine zt_i2l dX11_bound_1 (by omega) ?_
  refine zt_lconst (v := 0) dX11_bound_2 rfl ?_
  refine zt_aload_n dX11_bound_3 rfl ?_
  refine zt_get dX11_bound_4 fl_X11_388 (zs_38 hS) ?_
  refine zt_iconst dX11_bound_7 ?_
  refine zt_isub dX11_bound_8 ?_
  refine zt_i2l dX11_bound_9 (by omega) ?_
  refine zt_callS3r dX11_bound_10 ml_X11_143 (Nat.le_of_ble_eq_true rfl) (c_min_ (x := i) (y := 0) (z := (h 38 50) - 1) (by omega) (by decide) (by omega)) ?_
  have e1 := hv.1
  have hl := hv.2.1.1
  refine zt_ifb_ne (tgt := 18) dX11_bound_13 (by decide) (fun c_13 => ?_) (fun c_13 => ?_)
  · refine zt_aload_n dX11_bound_18 rfl ?_
    refine zt_iload_n dX11_bound_19 rfl ?_
    refine zt_iconst dX11_bound_20 ?_
    refine zt_isub dX11_bound_21 ?_
    refine zt_callV1r dX11_bound_22 ml_X11_415 (zs_38 hS) (Nat.le_of_ble_eq_true rfl) (c_jfo hS hR hB hv (by omega)) ?_
    have hf22 := rFo_b (i := i - 2) hv.2.1
    refine zt_istore_n_2 dX11_bound_25 (by decide) rfl ?_
    refine zt_aload_n dX11_bound_26 rfl ?_
    refine zt_iload_n dX11_bound_27 rfl ?_
    refine zt_iconst dX11_bound_28 ?_
    refine zt_isub dX11_bound_29 ?_
    refine zt_callV1r dX11_bound_30 ml_X11_415 (zs_38 hS) (Nat.le_of_ble_eq_true rfl) (c_jfo hS hR hB hv (by omega)) ?_
    have hf30 := rFo_b (i := i - 1) hv.2.1
    refine zt_istore_n_3 dX11_bound_33 (by decide) rfl ?_
    refine zt_iload_n dX11_bound_34 rfl ?_
    refine zt_iload_n dX11_bound_35 rfl ?_
    refine zt_icmp_le (tgt := 43) dX11_bound_36 (by decide) (by omega) (by omega) (fun c_36 => ?_) (fun c_36 => ?_)
    · refine zt_iload_n dX11_bound_43 rfl ?_
      have hzx : -1 ≤ zmx (rFo h (i - 2)) (rFo h (i - 1)) ∧ zmx (rFo h (i - 2)) (rFo h (i - 1)) ≤ 16000000 := by unfold zmx; split <;> omega
      refine zt_topv (v := zmx (rFo h (i - 2)) (rFo h (i - 1))) (by unfold zmx; split <;> omega) ?_
      refine zt_istore_4 dX11_bound_44 (by decide) rfl ?_
      refine zt_iload dX11_bound_46 rfl ?_
      refine zt_iconst dX11_bound_48 ?_
      refine zt_icmp_ne (tgt := 56) dX11_bound_49 (by decide) (by omega) (by decide) (fun c_49 => ?_) (fun c_49 => ?_)
      · refine zt_iconst dX11_bound_56 ?_
        refine zt_iload dX11_bound_57 rfl ?_
        refine zt_imul dX11_bound_59 ?_
        refine zt_bipush dX11_bound_60 (by decide) ?_
        refine zt_iadd dX11_bound_62 ?_
        refine zt_sipush dX11_bound_63 (by decide) ?_
        refine zt_idiv dX11_bound_66 (by omega) (by decide) (by decide) ?_
        exact zt_iret dX11_bound_67 ⟨by rw [rBo_m hv.2.1 (by omega), if_neg c_49, Int.tdiv_eq_ediv_of_nonneg (by omega)], rfl, rfl, rfl⟩
      · refine zt_iconst dX11_bound_52 ?_
        refine zt_goto (tgt := 67) dX11_bound_53 (by decide) ?_
        exact zt_iret dX11_bound_67 ⟨by rw [rBo_m hv.2.1 (by omega), if_pos c_49], rfl, rfl, rfl⟩
    · refine zt_iload_n dX11_bound_39 rfl ?_
      refine zt_goto (tgt := 44) dX11_bound_40 (by decide) ?_
      have hzx : -1 ≤ zmx (rFo h (i - 2)) (rFo h (i - 1)) ∧ zmx (rFo h (i - 2)) (rFo h (i - 1)) ≤ 16000000 := by unfold zmx; split <;> omega
      refine zt_topv (v := zmx (rFo h (i - 2)) (rFo h (i - 1))) (by unfold zmx; split <;> omega) ?_
      refine zt_istore_4 dX11_bound_44 (by decide) rfl ?_
      refine zt_iload dX11_bound_46 rfl ?_
      refine zt_iconst dX11_bound_48 ?_
      refine zt_icmp_ne (tgt := 56) dX11_bound_49 (by decide) (by omega) (by decide) (fun c_49 => ?_) (fun c_49 => ?_)
      · refine zt_iconst dX11_bound_56 ?_
        refine zt_iload dX11_bound_57 rfl ?_
        refine zt_imul dX11_bound_59 ?_
        refine zt_bipush dX11_bound_60 (by decide) ?_
        refine zt_iadd dX11_bound_62 ?_
        refine zt_sipush dX11_bound_63 (by decide) ?_
        refine zt_idiv dX11_bound_66 (by omega) (by decide) (by decide) ?_
        exact zt_iret dX11_bound_67 ⟨by rw [rBo_m hv.2.1 (by omega), if_neg c_49, Int.tdiv_eq_ediv_of_nonneg (by omega)], rfl, rfl, rfl⟩
      · refine zt_iconst dX11_bound_52 ?_
        refine zt_goto (tgt := 67) dX11_bound_53 (by decide) ?_
        exact zt_iret dX11_bound_67 ⟨by rw [rBo_m hv.2.1 (by omega), if_pos c_49], rfl, rfl, rfl⟩
  · refine zt_iconst dX11_bound_16 ?_
    exact zt_iret dX11_bound_17 ⟨by congr 2; exact (rBo_o (by omega)).symm, rfl, rfl, rfl⟩

set_option maxRecDepth 100000 in
set_option maxHeartbeats 4000000 in
theorem c_jmi {d n : Nat} {sh : zSh} {h : zMem} {i p q : Int} (hS : zShp sh) (hR : zRf h) (hB : mB h) (hv : vRow h) (hi : zi32 i) (hp : zi32 p) (hq : zi32 q) : zF yX11_middle cX11_middle 10 (some .int) (d + 2) 0 0 [(2, 38), (0, i), (0, p), (0, q)] n sh h (some (0, rMid h i p q)) n sh h := by
  refine zF.ofT (by decide +kernel) [some (2, 38), some (0, i), some (0, p), some (0, q), none, none, none, none, none, none] rfl (Nat.le_of_ble_eq_true rfl) ?_
  refine zt_rg (fun hm => ?_)
  have b1 := hB.1
  have b3 := hB.2.2.1
  have b4 := hB.2.2.2.1
  have b5 := hB.2.2.2.2.1
  have b6 := hB.2.2.2.2.2.1
  have b7 := hB.2.2.2.2.2.2.1
  have b8 := hB.2.2.2.2.2.2.2.1
  have b9 := hB.2.2.2.2.2.2.2.2.1
  have b10 := hB.2.2.2.2.2.2.2.2.2.1
  have b11 := hB.2.2.2.2.2.2.2.2.2.2
  refine zt_iload_n dX11_middle_0 rfl ?_
  refine zt_i2l dX11_middle_1 (by omega) ?_
  refine zt_lconst (v := 1) dX11_middle_2 rfl ?_
  refine zt_aload_n dX11_middle_3 rfl ?_
  refine zt_get dX11_middle_4 fl_X11_388 (zs_38 hS) ?_
  refine zt_iconst dX11_middle_7 ?_
  refine zt_isub dX11_middle_8 ?_
  refine zt_i2l dX11_middle_9 (by omega) ?_
  refine zt_callS3r dX11_middle_10 ml_X11_143 (Nat.le_of_ble_eq_true rfl) (c_min_ (x := i) (y := 1) (z := (h 38 50) - 3) (by omega) (by decide) (by omega)) ?_
  have e1 := hv.1
  have hl := hv.2.1.1
  refine zt_ifb_eq (tgt := 81) dX11_middle_13 (by decide) (fun c_13 => ?_) (fun c_13 => ?_)
  · refine zt_ldc_w dX11_middle_81 kc_X11_283 ?_
    exact zt_iret dX11_middle_84 ⟨by congr 2; unfold rMid; rw [if_neg (fun q => by have z1 := q.2.2.1.1; have z2 := q.2.2.2.2.2.1; first | omega | exact absurd q.2.2.1 (by assumption) | exact absurd q.2.2.2.1 (by assumption) | exact absurd q.2.2.2.2.1 (by assumption) | exact absurd q.2.2.2.2.2 (by assumption))], rfl, rfl, rfl⟩
  · refine zt_iload_n dX11_middle_16 rfl ?_
    refine zt_i2l dX11_middle_17 (by omega) ?_
    refine zt_ldc2 dX11_middle_18 kc_X11_252 ?_
    refine zt_ldc2 dX11_middle_21 kc_X11_270 ?_
    refine zt_callS3r dX11_middle_24 ml_X11_143 (Nat.le_of_ble_eq_true rfl) (c_min_ (x := q) (y := 2) (z := 100) (by omega) (by decide) (by decide)) ?_
    refine zt_ifb_eq (tgt := 81) dX11_middle_27 (by decide) (fun c_27 => ?_) (fun c_27 => ?_)
    · refine zt_ldc_w dX11_middle_81 kc_X11_283 ?_
      exact zt_iret dX11_middle_84 ⟨by congr 2; unfold rMid; rw [if_neg (fun q => by have z1 := q.2.2.1.1; have z2 := q.2.2.2.2.2.1; first | omega | exact absurd q.2.2.1 (by assumption) | exact absurd q.2.2.2.1 (by assumption) | exact absurd q.2.2.2.2.1 (by assumption) | exact absurd q.2.2.2.2.2 (by assumption))], rfl, rfl, rfl⟩
    · refine zt_iload_n dX11_middle_30 rfl ?_
      refine zt_i2l dX11_middle_31 (by omega) ?_
      refine zt_lconst (v := 1) dX11_middle_32 rfl ?_
      refine zt_iload_n dX11_middle_33 rfl ?_
      refine zt_iconst dX11_middle_34 ?_
      refine zt_isub dX11_middle_35 ?_
      refine zt_i2l dX11_middle_36 (by omega) ?_
      refine zt_callS3r dX11_middle_37 ml_X11_143 (Nat.le_of_ble_eq_true rfl) (c_min_ (x := p) (y := 1) (z := q - 1) (by omega) (by decide) (by omega)) ?_
      refine zt_ifb_eq (tgt := 81) dX11_middle_40 (by decide) (fun c_40 => ?_) (fun c_40 => ?_)
      · refine zt_ldc_w dX11_middle_81 kc_X11_283 ?_
        exact zt_iret dX11_middle_84 ⟨by congr 2; unfold rMid; rw [if_neg (fun q => by have z1 := q.2.2.1.1; have z2 := q.2.2.2.2.2.1; first | omega | exact absurd q.2.2.1 (by assumption) | exact absurd q.2.2.2.1 (by assumption) | exact absurd q.2.2.2.2.1 (by assumption) | exact absurd q.2.2.2.2.2 (by assumption))], rfl, rfl, rfl⟩
      · refine zt_aload_n dX11_middle_43 rfl ?_
        refine zt_iload_n dX11_middle_44 rfl ?_
        refine zt_iconst dX11_middle_45 ?_
        refine zt_isub dX11_middle_46 ?_
        refine zt_callV1r dX11_middle_47 ml_X11_412 (zs_38 hS) (Nat.le_of_ble_eq_true rfl) (c_jth2 hS hR hB hv (by omega)) ?_
        refine zt_ifb_eq (tgt := 81) dX11_middle_50 (by decide) (fun c_50 => ?_) (fun c_50 => ?_)
        · refine zt_ldc_w dX11_middle_81 kc_X11_283 ?_
          exact zt_iret dX11_middle_84 ⟨by congr 2; unfold rMid; rw [if_neg (fun q => by have z1 := q.2.2.1.1; have z2 := q.2.2.2.2.2.1; first | omega | exact absurd q.2.2.1 (by assumption) | exact absurd q.2.2.2.1 (by assumption) | exact absurd q.2.2.2.2.1 (by assumption) | exact absurd q.2.2.2.2.2 (by assumption))], rfl, rfl, rfl⟩
        · refine zt_aload_n dX11_middle_53 rfl ?_
          refine zt_iload_n dX11_middle_54 rfl ?_
          refine zt_callV1r dX11_middle_55 ml_X11_412 (zs_38 hS) (Nat.le_of_ble_eq_true rfl) (c_jth2 hS hR hB hv (by omega)) ?_
          refine zt_ifb_eq (tgt := 81) dX11_middle_58 (by decide) (fun c_58 => ?_) (fun c_58 => ?_)
          · refine zt_ldc_w dX11_middle_81 kc_X11_283 ?_
            exact zt_iret dX11_middle_84 ⟨by congr 2; unfold rMid; rw [if_neg (fun q => by have z1 := q.2.2.1.1; have z2 := q.2.2.2.2.2.1; first | omega | exact absurd q.2.2.1 (by assumption) | exact absurd q.2.2.2.1 (by assumption) | exact absurd q.2.2.2.2.1 (by assumption) | exact absurd q.2.2.2.2.2 (by assumption))], rfl, rfl, rfl⟩
          · refine zt_aload_n dX11_middle_61 rfl ?_
            refine zt_iload_n dX11_middle_62 rfl ?_
            refine zt_iconst dX11_middle_63 ?_
            refine zt_iadd dX11_middle_64 ?_
            refine zt_callV1r dX11_middle_65 ml_X11_412 (zs_38 hS) (Nat.le_of_ble_eq_true rfl) (c_jth2 hS hR hB hv (by omega)) ?_
            refine zt_ifb_eq (tgt := 81) dX11_middle_68 (by decide) (fun c_68 => ?_) (fun c_68 => ?_)
            · refine zt_ldc_w dX11_middle_81 kc_X11_283 ?_
              exact zt_iret dX11_middle_84 ⟨by congr 2; unfold rMid; rw [if_neg (fun q => by have z1 := q.2.2.1.1; have z2 := q.2.2.2.2.2.1; first | omega | exact absurd q.2.2.1 (by assumption) | exact absurd q.2.2.2.1 (by assumption) | exact absurd q.2.2.2.2.1 (by assumption) | exact absurd q.2.2.2.2.2 (by assumption))], rfl, rfl, rfl⟩
            · refine zt_aload_n dX11_middle_71 rfl ?_
              refine zt_iload_n dX11_middle_72 rfl ?_
              refine zt_iconst dX11_middle_73 ?_
              refine zt_iadd dX11_middle_74 ?_
              refine zt_callV1r dX11_middle_75 ml_X11_412 (zs_38 hS) (Nat.le_of_ble_eq_true rfl) (c_jth2 hS hR hB hv (by omega)) ?_
              refine zt_ifb_ne (tgt := 85) dX11_middle_78 (by decide) (fun c_78 => ?_) (fun c_78 => ?_)
              · have y0 := hv.2.1.2 (i - 1) c_50.1.1 c_50.1.2
                have y1 := hv.2.1.2 i c_58.1.1 c_58.1.2
                have y2 := hv.2.1.2 (i + 1) c_68.1.1 c_68.1.2
                have y3 := hv.2.1.2 (i + 2) c_78.1.1 c_78.1.2
                refine zt_iload_n dX11_middle_85 rfl ?_
                refine zt_i2l dX11_middle_86 (by omega) ?_
                refine zt_lstore_4 dX11_middle_87 (by decide) rfl ?_
                refine zt_iload_n dX11_middle_89 rfl ?_
                refine zt_i2l dX11_middle_90 (by omega) ?_
                refine zt_lstore_6 dX11_middle_91 (by decide) rfl ?_
                refine zt_aload_n dX11_middle_93 rfl ?_
                refine zt_getv dX11_middle_94 fl_X11_112 (zs_38 hS) (rf_38_51 hR) ?_
                refine zt_iload_n dX11_middle_97 rfl ?_
                refine zt_iconst dX11_middle_98 ?_
                refine zt_isub dX11_middle_99 ?_
                refine zt_ialoadv (v := h 27 (i - 1)) dX11_middle_100 (zs_71 hS) (by decide) (by omega) (by omega) (hv.2.2 _ (by omega) (by omega)) ?_
                refine zt_ineg dX11_middle_101 ?_
                refine zt_i2l dX11_middle_102 (by omega) ?_
                refine zt_lload dX11_middle_103 rfl ?_
                refine zt_lmul dX11_middle_105 ?_
                refine zt_lload dX11_middle_106 rfl ?_
                refine zt_lload dX11_middle_108 rfl ?_
                refine zt_lsub dX11_middle_110 ?_
                refine zt_lmul dX11_middle_111 ?_
                refine zt_lload dX11_middle_112 rfl ?_
                refine zt_ldc2 dX11_middle_114 kc_X11_252 ?_
                refine zt_lload dX11_middle_117 rfl ?_
                refine zt_lmul dX11_middle_119 ?_
                refine zt_lsub dX11_middle_120 ?_
                refine zt_lmul dX11_middle_121 ?_
                refine zt_ldc2 dX11_middle_122 kc_X11_393 ?_
                refine zt_aload_n dX11_middle_125 rfl ?_
                refine zt_getv dX11_middle_126 fl_X11_112 (zs_38 hS) (rf_38_51 hR) ?_
                refine zt_iload_n dX11_middle_129 rfl ?_
                refine zt_ialoadv (v := h 27 i) dX11_middle_130 (zs_71 hS) (by decide) (by omega) (by omega) (hv.2.2 _ (by omega) (by omega)) ?_
                refine zt_i2l dX11_middle_131 (by omega) ?_
                refine zt_lmul dX11_middle_132 ?_
                refine zt_lload dX11_middle_133 rfl ?_
                refine zt_lload dX11_middle_135 rfl ?_
                refine zt_ladd dX11_middle_137 ?_
                refine zt_lmul dX11_middle_138 ?_
                refine zt_lload dX11_middle_139 rfl ?_
                refine zt_lload dX11_middle_141 rfl ?_
                refine zt_lsub dX11_middle_143 ?_
                refine zt_lmul dX11_middle_144 ?_
                refine zt_lload dX11_middle_145 rfl ?_
                refine zt_ldc2 dX11_middle_147 kc_X11_252 ?_
                refine zt_lload dX11_middle_150 rfl ?_
                refine zt_lmul dX11_middle_152 ?_
                refine zt_lsub dX11_middle_153 ?_
                refine zt_lmul dX11_middle_154 ?_
                refine zt_ladd dX11_middle_155 ?_
                refine zt_ldc2 dX11_middle_156 kc_X11_393 ?_
                refine zt_aload_n dX11_middle_159 rfl ?_
                refine zt_getv dX11_middle_160 fl_X11_112 (zs_38 hS) (rf_38_51 hR) ?_
                refine zt_iload_n dX11_middle_163 rfl ?_
                refine zt_iconst dX11_middle_164 ?_
                refine zt_iadd dX11_middle_165 ?_
                refine zt_ialoadv (v := h 27 (i + 1)) dX11_middle_166 (zs_71 hS) (by decide) (by omega) (by omega) (hv.2.2 _ (by omega) (by omega)) ?_
                refine zt_i2l dX11_middle_167 (by omega) ?_
                refine zt_lmul dX11_middle_168 ?_
                refine zt_lload dX11_middle_169 rfl ?_
                refine zt_lload dX11_middle_171 rfl ?_
                refine zt_ladd dX11_middle_173 ?_
                refine zt_lmul dX11_middle_174 ?_
                refine zt_lload dX11_middle_175 rfl ?_
                refine zt_lmul dX11_middle_177 ?_
                refine zt_lload dX11_middle_178 rfl ?_
                refine zt_ldc2 dX11_middle_180 kc_X11_252 ?_
                refine zt_lload dX11_middle_183 rfl ?_
                refine zt_lmul dX11_middle_185 ?_
                refine zt_lsub dX11_middle_186 ?_
                refine zt_lmul dX11_middle_187 ?_
                refine zt_lsub dX11_middle_188 ?_
                refine zt_aload_n dX11_middle_189 rfl ?_
                refine zt_getv dX11_middle_190 fl_X11_112 (zs_38 hS) (rf_38_51 hR) ?_
                refine zt_iload_n dX11_middle_193 rfl ?_
                refine zt_iconst dX11_middle_194 ?_
                refine zt_iadd dX11_middle_195 ?_
                refine zt_ialoadv (v := h 27 (i + 2)) dX11_middle_196 (zs_71 hS) (by decide) (by omega) (by omega) (hv.2.2 _ (by omega) (by omega)) ?_
                refine zt_i2l dX11_middle_197 (by omega) ?_
                refine zt_lload dX11_middle_198 rfl ?_
                refine zt_lload dX11_middle_200 rfl ?_
                refine zt_ladd dX11_middle_202 ?_
                refine zt_lmul dX11_middle_203 ?_
                refine zt_lload dX11_middle_204 rfl ?_
                refine zt_lmul dX11_middle_206 ?_
                refine zt_lload dX11_middle_207 rfl ?_
                refine zt_lload dX11_middle_209 rfl ?_
                refine zt_lsub dX11_middle_211 ?_
                refine zt_lmul dX11_middle_212 ?_
                refine zt_ladd dX11_middle_213 ?_
                refine zt_lstore_8 dX11_middle_214 (by decide) rfl ?_
                refine zt_lload dX11_middle_216 rfl ?_
                refine zt_ldc2 dX11_middle_218 kc_X11_376 ?_
                refine zt_lload dX11_middle_221 rfl ?_
                refine zt_lmul dX11_middle_223 ?_
                refine zt_lload dX11_middle_224 rfl ?_
                refine zt_lmul dX11_middle_226 ?_
                refine zt_lload dX11_middle_227 rfl ?_
                refine zt_lmul dX11_middle_229 ?_
                have hvs := vSum_r (a := h 27 (i - 1)) (b := h 27 i) (c := h 27 (i + 1)) (e := h 27 (i + 2)) (p := p) (q := q) (by omega) (by omega) (by omega) (by omega) (by omega) (by omega)
                have hqq := zmb (A := 100) (B := 100) (x := q) (y := q) (by omega) (by omega)
                have hqp : 0 < q * q := Int.mul_pos (by omega) (by omega)
                have hq3 : 0 < 6 * q * q * q := Int.mul_pos (Int.mul_pos (Int.mul_pos (by decide) (by omega)) (by omega)) (by omega)
                have hq4 := zmb (A := 600) (B := 100) (x := 6 * q) (y := q) (by omega) (by omega)
                have hq5 := zmb (A := 60000) (B := 100) (x := 6 * q * q) (y := q) (by omega) (by omega)
                refine zt_callS2r dX11_middle_230 ml_X11_303 (Nat.le_of_ble_eq_true rfl) (zF.of_eq (r' := some (1, zne (vSum (h 27 (i - 1)) (h 27 i) (h 27 (i + 1)) (h 27 (i + 2)) p q) (6 * q * q * q))) rfl rfl rfl rfl (c_mnear (x := vSum (h 27 (i - 1)) (h 27 i) (h 27 (i + 1)) (h 27 (i + 2)) p q) hvs (by omega))) ?_
                refine zt_l2i dX11_middle_233 ?_
                exact zt_iret dX11_middle_234 ⟨by congr 2; unfold rMid; rw [if_pos ⟨by omega, by omega, c_50, c_58, c_68, c_78⟩], rfl, rfl, rfl⟩
              · refine zt_ldc_w dX11_middle_81 kc_X11_283 ?_
                exact zt_iret dX11_middle_84 ⟨by congr 2; unfold rMid; rw [if_neg (fun q => by have z1 := q.2.2.1.1; have z2 := q.2.2.2.2.2.1; first | omega | exact absurd q.2.2.1 (by assumption) | exact absurd q.2.2.2.1 (by assumption) | exact absurd q.2.2.2.2.1 (by assumption) | exact absurd q.2.2.2.2.2 (by assumption))], rfl, rfl, rfl⟩
