def jLv (h : zMem) (t f y : Int) : Int := if jAg h (30 * t + (f + y)) ∧ -999999 ≤ h 53 (30 * t + (f + y)) ∧ h 53 (30 * t + (f + y)) ≤ 999999 then h 53 (30 * t + (f + y)) else -2147483648
def jLm (h : zMem) (t f m i : Int) : zMem := fun x y => if x = 38 ∧ y = 50 then m else if x = 71 ∧ 0 ≤ y ∧ y < i then jLv h t f y else h x y
theorem jLm_0 {h : zMem} {t f m : Int} : zup h 38 50 m = jLm h t f m 0 := zmem_ext (fun x y => by unfold zup jLm; split; rfl; rw [if_neg (by omega)])
theorem jLm_s {h : zMem} {t f m i : Int} (h0 : 0 ≤ i) : zup (jLm h t f m i) 71 i (jLv h t f i) = jLm h t f m (i + 1) := zmem_ext (fun x y => by
  unfold zup jLm
  by_cases h1 : x = 71 ∧ y = i
  · rw [if_pos h1, if_neg (by omega), if_pos (by omega), h1.2]
  · rw [if_neg h1]
    by_cases h2 : x = 38 ∧ y = 50
    · rw [if_pos h2, if_pos h2]
    · rw [if_neg h2, if_neg h2]
      by_cases h3 : x = 71 ∧ 0 ≤ y ∧ y < i
      · rw [if_pos h3, if_pos (by omega)]
      · rw [if_neg h3, if_neg (by omega)])
theorem jLm_ne {h : zMem} {t f m i x y : Int} (hx : x ≠ 71) (hy : x ≠ 38 ∨ y ≠ 50) : jLm h t f m i x y = h x y := by unfold jLm; rw [if_neg (by omega), if_neg (by omega)]
theorem jLm_l {h : zMem} {t f m i : Int} : jLm h t f m i 38 50 = m := if_pos ⟨rfl, rfl⟩
theorem jLm_rf {h : zMem} {t f m i : Int} (hR : zRf h) : zRf (jLm h t f m i) := fun q hq => by
  have h1 : ∀ q ∈ zrf0, q.1 ≠ 71 ∧ (q.1 ≠ 38 ∨ q.2.1 ≠ 50) := by decide
  rw [jLm_ne (h1 q hq).1 (h1 q hq).2]; exact hR q hq
theorem jLm_B {h : zMem} {t f m i : Int} (hB : mB h) (hm : 0 ≤ m ∧ m ≤ 20) : mB (jLm h t f m i) := by
  obtain ⟨a1, a2, a3, a4, a5, a6, a7, a8, a9, a10, a11⟩ := hB
  have e : ∀ y, y ≠ 50 → jLm h t f m i 38 y = h 38 y := fun y hy => jLm_ne (by decide) (Or.inr hy)
  refine ⟨by rw [e _ (by decide)]; exact a1, ?_, by rw [e _ (by decide)]; exact a3, by rw [e _ (by decide)]; exact a4, by rw [jLm_l]; exact hm, by rw [e _ (by decide)]; exact a6, by rw [e _ (by decide)]; exact a7, by rw [e _ (by decide)]; exact a8, by rw [e _ (by decide)]; exact a9, by rw [e _ (by decide)]; exact a10, by rw [e _ (by decide)]; exact a11⟩
  intro q h1 h2
  rw [e _ (by decide)] at h2
  rw [jLm_ne (by decide) (Or.inl (by decide))]; exact a2 q h1 h2

set_option maxRecDepth 100000 in
set_option maxHeartbeats 4000000 in
theorem l_jly {d n : Nat} {sh : zSh} {h : zMem} {t f m : Int} (hS : zShp sh) (hR : zRf h) (hB : mB h) (hm : zMok sh h) (ht : 0 ≤ t ∧ t < h 38 17) (b1 : 0 ≤ h 38 17 ∧ h 38 17 ≤ 5) (hb : 4 ≤ h 46 t ∧ h 46 t ≤ 30) (hfm : (0 ≤ f ∧ f + m ≤ h 46 t) ∧ 1 ≤ m ∧ m ≤ 20)  : ∀ (k : Nat) (i : Int) (c : Int), m - i < (k : Int) → 0 ≤ i → i ≤ m → zS (fun j => zb (jLv h t f j ≠ -2147483648)) 0 m = c + zS (fun j => zb (jLv h t f j ≠ -2147483648)) i m → zT yX11_lay cX11_lay 7 (some .int) (d + 2) 0 0 (zq (some (0, zS (fun j => zb (jLv h t f j ≠ -2147483648)) 0 m)) n sh (jLm h t f m m)) 51 [some (2, 38), some (0, t), some (0, f), some (0, m), some (0, c), some (0, i), none] [] n sh (jLm h t f m i) := by
  intro k
  induction k with
  | zero => intros; exfalso; omega
  | succ k ih =>
    intro i c hk h0 h1 hr
    refine zt_iload dX11_lay_51 rfl ?_
    refine zt_iload_n dX11_lay_53 rfl ?_
    refine zt_icmp_ge (tgt := 145) dX11_lay_54 (by decide) (by omega) (by omega) (fun c_54 => ?_) (fun c_54 => ?_)
    · refine zt_iload dX11_lay_145 rfl ?_
      exact zt_iret dX11_lay_147 ⟨by rw [hr, zS_e (by omega)]; congr 2; omega, rfl, rfl, by rw [show i = m by omega]⟩
    · refine zt_iload_n dX11_lay_57 rfl ?_
      refine zt_iload_n dX11_lay_58 rfl ?_
      refine zt_iload dX11_lay_59 rfl ?_
      refine zt_iadd dX11_lay_61 ?_
      refine zt_callS2r dX11_lay_62 ml_X11_316 (Nat.le_of_ble_eq_true rfl) (c_place) ?_
      refine zt_istore_6 dX11_lay_65 (by decide) rfl ?_
      refine zt_aload_n dX11_lay_67 rfl ?_
      refine zt_getv dX11_lay_68 fl_X11_112 (zs_38 hS) (rf_38_51 (jLm_rf hR)) ?_
      refine zt_iload dX11_lay_71 rfl ?_
      refine zt_aload_n dX11_lay_73 rfl ?_
      refine zt_iload dX11_lay_74 rfl ?_
      refine zt_callV1r dX11_lay_76 ml_X11_332 (zs_38 hS) (Nat.le_of_ble_eq_true rfl) (zF.of_eq (r' := some (0, zb (jAg h (30 * t + (f + i))))) (congrArg (fun z => some (0, z)) (zb_eq (by show jLm h t f m i 57 _ ≠ -1 ↔ _; rw [jLm_ne (by decide) (Or.inl (by decide))]))) rfl rfl rfl (c_jA hS (jLm_rf hR) (jLm_B hB (by omega)) (by omega))) ?_
      refine zt_ifb_eq (tgt := 112) dX11_lay_79 (by decide) (fun c_79 => ?_) (fun c_79 => ?_)
      · refine zt_ldc_w dX11_lay_112 kc_X11_283 ?_
        refine zt_iastore dX11_lay_115 (zs_71 hS) (by decide) (by omega) (by omega) (by first | exact hm.int (zs_53 hS) (by omega) (by omega) | decide) ?_
        refine zt_iload dX11_lay_116 rfl ?_
        refine zt_aload_n dX11_lay_118 rfl ?_
        refine zt_getv dX11_lay_119 fl_X11_112 (zs_38 hS) (rf_38_51 ((jLm_rf hR).upA (by decide))) ?_
        refine zt_iload dX11_lay_122 rfl ?_
        refine zt_ialoadv (v := -2147483648) dX11_lay_124 (zs_71 hS) (by decide) (by omega) (by omega) zupE ?_
        refine zt_ldc_w dX11_lay_125 kc_X11_283 ?_
        refine zt_icmp_eq (tgt := 135) dX11_lay_128 (by decide) (by decide) (by decide) (fun c_128 => ?_) (fun q => absurd q (by decide))
        refine zt_iconst dX11_lay_135 ?_
        refine zt_iadd dX11_lay_136 ?_
        refine zt_istore_4 dX11_lay_137 (by decide) rfl ?_
        refine zt_iinc_5 dX11_lay_139 (by decide) rfl ?_
        refine zt_goto (tgt := 51) dX11_lay_142 (by decide) ?_
        refine zt_kill_6 ?_
        have e : jLv h t f i = -2147483648 := if_neg (by omega)
        rw [show zup (jLm h t f m i) 71 i (-2147483648) = jLm h t f m (i + 1) by rw [← jLm_s h0, e]]
        exact ih (i + 1) _ (by omega) (by omega) (by omega) (by rw [hr, zS_s (by omega)]; first | (rw [zb_t (by omega)]; omega) | (rw [zb_f (by omega)]; omega))
      · refine zt_aload_n dX11_lay_82 rfl ?_
        refine zt_getv dX11_lay_83 fl_X11_53 (zs_38 hS) (rf_38_27 (jLm_rf hR)) ?_
        refine zt_iload dX11_lay_86 rfl ?_
        refine zt_ialoadv (v := h 53 (30 * t + (f + i))) dX11_lay_88 (zs_53 hS) (by decide) (by omega) (by omega) (jLm_ne (by decide) (Or.inl (by decide))) ?_
        refine zt_i2l dX11_lay_89 (hm.int (zs_53 hS) (by omega) (by omega)) ?_
        refine zt_ldc2 dX11_lay_90 kc_X11_384 ?_
        refine zt_ldc2 dX11_lay_93 kc_X11_386 ?_
        refine zt_callS3r dX11_lay_96 ml_X11_143 (Nat.le_of_ble_eq_true rfl) (c_min_ (x := h 53 (30 * t + (f + i))) (y := -999999) (z := 999999) (by have q : zi32 (h 53 (30 * t + (f + i))) := hm.int (zs_53 hS) (by omega) (by omega); omega) (by decide) (by decide)) ?_
        refine zt_ifb_eq (tgt := 112) dX11_lay_99 (by decide) (fun c_99 => ?_) (fun c_99 => ?_)
        · refine zt_ldc_w dX11_lay_112 kc_X11_283 ?_
          refine zt_iastore dX11_lay_115 (zs_71 hS) (by decide) (by omega) (by omega) (by first | exact hm.int (zs_53 hS) (by omega) (by omega) | decide) ?_
          refine zt_iload dX11_lay_116 rfl ?_
          refine zt_aload_n dX11_lay_118 rfl ?_
          refine zt_getv dX11_lay_119 fl_X11_112 (zs_38 hS) (rf_38_51 ((jLm_rf hR).upA (by decide))) ?_
          refine zt_iload dX11_lay_122 rfl ?_
          refine zt_ialoadv (v := -2147483648) dX11_lay_124 (zs_71 hS) (by decide) (by omega) (by omega) zupE ?_
          refine zt_ldc_w dX11_lay_125 kc_X11_283 ?_
          refine zt_icmp_eq (tgt := 135) dX11_lay_128 (by decide) (by decide) (by decide) (fun c_128 => ?_) (fun q => absurd q (by decide))
          refine zt_iconst dX11_lay_135 ?_
          refine zt_iadd dX11_lay_136 ?_
          refine zt_istore_4 dX11_lay_137 (by decide) rfl ?_
          refine zt_iinc_5 dX11_lay_139 (by decide) rfl ?_
          refine zt_goto (tgt := 51) dX11_lay_142 (by decide) ?_
          refine zt_kill_6 ?_
          have e : jLv h t f i = -2147483648 := if_neg (by omega)
          rw [show zup (jLm h t f m i) 71 i (-2147483648) = jLm h t f m (i + 1) by rw [← jLm_s h0, e]]
          exact ih (i + 1) _ (by omega) (by omega) (by omega) (by rw [hr, zS_s (by omega)]; first | (rw [zb_t (by omega)]; omega) | (rw [zb_f (by omega)]; omega))
        · refine zt_aload_n dX11_lay_102 rfl ?_
          refine zt_getv dX11_lay_103 fl_X11_53 (zs_38 hS) (rf_38_27 (jLm_rf hR)) ?_
          refine zt_iload dX11_lay_106 rfl ?_
          refine zt_ialoadv (v := h 53 (30 * t + (f + i))) dX11_lay_108 (zs_53 hS) (by decide) (by omega) (by omega) (jLm_ne (by decide) (Or.inl (by decide))) ?_
          refine zt_goto (tgt := 115) dX11_lay_109 (by decide) ?_
          refine zt_iastore dX11_lay_115 (zs_71 hS) (by decide) (by omega) (by omega) (by first | exact hm.int (zs_53 hS) (by omega) (by omega) | decide) ?_
          refine zt_iload dX11_lay_116 rfl ?_
          refine zt_aload_n dX11_lay_118 rfl ?_
          refine zt_getv dX11_lay_119 fl_X11_112 (zs_38 hS) (rf_38_51 ((jLm_rf hR).upA (by decide))) ?_
          refine zt_iload dX11_lay_122 rfl ?_
          refine zt_ialoadv (v := h 53 (30 * t + (f + i))) dX11_lay_124 (zs_71 hS) (by decide) (by omega) (by omega) zupE ?_
          refine zt_ldc_w dX11_lay_125 kc_X11_283 ?_
          refine zt_icmp_eq (tgt := 135) dX11_lay_128 (by decide) (hm.int (zs_53 hS) (by omega) (by omega)) (by decide) (fun c_128 => ?_) (fun c_128 => ?_)
          · refine zt_iconst dX11_lay_135 ?_
            refine zt_iadd dX11_lay_136 ?_
            refine zt_istore_4 dX11_lay_137 (by decide) rfl ?_
            refine zt_iinc_5 dX11_lay_139 (by decide) rfl ?_
            refine zt_goto (tgt := 51) dX11_lay_142 (by decide) ?_
            refine zt_kill_6 ?_
            have e : jLv h t f i = h 53 (30 * t + (f + i)) := if_pos (by omega)
            rw [show zup (jLm h t f m i) 71 i (h 53 (30 * t + (f + i))) = jLm h t f m (i + 1) by rw [← jLm_s h0, e]]
            exact ih (i + 1) _ (by omega) (by omega) (by omega) (by rw [hr, zS_s (by omega)]; first | (rw [zb_t (by omega)]; omega) | (rw [zb_f (by omega)]; omega))
          · refine zt_iconst dX11_lay_131 ?_
            refine zt_goto (tgt := 136) dX11_lay_132 (by decide) ?_
            refine zt_iadd dX11_lay_136 ?_
            refine zt_istore_4 dX11_lay_137 (by decide) rfl ?_
            refine zt_iinc_5 dX11_lay_139 (by decide) rfl ?_
            refine zt_goto (tgt := 51) dX11_lay_142 (by decide) ?_
            refine zt_kill_6 ?_
            have e : jLv h t f i = h 53 (30 * t + (f + i)) := if_pos (by omega)
            rw [show zup (jLm h t f m i) 71 i (h 53 (30 * t + (f + i))) = jLm h t f m (i + 1) by rw [← jLm_s h0, e]]
            exact ih (i + 1) _ (by omega) (by omega) (by omega) (by rw [hr, zS_s (by omega)]; first | (rw [zb_t (by omega)]; omega) | (rw [zb_f (by omega)]; omega))

set_option maxRecDepth 100000 in
set_option maxHeartbeats 4000000 in
theorem c_jly {d n : Nat} {sh : zSh} {h : zMem} {t f m : Int} (hS : zShp sh) (hR : zRf h) (hB : mB h) (ht : zi32 t) (hf : zi32 f) (hm0 : zi32 m) : zF yX11_lay cX11_lay 7 (some .int) (d + 2) 0 0 [(2, 38), (0, t), (0, f), (0, m)] n sh h (some (0, (if (jT h t ∧ (1 ≤ m ∧ m ≤ 20) ∧ (0 ≤ f ∧ f ≤ h 46 t - m)) then zS (fun j => zb (jLv h t f j ≠ -2147483648)) 0 m else -1))) n sh (if (jT h t ∧ (1 ≤ m ∧ m ≤ 20) ∧ (0 ≤ f ∧ f ≤ h 46 t - m)) then jLm h t f m m else h) := by
  refine zF.ofT (by decide +kernel) [some (2, 38), some (0, t), some (0, f), some (0, m), none, none, none] rfl (Nat.le_of_ble_eq_true rfl) ?_
  refine zt_rg (fun hm => ?_)
  have b1 := hB.1
  have b3 := hB.2.2.1
  have b4 := hB.2.2.2.1
  have b5 := hB.2.2.2.2.1
  have b6 := hB.2.2.2.2.2.1
  have b7 := hB.2.2.2.2.2.2.1
  have b8 := hB.2.2.2.2.2.2.2.1
  have b9 := hB.2.2.2.2.2.2.2.2.1
  have b10 := hB.2.2.2.2.2.2.2.2.2.1
  have b11 := hB.2.2.2.2.2.2.2.2.2.2
  refine zt_aload_n dX11_lay_0 rfl ?_
  refine zt_iload_n dX11_lay_1 rfl ?_
  refine zt_callV1r dX11_lay_2 ml_X11_310 (zs_38 hS) (Nat.le_of_ble_eq_true rfl) (c_jT hS hR hB (by omega)) ?_
  refine zt_ifb_eq (tgt := 38) dX11_lay_5 (by decide) (fun c_5 => ?_) (fun c_5 => ?_)
  · refine zt_iconst dX11_lay_38 ?_
    exact zt_iret dX11_lay_39 ⟨by rw [if_neg (show ¬ (jT h t ∧ (1 ≤ m ∧ m ≤ 20) ∧ (0 ≤ f ∧ f ≤ h 46 t - m)) by omega)], rfl, rfl, by rw [if_neg (show ¬ (jT h t ∧ (1 ≤ m ∧ m ≤ 20) ∧ (0 ≤ f ∧ f ≤ h 46 t - m)) by omega)]⟩
  · have hb := hB.2.1 t c_5.1 c_5.2
    refine zt_iload_n dX11_lay_8 rfl ?_
    refine zt_i2l dX11_lay_9 (by omega) ?_
    refine zt_lconst (v := 1) dX11_lay_10 rfl ?_
    refine zt_ldc2 dX11_lay_11 kc_X11_391 ?_
    refine zt_callS3r dX11_lay_14 ml_X11_143 (Nat.le_of_ble_eq_true rfl) (c_min_ (x := m) (y := 1) (z := 20) (by omega) (by decide) (by decide)) ?_
    refine zt_ifb_eq (tgt := 38) dX11_lay_17 (by decide) (fun c_17 => ?_) (fun c_17 => ?_)
    · refine zt_iconst dX11_lay_38 ?_
      exact zt_iret dX11_lay_39 ⟨by rw [if_neg (show ¬ (jT h t ∧ (1 ≤ m ∧ m ≤ 20) ∧ (0 ≤ f ∧ f ≤ h 46 t - m)) by omega)], rfl, rfl, by rw [if_neg (show ¬ (jT h t ∧ (1 ≤ m ∧ m ≤ 20) ∧ (0 ≤ f ∧ f ≤ h 46 t - m)) by omega)]⟩
    · refine zt_iload_n dX11_lay_20 rfl ?_
      refine zt_i2l dX11_lay_21 (by omega) ?_
      refine zt_lconst (v := 0) dX11_lay_22 rfl ?_
      refine zt_aload_n dX11_lay_23 rfl ?_
      refine zt_getv dX11_lay_24 fl_X11_32 (zs_38 hS) (rf_38_18 hR) ?_
      refine zt_iload_n dX11_lay_27 rfl ?_
      refine zt_iaload dX11_lay_28 (zs_46 hS) (by decide) (by omega) (by omega) ?_
      refine zt_iload_n dX11_lay_29 rfl ?_
      refine zt_isub dX11_lay_30 ?_
      refine zt_i2l dX11_lay_31 (by omega) ?_
      refine zt_callS3r dX11_lay_32 ml_X11_143 (Nat.le_of_ble_eq_true rfl) (c_min_ (x := f) (y := 0) (z := (h 46 t) - m) (by omega) (by decide) (by omega)) ?_
      refine zt_ifb_ne (tgt := 40) dX11_lay_35 (by decide) (fun c_35 => ?_) (fun c_35 => ?_)
      · refine zt_iconst dX11_lay_40 ?_
        refine zt_istore_4 dX11_lay_41 (by decide) rfl ?_
        refine zt_aload_n dX11_lay_43 rfl ?_
        refine zt_iload_n dX11_lay_44 rfl ?_
        refine zt_puti dX11_lay_45 fl_X11_388 rfl (zs_38 hS) (by omega) ?_
        refine zt_iconst dX11_lay_48 ?_
        refine zt_istore_5 dX11_lay_49 (by decide) rfl ?_
        rw [if_pos (show (jT h t ∧ (1 ≤ m ∧ m ≤ 20) ∧ (0 ≤ f ∧ f ≤ h 46 t - m)) by omega), if_pos (show (jT h t ∧ (1 ≤ m ∧ m ≤ 20) ∧ (0 ≤ f ∧ f ≤ h 46 t - m)) by omega), jLm_0 (t := t) (f := f)]
        exact l_jly hS hR hB hm c_5 b1 hb (by omega) 21 0 0 (by omega) (by omega) (by omega) (by omega)
      · refine zt_iconst dX11_lay_38 ?_
        exact zt_iret dX11_lay_39 ⟨by rw [if_neg (show ¬ (jT h t ∧ (1 ≤ m ∧ m ≤ 20) ∧ (0 ≤ f ∧ f ≤ h 46 t - m)) by omega)], rfl, rfl, by rw [if_neg (show ¬ (jT h t ∧ (1 ≤ m ∧ m ≤ 20) ∧ (0 ≤ f ∧ f ≤ h 46 t - m)) by omega)]⟩

noncomputable def jT1 (h : zMem) : zMem := zup (jM h (eT (jStk h) (h 67) (h 38 44))) 38 45 (h 38 45 + 1)
noncomputable def jTn : Nat → zMem → zMem
  | 0, h => h
  | k + 1, h => jT1 (jTn k h)
def jOK (h : zMem) (b : Int) : Prop := eDig (h 67) ∧ (0 ≤ h 38 44 ∧ h 38 44 ≤ b)
theorem jT1_ok {h : zMem} {b : Int} (q : jOK h b) : jOK (jT1 h) (b + 4) := by
  have e := eKF_dig (S := jStk h) 4 0 (h 67, h 38 44) (by omega) (by omega) q.1
  have e1 : jT1 h 67 = (eT (jStk h) (h 67) (h 38 44)).1 := (zup_ne (by decide)).trans jM_67
  have e2 : jT1 h 38 44 = (eT (jStk h) (h 67) (h 38 44)).2 := (zupJ (by decide)).trans jM_b
  have q2 := q.2
  refine ⟨by rw [e1]; exact e.1, ?_⟩
  rw [e2]
  have e3 := e.2
  replace e3 : h 38 44 ≤ (eT (jStk h) (h 67) (h 38 44)).2 ∧ (eT (jStk h) (h 67) (h 38 44)).2 ≤ h 38 44 + 4 := e3
  omega
theorem jT1_B {h : zMem} (hB : mB h) (ht : h 38 45 < 100000) : mB (jT1 h) := by
  have hB2 := jM_B (x := eT (jStk h) (h 67) (h 38 44)) hB
  obtain ⟨a1, a2, a3, a4, a5, a6, a7, a8, a9, a10, a11⟩ := hB2
  have e : ∀ y, y ≠ 45 → jT1 h 38 y = jM h (eT (jStk h) (h 67) (h 38 44)) 38 y := fun y hy => zupJ hy
  have e46 : jT1 h 46 = jM h (eT (jStk h) (h 67) (h 38 44)) 46 := zup_ne (by decide)
  unfold mB
  rw [e46, e 17 (by decide), e 20 (by decide), e 21 (by decide), e 50 (by decide), e 37 (by decide), e 16 (by decide), e 46 (by decide), show jT1 h 38 45 = h 38 45 + 1 from zupE, e 1 (by decide), e 12 (by decide)]
  have := hB.2.2.2.2.2.2.2.2.1
  exact ⟨a1, a2, a3, a4, a5, a6, a7, a8, by omega, a10, a11⟩
theorem jT1_rf {h : zMem} (hR : zRf h) : zRf (jT1 h) := (jM_rf hR).up (by decide)
theorem jT1_t {h : zMem} : jT1 h 38 45 = h 38 45 + 1 := zupE

set_option maxRecDepth 100000 in
set_option maxHeartbeats 4000000 in
theorem l_jtn {d n : Nat} {sh : zSh} {h : zMem} {x b : Int} (hS : zShp sh) (hx : 0 ≤ x ∧ x ≤ 60) (hb : 0 ≤ b ∧ b ≤ 900000) (htt : 0 ≤ h 38 45 ∧ h 38 45 ≤ 90000)  : ∀ (k : Nat) (i : Int) (g : zMem), x - i < (k : Int) → 0 ≤ i → i ≤ x → g = jTn i.toNat h → zRf g → mB g → jOK g (b + 4 * i) → g 38 45 = h 38 45 + i → zT yX11_turn cX11_turn 3 (some .int) (d + 3) 0 0 (zq (some (0, zsho (eNum (jTn x.toNat h 67) 0))) n sh (jTn x.toNat h)) 18 [some (2, 38), some (0, x), some (0, i)] [] n sh g := by
  intro k
  induction k with
  | zero => intros; exfalso; omega
  | succ k ih =>
    intro i g hk h0 h1 hg hRg hBg hok hgt
    refine zt_iload_n dX11_turn_18 rfl ?_
    refine zt_iload_n dX11_turn_19 rfl ?_
    refine zt_icmp_ge (tgt := 33) dX11_turn_20 (by decide) (by omega) (by omega) (fun c_20 => ?_) (fun c_20 => ?_)
    · refine zt_aload_n dX11_turn_33 rfl ?_
      refine zt_iconst dX11_turn_34 ?_
      refine zt_callV1r dX11_turn_35 ml_X11_368 (zs_38 hS) (Nat.le_of_ble_eq_true rfl) (c_jnum hS hRg (by decide)) ?_
      have hnr := eNum_r (g := g 67) (k := 0) (by decide) hok.1
      refine zt_i2l dX11_turn_38 (by omega) ?_
      refine zt_callS1r dX11_turn_39 ml_X11_372 (Nat.le_of_ble_eq_true rfl) (c_mshown (by omega)) ?_
      exact zt_iret dX11_turn_42 ⟨by rw [show x = i by omega, hg], rfl, rfl, by rw [show x = i by omega, hg]⟩
    · refine zt_aload_n dX11_turn_23 rfl ?_
      refine zt_callV0v dX11_turn_24 ml_X11_365 (zs_38 hS) (Nat.le_of_ble_eq_true rfl) (c_jtu hS hRg hBg hok.1 ⟨hok.2.1, by have := hok.2.2; omega⟩) ?_
      refine zt_iinc_2 dX11_turn_27 (by decide) rfl ?_
      refine zt_goto (tgt := 18) dX11_turn_30 (by decide) ?_
      exact ih (i + 1) (jT1 g) (by omega) (by omega) (by omega) (by rw [hg, show (i + 1).toNat = i.toNat + 1 by omega]; rfl) (jT1_rf hRg) (jT1_B hBg (by omega)) (by have := jT1_ok hok; rw [show b + 4 * (i + 1) = b + 4 * i + 4 by omega]; exact this) (by rw [jT1_t]; omega)

set_option maxRecDepth 100000 in
set_option maxHeartbeats 4000000 in
theorem c_jtn {d n : Nat} {sh : zSh} {h : zMem} {x b : Int} (hS : zShp sh) (hR : zRf h) (hB : mB h) (hx : zi32 x) (hok : jOK h b) (hb0 : 0 ≤ b ∧ b ≤ 900000) (htt : h 38 45 ≤ 90000) : zF yX11_turn cX11_turn 3 (some .int) (d + 3) 0 0 [(2, 38), (0, x)] n sh h (some (0, (if 0 ≤ x ∧ x ≤ 60 then zsho (eNum (jTn x.toNat h 67) 0) else -2147483648))) n sh (if 0 ≤ x ∧ x ≤ 60 then jTn x.toNat h else h) := by
  refine zF.ofT (by decide +kernel) [some (2, 38), some (0, x), none] rfl (Nat.le_of_ble_eq_true rfl) ?_
  refine zt_rg (fun hm => ?_)
  have b1 := hB.1
  have b3 := hB.2.2.1
  have b4 := hB.2.2.2.1
  have b5 := hB.2.2.2.2.1
  have b6 := hB.2.2.2.2.2.1
  have b7 := hB.2.2.2.2.2.2.1
  have b8 := hB.2.2.2.2.2.2.2.1
  have b9 := hB.2.2.2.2.2.2.2.2.1
  have b10 := hB.2.2.2.2.2.2.2.2.2.1
  have b11 := hB.2.2.2.2.2.2.2.2.2.2
  refine zt_iload_n dX11_turn_0 rfl ?_
  refine zt_i2l dX11_turn_1 (by omega) ?_
  refine zt_lconst (v := 0) dX11_turn_2 rfl ?_
  refine zt_ldc2 dX11_turn_3 kc_X11_363 ?_
  refine zt_callS3r dX11_turn_6 ml_X11_143 (Nat.le_of_ble_eq_true rfl) (c_min_ (x := x) (y := 0) (z := 60) (by omega) (by decide) (by decide)) ?_
  refine zt_ifb_ne (tgt := 16) dX11_turn_9 (by decide) (fun c_9 => ?_) (fun c_9 => ?_)
  · refine zt_iconst dX11_turn_16 ?_
    refine zt_istore_n_2 dX11_turn_17 (by decide) rfl ?_
    rw [if_pos c_9, if_pos c_9]
    exact l_jtn (b := b) hS c_9 hb0 (by omega) 61 0 h (by omega) (by omega) (by omega) rfl hR hB (by rw [Int.mul_zero, Int.add_zero]; exact hok) (by omega)
  · refine zt_ldc_w dX11_turn_12 kc_X11_283 ?_
    exact zt_iret dX11_turn_15 ⟨by rw [if_neg (by omega)], rfl, rfl, by rw [if_neg (by omega)]⟩
