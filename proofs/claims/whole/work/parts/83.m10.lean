def jPq (h : zMem) (t c s w j : Int) : zMem := fun x y => if x = 59 ∧ y = t then c else if x = 60 ∧ y = t then s else if x = 61 ∧ 30 * t ≤ y ∧ y < 30 * t + h 46 t then (if y < 30 * t + j then h x y + w + 1 else h x y + w) else h x y
abbrev jPm (h : zMem) (t c s w : Int) : zMem := jPq h t c s w 0
theorem jPq_59 {h : zMem} {t c s w j : Int} : jPq h t c s w j 59 t = c := if_pos ⟨rfl, rfl⟩
theorem jPq_60 {h : zMem} {t c s w j : Int} : jPq h t c s w j 60 t = s := (if_neg (by omega)).trans (if_pos ⟨rfl, rfl⟩)
theorem jPq_61 {h : zMem} {t c s w j : Int} (h0 : 0 ≤ j) (hj : j < h 46 t) : jPq h t c s w j 61 (30 * t + j) = h 61 (30 * t + j) + w := (if_neg (by omega)).trans ((if_neg (by omega)).trans ((if_pos (by omega)).trans (if_neg (by omega))))
theorem jPq_n {h : zMem} {t c s w j x : Int} (hx : x ≠ 59 ∧ x ≠ 60 ∧ x ≠ 61) : jPq h t c s w j x = h x := by funext y; unfold jPq; rw [if_neg (by omega), if_neg (by omega), if_neg (by omega)]
theorem jPq_rf {h : zMem} {t c s w j : Int} (hR : zRf h) : zRf (jPq h t c s w j) := fun q hq => by
  have h1 : ∀ q ∈ zrf0, q.1 ≠ 59 ∧ q.1 ≠ 60 ∧ q.1 ≠ 61 := by decide
  rw [jPq_n (h1 q hq)]; exact hR q hq
theorem jPq_c {h : zMem} {t c s w j z : Int} : zup (jPq h t c s w j) 60 t z = jPq h t c z w j := zmem_ext (fun x y => by
  unfold zup jPq
  by_cases h1 : x = 60 ∧ y = t
  · rw [if_pos h1, if_neg (by omega), if_pos h1]
  · rw [if_neg h1]
    by_cases h2 : x = 59 ∧ y = t
    · rw [if_pos h2, if_pos h2]
    · rw [if_neg h2, if_neg h2, if_neg h1, if_neg h1])
theorem jPq_s {h : zMem} {t c s w j z : Int} (h0 : 0 ≤ j) (hj : j < h 46 t) (hz : z = h 61 (30 * t + j) + w + 1) : zup (jPq h t c s w j) 61 (30 * t + j) z = jPq h t c s w (j + 1) := zmem_ext (fun x y => by
  unfold zup jPq
  by_cases h1 : x = 61 ∧ y = 30 * t + j
  · obtain ⟨rfl, rfl⟩ := h1
    rw [if_pos ⟨rfl, rfl⟩, if_neg (by omega), if_neg (by omega), if_pos (by omega), if_pos (by omega), hz]
  · rw [if_neg h1]
    by_cases h2 : x = 59 ∧ y = t
    · rw [if_pos h2, if_pos h2]
    · rw [if_neg h2, if_neg h2]
      by_cases h3 : x = 60 ∧ y = t
      · rw [if_pos h3, if_pos h3]
      · rw [if_neg h3, if_neg h3]
        by_cases h4 : x = 61 ∧ 30 * t ≤ y ∧ y < 30 * t + h 46 t
        · rw [if_pos h4, if_pos h4]
          by_cases h5 : y < 30 * t + j
          · rw [if_pos h5, if_pos (by omega)]
          · rw [if_neg h5, if_neg (by omega)]
        · rw [if_neg h4, if_neg h4])
theorem jPq_e {h : zMem} {t c s w : Int} : jPq h t c s w (h 46 t) = jPq h t c s (w + 1) 0 := zmem_ext (fun x y => by
  unfold jPq
  by_cases h2 : x = 59 ∧ y = t
  · rw [if_pos h2, if_pos h2]
  · rw [if_neg h2, if_neg h2]
    by_cases h3 : x = 60 ∧ y = t
    · rw [if_pos h3, if_pos h3]
    · rw [if_neg h3, if_neg h3]
      by_cases h4 : x = 61 ∧ 30 * t ≤ y ∧ y < 30 * t + h 46 t
      · rw [if_pos h4, if_pos h4, if_pos (by omega), if_neg (by omega)]; omega
      · rw [if_neg h4, if_neg h4])
theorem jPq_0 {h : zMem} {t c : Int} : zup h 59 t c = jPq h t c (h 60 t) 0 0 := zmem_ext (fun x y => by
  unfold zup jPq
  by_cases h2 : x = 59 ∧ y = t
  · rw [if_pos h2, if_pos h2]
  · rw [if_neg h2, if_neg h2]
    by_cases h3 : x = 60 ∧ y = t
    · rw [if_pos h3, h3.1, h3.2]
    · rw [if_neg h3]
      by_cases h4 : x = 61 ∧ 30 * t ≤ y ∧ y < 30 * t + h 46 t
      · rw [if_pos h4, if_neg (by omega)]; omega
      · rw [if_neg h4])

set_option maxRecDepth 100000 in
set_option maxHeartbeats 4000000 in
theorem l_jpi {d n : Nat} {sh : zSh} {h : zMem} {t m c s w q : Int} {Q : Option zV → Nat → zSh → zMem → Prop} (hS : zShp sh) (hR : zRf h) (hm : zMok sh h) (ht : 0 ≤ t ∧ t < 5) (hb : 4 ≤ h 46 t ∧ h 46 t ≤ 30) (hd : 100 ≤ h 38 33 ∧ h 38 33 ≤ 5000) (hwn : ∀ y, 0 ≤ y → y < 150 → 0 ≤ h 61 y ∧ h 61 y ≤ 1000000) (hmm : 1 ≤ m ∧ m ≤ 5000) (hw : 0 ≤ w ∧ w ≤ 5000) (hK : zT yX11_print cX11_print 5 (some .int) (d + 3) 0 0 Q 121 [some (2, 38), some (0, t), some (0, m), some (0, q), none] [] n sh (jPq h t c s (w + 1) 0))  : ∀ (k : Nat) (j : Int), h 46 t - j < (k : Int) → 0 ≤ j → j ≤ h 46 t → zT yX11_print cX11_print 5 (some .int) (d + 3) 0 0 Q 89 [some (2, 38), some (0, t), some (0, m), some (0, q), some (0, j)] [] n sh (jPq h t c s w j) := by
  intro k
  induction k with
  | zero => intros; exfalso; omega
  | succ k ih =>
    intro j hk h0 h1
    refine zt_iload dX11_print_89 rfl ?_
    refine zt_aload_n dX11_print_91 rfl ?_
    refine zt_getv dX11_print_92 fl_X11_32 (zs_38 hS) (rf_38_18 (jPq_rf hR)) ?_
    refine zt_iload_n dX11_print_95 rfl ?_
    refine zt_ialoadv (v := h 46 t) dX11_print_96 (zs_46 hS) (by decide) (by omega) (by omega) (congrFun (jPq_n (by decide)) _) ?_
    refine zt_icmp_ge (tgt := 121) dX11_print_97 (by decide) (by omega) (by omega) (fun c_97 => ?_) (fun c_97 => ?_)
    · refine zt_kill_4 ?_
      rw [show j = h 46 t by omega, jPq_e]
      exact hK
    · refine zt_aload_n dX11_print_100 rfl ?_
      refine zt_getv dX11_print_101 fl_X11_82 (zs_38 hS) (rf_38_36 (jPq_rf hR)) ?_
      refine zt_iload_n dX11_print_104 rfl ?_
      refine zt_iload dX11_print_105 rfl ?_
      refine zt_callS2r dX11_print_107 ml_X11_316 (Nat.le_of_ble_eq_true rfl) (c_place) ?_
      refine zt_dup2 dX11_print_110 (Nat.ne_of_beq_eq_false rfl) (Nat.ne_of_beq_eq_false rfl) ?_
      refine zt_ialoadv (v := h 61 (30 * t + j) + w) dX11_print_111 (zs_61 hS) (by decide) (by omega) (by omega) (jPq_61 (by omega) (by omega)) ?_
      refine zt_iconst dX11_print_112 ?_
      refine zt_iadd dX11_print_113 ?_
      refine zt_iastore dX11_print_114 (zs_61 hS) (by decide) (by omega) (by omega) (by have := hwn (30 * t + j) (by omega) (by omega); omega) ?_
      refine zt_iinc_4 dX11_print_115 (by decide) rfl ?_
      refine zt_goto (tgt := 89) dX11_print_118 (by decide) ?_
      rw [jPq_s (by omega) (by omega) rfl]
      exact ih (j + 1) (by omega) (by omega) (by omega)

set_option maxRecDepth 100000 in
set_option maxHeartbeats 4000000 in
theorem l_jpo {d n : Nat} {sh : zSh} {h : zMem} {t m c : Int} {R : Int × Int} (hS : zShp sh) (hR : zRf h) (hm : zMok sh h) (ht : 0 ≤ t ∧ t < 5) (hb : 4 ≤ h 46 t ∧ h 46 t ≤ 30) (hd : 100 ≤ h 38 33 ∧ h 38 33 ≤ 5000) (hwn : ∀ y, 0 ≤ y → y < 150 → 0 ≤ h 61 y ∧ h 61 y ≤ 1000000) (hmm : 1 ≤ m ∧ m ≤ 5000)  : ∀ (k : Nat) (q : Int) (s : Int) (w : Int), m - q < (k : Int) → 0 ≤ q → q ≤ m → 0 ≤ s ∧ s ≤ 5000 + q → 0 ≤ w ∧ w ≤ q → R = zpr (h 38 33) (m - q).toNat s w → zT yX11_print cX11_print 5 (some .int) (d + 3) 0 0 (zq (some (0, c)) n sh (jPq h t c R.1 R.2 0)) 48 [some (2, 38), some (0, t), some (0, m), some (0, q), none] [] n sh (jPq h t c s w 0) := by
  intro k
  induction k with
  | zero => intros; exfalso; omega
  | succ k ih =>
    intro q s w hk h0 h1 hs hw hr
    refine zt_iload_n dX11_print_48 rfl ?_
    refine zt_iload_n dX11_print_49 rfl ?_
    refine zt_icmp_ge (tgt := 127) dX11_print_50 (by decide) (by omega) (by omega) (fun c_50 => ?_) (fun c_50 => ?_)
    · refine zt_aload_n dX11_print_127 rfl ?_
      refine zt_getv dX11_print_128 fl_X11_76 (zs_38 hS) (rf_38_34 (jPq_rf hR)) ?_
      refine zt_iload_n dX11_print_131 rfl ?_
      refine zt_ialoadv (v := c) dX11_print_132 (zs_59 hS) (by decide) (by omega) (by omega) jPq_59 ?_
      exact zt_iret dX11_print_133 ⟨rfl, rfl, rfl, by rw [hr, show (m - q).toNat = 0 by omega]; rfl⟩
    · refine zt_aload_n dX11_print_53 rfl ?_
      refine zt_getv dX11_print_54 fl_X11_79 (zs_38 hS) (rf_38_35 (jPq_rf hR)) ?_
      refine zt_iload_n dX11_print_57 rfl ?_
      refine zt_dup2 dX11_print_58 (Nat.ne_of_beq_eq_false rfl) (Nat.ne_of_beq_eq_false rfl) ?_
      refine zt_ialoadv (v := s) dX11_print_59 (zs_60 hS) (by decide) (by omega) (by omega) jPq_60 ?_
      refine zt_iconst dX11_print_60 ?_
      refine zt_iadd dX11_print_61 ?_
      refine zt_iastore dX11_print_62 (zs_60 hS) (by decide) (by omega) (by omega) (by omega) ?_
      refine zt_aload_n dX11_print_63 rfl ?_
      refine zt_getv dX11_print_64 fl_X11_79 (zs_38 hS) (rf_38_35 ((jPq_rf hR).upA (by decide))) ?_
      refine zt_iload_n dX11_print_67 rfl ?_
      refine zt_ialoadv (v := s + 1) dX11_print_68 (zs_60 hS) (by decide) (by omega) (by omega) zupE ?_
      refine zt_aload_n dX11_print_69 rfl ?_
      refine zt_getv (v := h 38 33) dX11_print_70 fl_X11_72 (zs_38 hS) ((zupA (by decide)).trans (congrFun (jPq_n (by decide)) _)) ?_
      refine zt_icmp_ge (tgt := 79) dX11_print_73 (by decide) (by omega) (by omega) (fun c_73 => ?_) (fun c_73 => ?_)
      · refine zt_aload_n dX11_print_79 rfl ?_
        refine zt_getv dX11_print_80 fl_X11_79 (zs_38 hS) (rf_38_35 ((jPq_rf hR).upA (by decide))) ?_
        refine zt_iload_n dX11_print_83 rfl ?_
        refine zt_iconst dX11_print_84 ?_
        refine zt_iastore dX11_print_85 (zs_60 hS) (by decide) (by omega) (by omega) (by decide) ?_
        refine zt_iconst dX11_print_86 ?_
        refine zt_istore_4 dX11_print_87 (by decide) rfl ?_
        rw [jPq_c, jPq_c]
        refine l_jpi hS hR hm ht hb hd hwn hmm (by omega) ?_ 31 0 (by omega) (by omega) (by omega)
        refine zt_iinc_3 dX11_print_121 (by decide) rfl ?_
        refine zt_goto (tgt := 48) dX11_print_124 (by decide) ?_
        exact ih (q + 1) 0 (w + 1) (by omega) (by omega) (by omega) (by omega) (by omega) (by rw [hr, show (m - q).toNat = (m - (q + 1)).toNat + 1 by omega]; exact if_neg (by omega))
      · refine zt_goto (tgt := 121) dX11_print_76 (by decide) ?_
        refine zt_iinc_3 dX11_print_121 (by decide) rfl ?_
        refine zt_goto (tgt := 48) dX11_print_124 (by decide) ?_
        rw [jPq_c]
        exact ih (q + 1) (s + 1) w (by omega) (by omega) (by omega) (by omega) (by omega) (by rw [hr, show (m - q).toNat = (m - (q + 1)).toNat + 1 by omega]; exact if_pos (by omega))

set_option maxRecDepth 100000 in
set_option maxHeartbeats 4000000 in
theorem c_jpr {d n : Nat} {sh : zSh} {h : zMem} {t m : Int} (hS : zShp sh) (hR : zRf h) (hB : mB h) (ht : zi32 t) (hm0 : zi32 m) (hd : 100 ≤ h 38 33 ∧ h 38 33 ≤ 5000) (hwn : ∀ y, 0 ≤ y → y < 150 → 0 ≤ h 61 y ∧ h 61 y ≤ 1000000) (hcp : ∀ q, 0 ≤ q → q < h 38 17 → (0 ≤ h 59 q ∧ h 59 q ≤ 60000) ∧ 0 ≤ h 60 q ∧ h 60 q ≤ 5000) : zF yX11_print cX11_print 5 (some .int) (d + 3) 0 0 [(2, 38), (0, t), (0, m)] n sh h (some (0, (if (jS h t ∧ (1 ≤ m ∧ m ≤ 5000) ∧ h 59 t + m ≤ 60000) then h 59 t + m else -1))) n sh (if (jS h t ∧ (1 ≤ m ∧ m ≤ 5000) ∧ h 59 t + m ≤ 60000) then jPq h t (h 59 t + m) (zpr (h 38 33) m.toNat (h 60 t) 0).1 (zpr (h 38 33) m.toNat (h 60 t) 0).2 0 else h) := by
  refine zF.ofT (by decide +kernel) [some (2, 38), some (0, t), some (0, m), none, none] rfl (Nat.le_of_ble_eq_true rfl) ?_
  refine zt_rg (fun hm => ?_)
  have b1 := hB.1
  have b3 := hB.2.2.1
  have b4 := hB.2.2.2.1
  have b5 := hB.2.2.2.2.1
  have b6 := hB.2.2.2.2.2.1
  have b7 := hB.2.2.2.2.2.2.1
  have b8 := hB.2.2.2.2.2.2.2.1
  have b9 := hB.2.2.2.2.2.2.2.2.1
  have b10 := hB.2.2.2.2.2.2.2.2.2.1
  have b11 := hB.2.2.2.2.2.2.2.2.2.2
  refine zt_aload_n dX11_print_0 rfl ?_
  refine zt_iload_n dX11_print_1 rfl ?_
  refine zt_callV1r dX11_print_2 ml_X11_420 (zs_38 hS) (Nat.le_of_ble_eq_true rfl) (c_jS hS hR hB (by omega)) ?_
  refine zt_ifb_eq (tgt := 34) dX11_print_5 (by decide) (fun c_5 => ?_) (fun c_5 => ?_)
  · refine zt_iconst dX11_print_34 ?_
    exact zt_iret dX11_print_35 ⟨by rw [if_neg (show ¬ (jS h t ∧ (1 ≤ m ∧ m ≤ 5000) ∧ h 59 t + m ≤ 60000) by omega)], rfl, rfl, by rw [if_neg (show ¬ (jS h t ∧ (1 ≤ m ∧ m ≤ 5000) ∧ h 59 t + m ≤ 60000) by omega)]⟩
  · have hb := hB.2.1 t c_5.1.1 c_5.1.2
    have hc0 := hcp t c_5.1.1 c_5.1.2
    refine zt_iload_n dX11_print_8 rfl ?_
    refine zt_i2l dX11_print_9 (by omega) ?_
    refine zt_lconst (v := 1) dX11_print_10 rfl ?_
    refine zt_ldc2 dX11_print_11 kc_X11_418 ?_
    refine zt_callS3r dX11_print_14 ml_X11_143 (Nat.le_of_ble_eq_true rfl) (c_min_ (x := m) (y := 1) (z := 5000) (by omega) (by decide) (by decide)) ?_
    refine zt_ifb_eq (tgt := 34) dX11_print_17 (by decide) (fun c_17 => ?_) (fun c_17 => ?_)
    · refine zt_iconst dX11_print_34 ?_
      exact zt_iret dX11_print_35 ⟨by rw [if_neg (show ¬ (jS h t ∧ (1 ≤ m ∧ m ≤ 5000) ∧ h 59 t + m ≤ 60000) by omega)], rfl, rfl, by rw [if_neg (show ¬ (jS h t ∧ (1 ≤ m ∧ m ≤ 5000) ∧ h 59 t + m ≤ 60000) by omega)]⟩
    · refine zt_aload_n dX11_print_20 rfl ?_
      refine zt_getv dX11_print_21 fl_X11_76 (zs_38 hS) (rf_38_34 hR) ?_
      refine zt_iload_n dX11_print_24 rfl ?_
      refine zt_iaload dX11_print_25 (zs_59 hS) (by decide) (by omega) (by omega) ?_
      refine zt_iload_n dX11_print_26 rfl ?_
      refine zt_iadd dX11_print_27 ?_
      refine zt_ldc_w dX11_print_28 kc_X11_423 ?_
      refine zt_icmp_le (tgt := 36) dX11_print_31 (by decide) (by omega) (by decide) (fun c_31 => ?_) (fun c_31 => ?_)
      · refine zt_aload_n dX11_print_36 rfl ?_
        refine zt_getv dX11_print_37 fl_X11_76 (zs_38 hS) (rf_38_34 hR) ?_
        refine zt_iload_n dX11_print_40 rfl ?_
        refine zt_dup2 dX11_print_41 (Nat.ne_of_beq_eq_false rfl) (Nat.ne_of_beq_eq_false rfl) ?_
        refine zt_iaload dX11_print_42 (zs_59 hS) (by decide) (by omega) (by omega) ?_
        refine zt_iload_n dX11_print_43 rfl ?_
        refine zt_iadd dX11_print_44 ?_
        refine zt_iastore dX11_print_45 (zs_59 hS) (by decide) (by omega) (by omega) (by omega) ?_
        refine zt_iconst dX11_print_46 ?_
        refine zt_istore_n_3 dX11_print_47 (by decide) rfl ?_
        rw [if_pos (show (jS h t ∧ (1 ≤ m ∧ m ≤ 5000) ∧ h 59 t + m ≤ 60000) by omega), if_pos (show (jS h t ∧ (1 ≤ m ∧ m ≤ 5000) ∧ h 59 t + m ≤ 60000) by omega), jPq_0]
        exact l_jpo (R := zpr (h 38 33) m.toNat (h 60 t) 0) hS hR hm (by omega) hb hd hwn (by omega) 5001 0 (h 60 t) 0 (by omega) (by omega) (by omega) (by omega) (by omega) (by rw [Int.sub_zero])
      · refine zt_iconst dX11_print_34 ?_
        exact zt_iret dX11_print_35 ⟨by rw [if_neg (show ¬ (jS h t ∧ (1 ≤ m ∧ m ≤ 5000) ∧ h 59 t + m ≤ 60000) by omega)], rfl, rfl, by rw [if_neg (show ¬ (jS h t ∧ (1 ≤ m ∧ m ≤ 5000) ∧ h 59 t + m ≤ 60000) by omega)]⟩
