set_option maxRecDepth 100000 in
set_option maxHeartbeats 4000000 in
theorem l_jways {d n : Nat} {sh : zSh} {h : zMem} {a s : Int} (ha : 0 ≤ a ∧ a ≤ 30) (hs0 : 0 ≤ s ∧ s ≤ a) : ∀ (k : Nat) (i : Int) (v : Int), s + 1 - i < (k : Int) → 1 ≤ i → i ≤ s + 1 → v = (zbn a.toNat s.toNat (i - 1).toNat : Int) → zT yX11_ways cX11_ways 5 (some .long) (d + 0) 0 0 (zq (some (1, zbi a s)) n sh h) 16 [some (0, a), some (0, s), some (1, v), none, some (0, i)] [] n sh h := by
  intro k
  induction k with
  | zero => intros; exfalso; omega
  | succ k ih =>
    intro i v hk h0 h1 hv
    refine zt_iload dX11_ways_16 rfl ?_
    refine zt_iload_n dX11_ways_18 rfl ?_
    refine zt_icmp_gt (tgt := 42) dX11_ways_19 (by decide) (by omega) (by omega) (fun c_19 => ?_) (fun c_19 => ?_)
    · refine zt_lload_n dX11_ways_42 rfl ?_
      exact zt_lret dX11_ways_43 ⟨by rw [hv]; congr 2; unfold zbi; rw [if_neg (by omega)]; congr 2; omega, rfl, rfl, rfl⟩
    · refine zt_lload_n dX11_ways_22 rfl ?_
      refine zt_iload_n dX11_ways_23 rfl ?_
      refine zt_iload_n dX11_ways_24 rfl ?_
      refine zt_isub dX11_ways_25 ?_
      refine zt_iload dX11_ways_26 rfl ?_
      refine zt_iadd dX11_ways_28 ?_
      refine zt_i2l dX11_ways_29 (by omega) ?_
      refine zt_lmul dX11_ways_30 ?_
      refine zt_iload dX11_ways_31 rfl ?_
      refine zt_i2l dX11_ways_33 (by omega) ?_
      refine zt_ldiv dX11_ways_34 (zbn_rng ha hs0 (by omega) hv) (by omega) (by omega) ?_
      refine zt_lstore_n_2 dX11_ways_35 (by decide) rfl ?_
      refine zt_iinc_4 dX11_ways_36 (by decide) rfl ?_
      refine zt_goto (tgt := 16) dX11_ways_39 (by decide) ?_
      exact ih (i + 1) _ (by omega) (by omega) (by omega) (zbn_step ha hs0 (by omega) hv)

set_option maxRecDepth 100000 in
set_option maxHeartbeats 4000000 in
theorem c_jways {d n : Nat} {sh : zSh} {h : zMem} {a s : Int} (ha : 0 ≤ a ∧ a ≤ 30) (hs : zi32 s) : zF yX11_ways cX11_ways 5 (some .long) (d + 0) 0 0 [(0, a), (0, s)] n sh h (some (1, zbi a s)) n sh h := by
  refine zF.ofT (by decide +kernel) [some (0, a), some (0, s), none, none, none] rfl (Nat.le_of_ble_eq_true rfl) ?_
  refine zt_iload_n dX11_ways_0 rfl ?_
  refine zt_if_lt (tgt := 9) dX11_ways_1 (by decide) (by omega) (fun c_1 => ?_) (fun c_1 => ?_)
  · refine zt_lconst (v := 0) dX11_ways_9 rfl ?_
    exact zt_lret dX11_ways_10 ⟨by congr 2; unfold zbi; rw [if_pos (by omega)], rfl, rfl, rfl⟩
  · refine zt_iload_n dX11_ways_4 rfl ?_
    refine zt_iload_n dX11_ways_5 rfl ?_
    refine zt_icmp_le (tgt := 11) dX11_ways_6 (by decide) (by omega) (by omega) (fun c_6 => ?_) (fun c_6 => ?_)
    · refine zt_lconst (v := 1) dX11_ways_11 rfl ?_
      refine zt_lstore_n_2 dX11_ways_12 (by decide) rfl ?_
      refine zt_iconst dX11_ways_13 ?_
      refine zt_istore_4 dX11_ways_14 (by decide) rfl ?_
      exact l_jways ha (by omega) 31 1 1 (by omega) (by omega) (by omega) rfl
    · refine zt_lconst (v := 0) dX11_ways_9 rfl ?_
      exact zt_lret dX11_ways_10 ⟨by congr 2; unfold zbi; rw [if_pos (by omega)], rfl, rfl, rfl⟩

abbrev jcN (h : zMem) (t : Int) : Int := zS (fun j => zb (h 66 (30 * t + j) ≠ -2147483648)) 0 (h 46 t)
abbrev jcF (h : zMem) (t : Int) : Int := zS (fun j => zb (h 66 (30 * t + j) ≠ -2147483648 ∧ h 66 (30 * t + j) ≠ h 47 (30 * t + j))) 0 (h 46 t)
abbrev jcO (h : zMem) (t : Int) : Int := zS (fun j => zb (h 66 (30 * t + j) ≠ -2147483648 ∧ jF h (30 * t + j))) 0 (h 46 t)
abbrev jcS (h : zMem) (t : Int) : Int := zS (fun j => zb (jF h (30 * t + j) ∧ h 66 (30 * t + j) = h 53 (30 * t + j))) 0 (h 46 t)
theorem jc_r {h : zMem} {t : Int} (hE : 4 ≤ h 46 t ∧ h 46 t ≤ 30) : (0 ≤ jcF h t ∧ jcF h t ≤ 30) ∧ (0 ≤ jcO h t ∧ jcO h t ≤ jcN h t ∧ jcN h t ≤ 30) ∧ (0 ≤ jcS h t ∧ jcS h t ≤ 30) := by
  have a1 := zS_le (p := fun j => zb (h 66 (30 * t + j) ≠ -2147483648)) 30 0 (by omega) (fun j _ _ => zb_01 _) (by omega : 0 ≤ h 46 t)
  have a2 := zS_le (p := fun j => zb (h 66 (30 * t + j) ≠ -2147483648 ∧ h 66 (30 * t + j) ≠ h 47 (30 * t + j))) 30 0 (by omega) (fun j _ _ => zb_01 _) (by omega : 0 ≤ h 46 t)
  have a3 := zS_le (p := fun j => zb (h 66 (30 * t + j) ≠ -2147483648 ∧ jF h (30 * t + j))) 30 0 (by omega) (fun j _ _ => zb_01 _) (by omega : 0 ≤ h 46 t)
  have a4 := zS_le (p := fun j => zb (jF h (30 * t + j) ∧ h 66 (30 * t + j) = h 53 (30 * t + j))) 30 0 (by omega) (fun j _ _ => zb_01 _) (by omega : 0 ≤ h 46 t)
  have a5 := zS_mono (p := fun j => zb (h 66 (30 * t + j) ≠ -2147483648 ∧ jF h (30 * t + j))) (q := fun j => zb (h 66 (30 * t + j) ≠ -2147483648)) (N := h 46 t) 30 0 (by omega) (fun j _ _ => zb_mono (fun q => q.1))
  unfold jcF jcO jcN jcS
  omega

set_option maxRecDepth 100000 in
set_option maxHeartbeats 4000000 in
theorem l_jcp2 {d n : Nat} {sh : zSh} {h : zMem} {t nn f oo R : Int} (hS : zShp sh) (hR : zRf h) (hf : 0 ≤ f ∧ f ≤ 30) (hn : 0 ≤ oo ∧ oo ≤ nn ∧ nn ≤ 30) (hRr : 0 ≤ R ∧ R ≤ 40000000000) : ∀ (k : Nat) (i : Int) (v : Int), 31 - i < (k : Int) → 0 ≤ i → i ≤ 31 → R = v + zS (zcp nn f oo) i (oo + 1) → zT yX11_copied cX11_copied 8 (some .int) (d + 1) 0 0 (zq (some (0, zb (R * 100 < zbi nn f))) n sh h) 118 [some (2, 38), some (0, t), some (0, nn), some (0, f), some (0, oo), some (1, v), none, some (0, i)] [] n sh h := by
  intro k
  induction k with
  | zero => intros; exfalso; omega
  | succ k ih =>
    intro i v hk h0 h1 hr
    refine zt_iload dX11_copied_118 rfl ?_
    refine zt_iload dX11_copied_120 rfl ?_
    refine zt_icmp_gt (tgt := 155) dX11_copied_122 (by decide) (by omega) (by omega) (fun c_122 => ?_) (fun c_122 => ?_)
    · refine zt_ldc2 dX11_copied_155 kc_X11_270 ?_
      refine zt_lload dX11_copied_158 rfl ?_
      refine zt_lmul dX11_copied_160 ?_
      refine zt_iload_n dX11_copied_161 rfl ?_
      refine zt_iload_n dX11_copied_162 rfl ?_
      refine zt_callS2r dX11_copied_163 ml_X11_447 (Nat.le_of_ble_eq_true rfl) (c_jways (by omega) (by omega)) ?_
      refine zt_lc_ge (tgt := 174) dX11_copied_166 dX11_copied_167 (by decide) (by rw [zS_e (by omega)] at hr; omega) (by have := zbi_le (a := nn) (s := f) (by omega); have h4 : (2 : Int) ^ nn.toNat ≤ 2 ^ 30 := (show ∀ q, q < 31 → (2 : Int) ^ q ≤ 2 ^ 30 by decide) _ (by omega); omega) (fun c_166 => ?_) (fun c_166 => ?_)
      · refine zt_iconst dX11_copied_174 ?_
        exact zt_iret dX11_copied_175 ⟨zb0 (by rw [zS_e (by omega)] at hr; rw [hr]; omega), rfl, rfl, rfl⟩
      · refine zt_iconst dX11_copied_170 ?_
        refine zt_goto (tgt := 175) dX11_copied_171 (by decide) ?_
        exact zt_iret dX11_copied_175 ⟨zb1 (by rw [zS_e (by omega)] at hr; rw [hr]; omega), rfl, rfl, rfl⟩
    · refine zt_lload dX11_copied_125 rfl ?_
      refine zt_iload dX11_copied_127 rfl ?_
      refine zt_iload dX11_copied_129 rfl ?_
      refine zt_callS2r dX11_copied_131 ml_X11_447 (Nat.le_of_ble_eq_true rfl) (c_jways (by omega) (by omega)) ?_
      refine zt_iload_n dX11_copied_134 rfl ?_
      refine zt_iload dX11_copied_135 rfl ?_
      refine zt_isub dX11_copied_137 ?_
      refine zt_iload_n dX11_copied_138 rfl ?_
      refine zt_iload dX11_copied_139 rfl ?_
      refine zt_isub dX11_copied_141 ?_
      refine zt_callS2r dX11_copied_142 ml_X11_447 (Nat.le_of_ble_eq_true rfl) (c_jways (by omega) (by omega)) ?_
      refine zt_lmul dX11_copied_145 ?_
      refine zt_ladd dX11_copied_146 ?_
      refine zt_lstore_5 dX11_copied_147 (by decide) rfl ?_
      refine zt_iinc_7 dX11_copied_149 (by decide) rfl ?_
      refine zt_goto (tgt := 118) dX11_copied_152 (by decide) ?_
      exact ih (i + 1) _ (by omega) (by omega) (by omega) (by rw [hr, zS_s (by omega)]; show _ = v + zcp nn f oo i + _; omega)

set_option maxRecDepth 100000 in
set_option maxHeartbeats 4000000 in
theorem l_jcp1 {d n : Nat} {sh : zSh} {h : zMem} {t : Int} (hS : zShp sh) (hR : zRf h) (hB : mB h) (hm : zMok sh h) (ht : 0 ≤ t ∧ t < h 38 17) (b1 : 0 ≤ h 38 17 ∧ h 38 17 ≤ 5) (hb : 4 ≤ h 46 t ∧ h 46 t ≤ 30) (hjs : jS h t)  : ∀ (k : Nat) (i : Int) (nn : Int) (f : Int) (oo : Int), h 46 t - i < (k : Int) → 0 ≤ i → i ≤ h 46 t → jcN h t = nn + zS (fun j => zb (h 66 (30 * t + j) ≠ -2147483648)) i (h 46 t) → jcF h t = f + zS (fun j => zb (h 66 (30 * t + j) ≠ -2147483648 ∧ h 66 (30 * t + j) ≠ h 47 (30 * t + j))) i (h 46 t) → jcO h t = oo + zS (fun j => zb (h 66 (30 * t + j) ≠ -2147483648 ∧ jF h (30 * t + j))) i (h 46 t) → zT yX11_copied cX11_copied 8 (some .int) (d + 4) 0 0 (zq (some (0, zb (zS (zcp (jcN h t) (jcF h t) (jcO h t)) (jcS h t) (jcO h t + 1) * 100 < zbi (jcN h t) (jcF h t)))) n sh h) 20 [some (2, 38), some (0, t), some (0, nn), some (0, f), some (0, oo), some (0, i), none, none] [] n sh h := by
  intro k
  induction k with
  | zero => intros; exfalso; omega
  | succ k ih =>
    intro i nn f oo hk h0 h1 h2 h3 h4
    refine zt_iload dX11_copied_20 rfl ?_
    refine zt_aload_n dX11_copied_22 rfl ?_
    refine zt_getv dX11_copied_23 fl_X11_32 (zs_38 hS) (rf_38_18 hR) ?_
    refine zt_iload_n dX11_copied_26 rfl ?_
    refine zt_iaload dX11_copied_27 (zs_46 hS) (by decide) (by omega) (by omega) ?_
    refine zt_icmp_ge (tgt := 108) dX11_copied_28 (by decide) (by omega) (hm.int (zs_46 hS) (by omega) (by omega)) (fun c_28 => ?_) (fun c_28 => ?_)
    · rw [zS_e (by omega)] at h2 h3 h4
      have hr := jc_r (h := h) (t := t) hb
      have e1 : nn = jcN h t := by omega
      have e2 : f = jcF h t := by omega
      have e3 : oo = jcO h t := by omega
      subst e1 e2 e3
      refine zt_lconst (v := 0) dX11_copied_108 rfl ?_
      refine zt_lstore_5 dX11_copied_109 (by decide) rfl ?_
      refine zt_aload_n dX11_copied_111 rfl ?_
      refine zt_iload_n dX11_copied_112 rfl ?_
      refine zt_callV1r dX11_copied_113 ml_X11_444 (zs_38 hS) (Nat.le_of_ble_eq_true rfl) (zF.of_eq (congrArg (fun q => some (0, q)) (show jSh h t = jcS h t from if_pos hjs)) rfl rfl rfl (c_jsh hS hR hB (by omega))) ?_
      refine zt_istore_7 dX11_copied_116 (by decide) rfl ?_
      have hbb := zS_bd (p := zcp (jcN h t) (jcF h t) (jcO h t)) (N := jcO h t + 1) (B := 1073741824) 31 (jcS h t) (by omega) (by omega) (fun j _ _ => zcp_r (by omega))
      exact l_jcp2 hS hR (by omega) (by omega) (by omega) 32 (jcS h t) 0 (by omega) (by omega) (by omega) (by omega)
    · refine zt_iload_n dX11_copied_31 rfl ?_
      refine zt_iload dX11_copied_32 rfl ?_
      refine zt_callS2r dX11_copied_34 ml_X11_316 (Nat.le_of_ble_eq_true rfl) (c_place) ?_
      refine zt_istore_6 dX11_copied_37 (by decide) rfl ?_
      refine zt_aload_n dX11_copied_39 rfl ?_
      refine zt_getv dX11_copied_40 fl_X11_97 (zs_38 hS) (rf_38_42 hR) ?_
      refine zt_iload dX11_copied_43 rfl ?_
      refine zt_iaload dX11_copied_45 (zs_66 hS) (by decide) (by omega) (by omega) ?_
      refine zt_ldc_w dX11_copied_46 kc_X11_283 ?_
      refine zt_icmp_ne (tgt := 55) dX11_copied_49 (by decide) (hm.int (zs_66 hS) (by omega) (by omega)) (by decide) (fun c_49 => ?_) (fun c_49 => ?_)
      · refine zt_iinc_2 dX11_copied_55 (by decide) rfl ?_
        refine zt_iload_n dX11_copied_58 rfl ?_
        refine zt_aload_n dX11_copied_59 rfl ?_
        refine zt_getv dX11_copied_60 fl_X11_97 (zs_38 hS) (rf_38_42 hR) ?_
        refine zt_iload dX11_copied_63 rfl ?_
        refine zt_iaload dX11_copied_65 (zs_66 hS) (by decide) (by omega) (by omega) ?_
        refine zt_aload_n dX11_copied_66 rfl ?_
        refine zt_getv dX11_copied_67 fl_X11_35 (zs_38 hS) (rf_38_19 hR) ?_
        refine zt_iload dX11_copied_70 rfl ?_
        refine zt_iaload dX11_copied_72 (zs_47 hS) (by decide) (by omega) (by omega) ?_
        refine zt_icmp_eq (tgt := 80) dX11_copied_73 (by decide) (hm.int (zs_66 hS) (by omega) (by omega)) (hm.int (zs_47 hS) (by omega) (by omega)) (fun c_73 => ?_) (fun c_73 => ?_)
        · refine zt_iconst dX11_copied_80 ?_
          refine zt_iadd dX11_copied_81 ?_
          refine zt_istore_n_3 dX11_copied_82 (by decide) rfl ?_
          refine zt_iload dX11_copied_83 rfl ?_
          refine zt_aload_n dX11_copied_85 rfl ?_
          refine zt_iload dX11_copied_86 rfl ?_
          refine zt_callV1r dX11_copied_88 ml_X11_441 (zs_38 hS) (Nat.le_of_ble_eq_true rfl) (c_jF hS hR hB (by omega)) ?_
          refine zt_ifb_eq (tgt := 98) dX11_copied_91 (by decide) (fun c_91 => ?_) (fun c_91 => ?_)
          · refine zt_iconst dX11_copied_98 ?_
            refine zt_iadd dX11_copied_99 ?_
            refine zt_istore_4 dX11_copied_100 (by decide) rfl ?_
            refine zt_iinc_5 dX11_copied_102 (by decide) rfl ?_
            refine zt_goto (tgt := 20) dX11_copied_105 (by decide) ?_
            refine zt_kill_6 ?_
            exact ih (i + 1) (nn + 1) (f + 0) (oo + 0) (by omega) (by omega) (by omega) (by rw [zS_s (by omega)] at h2; first | (rw [zb_t (by omega)] at h2; omega) | (rw [zb_f (by omega)] at h2; omega)) (by rw [zS_s (by omega)] at h3; first | (rw [zb_t (by omega)] at h3; omega) | (rw [zb_f (by omega)] at h3; omega)) (by rw [zS_s (by omega)] at h4; first | (rw [zb_t (by omega)] at h4; omega) | (rw [zb_f (by omega)] at h4; omega))
          · refine zt_iconst dX11_copied_94 ?_
            refine zt_goto (tgt := 99) dX11_copied_95 (by decide) ?_
            refine zt_iadd dX11_copied_99 ?_
            refine zt_istore_4 dX11_copied_100 (by decide) rfl ?_
            refine zt_iinc_5 dX11_copied_102 (by decide) rfl ?_
            refine zt_goto (tgt := 20) dX11_copied_105 (by decide) ?_
            refine zt_kill_6 ?_
            exact ih (i + 1) (nn + 1) (f + 0) (oo + 1) (by omega) (by omega) (by omega) (by rw [zS_s (by omega)] at h2; first | (rw [zb_t (by omega)] at h2; omega) | (rw [zb_f (by omega)] at h2; omega)) (by rw [zS_s (by omega)] at h3; first | (rw [zb_t (by omega)] at h3; omega) | (rw [zb_f (by omega)] at h3; omega)) (by rw [zS_s (by omega)] at h4; first | (rw [zb_t (by omega)] at h4; omega) | (rw [zb_f (by omega)] at h4; omega))
        · refine zt_iconst dX11_copied_76 ?_
          refine zt_goto (tgt := 81) dX11_copied_77 (by decide) ?_
          refine zt_iadd dX11_copied_81 ?_
          refine zt_istore_n_3 dX11_copied_82 (by decide) rfl ?_
          refine zt_iload dX11_copied_83 rfl ?_
          refine zt_aload_n dX11_copied_85 rfl ?_
          refine zt_iload dX11_copied_86 rfl ?_
          refine zt_callV1r dX11_copied_88 ml_X11_441 (zs_38 hS) (Nat.le_of_ble_eq_true rfl) (c_jF hS hR hB (by omega)) ?_
          refine zt_ifb_eq (tgt := 98) dX11_copied_91 (by decide) (fun c_91 => ?_) (fun c_91 => ?_)
          · refine zt_iconst dX11_copied_98 ?_
            refine zt_iadd dX11_copied_99 ?_
            refine zt_istore_4 dX11_copied_100 (by decide) rfl ?_
            refine zt_iinc_5 dX11_copied_102 (by decide) rfl ?_
            refine zt_goto (tgt := 20) dX11_copied_105 (by decide) ?_
            refine zt_kill_6 ?_
            exact ih (i + 1) (nn + 1) (f + 1) (oo + 0) (by omega) (by omega) (by omega) (by rw [zS_s (by omega)] at h2; first | (rw [zb_t (by omega)] at h2; omega) | (rw [zb_f (by omega)] at h2; omega)) (by rw [zS_s (by omega)] at h3; first | (rw [zb_t (by omega)] at h3; omega) | (rw [zb_f (by omega)] at h3; omega)) (by rw [zS_s (by omega)] at h4; first | (rw [zb_t (by omega)] at h4; omega) | (rw [zb_f (by omega)] at h4; omega))
          · refine zt_iconst dX11_copied_94 ?_
            refine zt_goto (tgt := 99) dX11_copied_95 (by decide) ?_
            refine zt_iadd dX11_copied_99 ?_
            refine zt_istore_4 dX11_copied_100 (by decide) rfl ?_
            refine zt_iinc_5 dX11_copied_102 (by decide) rfl ?_
            refine zt_goto (tgt := 20) dX11_copied_105 (by decide) ?_
            refine zt_kill_6 ?_
            exact ih (i + 1) (nn + 1) (f + 1) (oo + 1) (by omega) (by omega) (by omega) (by rw [zS_s (by omega)] at h2; first | (rw [zb_t (by omega)] at h2; omega) | (rw [zb_f (by omega)] at h2; omega)) (by rw [zS_s (by omega)] at h3; first | (rw [zb_t (by omega)] at h3; omega) | (rw [zb_f (by omega)] at h3; omega)) (by rw [zS_s (by omega)] at h4; first | (rw [zb_t (by omega)] at h4; omega) | (rw [zb_f (by omega)] at h4; omega))
      · refine zt_goto (tgt := 102) dX11_copied_52 (by decide) ?_
        refine zt_iinc_5 dX11_copied_102 (by decide) rfl ?_
        refine zt_goto (tgt := 20) dX11_copied_105 (by decide) ?_
        refine zt_kill_6 ?_
        exact ih (i + 1) nn f oo (by omega) (by omega) (by omega) (by rw [zS_s (by omega)] at h2; first | (rw [zb_t (by omega)] at h2; omega) | (rw [zb_f (by omega)] at h2; omega)) (by rw [zS_s (by omega)] at h3; first | (rw [zb_t (by omega)] at h3; omega) | (rw [zb_f (by omega)] at h3; omega)) (by rw [zS_s (by omega)] at h4; first | (rw [zb_t (by omega)] at h4; omega) | (rw [zb_f (by omega)] at h4; omega))

set_option maxRecDepth 100000 in
set_option maxHeartbeats 4000000 in
theorem c_jcop {d n : Nat} {sh : zSh} {h : zMem} {t : Int} (hS : zShp sh) (hR : zRf h) (hB : mB h) (ht : zi32 t) : zF yX11_copied cX11_copied 8 (some .int) (d + 4) 0 0 [(2, 38), (0, t)] n sh h (some (0, (if jS h t then zb (zS (zcp (jcN h t) (jcF h t) (jcO h t)) (jcS h t) (jcO h t + 1) * 100 < zbi (jcN h t) (jcF h t)) else -1))) n sh h := by
  refine zF.ofT (by decide +kernel) [some (2, 38), some (0, t), none, none, none, none, none, none] rfl (Nat.le_of_ble_eq_true rfl) ?_
  refine zt_rg (fun hm => ?_)
  have b1 := hB.1
  have b3 := hB.2.2.1
  have b4 := hB.2.2.2.1
  have b5 := hB.2.2.2.2.1
  have b6 := hB.2.2.2.2.2.1
  have b7 := hB.2.2.2.2.2.2.1
  have b8 := hB.2.2.2.2.2.2.2.1
  have b9 := hB.2.2.2.2.2.2.2.2.1
  have b10 := hB.2.2.2.2.2.2.2.2.2.1
  have b11 := hB.2.2.2.2.2.2.2.2.2.2
  refine zt_aload_n dX11_copied_0 rfl ?_
  refine zt_iload_n dX11_copied_1 rfl ?_
  refine zt_callV1r dX11_copied_2 ml_X11_420 (zs_38 hS) (Nat.le_of_ble_eq_true rfl) (c_jS hS hR hB (by omega)) ?_
  refine zt_ifb_ne (tgt := 10) dX11_copied_5 (by decide) (fun c_5 => ?_) (fun c_5 => ?_)
  · refine zt_iconst dX11_copied_10 ?_
    refine zt_istore_n_2 dX11_copied_11 (by decide) rfl ?_
    refine zt_iconst dX11_copied_12 ?_
    refine zt_istore_n_3 dX11_copied_13 (by decide) rfl ?_
    refine zt_iconst dX11_copied_14 ?_
    refine zt_istore_4 dX11_copied_15 (by decide) rfl ?_
    refine zt_iconst dX11_copied_17 ?_
    refine zt_istore_5 dX11_copied_18 (by decide) rfl ?_
    have hb := hB.2.1 t c_5.1.1 c_5.1.2
    rw [if_pos c_5]
    exact l_jcp1 hS hR hB hm c_5.1 b1 hb c_5 31 0 0 0 0 (by omega) (by omega) (by omega) (by rw [Int.zero_add]) (by rw [Int.zero_add]) (by rw [Int.zero_add])
  · refine zt_iconst dX11_copied_8 ?_
    exact zt_iret dX11_copied_9 ⟨by rw [if_neg c_5], rfl, rfl, rfl⟩
