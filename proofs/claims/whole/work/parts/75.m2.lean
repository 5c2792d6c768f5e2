/-- HANDS and HABITS are the class' -/
def vHab (h : zMem) : Prop := h 38 20 = h 10 0 ∧ h 38 21 = h 10 1 ∧ hbOK h ∧ ∀ k, 0 ≤ k → k < h 10 1 → h 48 k = h 12 k ∧ h 49 k = h 13 k ∧ (0 ≤ h 50 k ∧ h 50 k < 900) ∧ h 14 k = zten (h 50 k / 100) ∧ h 15 k = h 50 k / 10 % 10 ∧ h 16 k = h 50 k % 10

set_option maxRecDepth 100000 in
set_option maxHeartbeats 4000000 in
theorem l_jwu {d n : Nat} {sh : zSh} {h : zMem} {a w e v q : Int} {Q : Option zV → Nat → zSh → zMem → Prop} (hS : zShp sh) (hR : zRf h) (hm : zMok sh h) (hV : vHab h) (ha : zi32 a) (hw : zi32 w) (he : 0 ≤ e ∧ e < 150) (hq : 0 ≤ q ∧ q < h 10 1) (h50 : 0 ≤ h 50 q ∧ h 50 q < 900) (hq24 : q < 24) (hK : zT yX11_writes cX11_writes 8 (some .int) (d + 0) 0 0 Q 114 [some (2, 38), some (0, a), some (0, w), some (0, e), some (0, v), some (0, q), some (0, zten (h 50 q / 100)), none] [] n sh h)  : ∀ (k : Nat) (i : Int) (u : Int), h 50 q / 100 - i < (k : Int) → 0 ≤ i → i ≤ h 50 q / 100 → u = zten i → zT yX11_writes cX11_writes 8 (some .int) (d + 0) 0 0 Q 86 [some (2, 38), some (0, a), some (0, w), some (0, e), some (0, v), some (0, q), some (0, u), some (0, i)] [] n sh h := by
  intro k
  induction k with
  | zero => intros; exfalso; omega
  | succ k ih =>
    intro i u hk h0 h1 hu
    refine zt_iload dX11_writes_86 rfl ?_
    refine zt_aload_n dX11_writes_88 rfl ?_
    refine zt_getv dX11_writes_89 fl_X11_44 (zs_38 hS) (rf_38_24 hR) ?_
    refine zt_iload dX11_writes_92 rfl ?_
    refine zt_iaload dX11_writes_94 (zs_50 hS) (by decide) (by omega) (by omega) ?_
    refine zt_bipush dX11_writes_95 (by decide) ?_
    refine zt_idiv dX11_writes_97 (hm.int (zs_50 hS) (by omega) (by omega)) (by decide) (by decide) ?_
    refine zt_topv (v := h 50 q / 100) (Int.tdiv_eq_ediv_of_nonneg (by omega)) ?_
    refine zt_icmp_ge (tgt := 114) dX11_writes_98 (by decide) (by omega) (by omega) (fun c_98 => ?_) (fun c_98 => ?_)
    · have e9 : u = zten (h 50 q / 100) := by rw [hu, show i = h 50 q / 100 by omega]
      subst e9
      refine zt_kill_7 ?_
      exact hK
    · refine zt_iload dX11_writes_101 rfl ?_
      refine zt_bipush dX11_writes_103 (by decide) ?_
      refine zt_imul dX11_writes_105 ?_
      refine zt_istore_6 dX11_writes_106 (by decide) rfl ?_
      refine zt_iinc_7 dX11_writes_108 (by decide) rfl ?_
      refine zt_goto (tgt := 86) dX11_writes_111 (by decide) ?_
      exact ih (i + 1) (u * 10) (by omega) (by omega) (by omega) (by rw [hu, zten_s h0])

set_option maxRecDepth 100000 in
set_option maxHeartbeats 4000000 in
theorem l_jw {d n : Nat} {sh : zSh} {h : zMem} {a w e : Int} {X : Int} (hS : zShp sh) (hR : zRf h) (hm : zMok sh h) (hV : vHab h) (ha : zi32 a) (hw : zi32 w) (he : 0 ≤ e ∧ e < 150) (hX : X = hWr h a w (h 47 e)) (hne : h 47 e ≠ -2147483648) (hn : 0 ≤ h 10 1 ∧ h 10 1 ≤ 24)  : ∀ (k : Nat) (q : Int) (v : Int), h 10 1 - q < (k : Int) → 0 ≤ q → q ≤ h 10 1 → (0 ≤ v ∧ v ≤ 999999999) → zFor (hHs h a w) 0 (h 10 1) (zabs (h 47 e)) = zFor (hHs h a w) q (h 10 1) v → zT yX11_writes cX11_writes 8 (some .int) (d + 0) 0 0 (zq (some (0, X)) n sh h) 46 [some (2, 38), some (0, a), some (0, w), some (0, e), some (0, v), some (0, q), none, none] [] n sh h := by
  intro k
  induction k with
  | zero => intros; exfalso; omega
  | succ k ih =>
    intro q v hk h0 h1 hv hr
    refine zt_iload dX11_writes_46 rfl ?_
    refine zt_aload_n dX11_writes_48 rfl ?_
    refine zt_getv (v := h 10 1) dX11_writes_49 fl_X11_325 (zs_38 hS) hV.2.1 ?_
    refine zt_icmp_ge (tgt := 176) dX11_writes_52 (by decide) (by omega) (by omega) (fun c_52 => ?_) (fun c_52 => ?_)
    · refine zt_aload_n dX11_writes_176 rfl ?_
      refine zt_getv dX11_writes_177 fl_X11_35 (zs_38 hS) (rf_38_19 hR) ?_
      refine zt_iload_n dX11_writes_180 rfl ?_
      refine zt_iaload dX11_writes_181 (zs_47 hS) (by decide) (by omega) (by omega) ?_
      refine zt_if_ge (tgt := 191) dX11_writes_182 (by decide) (hm.int (zs_47 hS) (by omega) (by omega)) (fun c_182 => ?_) (fun c_182 => ?_)
      · refine zt_iload dX11_writes_191 rfl ?_
        exact zt_iret dX11_writes_193 ⟨by rw [hX]; congr 2; unfold hWr; rw [if_neg hne]; first | (rw [if_pos (by omega), hr, zFor_e (by omega)]; done) | (rw [if_neg (by omega), hr, zFor_e (by omega)]; done), rfl, rfl, rfl⟩
      · refine zt_iload dX11_writes_185 rfl ?_
        refine zt_ineg dX11_writes_187 ?_
        refine zt_goto (tgt := 193) dX11_writes_188 (by decide) ?_
        exact zt_iret dX11_writes_193 ⟨by rw [hX]; congr 2; unfold hWr; rw [if_neg hne]; first | (rw [if_pos (by omega), hr, zFor_e (by omega)]; done) | (rw [if_neg (by omega), hr, zFor_e (by omega)]; done), rfl, rfl, rfl⟩
    · have hk2 := hV.2.2.2 q (by omega) (by omega)
      refine zt_aload_n dX11_writes_55 rfl ?_
      refine zt_getv dX11_writes_56 fl_X11_38 (zs_38 hS) (rf_38_22 hR) ?_
      refine zt_iload dX11_writes_59 rfl ?_
      refine zt_iaload dX11_writes_61 (zs_48 hS) (by decide) (by omega) (by omega) ?_
      refine zt_iload_n dX11_writes_62 rfl ?_
      refine zt_icmp_ne (tgt := 170) dX11_writes_63 (by decide) (hm.int (zs_48 hS) (by omega) (by omega)) (by omega) (fun c_63 => ?_) (fun c_63 => ?_)
      · refine zt_iinc_5 dX11_writes_170 (by decide) rfl ?_
        refine zt_goto (tgt := 46) dX11_writes_173 (by decide) ?_
        exact ih (q + 1) v (by omega) (by omega) (by omega) hv (by rw [hr, zFor_s (by omega)]; congr 1; unfold hHs zhs; rw [hk2.2.2.2.1, hk2.2.2.2.2.1, if_neg (by omega)])
      · refine zt_aload_n dX11_writes_66 rfl ?_
        refine zt_getv dX11_writes_67 fl_X11_41 (zs_38 hS) (rf_38_23 hR) ?_
        refine zt_iload dX11_writes_70 rfl ?_
        refine zt_iaload dX11_writes_72 (zs_49 hS) (by decide) (by omega) (by omega) ?_
        refine zt_iload_n dX11_writes_73 rfl ?_
        refine zt_icmp_eq (tgt := 80) dX11_writes_74 (by decide) (hm.int (zs_49 hS) (by omega) (by omega)) (by omega) (fun c_74 => ?_) (fun c_74 => ?_)
        · refine zt_iconst dX11_writes_80 ?_
          refine zt_istore_6 dX11_writes_81 (by decide) rfl ?_
          refine zt_iconst dX11_writes_83 ?_
          refine zt_istore_7 dX11_writes_84 (by decide) rfl ?_
          refine l_jwu hS hR hm hV ha hw he (by omega) (by omega) (by omega) ?_ 10 0 1 (by omega) (by omega) (by omega) rfl
          have hzp := zten_pos (h 50 q / 100)
          have hz8 := zten_le8 (p := h 50 q / 100) (by omega)
          have hq0 : 0 ≤ v / zten (h 50 q / 100) := Int.ediv_nonneg (by omega) (by omega)
          have hq1 : v / zten (h 50 q / 100) ≤ v := Int.ediv_le_self _ (by omega)
          refine zt_iload dX11_writes_114 rfl ?_
          refine zt_iload dX11_writes_116 rfl ?_
          refine zt_idiv dX11_writes_118 (by omega) (by omega) (by omega) ?_
          refine zt_topv (v := v / zten (h 50 q / 100)) (Int.tdiv_eq_ediv_of_nonneg (by omega)) ?_
          refine zt_bipush dX11_writes_119 (by decide) ?_
          refine zt_irem dX11_writes_121 (by omega) (by decide) (by decide) ?_
          refine zt_topv (v := v / zten (h 50 q / 100) % 10) (Int.tmod_eq_emod_of_nonneg (by omega)) ?_
          refine zt_aload_n dX11_writes_122 rfl ?_
          refine zt_getv dX11_writes_123 fl_X11_44 (zs_38 hS) (rf_38_24 hR) ?_
          refine zt_iload dX11_writes_126 rfl ?_
          refine zt_iaload dX11_writes_128 (zs_50 hS) (by decide) (by omega) (by omega) ?_
          refine zt_bipush dX11_writes_129 (by decide) ?_
          refine zt_idiv dX11_writes_131 (hm.int (zs_50 hS) (by omega) (by omega)) (by decide) (by decide) ?_
          refine zt_topv (v := h 50 q / 10) (Int.tdiv_eq_ediv_of_nonneg (by omega)) ?_
          refine zt_bipush dX11_writes_132 (by decide) ?_
          refine zt_irem dX11_writes_134 (by omega) (by decide) (by decide) ?_
          refine zt_topv (v := h 50 q / 10 % 10) (Int.tmod_eq_emod_of_nonneg (by omega)) ?_
          refine zt_icmp_ne (tgt := 170) dX11_writes_135 (by decide) (by omega) (by omega) (fun c_135 => ?_) (fun c_135 => ?_)
          · refine zt_iinc_5 dX11_writes_170 (by decide) rfl ?_
            refine zt_goto (tgt := 46) dX11_writes_173 (by decide) ?_
            refine zt_kill_6 ?_
            exact ih (q + 1) v (by omega) (by omega) (by omega) hv (by rw [hr, zFor_s (by omega)]; congr 1; unfold hHs zhs; rw [hk2.2.2.2.1, hk2.2.2.2.2.1, if_neg (by omega)])
          · refine zt_iload dX11_writes_138 rfl ?_
            refine zt_aload_n dX11_writes_140 rfl ?_
            refine zt_getv dX11_writes_141 fl_X11_44 (zs_38 hS) (rf_38_24 hR) ?_
            refine zt_iload dX11_writes_144 rfl ?_
            refine zt_iaload dX11_writes_146 (zs_50 hS) (by decide) (by omega) (by omega) ?_
            refine zt_bipush dX11_writes_147 (by decide) ?_
            refine zt_irem dX11_writes_149 (hm.int (zs_50 hS) (by omega) (by omega)) (by decide) (by decide) ?_
            refine zt_topv (v := h 50 q % 10) (Int.tmod_eq_emod_of_nonneg (by omega)) ?_
            refine zt_aload_n dX11_writes_150 rfl ?_
            refine zt_getv dX11_writes_151 fl_X11_44 (zs_38 hS) (rf_38_24 hR) ?_
            refine zt_iload dX11_writes_154 rfl ?_
            refine zt_iaload dX11_writes_156 (zs_50 hS) (by decide) (by omega) (by omega) ?_
            refine zt_bipush dX11_writes_157 (by decide) ?_
            refine zt_idiv dX11_writes_159 (hm.int (zs_50 hS) (by omega) (by omega)) (by decide) (by decide) ?_
            refine zt_topv (v := h 50 q / 10) (Int.tdiv_eq_ediv_of_nonneg (by omega)) ?_
            refine zt_bipush dX11_writes_160 (by decide) ?_
            refine zt_irem dX11_writes_162 (by omega) (by decide) (by decide) ?_
            refine zt_topv (v := h 50 q / 10 % 10) (Int.tmod_eq_emod_of_nonneg (by omega)) ?_
            refine zt_isub dX11_writes_163 ?_
            refine zt_iload dX11_writes_164 rfl ?_
            refine zt_imul dX11_writes_166 ?_
            refine zt_iadd dX11_writes_167 ?_
            refine zt_istore_4 dX11_writes_168 (by decide) rfl ?_
            refine zt_iinc_5 dX11_writes_170 (by decide) rfl ?_
            refine zt_goto (tgt := 46) dX11_writes_173 (by decide) ?_
            refine zt_kill_6 ?_
            have e8 : hHs h a w q v = v + (h 50 q % 10 - h 50 q / 10 % 10) * zten (h 50 q / 100) := by unfold hHs zhs; rw [hk2.2.2.2.1, hk2.2.2.2.2.1, hk2.2.2.2.2.2, if_pos (by omega)]
            rw [← e8]
            exact ih (q + 1) _ (by omega) (by omega) (by omega) (hHs_r hV.2.2.1 (by omega) (by omega) hv) (by rw [hr, zFor_s (by omega)])
        · refine zt_goto (tgt := 170) dX11_writes_77 (by decide) ?_
          refine zt_iinc_5 dX11_writes_170 (by decide) rfl ?_
          refine zt_goto (tgt := 46) dX11_writes_173 (by decide) ?_
          exact ih (q + 1) v (by omega) (by omega) (by omega) hv (by rw [hr, zFor_s (by omega)]; congr 1; unfold hHs zhs; rw [hk2.2.2.2.1, hk2.2.2.2.2.1, if_neg (by omega)])

set_option maxRecDepth 100000 in
set_option maxHeartbeats 4000000 in
theorem c_jwr {d n : Nat} {sh : zSh} {h : zMem} {a w e : Int} (hS : zShp sh) (hR : zRf h) (hV : vHab h) (ha : zi32 a) (hw : zi32 w) (he : 0 ≤ e ∧ e < 150) (hx : h 47 e = -2147483648 ∨ (-999999999 ≤ h 47 e ∧ h 47 e ≤ 999999999)) : zF yX11_writes cX11_writes 8 (some .int) (d + 0) 0 0 [(2, 38), (0, a), (0, w), (0, e)] n sh h (some (0, hWr h a w (h 47 e))) n sh h := by
  refine zF.ofT (by decide +kernel) [some (2, 38), some (0, a), some (0, w), some (0, e), none, none, none, none] rfl (Nat.le_of_ble_eq_true rfl) ?_
  refine zt_rg (fun hm => ?_)
  refine zt_aload_n dX11_writes_0 rfl ?_
  refine zt_getv dX11_writes_1 fl_X11_35 (zs_38 hS) (rf_38_19 hR) ?_
  refine zt_iload_n dX11_writes_4 rfl ?_
  refine zt_iaload dX11_writes_5 (zs_47 hS) (by decide) (by omega) (by omega) ?_
  refine zt_ldc_w dX11_writes_6 kc_X11_283 ?_
  refine zt_icmp_ne (tgt := 16) dX11_writes_9 (by decide) (hm.int (zs_47 hS) (by omega) (by omega)) (by decide) (fun c_9 => ?_) (fun c_9 => ?_)
  · refine zt_aload_n dX11_writes_16 rfl ?_
    refine zt_getv dX11_writes_17 fl_X11_35 (zs_38 hS) (rf_38_19 hR) ?_
    refine zt_iload_n dX11_writes_20 rfl ?_
    refine zt_iaload dX11_writes_21 (zs_47 hS) (by decide) (by omega) (by omega) ?_
    refine zt_if_ge (tgt := 35) dX11_writes_22 (by decide) (hm.int (zs_47 hS) (by omega) (by omega)) (fun c_22 => ?_) (fun c_22 => ?_)
    · refine zt_aload_n dX11_writes_35 rfl ?_
      refine zt_getv dX11_writes_36 fl_X11_35 (zs_38 hS) (rf_38_19 hR) ?_
      refine zt_iload_n dX11_writes_39 rfl ?_
      refine zt_iaload dX11_writes_40 (zs_47 hS) (by decide) (by omega) (by omega) ?_
      refine zt_istore_4 dX11_writes_41 (by decide) rfl ?_
      refine zt_iconst dX11_writes_43 ?_
      refine zt_istore_5 dX11_writes_44 (by decide) rfl ?_
      exact l_jw hS hR hm hV ha hw he rfl c_9 hV.2.2.1.2.1 25 0 (h 47 e) (by have := hV.2.2.1.2.1; omega) (by omega) hV.2.2.1.2.1.1 (by omega) (by congr 1; unfold zabs; first | rw [if_pos (by omega)] | rw [if_neg (by omega)])
    · refine zt_aload_n dX11_writes_25 rfl ?_
      refine zt_getv dX11_writes_26 fl_X11_35 (zs_38 hS) (rf_38_19 hR) ?_
      refine zt_iload_n dX11_writes_29 rfl ?_
      refine zt_iaload dX11_writes_30 (zs_47 hS) (by decide) (by omega) (by omega) ?_
      refine zt_ineg dX11_writes_31 ?_
      refine zt_goto (tgt := 41) dX11_writes_32 (by decide) ?_
      refine zt_istore_4 dX11_writes_41 (by decide) rfl ?_
      refine zt_iconst dX11_writes_43 ?_
      refine zt_istore_5 dX11_writes_44 (by decide) rfl ?_
      exact l_jw hS hR hm hV ha hw he rfl c_9 hV.2.2.1.2.1 25 0 (-(h 47 e)) (by have := hV.2.2.1.2.1; omega) (by omega) hV.2.2.1.2.1.1 (by omega) (by congr 1; unfold zabs; first | rw [if_pos (by omega)] | rw [if_neg (by omega)])
  · refine zt_ldc_w dX11_writes_12 kc_X11_283 ?_
    exact zt_iret dX11_writes_15 ⟨by congr 2; unfold hWr; rw [if_pos c_9], rfl, rfl, rfl⟩
