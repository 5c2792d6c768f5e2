def jbst (s : Int → Int) (a w b u f g : Int) : Int → Int := if s 4 ≠ -1 ∧ (s 4 < f ∨ (f = s 4 ∧ g ≤ s 5)) then s else bset s a w b u f g
theorem bset_up2 {h : zMem} {c a w b u f g : Int} : zup (zup (zup (zup (zup (zup h c 0 a) c 1 w) c 2 b) c 3 u) c 4 f) c 5 g = znew h c (bset (h c) a w b u f g) := zmem_ext (fun x y => by
  unfold zup znew bset
  by_cases hx : x = c
  · subst hx
    simp only [true_and, if_true]
    (repeat' split) <;> first | rfl | (exfalso; omega)
  · simp [hx])
def qAF (h : zMem) (t a w b u : Int) : Int := zS (fun j => zb (h 47 (30 * t + j) ≠ -2147483648 ∧ hWr h a w (h 47 (30 * t + j)) = hWr h b u (h 47 (30 * t + j)) ∧ hWr h a w (h 47 (30 * t + j)) ≠ h 47 (30 * t + j))) 0 (h 46 t)
def qBT (h : zMem) (t a w b u : Int) : Int := zS (fun j => zb (h 47 (30 * t + j) ≠ -2147483648 ∧ hWr h a w (h 47 (30 * t + j)) = hWr h b u (h 47 (30 * t + j)) ∧ hWr h a w (h 47 (30 * t + j)) = h 47 (30 * t + j))) 0 (h 46 t)
theorem qAF_new {h : zMem} {t a w b u : Int} {g : Int → Int} : qAF (znew h 74 g) t a w b u = qAF h t a w b u := by
  unfold qAF; simp only [hWr_new (h := h) (c := 74) (g := g) (by decide), znew_ne (h := h) (a := 74) (g := g) (x := 46) (by decide), znew_ne (h := h) (a := 74) (g := g) (x := 47) (by decide)]
theorem qBT_new {h : zMem} {t a w b u : Int} {g : Int → Int} : qBT (znew h 74 g) t a w b u = qBT h t a w b u := by
  unfold qBT; simp only [hWr_new (h := h) (c := 74) (g := g) (by decide), znew_ne (h := h) (a := 74) (g := g) (x := 46) (by decide), znew_ne (h := h) (a := 74) (g := g) (x := 47) (by decide)]
theorem qst_new {h : zMem} {t a w b u : Int} {s : Int → Int} : znew (znew h 74 s) 74 (jbst (znew h 74 s 74) a w b u (qAF (znew h 74 s) t a w b u) (qBT (znew h 74 s) t a w b u)) = znew h 74 (jbst s a w b u (qAF h t a w b u) (qBT h t a w b u)) := by
  rw [qAF_new, qBT_new, znew_at, znew_new]
theorem vHab_74 {h : zMem} {g : Int → Int} (hV : vHab h) : vHab (znew h 74 g) := hV
theorem vTok_74 {h : zMem} {g : Int → Int} (hV : vTok h) : vTok (znew h 74 g) := hV

set_option maxRecDepth 100000 in
set_option maxHeartbeats 4000000 in
theorem l_jpr {d n : Nat} {sh : zSh} {h : zMem} {t a w b u : Int} (hS : zShp sh) (hR : zRf h) (hV : vHab h) (hTk : vTok h) (ht : 0 ≤ t ∧ t < 5) (hE : 4 ≤ h 46 t ∧ h 46 t ≤ 30) (ha : 0 ≤ a ∧ a < 8) (hw : 0 ≤ w ∧ w < 3) (hb : 0 ≤ b ∧ b < 8) (hu : 0 ≤ u ∧ u < 3) (hm : zMok sh h)  : ∀ (k : Nat) (i : Int) (f : Int) (g : Int), h 46 t - i < (k : Int) → 0 ≤ i → i ≤ h 46 t → (0 ≤ f ∧ f ≤ i) ∧ (0 ≤ g ∧ g ≤ i) → qAF h t a w b u = f + zS (fun j => zb (h 47 (30 * t + j) ≠ -2147483648 ∧ hWr h a w (h 47 (30 * t + j)) = hWr h b u (h 47 (30 * t + j)) ∧ hWr h a w (h 47 (30 * t + j)) ≠ h 47 (30 * t + j))) i (h 46 t) → qBT h t a w b u = g + zS (fun j => zb (h 47 (30 * t + j) ≠ -2147483648 ∧ hWr h a w (h 47 (30 * t + j)) = hWr h b u (h 47 (30 * t + j)) ∧ hWr h a w (h 47 (30 * t + j)) = h 47 (30 * t + j))) i (h 46 t) → zT yX11_pairs cX11_pairs 12 none (d + 1) 0 0 (zq none n sh (znew h 74 (jbst (h 74) a w b u (qAF h t a w b u) (qBT h t a w b u)))) 9 [some (2, 38), some (0, t), some (0, a), some (0, w), some (0, b), some (0, u), some (0, f), some (0, g), some (0, i), none, none, none] [] n sh h := by
  intro k
  induction k with
  | zero => intros; exfalso; omega
  | succ k ih =>
    intro i f g hk h0 h1 hfg h2 h3
    refine zt_iload dX11_pairs_9 rfl ?_
    refine zt_aload_n dX11_pairs_11 rfl ?_
    refine zt_getv dX11_pairs_12 fl_X11_32 (zs_38 hS) (rf_38_18 hR) ?_
    refine zt_iload_n dX11_pairs_15 rfl ?_
    refine zt_iaload dX11_pairs_16 (zs_46 hS) (by decide) (by omega) (by omega) ?_
    refine zt_icmp_ge (tgt := 135) dX11_pairs_17 (by decide) (by omega) (hm.int (zs_46 hS) (by omega) (by omega)) (fun c_17 => ?_) (fun c_17 => ?_)
    · rw [zS_e (by omega)] at h2 h3
      have e1 : f = qAF h t a w b u := by omega
      have e2 : g = qBT h t a w b u := by omega
      refine zt_aload_n dX11_pairs_135 rfl ?_
      refine zt_getv dX11_pairs_136 fl_X11_122 (zs_38 hS) (rf_38_55 hR) ?_
      refine zt_iconst dX11_pairs_139 ?_
      refine zt_iaload dX11_pairs_140 (zs_74 hS) (by decide) (by decide) (by decide) ?_
      refine zt_iconst dX11_pairs_141 ?_
      refine zt_icmp_eq (tgt := 179) dX11_pairs_142 (by decide) (hm.int (zs_74 hS) (by decide) (by decide)) (by decide) (fun c_142 => ?_) (fun c_142 => ?_)
      · refine zt_aload_n dX11_pairs_179 rfl ?_
        refine zt_getv dX11_pairs_180 fl_X11_122 (zs_38 hS) (rf_38_55 hR) ?_
        refine zt_iconst dX11_pairs_183 ?_
        refine zt_iload_n dX11_pairs_184 rfl ?_
        refine zt_iastore dX11_pairs_185 (zs_74 hS) (by decide) (by decide) (by decide) (by omega) ?_
        refine zt_aload_n dX11_pairs_186 rfl ?_
        refine zt_getv dX11_pairs_187 fl_X11_122 (zs_38 hS) (rf_38_55 (hR.upA (by decide))) ?_
        refine zt_iconst dX11_pairs_190 ?_
        refine zt_iload_n dX11_pairs_191 rfl ?_
        refine zt_iastore dX11_pairs_192 (zs_74 hS) (by decide) (by decide) (by decide) (by omega) ?_
        refine zt_aload_n dX11_pairs_193 rfl ?_
        refine zt_getv dX11_pairs_194 fl_X11_122 (zs_38 hS) (rf_38_55 ((hR.upA (by decide)).upA (by decide))) ?_
        refine zt_iconst dX11_pairs_197 ?_
        refine zt_iload dX11_pairs_198 rfl ?_
        refine zt_iastore dX11_pairs_200 (zs_74 hS) (by decide) (by decide) (by decide) (by omega) ?_
        refine zt_aload_n dX11_pairs_201 rfl ?_
        refine zt_getv dX11_pairs_202 fl_X11_122 (zs_38 hS) (rf_38_55 (((hR.upA (by decide)).upA (by decide)).upA (by decide))) ?_
        refine zt_iconst dX11_pairs_205 ?_
        refine zt_iload dX11_pairs_206 rfl ?_
        refine zt_iastore dX11_pairs_208 (zs_74 hS) (by decide) (by decide) (by decide) (by omega) ?_
        refine zt_aload_n dX11_pairs_209 rfl ?_
        refine zt_getv dX11_pairs_210 fl_X11_122 (zs_38 hS) (rf_38_55 ((((hR.upA (by decide)).upA (by decide)).upA (by decide)).upA (by decide))) ?_
        refine zt_iconst dX11_pairs_213 ?_
        refine zt_iload dX11_pairs_214 rfl ?_
        refine zt_iastore dX11_pairs_216 (zs_74 hS) (by decide) (by decide) (by decide) (by omega) ?_
        refine zt_aload_n dX11_pairs_217 rfl ?_
        refine zt_getv dX11_pairs_218 fl_X11_122 (zs_38 hS) (rf_38_55 (((((hR.upA (by decide)).upA (by decide)).upA (by decide)).upA (by decide)).upA (by decide))) ?_
        refine zt_iconst dX11_pairs_221 ?_
        refine zt_iload dX11_pairs_222 rfl ?_
        refine zt_iastore dX11_pairs_224 (zs_74 hS) (by decide) (by decide) (by decide) (by omega) ?_
        exact zt_vret dX11_pairs_225 ⟨rfl, rfl, rfl, by rw [bset_up2]; unfold jbst; rw [if_neg (by omega), ← e1, ← e2]⟩
      · refine zt_iload dX11_pairs_145 rfl ?_
        refine zt_aload_n dX11_pairs_147 rfl ?_
        refine zt_getv dX11_pairs_148 fl_X11_122 (zs_38 hS) (rf_38_55 hR) ?_
        refine zt_iconst dX11_pairs_151 ?_
        refine zt_iaload dX11_pairs_152 (zs_74 hS) (by decide) (by decide) (by decide) ?_
        refine zt_icmp_gt (tgt := 178) dX11_pairs_153 (by decide) (by omega) (hm.int (zs_74 hS) (by decide) (by decide)) (fun c_153 => ?_) (fun c_153 => ?_)
        · exact zt_vret dX11_pairs_178 ⟨rfl, rfl, rfl, by unfold jbst; rw [if_pos (by omega), znew_self]⟩
        · refine zt_iload dX11_pairs_156 rfl ?_
          refine zt_aload_n dX11_pairs_158 rfl ?_
          refine zt_getv dX11_pairs_159 fl_X11_122 (zs_38 hS) (rf_38_55 hR) ?_
          refine zt_iconst dX11_pairs_162 ?_
          refine zt_iaload dX11_pairs_163 (zs_74 hS) (by decide) (by decide) (by decide) ?_
          refine zt_icmp_ne (tgt := 179) dX11_pairs_164 (by decide) (by omega) (hm.int (zs_74 hS) (by decide) (by decide)) (fun c_164 => ?_) (fun c_164 => ?_)
          · refine zt_aload_n dX11_pairs_179 rfl ?_
            refine zt_getv dX11_pairs_180 fl_X11_122 (zs_38 hS) (rf_38_55 hR) ?_
            refine zt_iconst dX11_pairs_183 ?_
            refine zt_iload_n dX11_pairs_184 rfl ?_
            refine zt_iastore dX11_pairs_185 (zs_74 hS) (by decide) (by decide) (by decide) (by omega) ?_
            refine zt_aload_n dX11_pairs_186 rfl ?_
            refine zt_getv dX11_pairs_187 fl_X11_122 (zs_38 hS) (rf_38_55 (hR.upA (by decide))) ?_
            refine zt_iconst dX11_pairs_190 ?_
            refine zt_iload_n dX11_pairs_191 rfl ?_
            refine zt_iastore dX11_pairs_192 (zs_74 hS) (by decide) (by decide) (by decide) (by omega) ?_
            refine zt_aload_n dX11_pairs_193 rfl ?_
            refine zt_getv dX11_pairs_194 fl_X11_122 (zs_38 hS) (rf_38_55 ((hR.upA (by decide)).upA (by decide))) ?_
            refine zt_iconst dX11_pairs_197 ?_
            refine zt_iload dX11_pairs_198 rfl ?_
            refine zt_iastore dX11_pairs_200 (zs_74 hS) (by decide) (by decide) (by decide) (by omega) ?_
            refine zt_aload_n dX11_pairs_201 rfl ?_
            refine zt_getv dX11_pairs_202 fl_X11_122 (zs_38 hS) (rf_38_55 (((hR.upA (by decide)).upA (by decide)).upA (by decide))) ?_
            refine zt_iconst dX11_pairs_205 ?_
            refine zt_iload dX11_pairs_206 rfl ?_
            refine zt_iastore dX11_pairs_208 (zs_74 hS) (by decide) (by decide) (by decide) (by omega) ?_
            refine zt_aload_n dX11_pairs_209 rfl ?_
            refine zt_getv dX11_pairs_210 fl_X11_122 (zs_38 hS) (rf_38_55 ((((hR.upA (by decide)).upA (by decide)).upA (by decide)).upA (by decide))) ?_
            refine zt_iconst dX11_pairs_213 ?_
            refine zt_iload dX11_pairs_214 rfl ?_
            refine zt_iastore dX11_pairs_216 (zs_74 hS) (by decide) (by decide) (by decide) (by omega) ?_
            refine zt_aload_n dX11_pairs_217 rfl ?_
            refine zt_getv dX11_pairs_218 fl_X11_122 (zs_38 hS) (rf_38_55 (((((hR.upA (by decide)).upA (by decide)).upA (by decide)).upA (by decide)).upA (by decide))) ?_
            refine zt_iconst dX11_pairs_221 ?_
            refine zt_iload dX11_pairs_222 rfl ?_
            refine zt_iastore dX11_pairs_224 (zs_74 hS) (by decide) (by decide) (by decide) (by omega) ?_
            exact zt_vret dX11_pairs_225 ⟨rfl, rfl, rfl, by rw [bset_up2]; unfold jbst; rw [if_neg (by omega), ← e1, ← e2]⟩
          · refine zt_iload dX11_pairs_167 rfl ?_
            refine zt_aload_n dX11_pairs_169 rfl ?_
            refine zt_getv dX11_pairs_170 fl_X11_122 (zs_38 hS) (rf_38_55 hR) ?_
            refine zt_iconst dX11_pairs_173 ?_
            refine zt_iaload dX11_pairs_174 (zs_74 hS) (by decide) (by decide) (by decide) ?_
            refine zt_icmp_gt (tgt := 179) dX11_pairs_175 (by decide) (by omega) (hm.int (zs_74 hS) (by decide) (by decide)) (fun c_175 => ?_) (fun c_175 => ?_)
            · refine zt_aload_n dX11_pairs_179 rfl ?_
              refine zt_getv dX11_pairs_180 fl_X11_122 (zs_38 hS) (rf_38_55 hR) ?_
              refine zt_iconst dX11_pairs_183 ?_
              refine zt_iload_n dX11_pairs_184 rfl ?_
              refine zt_iastore dX11_pairs_185 (zs_74 hS) (by decide) (by decide) (by decide) (by omega) ?_
              refine zt_aload_n dX11_pairs_186 rfl ?_
              refine zt_getv dX11_pairs_187 fl_X11_122 (zs_38 hS) (rf_38_55 (hR.upA (by decide))) ?_
              refine zt_iconst dX11_pairs_190 ?_
              refine zt_iload_n dX11_pairs_191 rfl ?_
              refine zt_iastore dX11_pairs_192 (zs_74 hS) (by decide) (by decide) (by decide) (by omega) ?_
              refine zt_aload_n dX11_pairs_193 rfl ?_
              refine zt_getv dX11_pairs_194 fl_X11_122 (zs_38 hS) (rf_38_55 ((hR.upA (by decide)).upA (by decide))) ?_
              refine zt_iconst dX11_pairs_197 ?_
              refine zt_iload dX11_pairs_198 rfl ?_
              refine zt_iastore dX11_pairs_200 (zs_74 hS) (by decide) (by decide) (by decide) (by omega) ?_
              refine zt_aload_n dX11_pairs_201 rfl ?_
              refine zt_getv dX11_pairs_202 fl_X11_122 (zs_38 hS) (rf_38_55 (((hR.upA (by decide)).upA (by decide)).upA (by decide))) ?_
              refine zt_iconst dX11_pairs_205 ?_
              refine zt_iload dX11_pairs_206 rfl ?_
              refine zt_iastore dX11_pairs_208 (zs_74 hS) (by decide) (by decide) (by decide) (by omega) ?_
              refine zt_aload_n dX11_pairs_209 rfl ?_
              refine zt_getv dX11_pairs_210 fl_X11_122 (zs_38 hS) (rf_38_55 ((((hR.upA (by decide)).upA (by decide)).upA (by decide)).upA (by decide))) ?_
              refine zt_iconst dX11_pairs_213 ?_
              refine zt_iload dX11_pairs_214 rfl ?_
              refine zt_iastore dX11_pairs_216 (zs_74 hS) (by decide) (by decide) (by decide) (by omega) ?_
              refine zt_aload_n dX11_pairs_217 rfl ?_
              refine zt_getv dX11_pairs_218 fl_X11_122 (zs_38 hS) (rf_38_55 (((((hR.upA (by decide)).upA (by decide)).upA (by decide)).upA (by decide)).upA (by decide))) ?_
              refine zt_iconst dX11_pairs_221 ?_
              refine zt_iload dX11_pairs_222 rfl ?_
              refine zt_iastore dX11_pairs_224 (zs_74 hS) (by decide) (by decide) (by decide) (by omega) ?_
              exact zt_vret dX11_pairs_225 ⟨rfl, rfl, rfl, by rw [bset_up2]; unfold jbst; rw [if_neg (by omega), ← e1, ← e2]⟩
            · exact zt_vret dX11_pairs_178 ⟨rfl, rfl, rfl, by unfold jbst; rw [if_pos (by omega), znew_self]⟩
    · refine zt_iload_n dX11_pairs_20 rfl ?_
      refine zt_iload dX11_pairs_21 rfl ?_
      refine zt_callS2r dX11_pairs_23 ml_X11_316 (Nat.le_of_ble_eq_true rfl) (c_place) ?_
      refine zt_istore_9 dX11_pairs_26 (by decide) rfl ?_
      refine zt_aload_n dX11_pairs_28 rfl ?_
      refine zt_getv dX11_pairs_29 fl_X11_35 (zs_38 hS) (rf_38_19 hR) ?_
      refine zt_iload dX11_pairs_32 rfl ?_
      refine zt_iaload dX11_pairs_34 (zs_47 hS) (by decide) (by omega) (by omega) ?_
      refine zt_ldc_w dX11_pairs_35 kc_X11_283 ?_
      refine zt_icmp_ne (tgt := 44) dX11_pairs_38 (by decide) (hm.int (zs_47 hS) (by omega) (by omega)) (by decide) (fun c_38 => ?_) (fun c_38 => ?_)
      · refine zt_aload_n dX11_pairs_44 rfl ?_
        refine zt_iload_n dX11_pairs_45 rfl ?_
        refine zt_iload_n dX11_pairs_46 rfl ?_
        refine zt_iload dX11_pairs_47 rfl ?_
        refine zt_callV3r dX11_pairs_49 ml_X11_328 (zs_38 hS) (Nat.le_of_ble_eq_true rfl) (c_jwr hS hR hV (by omega) (by omega) (by omega) (hTk _ (by omega) (by omega))) ?_
        refine zt_istore_10 dX11_pairs_52 (by decide) rfl ?_
        refine zt_aload_n dX11_pairs_54 rfl ?_
        refine zt_iload dX11_pairs_55 rfl ?_
        refine zt_iload dX11_pairs_57 rfl ?_
        refine zt_iload dX11_pairs_59 rfl ?_
        refine zt_callV3r dX11_pairs_61 ml_X11_328 (zs_38 hS) (Nat.le_of_ble_eq_true rfl) (c_jwr hS hR hV (by omega) (by omega) (by omega) (hTk _ (by omega) (by omega))) ?_
        refine zt_istore_11 dX11_pairs_64 (by decide) rfl ?_
        refine zt_iload dX11_pairs_66 rfl ?_
        refine zt_iload dX11_pairs_68 rfl ?_
        refine zt_iload dX11_pairs_70 rfl ?_
        refine zt_icmp_ne (tgt := 91) dX11_pairs_72 (by decide) (hWr_z hV.2.2.1 (hTk _ (by omega) (by omega))) (hWr_z hV.2.2.1 (hTk _ (by omega) (by omega))) (fun c_72 => ?_) (fun c_72 => ?_)
        · refine zt_iconst dX11_pairs_91 ?_
          refine zt_iadd dX11_pairs_92 ?_
          refine zt_istore_6 dX11_pairs_93 (by decide) rfl ?_
          refine zt_iload dX11_pairs_95 rfl ?_
          refine zt_iload dX11_pairs_97 rfl ?_
          refine zt_aload_n dX11_pairs_99 rfl ?_
          refine zt_getv dX11_pairs_100 fl_X11_35 (zs_38 hS) (rf_38_19 hR) ?_
          refine zt_iload dX11_pairs_103 rfl ?_
          refine zt_iaload dX11_pairs_105 (zs_47 hS) (by decide) (by omega) (by omega) ?_
          refine zt_icmp_ne (tgt := 125) dX11_pairs_106 (by decide) (hWr_z hV.2.2.1 (hTk _ (by omega) (by omega))) (hm.int (zs_47 hS) (by omega) (by omega)) (fun c_106 => ?_) (fun c_106 => ?_)
          · refine zt_iconst dX11_pairs_125 ?_
            refine zt_iadd dX11_pairs_126 ?_
            refine zt_istore_7 dX11_pairs_127 (by decide) rfl ?_
            refine zt_iinc_8 dX11_pairs_129 (by decide) rfl ?_
            refine zt_goto (tgt := 9) dX11_pairs_132 (by decide) ?_
            refine zt_kill_9 ?_
            refine zt_kill_10 ?_
            refine zt_kill_11 ?_
            exact ih (i + 1) (f + 0) (g + 0) (by omega) (by omega) (by omega) (by omega) (by rw [zS_s (by omega)] at h2; first | (rw [zb_t (by omega)] at h2; omega) | (rw [zb_f (by omega)] at h2; omega)) (by rw [zS_s (by omega)] at h3; first | (rw [zb_t (by omega)] at h3; omega) | (rw [zb_f (by omega)] at h3; omega))
          · refine zt_iload dX11_pairs_109 rfl ?_
            refine zt_aload_n dX11_pairs_111 rfl ?_
            refine zt_getv dX11_pairs_112 fl_X11_35 (zs_38 hS) (rf_38_19 hR) ?_
            refine zt_iload dX11_pairs_115 rfl ?_
            refine zt_iaload dX11_pairs_117 (zs_47 hS) (by decide) (by omega) (by omega) ?_
            refine zt_icmp_ne (tgt := 125) dX11_pairs_118 (by decide) (hWr_z hV.2.2.1 (hTk _ (by omega) (by omega))) (hm.int (zs_47 hS) (by omega) (by omega)) (fun c_118 => ?_) (fun c_118 => ?_)
            · refine zt_iconst dX11_pairs_125 ?_
              refine zt_iadd dX11_pairs_126 ?_
              refine zt_istore_7 dX11_pairs_127 (by decide) rfl ?_
              refine zt_iinc_8 dX11_pairs_129 (by decide) rfl ?_
              refine zt_goto (tgt := 9) dX11_pairs_132 (by decide) ?_
              refine zt_kill_9 ?_
              refine zt_kill_10 ?_
              refine zt_kill_11 ?_
              exact ih (i + 1) (f + 0) (g + 0) (by omega) (by omega) (by omega) (by omega) (by rw [zS_s (by omega)] at h2; first | (rw [zb_t (by omega)] at h2; omega) | (rw [zb_f (by omega)] at h2; omega)) (by rw [zS_s (by omega)] at h3; first | (rw [zb_t (by omega)] at h3; omega) | (rw [zb_f (by omega)] at h3; omega))
            · refine zt_iconst dX11_pairs_121 ?_
              refine zt_goto (tgt := 126) dX11_pairs_122 (by decide) ?_
              refine zt_iadd dX11_pairs_126 ?_
              refine zt_istore_7 dX11_pairs_127 (by decide) rfl ?_
              refine zt_iinc_8 dX11_pairs_129 (by decide) rfl ?_
              refine zt_goto (tgt := 9) dX11_pairs_132 (by decide) ?_
              refine zt_kill_9 ?_
              refine zt_kill_10 ?_
              refine zt_kill_11 ?_
              exact ih (i + 1) (f + 0) (g + 1) (by omega) (by omega) (by omega) (by omega) (by rw [zS_s (by omega)] at h2; first | (rw [zb_t (by omega)] at h2; omega) | (rw [zb_f (by omega)] at h2; omega)) (by rw [zS_s (by omega)] at h3; first | (rw [zb_t (by omega)] at h3; omega) | (rw [zb_f (by omega)] at h3; omega))
        · refine zt_iload dX11_pairs_75 rfl ?_
          refine zt_aload_n dX11_pairs_77 rfl ?_
          refine zt_getv dX11_pairs_78 fl_X11_35 (zs_38 hS) (rf_38_19 hR) ?_
          refine zt_iload dX11_pairs_81 rfl ?_
          refine zt_iaload dX11_pairs_83 (zs_47 hS) (by decide) (by omega) (by omega) ?_
          refine zt_icmp_eq (tgt := 91) dX11_pairs_84 (by decide) (hWr_z hV.2.2.1 (hTk _ (by omega) (by omega))) (hm.int (zs_47 hS) (by omega) (by omega)) (fun c_84 => ?_) (fun c_84 => ?_)
          · refine zt_iconst dX11_pairs_91 ?_
            refine zt_iadd dX11_pairs_92 ?_
            refine zt_istore_6 dX11_pairs_93 (by decide) rfl ?_
            refine zt_iload dX11_pairs_95 rfl ?_
            refine zt_iload dX11_pairs_97 rfl ?_
            refine zt_aload_n dX11_pairs_99 rfl ?_
            refine zt_getv dX11_pairs_100 fl_X11_35 (zs_38 hS) (rf_38_19 hR) ?_
            refine zt_iload dX11_pairs_103 rfl ?_
            refine zt_iaload dX11_pairs_105 (zs_47 hS) (by decide) (by omega) (by omega) ?_
            refine zt_icmp_ne (tgt := 125) dX11_pairs_106 (by decide) (hWr_z hV.2.2.1 (hTk _ (by omega) (by omega))) (hm.int (zs_47 hS) (by omega) (by omega)) (fun c_106 => ?_) (fun c_106 => ?_)
            · refine zt_iconst dX11_pairs_125 ?_
              refine zt_iadd dX11_pairs_126 ?_
              refine zt_istore_7 dX11_pairs_127 (by decide) rfl ?_
              refine zt_iinc_8 dX11_pairs_129 (by decide) rfl ?_
              refine zt_goto (tgt := 9) dX11_pairs_132 (by decide) ?_
              refine zt_kill_9 ?_
              refine zt_kill_10 ?_
              refine zt_kill_11 ?_
              exact ih (i + 1) (f + 0) (g + 0) (by omega) (by omega) (by omega) (by omega) (by rw [zS_s (by omega)] at h2; first | (rw [zb_t (by omega)] at h2; omega) | (rw [zb_f (by omega)] at h2; omega)) (by rw [zS_s (by omega)] at h3; first | (rw [zb_t (by omega)] at h3; omega) | (rw [zb_f (by omega)] at h3; omega))
            · refine zt_iload dX11_pairs_109 rfl ?_
              refine zt_aload_n dX11_pairs_111 rfl ?_
              refine zt_getv dX11_pairs_112 fl_X11_35 (zs_38 hS) (rf_38_19 hR) ?_
              refine zt_iload dX11_pairs_115 rfl ?_
              refine zt_iaload dX11_pairs_117 (zs_47 hS) (by decide) (by omega) (by omega) ?_
              refine zt_icmp_ne (tgt := 125) dX11_pairs_118 (by decide) (hWr_z hV.2.2.1 (hTk _ (by omega) (by omega))) (hm.int (zs_47 hS) (by omega) (by omega)) (fun c_118 => ?_) (fun c_118 => ?_)
              · refine zt_iconst dX11_pairs_125 ?_
                refine zt_iadd dX11_pairs_126 ?_
                refine zt_istore_7 dX11_pairs_127 (by decide) rfl ?_
                refine zt_iinc_8 dX11_pairs_129 (by decide) rfl ?_
                refine zt_goto (tgt := 9) dX11_pairs_132 (by decide) ?_
                refine zt_kill_9 ?_
                refine zt_kill_10 ?_
                refine zt_kill_11 ?_
                exact ih (i + 1) (f + 0) (g + 0) (by omega) (by omega) (by omega) (by omega) (by rw [zS_s (by omega)] at h2; first | (rw [zb_t (by omega)] at h2; omega) | (rw [zb_f (by omega)] at h2; omega)) (by rw [zS_s (by omega)] at h3; first | (rw [zb_t (by omega)] at h3; omega) | (rw [zb_f (by omega)] at h3; omega))
              · refine zt_iconst dX11_pairs_121 ?_
                refine zt_goto (tgt := 126) dX11_pairs_122 (by decide) ?_
                refine zt_iadd dX11_pairs_126 ?_
                refine zt_istore_7 dX11_pairs_127 (by decide) rfl ?_
                refine zt_iinc_8 dX11_pairs_129 (by decide) rfl ?_
                refine zt_goto (tgt := 9) dX11_pairs_132 (by decide) ?_
                refine zt_kill_9 ?_
                refine zt_kill_10 ?_
                refine zt_kill_11 ?_
                exact ih (i + 1) (f + 0) (g + 1) (by omega) (by omega) (by omega) (by omega) (by rw [zS_s (by omega)] at h2; first | (rw [zb_t (by omega)] at h2; omega) | (rw [zb_f (by omega)] at h2; omega)) (by rw [zS_s (by omega)] at h3; first | (rw [zb_t (by omega)] at h3; omega) | (rw [zb_f (by omega)] at h3; omega))
          · refine zt_iconst dX11_pairs_87 ?_
            refine zt_goto (tgt := 92) dX11_pairs_88 (by decide) ?_
            refine zt_iadd dX11_pairs_92 ?_
            refine zt_istore_6 dX11_pairs_93 (by decide) rfl ?_
            refine zt_iload dX11_pairs_95 rfl ?_
            refine zt_iload dX11_pairs_97 rfl ?_
            refine zt_aload_n dX11_pairs_99 rfl ?_
            refine zt_getv dX11_pairs_100 fl_X11_35 (zs_38 hS) (rf_38_19 hR) ?_
            refine zt_iload dX11_pairs_103 rfl ?_
            refine zt_iaload dX11_pairs_105 (zs_47 hS) (by decide) (by omega) (by omega) ?_
            refine zt_icmp_ne (tgt := 125) dX11_pairs_106 (by decide) (hWr_z hV.2.2.1 (hTk _ (by omega) (by omega))) (hm.int (zs_47 hS) (by omega) (by omega)) (fun c_106 => ?_) (fun c_106 => ?_)
            · refine zt_iconst dX11_pairs_125 ?_
              refine zt_iadd dX11_pairs_126 ?_
              refine zt_istore_7 dX11_pairs_127 (by decide) rfl ?_
              refine zt_iinc_8 dX11_pairs_129 (by decide) rfl ?_
              refine zt_goto (tgt := 9) dX11_pairs_132 (by decide) ?_
              refine zt_kill_9 ?_
              refine zt_kill_10 ?_
              refine zt_kill_11 ?_
              exact ih (i + 1) (f + 1) (g + 0) (by omega) (by omega) (by omega) (by omega) (by rw [zS_s (by omega)] at h2; first | (rw [zb_t (by omega)] at h2; omega) | (rw [zb_f (by omega)] at h2; omega)) (by rw [zS_s (by omega)] at h3; first | (rw [zb_t (by omega)] at h3; omega) | (rw [zb_f (by omega)] at h3; omega))
            · refine zt_iload dX11_pairs_109 rfl ?_
              refine zt_aload_n dX11_pairs_111 rfl ?_
              refine zt_getv dX11_pairs_112 fl_X11_35 (zs_38 hS) (rf_38_19 hR) ?_
              refine zt_iload dX11_pairs_115 rfl ?_
              refine zt_iaload dX11_pairs_117 (zs_47 hS) (by decide) (by omega) (by omega) ?_
              refine zt_icmp_ne (tgt := 125) dX11_pairs_118 (by decide) (hWr_z hV.2.2.1 (hTk _ (by omega) (by omega))) (hm.int (zs_47 hS) (by omega) (by omega)) (fun c_118 => ?_) (fun c_118 => ?_)
              · refine zt_iconst dX11_pairs_125 ?_
                refine zt_iadd dX11_pairs_126 ?_
                refine zt_istore_7 dX11_pairs_127 (by decide) rfl ?_
                refine zt_iinc_8 dX11_pairs_129 (by decide) rfl ?_
                refine zt_goto (tgt := 9) dX11_pairs_132 (by decide) ?_
                refine zt_kill_9 ?_
                refine zt_kill_10 ?_
                refine zt_kill_11 ?_
                exact ih (i + 1) (f + 1) (g + 0) (by omega) (by omega) (by omega) (by omega) (by rw [zS_s (by omega)] at h2; first | (rw [zb_t (by omega)] at h2; omega) | (rw [zb_f (by omega)] at h2; omega)) (by rw [zS_s (by omega)] at h3; first | (rw [zb_t (by omega)] at h3; omega) | (rw [zb_f (by omega)] at h3; omega))
              · refine zt_iconst dX11_pairs_121 ?_
                refine zt_goto (tgt := 126) dX11_pairs_122 (by decide) ?_
                refine zt_iadd dX11_pairs_126 ?_
                refine zt_istore_7 dX11_pairs_127 (by decide) rfl ?_
                refine zt_iinc_8 dX11_pairs_129 (by decide) rfl ?_
                refine zt_goto (tgt := 9) dX11_pairs_132 (by decide) ?_
                refine zt_kill_9 ?_
                refine zt_kill_10 ?_
                refine zt_kill_11 ?_
                exact ih (i + 1) (f + 1) (g + 1) (by omega) (by omega) (by omega) (by omega) (by rw [zS_s (by omega)] at h2; first | (rw [zb_t (by omega)] at h2; omega) | (rw [zb_f (by omega)] at h2; omega)) (by rw [zS_s (by omega)] at h3; first | (rw [zb_t (by omega)] at h3; omega) | (rw [zb_f (by omega)] at h3; omega))
      · refine zt_goto (tgt := 129) dX11_pairs_41 (by decide) ?_
        refine zt_iinc_8 dX11_pairs_129 (by decide) rfl ?_
        refine zt_goto (tgt := 9) dX11_pairs_132 (by decide) ?_
        refine zt_kill_9 ?_
        exact ih (i + 1) f g (by omega) (by omega) (by omega) (by omega) (by rw [zS_s (by omega)] at h2; first | (rw [zb_t (by omega)] at h2; omega) | (rw [zb_f (by omega)] at h2; omega)) (by rw [zS_s (by omega)] at h3; first | (rw [zb_t (by omega)] at h3; omega) | (rw [zb_f (by omega)] at h3; omega))

set_option maxRecDepth 100000 in
set_option maxHeartbeats 4000000 in
theorem c_jprs {d n : Nat} {sh : zSh} {h : zMem} {t a w b u : Int} (hS : zShp sh) (hR : zRf h) (hV : vHab h) (hTk : vTok h) (ht : 0 ≤ t ∧ t < 5) (hE : 4 ≤ h 46 t ∧ h 46 t ≤ 30) (ha : 0 ≤ a ∧ a < 8) (hw : 0 ≤ w ∧ w < 3) (hb : 0 ≤ b ∧ b < 8) (hu : 0 ≤ u ∧ u < 3)  : zF yX11_pairs cX11_pairs 12 none (d + 1) 0 0 [(2, 38), (0, t), (0, a), (0, w), (0, b), (0, u)] n sh h none n sh (znew h 74 (jbst (h 74) a w b u (qAF h t a w b u) (qBT h t a w b u))) := by
  refine zF.ofT (by decide +kernel) [some (2, 38), some (0, t), some (0, a), some (0, w), some (0, b), some (0, u), none, none, none, none, none, none] rfl (Nat.le_of_ble_eq_true rfl) ?_
  refine zt_rg (fun hm => ?_)
  refine zt_iconst dX11_pairs_0 ?_
  refine zt_istore_6 dX11_pairs_1 (by decide) rfl ?_
  refine zt_iconst dX11_pairs_3 ?_
  refine zt_istore_7 dX11_pairs_4 (by decide) rfl ?_
  refine zt_iconst dX11_pairs_6 ?_
  refine zt_istore_8 dX11_pairs_7 (by decide) rfl ?_
  exact l_jpr hS hR hV hTk ht hE ha hw hb hu hm 31 0 0 0 (by omega) (by omega) (by omega) (by omega) (by rw [Int.zero_add]; rfl) (by rw [Int.zero_add]; rfl)

def qU (h : zMem) (t a w b u : Int) (s : Int → Int) : Int → Int := if w = u then s else jbst s a w b u (qAF h t a w b u) (qBT h t a w b u)
def qB (h : zMem) (t a w b : Int) (s : Int → Int) : Int → Int := zFor (qU h t a w b) 0 3 s
def qW (h : zMem) (t a w : Int) (s : Int → Int) : Int → Int := zFor (qB h t a w) (a + 1) (h 38 20) s
def qA (h : zMem) (t a : Int) (s : Int → Int) : Int → Int := zFor (qW h t a) 0 3 s
def qAll (h : zMem) (t : Int) (s : Int → Int) : Int → Int := zFor (qA h t) 0 (h 38 20) s

set_option maxRecDepth 100000 in
set_option maxHeartbeats 4000000 in
theorem l_jp1 {d n : Nat} {sh : zSh} {h : zMem} {t p a w b : Int} {Q : Option zV → Nat → zSh → zMem → Prop} {R : Int → Int} (hS : zShp sh) (hR : zRf h) (hV : vHab h) (hTk : vTok h) (ht : 0 ≤ t ∧ t < 5) (hE : 4 ≤ h 46 t ∧ h 46 t ≤ 30) (hH : 0 ≤ h 38 20 ∧ h 38 20 ≤ 8) (ha : 0 ≤ a ∧ a < 8) (hw : 0 ≤ w ∧ w < 3) (hb : 0 ≤ b ∧ b < 8) (hK : zT yX11_pair cX11_pair 7 (some .int) (d + 2) 0 0 Q 104 [some (2, 38), some (0, t), some (0, p), some (0, a), some (0, w), some (0, b), none] [] n sh (znew h 74 R))  : ∀ (k : Nat) (u : Int) (s : Int → Int), 3 - u < (k : Int) → 0 ≤ u → u ≤ 3 → R = zFor (qU h t a w b) u 3 s → zT yX11_pair cX11_pair 7 (some .int) (d + 2) 0 0 Q 73 [some (2, 38), some (0, t), some (0, p), some (0, a), some (0, w), some (0, b), some (0, u)] [] n sh (znew h 74 s) := by
  intro k
  induction k with
  | zero => intros; exfalso; omega
  | succ k ih =>
    intro u s hk h0 h1 hr
    refine zt_iload dX11_pair_73 rfl ?_
    refine zt_iconst dX11_pair_75 ?_
    refine zt_icmp_ge (tgt := 104) dX11_pair_76 (by decide) (by omega) (by decide) (fun c_76 => ?_) (fun c_76 => ?_)
    · refine zt_kill_6 ?_
      rw [zFor_e (by omega)] at hr
      rw [← hr]
      exact hK
    · refine zt_iload dX11_pair_79 rfl ?_
      refine zt_iload dX11_pair_81 rfl ?_
      refine zt_icmp_eq (tgt := 98) dX11_pair_83 (by decide) (by omega) (by omega) (fun c_83 => ?_) (fun c_83 => ?_)
      · refine zt_iinc_6 dX11_pair_98 (by decide) rfl ?_
        refine zt_goto (tgt := 73) dX11_pair_101 (by decide) ?_
        exact ih (u + 1) s (by omega) (by omega) (by omega) (by rw [hr, zFor_s (by omega)]; congr 1; unfold qU; rw [if_pos (by omega)])
      · refine zt_aload_n dX11_pair_86 rfl ?_
        refine zt_iload_n dX11_pair_87 rfl ?_
        refine zt_iload_n dX11_pair_88 rfl ?_
        refine zt_iload dX11_pair_89 rfl ?_
        refine zt_iload dX11_pair_91 rfl ?_
        refine zt_iload dX11_pair_93 rfl ?_
        refine zt_callV5v dX11_pair_95 ml_X11_335 (zs_38 hS) (Nat.le_of_ble_eq_true rfl) (zF.of_eq rfl rfl rfl qst_new (c_jprs (h := znew h 74 s) hS (hR.new (by decide)) (vHab_74 hV) (vTok_74 hTk) ht (by rw [znew_ne (by decide)]; exact hE) (by omega) (by omega) (by omega) (by omega))) ?_
        refine zt_iinc_6 dX11_pair_98 (by decide) rfl ?_
        refine zt_goto (tgt := 73) dX11_pair_101 (by decide) ?_
        exact ih (u + 1) _ (by omega) (by omega) (by omega) (by rw [hr, zFor_s (by omega)]; congr 1; unfold qU; rw [if_neg (by omega)])

set_option maxRecDepth 100000 in
set_option maxHeartbeats 4000000 in
theorem l_jp2 {d n : Nat} {sh : zSh} {h : zMem} {t p a w : Int} {Q : Option zV → Nat → zSh → zMem → Prop} {R : Int → Int} (hS : zShp sh) (hR : zRf h) (hV : vHab h) (hTk : vTok h) (ht : 0 ≤ t ∧ t < 5) (hE : 4 ≤ h 46 t ∧ h 46 t ≤ 30) (hH : 0 ≤ h 38 20 ∧ h 38 20 ≤ 8) (ha : 0 ≤ a ∧ a < 8) (hw : 0 ≤ w ∧ w < 3) (hK : zT yX11_pair cX11_pair 7 (some .int) (d + 2) 0 0 Q 110 [some (2, 38), some (0, t), some (0, p), some (0, a), some (0, w), none, none] [] n sh (znew h 74 R))  : ∀ (k : Nat) (b : Int) (s : Int → Int), 9 - b < (k : Int) → 0 ≤ b → b ≤ 9 → R = zFor (qB h t a w) b (h 38 20) s → zT yX11_pair cX11_pair 7 (some .int) (d + 2) 0 0 Q 61 [some (2, 38), some (0, t), some (0, p), some (0, a), some (0, w), some (0, b), none] [] n sh (znew h 74 s) := by
  intro k
  induction k with
  | zero => intros; exfalso; omega
  | succ k ih =>
    intro b s hk h0 h1 hr
    refine zt_iload dX11_pair_61 rfl ?_
    refine zt_aload_n dX11_pair_63 rfl ?_
    refine zt_getv (v := h 38 20) dX11_pair_64 fl_X11_319 (zs_38 hS) (congrFun (znew_ne (by decide)) _) ?_
    refine zt_icmp_ge (tgt := 110) dX11_pair_67 (by decide) (by omega) (by omega) (fun c_67 => ?_) (fun c_67 => ?_)
    · refine zt_kill_5 ?_
      rw [zFor_e (by omega)] at hr
      rw [← hr]
      exact hK
    · refine zt_iconst dX11_pair_70 ?_
      refine zt_istore_6 dX11_pair_71 (by decide) rfl ?_
      refine l_jp1 (R := qB h t a w b s) hS hR hV hTk ht hE hH ha hw (by omega) ?_ 4 0 s (by omega) (by omega) (by omega) rfl
      refine zt_iinc_5 dX11_pair_104 (by decide) rfl ?_
      refine zt_goto (tgt := 61) dX11_pair_107 (by decide) ?_
      exact ih (b + 1) _ (by omega) (by omega) (by omega) (by rw [hr, zFor_s (by omega)])

set_option maxRecDepth 100000 in
set_option maxHeartbeats 4000000 in
theorem l_jp3 {d n : Nat} {sh : zSh} {h : zMem} {t p a : Int} {Q : Option zV → Nat → zSh → zMem → Prop} {R : Int → Int} (hS : zShp sh) (hR : zRf h) (hV : vHab h) (hTk : vTok h) (ht : 0 ≤ t ∧ t < 5) (hE : 4 ≤ h 46 t ∧ h 46 t ≤ 30) (hH : 0 ≤ h 38 20 ∧ h 38 20 ≤ 8) (ha : 0 ≤ a ∧ a < 8) (hK : zT yX11_pair cX11_pair 7 (some .int) (d + 2) 0 0 Q 116 [some (2, 38), some (0, t), some (0, p), some (0, a), none, none, none] [] n sh (znew h 74 R))  : ∀ (k : Nat) (w : Int) (s : Int → Int), 3 - w < (k : Int) → 0 ≤ w → w ≤ 3 → R = zFor (qW h t a) w 3 s → zT yX11_pair cX11_pair 7 (some .int) (d + 2) 0 0 Q 50 [some (2, 38), some (0, t), some (0, p), some (0, a), some (0, w), none, none] [] n sh (znew h 74 s) := by
  intro k
  induction k with
  | zero => intros; exfalso; omega
  | succ k ih =>
    intro w s hk h0 h1 hr
    refine zt_iload dX11_pair_50 rfl ?_
    refine zt_iconst dX11_pair_52 ?_
    refine zt_icmp_ge (tgt := 116) dX11_pair_53 (by decide) (by omega) (by decide) (fun c_53 => ?_) (fun c_53 => ?_)
    · refine zt_kill_4 ?_
      rw [zFor_e (by omega)] at hr
      rw [← hr]
      exact hK
    · refine zt_iload_n dX11_pair_56 rfl ?_
      refine zt_iconst dX11_pair_57 ?_
      refine zt_iadd dX11_pair_58 ?_
      refine zt_istore_5 dX11_pair_59 (by decide) rfl ?_
      refine l_jp2 (R := qW h t a w s) hS hR hV hTk ht hE hH ha (by omega) ?_ 10 (a + 1) s (by omega) (by omega) (by omega) rfl
      refine zt_iinc_4 dX11_pair_110 (by decide) rfl ?_
      refine zt_goto (tgt := 50) dX11_pair_113 (by decide) ?_
      exact ih (w + 1) _ (by omega) (by omega) (by omega) (by rw [hr, zFor_s (by omega)])

set_option maxRecDepth 100000 in
set_option maxHeartbeats 4000000 in
theorem l_jp4 {d n : Nat} {sh : zSh} {h : zMem} {t p : Int} {R : Int → Int} (hS : zShp sh) (hR : zRf h) (hV : vHab h) (hTk : vTok h) (ht : 0 ≤ t ∧ t < 5) (hE : 4 ≤ h 46 t ∧ h 46 t ≤ 30) (hH : 0 ≤ h 38 20 ∧ h 38 20 ≤ 8) (hp : 0 ≤ p ∧ p ≤ 5)  : ∀ (k : Nat) (a : Int) (s : Int → Int), 8 - a < (k : Int) → 0 ≤ a → a ≤ 8 → R = zFor (qA h t) a (h 38 20) s → zT yX11_pair cX11_pair 7 (some .int) (d + 2) 0 0 (zq (some (0, R p)) n sh (znew h 74 R)) 39 [some (2, 38), some (0, t), some (0, p), some (0, a), none, none, none] [] n sh (znew h 74 s) := by
  intro k
  induction k with
  | zero => intros; exfalso; omega
  | succ k ih =>
    intro a s hk h0 h1 hr
    refine zt_iload_n dX11_pair_39 rfl ?_
    refine zt_aload_n dX11_pair_40 rfl ?_
    refine zt_getv (v := h 38 20) dX11_pair_41 fl_X11_319 (zs_38 hS) (congrFun (znew_ne (by decide)) _) ?_
    refine zt_icmp_ge (tgt := 122) dX11_pair_44 (by decide) (by omega) (by omega) (fun c_44 => ?_) (fun c_44 => ?_)
    · refine zt_aload_n dX11_pair_122 rfl ?_
      refine zt_getv dX11_pair_123 fl_X11_122 (zs_38 hS) (rf_38_55 (hR.new (by decide))) ?_
      refine zt_iload_n dX11_pair_126 rfl ?_
      refine zt_ialoadv (v := s p) dX11_pair_127 (zs_74 hS) (by decide) (by omega) (by omega) (congrFun znew_at _) ?_
      exact zt_iret dX11_pair_128 ⟨by rw [hr, zFor_e (by omega)], rfl, rfl, by rw [hr, zFor_e (by omega)]⟩
    · refine zt_iconst dX11_pair_47 ?_
      refine zt_istore_4 dX11_pair_48 (by decide) rfl ?_
      refine l_jp3 (R := qA h t a s) hS hR hV hTk ht hE hH (by omega) ?_ 4 0 s (by omega) (by omega) (by omega) rfl
      refine zt_iinc_3 dX11_pair_116 (by decide) rfl ?_
      refine zt_goto (tgt := 39) dX11_pair_119 (by decide) ?_
      exact ih (a + 1) _ (by omega) (by omega) (by omega) (by rw [hr, zFor_s (by omega)])

set_option maxRecDepth 100000 in
set_option maxHeartbeats 4000000 in
theorem c_jpair {d n : Nat} {sh : zSh} {h : zMem} {t p : Int} (hS : zShp sh) (hR : zRf h) (hB : mB h) (hV : vHab h) (hTk : vTok h) (ht : zi32 t) (hp : zi32 p) : zF yX11_pair cX11_pair 7 (some .int) (d + 2) 0 0 [(2, 38), (0, t), (0, p)] n sh h (some (0, (if (jT h t ∧ 2 ≤ h 38 20 ∧ 0 ≤ p ∧ p ≤ 5) then qAll h t (fun y => if y = 4 then -1 else h 74 y) p else -1))) n sh (if (jT h t ∧ 2 ≤ h 38 20 ∧ 0 ≤ p ∧ p ≤ 5) then znew h 74 (qAll h t (fun y => if y = 4 then -1 else h 74 y)) else h) := by
  refine zF.ofT (by decide +kernel) [some (2, 38), some (0, t), some (0, p), none, none, none, none] rfl (Nat.le_of_ble_eq_true rfl) ?_
  refine zt_rg (fun hm => ?_)
  have b1 := hB.1
  have b3 := hB.2.2.1
  have b4 := hB.2.2.2.1
  have b5 := hB.2.2.2.2.1
  have b6 := hB.2.2.2.2.2.1
  have b7 := hB.2.2.2.2.2.2.1
  have b8 := hB.2.2.2.2.2.2.2.1
  have b9 := hB.2.2.2.2.2.2.2.2.1
  have b10 := hB.2.2.2.2.2.2.2.2.2.1
  have b11 := hB.2.2.2.2.2.2.2.2.2.2
  refine zt_aload_n dX11_pair_0 rfl ?_
  refine zt_iload_n dX11_pair_1 rfl ?_
  refine zt_callV1r dX11_pair_2 ml_X11_310 (zs_38 hS) (Nat.le_of_ble_eq_true rfl) (c_jT hS hR hB (by omega)) ?_
  refine zt_ifb_eq (tgt := 28) dX11_pair_5 (by decide) (fun c_5 => ?_) (fun c_5 => ?_)
  · refine zt_iconst dX11_pair_28 ?_
    exact zt_iret dX11_pair_29 ⟨by rw [if_neg (show ¬ (jT h t ∧ 2 ≤ h 38 20 ∧ 0 ≤ p ∧ p ≤ 5) by omega)], rfl, rfl, by rw [if_neg (show ¬ (jT h t ∧ 2 ≤ h 38 20 ∧ 0 ≤ p ∧ p ≤ 5) by omega)]⟩
  · refine zt_aload_n dX11_pair_8 rfl ?_
    refine zt_get dX11_pair_9 fl_X11_319 (zs_38 hS) ?_
    refine zt_iconst dX11_pair_12 ?_
    refine zt_icmp_lt (tgt := 28) dX11_pair_13 (by decide) (hm.fld (j := 20) (zs_38 hS) (by decide) (by decide) (by decide)) (by decide) (fun c_13 => ?_) (fun c_13 => ?_)
    · refine zt_iconst dX11_pair_28 ?_
      exact zt_iret dX11_pair_29 ⟨by rw [if_neg (show ¬ (jT h t ∧ 2 ≤ h 38 20 ∧ 0 ≤ p ∧ p ≤ 5) by omega)], rfl, rfl, by rw [if_neg (show ¬ (jT h t ∧ 2 ≤ h 38 20 ∧ 0 ≤ p ∧ p ≤ 5) by omega)]⟩
    · refine zt_iload_n dX11_pair_16 rfl ?_
      refine zt_i2l dX11_pair_17 (by omega) ?_
      refine zt_lconst (v := 0) dX11_pair_18 rfl ?_
      refine zt_ldc2 dX11_pair_19 kc_X11_228 ?_
      refine zt_callS3r dX11_pair_22 ml_X11_143 (Nat.le_of_ble_eq_true rfl) (c_min_ (x := p) (y := 0) (z := 5) (by omega) (by decide) (by decide)) ?_
      refine zt_ifb_ne (tgt := 30) dX11_pair_25 (by decide) (fun c_25 => ?_) (fun c_25 => ?_)
      · refine zt_aload_n dX11_pair_30 rfl ?_
        refine zt_getv dX11_pair_31 fl_X11_122 (zs_38 hS) (rf_38_55 hR) ?_
        refine zt_iconst dX11_pair_34 ?_
        refine zt_iconst dX11_pair_35 ?_
        refine zt_iastore dX11_pair_36 (zs_74 hS) (by decide) (by decide) (by decide) (by decide) ?_
        refine zt_iconst dX11_pair_37 ?_
        refine zt_istore_n_3 dX11_pair_38 (by decide) rfl ?_
        have hb := hB.2.1 t c_5.1 c_5.2
        rw [if_pos (show (jT h t ∧ 2 ≤ h 38 20 ∧ 0 ≤ p ∧ p ≤ 5) by omega), if_pos (show (jT h t ∧ 2 ≤ h 38 20 ∧ 0 ≤ p ∧ p ≤ 5) by omega)]
        refine zt_mem (h1 := znew h 74 (fun y => if y = 4 then -1 else h 74 y)) (by exact (zmem_ext (fun x y => by unfold zup znew; by_cases hx : x = 74; subst hx; simp only [true_and, if_true]; simp [hx]))) ?_
        exact l_jp4 hS hR hV hTk (by omega) hb b3 (by omega) 9 0 _ (by omega) (by omega) (by omega) rfl
      · refine zt_iconst dX11_pair_28 ?_
        exact zt_iret dX11_pair_29 ⟨by rw [if_neg (show ¬ (jT h t ∧ 2 ≤ h 38 20 ∧ 0 ≤ p ∧ p ≤ 5) by omega)], rfl, rfl, by rw [if_neg (show ¬ (jT h t ∧ 2 ≤ h 38 20 ∧ 0 ≤ p ∧ p ≤ 5) by omega)]⟩
