def bset (s : Int → Int) (a w b u f g : Int) : Int → Int := fun y => if y = 0 then a else if y = 1 then w else if y = 2 then b else if y = 3 then u else if y = 4 then f else if y = 5 then g else s y
def bst (s : Int → Int) (a w b u f g : Int) : Int → Int := if f < s 4 ∨ (f = s 4 ∧ s 5 < g) then bset s a w b u f g else s
theorem bset_up {h : zMem} {a w b u f g : Int} : zup (zup (zup (zup (zup (zup h 11 0 a) 11 1 w) 11 2 b) 11 3 u) 11 4 f) 11 5 g = znew h 11 (bset (h 11) a w b u f g) := zmem_ext (fun x y => by
  unfold zup znew bset
  by_cases hx : x = 11
  · subst hx
    simp only [true_and, if_true]
    (repeat' split) <;> first | rfl | (exfalso; omega)
  · simp [hx])
/-- two HANDS' entries alike and FALSE; TRUE ones -/
def pAF (h : zMem) (t a w b u : Int) : Int := zS (fun i => zb (h (t + 1) i ≠ -2147483648 ∧ h 17 ((a * 3 + w) * 30 + i) = h 17 ((b * 3 + u) * 30 + i) ∧ h 17 ((a * 3 + w) * 30 + i) ≠ h (t + 1) i)) 0 (h t 0)
def pBT (h : zMem) (t a w b u : Int) : Int := zS (fun i => zb (h (t + 1) i ≠ -2147483648 ∧ h 17 ((a * 3 + w) * 30 + i) = h 17 ((b * 3 + u) * 30 + i) ∧ h 17 ((a * 3 + w) * 30 + i) = h (t + 1) i)) 0 (h t 0)
theorem pAF_r {h : zMem} {t a w b u : Int} (hE : 4 ≤ h t 0 ∧ h t 0 ≤ 30) : 0 ≤ pAF h t a w b u ∧ pAF h t a w b u ≤ 30 := by
  have := zS_le (p := fun i => zb (h (t + 1) i ≠ -2147483648 ∧ h 17 ((a * 3 + w) * 30 + i) = h 17 ((b * 3 + u) * 30 + i) ∧ h 17 ((a * 3 + w) * 30 + i) ≠ h (t + 1) i)) 30 0 (by omega) (fun j _ _ => zb_01 _) (by omega : 0 ≤ h t 0)
  unfold pAF; omega
theorem pBT_r {h : zMem} {t a w b u : Int} (hE : 4 ≤ h t 0 ∧ h t 0 ≤ 30) : 0 ≤ pBT h t a w b u ∧ pBT h t a w b u ≤ 30 := by
  have := zS_le (p := fun i => zb (h (t + 1) i ≠ -2147483648 ∧ h 17 ((a * 3 + w) * 30 + i) = h 17 ((b * 3 + u) * 30 + i) ∧ h 17 ((a * 3 + w) * 30 + i) = h (t + 1) i)) 30 0 (by omega) (fun j _ _ => zb_01 _) (by omega : 0 ≤ h t 0)
  unfold pBT; omega
theorem pAF_new {h : zMem} {t a w b u : Int} {g : Int → Int} (ht : 80 ≤ t) : pAF (znew h 11 g) t a w b u = pAF h t a w b u := by
  unfold pAF; rw [znew_ne (x := t) (by omega), znew_ne (x := t + 1) (by omega), znew_ne (x := 17) (by omega)]
theorem pBT_new {h : zMem} {t a w b u : Int} {g : Int → Int} (ht : 80 ≤ t) : pBT (znew h 11 g) t a w b u = pBT h t a w b u := by
  unfold pBT; rw [znew_ne (x := t) (by omega), znew_ne (x := t + 1) (by omega), znew_ne (x := 17) (by omega)]
theorem pst_new {h : zMem} {t a w b u : Int} {s : Int → Int} (ht : 80 ≤ t) : znew (znew h 11 s) 11 (bst (znew h 11 s 11) a w b u (pAF (znew h 11 s) t a w b u) (pBT (znew h 11 s) t a w b u)) = znew h 11 (bst s a w b u (pAF h t a w b u) (pBT h t a w b u)) := by
  rw [pAF_new ht, pBT_new ht, znew_at]
  exact zmem_ext (fun x y => by unfold znew; by_cases hx : x = 11 <;> simp [hx])

set_option maxRecDepth 100000 in
set_option maxHeartbeats 4000000 in
theorem l_weigh {d n : Nat} {sh : zSh} {h : zMem} {t a w b u : Int} (hS : zShp sh) (hR : zRf h) (hT : zTab sh h t) (ha : 0 ≤ a ∧ a < 8) (hw : 0 ≤ w ∧ w < 3) (hb : 0 ≤ b ∧ b < 8) (hu : 0 ≤ u ∧ u < 3) (hm : zMok sh h) (hE : 4 ≤ h t 0 ∧ h t 0 ≤ 30)  : ∀ (k : Nat) (i : Int) (f : Int) (g : Int), h t 0 - i < (k : Int) → 0 ≤ i → i ≤ h t 0 → (0 ≤ f ∧ f ≤ i) ∧ (0 ≤ g ∧ g ≤ i) → pAF h t a w b u = f + zS (fun j => zb (h (t + 1) j ≠ -2147483648 ∧ h 17 ((a * 3 + w) * 30 + j) = h 17 ((b * 3 + u) * 30 + j) ∧ h 17 ((a * 3 + w) * 30 + j) ≠ h (t + 1) j)) i (h t 0) → pBT h t a w b u = g + zS (fun j => zb (h (t + 1) j ≠ -2147483648 ∧ h 17 ((a * 3 + w) * 30 + j) = h 17 ((b * 3 + u) * 30 + j) ∧ h 17 ((a * 3 + w) * 30 + j) = h (t + 1) j)) i (h t 0) → zT yX3_weigh cX3_weigh 13 none (d + 2) 0 0 (zq none n sh (znew h 11 (bst (h 11) a w b u (pAF h t a w b u) (pBT h t a w b u)))) 9 [some (2, 10), some (2, t), some (0, a), some (0, w), some (0, b), some (0, u), some (0, f), some (0, g), some (0, i), none, none, none, none] [] n sh h := by
  intro k
  induction k with
  | zero => intros; exfalso; omega
  | succ k ih =>
    intro i f g hk h0 h1 hfg h2 h3
    refine zt_iload dX3_weigh_9 rfl ?_
    refine zt_aload_n dX3_weigh_11 rfl ?_
    refine zt_get dX3_weigh_12 fl_X3_58 hT.sh ?_
    refine zt_icmp_ge (tgt := 129) dX3_weigh_15 (by decide) (by omega) (hm.fld (j := 0) hT.sh (by decide) (by decide) (by decide)) (fun c_15 => ?_) (fun c_15 => ?_)
    · rw [zS_e (by omega)] at h2 h3
      have e1 : f = pAF h t a w b u := by omega
      have e2 : g = pBT h t a w b u := by omega
      refine zt_iload dX3_weigh_129 rfl ?_
      refine zt_aload_n dX3_weigh_131 rfl ?_
      refine zt_getv dX3_weigh_132 fl_X3_9 (zs_10 hS) (rf_10_2 hR) ?_
      refine zt_iconst dX3_weigh_135 ?_
      refine zt_iaload dX3_weigh_136 (zs_11 hS) (by decide) (by decide) (by decide) ?_
      refine zt_icmp_lt (tgt := 162) dX3_weigh_137 (by decide) (by omega) (hm.int (zs_11 hS) (by decide) (by decide)) (fun c_137 => ?_) (fun c_137 => ?_)
      · refine zt_aload_n dX3_weigh_162 rfl ?_
        refine zt_getv dX3_weigh_163 fl_X3_9 (zs_10 hS) (rf_10_2 hR) ?_
        refine zt_iconst dX3_weigh_166 ?_
        refine zt_iload_n dX3_weigh_167 rfl ?_
        refine zt_iastore dX3_weigh_168 (zs_11 hS) (by decide) (by decide) (by decide) (by omega) ?_
        refine zt_aload_n dX3_weigh_169 rfl ?_
        refine zt_getv dX3_weigh_170 fl_X3_9 (zs_10 hS) (rf_10_2 (hR.upA (by decide))) ?_
        refine zt_iconst dX3_weigh_173 ?_
        refine zt_iload_n dX3_weigh_174 rfl ?_
        refine zt_iastore dX3_weigh_175 (zs_11 hS) (by decide) (by decide) (by decide) (by omega) ?_
        refine zt_aload_n dX3_weigh_176 rfl ?_
        refine zt_getv dX3_weigh_177 fl_X3_9 (zs_10 hS) (rf_10_2 ((hR.upA (by decide)).upA (by decide))) ?_
        refine zt_iconst dX3_weigh_180 ?_
        refine zt_iload dX3_weigh_181 rfl ?_
        refine zt_iastore dX3_weigh_183 (zs_11 hS) (by decide) (by decide) (by decide) (by omega) ?_
        refine zt_aload_n dX3_weigh_184 rfl ?_
        refine zt_getv dX3_weigh_185 fl_X3_9 (zs_10 hS) (rf_10_2 (((hR.upA (by decide)).upA (by decide)).upA (by decide))) ?_
        refine zt_iconst dX3_weigh_188 ?_
        refine zt_iload dX3_weigh_189 rfl ?_
        refine zt_iastore dX3_weigh_191 (zs_11 hS) (by decide) (by decide) (by decide) (by omega) ?_
        refine zt_aload_n dX3_weigh_192 rfl ?_
        refine zt_getv dX3_weigh_193 fl_X3_9 (zs_10 hS) (rf_10_2 ((((hR.upA (by decide)).upA (by decide)).upA (by decide)).upA (by decide))) ?_
        refine zt_iconst dX3_weigh_196 ?_
        refine zt_iload dX3_weigh_197 rfl ?_
        refine zt_iastore dX3_weigh_199 (zs_11 hS) (by decide) (by decide) (by decide) (by omega) ?_
        refine zt_aload_n dX3_weigh_200 rfl ?_
        refine zt_getv dX3_weigh_201 fl_X3_9 (zs_10 hS) (rf_10_2 (((((hR.upA (by decide)).upA (by decide)).upA (by decide)).upA (by decide)).upA (by decide))) ?_
        refine zt_iconst dX3_weigh_204 ?_
        refine zt_iload dX3_weigh_205 rfl ?_
        refine zt_iastore dX3_weigh_207 (zs_11 hS) (by decide) (by decide) (by decide) (by omega) ?_
        exact zt_vret dX3_weigh_208 ⟨rfl, rfl, rfl, by rw [bset_up]; unfold bst; rw [if_pos (by omega), ← e1, ← e2]⟩
      · refine zt_iload dX3_weigh_140 rfl ?_
        refine zt_aload_n dX3_weigh_142 rfl ?_
        refine zt_getv dX3_weigh_143 fl_X3_9 (zs_10 hS) (rf_10_2 hR) ?_
        refine zt_iconst dX3_weigh_146 ?_
        refine zt_iaload dX3_weigh_147 (zs_11 hS) (by decide) (by decide) (by decide) ?_
        refine zt_icmp_ne (tgt := 208) dX3_weigh_148 (by decide) (by omega) (hm.int (zs_11 hS) (by decide) (by decide)) (fun c_148 => ?_) (fun c_148 => ?_)
        · exact zt_vret dX3_weigh_208 ⟨rfl, rfl, rfl, by unfold bst; rw [if_neg (by omega), znew_self]⟩
        · refine zt_iload dX3_weigh_151 rfl ?_
          refine zt_aload_n dX3_weigh_153 rfl ?_
          refine zt_getv dX3_weigh_154 fl_X3_9 (zs_10 hS) (rf_10_2 hR) ?_
          refine zt_iconst dX3_weigh_157 ?_
          refine zt_iaload dX3_weigh_158 (zs_11 hS) (by decide) (by decide) (by decide) ?_
          refine zt_icmp_le (tgt := 208) dX3_weigh_159 (by decide) (by omega) (hm.int (zs_11 hS) (by decide) (by decide)) (fun c_159 => ?_) (fun c_159 => ?_)
          · exact zt_vret dX3_weigh_208 ⟨rfl, rfl, rfl, by unfold bst; rw [if_neg (by omega), znew_self]⟩
          · refine zt_aload_n dX3_weigh_162 rfl ?_
            refine zt_getv dX3_weigh_163 fl_X3_9 (zs_10 hS) (rf_10_2 hR) ?_
            refine zt_iconst dX3_weigh_166 ?_
            refine zt_iload_n dX3_weigh_167 rfl ?_
            refine zt_iastore dX3_weigh_168 (zs_11 hS) (by decide) (by decide) (by decide) (by omega) ?_
            refine zt_aload_n dX3_weigh_169 rfl ?_
            refine zt_getv dX3_weigh_170 fl_X3_9 (zs_10 hS) (rf_10_2 (hR.upA (by decide))) ?_
            refine zt_iconst dX3_weigh_173 ?_
            refine zt_iload_n dX3_weigh_174 rfl ?_
            refine zt_iastore dX3_weigh_175 (zs_11 hS) (by decide) (by decide) (by decide) (by omega) ?_
            refine zt_aload_n dX3_weigh_176 rfl ?_
            refine zt_getv dX3_weigh_177 fl_X3_9 (zs_10 hS) (rf_10_2 ((hR.upA (by decide)).upA (by decide))) ?_
            refine zt_iconst dX3_weigh_180 ?_
            refine zt_iload dX3_weigh_181 rfl ?_
            refine zt_iastore dX3_weigh_183 (zs_11 hS) (by decide) (by decide) (by decide) (by omega) ?_
            refine zt_aload_n dX3_weigh_184 rfl ?_
            refine zt_getv dX3_weigh_185 fl_X3_9 (zs_10 hS) (rf_10_2 (((hR.upA (by decide)).upA (by decide)).upA (by decide))) ?_
            refine zt_iconst dX3_weigh_188 ?_
            refine zt_iload dX3_weigh_189 rfl ?_
            refine zt_iastore dX3_weigh_191 (zs_11 hS) (by decide) (by decide) (by decide) (by omega) ?_
            refine zt_aload_n dX3_weigh_192 rfl ?_
            refine zt_getv dX3_weigh_193 fl_X3_9 (zs_10 hS) (rf_10_2 ((((hR.upA (by decide)).upA (by decide)).upA (by decide)).upA (by decide))) ?_
            refine zt_iconst dX3_weigh_196 ?_
            refine zt_iload dX3_weigh_197 rfl ?_
            refine zt_iastore dX3_weigh_199 (zs_11 hS) (by decide) (by decide) (by decide) (by omega) ?_
            refine zt_aload_n dX3_weigh_200 rfl ?_
            refine zt_getv dX3_weigh_201 fl_X3_9 (zs_10 hS) (rf_10_2 (((((hR.upA (by decide)).upA (by decide)).upA (by decide)).upA (by decide)).upA (by decide))) ?_
            refine zt_iconst dX3_weigh_204 ?_
            refine zt_iload dX3_weigh_205 rfl ?_
            refine zt_iastore dX3_weigh_207 (zs_11 hS) (by decide) (by decide) (by decide) (by omega) ?_
            exact zt_vret dX3_weigh_208 ⟨rfl, rfl, rfl, by rw [bset_up]; unfold bst; rw [if_pos (by omega), ← e1, ← e2]⟩
    · refine zt_aload_n dX3_weigh_18 rfl ?_
      refine zt_iload dX3_weigh_19 rfl ?_
      refine zt_callV1r dX3_weigh_21 ml_X3_67 hT.sh (Nat.le_of_ble_eq_true rfl) (c_ttrI hT (by omega)) ?_
      refine zt_istore_9 dX3_weigh_24 (by decide) rfl ?_
      refine zt_iload_n dX3_weigh_26 rfl ?_
      refine zt_iload_n dX3_weigh_27 rfl ?_
      refine zt_iload dX3_weigh_28 rfl ?_
      refine zt_callS3r dX3_weigh_30 ml_X3_63 (Nat.le_of_ble_eq_true rfl) (c_slot) ?_
      refine zt_istore_10 dX3_weigh_33 (by decide) rfl ?_
      refine zt_iload dX3_weigh_35 rfl ?_
      refine zt_iload dX3_weigh_37 rfl ?_
      refine zt_iload dX3_weigh_39 rfl ?_
      refine zt_callS3r dX3_weigh_41 ml_X3_63 (Nat.le_of_ble_eq_true rfl) (c_slot) ?_
      refine zt_istore_11 dX3_weigh_44 (by decide) rfl ?_
      refine zt_iload dX3_weigh_46 rfl ?_
      refine zt_aload_n dX3_weigh_48 rfl ?_
      refine zt_getv dX3_weigh_49 fl_X3_30 (zs_10 hS) (rf_10_8 hR) ?_
      refine zt_alenv (v := 720) dX3_weigh_52 (zs_17 hS) (by decide) (by decide) rfl ?_
      refine zt_icmp_ge (tgt := 70) dX3_weigh_53 (by decide) (by omega) (by decide) (fun c_53 => ?_) (fun c_53 => ?_)
      · exfalso
        omega
      · refine zt_iload dX3_weigh_56 rfl ?_
        refine zt_aload_n dX3_weigh_58 rfl ?_
        refine zt_getv dX3_weigh_59 fl_X3_30 (zs_10 hS) (rf_10_8 hR) ?_
        refine zt_alenv (v := 720) dX3_weigh_62 (zs_17 hS) (by decide) (by decide) rfl ?_
        refine zt_icmp_ge (tgt := 70) dX3_weigh_63 (by decide) (by omega) (by decide) (fun c_63 => ?_) (fun c_63 => ?_)
        · exfalso
          omega
        · refine zt_iconst dX3_weigh_66 ?_
          refine zt_goto (tgt := 71) dX3_weigh_67 (by decide) ?_
          refine zt_istore_12 dX3_weigh_71 (by decide) rfl ?_
          refine zt_iload dX3_weigh_73 rfl ?_
          refine zt_ldc dX3_weigh_75 kc_X3_44 ?_
          refine zt_icmp_eq (tgt := 123) dX3_weigh_77 (by decide) (hm.int (hT.ar 1 (by decide) (by decide)) (by omega) (by omega)) (by decide) (fun c_77 => ?_) (fun c_77 => ?_)
          · refine zt_iinc_8 dX3_weigh_123 (by decide) rfl ?_
            refine zt_goto (tgt := 9) dX3_weigh_126 (by decide) ?_
            refine zt_kill_9 ?_
            refine zt_kill_10 ?_
            refine zt_kill_11 ?_
            refine zt_kill_12 ?_
            exact ih (i + 1) f g (by omega) (by omega) (by omega) (by omega) (by rw [zS_s (by omega)] at h2; first | (rw [zb_t (by omega)] at h2; omega) | (rw [zb_f (by omega)] at h2; omega)) (by rw [zS_s (by omega)] at h3; first | (rw [zb_t (by omega)] at h3; omega) | (rw [zb_f (by omega)] at h3; omega))
          · refine zt_iload dX3_weigh_80 rfl ?_
            refine zt_if_eq (tgt := 123) dX3_weigh_82 (by decide) (by decide) (fun q => absurd q (by decide)) (fun c_82 => ?_)
            refine zt_aload_n dX3_weigh_85 rfl ?_
            refine zt_getv dX3_weigh_86 fl_X3_30 (zs_10 hS) (rf_10_8 hR) ?_
            refine zt_iload dX3_weigh_89 rfl ?_
            refine zt_iaload dX3_weigh_91 (zs_17 hS) (by decide) (by omega) (by omega) ?_
            refine zt_aload_n dX3_weigh_92 rfl ?_
            refine zt_getv dX3_weigh_93 fl_X3_30 (zs_10 hS) (rf_10_8 hR) ?_
            refine zt_iload dX3_weigh_96 rfl ?_
            refine zt_iaload dX3_weigh_98 (zs_17 hS) (by decide) (by omega) (by omega) ?_
            refine zt_icmp_ne (tgt := 123) dX3_weigh_99 (by decide) (hm.int (zs_17 hS) (by omega) (by omega)) (hm.int (zs_17 hS) (by omega) (by omega)) (fun c_99 => ?_) (fun c_99 => ?_)
            · refine zt_iinc_8 dX3_weigh_123 (by decide) rfl ?_
              refine zt_goto (tgt := 9) dX3_weigh_126 (by decide) ?_
              refine zt_kill_9 ?_
              refine zt_kill_10 ?_
              refine zt_kill_11 ?_
              refine zt_kill_12 ?_
              exact ih (i + 1) f g (by omega) (by omega) (by omega) (by omega) (by rw [zS_s (by omega)] at h2; first | (rw [zb_t (by omega)] at h2; omega) | (rw [zb_f (by omega)] at h2; omega)) (by rw [zS_s (by omega)] at h3; first | (rw [zb_t (by omega)] at h3; omega) | (rw [zb_f (by omega)] at h3; omega))
            · refine zt_aload_n dX3_weigh_102 rfl ?_
              refine zt_getv dX3_weigh_103 fl_X3_30 (zs_10 hS) (rf_10_8 hR) ?_
              refine zt_iload dX3_weigh_106 rfl ?_
              refine zt_iaload dX3_weigh_108 (zs_17 hS) (by decide) (by omega) (by omega) ?_
              refine zt_iload dX3_weigh_109 rfl ?_
              refine zt_icmp_ne (tgt := 120) dX3_weigh_111 (by decide) (hm.int (zs_17 hS) (by omega) (by omega)) (hm.int (hT.ar 1 (by decide) (by decide)) (by omega) (by omega)) (fun c_111 => ?_) (fun c_111 => ?_)
              · refine zt_iinc_6 dX3_weigh_120 (by decide) rfl ?_
                refine zt_iinc_8 dX3_weigh_123 (by decide) rfl ?_
                refine zt_goto (tgt := 9) dX3_weigh_126 (by decide) ?_
                refine zt_kill_9 ?_
                refine zt_kill_10 ?_
                refine zt_kill_11 ?_
                refine zt_kill_12 ?_
                exact ih (i + 1) (f + 1) g (by omega) (by omega) (by omega) (by omega) (by rw [zS_s (by omega)] at h2; first | (rw [zb_t (by omega)] at h2; omega) | (rw [zb_f (by omega)] at h2; omega)) (by rw [zS_s (by omega)] at h3; first | (rw [zb_t (by omega)] at h3; omega) | (rw [zb_f (by omega)] at h3; omega))
              · refine zt_iinc_7 dX3_weigh_114 (by decide) rfl ?_
                refine zt_goto (tgt := 123) dX3_weigh_117 (by decide) ?_
                refine zt_iinc_8 dX3_weigh_123 (by decide) rfl ?_
                refine zt_goto (tgt := 9) dX3_weigh_126 (by decide) ?_
                refine zt_kill_9 ?_
                refine zt_kill_10 ?_
                refine zt_kill_11 ?_
                refine zt_kill_12 ?_
                exact ih (i + 1) f (g + 1) (by omega) (by omega) (by omega) (by omega) (by rw [zS_s (by omega)] at h2; first | (rw [zb_t (by omega)] at h2; omega) | (rw [zb_f (by omega)] at h2; omega)) (by rw [zS_s (by omega)] at h3; first | (rw [zb_t (by omega)] at h3; omega) | (rw [zb_f (by omega)] at h3; omega))

set_option maxRecDepth 100000 in
set_option maxHeartbeats 4000000 in
theorem c_weigh {d n : Nat} {sh : zSh} {h : zMem} {t a w b u : Int} (hS : zShp sh) (hR : zRf h) (hT : zTab sh h t) (ha : 0 ≤ a ∧ a < 8) (hw : 0 ≤ w ∧ w < 3) (hb : 0 ≤ b ∧ b < 8) (hu : 0 ≤ u ∧ u < 3)  : zF yX3_weigh cX3_weigh 13 none (d + 2) 0 0 [(2, 10), (2, t), (0, a), (0, w), (0, b), (0, u)] n sh h none n sh (znew h 11 (bst (h 11) a w b u (pAF h t a w b u) (pBT h t a w b u))) := by
  refine zF.ofT (by decide +kernel) [some (2, 10), some (2, t), some (0, a), some (0, w), some (0, b), some (0, u), none, none, none, none, none, none, none] rfl (Nat.le_of_ble_eq_true rfl) ?_
  have hE := hT.2.2.1
  refine zt_rg (fun hm => ?_)
  refine zt_iconst dX3_weigh_0 ?_
  refine zt_istore_6 dX3_weigh_1 (by decide) rfl ?_
  refine zt_iconst dX3_weigh_3 ?_
  refine zt_istore_7 dX3_weigh_4 (by decide) rfl ?_
  refine zt_iconst dX3_weigh_6 ?_
  refine zt_istore_8 dX3_weigh_7 (by decide) rfl ?_
  exact l_weigh hS hR hT ha hw hb hu hm hE 31 0 0 0 (by omega) (by omega) (by omega) (by omega) (by rw [Int.zero_add]; rfl) (by rw [Int.zero_add]; rfl)

def pU (h : zMem) (t a w b u : Int) (s : Int → Int) : Int → Int := if w = u then s else bst s a w b u (pAF h t a w b u) (pBT h t a w b u)
def pB (h : zMem) (t a w b : Int) (s : Int → Int) : Int → Int := zFor (pU h t a w b) 0 3 s
def pW (h : zMem) (t a w : Int) (s : Int → Int) : Int → Int := zFor (pB h t a w) (a + 1) (h 10 0) s
def pA (h : zMem) (t a : Int) (s : Int → Int) : Int → Int := zFor (pW h t a) 0 3 s
def pAll (h : zMem) (t : Int) (s : Int → Int) : Int → Int := zFor (pA h t) 0 (h 10 0) s

set_option maxRecDepth 100000 in
set_option maxHeartbeats 4000000 in
theorem l_fp1 {d n : Nat} {sh : zSh} {h : zMem} {t a w b : Int} {Q : Option zV → Nat → zSh → zMem → Prop} {R : Int → Int} (hS : zShp sh) (hR : zRf h) (hT : zTab sh h t) (hH : 0 ≤ h 10 0 ∧ h 10 0 ≤ 8) (h80 : 80 ≤ t) (ha : 0 ≤ a ∧ a < 8) (hw : 0 ≤ w ∧ w < 3) (hb : 0 ≤ b ∧ b < 8) (hK : zT yX3_findPair cX3_findPair 6 none (d + 3) 0 0 Q 83 [some (2, 10), some (2, t), some (0, a), some (0, w), some (0, b), none] [] n sh (znew h 11 R))  : ∀ (k : Nat) (u : Int) (s : Int → Int), 3 - u < (k : Int) → 0 ≤ u → u ≤ 3 → R = zFor (pU h t a w b) u 3 s → zT yX3_findPair cX3_findPair 6 none (d + 3) 0 0 Q 54 [some (2, 10), some (2, t), some (0, a), some (0, w), some (0, b), some (0, u)] [] n sh (znew h 11 s) := by
  intro k
  induction k with
  | zero => intros; exfalso; omega
  | succ k ih =>
    intro u s hk h0 h1 hr
    refine zt_iload dX3_findPair_54 rfl ?_
    refine zt_iconst dX3_findPair_56 ?_
    refine zt_icmp_ge (tgt := 83) dX3_findPair_57 (by decide) (by omega) (by decide) (fun c_57 => ?_) (fun c_57 => ?_)
    · refine zt_kill_5 ?_
      rw [zFor_e (by omega)] at hr
      rw [← hr]
      exact hK
    · refine zt_iload_n dX3_findPair_60 rfl ?_
      refine zt_iload dX3_findPair_61 rfl ?_
      refine zt_icmp_eq (tgt := 77) dX3_findPair_63 (by decide) (by omega) (by omega) (fun c_63 => ?_) (fun c_63 => ?_)
      · refine zt_iinc_5 dX3_findPair_77 (by decide) rfl ?_
        refine zt_goto (tgt := 54) dX3_findPair_80 (by decide) ?_
        exact ih (u + 1) s (by omega) (by omega) (by omega) (by rw [hr, zFor_s (by omega)]; congr 1; unfold pU; rw [if_pos (by omega)])
      · refine zt_aload_n dX3_findPair_66 rfl ?_
        refine zt_aload_n dX3_findPair_67 rfl ?_
        refine zt_iload_n dX3_findPair_68 rfl ?_
        refine zt_iload_n dX3_findPair_69 rfl ?_
        refine zt_iload dX3_findPair_70 rfl ?_
        refine zt_iload dX3_findPair_72 rfl ?_
        refine zt_callV5v dX3_findPair_74 ml_X3_54 (zs_10 hS) (Nat.le_of_ble_eq_true rfl) (zF.of_eq rfl rfl rfl (pst_new h80) (c_weigh hS (hR.new (by decide)) (hT.new (by decide)) (by omega) (by omega) (by omega) (by omega))) ?_
        refine zt_iinc_5 dX3_findPair_77 (by decide) rfl ?_
        refine zt_goto (tgt := 54) dX3_findPair_80 (by decide) ?_
        exact ih (u + 1) _ (by omega) (by omega) (by omega) (by rw [hr, zFor_s (by omega)]; congr 1; unfold pU; rw [if_neg (by omega)])

set_option maxRecDepth 100000 in
set_option maxHeartbeats 4000000 in
theorem l_fp2 {d n : Nat} {sh : zSh} {h : zMem} {t a w : Int} {Q : Option zV → Nat → zSh → zMem → Prop} {R : Int → Int} (hS : zShp sh) (hR : zRf h) (hT : zTab sh h t) (hH : 0 ≤ h 10 0 ∧ h 10 0 ≤ 8) (h80 : 80 ≤ t) (ha : 0 ≤ a ∧ a < 8) (hw : 0 ≤ w ∧ w < 3) (hK : zT yX3_findPair cX3_findPair 6 none (d + 3) 0 0 Q 89 [some (2, 10), some (2, t), some (0, a), some (0, w), none, none] [] n sh (znew h 11 R))  : ∀ (k : Nat) (b : Int) (s : Int → Int), 9 - b < (k : Int) → 0 ≤ b → b ≤ 9 → R = zFor (pB h t a w) b (h 10 0) s → zT yX3_findPair cX3_findPair 6 none (d + 3) 0 0 Q 42 [some (2, 10), some (2, t), some (0, a), some (0, w), some (0, b), none] [] n sh (znew h 11 s) := by
  intro k
  induction k with
  | zero => intros; exfalso; omega
  | succ k ih =>
    intro b s hk h0 h1 hr
    refine zt_iload dX3_findPair_42 rfl ?_
    refine zt_aload_n dX3_findPair_44 rfl ?_
    refine zt_getv (v := h 10 0) dX3_findPair_45 fl_X3_33 (zs_10 hS) (congrFun (znew_ne (by omega)) _) ?_
    refine zt_icmp_ge (tgt := 89) dX3_findPair_48 (by decide) (by omega) (by omega) (fun c_48 => ?_) (fun c_48 => ?_)
    · refine zt_kill_4 ?_
      rw [zFor_e (by omega)] at hr
      rw [← hr]
      exact hK
    · refine zt_iconst dX3_findPair_51 ?_
      refine zt_istore_5 dX3_findPair_52 (by decide) rfl ?_
      refine l_fp1 (R := pB h t a w b s) hS hR hT hH h80 ha hw (by omega) ?_ 4 0 s (by omega) (by omega) (by omega) rfl
      refine zt_iinc_4 dX3_findPair_83 (by decide) rfl ?_
      refine zt_goto (tgt := 42) dX3_findPair_86 (by decide) ?_
      exact ih (b + 1) _ (by omega) (by omega) (by omega) (by rw [hr, zFor_s (by omega)])

set_option maxRecDepth 100000 in
set_option maxHeartbeats 4000000 in
theorem l_fp3 {d n : Nat} {sh : zSh} {h : zMem} {t a : Int} {Q : Option zV → Nat → zSh → zMem → Prop} {R : Int → Int} (hS : zShp sh) (hR : zRf h) (hT : zTab sh h t) (hH : 0 ≤ h 10 0 ∧ h 10 0 ≤ 8) (h80 : 80 ≤ t) (ha : 0 ≤ a ∧ a < 8) (hK : zT yX3_findPair cX3_findPair 6 none (d + 3) 0 0 Q 95 [some (2, 10), some (2, t), some (0, a), none, none, none] [] n sh (znew h 11 R))  : ∀ (k : Nat) (w : Int) (s : Int → Int), 3 - w < (k : Int) → 0 ≤ w → w ≤ 3 → R = zFor (pW h t a) w 3 s → zT yX3_findPair cX3_findPair 6 none (d + 3) 0 0 Q 32 [some (2, 10), some (2, t), some (0, a), some (0, w), none, none] [] n sh (znew h 11 s) := by
  intro k
  induction k with
  | zero => intros; exfalso; omega
  | succ k ih =>
    intro w s hk h0 h1 hr
    refine zt_iload_n dX3_findPair_32 rfl ?_
    refine zt_iconst dX3_findPair_33 ?_
    refine zt_icmp_ge (tgt := 95) dX3_findPair_34 (by decide) (by omega) (by decide) (fun c_34 => ?_) (fun c_34 => ?_)
    · refine zt_kill_3 ?_
      rw [zFor_e (by omega)] at hr
      rw [← hr]
      exact hK
    · refine zt_iload_n dX3_findPair_37 rfl ?_
      refine zt_iconst dX3_findPair_38 ?_
      refine zt_iadd dX3_findPair_39 ?_
      refine zt_istore_4 dX3_findPair_40 (by decide) rfl ?_
      refine l_fp2 (R := pW h t a w s) hS hR hT hH h80 ha (by omega) ?_ 10 (a + 1) s (by omega) (by omega) (by omega) rfl
      refine zt_iinc_3 dX3_findPair_89 (by decide) rfl ?_
      refine zt_goto (tgt := 32) dX3_findPair_92 (by decide) ?_
      exact ih (w + 1) _ (by omega) (by omega) (by omega) (by rw [hr, zFor_s (by omega)])

set_option maxRecDepth 100000 in
set_option maxHeartbeats 4000000 in
theorem l_fp4 {d n : Nat} {sh : zSh} {h : zMem} {t : Int} {R : Int → Int} (hS : zShp sh) (hR : zRf h) (hT : zTab sh h t) (hH : 0 ≤ h 10 0 ∧ h 10 0 ≤ 8) (h80 : 80 ≤ t)  : ∀ (k : Nat) (a : Int) (s : Int → Int), 8 - a < (k : Int) → 0 ≤ a → a ≤ 8 → R = zFor (pA h t) a (h 10 0) s → zT yX3_findPair cX3_findPair 6 none (d + 3) 0 0 (zq none n sh (znew h 11 R)) 22 [some (2, 10), some (2, t), some (0, a), none, none, none] [] n sh (znew h 11 s) := by
  intro k
  induction k with
  | zero => intros; exfalso; omega
  | succ k ih =>
    intro a s hk h0 h1 hr
    refine zt_iload_n dX3_findPair_22 rfl ?_
    refine zt_aload_n dX3_findPair_23 rfl ?_
    refine zt_getv (v := h 10 0) dX3_findPair_24 fl_X3_33 (zs_10 hS) (congrFun (znew_ne (by omega)) _) ?_
    refine zt_icmp_ge (tgt := 101) dX3_findPair_27 (by decide) (by omega) (by omega) (fun c_27 => ?_) (fun c_27 => ?_)
    · exact zt_vret dX3_findPair_101 ⟨rfl, rfl, rfl, by rw [hr, zFor_e (by omega)]⟩
    · refine zt_iconst dX3_findPair_30 ?_
      refine zt_istore_n_3 dX3_findPair_31 (by decide) rfl ?_
      refine l_fp3 (R := pA h t a s) hS hR hT hH h80 (by omega) ?_ 4 0 s (by omega) (by omega) (by omega) rfl
      refine zt_iinc_2 dX3_findPair_95 (by decide) rfl ?_
      refine zt_goto (tgt := 22) dX3_findPair_98 (by decide) ?_
      exact ih (a + 1) _ (by omega) (by omega) (by omega) (by rw [hr, zFor_s (by omega)])

set_option maxRecDepth 100000 in
set_option maxHeartbeats 4000000 in
theorem c_findPair {d n : Nat} {sh : zSh} {h : zMem} {t : Int} (hS : zShp sh) (hR : zRf h) (hT : zTab sh h t) (hb : hbOK h) (hok : tTok h t) : zM yX3_findPair cX3_findPair 6 none (d + 3) 0 0 [(2, 10), (2, t)] n sh h (fun r n1 sh1 h1 => r = none ∧ n1 = n ∧ sh1 = sh ∧ ∃ g : Int → Int, hFl h t g ((h 10 0) * 90) ∧ h1 = znew (znew h 17 g) 11 (pAll (znew h 17 g) t (fun y => if y = 5 then 0 else if y = 4 then 31 else h 11 y))) := by
  refine zM.ofT2 (by decide +kernel) [some (2, 10), some (2, t), none, none, none, none] rfl (Nat.le_of_ble_eq_true rfl) ?_
  refine zt_aload_n dX3_findPair_0 rfl ?_
  refine zt_aload_n dX3_findPair_1 rfl ?_
  refine zt_callV1q dX3_findPair_2 ml_X3_50 (zs_10 hS) (Nat.le_of_ble_eq_true rfl) (c_fillww hS hR hT hb hok) ?_
  rintro r n1 sh1 h1 ⟨rfl, rfl, rfl, g, rfl, hg⟩
  simp only [Option.toList, List.nil_append]
  refine zt_aload_n dX3_findPair_5 rfl ?_
  refine zt_getv dX3_findPair_6 fl_X3_9 (zs_10 hS) (rf_10_2 (hR.new (by decide))) ?_
  refine zt_iconst dX3_findPair_9 ?_
  refine zt_bipush dX3_findPair_10 (by decide) ?_
  refine zt_iastore dX3_findPair_12 (zs_11 hS) (by decide) (by decide) (by decide) (by decide) ?_
  refine zt_aload_n dX3_findPair_13 rfl ?_
  refine zt_getv dX3_findPair_14 fl_X3_9 (zs_10 hS) (rf_10_2 ((hR.new (by decide)).upA (by decide))) ?_
  refine zt_iconst dX3_findPair_17 ?_
  refine zt_iconst dX3_findPair_18 ?_
  refine zt_iastore dX3_findPair_19 (zs_11 hS) (by decide) (by decide) (by decide) (by decide) ?_
  refine zt_iconst dX3_findPair_20 ?_
  refine zt_istore_n_2 dX3_findPair_21 (by decide) rfl ?_
  have e0 : zup (zup (znew h 17 g) 11 4 31) 11 5 0 = znew (znew h 17 g) 11 (fun y => if y = 5 then 0 else if y = 4 then 31 else h 11 y) := zmem_ext (fun x y => by unfold zup znew; by_cases hx : x = 11; subst hx; simp only [true_and, if_true, Int.reduceEq, if_false]; simp [hx])
  rw [e0]
  refine zt_mono (Q := zq none n1 sh1 (znew (znew h 17 g) 11 (pAll (znew h 17 g) t (fun y => if y = 5 then 0 else if y = 4 then 31 else h 11 y)))) (fun r n2 sh2 h2 q => ⟨q.1, q.2.1, q.2.2.1, g, hg, q.2.2.2⟩) ?_
  exact l_fp4 hS (hR.new (by decide)) (hT.new (by decide)) (by rw [znew_ne (by omega)]; exact hb.1) hT.1 9 0 _ (by omega) (by omega) (by omega) rfl
