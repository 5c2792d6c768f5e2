def kM (h : zMem) (c C : Int → Int) : zMem := znew (znew h 76 c) 75 C
theorem kM_75 {h : zMem} {c C : Int → Int} : kM h c C 75 = C := znew_at
theorem kM_76 {h : zMem} {c C : Int → Int} : kM h c C 76 = c := by unfold kM; rw [znew_ne (by decide)]; exact znew_at
theorem kM_ne {h : zMem} {c C : Int → Int} {x : Int} (hx : x ≠ 76 ∧ x ≠ 75) : kM h c C x = h x := by unfold kM; rw [znew_ne hx.2, znew_ne hx.1]
theorem kM_rf {h : zMem} {c C : Int → Int} (hR : zRf h) : zRf (kM h c C) := (hR.new (by decide)).new (by decide)
theorem kM_self {h : zMem} : kM h (h 76) (h 75) = h := by unfold kM; rw [znew_self, znew_self]
theorem kM_u {h : zMem} {c C : Int → Int} {i v : Int} : zup (kM h c C) 76 i v = kM h (fun y => if y = i then v else c y) C := zmem_ext (fun x y => by
  unfold kM zup znew
  by_cases h1 : x = 76
  · subst h1; simp
  · simp [h1])
theorem kM_v {h : zMem} {c C : Int → Int} {i v : Int} : zup (kM h c C) 75 i v = kM h c (fun y => if y = i then v else C y) := zmem_ext (fun x y => by
  unfold kM zup znew
  by_cases h1 : x = 75
  · subst h1; simp
  · simp [h1])
theorem kOf_up {h : zMem} {c C : Int → Int} {p v : Int} (hv : v < C p) : zup (kM h c C) 75 p v = kM h c (lOf C p v) := by
  rw [kM_v]; congr 1; funext y; unfold lOf
  by_cases q : y = p
  · rw [if_pos q, if_pos ⟨q, hv⟩]
  · rw [if_neg q, if_neg (fun z => q z.1)]
theorem lOf_no2 {C : Int → Int} {p v : Int} (hv : C p ≤ v) : lOf C p v = C := by funext y; unfold lOf; rw [if_neg (by omega)]
theorem kAdd_up {h : zMem} {c C : Int → Int} : zup (zup (zup (zup (kM h c C) 76 0 ((c 0 + c 1) % 1000000000)) 76 1 ((c 1 + c 2) % 1000000000)) 76 2 ((c 2 + c 3) % 1000000000)) 76 3 ((c 3 + c 4) % 1000000000) = kM h (cAdd c) C := by
  rw [kM_u, kM_u, kM_u, kM_u]; congr 1; funext y; unfold cAdd
  by_cases h3 : y = 3
  · subst h3; rfl
  · rw [if_neg h3]
    by_cases h2 : y = 2
    · subst h2; rfl
    · rw [if_neg h2]
      by_cases h1 : y = 1
      · subst h1; rfl
      · rw [if_neg h1]
        by_cases h0 : y = 0
        · subst h0; rfl
        · rw [if_neg h0, if_neg (by omega)]
abbrev kGd (h : zMem) (t x j : Int) (c : Int → Int) : Prop := h 47 (30 * t + j) ≠ -2147483648 ∧ -x ≤ zsho (c 0) - h 47 (30 * t + j) ∧ zsho (c 0) - h 47 (30 * t + j) ≤ x
theorem kGd_c {h : zMem} {t x j : Int} {c C : Int → Int} (hc : c 0 = C 0) : kGd h t x j C ↔ kGd h t x j c := by unfold kGd; rw [hc]
def kRun (h : zMem) (t x e g : Int) : Nat → Int → (Int → Int) → (Int → Int) → (Int → Int)
  | 0, _, _, C => C
  | k + 1, j, c, C => if kGd h t x j c then kRun h t x e g k (j + 1) (cAdd c) (if e + g ≤ j then lOf C e (14 + 4 * g + j - e + C (j + 1)) else C) else C
theorem jDc_rg {c : Int → Int} {e g : Int} : cRg (jDc c e g) := fun k _ _ => jDc_in

set_option maxRecDepth 100000 in
set_option maxHeartbeats 4000000 in
theorem l_kr1 {d n : Nat} {sh : zSh} {h : zMem} {t e g x : Int} {C : Int → Int} {Q : Option zV → Nat → zSh → zMem → Prop} (hS : zShp sh) (hR : zRf h) (hTk : vTok h) (ht : 0 ≤ t ∧ t < 5) (hE : 4 ≤ h 46 t ∧ h 46 t ≤ 30) (hg : 1 ≤ g ∧ g ≤ 4) (he : 0 ≤ e ∧ e + g < h 46 t) (hx : 0 ≤ x ∧ x ≤ 99) (hK : ∀ q : Int → Int, (∀ k, 0 ≤ k → k ≤ 4 → q k = jDc (h 47) (30 * t + e) g k) → zT yX11_runs cX11_runs 11 none (d + 1) 0 0 Q 43 [some (2, 38), some (0, t), some (0, e), some (0, g), some (0, x), none, none, none, none, none, none] [] n sh (kM h q C))  : ∀ (k : Nat) (i : Int) (q : Int → Int), 5 - i < (k : Int) → 0 ≤ i → i ≤ 5 → (∀ y, 0 ≤ y → y < i → q y = jDc (h 47) (30 * t + e) g y) → zT yX11_runs cX11_runs 11 none (d + 1) 0 0 Q 3 [some (2, 38), some (0, t), some (0, e), some (0, g), some (0, x), some (0, i), none, none, none, none, none] [] n sh (kM h q C) := by
  intro k
  induction k with
  | zero => intros; exfalso; omega
  | succ k ih =>
    intro i q hk h0 h1 hq
    refine zt_iload dX11_runs_3 rfl ?_
    refine zt_iconst dX11_runs_5 ?_
    refine zt_icmp_ge (tgt := 43) dX11_runs_6 (by decide) (by omega) (by decide) (fun c_6 => ?_) (fun c_6 => ?_)
    · refine zt_kill_5 ?_
      exact hK q (fun k a b => hq k a (by omega))
    · refine zt_aload_n dX11_runs_9 rfl ?_
      refine zt_getv dX11_runs_10 fl_X11_128 (zs_38 hS) (rf_38_57 (kM_rf hR)) ?_
      refine zt_iload dX11_runs_13 rfl ?_
      refine zt_iload dX11_runs_15 rfl ?_
      refine zt_iload_n dX11_runs_17 rfl ?_
      refine zt_icmp_gt (tgt := 35) dX11_runs_18 (by decide) (by omega) (by omega) (fun c_18 => ?_) (fun c_18 => ?_)
      · refine zt_lconst (v := 0) dX11_runs_35 rfl ?_
        refine zt_lastore dX11_runs_36 (zs_76 hS) (by decide) (by omega) (by omega) (by decide) ?_
        refine zt_iinc_5 dX11_runs_37 (by decide) rfl ?_
        refine zt_goto (tgt := 3) dX11_runs_40 (by decide) ?_
        rw [kM_u]
        exact ih (i + 1) _ (by omega) (by omega) (by omega) (fun y a b => by show (if y = i then _ else _) = _; by_cases z : y = i; (rw [if_pos z, z]; exact (if_neg (by omega)).symm); (rw [if_neg z]; exact hq y a (by omega)))
      · refine zt_aload_n dX11_runs_21 rfl ?_
        refine zt_iload_n dX11_runs_22 rfl ?_
        refine zt_iload_n dX11_runs_23 rfl ?_
        refine zt_callS2r dX11_runs_24 ml_X11_316 (Nat.le_of_ble_eq_true rfl) (c_place) ?_
        refine zt_iload dX11_runs_27 rfl ?_
        refine zt_callV2r dX11_runs_29 ml_X11_343 (zs_38 hS) (Nat.le_of_ble_eq_true rfl) (c_jdf (h := kM h q C) (v := jD (h 47) (30 * t + e) i % 1000000000) hS (kM_rf hR) (by omega) (by omega) (by rw [kM_ne (by decide)])) ?_
        refine zt_goto (tgt := 36) dX11_runs_32 (by decide) ?_
        refine zt_lastore dX11_runs_36 (zs_76 hS) (by decide) (by omega) (by omega) (by omega) ?_
        refine zt_iinc_5 dX11_runs_37 (by decide) rfl ?_
        refine zt_goto (tgt := 3) dX11_runs_40 (by decide) ?_
        rw [kM_u]
        exact ih (i + 1) _ (by omega) (by omega) (by omega) (fun y a b => by show (if y = i then _ else _) = _; by_cases z : y = i; (rw [if_pos z, z]; exact (if_pos (by omega)).symm); (rw [if_neg z]; exact hq y a (by omega)))

set_option maxRecDepth 100000 in
set_option maxHeartbeats 4000000 in
theorem l_kr2 {d n : Nat} {sh : zSh} {h : zMem} {t e g x : Int} {R : Int → Int} (hS : zShp sh) (hR : zRf h) (hTk : vTok h) (ht : 0 ≤ t ∧ t < 5) (hE : 4 ≤ h 46 t ∧ h 46 t ≤ 30) (hg : 1 ≤ g ∧ g ≤ 4) (he : 0 ≤ e ∧ e + g < h 46 t) (hx : 0 ≤ x ∧ x ≤ 99)  : ∀ (k : Nat) (j : Int) (c : Int → Int) (D : Int → Int) (C : Int → Int), h 46 t - j < (k : Int) → e ≤ j → j ≤ h 46 t → cRg c → (∀ k, 0 ≤ k → k ≤ 4 → c k = D k) → lRg C → R = kRun h t x e g (h 46 t - j).toNat j D C → zT yX11_runs cX11_runs 11 none (d + 1) 0 0 (fun r n1 sh1 h1 => r = none ∧ n1 = n ∧ sh1 = sh ∧ ∃ c1 : Int → Int, h1 = kM h c1 R) 46 [some (2, 38), some (0, t), some (0, e), some (0, g), some (0, x), some (0, j), none, none, none, none, none] [] n sh (kM h c C) := by
  intro k
  induction k with
  | zero => intros; exfalso; omega
  | succ k ih =>
    intro j c D C hk h0 h1 hcr hcc hL hr
    refine zt_iload dX11_runs_46 rfl ?_
    refine zt_aload_n dX11_runs_48 rfl ?_
    refine zt_getv dX11_runs_49 fl_X11_32 (zs_38 hS) (rf_38_18 (kM_rf hR)) ?_
    refine zt_iload_n dX11_runs_52 rfl ?_
    refine zt_ialoadv (v := h 46 t) dX11_runs_53 (zs_46 hS) (by decide) (by omega) (by omega) (congrFun (kM_ne (by decide)) _) ?_
    refine zt_icmp_ge (tgt := 217) dX11_runs_54 (by decide) (by omega) (by omega) (fun c_54 => ?_) (fun c_54 => ?_)
    · exact zt_vret dX11_runs_217 ⟨rfl, rfl, rfl, c, by rw [hr, show (h 46 t - j).toNat = 0 by omega]; rfl⟩
    · have hv := hTk (30 * t + j) (by omega) (by omega)
      refine zt_aload_n dX11_runs_57 rfl ?_
      refine zt_getv dX11_runs_58 fl_X11_35 (zs_38 hS) (rf_38_19 (kM_rf hR)) ?_
      refine zt_iload_n dX11_runs_61 rfl ?_
      refine zt_iload dX11_runs_62 rfl ?_
      refine zt_callS2r dX11_runs_64 ml_X11_316 (Nat.le_of_ble_eq_true rfl) (c_place) ?_
      refine zt_ialoadv (v := h 47 (30 * t + j)) dX11_runs_67 (zs_47 hS) (by decide) (by omega) (by omega) (congrFun (kM_ne (by decide)) _) ?_
      refine zt_istore_6 dX11_runs_68 (by decide) rfl ?_
      refine zt_iload dX11_runs_70 rfl ?_
      refine zt_ldc_w dX11_runs_72 kc_X11_283 ?_
      refine zt_icmp_ne (tgt := 84) dX11_runs_75 (by decide) (by omega) (by decide) (fun c_75 => ?_) (fun c_75 => ?_)
      · refine zt_aload_n dX11_runs_84 rfl ?_
        refine zt_getv dX11_runs_85 fl_X11_128 (zs_38 hS) (rf_38_57 (kM_rf hR)) ?_
        refine zt_iconst dX11_runs_88 ?_
        refine zt_laloadv (v := c 0) dX11_runs_89 (zs_76 hS) (by decide) (by decide) (by decide) (congrFun kM_76 _) ?_
        refine zt_callS1r dX11_runs_90 ml_X11_372 (Nat.le_of_ble_eq_true rfl) (c_mshown (by have := hcr 0 (by decide) (by decide); omega)) ?_
        have hz := zsho_r (hcr 0 (by decide) (by decide))
        refine zt_i2l dX11_runs_93 (by omega) ?_
        refine zt_iload dX11_runs_94 rfl ?_
        refine zt_i2l dX11_runs_96 (by omega) ?_
        refine zt_lsub dX11_runs_97 ?_
        refine zt_lstore_7 dX11_runs_98 (by decide) rfl ?_
        refine zt_lload dX11_runs_100 rfl ?_
        refine zt_iload dX11_runs_102 rfl ?_
        refine zt_ineg dX11_runs_104 ?_
        refine zt_i2l dX11_runs_105 (by omega) ?_
        refine zt_iload dX11_runs_106 rfl ?_
        refine zt_i2l dX11_runs_108 (by omega) ?_
        refine zt_callS3r dX11_runs_109 ml_X11_143 (Nat.le_of_ble_eq_true rfl) (c_min_ (x := (zsho (c 0)) - (h 47 (30 * t + j))) (y := -x) (z := x) (by omega) (by omega) (by omega)) ?_
        refine zt_ifb_ne (tgt := 116) dX11_runs_112 (by decide) (fun c_112 => ?_) (fun c_112 => ?_)
        · have hC1 := hL (j + 1) (by omega) (by omega)
          have hC2 := hL e (by omega) (by omega)
          have q0 := hcr 0 (by decide) (by decide)
          have q1 := hcr 1 (by decide) (by decide)
          have q2 := hcr 2 (by decide) (by decide)
          have q3 := hcr 3 (by decide) (by decide)
          have q4 := hcr 4 (by decide) (by decide)
          refine zt_bipush dX11_runs_116 (by decide) ?_
          refine zt_iconst dX11_runs_118 ?_
          refine zt_iload_n dX11_runs_119 rfl ?_
          refine zt_imul dX11_runs_120 ?_
          refine zt_iadd dX11_runs_121 ?_
          refine zt_iload dX11_runs_122 rfl ?_
          refine zt_iadd dX11_runs_124 ?_
          refine zt_iload_n dX11_runs_125 rfl ?_
          refine zt_isub dX11_runs_126 ?_
          refine zt_aload_n dX11_runs_127 rfl ?_
          refine zt_getv dX11_runs_128 fl_X11_125 (zs_38 hS) (rf_38_56 (kM_rf hR)) ?_
          refine zt_iload dX11_runs_131 rfl ?_
          refine zt_iconst dX11_runs_133 ?_
          refine zt_iadd dX11_runs_134 ?_
          refine zt_ialoadv (v := C (j + 1)) dX11_runs_135 (zs_75 hS) (by decide) (by omega) (by omega) (congrFun kM_75 _) ?_
          refine zt_iadd dX11_runs_136 ?_
          refine zt_istore_9 dX11_runs_137 (by decide) rfl ?_
          refine zt_iload dX11_runs_139 rfl ?_
          refine zt_iload_n dX11_runs_141 rfl ?_
          refine zt_iload_n dX11_runs_142 rfl ?_
          refine zt_iadd dX11_runs_143 ?_
          refine zt_icmp_lt (tgt := 166) dX11_runs_144 (by decide) (by omega) (by omega) (fun c_144 => ?_) (fun c_144 => ?_)
          · refine zt_iconst dX11_runs_166 ?_
            refine zt_istore_10 dX11_runs_167 (by decide) rfl ?_
            refine zt_iload dX11_runs_169 rfl ?_
            refine zt_iconst dX11_runs_171 ?_
            refine zt_iadd dX11_runs_172 ?_
            refine zt_topv (v := 1) (by decide) ?_
            refine zt_iconst dX11_runs_173 ?_
            refine zt_icmp_ge (tgt := 211) dX11_runs_174 (by decide) (by decide) (by decide) (fun q => absurd q (by decide)) (fun c_174 => ?_)
            refine zt_aload_n dX11_runs_177 rfl ?_
            refine zt_getv dX11_runs_178 fl_X11_128 (zs_38 hS) (rf_38_57 (kM_rf hR)) ?_
            refine zt_iload dX11_runs_181 rfl ?_
            refine zt_aload_n dX11_runs_183 rfl ?_
            refine zt_getv dX11_runs_184 fl_X11_128 (zs_38 hS) (rf_38_57 (kM_rf hR)) ?_
            refine zt_iload dX11_runs_187 rfl ?_
            refine zt_laloadv (v := c 0) dX11_runs_189 (zs_76 hS) (by decide) (by decide) (by decide) (congrFun kM_76 _) ?_
            refine zt_aload_n dX11_runs_190 rfl ?_
            refine zt_getv dX11_runs_191 fl_X11_128 (zs_38 hS) (rf_38_57 (kM_rf hR)) ?_
            refine zt_iload dX11_runs_194 rfl ?_
            refine zt_iconst dX11_runs_196 ?_
            refine zt_iadd dX11_runs_197 ?_
            refine zt_topv (v := 1) (by decide) ?_
            refine zt_laloadv (v := c 1) dX11_runs_198 (zs_76 hS) (by decide) (by decide) (by decide) (congrFun kM_76 _) ?_
            refine zt_ladd dX11_runs_199 ?_
            refine zt_ldc2 dX11_runs_200 kc_X11_248 ?_
            refine zt_lrem dX11_runs_203 (by omega) (by decide) (by decide) ?_
            refine zt_topv (ztm_p (by decide) (by omega)).1 ?_
            refine zt_lastore dX11_runs_204 (zs_76 hS) (by decide) (by decide) (by decide) (by omega) ?_
            refine zt_iincv_10 (v := 1) dX11_runs_205 (by decide) rfl (by decide) ?_
            refine zt_goto (tgt := 169) dX11_runs_208 (by decide) ?_
            refine zt_iload dX11_runs_169 rfl ?_
            refine zt_iconst dX11_runs_171 ?_
            refine zt_iadd dX11_runs_172 ?_
            refine zt_topv (v := 2) (by decide) ?_
            refine zt_iconst dX11_runs_173 ?_
            refine zt_icmp_ge (tgt := 211) dX11_runs_174 (by decide) (by decide) (by decide) (fun q => absurd q (by decide)) (fun c_174 => ?_)
            refine zt_aload_n dX11_runs_177 rfl ?_
            refine zt_getv dX11_runs_178 fl_X11_128 (zs_38 hS) (rf_38_57 ((kM_rf hR).upA (by decide))) ?_
            refine zt_iload dX11_runs_181 rfl ?_
            refine zt_aload_n dX11_runs_183 rfl ?_
            refine zt_getv dX11_runs_184 fl_X11_128 (zs_38 hS) (rf_38_57 ((kM_rf hR).upA (by decide))) ?_
            refine zt_iload dX11_runs_187 rfl ?_
            refine zt_laloadv (v := c 1) dX11_runs_189 (zs_76 hS) (by decide) (by decide) (by decide) ((zupJ (by decide)).trans (congrFun kM_76 _)) ?_
            refine zt_aload_n dX11_runs_190 rfl ?_
            refine zt_getv dX11_runs_191 fl_X11_128 (zs_38 hS) (rf_38_57 ((kM_rf hR).upA (by decide))) ?_
            refine zt_iload dX11_runs_194 rfl ?_
            refine zt_iconst dX11_runs_196 ?_
            refine zt_iadd dX11_runs_197 ?_
            refine zt_topv (v := 2) (by decide) ?_
            refine zt_laloadv (v := c 2) dX11_runs_198 (zs_76 hS) (by decide) (by decide) (by decide) ((zupJ (by decide)).trans (congrFun kM_76 _)) ?_
            refine zt_ladd dX11_runs_199 ?_
            refine zt_ldc2 dX11_runs_200 kc_X11_248 ?_
            refine zt_lrem dX11_runs_203 (by omega) (by decide) (by decide) ?_
            refine zt_topv (ztm_p (by decide) (by omega)).1 ?_
            refine zt_lastore dX11_runs_204 (zs_76 hS) (by decide) (by decide) (by decide) (by omega) ?_
            refine zt_iincv_10 (v := 2) dX11_runs_205 (by decide) rfl (by decide) ?_
            refine zt_goto (tgt := 169) dX11_runs_208 (by decide) ?_
            refine zt_iload dX11_runs_169 rfl ?_
            refine zt_iconst dX11_runs_171 ?_
            refine zt_iadd dX11_runs_172 ?_
            refine zt_topv (v := 3) (by decide) ?_
            refine zt_iconst dX11_runs_173 ?_
            refine zt_icmp_ge (tgt := 211) dX11_runs_174 (by decide) (by decide) (by decide) (fun q => absurd q (by decide)) (fun c_174 => ?_)
            refine zt_aload_n dX11_runs_177 rfl ?_
            refine zt_getv dX11_runs_178 fl_X11_128 (zs_38 hS) (rf_38_57 (((kM_rf hR).upA (by decide)).upA (by decide))) ?_
            refine zt_iload dX11_runs_181 rfl ?_
            refine zt_aload_n dX11_runs_183 rfl ?_
            refine zt_getv dX11_runs_184 fl_X11_128 (zs_38 hS) (rf_38_57 (((kM_rf hR).upA (by decide)).upA (by decide))) ?_
            refine zt_iload dX11_runs_187 rfl ?_
            refine zt_laloadv (v := c 2) dX11_runs_189 (zs_76 hS) (by decide) (by decide) (by decide) ((zupJ (by decide)).trans ((zupJ (by decide)).trans (congrFun kM_76 _))) ?_
            refine zt_aload_n dX11_runs_190 rfl ?_
            refine zt_getv dX11_runs_191 fl_X11_128 (zs_38 hS) (rf_38_57 (((kM_rf hR).upA (by decide)).upA (by decide))) ?_
            refine zt_iload dX11_runs_194 rfl ?_
            refine zt_iconst dX11_runs_196 ?_
            refine zt_iadd dX11_runs_197 ?_
            refine zt_topv (v := 3) (by decide) ?_
            refine zt_laloadv (v := c 3) dX11_runs_198 (zs_76 hS) (by decide) (by decide) (by decide) ((zupJ (by decide)).trans ((zupJ (by decide)).trans (congrFun kM_76 _))) ?_
            refine zt_ladd dX11_runs_199 ?_
            refine zt_ldc2 dX11_runs_200 kc_X11_248 ?_
            refine zt_lrem dX11_runs_203 (by omega) (by decide) (by decide) ?_
            refine zt_topv (ztm_p (by decide) (by omega)).1 ?_
            refine zt_lastore dX11_runs_204 (zs_76 hS) (by decide) (by decide) (by decide) (by omega) ?_
            refine zt_iincv_10 (v := 3) dX11_runs_205 (by decide) rfl (by decide) ?_
            refine zt_goto (tgt := 169) dX11_runs_208 (by decide) ?_
            refine zt_iload dX11_runs_169 rfl ?_
            refine zt_iconst dX11_runs_171 ?_
            refine zt_iadd dX11_runs_172 ?_
            refine zt_topv (v := 4) (by decide) ?_
            refine zt_iconst dX11_runs_173 ?_
            refine zt_icmp_ge (tgt := 211) dX11_runs_174 (by decide) (by decide) (by decide) (fun q => absurd q (by decide)) (fun c_174 => ?_)
            refine zt_aload_n dX11_runs_177 rfl ?_
            refine zt_getv dX11_runs_178 fl_X11_128 (zs_38 hS) (rf_38_57 ((((kM_rf hR).upA (by decide)).upA (by decide)).upA (by decide))) ?_
            refine zt_iload dX11_runs_181 rfl ?_
            refine zt_aload_n dX11_runs_183 rfl ?_
            refine zt_getv dX11_runs_184 fl_X11_128 (zs_38 hS) (rf_38_57 ((((kM_rf hR).upA (by decide)).upA (by decide)).upA (by decide))) ?_
            refine zt_iload dX11_runs_187 rfl ?_
            refine zt_laloadv (v := c 3) dX11_runs_189 (zs_76 hS) (by decide) (by decide) (by decide) ((zupJ (by decide)).trans ((zupJ (by decide)).trans ((zupJ (by decide)).trans (congrFun kM_76 _)))) ?_
            refine zt_aload_n dX11_runs_190 rfl ?_
            refine zt_getv dX11_runs_191 fl_X11_128 (zs_38 hS) (rf_38_57 ((((kM_rf hR).upA (by decide)).upA (by decide)).upA (by decide))) ?_
            refine zt_iload dX11_runs_194 rfl ?_
            refine zt_iconst dX11_runs_196 ?_
            refine zt_iadd dX11_runs_197 ?_
            refine zt_topv (v := 4) (by decide) ?_
            refine zt_laloadv (v := c 4) dX11_runs_198 (zs_76 hS) (by decide) (by decide) (by decide) ((zupJ (by decide)).trans ((zupJ (by decide)).trans ((zupJ (by decide)).trans (congrFun kM_76 _)))) ?_
            refine zt_ladd dX11_runs_199 ?_
            refine zt_ldc2 dX11_runs_200 kc_X11_248 ?_
            refine zt_lrem dX11_runs_203 (by omega) (by decide) (by decide) ?_
            refine zt_topv (ztm_p (by decide) (by omega)).1 ?_
            refine zt_lastore dX11_runs_204 (zs_76 hS) (by decide) (by decide) (by decide) (by omega) ?_
            refine zt_iincv_10 (v := 4) dX11_runs_205 (by decide) rfl (by decide) ?_
            refine zt_goto (tgt := 169) dX11_runs_208 (by decide) ?_
            refine zt_iload dX11_runs_169 rfl ?_
            refine zt_iconst dX11_runs_171 ?_
            refine zt_iadd dX11_runs_172 ?_
            refine zt_topv (v := 5) (by decide) ?_
            refine zt_iconst dX11_runs_173 ?_
            refine zt_icmp_ge (tgt := 211) dX11_runs_174 (by decide) (by decide) (by decide) (fun c_174 => ?_) (fun q => absurd q (by decide))
            refine zt_iinc_5 dX11_runs_211 (by decide) rfl ?_
            refine zt_goto (tgt := 46) dX11_runs_214 (by decide) ?_
            refine zt_kill_6 ?_
            refine zt_kill_7 ?_
            refine zt_kill_9 ?_
            refine zt_kill_10 ?_
            rw [kAdd_up]
            have hgd : kGd h t x j D := (kGd_c (hcc 0 (by decide) (by decide))).mpr ⟨c_75, c_112⟩
            exact ih (j + 1) (cAdd c) (cAdd D) C (by omega) (by omega) (by omega) (cAdd_rg hcr) (cAdd_congr hcc) hL (by rw [hr, show (h 46 t - j).toNat = (h 46 t - (j + 1)).toNat + 1 by omega]; show (if kGd h t x j D then _ else _) = _; rw [if_pos hgd]; first | rw [if_neg (by omega)] | rw [if_pos (by omega), lOf_no2 (by omega)])
          · refine zt_iload dX11_runs_147 rfl ?_
            refine zt_aload_n dX11_runs_149 rfl ?_
            refine zt_getv dX11_runs_150 fl_X11_125 (zs_38 hS) (rf_38_56 (kM_rf hR)) ?_
            refine zt_iload_n dX11_runs_153 rfl ?_
            refine zt_ialoadv (v := C e) dX11_runs_154 (zs_75 hS) (by decide) (by omega) (by omega) (congrFun kM_75 _) ?_
            refine zt_icmp_ge (tgt := 166) dX11_runs_155 (by decide) (by omega) (by omega) (fun c_155 => ?_) (fun c_155 => ?_)
            · refine zt_iconst dX11_runs_166 ?_
              refine zt_istore_10 dX11_runs_167 (by decide) rfl ?_
              refine zt_iload dX11_runs_169 rfl ?_
              refine zt_iconst dX11_runs_171 ?_
              refine zt_iadd dX11_runs_172 ?_
              refine zt_topv (v := 1) (by decide) ?_
              refine zt_iconst dX11_runs_173 ?_
              refine zt_icmp_ge (tgt := 211) dX11_runs_174 (by decide) (by decide) (by decide) (fun q => absurd q (by decide)) (fun c_174 => ?_)
              refine zt_aload_n dX11_runs_177 rfl ?_
              refine zt_getv dX11_runs_178 fl_X11_128 (zs_38 hS) (rf_38_57 (kM_rf hR)) ?_
              refine zt_iload dX11_runs_181 rfl ?_
              refine zt_aload_n dX11_runs_183 rfl ?_
              refine zt_getv dX11_runs_184 fl_X11_128 (zs_38 hS) (rf_38_57 (kM_rf hR)) ?_
              refine zt_iload dX11_runs_187 rfl ?_
              refine zt_laloadv (v := c 0) dX11_runs_189 (zs_76 hS) (by decide) (by decide) (by decide) (congrFun kM_76 _) ?_
              refine zt_aload_n dX11_runs_190 rfl ?_
              refine zt_getv dX11_runs_191 fl_X11_128 (zs_38 hS) (rf_38_57 (kM_rf hR)) ?_
              refine zt_iload dX11_runs_194 rfl ?_
              refine zt_iconst dX11_runs_196 ?_
              refine zt_iadd dX11_runs_197 ?_
              refine zt_topv (v := 1) (by decide) ?_
              refine zt_laloadv (v := c 1) dX11_runs_198 (zs_76 hS) (by decide) (by decide) (by decide) (congrFun kM_76 _) ?_
              refine zt_ladd dX11_runs_199 ?_
              refine zt_ldc2 dX11_runs_200 kc_X11_248 ?_
              refine zt_lrem dX11_runs_203 (by omega) (by decide) (by decide) ?_
              refine zt_topv (ztm_p (by decide) (by omega)).1 ?_
              refine zt_lastore dX11_runs_204 (zs_76 hS) (by decide) (by decide) (by decide) (by omega) ?_
              refine zt_iincv_10 (v := 1) dX11_runs_205 (by decide) rfl (by decide) ?_
              refine zt_goto (tgt := 169) dX11_runs_208 (by decide) ?_
              refine zt_iload dX11_runs_169 rfl ?_
              refine zt_iconst dX11_runs_171 ?_
              refine zt_iadd dX11_runs_172 ?_
              refine zt_topv (v := 2) (by decide) ?_
              refine zt_iconst dX11_runs_173 ?_
              refine zt_icmp_ge (tgt := 211) dX11_runs_174 (by decide) (by decide) (by decide) (fun q => absurd q (by decide)) (fun c_174 => ?_)
              refine zt_aload_n dX11_runs_177 rfl ?_
              refine zt_getv dX11_runs_178 fl_X11_128 (zs_38 hS) (rf_38_57 ((kM_rf hR).upA (by decide))) ?_
              refine zt_iload dX11_runs_181 rfl ?_
              refine zt_aload_n dX11_runs_183 rfl ?_
              refine zt_getv dX11_runs_184 fl_X11_128 (zs_38 hS) (rf_38_57 ((kM_rf hR).upA (by decide))) ?_
              refine zt_iload dX11_runs_187 rfl ?_
              refine zt_laloadv (v := c 1) dX11_runs_189 (zs_76 hS) (by decide) (by decide) (by decide) ((zupJ (by decide)).trans (congrFun kM_76 _)) ?_
              refine zt_aload_n dX11_runs_190 rfl ?_
              refine zt_getv dX11_runs_191 fl_X11_128 (zs_38 hS) (rf_38_57 ((kM_rf hR).upA (by decide))) ?_
              refine zt_iload dX11_runs_194 rfl ?_
              refine zt_iconst dX11_runs_196 ?_
              refine zt_iadd dX11_runs_197 ?_
              refine zt_topv (v := 2) (by decide) ?_
              refine zt_laloadv (v := c 2) dX11_runs_198 (zs_76 hS) (by decide) (by decide) (by decide) ((zupJ (by decide)).trans (congrFun kM_76 _)) ?_
              refine zt_ladd dX11_runs_199 ?_
              refine zt_ldc2 dX11_runs_200 kc_X11_248 ?_
              refine zt_lrem dX11_runs_203 (by omega) (by decide) (by decide) ?_
              refine zt_topv (ztm_p (by decide) (by omega)).1 ?_
              refine zt_lastore dX11_runs_204 (zs_76 hS) (by decide) (by decide) (by decide) (by omega) ?_
              refine zt_iincv_10 (v := 2) dX11_runs_205 (by decide) rfl (by decide) ?_
              refine zt_goto (tgt := 169) dX11_runs_208 (by decide) ?_
              refine zt_iload dX11_runs_169 rfl ?_
              refine zt_iconst dX11_runs_171 ?_
              refine zt_iadd dX11_runs_172 ?_
              refine zt_topv (v := 3) (by decide) ?_
              refine zt_iconst dX11_runs_173 ?_
              refine zt_icmp_ge (tgt := 211) dX11_runs_174 (by decide) (by decide) (by decide) (fun q => absurd q (by decide)) (fun c_174 => ?_)
              refine zt_aload_n dX11_runs_177 rfl ?_
              refine zt_getv dX11_runs_178 fl_X11_128 (zs_38 hS) (rf_38_57 (((kM_rf hR).upA (by decide)).upA (by decide))) ?_
              refine zt_iload dX11_runs_181 rfl ?_
              refine zt_aload_n dX11_runs_183 rfl ?_
              refine zt_getv dX11_runs_184 fl_X11_128 (zs_38 hS) (rf_38_57 (((kM_rf hR).upA (by decide)).upA (by decide))) ?_
              refine zt_iload dX11_runs_187 rfl ?_
              refine zt_laloadv (v := c 2) dX11_runs_189 (zs_76 hS) (by decide) (by decide) (by decide) ((zupJ (by decide)).trans ((zupJ (by decide)).trans (congrFun kM_76 _))) ?_
              refine zt_aload_n dX11_runs_190 rfl ?_
              refine zt_getv dX11_runs_191 fl_X11_128 (zs_38 hS) (rf_38_57 (((kM_rf hR).upA (by decide)).upA (by decide))) ?_
              refine zt_iload dX11_runs_194 rfl ?_
              refine zt_iconst dX11_runs_196 ?_
              refine zt_iadd dX11_runs_197 ?_
              refine zt_topv (v := 3) (by decide) ?_
              refine zt_laloadv (v := c 3) dX11_runs_198 (zs_76 hS) (by decide) (by decide) (by decide) ((zupJ (by decide)).trans ((zupJ (by decide)).trans (congrFun kM_76 _))) ?_
              refine zt_ladd dX11_runs_199 ?_
              refine zt_ldc2 dX11_runs_200 kc_X11_248 ?_
              refine zt_lrem dX11_runs_203 (by omega) (by decide) (by decide) ?_
              refine zt_topv (ztm_p (by decide) (by omega)).1 ?_
              refine zt_lastore dX11_runs_204 (zs_76 hS) (by decide) (by decide) (by decide) (by omega) ?_
              refine zt_iincv_10 (v := 3) dX11_runs_205 (by decide) rfl (by decide) ?_
              refine zt_goto (tgt := 169) dX11_runs_208 (by decide) ?_
              refine zt_iload dX11_runs_169 rfl ?_
              refine zt_iconst dX11_runs_171 ?_
              refine zt_iadd dX11_runs_172 ?_
              refine zt_topv (v := 4) (by decide) ?_
              refine zt_iconst dX11_runs_173 ?_
              refine zt_icmp_ge (tgt := 211) dX11_runs_174 (by decide) (by decide) (by decide) (fun q => absurd q (by decide)) (fun c_174 => ?_)
              refine zt_aload_n dX11_runs_177 rfl ?_
              refine zt_getv dX11_runs_178 fl_X11_128 (zs_38 hS) (rf_38_57 ((((kM_rf hR).upA (by decide)).upA (by decide)).upA (by decide))) ?_
              refine zt_iload dX11_runs_181 rfl ?_
              refine zt_aload_n dX11_runs_183 rfl ?_
              refine zt_getv dX11_runs_184 fl_X11_128 (zs_38 hS) (rf_38_57 ((((kM_rf hR).upA (by decide)).upA (by decide)).upA (by decide))) ?_
              refine zt_iload dX11_runs_187 rfl ?_
              refine zt_laloadv (v := c 3) dX11_runs_189 (zs_76 hS) (by decide) (by decide) (by decide) ((zupJ (by decide)).trans ((zupJ (by decide)).trans ((zupJ (by decide)).trans (congrFun kM_76 _)))) ?_
              refine zt_aload_n dX11_runs_190 rfl ?_
              refine zt_getv dX11_runs_191 fl_X11_128 (zs_38 hS) (rf_38_57 ((((kM_rf hR).upA (by decide)).upA (by decide)).upA (by decide))) ?_
              refine zt_iload dX11_runs_194 rfl ?_
              refine zt_iconst dX11_runs_196 ?_
              refine zt_iadd dX11_runs_197 ?_
              refine zt_topv (v := 4) (by decide) ?_
              refine zt_laloadv (v := c 4) dX11_runs_198 (zs_76 hS) (by decide) (by decide) (by decide) ((zupJ (by decide)).trans ((zupJ (by decide)).trans ((zupJ (by decide)).trans (congrFun kM_76 _)))) ?_
              refine zt_ladd dX11_runs_199 ?_
              refine zt_ldc2 dX11_runs_200 kc_X11_248 ?_
              refine zt_lrem dX11_runs_203 (by omega) (by decide) (by decide) ?_
              refine zt_topv (ztm_p (by decide) (by omega)).1 ?_
              refine zt_lastore dX11_runs_204 (zs_76 hS) (by decide) (by decide) (by decide) (by omega) ?_
              refine zt_iincv_10 (v := 4) dX11_runs_205 (by decide) rfl (by decide) ?_
              refine zt_goto (tgt := 169) dX11_runs_208 (by decide) ?_
              refine zt_iload dX11_runs_169 rfl ?_
              refine zt_iconst dX11_runs_171 ?_
              refine zt_iadd dX11_runs_172 ?_
              refine zt_topv (v := 5) (by decide) ?_
              refine zt_iconst dX11_runs_173 ?_
              refine zt_icmp_ge (tgt := 211) dX11_runs_174 (by decide) (by decide) (by decide) (fun c_174 => ?_) (fun q => absurd q (by decide))
              refine zt_iinc_5 dX11_runs_211 (by decide) rfl ?_
              refine zt_goto (tgt := 46) dX11_runs_214 (by decide) ?_
              refine zt_kill_6 ?_
              refine zt_kill_7 ?_
              refine zt_kill_9 ?_
              refine zt_kill_10 ?_
              rw [kAdd_up]
              have hgd : kGd h t x j D := (kGd_c (hcc 0 (by decide) (by decide))).mpr ⟨c_75, c_112⟩
              exact ih (j + 1) (cAdd c) (cAdd D) C (by omega) (by omega) (by omega) (cAdd_rg hcr) (cAdd_congr hcc) hL (by rw [hr, show (h 46 t - j).toNat = (h 46 t - (j + 1)).toNat + 1 by omega]; show (if kGd h t x j D then _ else _) = _; rw [if_pos hgd]; first | rw [if_neg (by omega)] | rw [if_pos (by omega), lOf_no2 (by omega)])
            · refine zt_aload_n dX11_runs_158 rfl ?_
              refine zt_getv dX11_runs_159 fl_X11_125 (zs_38 hS) (rf_38_56 (kM_rf hR)) ?_
              refine zt_iload_n dX11_runs_162 rfl ?_
              refine zt_iload dX11_runs_163 rfl ?_
              refine zt_iastore dX11_runs_165 (zs_75 hS) (by decide) (by omega) (by omega) (by omega) ?_
              rw [kOf_up (by omega)]
              refine zt_iconst dX11_runs_166 ?_
              refine zt_istore_10 dX11_runs_167 (by decide) rfl ?_
              refine zt_iload dX11_runs_169 rfl ?_
              refine zt_iconst dX11_runs_171 ?_
              refine zt_iadd dX11_runs_172 ?_
              refine zt_topv (v := 1) (by decide) ?_
              refine zt_iconst dX11_runs_173 ?_
              refine zt_icmp_ge (tgt := 211) dX11_runs_174 (by decide) (by decide) (by decide) (fun q => absurd q (by decide)) (fun c_174 => ?_)
              refine zt_aload_n dX11_runs_177 rfl ?_
              refine zt_getv dX11_runs_178 fl_X11_128 (zs_38 hS) (rf_38_57 (kM_rf hR)) ?_
              refine zt_iload dX11_runs_181 rfl ?_
              refine zt_aload_n dX11_runs_183 rfl ?_
              refine zt_getv dX11_runs_184 fl_X11_128 (zs_38 hS) (rf_38_57 (kM_rf hR)) ?_
              refine zt_iload dX11_runs_187 rfl ?_
              refine zt_laloadv (v := c 0) dX11_runs_189 (zs_76 hS) (by decide) (by decide) (by decide) (congrFun kM_76 _) ?_
              refine zt_aload_n dX11_runs_190 rfl ?_
              refine zt_getv dX11_runs_191 fl_X11_128 (zs_38 hS) (rf_38_57 (kM_rf hR)) ?_
              refine zt_iload dX11_runs_194 rfl ?_
              refine zt_iconst dX11_runs_196 ?_
              refine zt_iadd dX11_runs_197 ?_
              refine zt_topv (v := 1) (by decide) ?_
              refine zt_laloadv (v := c 1) dX11_runs_198 (zs_76 hS) (by decide) (by decide) (by decide) (congrFun kM_76 _) ?_
              refine zt_ladd dX11_runs_199 ?_
              refine zt_ldc2 dX11_runs_200 kc_X11_248 ?_
              refine zt_lrem dX11_runs_203 (by omega) (by decide) (by decide) ?_
              refine zt_topv (ztm_p (by decide) (by omega)).1 ?_
              refine zt_lastore dX11_runs_204 (zs_76 hS) (by decide) (by decide) (by decide) (by omega) ?_
              refine zt_iincv_10 (v := 1) dX11_runs_205 (by decide) rfl (by decide) ?_
              refine zt_goto (tgt := 169) dX11_runs_208 (by decide) ?_
              refine zt_iload dX11_runs_169 rfl ?_
              refine zt_iconst dX11_runs_171 ?_
              refine zt_iadd dX11_runs_172 ?_
              refine zt_topv (v := 2) (by decide) ?_
              refine zt_iconst dX11_runs_173 ?_
              refine zt_icmp_ge (tgt := 211) dX11_runs_174 (by decide) (by decide) (by decide) (fun q => absurd q (by decide)) (fun c_174 => ?_)
              refine zt_aload_n dX11_runs_177 rfl ?_
              refine zt_getv dX11_runs_178 fl_X11_128 (zs_38 hS) (rf_38_57 ((kM_rf hR).upA (by decide))) ?_
              refine zt_iload dX11_runs_181 rfl ?_
              refine zt_aload_n dX11_runs_183 rfl ?_
              refine zt_getv dX11_runs_184 fl_X11_128 (zs_38 hS) (rf_38_57 ((kM_rf hR).upA (by decide))) ?_
              refine zt_iload dX11_runs_187 rfl ?_
              refine zt_laloadv (v := c 1) dX11_runs_189 (zs_76 hS) (by decide) (by decide) (by decide) ((zupJ (by decide)).trans (congrFun kM_76 _)) ?_
              refine zt_aload_n dX11_runs_190 rfl ?_
              refine zt_getv dX11_runs_191 fl_X11_128 (zs_38 hS) (rf_38_57 ((kM_rf hR).upA (by decide))) ?_
              refine zt_iload dX11_runs_194 rfl ?_
              refine zt_iconst dX11_runs_196 ?_
              refine zt_iadd dX11_runs_197 ?_
              refine zt_topv (v := 2) (by decide) ?_
              refine zt_laloadv (v := c 2) dX11_runs_198 (zs_76 hS) (by decide) (by decide) (by decide) ((zupJ (by decide)).trans (congrFun kM_76 _)) ?_
              refine zt_ladd dX11_runs_199 ?_
              refine zt_ldc2 dX11_runs_200 kc_X11_248 ?_
              refine zt_lrem dX11_runs_203 (by omega) (by decide) (by decide) ?_
              refine zt_topv (ztm_p (by decide) (by omega)).1 ?_
              refine zt_lastore dX11_runs_204 (zs_76 hS) (by decide) (by decide) (by decide) (by omega) ?_
              refine zt_iincv_10 (v := 2) dX11_runs_205 (by decide) rfl (by decide) ?_
              refine zt_goto (tgt := 169) dX11_runs_208 (by decide) ?_
              refine zt_iload dX11_runs_169 rfl ?_
              refine zt_iconst dX11_runs_171 ?_
              refine zt_iadd dX11_runs_172 ?_
              refine zt_topv (v := 3) (by decide) ?_
              refine zt_iconst dX11_runs_173 ?_
              refine zt_icmp_ge (tgt := 211) dX11_runs_174 (by decide) (by decide) (by decide) (fun q => absurd q (by decide)) (fun c_174 => ?_)
              refine zt_aload_n dX11_runs_177 rfl ?_
              refine zt_getv dX11_runs_178 fl_X11_128 (zs_38 hS) (rf_38_57 (((kM_rf hR).upA (by decide)).upA (by decide))) ?_
              refine zt_iload dX11_runs_181 rfl ?_
              refine zt_aload_n dX11_runs_183 rfl ?_
              refine zt_getv dX11_runs_184 fl_X11_128 (zs_38 hS) (rf_38_57 (((kM_rf hR).upA (by decide)).upA (by decide))) ?_
              refine zt_iload dX11_runs_187 rfl ?_
              refine zt_laloadv (v := c 2) dX11_runs_189 (zs_76 hS) (by decide) (by decide) (by decide) ((zupJ (by decide)).trans ((zupJ (by decide)).trans (congrFun kM_76 _))) ?_
              refine zt_aload_n dX11_runs_190 rfl ?_
              refine zt_getv dX11_runs_191 fl_X11_128 (zs_38 hS) (rf_38_57 (((kM_rf hR).upA (by decide)).upA (by decide))) ?_
              refine zt_iload dX11_runs_194 rfl ?_
              refine zt_iconst dX11_runs_196 ?_
              refine zt_iadd dX11_runs_197 ?_
              refine zt_topv (v := 3) (by decide) ?_
              refine zt_laloadv (v := c 3) dX11_runs_198 (zs_76 hS) (by decide) (by decide) (by decide) ((zupJ (by decide)).trans ((zupJ (by decide)).trans (congrFun kM_76 _))) ?_
              refine zt_ladd dX11_runs_199 ?_
              refine zt_ldc2 dX11_runs_200 kc_X11_248 ?_
              refine zt_lrem dX11_runs_203 (by omega) (by decide) (by decide) ?_
              refine zt_topv (ztm_p (by decide) (by omega)).1 ?_
              refine zt_lastore dX11_runs_204 (zs_76 hS) (by decide) (by decide) (by decide) (by omega) ?_
              refine zt_iincv_10 (v := 3) dX11_runs_205 (by decide) rfl (by decide) ?_
              refine zt_goto (tgt := 169) dX11_runs_208 (by decide) ?_
              refine zt_iload dX11_runs_169 rfl ?_
              refine zt_iconst dX11_runs_171 ?_
              refine zt_iadd dX11_runs_172 ?_
              refine zt_topv (v := 4) (by decide) ?_
              refine zt_iconst dX11_runs_173 ?_
              refine zt_icmp_ge (tgt := 211) dX11_runs_174 (by decide) (by decide) (by decide) (fun q => absurd q (by decide)) (fun c_174 => ?_)
              refine zt_aload_n dX11_runs_177 rfl ?_
              refine zt_getv dX11_runs_178 fl_X11_128 (zs_38 hS) (rf_38_57 ((((kM_rf hR).upA (by decide)).upA (by decide)).upA (by decide))) ?_
              refine zt_iload dX11_runs_181 rfl ?_
              refine zt_aload_n dX11_runs_183 rfl ?_
              refine zt_getv dX11_runs_184 fl_X11_128 (zs_38 hS) (rf_38_57 ((((kM_rf hR).upA (by decide)).upA (by decide)).upA (by decide))) ?_
              refine zt_iload dX11_runs_187 rfl ?_
              refine zt_laloadv (v := c 3) dX11_runs_189 (zs_76 hS) (by decide) (by decide) (by decide) ((zupJ (by decide)).trans ((zupJ (by decide)).trans ((zupJ (by decide)).trans (congrFun kM_76 _)))) ?_
              refine zt_aload_n dX11_runs_190 rfl ?_
              refine zt_getv dX11_runs_191 fl_X11_128 (zs_38 hS) (rf_38_57 ((((kM_rf hR).upA (by decide)).upA (by decide)).upA (by decide))) ?_
              refine zt_iload dX11_runs_194 rfl ?_
              refine zt_iconst dX11_runs_196 ?_
              refine zt_iadd dX11_runs_197 ?_
              refine zt_topv (v := 4) (by decide) ?_
              refine zt_laloadv (v := c 4) dX11_runs_198 (zs_76 hS) (by decide) (by decide) (by decide) ((zupJ (by decide)).trans ((zupJ (by decide)).trans ((zupJ (by decide)).trans (congrFun kM_76 _)))) ?_
              refine zt_ladd dX11_runs_199 ?_
              refine zt_ldc2 dX11_runs_200 kc_X11_248 ?_
              refine zt_lrem dX11_runs_203 (by omega) (by decide) (by decide) ?_
              refine zt_topv (ztm_p (by decide) (by omega)).1 ?_
              refine zt_lastore dX11_runs_204 (zs_76 hS) (by decide) (by decide) (by decide) (by omega) ?_
              refine zt_iincv_10 (v := 4) dX11_runs_205 (by decide) rfl (by decide) ?_
              refine zt_goto (tgt := 169) dX11_runs_208 (by decide) ?_
              refine zt_iload dX11_runs_169 rfl ?_
              refine zt_iconst dX11_runs_171 ?_
              refine zt_iadd dX11_runs_172 ?_
              refine zt_topv (v := 5) (by decide) ?_
              refine zt_iconst dX11_runs_173 ?_
              refine zt_icmp_ge (tgt := 211) dX11_runs_174 (by decide) (by decide) (by decide) (fun c_174 => ?_) (fun q => absurd q (by decide))
              refine zt_iinc_5 dX11_runs_211 (by decide) rfl ?_
              refine zt_goto (tgt := 46) dX11_runs_214 (by decide) ?_
              refine zt_kill_6 ?_
              refine zt_kill_7 ?_
              refine zt_kill_9 ?_
              refine zt_kill_10 ?_
              rw [kAdd_up]
              have hgd : kGd h t x j D := (kGd_c (hcc 0 (by decide) (by decide))).mpr ⟨c_75, c_112⟩
              exact ih (j + 1) (cAdd c) (cAdd D) _ (by omega) (by omega) (by omega) (cAdd_rg hcr) (cAdd_congr hcc) (lOf_rg hL (by omega) (by omega)) (by rw [hr, show (h 46 t - j).toNat = (h 46 t - (j + 1)).toNat + 1 by omega]; show (if kGd h t x j D then _ else _) = _; rw [if_pos hgd]; rw [if_pos (by omega)])
        · exact zt_vret dX11_runs_115 ⟨rfl, rfl, rfl, c, by rw [hr, show (h 46 t - j).toNat = (h 46 t - (j + 1)).toNat + 1 by omega]; show _ = kM h c (if kGd h t x j D then _ else _); rw [if_neg (fun q => by have q := (kGd_c (hcc 0 (by decide) (by decide))).mp q; omega)]⟩
      · refine zt_ldc2 dX11_runs_78 kc_X11_248 ?_
        refine zt_goto (tgt := 98) dX11_runs_81 (by decide) ?_
        refine zt_lstore_7 dX11_runs_98 (by decide) rfl ?_
        refine zt_lload dX11_runs_100 rfl ?_
        refine zt_iload dX11_runs_102 rfl ?_
        refine zt_ineg dX11_runs_104 ?_
        refine zt_i2l dX11_runs_105 (by omega) ?_
        refine zt_iload dX11_runs_106 rfl ?_
        refine zt_i2l dX11_runs_108 (by omega) ?_
        refine zt_callS3r dX11_runs_109 ml_X11_143 (Nat.le_of_ble_eq_true rfl) (c_min_ (x := 1000000000) (y := -x) (z := x) (by decide) (by omega) (by omega)) ?_
        refine zt_ifb_ne (tgt := 116) dX11_runs_112 (by decide) (fun c_112 => ?_) (fun c_112 => ?_)
        · exfalso
          omega
        · exact zt_vret dX11_runs_115 ⟨rfl, rfl, rfl, c, by rw [hr, show (h 46 t - j).toNat = (h 46 t - (j + 1)).toNat + 1 by omega]; show _ = kM h c (if kGd h t x j D then _ else _); rw [if_neg (fun q => by have q := (kGd_c (hcc 0 (by decide) (by decide))).mp q; omega)]⟩

set_option maxRecDepth 100000 in
set_option maxHeartbeats 4000000 in
theorem c_jruns {d n : Nat} {sh : zSh} {h : zMem} {t e g x : Int} {c C : Int → Int} (hS : zShp sh) (hR : zRf h) (hTk : vTok h) (ht : 0 ≤ t ∧ t < 5) (hE : 4 ≤ h 46 t ∧ h 46 t ≤ 30) (hg : 1 ≤ g ∧ g ≤ 4) (he : 0 ≤ e ∧ e + g < h 46 t) (hx : 0 ≤ x ∧ x ≤ 99) (hL : lRg C) : zM yX11_runs cX11_runs 11 none (d + 1) 0 0 [(2, 38), (0, t), (0, e), (0, g), (0, x)] n sh (kM h c C) (fun r n1 sh1 h1 => r = none ∧ n1 = n ∧ sh1 = sh ∧ ∃ c1 : Int → Int, h1 = kM h c1 (kRun h t x e g (h 46 t - e).toNat e (jDc (h 47) (30 * t + e) g) C)) := by
  refine zM.ofT2 (by decide +kernel) [some (2, 38), some (0, t), some (0, e), some (0, g), some (0, x), none, none, none, none, none, none] rfl (Nat.le_of_ble_eq_true rfl) ?_
  refine zt_iconst dX11_runs_0 ?_
  refine zt_istore_5 dX11_runs_1 (by decide) rfl ?_
  refine l_kr1 hS hR hTk ht hE hg he hx (fun q hq => ?_) 6 0 c (by omega) (by omega) (by omega) (fun y a b => by omega)
  refine zt_iload_n dX11_runs_43 rfl ?_
  refine zt_istore_5 dX11_runs_44 (by decide) rfl ?_
  exact l_kr2 hS hR hTk ht hE hg he hx 31 e q (jDc (h 47) (30 * t + e) g) C (by omega) (by omega) (by omega) (fun k a b => by rw [hq k a b]; exact jDc_in) hq hL rfl
