theorem lOf_le {C : Int → Int} {p v y : Int} : lOf C p v y ≤ C y := by
  unfold lOf; split
  · rename_i q; rw [q.1]; omega
  · exact Int.le_refl _
theorem kRun_rg {h : zMem} {t x e g : Int} (he : 0 ≤ e ∧ e ≤ 30) (hg : 1 ≤ g) : ∀ (k : Nat) (j : Int) (c C : Int → Int), e ≤ j → j + k ≤ 30 → lRg C → lRg (kRun h t x e g k j c C) ∧ ∀ y, kRun h t x e g k j c C y ≤ C y
  | 0, _, _, _, _, _, hL => ⟨hL, fun _ => Int.le_refl _⟩
  | k + 1, j, c, C, h0, h1, hL => by
    show lRg (if kGd h t x j c then _ else _) ∧ ∀ y, (if kGd h t x j c then _ else _ : Int → Int) y ≤ C y
    split
    · have h2 : lRg (if e + g ≤ j then lOf C e (14 + 4 * g + j - e + C (j + 1)) else C) ∧ ∀ y, (if e + g ≤ j then lOf C e (14 + 4 * g + j - e + C (j + 1)) else C) y ≤ C y := by
        split
        · have := hL (j + 1) (by omega) (by omega)
          exact ⟨lOf_rg hL (by omega) (by omega), fun y => lOf_le⟩
        · exact ⟨hL, fun _ => Int.le_refl _⟩
      have h3 := kRun_rg (h := h) (t := t) (x := x) he hg k (j + 1) (cAdd c) _ (by omega) (by omega) h2.1
      exact ⟨h3.1, fun y => Int.le_trans (h3.2 y) (h2.2 y)⟩
    · exact ⟨hL, fun _ => Int.le_refl _⟩
def kRuns (h : zMem) (t x i g : Int) (C : Int → Int) : Int → Int := if jCs h t i g then kRun h t x i g (h 46 t - i).toNat i (jDc (h 47) (30 * t + i) g) C else C
theorem kRuns_rg {h : zMem} {t x i g : Int} {C : Int → Int} (hE : h 46 t ≤ 30) (hi : 0 ≤ i ∧ i < h 46 t) (hg : 1 ≤ g) (hL : lRg C) : lRg (kRuns h t x i g C) ∧ ∀ y, kRuns h t x i g C y ≤ C y := by
  unfold kRuns; split
  · exact kRun_rg (by omega) hg _ _ _ _ (Int.le_refl _) (by omega) hL
  · exact ⟨hL, fun _ => Int.le_refl _⟩
def kset (C : Int → Int) (i v : Int) : Int → Int := fun y => if y = i then v else C y
theorem kset_rg {C : Int → Int} {i v : Int} (hL : lRg C) (hv : 0 ≤ v ∧ v ≤ 900) : lRg (kset C i v) := fun y a b => by
  unfold kset; split
  · exact hv
  · exact hL y a b
theorem kset_at {C : Int → Int} {i v : Int} : kset C i v i = v := if_pos rfl
def kStep (h : zMem) (t x i : Int) (C : Int → Int) : Int → Int := if h 47 (30 * t + i) = -2147483648 then kset C i (C (i + 1)) else zFor (kRuns h t x i) 1 5 (kset C i (C (i + 1) + 30))
def kDn (h : zMem) (t x : Int) : Nat → (Int → Int) → (Int → Int)
  | 0, C => C
  | k + 1, C => kDn h t x k (kStep h t x k C)
theorem kDn_s {h : zMem} {t x i : Int} {C : Int → Int} (hi : 0 ≤ i) : kDn h t x (i + 1).toNat C = kDn h t x (i + -1 + 1).toNat (kStep h t x i C) := by
  rw [show (i + 1).toNat = i.toNat + 1 by omega, show (i + -1 + 1).toNat = i.toNat by omega]
  show kDn h t x i.toNat (kStep h t x (i.toNat : Int) C) = _
  rw [show ((i.toNat : Nat) : Int) = i by omega]
theorem kM_mB {h : zMem} {c C : Int → Int} (hB : mB h) : mB (kM h c C) := hB
theorem c_jcsk {d n : Nat} {sh : zSh} {h : zMem} {c C : Int → Int} {t e g : Int} (hS : zShp sh) (hR : zRf h) (hB : mB h) (ht : zi32 t) (he : zi32 e) (hg : zi32 g) : zF yX11_canSet cX11_canSet 5 (some .boolean) (d + 3) 0 0 [(2, 38), (0, t), (0, e), (0, g)] n sh (kM h c C) (some (0, zb (jCs h t e g))) n sh (kM h c C) := c_jcs (h := kM h c C) hS (kM_rf hR) (kM_mB hB) ht he hg

set_option maxRecDepth 100000 in
set_option maxHeartbeats 4000000 in
theorem l_ks1 {d n : Nat} {sh : zSh} {h : zMem} {t x i : Int} {Q : Option zV → Nat → zSh → zMem → Prop} {R : Int → Int} {B : Int} (hS : zShp sh) (hR : zRf h) (hB : mB h) (hTk : vTok h) (ht : (0 ≤ t ∧ t < h 38 17) ∧ t < 5) (hE : 4 ≤ h 46 t ∧ h 46 t ≤ 30) (hx : 0 ≤ x ∧ x ≤ 99) (hi : 0 ≤ i ∧ i < h 46 t) (hK : lRg R → R i ≤ B → ∀ c1 : Int → Int, zT yX11_settings cX11_settings 6 (some .int) (d + 4) 0 0 Q 131 [some (2, 38), some (0, t), some (0, x), some (0, h 46 t), some (0, i), none] [] n sh (kM h c1 R))  : ∀ (k : Nat) (g : Int) (c : Int → Int) (C : Int → Int), 5 - g < (k : Int) → 1 ≤ g → g ≤ 5 → lRg C → C i ≤ B → R = zFor (kRuns h t x i) g 5 C → zT yX11_settings cX11_settings 6 (some .int) (d + 4) 0 0 Q 97 [some (2, 38), some (0, t), some (0, x), some (0, h 46 t), some (0, i), some (0, g)] [] n sh (kM h c C) := by
  intro k
  induction k with
  | zero => intros; exfalso; omega
  | succ k ih =>
    intro g c C hk h0 h1 hL hBb hr
    refine zt_iload dX11_settings_97 rfl ?_
    refine zt_iconst dX11_settings_99 ?_
    refine zt_icmp_gt (tgt := 131) dX11_settings_100 (by decide) (by omega) (by decide) (fun c_100 => ?_) (fun c_100 => ?_)
    · refine zt_kill_5 ?_
      rw [zFor_e (by omega)] at hr
      rw [← hr] at hBb hL ⊢
      exact hK hL hBb c
    · refine zt_aload_n dX11_settings_103 rfl ?_
      refine zt_iload_n dX11_settings_104 rfl ?_
      refine zt_iload dX11_settings_105 rfl ?_
      refine zt_iload dX11_settings_107 rfl ?_
      refine zt_callV3r dX11_settings_109 ml_X11_339 (zs_38 hS) (Nat.le_of_ble_eq_true rfl) (c_jcsk hS hR hB (by omega) (by omega) (by omega)) ?_
      refine zt_ifb_eq (tgt := 125) dX11_settings_112 (by decide) (fun c_112 => ?_) (fun c_112 => ?_)
      · refine zt_iinc_5 dX11_settings_125 (by decide) rfl ?_
        refine zt_goto (tgt := 97) dX11_settings_128 (by decide) ?_
        exact ih (g + 1) c C (by omega) (by omega) (by omega) hL hBb (by rw [hr, zFor_s (by omega), show kRuns h t x i g C = C from if_neg c_112])
      · refine zt_aload_n dX11_settings_115 rfl ?_
        refine zt_iload_n dX11_settings_116 rfl ?_
        refine zt_iload dX11_settings_117 rfl ?_
        refine zt_iload dX11_settings_119 rfl ?_
        refine zt_iload_n dX11_settings_121 rfl ?_
        refine zt_callV4q dX11_settings_122 ml_X11_380 (zs_38 hS) (Nat.le_of_ble_eq_true rfl) (c_jruns hS hR hTk (by omega) hE (by omega) (by omega) hx hL) ?_
        rintro r n1 sh1 h1 ⟨rfl, rfl, rfl, c1, rfl⟩
        simp only [Option.toList, List.nil_append]
        refine zt_iinc_5 dX11_settings_125 (by decide) rfl ?_
        refine zt_goto (tgt := 97) dX11_settings_128 (by decide) ?_
        have hrg := kRuns_rg (t := t) (x := x) (g := g) hE.2 hi (by omega) hL
        have ek : kRuns h t x i g C = kRun h t x i g (h 46 t - i).toNat i (jDc (h 47) (30 * t + i) g) C := if_pos c_112
        rw [ek] at hrg
        exact ih (g + 1) c1 _ (by omega) (by omega) (by omega) hrg.1 (Int.le_trans (hrg.2 i) hBb) (by rw [hr, zFor_s (by omega), ek])

set_option maxRecDepth 100000 in
set_option maxHeartbeats 4000000 in
theorem l_ks2 {d n : Nat} {sh : zSh} {h : zMem} {t x : Int} {R : Int → Int} (hS : zShp sh) (hR : zRf h) (hB : mB h) (hTk : vTok h) (ht : (0 ≤ t ∧ t < h 38 17) ∧ t < 5) (hE : 4 ≤ h 46 t ∧ h 46 t ≤ 30) (hx : 0 ≤ x ∧ x ≤ 99)  : ∀ (k : Nat) (i : Int) (c : Int → Int) (C : Int → Int), i + 1 < (k : Int) → -1 ≤ i → i < h 46 t → lRg C → C (i + 1) ≤ 30 * (h 46 t - (i + 1)) → R = kDn h t x (i + 1).toNat C → zT yX11_settings cX11_settings 6 (some .int) (d + 4) 0 0 (fun r n1 sh1 h1 => r = some (0, R 0) ∧ n1 = n ∧ sh1 = sh ∧ ∃ c1 : Int → Int, h1 = kM h c1 R) 41 [some (2, 38), some (0, t), some (0, x), some (0, h 46 t), some (0, i), none] [] n sh (kM h c C) := by
  intro k
  induction k with
  | zero => intros; exfalso; omega
  | succ k ih =>
    intro i c C hk h0 h1 hL hbd hr
    refine zt_iload dX11_settings_41 rfl ?_
    refine zt_if_lt (tgt := 137) dX11_settings_43 (by decide) (by omega) (fun c_43 => ?_) (fun c_43 => ?_)
    · refine zt_aload_n dX11_settings_137 rfl ?_
      refine zt_getv dX11_settings_138 fl_X11_125 (zs_38 hS) (rf_38_56 (kM_rf hR)) ?_
      refine zt_iconst dX11_settings_141 ?_
      refine zt_ialoadv (v := C 0) dX11_settings_142 (zs_75 hS) (by decide) (by decide) (by decide) (congrFun kM_75 _) ?_
      exact zt_iret dX11_settings_143 ⟨by rw [hr, show (i + 1).toNat = 0 by omega]; rfl, rfl, rfl, c, by rw [hr, show (i + 1).toNat = 0 by omega]; rfl⟩
    · have hC1 := hL (i + 1) (by omega) (by omega)
      have hv := hTk (30 * t + i) (by omega) (by omega)
      refine zt_aload_n dX11_settings_46 rfl ?_
      refine zt_getv dX11_settings_47 fl_X11_125 (zs_38 hS) (rf_38_56 (kM_rf hR)) ?_
      refine zt_iload dX11_settings_50 rfl ?_
      refine zt_aload_n dX11_settings_52 rfl ?_
      refine zt_getv dX11_settings_53 fl_X11_125 (zs_38 hS) (rf_38_56 (kM_rf hR)) ?_
      refine zt_iload dX11_settings_56 rfl ?_
      refine zt_iconst dX11_settings_58 ?_
      refine zt_iadd dX11_settings_59 ?_
      refine zt_ialoadv (v := C (i + 1)) dX11_settings_60 (zs_75 hS) (by decide) (by omega) (by omega) (congrFun kM_75 _) ?_
      refine zt_iastore dX11_settings_61 (zs_75 hS) (by decide) (by omega) (by omega) (by omega) ?_
      refine zt_aload_n dX11_settings_62 rfl ?_
      refine zt_getv dX11_settings_63 fl_X11_35 (zs_38 hS) (rf_38_19 ((kM_rf hR).upA (by decide))) ?_
      refine zt_iload_n dX11_settings_66 rfl ?_
      refine zt_iload dX11_settings_67 rfl ?_
      refine zt_callS2r dX11_settings_69 ml_X11_316 (Nat.le_of_ble_eq_true rfl) (c_place) ?_
      refine zt_ialoadv (v := h 47 (30 * t + i)) dX11_settings_72 (zs_47 hS) (by decide) (by omega) (by omega) ((zupA (by decide)).trans (congrFun (kM_ne (by decide)) _)) ?_
      refine zt_ldc_w dX11_settings_73 kc_X11_283 ?_
      refine zt_icmp_ne (tgt := 82) dX11_settings_76 (by decide) (by omega) (by decide) (fun c_76 => ?_) (fun c_76 => ?_)
      · refine zt_aload_n dX11_settings_82 rfl ?_
        refine zt_getv dX11_settings_83 fl_X11_125 (zs_38 hS) (rf_38_56 ((kM_rf hR).upA (by decide))) ?_
        refine zt_iload dX11_settings_86 rfl ?_
        refine zt_dup2 dX11_settings_88 (Nat.ne_of_beq_eq_false rfl) (Nat.ne_of_beq_eq_false rfl) ?_
        refine zt_ialoadv (v := C (i + 1)) dX11_settings_89 (zs_75 hS) (by decide) (by omega) (by omega) zupE ?_
        refine zt_bipush dX11_settings_90 (by decide) ?_
        refine zt_iadd dX11_settings_92 ?_
        refine zt_iastore dX11_settings_93 (zs_75 hS) (by decide) (by omega) (by omega) (by omega) ?_
        refine zt_iconst dX11_settings_94 ?_
        refine zt_istore_5 dX11_settings_95 (by decide) rfl ?_
        rw [zup2, kM_v]
        refine l_ks1 (R := kStep h t x i C) (B := 30 * (h 46 t - i)) hS hR hB hTk ht hE hx (by omega) (fun hL2 hB2 c1 => ?_) 5 1 c (kset C i (C (i + 1) + 30)) (by omega) (by omega) (by omega) (kset_rg hL (by omega)) (by rw [kset_at]; omega) (if_neg c_76)
        refine zt_iinc_4 dX11_settings_131 (by decide) rfl ?_
        refine zt_goto (tgt := 41) dX11_settings_134 (by decide) ?_
        exact ih (i + (-1)) c1 _ (by omega) (by omega) (by omega) hL2 (by rw [show i + -1 + 1 = i by omega]; omega) (by rw [hr, kDn_s (by omega)])
      · refine zt_goto (tgt := 131) dX11_settings_79 (by decide) ?_
        refine zt_iinc_4 dX11_settings_131 (by decide) rfl ?_
        refine zt_goto (tgt := 41) dX11_settings_134 (by decide) ?_
        rw [kM_v]
        exact ih (i + (-1)) c (kset C i (C (i + 1))) (by omega) (by omega) (by omega) (kset_rg hL (by omega)) (by rw [show i + -1 + 1 = i by omega, kset_at]; omega) (by rw [hr, kDn_s (by omega), show kStep h t x i C = kset C i (C (i + 1)) from if_pos c_76])

set_option maxRecDepth 100000 in
set_option maxHeartbeats 4000000 in
theorem c_jsts {d n : Nat} {sh : zSh} {h : zMem} {t x : Int} (hS : zShp sh) (hR : zRf h) (hB : mB h) (hTk : vTok h) (hL0 : lRg (h 75)) (ht : zi32 t) (hx : zi32 x) : zM yX11_settings cX11_settings 6 (some .int) (d + 4) 0 0 [(2, 38), (0, t), (0, x)] n sh h (fun r n1 sh1 h1 => n1 = n ∧ sh1 = sh ∧ (((jT h t ∧ 0 ≤ x ∧ x ≤ 99) ∧ r = some (0, (kDn h t x (h 46 t).toNat (kset (h 75) (h 46 t) 0)) 0) ∧ ∃ c1 : Int → Int, h1 = kM h c1 (kDn h t x (h 46 t).toNat (kset (h 75) (h 46 t) 0))) ∨ (¬ (jT h t ∧ 0 ≤ x ∧ x ≤ 99) ∧ r = some (0, -1) ∧ h1 = h))) := by
  refine zM.ofT2 (by decide +kernel) [some (2, 38), some (0, t), some (0, x), none, none, none] rfl (Nat.le_of_ble_eq_true rfl) ?_
  refine zt_rg (fun hm => ?_)
  have b1 := hB.1
  have b3 := hB.2.2.1
  have b4 := hB.2.2.2.1
  have b5 := hB.2.2.2.2.1
  have b6 := hB.2.2.2.2.2.1
  have b7 := hB.2.2.2.2.2.2.1
  have b8 := hB.2.2.2.2.2.2.2.1
  have b9 := hB.2.2.2.2.2.2.2.2.1
  have b10 := hB.2.2.2.2.2.2.2.2.2.1
  have b11 := hB.2.2.2.2.2.2.2.2.2.2
  refine zt_aload_n dX11_settings_0 rfl ?_
  refine zt_iload_n dX11_settings_1 rfl ?_
  refine zt_callV1r dX11_settings_2 ml_X11_310 (zs_38 hS) (Nat.le_of_ble_eq_true rfl) (c_jT hS hR hB (by omega)) ?_
  refine zt_ifb_eq (tgt := 20) dX11_settings_5 (by decide) (fun c_5 => ?_) (fun c_5 => ?_)
  · refine zt_iconst dX11_settings_20 ?_
    exact zt_iret dX11_settings_21 ⟨rfl, rfl, Or.inr ⟨fun q => by first | exact c_5 q.1 | exact c_17 q.2, rfl, rfl⟩⟩
  · refine zt_iload_n dX11_settings_8 rfl ?_
    refine zt_i2l dX11_settings_9 (by omega) ?_
    refine zt_lconst (v := 0) dX11_settings_10 rfl ?_
    refine zt_ldc2 dX11_settings_11 kc_X11_378 ?_
    refine zt_callS3r dX11_settings_14 ml_X11_143 (Nat.le_of_ble_eq_true rfl) (c_min_ (x := x) (y := 0) (z := 99) (by omega) (by decide) (by decide)) ?_
    refine zt_ifb_ne (tgt := 22) dX11_settings_17 (by decide) (fun c_17 => ?_) (fun c_17 => ?_)
    · have hb := hB.2.1 t c_5.1 c_5.2
      refine zt_aload_n dX11_settings_22 rfl ?_
      refine zt_getv dX11_settings_23 fl_X11_32 (zs_38 hS) (rf_38_18 hR) ?_
      refine zt_iload_n dX11_settings_26 rfl ?_
      refine zt_iaload dX11_settings_27 (zs_46 hS) (by decide) (by omega) (by omega) ?_
      refine zt_istore_n_3 dX11_settings_28 (by decide) rfl ?_
      refine zt_aload_n dX11_settings_29 rfl ?_
      refine zt_getv dX11_settings_30 fl_X11_125 (zs_38 hS) (rf_38_56 hR) ?_
      refine zt_iload_n dX11_settings_33 rfl ?_
      refine zt_iconst dX11_settings_34 ?_
      refine zt_iastore dX11_settings_35 (zs_75 hS) (by decide) (by omega) (by omega) (by decide) ?_
      refine zt_iload_n dX11_settings_36 rfl ?_
      refine zt_iconst dX11_settings_37 ?_
      refine zt_isub dX11_settings_38 ?_
      refine zt_istore_4 dX11_settings_39 (by decide) rfl ?_
      refine zt_mem (h1 := kM h (h 76) (kset (h 75) (h 46 t) 0)) (by have e := kM_v (h := h) (c := h 76) (C := h 75) (i := h 46 t) (v := 0); rw [kM_self] at e; exact e) ?_
      refine zt_mono (fun r n1 sh1 h1 q => ⟨q.2.1, q.2.2.1, Or.inl ⟨⟨c_5, c_17⟩, q.1, q.2.2.2⟩⟩) (l_ks2 (R := (kDn h t x (h 46 t).toNat (kset (h 75) (h 46 t) 0))) hS hR hB hTk ⟨c_5, by omega⟩ hb c_17 31 (h 46 t - 1) (h 76) (kset (h 75) (h 46 t) 0) (by omega) (by omega) (by omega) (kset_rg hL0 (by omega)) (by rw [show h 46 t - 1 + 1 = h 46 t by omega, kset_at]; omega) (by rw [show h 46 t - 1 + 1 = h 46 t by omega]))
    · refine zt_iconst dX11_settings_20 ?_
      exact zt_iret dX11_settings_21 ⟨rfl, rfl, Or.inr ⟨fun q => by first | exact c_5 q.1 | exact c_17 q.2, rfl, rfl⟩⟩
