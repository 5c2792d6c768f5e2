/-- the Parser at the token that begins from p on, with sz parts of code; h0: the memory as parse() found it -/
def pSt (h0 h : zMem) (p sz : Int) : Prop := (∀ x, x ≠ 3 → x ≠ 4 → h x = h0 x) ∧ zRf h ∧ (h 3 3 = kE (h0 2) (h0 1 1) p ∧ h 3 4 = kS (h0 2) (h0 1 1) p ∧ h 3 5 = kK (h0 2) (h0 1 1) p ∧ (kK (h0 2) (h0 1 1) p = 2 → h 3 6 = kN (h0 2) (h0 1 1) p)) ∧ h 3 1 = sz
def pRes (h0 h : zMem) (sz : Int) : Int ⊕ zPR → Option zV → zMem → Prop
  | .inl e, r, h1 => r = some (0, 0) ∧ (∀ x, x ≠ 3 → x ≠ 4 → h1 x = h0 x) ∧ zRf h1 ∧ h1 3 4 = e
  | .inr q, r, h1 => r = some (0, 1) ∧ pSt h0 h1 q.1 (sz + q.2.1) ∧ (∀ j, 0 ≤ j → j < sz → h1 4 j = h 4 j) ∧ ∀ j, sz ≤ j → j < sz + q.2.1 → h1 4 j = q.2.2.1 sz j
def pC (h0 : zMem) (y : MethodName) (cc : ByteArray) (mL : Nat) (ar : List zV) (G : Int → Int ⊕ zPR) (D : Nat) : Prop := ∀ (n : Nat) (sh : zSh) (h : zMem) (p sz : Int), zShp sh → pSt h0 h p sz → (0 ≤ sz ∧ sz ≤ p ∧ p ≤ h0 1 1) → zM y cc mL (some .boolean) D 0 0 ((2, 3) :: ar) n sh h (fun r n1 sh1 h1 => n1 = n ∧ sh1 = sh ∧ pRes h0 h sz (G p) r h1)
theorem kK_r {T : Int → Int} {L p : Int} : 0 ≤ kK T L p ∧ kK T L p ≤ 255 := by
  by_cases q : L ≤ kS T L p
  · rw [kK_end q]; omega
  · by_cases q1 : 97 ≤ T (kS T L p) ∧ T (kS T L p) ≤ 122
    · rw [kK_w q q1]
      have hb := wix_b (T := T) (s := kS T L p) (e := kE T L p)
      unfold wkd; split <;> omega
    · by_cases q2 : 48 ≤ T (kS T L p) ∧ T (kS T L p) ≤ 57
      · rw [kK_n q q2]; split <;> omega
      · rw [kK_s q q1 q2]
        split
        · rename_i z; have := sgI_v z; omega
        · omega
theorem kK_2 {T : Int → Int} {L p : Int} (h : kK T L p = 2) : kS T L p < L ∧ 48 ≤ T (kS T L p) ∧ T (kS T L p) ≤ 57 := by
  by_cases q : L ≤ kS T L p
  · rw [kK_end q] at h; omega
  · by_cases q1 : 97 ≤ T (kS T L p) ∧ T (kS T L p) ≤ 122
    · rw [kK_w q q1] at h
      have hb := wix_b (T := T) (s := kS T L p) (e := kE T L p)
      unfold wkd at h; split at h <;> omega
    · by_cases q2 : 48 ≤ T (kS T L p) ∧ T (kS T L p) ≤ 57
      · exact ⟨by omega, q2⟩
      · rw [kK_s q q1 q2] at h
        split at h
        · rename_i z; have := sgI_v z; omega
        · omega
theorem lxA_st {h0 h : zMem} {p sz : Int} (ho : ∀ x, x ≠ 3 → x ≠ 4 → h x = h0 x) (hR : zRf h) (hz : h 3 1 = sz) : pSt h0 (lxA h p) p sz := by
  refine ⟨fun x h1 h2 => (lxA_ne h1).trans (ho x h1 h2), lxA_rf hR, ?_, ?_⟩
  · rw [lxA_3, ho 2 (by decide) (by decide), ho 1 (by decide) (by decide)]
    refine ⟨rfl, rfl, rfl, fun q => ?_⟩
    show (if kS (h0 2) (h0 1 1) p < h0 1 1 ∧ _ then kN (h0 2) (h0 1 1) p else _) = _
    rw [if_pos (kK_2 q)]
  · rw [lxA_3]; exact hz
theorem pSt.adv {h0 h : zMem} {p sz p1 : Int} (s : pSt h0 h p sz) : pSt h0 (lxA h p1) p1 sz := lxA_st s.1 s.2.1 s.2.2.2
def pEm (h : zMem) (x : Int) : zMem := zup (zup h 4 (h 3 1) x) 3 1 (h 3 1 + 1)
theorem pSt.emit {h0 h : zMem} {p sz x : Int} (s : pSt h0 h p sz) : pSt h0 (pEm h x) p (sz + 1) := by
  obtain ⟨s1, s2, s3, s4⟩ := s
  have e3 : ∀ y, y ≠ 1 → pEm h x 3 y = h 3 y := fun y hy => by unfold pEm; rw [zupJ hy, zupA (by decide)]
  refine ⟨fun a h1 h2 => (zup_ne h1).trans ((zup_ne h2).trans (s1 a h1 h2)), (s2.upA (by decide)).up (by decide), ?_, ?_⟩
  · rw [e3 3 (by decide), e3 4 (by decide), e3 5 (by decide), e3 6 (by decide)]; exact s3
  · unfold pEm; rw [zupE, s4]
theorem pEm_4 {h : zMem} {x sz j : Int} (hz : h 3 1 = sz) : pEm h x 4 j = if j = sz then x else h 4 j := by
  unfold pEm; rw [zupA (by decide), zup_at, hz]
theorem pSt.patch {h0 h : zMem} {p sz q x : Int} (s : pSt h0 h p sz) : pSt h0 (zup h 4 q x) p sz := by
  obtain ⟨s1, s2, s3, s4⟩ := s
  have e3 : ∀ y, zup h 4 q x 3 y = h 3 y := fun y => zupA (by decide)
  refine ⟨fun a h1 h2 => (zup_ne h2).trans (s1 a h1 h2), s2.upA (by decide), ?_, ?_⟩
  · rw [e3, e3, e3, e3]; exact s3
  · rw [e3]; exact s4
theorem pSt.tok {h0 h : zMem} {p sz : Int} (hT : tOK h0) (s : pSt h0 h p sz) : tOK h := tOK_x hT (s.1 1 (by decide) (by decide)) (s.1 2 (by decide) (by decide))

set_option maxRecDepth 100000 in
set_option maxHeartbeats 4000000 in
theorem c_patch {d n : Nat} {sh : zSh} {h : zMem} {q x : Int} (hS : zShp sh) (hR : zRf h) (hq : 0 ≤ q ∧ q < 600) (hx : zi32 x) : zF yX4_patch cX4_patch 3 none (d + 0) 0 0 [(2, 3), (0, q), (0, x)] n sh h none n sh (zup h 4 q x) := by
  refine zF.ofT (by decide +kernel) [some (2, 3), some (0, q), some (0, x)] rfl (Nat.le_of_ble_eq_true rfl) ?_
  refine zt_iload_n dX4_patch_0 rfl ?_
  refine zt_if_lt (tgt := 20) dX4_patch_1 (by decide) (by omega) (fun c_1 => ?_) (fun c_1 => ?_)
  · exfalso
    omega
  · refine zt_iload_n dX4_patch_4 rfl ?_
    refine zt_aload_n dX4_patch_5 rfl ?_
    refine zt_getv dX4_patch_6 fl_X4_11 (zs_3 hS) (rf_3_0 hR) ?_
    refine zt_alenv (v := 600) dX4_patch_9 (zs_4 hS) (by decide) (by decide) rfl ?_
    refine zt_icmp_ge (tgt := 20) dX4_patch_10 (by decide) (by omega) (by decide) (fun c_10 => ?_) (fun c_10 => ?_)
    · exfalso
      omega
    · refine zt_aload_n dX4_patch_13 rfl ?_
      refine zt_getv dX4_patch_14 fl_X4_11 (zs_3 hS) (rf_3_0 hR) ?_
      refine zt_iload_n dX4_patch_17 rfl ?_
      refine zt_iload_n dX4_patch_18 rfl ?_
      refine zt_iastore dX4_patch_19 (zs_4 hS) (by decide) (by omega) (by omega) (by omega) ?_
      exact zt_vret dX4_patch_20 ⟨rfl, rfl, rfl, rfl⟩

set_option maxRecDepth 100000 in
set_option maxHeartbeats 4000000 in
theorem c_emit {d n : Nat} {sh : zSh} {h : zMem} {x : Int} (hS : zShp sh) (hR : zRf h) (hq : 0 ≤ h 3 1 ∧ h 3 1 < 600) (hx : zi32 x) : zF yX4_emit cX4_emit 2 (some .boolean) (d + 1) 0 0 [(2, 3), (0, x)] n sh h (some (0, 1)) n sh (pEm h x) := by
  refine zF.ofT (by decide +kernel) [some (2, 3), some (0, x)] rfl (Nat.le_of_ble_eq_true rfl) ?_
  refine zt_aload_n dX4_emit_0 rfl ?_
  refine zt_aload_n dX4_emit_1 rfl ?_
  refine zt_get dX4_emit_2 fl_X4_19 (zs_3 hS) ?_
  refine zt_iload_n dX4_emit_5 rfl ?_
  refine zt_callV2v dX4_emit_6 ml_X4_72 (zs_3 hS) (Nat.le_of_ble_eq_true rfl) (c_patch hS hR (by omega) hx) ?_
  refine zt_aload_n dX4_emit_9 rfl ?_
  refine zt_dup dX4_emit_10 (Nat.ne_of_beq_eq_false rfl) ?_
  refine zt_getv (v := h 3 1) dX4_emit_11 fl_X4_19 (zs_3 hS) (zupA (by decide)) ?_
  refine zt_iconst dX4_emit_14 ?_
  refine zt_iadd dX4_emit_15 ?_
  refine zt_puti dX4_emit_16 fl_X4_19 rfl (zs_3 hS) (by omega) ?_
  refine zt_iconst dX4_emit_19 ?_
  exact zt_zret dX4_emit_20 (by decide) ⟨rfl, rfl, rfl, rfl⟩

set_option maxRecDepth 100000 in
set_option maxHeartbeats 4000000 in
theorem l_prod {d n : Nat} {sh : zSh} {h0 h : zMem} {ar p sz : Int} {G : Int → Int ⊕ zPR} (hS : zShp sh) (hT : tOK h0) (hT1 : (h0 1 1) ≤ 200) (hC : pC h0 yX4_factor cX4_factor 3 [(0, ar)] G (d + 6)) (hCg : ∀ p r, p ≤ (h0 1 1) → G p = .inr r → pG1 (h0 1 1) p r) (hsz : 0 ≤ sz ∧ sz ≤ p) : ∀ (f : Nat) (a : zPR) (g0 : zMem) (i : Int), (0 ≤ i ∧ i + f = 200) → ((p ≤ a.1 ∧ a.1 ≤ (h0 1 1)) ∧ (1 ≤ a.2.1 ∧ a.2.1 ≤ a.1 - p)) → pSt h0 g0 a.1 (sz + a.2.1) → (∀ j, 0 ≤ j → j < sz → g0 4 j = h 4 j) → (∀ j, sz ≤ j → j < sz + a.2.1 → g0 4 j = a.2.2.1 sz j) → ∀ R, R = lpS (h0 2) (h0 1 1) 42 47 (-4) (-5) 4 5 G f a → zT yX4_product cX4_product 4 (some .boolean) (d + 7) 0 0 (fun r n1 sh1 h1 => n1 = n ∧ sh1 = sh ∧ pRes h0 h sz R r h1) 12 [some (2, 3), some (0, ar), some (0, i), none] [] n sh g0 := by
  intro f
  induction f with
  | zero =>
    intro a g0 i hi ha hg hpre hseg R hR0
    refine zt_iload_n dX4_product_12 rfl ?_
    refine zt_sipush dX4_product_13 (by decide) ?_
    refine zt_icmp_ge (tgt := 80) dX4_product_16 (by decide) (by omega) (by decide) (fun c_16 => ?_) (fun c_16 => ?_)
    · refine zt_iconst dX4_product_80 ?_
      exact zt_zret dX4_product_81 (by decide) ⟨rfl, rfl, by subst hR0; exact ⟨rfl, hg, hpre, hseg⟩⟩
    · exfalso
      omega
  | succ f ih =>
    intro a g0 i hi ha hg hpre hseg R hR0
    refine zt_iload_n dX4_product_12 rfl ?_
    refine zt_sipush dX4_product_13 (by decide) ?_
    refine zt_icmp_ge (tgt := 80) dX4_product_16 (by decide) (by omega) (by decide) (fun c_16 => ?_) (fun c_16 => ?_)
    · exfalso
      omega
    · refine zt_aload_n dX4_product_19 rfl ?_
      refine zt_getv (v := kK (h0 2) (h0 1 1) a.1) dX4_product_20 fl_X4_33 (zs_3 hS) hg.2.2.1.2.2.1 ?_
      refine zt_bipush dX4_product_23 (by decide) ?_
      refine zt_icmp_eq (tgt := 37) dX4_product_25 (by decide) (by have := kK_r (T := h0 2) (L := h0 1 1) (p := a.1); omega) (by decide) (fun c_25 => ?_) (fun c_25 => ?_)
      · refine zt_aload_n dX4_product_37 rfl ?_
        refine zt_getv (v := kK (h0 2) (h0 1 1) a.1) dX4_product_38 fl_X4_33 (zs_3 hS) hg.2.2.1.2.2.1 ?_
        refine zt_bipush dX4_product_41 (by decide) ?_
        refine zt_icmp_ne (tgt := 51) dX4_product_43 (by decide) (by have := kK_r (T := h0 2) (L := h0 1 1) (p := a.1); omega) (by decide) (fun c_43 => ?_) (fun c_43 => ?_)
        · refine zt_bipush dX4_product_51 (by decide) ?_
          refine zt_istore_n_3 dX4_product_53 (by decide) rfl ?_
          refine zt_aload_n dX4_product_54 rfl ?_
          refine zt_callV0v dX4_product_55 ml_X4_26 (zs_3 hS) (Nat.le_of_ble_eq_true rfl) (c_adv (p := kE (h0 2) (h0 1 1) a.1) hS hg.2.1 (hg.tok hT) hg.2.2.1.1 (by rw [hg.1 1 (by decide) (by decide)]; have hb := kE_b (T := (h0 2)) (L := (h0 1 1)) (p := a.1) (by omega); omega)) ?_
          obtain ⟨g1, hg1⟩ : ∃ g, g = lxA g0 (kE (h0 2) (h0 1 1) a.1) := ⟨_, rfl⟩
          refine zt_mem hg1.symm ?_
          have sg1 : pSt h0 g1 (kE (h0 2) (h0 1 1) a.1) (sz + a.2.1) := hg1 ▸ hg.adv
          have cg1 : g1 4 = g0 4 := hg1 ▸ lxA_ne (by decide)
          have bg1 := kE_b (T := (h0 2)) (L := (h0 1 1)) (p := a.1) (by omega)
          have lg1 := bg1.2 (by omega)
          have bg1 := bg1.1
          refine zt_aload_n dX4_product_58 rfl ?_
          refine zt_iload_n dX4_product_59 rfl ?_
          refine zt_callV1q dX4_product_60 ml_X4_45 (zs_3 hS) (Nat.le_of_ble_eq_true rfl) (hC _ _ _ _ _ hS sg1 (by have hb := kE_b (T := (h0 2)) (L := (h0 1 1)) (p := kE (h0 2) (h0 1 1) a.1) (by omega); omega)) ?_
          rintro r n1 sh1 g2 ⟨rfl, rfl, hq2⟩
          rcases he2 : G (kE (h0 2) (h0 1 1) a.1) with e | r2 <;> rw [he2] at hq2
          · obtain ⟨rfl, ho2, hR2, hs2⟩ := hq2
            simp only [Option.toList, List.cons_append, List.nil_append]
            have hk1 : ¬ kK (h0 2) (h0 1 1) a.1 = 42 := by omega
            have hlp := show lpS (h0 2) (h0 1 1) 42 47 (-4) (-5) 4 5 G (f + 1) a = _ from if_pos (by omega)
            rw [he2] at hlp
            simp only [] at hlp
            refine zt_if_ne (tgt := 68) dX4_product_63 (by decide) (by decide) (fun q => absurd q (by decide)) (fun c_63 => ?_)
            refine zt_iconst dX4_product_66 ?_
            exact zt_zret dX4_product_67 (by decide) ⟨rfl, rfl, by rw [hR0, hlp]; exact ⟨rfl, ho2, hR2, hs2⟩⟩
          · obtain ⟨rfl, sg2, u2, v2⟩ := hq2
            simp only [Option.toList, List.cons_append, List.nil_append]
            have b2 := hCg _ _ (by first | omega | (have hb := kE_b (T := (h0 2)) (L := (h0 1 1)) (p := kE (h0 2) (h0 1 1) a.1) (by omega); omega)) he2
            obtain ⟨⟨b2a, b2b⟩, ⟨b2c, b2d⟩, -⟩ := b2
            have hk1 : ¬ kK (h0 2) (h0 1 1) a.1 = 42 := by omega
            have hlp := show lpS (h0 2) (h0 1 1) 42 47 (-4) (-5) 4 5 G (f + 1) a = _ from if_pos (by omega)
            rw [he2] at hlp
            simp only [] at hlp
            rw [if_neg hk1, if_neg hk1] at hlp
            refine zt_if_ne (tgt := 68) dX4_product_63 (by decide) (by decide) (fun c_63 => ?_) (fun q => absurd q (by decide))
            refine zt_aload_n dX4_product_68 rfl ?_
            refine zt_iload_n dX4_product_69 rfl ?_
            refine zt_callV1r dX4_product_70 ml_X4_42 (zs_3 hS) (Nat.le_of_ble_eq_true rfl) (c_emit hS sg2.2.1 (by rw [sg2.2.2.2]; omega) (by decide)) ?_
            obtain ⟨g3, hg3⟩ : ∃ g, g = pEm g2 (-5) := ⟨_, rfl⟩
            refine zt_mem hg3.symm ?_
            have sg3 : pSt h0 g3 (r2.1) (sz + a.2.1 + r2.2.1 + 1) := hg3 ▸ sg2.emit
            have cg3 : ∀ j, g3 4 j = if j = sz + a.2.1 + r2.2.1 then -5 else g2 4 j := fun j => hg3 ▸ pEm_4 sg2.2.2.2
            refine zt_pop dX4_product_73 (Nat.ne_of_beq_eq_false rfl) ?_
            refine zt_iinc_2 dX4_product_74 (by decide) rfl ?_
            refine zt_goto (tgt := 12) dX4_product_77 (by decide) ?_
            refine zt_kill_3 ?_
            have hgm : g3 4 = g3 4 := rfl
            exact ih (pOp (-5) 5 a r2) g3 (i + 1) (by omega) ⟨⟨by show p ≤ r2.1; omega, by show r2.1 ≤ (h0 1 1); omega⟩, ⟨by show 1 ≤ a.2.1 + (r2.2.1 + 1); omega, by show a.2.1 + (r2.2.1 + 1) ≤ r2.1 - p; omega⟩⟩ (by show pSt h0 _ r2.1 (sz + (a.2.1 + (r2.2.1 + 1))); rw [show sz + (a.2.1 + (r2.2.1 + 1)) = sz + a.2.1 + r2.2.1 + 1 by omega]; exact sg3) (fun j q1 q2 => by rw [cg3, if_neg (by omega), u2 j q1 (by omega), cg1]; exact hpre j q1 q2) (fun j q1 q2 => by
              replace q2 : j < sz + (a.2.1 + (r2.2.1 + 1)) := q2
              show _ = sap a.2.1 a.2.2.1 (sap r2.2.1 r2.2.2.1 (sgl (-5))) sz j
              rw [cg3]
              by_cases q3 : j < sz + a.2.1
              · rw [sap_l q3, if_neg (by omega), u2 j (by omega) q3, cg1]; exact hseg j q1 q3
              · rw [sap_r (by omega)]
                by_cases q4 : j < sz + a.2.1 + r2.2.1
                · rw [sap_l q4, if_neg (by omega)]; exact v2 j (by omega) q4
                · rw [sap_r (by omega), if_pos (by omega)]; rfl) _ (hR0.trans hlp)
        · refine zt_bipush dX4_product_46 (by decide) ?_
          refine zt_goto (tgt := 53) dX4_product_48 (by decide) ?_
          refine zt_istore_n_3 dX4_product_53 (by decide) rfl ?_
          refine zt_aload_n dX4_product_54 rfl ?_
          refine zt_callV0v dX4_product_55 ml_X4_26 (zs_3 hS) (Nat.le_of_ble_eq_true rfl) (c_adv (p := kE (h0 2) (h0 1 1) a.1) hS hg.2.1 (hg.tok hT) hg.2.2.1.1 (by rw [hg.1 1 (by decide) (by decide)]; have hb := kE_b (T := (h0 2)) (L := (h0 1 1)) (p := a.1) (by omega); omega)) ?_
          obtain ⟨g1, hg1⟩ : ∃ g, g = lxA g0 (kE (h0 2) (h0 1 1) a.1) := ⟨_, rfl⟩
          refine zt_mem hg1.symm ?_
          have sg1 : pSt h0 g1 (kE (h0 2) (h0 1 1) a.1) (sz + a.2.1) := hg1 ▸ hg.adv
          have cg1 : g1 4 = g0 4 := hg1 ▸ lxA_ne (by decide)
          have bg1 := kE_b (T := (h0 2)) (L := (h0 1 1)) (p := a.1) (by omega)
          have lg1 := bg1.2 (by omega)
          have bg1 := bg1.1
          refine zt_aload_n dX4_product_58 rfl ?_
          refine zt_iload_n dX4_product_59 rfl ?_
          refine zt_callV1q dX4_product_60 ml_X4_45 (zs_3 hS) (Nat.le_of_ble_eq_true rfl) (hC _ _ _ _ _ hS sg1 (by have hb := kE_b (T := (h0 2)) (L := (h0 1 1)) (p := kE (h0 2) (h0 1 1) a.1) (by omega); omega)) ?_
          rintro r n1 sh1 g2 ⟨rfl, rfl, hq2⟩
          rcases he2 : G (kE (h0 2) (h0 1 1) a.1) with e | r2 <;> rw [he2] at hq2
          · obtain ⟨rfl, ho2, hR2, hs2⟩ := hq2
            simp only [Option.toList, List.cons_append, List.nil_append]
            have hk1 : kK (h0 2) (h0 1 1) a.1 = 42 := by omega
            have hlp := show lpS (h0 2) (h0 1 1) 42 47 (-4) (-5) 4 5 G (f + 1) a = _ from if_pos (by omega)
            rw [he2] at hlp
            simp only [] at hlp
            refine zt_if_ne (tgt := 68) dX4_product_63 (by decide) (by decide) (fun q => absurd q (by decide)) (fun c_63 => ?_)
            refine zt_iconst dX4_product_66 ?_
            exact zt_zret dX4_product_67 (by decide) ⟨rfl, rfl, by rw [hR0, hlp]; exact ⟨rfl, ho2, hR2, hs2⟩⟩
          · obtain ⟨rfl, sg2, u2, v2⟩ := hq2
            simp only [Option.toList, List.cons_append, List.nil_append]
            have b2 := hCg _ _ (by first | omega | (have hb := kE_b (T := (h0 2)) (L := (h0 1 1)) (p := kE (h0 2) (h0 1 1) a.1) (by omega); omega)) he2
            obtain ⟨⟨b2a, b2b⟩, ⟨b2c, b2d⟩, -⟩ := b2
            have hk1 : kK (h0 2) (h0 1 1) a.1 = 42 := by omega
            have hlp := show lpS (h0 2) (h0 1 1) 42 47 (-4) (-5) 4 5 G (f + 1) a = _ from if_pos (by omega)
            rw [he2] at hlp
            simp only [] at hlp
            rw [if_pos hk1, if_pos hk1] at hlp
            refine zt_if_ne (tgt := 68) dX4_product_63 (by decide) (by decide) (fun c_63 => ?_) (fun q => absurd q (by decide))
            refine zt_aload_n dX4_product_68 rfl ?_
            refine zt_iload_n dX4_product_69 rfl ?_
            refine zt_callV1r dX4_product_70 ml_X4_42 (zs_3 hS) (Nat.le_of_ble_eq_true rfl) (c_emit hS sg2.2.1 (by rw [sg2.2.2.2]; omega) (by decide)) ?_
            obtain ⟨g3, hg3⟩ : ∃ g, g = pEm g2 (-4) := ⟨_, rfl⟩
            refine zt_mem hg3.symm ?_
            have sg3 : pSt h0 g3 (r2.1) (sz + a.2.1 + r2.2.1 + 1) := hg3 ▸ sg2.emit
            have cg3 : ∀ j, g3 4 j = if j = sz + a.2.1 + r2.2.1 then -4 else g2 4 j := fun j => hg3 ▸ pEm_4 sg2.2.2.2
            refine zt_pop dX4_product_73 (Nat.ne_of_beq_eq_false rfl) ?_
            refine zt_iinc_2 dX4_product_74 (by decide) rfl ?_
            refine zt_goto (tgt := 12) dX4_product_77 (by decide) ?_
            refine zt_kill_3 ?_
            have hgm : g3 4 = g3 4 := rfl
            exact ih (pOp (-4) 4 a r2) g3 (i + 1) (by omega) ⟨⟨by show p ≤ r2.1; omega, by show r2.1 ≤ (h0 1 1); omega⟩, ⟨by show 1 ≤ a.2.1 + (r2.2.1 + 1); omega, by show a.2.1 + (r2.2.1 + 1) ≤ r2.1 - p; omega⟩⟩ (by show pSt h0 _ r2.1 (sz + (a.2.1 + (r2.2.1 + 1))); rw [show sz + (a.2.1 + (r2.2.1 + 1)) = sz + a.2.1 + r2.2.1 + 1 by omega]; exact sg3) (fun j q1 q2 => by rw [cg3, if_neg (by omega), u2 j q1 (by omega), cg1]; exact hpre j q1 q2) (fun j q1 q2 => by
              replace q2 : j < sz + (a.2.1 + (r2.2.1 + 1)) := q2
              show _ = sap a.2.1 a.2.2.1 (sap r2.2.1 r2.2.2.1 (sgl (-4))) sz j
              rw [cg3]
              by_cases q3 : j < sz + a.2.1
              · rw [sap_l q3, if_neg (by omega), u2 j (by omega) q3, cg1]; exact hseg j q1 q3
              · rw [sap_r (by omega)]
                by_cases q4 : j < sz + a.2.1 + r2.2.1
                · rw [sap_l q4, if_neg (by omega)]; exact v2 j (by omega) q4
                · rw [sap_r (by omega), if_pos (by omega)]; rfl) _ (hR0.trans hlp)
      · refine zt_aload_n dX4_product_28 rfl ?_
        refine zt_getv (v := kK (h0 2) (h0 1 1) a.1) dX4_product_29 fl_X4_33 (zs_3 hS) hg.2.2.1.2.2.1 ?_
        refine zt_bipush dX4_product_32 (by decide) ?_
        refine zt_icmp_ne (tgt := 80) dX4_product_34 (by decide) (by have := kK_r (T := h0 2) (L := h0 1 1) (p := a.1); omega) (by decide) (fun c_34 => ?_) (fun c_34 => ?_)
        · have hlp0 : lpS (h0 2) (h0 1 1) 42 47 (-4) (-5) 4 5 G (f + 1) a = .inr a := if_neg (by omega)
          refine zt_iconst dX4_product_80 ?_
          exact zt_zret dX4_product_81 (by decide) ⟨rfl, rfl, by rw [hR0, hlp0]; exact ⟨rfl, hg, hpre, hseg⟩⟩
        · refine zt_aload_n dX4_product_37 rfl ?_
          refine zt_getv (v := kK (h0 2) (h0 1 1) a.1) dX4_product_38 fl_X4_33 (zs_3 hS) hg.2.2.1.2.2.1 ?_
          refine zt_bipush dX4_product_41 (by decide) ?_
          refine zt_icmp_ne (tgt := 51) dX4_product_43 (by decide) (by have := kK_r (T := h0 2) (L := h0 1 1) (p := a.1); omega) (by decide) (fun c_43 => ?_) (fun c_43 => ?_)
          · refine zt_bipush dX4_product_51 (by decide) ?_
            refine zt_istore_n_3 dX4_product_53 (by decide) rfl ?_
            refine zt_aload_n dX4_product_54 rfl ?_
            refine zt_callV0v dX4_product_55 ml_X4_26 (zs_3 hS) (Nat.le_of_ble_eq_true rfl) (c_adv (p := kE (h0 2) (h0 1 1) a.1) hS hg.2.1 (hg.tok hT) hg.2.2.1.1 (by rw [hg.1 1 (by decide) (by decide)]; have hb := kE_b (T := (h0 2)) (L := (h0 1 1)) (p := a.1) (by omega); omega)) ?_
            obtain ⟨g1, hg1⟩ : ∃ g, g = lxA g0 (kE (h0 2) (h0 1 1) a.1) := ⟨_, rfl⟩
            refine zt_mem hg1.symm ?_
            have sg1 : pSt h0 g1 (kE (h0 2) (h0 1 1) a.1) (sz + a.2.1) := hg1 ▸ hg.adv
            have cg1 : g1 4 = g0 4 := hg1 ▸ lxA_ne (by decide)
            have bg1 := kE_b (T := (h0 2)) (L := (h0 1 1)) (p := a.1) (by omega)
            have lg1 := bg1.2 (by omega)
            have bg1 := bg1.1
            refine zt_aload_n dX4_product_58 rfl ?_
            refine zt_iload_n dX4_product_59 rfl ?_
            refine zt_callV1q dX4_product_60 ml_X4_45 (zs_3 hS) (Nat.le_of_ble_eq_true rfl) (hC _ _ _ _ _ hS sg1 (by have hb := kE_b (T := (h0 2)) (L := (h0 1 1)) (p := kE (h0 2) (h0 1 1) a.1) (by omega); omega)) ?_
            rintro r n1 sh1 g2 ⟨rfl, rfl, hq2⟩
            rcases he2 : G (kE (h0 2) (h0 1 1) a.1) with e | r2 <;> rw [he2] at hq2
            · obtain ⟨rfl, ho2, hR2, hs2⟩ := hq2
              simp only [Option.toList, List.cons_append, List.nil_append]
              have hk1 : ¬ kK (h0 2) (h0 1 1) a.1 = 42 := by omega
              have hlp := show lpS (h0 2) (h0 1 1) 42 47 (-4) (-5) 4 5 G (f + 1) a = _ from if_pos (by omega)
              rw [he2] at hlp
              simp only [] at hlp
              refine zt_if_ne (tgt := 68) dX4_product_63 (by decide) (by decide) (fun q => absurd q (by decide)) (fun c_63 => ?_)
              refine zt_iconst dX4_product_66 ?_
              exact zt_zret dX4_product_67 (by decide) ⟨rfl, rfl, by rw [hR0, hlp]; exact ⟨rfl, ho2, hR2, hs2⟩⟩
            · obtain ⟨rfl, sg2, u2, v2⟩ := hq2
              simp only [Option.toList, List.cons_append, List.nil_append]
              have b2 := hCg _ _ (by first | omega | (have hb := kE_b (T := (h0 2)) (L := (h0 1 1)) (p := kE (h0 2) (h0 1 1) a.1) (by omega); omega)) he2
              obtain ⟨⟨b2a, b2b⟩, ⟨b2c, b2d⟩, -⟩ := b2
              have hk1 : ¬ kK (h0 2) (h0 1 1) a.1 = 42 := by omega
              have hlp := show lpS (h0 2) (h0 1 1) 42 47 (-4) (-5) 4 5 G (f + 1) a = _ from if_pos (by omega)
              rw [he2] at hlp
              simp only [] at hlp
              rw [if_neg hk1, if_neg hk1] at hlp
              refine zt_if_ne (tgt := 68) dX4_product_63 (by decide) (by decide) (fun c_63 => ?_) (fun q => absurd q (by decide))
              refine zt_aload_n dX4_product_68 rfl ?_
              refine zt_iload_n dX4_product_69 rfl ?_
              refine zt_callV1r dX4_product_70 ml_X4_42 (zs_3 hS) (Nat.le_of_ble_eq_true rfl) (c_emit hS sg2.2.1 (by rw [sg2.2.2.2]; omega) (by decide)) ?_
              obtain ⟨g3, hg3⟩ : ∃ g, g = pEm g2 (-5) := ⟨_, rfl⟩
              refine zt_mem hg3.symm ?_
              have sg3 : pSt h0 g3 (r2.1) (sz + a.2.1 + r2.2.1 + 1) := hg3 ▸ sg2.emit
              have cg3 : ∀ j, g3 4 j = if j = sz + a.2.1 + r2.2.1 then -5 else g2 4 j := fun j => hg3 ▸ pEm_4 sg2.2.2.2
              refine zt_pop dX4_product_73 (Nat.ne_of_beq_eq_false rfl) ?_
              refine zt_iinc_2 dX4_product_74 (by decide) rfl ?_
              refine zt_goto (tgt := 12) dX4_product_77 (by decide) ?_
              refine zt_kill_3 ?_
              have hgm : g3 4 = g3 4 := rfl
              exact ih (pOp (-5) 5 a r2) g3 (i + 1) (by omega) ⟨⟨by show p ≤ r2.1; omega, by show r2.1 ≤ (h0 1 1); omega⟩, ⟨by show 1 ≤ a.2.1 + (r2.2.1 + 1); omega, by show a.2.1 + (r2.2.1 + 1) ≤ r2.1 - p; omega⟩⟩ (by show pSt h0 _ r2.1 (sz + (a.2.1 + (r2.2.1 + 1))); rw [show sz + (a.2.1 + (r2.2.1 + 1)) = sz + a.2.1 + r2.2.1 + 1 by omega]; exact sg3) (fun j q1 q2 => by rw [cg3, if_neg (by omega), u2 j q1 (by omega), cg1]; exact hpre j q1 q2) (fun j q1 q2 => by
                replace q2 : j < sz + (a.2.1 + (r2.2.1 + 1)) := q2
                show _ = sap a.2.1 a.2.2.1 (sap r2.2.1 r2.2.2.1 (sgl (-5))) sz j
                rw [cg3]
                by_cases q3 : j < sz + a.2.1
                · rw [sap_l q3, if_neg (by omega), u2 j (by omega) q3, cg1]; exact hseg j q1 q3
                · rw [sap_r (by omega)]
                  by_cases q4 : j < sz + a.2.1 + r2.2.1
                  · rw [sap_l q4, if_neg (by omega)]; exact v2 j (by omega) q4
                  · rw [sap_r (by omega), if_pos (by omega)]; rfl) _ (hR0.trans hlp)
          · refine zt_bipush dX4_product_46 (by decide) ?_
            refine zt_goto (tgt := 53) dX4_product_48 (by decide) ?_
            refine zt_istore_n_3 dX4_product_53 (by decide) rfl ?_
            refine zt_aload_n dX4_product_54 rfl ?_
            refine zt_callV0v dX4_product_55 ml_X4_26 (zs_3 hS) (Nat.le_of_ble_eq_true rfl) (c_adv (p := kE (h0 2) (h0 1 1) a.1) hS hg.2.1 (hg.tok hT) hg.2.2.1.1 (by rw [hg.1 1 (by decide) (by decide)]; have hb := kE_b (T := (h0 2)) (L := (h0 1 1)) (p := a.1) (by omega); omega)) ?_
            obtain ⟨g1, hg1⟩ : ∃ g, g = lxA g0 (kE (h0 2) (h0 1 1) a.1) := ⟨_, rfl⟩
            refine zt_mem hg1.symm ?_
            have sg1 : pSt h0 g1 (kE (h0 2) (h0 1 1) a.1) (sz + a.2.1) := hg1 ▸ hg.adv
            have cg1 : g1 4 = g0 4 := hg1 ▸ lxA_ne (by decide)
            have bg1 := kE_b (T := (h0 2)) (L := (h0 1 1)) (p := a.1) (by omega)
            have lg1 := bg1.2 (by omega)
            have bg1 := bg1.1
            refine zt_aload_n dX4_product_58 rfl ?_
            refine zt_iload_n dX4_product_59 rfl ?_
            refine zt_callV1q dX4_product_60 ml_X4_45 (zs_3 hS) (Nat.le_of_ble_eq_true rfl) (hC _ _ _ _ _ hS sg1 (by have hb := kE_b (T := (h0 2)) (L := (h0 1 1)) (p := kE (h0 2) (h0 1 1) a.1) (by omega); omega)) ?_
            rintro r n1 sh1 g2 ⟨rfl, rfl, hq2⟩
            rcases he2 : G (kE (h0 2) (h0 1 1) a.1) with e | r2 <;> rw [he2] at hq2
            · obtain ⟨rfl, ho2, hR2, hs2⟩ := hq2
              simp only [Option.toList, List.cons_append, List.nil_append]
              have hk1 : kK (h0 2) (h0 1 1) a.1 = 42 := by omega
              have hlp := show lpS (h0 2) (h0 1 1) 42 47 (-4) (-5) 4 5 G (f + 1) a = _ from if_pos (by omega)
              rw [he2] at hlp
              simp only [] at hlp
              refine zt_if_ne (tgt := 68) dX4_product_63 (by decide) (by decide) (fun q => absurd q (by decide)) (fun c_63 => ?_)
              refine zt_iconst dX4_product_66 ?_
              exact zt_zret dX4_product_67 (by decide) ⟨rfl, rfl, by rw [hR0, hlp]; exact ⟨rfl, ho2, hR2, hs2⟩⟩
            · obtain ⟨rfl, sg2, u2, v2⟩ := hq2
              simp only [Option.toList, List.cons_append, List.nil_append]
              have b2 := hCg _ _ (by first | omega | (have hb := kE_b (T := (h0 2)) (L := (h0 1 1)) (p := kE (h0 2) (h0 1 1) a.1) (by omega); omega)) he2
              obtain ⟨⟨b2a, b2b⟩, ⟨b2c, b2d⟩, -⟩ := b2
              have hk1 : kK (h0 2) (h0 1 1) a.1 = 42 := by omega
              have hlp := show lpS (h0 2) (h0 1 1) 42 47 (-4) (-5) 4 5 G (f + 1) a = _ from if_pos (by omega)
              rw [he2] at hlp
              simp only [] at hlp
              rw [if_pos hk1, if_pos hk1] at hlp
              refine zt_if_ne (tgt := 68) dX4_product_63 (by decide) (by decide) (fun c_63 => ?_) (fun q => absurd q (by decide))
              refine zt_aload_n dX4_product_68 rfl ?_
              refine zt_iload_n dX4_product_69 rfl ?_
              refine zt_callV1r dX4_product_70 ml_X4_42 (zs_3 hS) (Nat.le_of_ble_eq_true rfl) (c_emit hS sg2.2.1 (by rw [sg2.2.2.2]; omega) (by decide)) ?_
              obtain ⟨g3, hg3⟩ : ∃ g, g = pEm g2 (-4) := ⟨_, rfl⟩
              refine zt_mem hg3.symm ?_
              have sg3 : pSt h0 g3 (r2.1) (sz + a.2.1 + r2.2.1 + 1) := hg3 ▸ sg2.emit
              have cg3 : ∀ j, g3 4 j = if j = sz + a.2.1 + r2.2.1 then -4 else g2 4 j := fun j => hg3 ▸ pEm_4 sg2.2.2.2
              refine zt_pop dX4_product_73 (Nat.ne_of_beq_eq_false rfl) ?_
              refine zt_iinc_2 dX4_product_74 (by decide) rfl ?_
              refine zt_goto (tgt := 12) dX4_product_77 (by decide) ?_
              refine zt_kill_3 ?_
              have hgm : g3 4 = g3 4 := rfl
              exact ih (pOp (-4) 4 a r2) g3 (i + 1) (by omega) ⟨⟨by show p ≤ r2.1; omega, by show r2.1 ≤ (h0 1 1); omega⟩, ⟨by show 1 ≤ a.2.1 + (r2.2.1 + 1); omega, by show a.2.1 + (r2.2.1 + 1) ≤ r2.1 - p; omega⟩⟩ (by show pSt h0 _ r2.1 (sz + (a.2.1 + (r2.2.1 + 1))); rw [show sz + (a.2.1 + (r2.2.1 + 1)) = sz + a.2.1 + r2.2.1 + 1 by omega]; exact sg3) (fun j q1 q2 => by rw [cg3, if_neg (by omega), u2 j q1 (by omega), cg1]; exact hpre j q1 q2) (fun j q1 q2 => by
                replace q2 : j < sz + (a.2.1 + (r2.2.1 + 1)) := q2
                show _ = sap a.2.1 a.2.2.1 (sap r2.2.1 r2.2.2.1 (sgl (-4))) sz j
                rw [cg3]
                by_cases q3 : j < sz + a.2.1
                · rw [sap_l q3, if_neg (by omega), u2 j (by omega) q3, cg1]; exact hseg j q1 q3
                · rw [sap_r (by omega)]
                  by_cases q4 : j < sz + a.2.1 + r2.2.1
                  · rw [sap_l q4, if_neg (by omega)]; exact v2 j (by omega) q4
                  · rw [sap_r (by omega), if_pos (by omega)]; rfl) _ (hR0.trans hlp)

set_option maxRecDepth 100000 in
set_option maxHeartbeats 4000000 in
theorem l_psum {d n : Nat} {sh : zSh} {h0 h : zMem} {ar p sz : Int} {G : Int → Int ⊕ zPR} (hS : zShp sh) (hT : tOK h0) (hT1 : (h0 1 1) ≤ 200) (hC : pC h0 yX4_product cX4_product 4 [(0, ar)] G (d + 6)) (hCg : ∀ p r, p ≤ (h0 1 1) → G p = .inr r → pG1 (h0 1 1) p r) (hsz : 0 ≤ sz ∧ sz ≤ p) : ∀ (f : Nat) (a : zPR) (g0 : zMem) (i : Int), (0 ≤ i ∧ i + f = 200) → ((p ≤ a.1 ∧ a.1 ≤ (h0 1 1)) ∧ (1 ≤ a.2.1 ∧ a.2.1 ≤ a.1 - p)) → pSt h0 g0 a.1 (sz + a.2.1) → (∀ j, 0 ≤ j → j < sz → g0 4 j = h 4 j) → (∀ j, sz ≤ j → j < sz + a.2.1 → g0 4 j = a.2.2.1 sz j) → ∀ R, R = lpS (h0 2) (h0 1 1) 43 45 (-2) (-3) 2 3 G f a → zT yX4_sum cX4_sum 4 (some .boolean) (d + 7) 0 0 (fun r n1 sh1 h1 => n1 = n ∧ sh1 = sh ∧ pRes h0 h sz R r h1) 12 [some (2, 3), some (0, ar), some (0, i), none] [] n sh g0 := by
  intro f
  induction f with
  | zero =>
    intro a g0 i hi ha hg hpre hseg R hR0
    refine zt_iload_n dX4_sum_12 rfl ?_
    refine zt_sipush dX4_sum_13 (by decide) ?_
    refine zt_icmp_ge (tgt := 80) dX4_sum_16 (by decide) (by omega) (by decide) (fun c_16 => ?_) (fun c_16 => ?_)
    · refine zt_iconst dX4_sum_80 ?_
      exact zt_zret dX4_sum_81 (by decide) ⟨rfl, rfl, by subst hR0; exact ⟨rfl, hg, hpre, hseg⟩⟩
    · exfalso
      omega
  | succ f ih =>
    intro a g0 i hi ha hg hpre hseg R hR0
    refine zt_iload_n dX4_sum_12 rfl ?_
    refine zt_sipush dX4_sum_13 (by decide) ?_
    refine zt_icmp_ge (tgt := 80) dX4_sum_16 (by decide) (by omega) (by decide) (fun c_16 => ?_) (fun c_16 => ?_)
    · exfalso
      omega
    · refine zt_aload_n dX4_sum_19 rfl ?_
      refine zt_getv (v := kK (h0 2) (h0 1 1) a.1) dX4_sum_20 fl_X4_33 (zs_3 hS) hg.2.2.1.2.2.1 ?_
      refine zt_bipush dX4_sum_23 (by decide) ?_
      refine zt_icmp_eq (tgt := 37) dX4_sum_25 (by decide) (by have := kK_r (T := h0 2) (L := h0 1 1) (p := a.1); omega) (by decide) (fun c_25 => ?_) (fun c_25 => ?_)
      · refine zt_aload_n dX4_sum_37 rfl ?_
        refine zt_getv (v := kK (h0 2) (h0 1 1) a.1) dX4_sum_38 fl_X4_33 (zs_3 hS) hg.2.2.1.2.2.1 ?_
        refine zt_bipush dX4_sum_41 (by decide) ?_
        refine zt_icmp_ne (tgt := 51) dX4_sum_43 (by decide) (by have := kK_r (T := h0 2) (L := h0 1 1) (p := a.1); omega) (by decide) (fun c_43 => ?_) (fun c_43 => ?_)
        · refine zt_bipush dX4_sum_51 (by decide) ?_
          refine zt_istore_n_3 dX4_sum_53 (by decide) rfl ?_
          refine zt_aload_n dX4_sum_54 rfl ?_
          refine zt_callV0v dX4_sum_55 ml_X4_26 (zs_3 hS) (Nat.le_of_ble_eq_true rfl) (c_adv (p := kE (h0 2) (h0 1 1) a.1) hS hg.2.1 (hg.tok hT) hg.2.2.1.1 (by rw [hg.1 1 (by decide) (by decide)]; have hb := kE_b (T := (h0 2)) (L := (h0 1 1)) (p := a.1) (by omega); omega)) ?_
          obtain ⟨g1, hg1⟩ : ∃ g, g = lxA g0 (kE (h0 2) (h0 1 1) a.1) := ⟨_, rfl⟩
          refine zt_mem hg1.symm ?_
          have sg1 : pSt h0 g1 (kE (h0 2) (h0 1 1) a.1) (sz + a.2.1) := hg1 ▸ hg.adv
          have cg1 : g1 4 = g0 4 := hg1 ▸ lxA_ne (by decide)
          have bg1 := kE_b (T := (h0 2)) (L := (h0 1 1)) (p := a.1) (by omega)
          have lg1 := bg1.2 (by omega)
          have bg1 := bg1.1
          refine zt_aload_n dX4_sum_58 rfl ?_
          refine zt_iload_n dX4_sum_59 rfl ?_
          refine zt_callV1q dX4_sum_60 ml_X4_39 (zs_3 hS) (Nat.le_of_ble_eq_true rfl) (hC _ _ _ _ _ hS sg1 (by have hb := kE_b (T := (h0 2)) (L := (h0 1 1)) (p := kE (h0 2) (h0 1 1) a.1) (by omega); omega)) ?_
          rintro r n1 sh1 g2 ⟨rfl, rfl, hq2⟩
          rcases he2 : G (kE (h0 2) (h0 1 1) a.1) with e | r2 <;> rw [he2] at hq2
          · obtain ⟨rfl, ho2, hR2, hs2⟩ := hq2
            simp only [Option.toList, List.cons_append, List.nil_append]
            have hk1 : ¬ kK (h0 2) (h0 1 1) a.1 = 43 := by omega
            have hlp := show lpS (h0 2) (h0 1 1) 43 45 (-2) (-3) 2 3 G (f + 1) a = _ from if_pos (by omega)
            rw [he2] at hlp
            simp only [] at hlp
            refine zt_if_ne (tgt := 68) dX4_sum_63 (by decide) (by decide) (fun q => absurd q (by decide)) (fun c_63 => ?_)
            refine zt_iconst dX4_sum_66 ?_
            exact zt_zret dX4_sum_67 (by decide) ⟨rfl, rfl, by rw [hR0, hlp]; exact ⟨rfl, ho2, hR2, hs2⟩⟩
          · obtain ⟨rfl, sg2, u2, v2⟩ := hq2
            simp only [Option.toList, List.cons_append, List.nil_append]
            have b2 := hCg _ _ (by first | omega | (have hb := kE_b (T := (h0 2)) (L := (h0 1 1)) (p := kE (h0 2) (h0 1 1) a.1) (by omega); omega)) he2
            obtain ⟨⟨b2a, b2b⟩, ⟨b2c, b2d⟩, -⟩ := b2
            have hk1 : ¬ kK (h0 2) (h0 1 1) a.1 = 43 := by omega
            have hlp := show lpS (h0 2) (h0 1 1) 43 45 (-2) (-3) 2 3 G (f + 1) a = _ from if_pos (by omega)
            rw [he2] at hlp
            simp only [] at hlp
            rw [if_neg hk1, if_neg hk1] at hlp
            refine zt_if_ne (tgt := 68) dX4_sum_63 (by decide) (by decide) (fun c_63 => ?_) (fun q => absurd q (by decide))
            refine zt_aload_n dX4_sum_68 rfl ?_
            refine zt_iload_n dX4_sum_69 rfl ?_
            refine zt_callV1r dX4_sum_70 ml_X4_42 (zs_3 hS) (Nat.le_of_ble_eq_true rfl) (c_emit hS sg2.2.1 (by rw [sg2.2.2.2]; omega) (by decide)) ?_
            obtain ⟨g3, hg3⟩ : ∃ g, g = pEm g2 (-3) := ⟨_, rfl⟩
            refine zt_mem hg3.symm ?_
            have sg3 : pSt h0 g3 (r2.1) (sz + a.2.1 + r2.2.1 + 1) := hg3 ▸ sg2.emit
            have cg3 : ∀ j, g3 4 j = if j = sz + a.2.1 + r2.2.1 then -3 else g2 4 j := fun j => hg3 ▸ pEm_4 sg2.2.2.2
            refine zt_pop dX4_sum_73 (Nat.ne_of_beq_eq_false rfl) ?_
            refine zt_iinc_2 dX4_sum_74 (by decide) rfl ?_
            refine zt_goto (tgt := 12) dX4_sum_77 (by decide) ?_
            refine zt_kill_3 ?_
            have hgm : g3 4 = g3 4 := rfl
            exact ih (pOp (-3) 3 a r2) g3 (i + 1) (by omega) ⟨⟨by show p ≤ r2.1; omega, by show r2.1 ≤ (h0 1 1); omega⟩, ⟨by show 1 ≤ a.2.1 + (r2.2.1 + 1); omega, by show a.2.1 + (r2.2.1 + 1) ≤ r2.1 - p; omega⟩⟩ (by show pSt h0 _ r2.1 (sz + (a.2.1 + (r2.2.1 + 1))); rw [show sz + (a.2.1 + (r2.2.1 + 1)) = sz + a.2.1 + r2.2.1 + 1 by omega]; exact sg3) (fun j q1 q2 => by rw [cg3, if_neg (by omega), u2 j q1 (by omega), cg1]; exact hpre j q1 q2) (fun j q1 q2 => by
              replace q2 : j < sz + (a.2.1 + (r2.2.1 + 1)) := q2
              show _ = sap a.2.1 a.2.2.1 (sap r2.2.1 r2.2.2.1 (sgl (-3))) sz j
              rw [cg3]
              by_cases q3 : j < sz + a.2.1
              · rw [sap_l q3, if_neg (by omega), u2 j (by omega) q3, cg1]; exact hseg j q1 q3
              · rw [sap_r (by omega)]
                by_cases q4 : j < sz + a.2.1 + r2.2.1
                · rw [sap_l q4, if_neg (by omega)]; exact v2 j (by omega) q4
                · rw [sap_r (by omega), if_pos (by omega)]; rfl) _ (hR0.trans hlp)
        · refine zt_bipush dX4_sum_46 (by decide) ?_
          refine zt_goto (tgt := 53) dX4_sum_48 (by decide) ?_
          refine zt_istore_n_3 dX4_sum_53 (by decide) rfl ?_
          refine zt_aload_n dX4_sum_54 rfl ?_
          refine zt_callV0v dX4_sum_55 ml_X4_26 (zs_3 hS) (Nat.le_of_ble_eq_true rfl) (c_adv (p := kE (h0 2) (h0 1 1) a.1) hS hg.2.1 (hg.tok hT) hg.2.2.1.1 (by rw [hg.1 1 (by decide) (by decide)]; have hb := kE_b (T := (h0 2)) (L := (h0 1 1)) (p := a.1) (by omega); omega)) ?_
          obtain ⟨g1, hg1⟩ : ∃ g, g = lxA g0 (kE (h0 2) (h0 1 1) a.1) := ⟨_, rfl⟩
          refine zt_mem hg1.symm ?_
          have sg1 : pSt h0 g1 (kE (h0 2) (h0 1 1) a.1) (sz + a.2.1) := hg1 ▸ hg.adv
          have cg1 : g1 4 = g0 4 := hg1 ▸ lxA_ne (by decide)
          have bg1 := kE_b (T := (h0 2)) (L := (h0 1 1)) (p := a.1) (by omega)
          have lg1 := bg1.2 (by omega)
          have bg1 := bg1.1
          refine zt_aload_n dX4_sum_58 rfl ?_
          refine zt_iload_n dX4_sum_59 rfl ?_
          refine zt_callV1q dX4_sum_60 ml_X4_39 (zs_3 hS) (Nat.le_of_ble_eq_true rfl) (hC _ _ _ _ _ hS sg1 (by have hb := kE_b (T := (h0 2)) (L := (h0 1 1)) (p := kE (h0 2) (h0 1 1) a.1) (by omega); omega)) ?_
          rintro r n1 sh1 g2 ⟨rfl, rfl, hq2⟩
          rcases he2 : G (kE (h0 2) (h0 1 1) a.1) with e | r2 <;> rw [he2] at hq2
          · obtain ⟨rfl, ho2, hR2, hs2⟩ := hq2
            simp only [Option.toList, List.cons_append, List.nil_append]
            have hk1 : kK (h0 2) (h0 1 1) a.1 = 43 := by omega
            have hlp := show lpS (h0 2) (h0 1 1) 43 45 (-2) (-3) 2 3 G (f + 1) a = _ from if_pos (by omega)
            rw [he2] at hlp
            simp only [] at hlp
            refine zt_if_ne (tgt := 68) dX4_sum_63 (by decide) (by decide) (fun q => absurd q (by decide)) (fun c_63 => ?_)
            refine zt_iconst dX4_sum_66 ?_
            exact zt_zret dX4_sum_67 (by decide) ⟨rfl, rfl, by rw [hR0, hlp]; exact ⟨rfl, ho2, hR2, hs2⟩⟩
          · obtain ⟨rfl, sg2, u2, v2⟩ := hq2
            simp only [Option.toList, List.cons_append, List.nil_append]
            have b2 := hCg _ _ (by first | omega | (have hb := kE_b (T := (h0 2)) (L := (h0 1 1)) (p := kE (h0 2) (h0 1 1) a.1) (by omega); omega)) he2
            obtain ⟨⟨b2a, b2b⟩, ⟨b2c, b2d⟩, -⟩ := b2
            have hk1 : kK (h0 2) (h0 1 1) a.1 = 43 := by omega
            have hlp := show lpS (h0 2) (h0 1 1) 43 45 (-2) (-3) 2 3 G (f + 1) a = _ from if_pos (by omega)
            rw [he2] at hlp
            simp only [] at hlp
            rw [if_pos hk1, if_pos hk1] at hlp
            refine zt_if_ne (tgt := 68) dX4_sum_63 (by decide) (by decide) (fun c_63 => ?_) (fun q => absurd q (by decide))
            refine zt_aload_n dX4_sum_68 rfl ?_
            refine zt_iload_n dX4_sum_69 rfl ?_
            refine zt_callV1r dX4_sum_70 ml_X4_42 (zs_3 hS) (Nat.le_of_ble_eq_true rfl) (c_emit hS sg2.2.1 (by rw [sg2.2.2.2]; omega) (by decide)) ?_
            obtain ⟨g3, hg3⟩ : ∃ g, g = pEm g2 (-2) := ⟨_, rfl⟩
            refine zt_mem hg3.symm ?_
            have sg3 : pSt h0 g3 (r2.1) (sz + a.2.1 + r2.2.1 + 1) := hg3 ▸ sg2.emit
            have cg3 : ∀ j, g3 4 j = if j = sz + a.2.1 + r2.2.1 then -2 else g2 4 j := fun j => hg3 ▸ pEm_4 sg2.2.2.2
            refine zt_pop dX4_sum_73 (Nat.ne_of_beq_eq_false rfl) ?_
            refine zt_iinc_2 dX4_sum_74 (by decide) rfl ?_
            refine zt_goto (tgt := 12) dX4_sum_77 (by decide) ?_
            refine zt_kill_3 ?_
            have hgm : g3 4 = g3 4 := rfl
            exact ih (pOp (-2) 2 a r2) g3 (i + 1) (by omega) ⟨⟨by show p ≤ r2.1; omega, by show r2.1 ≤ (h0 1 1); omega⟩, ⟨by show 1 ≤ a.2.1 + (r2.2.1 + 1); omega, by show a.2.1 + (r2.2.1 + 1) ≤ r2.1 - p; omega⟩⟩ (by show pSt h0 _ r2.1 (sz + (a.2.1 + (r2.2.1 + 1))); rw [show sz + (a.2.1 + (r2.2.1 + 1)) = sz + a.2.1 + r2.2.1 + 1 by omega]; exact sg3) (fun j q1 q2 => by rw [cg3, if_neg (by omega), u2 j q1 (by omega), cg1]; exact hpre j q1 q2) (fun j q1 q2 => by
              replace q2 : j < sz + (a.2.1 + (r2.2.1 + 1)) := q2
              show _ = sap a.2.1 a.2.2.1 (sap r2.2.1 r2.2.2.1 (sgl (-2))) sz j
              rw [cg3]
              by_cases q3 : j < sz + a.2.1
              · rw [sap_l q3, if_neg (by omega), u2 j (by omega) q3, cg1]; exact hseg j q1 q3
              · rw [sap_r (by omega)]
                by_cases q4 : j < sz + a.2.1 + r2.2.1
                · rw [sap_l q4, if_neg (by omega)]; exact v2 j (by omega) q4
                · rw [sap_r (by omega), if_pos (by omega)]; rfl) _ (hR0.trans hlp)
      · refine zt_aload_n dX4_sum_28 rfl ?_
        refine zt_getv (v := kK (h0 2) (h0 1 1) a.1) dX4_sum_29 fl_X4_33 (zs_3 hS) hg.2.2.1.2.2.1 ?_
        refine zt_bipush dX4_sum_32 (by decide) ?_
        refine zt_icmp_ne (tgt := 80) dX4_sum_34 (by decide) (by have := kK_r (T := h0 2) (L := h0 1 1) (p := a.1); omega) (by decide) (fun c_34 => ?_) (fun c_34 => ?_)
        · have hlp0 : lpS (h0 2) (h0 1 1) 43 45 (-2) (-3) 2 3 G (f + 1) a = .inr a := if_neg (by omega)
          refine zt_iconst dX4_sum_80 ?_
          exact zt_zret dX4_sum_81 (by decide) ⟨rfl, rfl, by rw [hR0, hlp0]; exact ⟨rfl, hg, hpre, hseg⟩⟩
        · refine zt_aload_n dX4_sum_37 rfl ?_
          refine zt_getv (v := kK (h0 2) (h0 1 1) a.1) dX4_sum_38 fl_X4_33 (zs_3 hS) hg.2.2.1.2.2.1 ?_
          refine zt_bipush dX4_sum_41 (by decide) ?_
          refine zt_icmp_ne (tgt := 51) dX4_sum_43 (by decide) (by have := kK_r (T := h0 2) (L := h0 1 1) (p := a.1); omega) (by decide) (fun c_43 => ?_) (fun c_43 => ?_)
          · refine zt_bipush dX4_sum_51 (by decide) ?_
            refine zt_istore_n_3 dX4_sum_53 (by decide) rfl ?_
            refine zt_aload_n dX4_sum_54 rfl ?_
            refine zt_callV0v dX4_sum_55 ml_X4_26 (zs_3 hS) (Nat.le_of_ble_eq_true rfl) (c_adv (p := kE (h0 2) (h0 1 1) a.1) hS hg.2.1 (hg.tok hT) hg.2.2.1.1 (by rw [hg.1 1 (by decide) (by decide)]; have hb := kE_b (T := (h0 2)) (L := (h0 1 1)) (p := a.1) (by omega); omega)) ?_
            obtain ⟨g1, hg1⟩ : ∃ g, g = lxA g0 (kE (h0 2) (h0 1 1) a.1) := ⟨_, rfl⟩
            refine zt_mem hg1.symm ?_
            have sg1 : pSt h0 g1 (kE (h0 2) (h0 1 1) a.1) (sz + a.2.1) := hg1 ▸ hg.adv
            have cg1 : g1 4 = g0 4 := hg1 ▸ lxA_ne (by decide)
            have bg1 := kE_b (T := (h0 2)) (L := (h0 1 1)) (p := a.1) (by omega)
            have lg1 := bg1.2 (by omega)
            have bg1 := bg1.1
            refine zt_aload_n dX4_sum_58 rfl ?_
            refine zt_iload_n dX4_sum_59 rfl ?_
            refine zt_callV1q dX4_sum_60 ml_X4_39 (zs_3 hS) (Nat.le_of_ble_eq_true rfl) (hC _ _ _ _ _ hS sg1 (by have hb := kE_b (T := (h0 2)) (L := (h0 1 1)) (p := kE (h0 2) (h0 1 1) a.1) (by omega); omega)) ?_
            rintro r n1 sh1 g2 ⟨rfl, rfl, hq2⟩
            rcases he2 : G (kE (h0 2) (h0 1 1) a.1) with e | r2 <;> rw [he2] at hq2
            · obtain ⟨rfl, ho2, hR2, hs2⟩ := hq2
              simp only [Option.toList, List.cons_append, List.nil_append]
              have hk1 : ¬ kK (h0 2) (h0 1 1) a.1 = 43 := by omega
              have hlp := show lpS (h0 2) (h0 1 1) 43 45 (-2) (-3) 2 3 G (f + 1) a = _ from if_pos (by omega)
              rw [he2] at hlp
              simp only [] at hlp
              refine zt_if_ne (tgt := 68) dX4_sum_63 (by decide) (by decide) (fun q => absurd q (by decide)) (fun c_63 => ?_)
              refine zt_iconst dX4_sum_66 ?_
              exact zt_zret dX4_sum_67 (by decide) ⟨rfl, rfl, by rw [hR0, hlp]; exact ⟨rfl, ho2, hR2, hs2⟩⟩
            · obtain ⟨rfl, sg2, u2, v2⟩ := hq2
              simp only [Option.toList, List.cons_append, List.nil_append]
              have b2 := hCg _ _ (by first | omega | (have hb := kE_b (T := (h0 2)) (L := (h0 1 1)) (p := kE (h0 2) (h0 1 1) a.1) (by omega); omega)) he2
              obtain ⟨⟨b2a, b2b⟩, ⟨b2c, b2d⟩, -⟩ := b2
              have hk1 : ¬ kK (h0 2) (h0 1 1) a.1 = 43 := by omega
              have hlp := show lpS (h0 2) (h0 1 1) 43 45 (-2) (-3) 2 3 G (f + 1) a = _ from if_pos (by omega)
              rw [he2] at hlp
              simp only [] at hlp
              rw [if_neg hk1, if_neg hk1] at hlp
              refine zt_if_ne (tgt := 68) dX4_sum_63 (by decide) (by decide) (fun c_63 => ?_) (fun q => absurd q (by decide))
              refine zt_aload_n dX4_sum_68 rfl ?_
              refine zt_iload_n dX4_sum_69 rfl ?_
              refine zt_callV1r dX4_sum_70 ml_X4_42 (zs_3 hS) (Nat.le_of_ble_eq_true rfl) (c_emit hS sg2.2.1 (by rw [sg2.2.2.2]; omega) (by decide)) ?_
              obtain ⟨g3, hg3⟩ : ∃ g, g = pEm g2 (-3) := ⟨_, rfl⟩
              refine zt_mem hg3.symm ?_
              have sg3 : pSt h0 g3 (r2.1) (sz + a.2.1 + r2.2.1 + 1) := hg3 ▸ sg2.emit
              have cg3 : ∀ j, g3 4 j = if j = sz + a.2.1 + r2.2.1 then -3 else g2 4 j := fun j => hg3 ▸ pEm_4 sg2.2.2.2
              refine zt_pop dX4_sum_73 (Nat.ne_of_beq_eq_false rfl) ?_
              refine zt_iinc_2 dX4_sum_74 (by decide) rfl ?_
              refine zt_goto (tgt := 12) dX4_sum_77 (by decide) ?_
              refine zt_kill_3 ?_
              have hgm : g3 4 = g3 4 := rfl
              exact ih (pOp (-3) 3 a r2) g3 (i + 1) (by omega) ⟨⟨by show p ≤ r2.1; omega, by show r2.1 ≤ (h0 1 1); omega⟩, ⟨by show 1 ≤ a.2.1 + (r2.2.1 + 1); omega, by show a.2.1 + (r2.2.1 + 1) ≤ r2.1 - p; omega⟩⟩ (by show pSt h0 _ r2.1 (sz + (a.2.1 + (r2.2.1 + 1))); rw [show sz + (a.2.1 + (r2.2.1 + 1)) = sz + a.2.1 + r2.2.1 + 1 by omega]; exact sg3) (fun j q1 q2 => by rw [cg3, if_neg (by omega), u2 j q1 (by omega), cg1]; exact hpre j q1 q2) (fun j q1 q2 => by
                replace q2 : j < sz + (a.2.1 + (r2.2.1 + 1)) := q2
                show _ = sap a.2.1 a.2.2.1 (sap r2.2.1 r2.2.2.1 (sgl (-3))) sz j
                rw [cg3]
                by_cases q3 : j < sz + a.2.1
                · rw [sap_l q3, if_neg (by omega), u2 j (by omega) q3, cg1]; exact hseg j q1 q3
                · rw [sap_r (by omega)]
                  by_cases q4 : j < sz + a.2.1 + r2.2.1
                  · rw [sap_l q4, if_neg (by omega)]; exact v2 j (by omega) q4
                  · rw [sap_r (by omega), if_pos (by omega)]; rfl) _ (hR0.trans hlp)
          · refine zt_bipush dX4_sum_46 (by decide) ?_
            refine zt_goto (tgt := 53) dX4_sum_48 (by decide) ?_
            refine zt_istore_n_3 dX4_sum_53 (by decide) rfl ?_
            refine zt_aload_n dX4_sum_54 rfl ?_
            refine zt_callV0v dX4_sum_55 ml_X4_26 (zs_3 hS) (Nat.le_of_ble_eq_true rfl) (c_adv (p := kE (h0 2) (h0 1 1) a.1) hS hg.2.1 (hg.tok hT) hg.2.2.1.1 (by rw [hg.1 1 (by decide) (by decide)]; have hb := kE_b (T := (h0 2)) (L := (h0 1 1)) (p := a.1) (by omega); omega)) ?_
            obtain ⟨g1, hg1⟩ : ∃ g, g = lxA g0 (kE (h0 2) (h0 1 1) a.1) := ⟨_, rfl⟩
            refine zt_mem hg1.symm ?_
            have sg1 : pSt h0 g1 (kE (h0 2) (h0 1 1) a.1) (sz + a.2.1) := hg1 ▸ hg.adv
            have cg1 : g1 4 = g0 4 := hg1 ▸ lxA_ne (by decide)
            have bg1 := kE_b (T := (h0 2)) (L := (h0 1 1)) (p := a.1) (by omega)
            have lg1 := bg1.2 (by omega)
            have bg1 := bg1.1
            refine zt_aload_n dX4_sum_58 rfl ?_
            refine zt_iload_n dX4_sum_59 rfl ?_
            refine zt_callV1q dX4_sum_60 ml_X4_39 (zs_3 hS) (Nat.le_of_ble_eq_true rfl) (hC _ _ _ _ _ hS sg1 (by have hb := kE_b (T := (h0 2)) (L := (h0 1 1)) (p := kE (h0 2) (h0 1 1) a.1) (by omega); omega)) ?_
            rintro r n1 sh1 g2 ⟨rfl, rfl, hq2⟩
            rcases he2 : G (kE (h0 2) (h0 1 1) a.1) with e | r2 <;> rw [he2] at hq2
            · obtain ⟨rfl, ho2, hR2, hs2⟩ := hq2
              simp only [Option.toList, List.cons_append, List.nil_append]
              have hk1 : kK (h0 2) (h0 1 1) a.1 = 43 := by omega
              have hlp := show lpS (h0 2) (h0 1 1) 43 45 (-2) (-3) 2 3 G (f + 1) a = _ from if_pos (by omega)
              rw [he2] at hlp
              simp only [] at hlp
              refine zt_if_ne (tgt := 68) dX4_sum_63 (by decide) (by decide) (fun q => absurd q (by decide)) (fun c_63 => ?_)
              refine zt_iconst dX4_sum_66 ?_
              exact zt_zret dX4_sum_67 (by decide) ⟨rfl, rfl, by rw [hR0, hlp]; exact ⟨rfl, ho2, hR2, hs2⟩⟩
            · obtain ⟨rfl, sg2, u2, v2⟩ := hq2
              simp only [Option.toList, List.cons_append, List.nil_append]
              have b2 := hCg _ _ (by first | omega | (have hb := kE_b (T := (h0 2)) (L := (h0 1 1)) (p := kE (h0 2) (h0 1 1) a.1) (by omega); omega)) he2
              obtain ⟨⟨b2a, b2b⟩, ⟨b2c, b2d⟩, -⟩ := b2
              have hk1 : kK (h0 2) (h0 1 1) a.1 = 43 := by omega
              have hlp := show lpS (h0 2) (h0 1 1) 43 45 (-2) (-3) 2 3 G (f + 1) a = _ from if_pos (by omega)
              rw [he2] at hlp
              simp only [] at hlp
              rw [if_pos hk1, if_pos hk1] at hlp
              refine zt_if_ne (tgt := 68) dX4_sum_63 (by decide) (by decide) (fun c_63 => ?_) (fun q => absurd q (by decide))
              refine zt_aload_n dX4_sum_68 rfl ?_
              refine zt_iload_n dX4_sum_69 rfl ?_
              refine zt_callV1r dX4_sum_70 ml_X4_42 (zs_3 hS) (Nat.le_of_ble_eq_true rfl) (c_emit hS sg2.2.1 (by rw [sg2.2.2.2]; omega) (by decide)) ?_
              obtain ⟨g3, hg3⟩ : ∃ g, g = pEm g2 (-2) := ⟨_, rfl⟩
              refine zt_mem hg3.symm ?_
              have sg3 : pSt h0 g3 (r2.1) (sz + a.2.1 + r2.2.1 + 1) := hg3 ▸ sg2.emit
              have cg3 : ∀ j, g3 4 j = if j = sz + a.2.1 + r2.2.1 then -2 else g2 4 j := fun j => hg3 ▸ pEm_4 sg2.2.2.2
              refine zt_pop dX4_sum_73 (Nat.ne_of_beq_eq_false rfl) ?_
              refine zt_iinc_2 dX4_sum_74 (by decide) rfl ?_
              refine zt_goto (tgt := 12) dX4_sum_77 (by decide) ?_
              refine zt_kill_3 ?_
              have hgm : g3 4 = g3 4 := rfl
              exact ih (pOp (-2) 2 a r2) g3 (i + 1) (by omega) ⟨⟨by show p ≤ r2.1; omega, by show r2.1 ≤ (h0 1 1); omega⟩, ⟨by show 1 ≤ a.2.1 + (r2.2.1 + 1); omega, by show a.2.1 + (r2.2.1 + 1) ≤ r2.1 - p; omega⟩⟩ (by show pSt h0 _ r2.1 (sz + (a.2.1 + (r2.2.1 + 1))); rw [show sz + (a.2.1 + (r2.2.1 + 1)) = sz + a.2.1 + r2.2.1 + 1 by omega]; exact sg3) (fun j q1 q2 => by rw [cg3, if_neg (by omega), u2 j q1 (by omega), cg1]; exact hpre j q1 q2) (fun j q1 q2 => by
                replace q2 : j < sz + (a.2.1 + (r2.2.1 + 1)) := q2
                show _ = sap a.2.1 a.2.2.1 (sap r2.2.1 r2.2.2.1 (sgl (-2))) sz j
                rw [cg3]
                by_cases q3 : j < sz + a.2.1
                · rw [sap_l q3, if_neg (by omega), u2 j (by omega) q3, cg1]; exact hseg j q1 q3
                · rw [sap_r (by omega)]
                  by_cases q4 : j < sz + a.2.1 + r2.2.1
                  · rw [sap_l q4, if_neg (by omega)]; exact v2 j (by omega) q4
                  · rw [sap_r (by omega), if_pos (by omega)]; rfl) _ (hR0.trans hlp)
