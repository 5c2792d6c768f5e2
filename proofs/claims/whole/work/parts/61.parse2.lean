theorem c_dummy0 : True := trivial
def pRes2 (h0 h : zMem) (sz : Int) : Int ⊕ zPR → Option zV → zMem → Prop
  | .inl e, r, h1 => r = some (0, 0) ∧ (∀ x, x ≠ 3 → x ≠ 4 → h1 x = h0 x) ∧ zRf h1 ∧ h1 3 4 = e
  | .inr q, r, h1 => r = some (0, 1) ∧ pSt h0 h1 q.1 (sz + q.2.1 - 1) ∧ (∀ j, 0 ≤ j → j < sz → h1 4 j = h 4 j) ∧ ∀ j, sz ≤ j → j < sz + q.2.1 - 1 → h1 4 j = q.2.2.1 sz j
def pC2 (h0 : zMem) (y : MethodName) (cc : ByteArray) (mL : Nat) (ar : List zV) (G : Int → Int ⊕ zPR) (D : Nat) : Prop := ∀ (n : Nat) (sh : zSh) (h : zMem) (p sz : Int), zShp sh → pSt h0 h p sz → (0 ≤ sz ∧ sz ≤ p ∧ p ≤ h0 1 1) → zM y cc mL (some .boolean) D 0 0 ((2, 3) :: ar) n sh h (fun r n1 sh1 h1 => n1 = n ∧ sh1 = sh ∧ pRes2 h0 h sz (G p) r h1)
def cmpv (k : Int) : Int := if k = 60 then -11 else if k = 62 then -12 else if k = 61 then -13 else 0

set_option maxRecDepth 100000 in
set_option maxHeartbeats 4000000 in
theorem c_prod {d : Nat} {h0 : zMem} {ar : Int} {G : Int → Int ⊕ zPR} (hT : tOK h0) (hT1 : (h0 1 1) ≤ 200) (hC : pC h0 yX4_factor cX4_factor 3 [(0, ar)] G (d + 6)) (hCg : ∀ p r, p ≤ (h0 1 1) → G p = .inr r → pG1 (h0 1 1) p r) : pC h0 yX4_product cX4_product 4 [(0, ar)] (gT (h0 2) (h0 1 1) G) (d + 7) := by
  intro n sh h p sz hS hs hsz
  refine zM.ofT2 (by decide +kernel) [some (2, 3), some (0, ar), none, none] rfl (Nat.le_of_ble_eq_true rfl) ?_
  refine zt_aload_n dX4_product_0 rfl ?_
  refine zt_iload_n dX4_product_1 rfl ?_
  refine zt_callV1q dX4_product_2 ml_X4_45 (zs_3 hS) (Nat.le_of_ble_eq_true rfl) (hC _ _ _ _ _ hS hs (by have hb := kE_b (T := (h0 2)) (L := (h0 1 1)) (p := p) (by omega); omega)) ?_
  rintro r n1 sh1 g1 ⟨rfl, rfl, hq1⟩
  rcases he1 : G (p) with e | r1 <;> rw [he1] at hq1
  · obtain ⟨rfl, ho1, hR1, hs1⟩ := hq1
    simp only [Option.toList, List.cons_append, List.nil_append]
    refine zt_if_ne (tgt := 10) dX4_product_5 (by decide) (by decide) (fun q => absurd q (by decide)) (fun c_5 => ?_)
    refine zt_iconst dX4_product_8 ?_
    exact zt_zret dX4_product_9 (by decide) ⟨rfl, rfl, by rw [show gT (h0 2) (h0 1 1) G p = .inl e by unfold gT; rw [he1]]; exact ⟨rfl, ho1, hR1, hs1⟩⟩
  · obtain ⟨rfl, sg1, u1, v1⟩ := hq1
    simp only [Option.toList, List.cons_append, List.nil_append]
    have b1 := hCg _ _ (by first | omega | (have hb := kE_b (T := (h0 2)) (L := (h0 1 1)) (p := p) (by omega); omega)) he1
    obtain ⟨⟨b1a, b1b⟩, ⟨b1c, b1d⟩, -⟩ := b1
    refine zt_if_ne (tgt := 10) dX4_product_5 (by decide) (by decide) (fun c_5 => ?_) (fun q => absurd q (by decide))
    refine zt_iconst dX4_product_10 ?_
    refine zt_istore_n_2 dX4_product_11 (by decide) rfl ?_
    exact l_prod (p := p) (sz := sz) hS hT hT1 hC hCg (by omega) 200 r1 g1 0 (by decide) ⟨⟨by omega, by omega⟩, ⟨by omega, by omega⟩⟩ sg1 u1 v1 _ (by unfold gT; rw [he1])

set_option maxRecDepth 100000 in
set_option maxHeartbeats 4000000 in
theorem c_psum {d : Nat} {h0 : zMem} {ar : Int} {G : Int → Int ⊕ zPR} (hT : tOK h0) (hT1 : (h0 1 1) ≤ 200) (hC : pC h0 yX4_product cX4_product 4 [(0, ar)] (gT (h0 2) (h0 1 1) G) (d + 6)) (hCg : ∀ p r, p ≤ (h0 1 1) → gT (h0 2) (h0 1 1) G p = .inr r → pG1 (h0 1 1) p r) : pC h0 yX4_sum cX4_sum 4 [(0, ar)] (gE (h0 2) (h0 1 1) G) (d + 7) := by
  intro n sh h p sz hS hs hsz
  refine zM.ofT2 (by decide +kernel) [some (2, 3), some (0, ar), none, none] rfl (Nat.le_of_ble_eq_true rfl) ?_
  refine zt_aload_n dX4_sum_0 rfl ?_
  refine zt_iload_n dX4_sum_1 rfl ?_
  refine zt_callV1q dX4_sum_2 ml_X4_39 (zs_3 hS) (Nat.le_of_ble_eq_true rfl) (hC _ _ _ _ _ hS hs (by have hb := kE_b (T := (h0 2)) (L := (h0 1 1)) (p := p) (by omega); omega)) ?_
  rintro r n1 sh1 g1 ⟨rfl, rfl, hq1⟩
  rcases he1 : gT (h0 2) (h0 1 1) G (p) with e | r1 <;> rw [he1] at hq1
  · obtain ⟨rfl, ho1, hR1, hs1⟩ := hq1
    simp only [Option.toList, List.cons_append, List.nil_append]
    refine zt_if_ne (tgt := 10) dX4_sum_5 (by decide) (by decide) (fun q => absurd q (by decide)) (fun c_5 => ?_)
    refine zt_iconst dX4_sum_8 ?_
    exact zt_zret dX4_sum_9 (by decide) ⟨rfl, rfl, by rw [show gE (h0 2) (h0 1 1) G p = .inl e by unfold gE; rw [he1]]; exact ⟨rfl, ho1, hR1, hs1⟩⟩
  · obtain ⟨rfl, sg1, u1, v1⟩ := hq1
    simp only [Option.toList, List.cons_append, List.nil_append]
    have b1 := hCg _ _ (by first | omega | (have hb := kE_b (T := (h0 2)) (L := (h0 1 1)) (p := p) (by omega); omega)) he1
    obtain ⟨⟨b1a, b1b⟩, ⟨b1c, b1d⟩, -⟩ := b1
    refine zt_if_ne (tgt := 10) dX4_sum_5 (by decide) (by decide) (fun c_5 => ?_) (fun q => absurd q (by decide))
    refine zt_iconst dX4_sum_10 ?_
    refine zt_istore_n_2 dX4_sum_11 (by decide) rfl ?_
    exact l_psum (p := p) (sz := sz) hS hT hT1 hC hCg (by omega) 200 r1 g1 0 (by decide) ⟨⟨by omega, by omega⟩, ⟨by omega, by omega⟩⟩ sg1 u1 v1 _ (by unfold gE; rw [he1])

set_option maxRecDepth 100000 in
set_option maxHeartbeats 4000000 in
theorem c_pass {d n : Nat} {sh : zSh} {h0 h : zMem} {w p sz : Int} (hT : tOK h0) (hS : zShp sh) (hs : pSt h0 h p sz) (hp : 0 ≤ p ∧ p ≤ (h0 1 1)) (hw : 1 ≤ w ∧ w ≤ 255) : zM yX4_pass cX4_pass 2 (some .boolean) (d + 7) 0 0 [(2, 3), (0, w)] n sh h (fun r n1 sh1 h1 => n1 = n ∧ sh1 = sh ∧ ((kK (h0 2) (h0 1 1) p = w ∧ r = some (0, 1) ∧ h1 = lxA h (kE (h0 2) (h0 1 1) p)) ∨ (kK (h0 2) (h0 1 1) p ≠ w ∧ r = some (0, 0) ∧ h1 = h))) := by
  refine zM.ofT2 (by decide +kernel) [some (2, 3), some (0, w)] rfl (Nat.le_of_ble_eq_true rfl) ?_
  refine zt_aload_n dX4_pass_0 rfl ?_
  refine zt_getv (v := kK (h0 2) (h0 1 1) p) dX4_pass_1 fl_X4_33 (zs_3 hS) hs.2.2.1.2.2.1 ?_
  refine zt_iload_n dX4_pass_4 rfl ?_
  refine zt_icmp_eq (tgt := 10) dX4_pass_5 (by decide) (by have := kK_r (T := h0 2) (L := h0 1 1) (p := p); omega) (by omega) (fun c_5 => ?_) (fun c_5 => ?_)
  · refine zt_aload_n dX4_pass_10 rfl ?_
    refine zt_callV0v dX4_pass_11 ml_X4_26 (zs_3 hS) (Nat.le_of_ble_eq_true rfl) (c_adv (p := kE (h0 2) (h0 1 1) p) hS hs.2.1 (hs.tok hT) hs.2.2.1.1 (by rw [hs.1 1 (by decide) (by decide)]; have hb := kE_b (T := (h0 2)) (L := (h0 1 1)) (p := p) (by omega); omega)) ?_
    obtain ⟨g1, hg1⟩ : ∃ g, g = lxA h (kE (h0 2) (h0 1 1) p) := ⟨_, rfl⟩
    refine zt_mem hg1.symm ?_
    have sg1 : pSt h0 g1 (kE (h0 2) (h0 1 1) p) (sz) := hg1 ▸ hs.adv
    have cg1 : g1 4 = h 4 := hg1 ▸ lxA_ne (by decide)
    have bg1 := kE_b (T := (h0 2)) (L := (h0 1 1)) (p := p) (by omega)
    have lg1 := bg1.2 (by omega)
    have bg1 := bg1.1
    refine zt_iconst dX4_pass_14 ?_
    exact zt_zret dX4_pass_15 (by decide) ⟨rfl, rfl, Or.inl ⟨c_5, rfl, hg1⟩⟩
  · refine zt_iconst dX4_pass_8 ?_
    exact zt_zret dX4_pass_9 (by decide) ⟨rfl, rfl, Or.inr ⟨c_5, rfl, rfl⟩⟩

set_option maxRecDepth 100000 in
set_option maxHeartbeats 4000000 in
theorem c_cmp {d n : Nat} {sh : zSh} {h : zMem} {h0 : zMem} {p sz : Int} (hS : zShp sh) (hs : pSt h0 h p sz) : zF yX4_comparison cX4_comparison 1 (some .int) (d + 0) 0 0 [(2, 3)] n sh h (some (0, cmpv (kK (h0 2) (h0 1 1) p))) n sh h := by
  refine zF.ofT (by decide +kernel) [some (2, 3)] rfl (Nat.le_of_ble_eq_true rfl) ?_
  have hkr := kK_r (T := h0 2) (L := h0 1 1) (p := p)
  refine zt_aload_n dX4_comparison_0 rfl ?_
  refine zt_getv (v := kK (h0 2) (h0 1 1) p) dX4_comparison_1 fl_X4_33 (zs_3 hS) hs.2.2.1.2.2.1 ?_
  rcases (show (kK (h0 2) (h0 1 1) p) = 60 ∨ (kK (h0 2) (h0 1 1) p) = 61 ∨ (kK (h0 2) (h0 1 1) p) = 62 ∨ ((kK (h0 2) (h0 1 1) p) < 60 ∨ 62 < (kK (h0 2) (h0 1 1) p)) by omega) with e_4 | e_4 | e_4 | e_4
  · refine zt_tableIn (off := 28) (tgt := 32) dX4_comparison_4 (by have := kK_r (T := h0 2) (L := h0 1 1) (p := p); omega) (by omega) (by omega) (by rw [e_4]; rfl) (by decide) ?_
    refine zt_bipush dX4_comparison_32 (by decide) ?_
    exact zt_iret dX4_comparison_34 ⟨by congr 2; unfold cmpv; (repeat' split) <;> omega, rfl, rfl, rfl⟩
  · refine zt_tableIn (off := 34) (tgt := 38) dX4_comparison_4 (by have := kK_r (T := h0 2) (L := h0 1 1) (p := p); omega) (by omega) (by omega) (by rw [e_4]; rfl) (by decide) ?_
    refine zt_bipush dX4_comparison_38 (by decide) ?_
    exact zt_iret dX4_comparison_40 ⟨by congr 2; unfold cmpv; (repeat' split) <;> omega, rfl, rfl, rfl⟩
  · refine zt_tableIn (off := 31) (tgt := 35) dX4_comparison_4 (by have := kK_r (T := h0 2) (L := h0 1 1) (p := p); omega) (by omega) (by omega) (by rw [e_4]; rfl) (by decide) ?_
    refine zt_bipush dX4_comparison_35 (by decide) ?_
    exact zt_iret dX4_comparison_37 ⟨by congr 2; unfold cmpv; (repeat' split) <;> omega, rfl, rfl, rfl⟩
  · refine zt_tableOut (tgt := 41) dX4_comparison_4 (by have := kK_r (T := h0 2) (L := h0 1 1) (p := p); omega) e_4 (by decide) ?_
    refine zt_iconst dX4_comparison_41 ?_
    exact zt_iret dX4_comparison_42 ⟨by congr 2; unfold cmpv; (repeat' split) <;> omega, rfl, rfl, rfl⟩

set_option maxRecDepth 100000 in
set_option maxHeartbeats 4000000 in
theorem c_opens {d n : Nat} {sh : zSh} {h : zMem} {h0 : zMem} {p sz : Int} (hS : zShp sh) (hs : pSt h0 h p sz) : zF yX4_opens cX4_opens 1 (some .boolean) (d + 0) 0 0 [(2, 3)] n sh h (some (0, zb (kK (h0 2) (h0 1 1) p = 40 ∨ kK (h0 2) (h0 1 1) p = 45 ∨ kK (h0 2) (h0 1 1) p = 4 ∨ kK (h0 2) (h0 1 1) p = 5 ∨ kK (h0 2) (h0 1 1) p = 6 ∨ kK (h0 2) (h0 1 1) p = 7 ∨ kK (h0 2) (h0 1 1) p = 8))) n sh h := by
  refine zF.ofT (by decide +kernel) [some (2, 3)] rfl (Nat.le_of_ble_eq_true rfl) ?_
  have hkr := kK_r (T := h0 2) (L := h0 1 1) (p := p)
  refine zt_aload_n dX4_opens_0 rfl ?_
  refine zt_getv (v := kK (h0 2) (h0 1 1) p) dX4_opens_1 fl_X4_33 (zs_3 hS) hs.2.2.1.2.2.1 ?_
  refine zt_bipush dX4_opens_4 (by decide) ?_
  refine zt_icmp_eq (tgt := 61) dX4_opens_6 (by decide) (by have := kK_r (T := h0 2) (L := h0 1 1) (p := p); omega) (by decide) (fun c_6 => ?_) (fun c_6 => ?_)
  · refine zt_iconst dX4_opens_61 ?_
    refine zt_goto (tgt := 66) dX4_opens_62 (by decide) ?_
    exact zt_zret dX4_opens_66 (by decide) ⟨zb1 (by omega), rfl, rfl, rfl⟩
  · refine zt_aload_n dX4_opens_9 rfl ?_
    refine zt_getv (v := kK (h0 2) (h0 1 1) p) dX4_opens_10 fl_X4_33 (zs_3 hS) hs.2.2.1.2.2.1 ?_
    refine zt_bipush dX4_opens_13 (by decide) ?_
    refine zt_icmp_eq (tgt := 61) dX4_opens_15 (by decide) (by have := kK_r (T := h0 2) (L := h0 1 1) (p := p); omega) (by decide) (fun c_15 => ?_) (fun c_15 => ?_)
    · refine zt_iconst dX4_opens_61 ?_
      refine zt_goto (tgt := 66) dX4_opens_62 (by decide) ?_
      exact zt_zret dX4_opens_66 (by decide) ⟨zb1 (by omega), rfl, rfl, rfl⟩
    · refine zt_aload_n dX4_opens_18 rfl ?_
      refine zt_getv (v := kK (h0 2) (h0 1 1) p) dX4_opens_19 fl_X4_33 (zs_3 hS) hs.2.2.1.2.2.1 ?_
      refine zt_iconst dX4_opens_22 ?_
      refine zt_icmp_eq (tgt := 61) dX4_opens_23 (by decide) (by have := kK_r (T := h0 2) (L := h0 1 1) (p := p); omega) (by decide) (fun c_23 => ?_) (fun c_23 => ?_)
      · refine zt_iconst dX4_opens_61 ?_
        refine zt_goto (tgt := 66) dX4_opens_62 (by decide) ?_
        exact zt_zret dX4_opens_66 (by decide) ⟨zb1 (by omega), rfl, rfl, rfl⟩
      · refine zt_aload_n dX4_opens_26 rfl ?_
        refine zt_getv (v := kK (h0 2) (h0 1 1) p) dX4_opens_27 fl_X4_33 (zs_3 hS) hs.2.2.1.2.2.1 ?_
        refine zt_iconst dX4_opens_30 ?_
        refine zt_icmp_eq (tgt := 61) dX4_opens_31 (by decide) (by have := kK_r (T := h0 2) (L := h0 1 1) (p := p); omega) (by decide) (fun c_31 => ?_) (fun c_31 => ?_)
        · refine zt_iconst dX4_opens_61 ?_
          refine zt_goto (tgt := 66) dX4_opens_62 (by decide) ?_
          exact zt_zret dX4_opens_66 (by decide) ⟨zb1 (by omega), rfl, rfl, rfl⟩
        · refine zt_aload_n dX4_opens_34 rfl ?_
          refine zt_getv (v := kK (h0 2) (h0 1 1) p) dX4_opens_35 fl_X4_33 (zs_3 hS) hs.2.2.1.2.2.1 ?_
          refine zt_bipush dX4_opens_38 (by decide) ?_
          refine zt_icmp_eq (tgt := 61) dX4_opens_40 (by decide) (by have := kK_r (T := h0 2) (L := h0 1 1) (p := p); omega) (by decide) (fun c_40 => ?_) (fun c_40 => ?_)
          · refine zt_iconst dX4_opens_61 ?_
            refine zt_goto (tgt := 66) dX4_opens_62 (by decide) ?_
            exact zt_zret dX4_opens_66 (by decide) ⟨zb1 (by omega), rfl, rfl, rfl⟩
          · refine zt_aload_n dX4_opens_43 rfl ?_
            refine zt_getv (v := kK (h0 2) (h0 1 1) p) dX4_opens_44 fl_X4_33 (zs_3 hS) hs.2.2.1.2.2.1 ?_
            refine zt_bipush dX4_opens_47 (by decide) ?_
            refine zt_icmp_eq (tgt := 61) dX4_opens_49 (by decide) (by have := kK_r (T := h0 2) (L := h0 1 1) (p := p); omega) (by decide) (fun c_49 => ?_) (fun c_49 => ?_)
            · refine zt_iconst dX4_opens_61 ?_
              refine zt_goto (tgt := 66) dX4_opens_62 (by decide) ?_
              exact zt_zret dX4_opens_66 (by decide) ⟨zb1 (by omega), rfl, rfl, rfl⟩
            · refine zt_aload_n dX4_opens_52 rfl ?_
              refine zt_getv (v := kK (h0 2) (h0 1 1) p) dX4_opens_53 fl_X4_33 (zs_3 hS) hs.2.2.1.2.2.1 ?_
              refine zt_bipush dX4_opens_56 (by decide) ?_
              refine zt_icmp_ne (tgt := 65) dX4_opens_58 (by decide) (by have := kK_r (T := h0 2) (L := h0 1 1) (p := p); omega) (by decide) (fun c_58 => ?_) (fun c_58 => ?_)
              · refine zt_iconst dX4_opens_65 ?_
                exact zt_zret dX4_opens_66 (by decide) ⟨zb0 (by omega), rfl, rfl, rfl⟩
              · refine zt_iconst dX4_opens_61 ?_
                refine zt_goto (tgt := 66) dX4_opens_62 (by decide) ?_
                exact zt_zret dX4_opens_66 (by decide) ⟨zb1 (by omega), rfl, rfl, rfl⟩
