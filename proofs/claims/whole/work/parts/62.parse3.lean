set_option maxRecDepth 100000 in
set_option maxHeartbeats 4000000 in
theorem c_two2 {d : Nat} {h0 : zMem} {ar c m : Int} {E : Int → Int ⊕ zPR} (hT : tOK h0) (hT1 : (h0 1 1) ≤ 200) (hC : pC h0 yX4_sum cX4_sum 4 [(0, ar)] E (d + 7)) (hCg : ∀ p r, p ≤ (h0 1 1) → E p = .inr r → pG1 (h0 1 1) p r) : pC2 h0 yX4_twoInBrackets cX4_twoInBrackets 2 [(0, ar)] (gTwo (h0 2) (h0 1 1) E c m) (d + 8) := by
  intro n sh h p sz hS hs hsz
  refine zM.ofT2 (by decide +kernel) [some (2, 3), some (0, ar)] rfl (Nat.le_of_ble_eq_true rfl) ?_
  refine zt_aload_n dX4_twoInBrackets_0 rfl ?_
  refine zt_bipush dX4_twoInBrackets_1 (by decide) ?_
  refine zt_callV1q dX4_twoInBrackets_3 ml_X4_59 (zs_3 hS) (Nat.le_of_ble_eq_true rfl) (c_pass hT hS hs (by omega) (by decide)) ?_
  rintro r n1 sh1 g1 ⟨rfl, rfl, ⟨hw1, rfl, hg1⟩ | ⟨hw1, rfl, rfl⟩⟩
  · simp only [Option.toList, List.cons_append, List.nil_append]
    have sg1 : pSt h0 g1 (kE (h0 2) (h0 1 1) p) (sz) := hg1 ▸ hs.adv
    have cg1 : g1 4 = h 4 := hg1 ▸ lxA_ne (by decide)
    have bg1 := kE_b (T := (h0 2)) (L := (h0 1 1)) (p := p) (by omega)
    have lg1 := bg1.2 (by omega)
    have bg1 := bg1.1
    have hgp1 : gP (h0 2) (h0 1 1) 40 (p) = .inr (kE (h0 2) (h0 1 1) p) := if_pos hw1
    refine zt_if_eq (tgt := 47) dX4_twoInBrackets_6 (by decide) (by decide) (fun q => absurd q (by decide)) (fun c_6 => ?_)
    refine zt_aload_n dX4_twoInBrackets_9 rfl ?_
    refine zt_iload_n dX4_twoInBrackets_10 rfl ?_
    refine zt_callV1q dX4_twoInBrackets_11 ml_X4_29 (zs_3 hS) (Nat.le_of_ble_eq_true rfl) (hC _ _ _ _ _ hS sg1 (by have hb := kE_b (T := (h0 2)) (L := (h0 1 1)) (p := kE (h0 2) (h0 1 1) p) (by omega); omega)) ?_
    rintro r n1 sh1 g2 ⟨rfl, rfl, hq2⟩
    rcases he2 : E (kE (h0 2) (h0 1 1) p) with e | r2 <;> rw [he2] at hq2
    · obtain ⟨rfl, ho2, hR2, hs2⟩ := hq2
      simp only [Option.toList, List.cons_append, List.nil_append]
      refine zt_if_eq (tgt := 47) dX4_twoInBrackets_14 (by decide) (by decide) (fun c_14 => ?_) (fun q => absurd q (by decide))
      refine zt_iconst dX4_twoInBrackets_47 ?_
      exact zt_zret dX4_twoInBrackets_48 (by decide) ⟨rfl, rfl, by rw [show gTwo (h0 2) (h0 1 1) E c m p = .inl e by unfold gTwo; simp only [hgp1, he2]]; exact ⟨rfl, ho2, hR2, hs2⟩⟩
    · obtain ⟨rfl, sg2, u2, v2⟩ := hq2
      simp only [Option.toList, List.cons_append, List.nil_append]
      have b2 := hCg _ _ (by first | omega | (have hb := kE_b (T := (h0 2)) (L := (h0 1 1)) (p := kE (h0 2) (h0 1 1) p) (by omega); omega)) he2
      obtain ⟨⟨b2a, b2b⟩, ⟨b2c, b2d⟩, -⟩ := b2
      refine zt_if_eq (tgt := 47) dX4_twoInBrackets_14 (by decide) (by decide) (fun q => absurd q (by decide)) (fun c_14 => ?_)
      refine zt_aload_n dX4_twoInBrackets_17 rfl ?_
      refine zt_bipush dX4_twoInBrackets_18 (by decide) ?_
      refine zt_callV1q dX4_twoInBrackets_20 ml_X4_59 (zs_3 hS) (Nat.le_of_ble_eq_true rfl) (c_pass hT hS sg2 (by omega) (by decide)) ?_
      rintro r n1 sh1 g3 ⟨rfl, rfl, ⟨hw3, rfl, hg3⟩ | ⟨hw3, rfl, rfl⟩⟩
      · simp only [Option.toList, List.cons_append, List.nil_append]
        have sg3 : pSt h0 g3 (kE (h0 2) (h0 1 1) r2.1) (sz + r2.2.1) := hg3 ▸ sg2.adv
        have cg3 : g3 4 = g2 4 := hg3 ▸ lxA_ne (by decide)
        have bg3 := kE_b (T := (h0 2)) (L := (h0 1 1)) (p := r2.1) (by omega)
        have lg3 := bg3.2 (by omega)
        have bg3 := bg3.1
        have hgp3 : gP (h0 2) (h0 1 1) 44 (r2.1) = .inr (kE (h0 2) (h0 1 1) r2.1) := if_pos hw3
        refine zt_if_eq (tgt := 47) dX4_twoInBrackets_23 (by decide) (by decide) (fun q => absurd q (by decide)) (fun c_23 => ?_)
        refine zt_aload_n dX4_twoInBrackets_26 rfl ?_
        refine zt_iload_n dX4_twoInBrackets_27 rfl ?_
        refine zt_callV1q dX4_twoInBrackets_28 ml_X4_29 (zs_3 hS) (Nat.le_of_ble_eq_true rfl) (hC _ _ _ _ _ hS sg3 (by have hb := kE_b (T := (h0 2)) (L := (h0 1 1)) (p := kE (h0 2) (h0 1 1) r2.1) (by omega); omega)) ?_
        rintro r n1 sh1 g4 ⟨rfl, rfl, hq4⟩
        rcases he4 : E (kE (h0 2) (h0 1 1) r2.1) with e | r4 <;> rw [he4] at hq4
        · obtain ⟨rfl, ho4, hR4, hs4⟩ := hq4
          simp only [Option.toList, List.cons_append, List.nil_append]
          refine zt_if_eq (tgt := 47) dX4_twoInBrackets_31 (by decide) (by decide) (fun c_31 => ?_) (fun q => absurd q (by decide))
          refine zt_iconst dX4_twoInBrackets_47 ?_
          exact zt_zret dX4_twoInBrackets_48 (by decide) ⟨rfl, rfl, by rw [show gTwo (h0 2) (h0 1 1) E c m p = .inl e by unfold gTwo; simp only [hgp1, he2, hgp3, he4]]; exact ⟨rfl, ho4, hR4, hs4⟩⟩
        · obtain ⟨rfl, sg4, u4, v4⟩ := hq4
          simp only [Option.toList, List.cons_append, List.nil_append]
          have b4 := hCg _ _ (by first | omega | (have hb := kE_b (T := (h0 2)) (L := (h0 1 1)) (p := kE (h0 2) (h0 1 1) r2.1) (by omega); omega)) he4
          obtain ⟨⟨b4a, b4b⟩, ⟨b4c, b4d⟩, -⟩ := b4
          refine zt_if_eq (tgt := 47) dX4_twoInBrackets_31 (by decide) (by decide) (fun q => absurd q (by decide)) (fun c_31 => ?_)
          refine zt_aload_n dX4_twoInBrackets_34 rfl ?_
          refine zt_bipush dX4_twoInBrackets_35 (by decide) ?_
          refine zt_callV1q dX4_twoInBrackets_37 ml_X4_59 (zs_3 hS) (Nat.le_of_ble_eq_true rfl) (c_pass hT hS sg4 (by omega) (by decide)) ?_
          rintro r n1 sh1 g5 ⟨rfl, rfl, ⟨hw5, rfl, hg5⟩ | ⟨hw5, rfl, rfl⟩⟩
          · simp only [Option.toList, List.cons_append, List.nil_append]
            have sg5 : pSt h0 g5 (kE (h0 2) (h0 1 1) r4.1) (sz + r2.2.1 + r4.2.1) := hg5 ▸ sg4.adv
            have cg5 : g5 4 = g4 4 := hg5 ▸ lxA_ne (by decide)
            have bg5 := kE_b (T := (h0 2)) (L := (h0 1 1)) (p := r4.1) (by omega)
            have lg5 := bg5.2 (by omega)
            have bg5 := bg5.1
            have hgp5 : gP (h0 2) (h0 1 1) 41 (r4.1) = .inr (kE (h0 2) (h0 1 1) r4.1) := if_pos hw5
            refine zt_if_eq (tgt := 47) dX4_twoInBrackets_40 (by decide) (by decide) (fun q => absurd q (by decide)) (fun c_40 => ?_)
            refine zt_iconst dX4_twoInBrackets_43 ?_
            refine zt_goto (tgt := 48) dX4_twoInBrackets_44 (by decide) ?_
            exact zt_zret dX4_twoInBrackets_48 (by decide) ⟨rfl, rfl, by
      rw [show gTwo (h0 2) (h0 1 1) E c m p = .inr (pTo (kE (h0 2) (h0 1 1) r4.1) (pOp c m r2 r4)) by unfold gTwo; simp only [hgp1, he2, hgp3, he4, hgp5]]
      refine ⟨rfl, ?_, fun j q1 q2 => ?_, fun j q1 q2 => ?_⟩
      · show pSt h0 g5 (kE (h0 2) (h0 1 1) r4.1) (sz + (r2.2.1 + (r4.2.1 + 1)) - 1)
        rw [show sz + (r2.2.1 + (r4.2.1 + 1)) - 1 = sz + r2.2.1 + r4.2.1 by omega]; exact sg5
      · rw [cg5, u4 j q1 (by omega), cg3, u2 j q1 q2, cg1]
      · replace q2 : j < sz + (r2.2.1 + (r4.2.1 + 1)) - 1 := q2
        show _ = sap r2.2.1 r2.2.2.1 (sap r4.2.1 r4.2.2.1 (sgl c)) sz j
        rw [cg5]
        by_cases q3 : j < sz + r2.2.1
        · rw [sap_l q3, u4 j (by omega) q3, cg3]; exact v2 j q1 q3
        · rw [sap_r (by omega), sap_l (by omega)]; exact v4 j (by omega) (by omega)⟩
          · simp only [Option.toList, List.cons_append, List.nil_append]
            have hgp5 : gP (h0 2) (h0 1 1) 41 (r4.1) = .inl (kS (h0 2) (h0 1 1) (r4.1)) := if_neg hw5
            refine zt_if_eq (tgt := 47) dX4_twoInBrackets_40 (by decide) (by decide) (fun c_40 => ?_) (fun q => absurd q (by decide))
            refine zt_iconst dX4_twoInBrackets_47 ?_
            exact zt_zret dX4_twoInBrackets_48 (by decide) ⟨rfl, rfl, by rw [show gTwo (h0 2) (h0 1 1) E c m p = .inl _ by unfold gTwo; simp only [hgp1, he2, hgp3, he4, hgp5]; rfl]; exact ⟨rfl, sg4.1, sg4.2.1, sg4.2.2.1.2.1⟩⟩
      · simp only [Option.toList, List.cons_append, List.nil_append]
        have hgp3 : gP (h0 2) (h0 1 1) 44 (r2.1) = .inl (kS (h0 2) (h0 1 1) (r2.1)) := if_neg hw3
        refine zt_if_eq (tgt := 47) dX4_twoInBrackets_23 (by decide) (by decide) (fun c_23 => ?_) (fun q => absurd q (by decide))
        refine zt_iconst dX4_twoInBrackets_47 ?_
        exact zt_zret dX4_twoInBrackets_48 (by decide) ⟨rfl, rfl, by rw [show gTwo (h0 2) (h0 1 1) E c m p = .inl _ by unfold gTwo; simp only [hgp1, he2, hgp3]; rfl]; exact ⟨rfl, sg2.1, sg2.2.1, sg2.2.2.1.2.1⟩⟩
  · simp only [Option.toList, List.cons_append, List.nil_append]
    have hgp1 : gP (h0 2) (h0 1 1) 40 (p) = .inl (kS (h0 2) (h0 1 1) (p)) := if_neg hw1
    refine zt_if_eq (tgt := 47) dX4_twoInBrackets_6 (by decide) (by decide) (fun c_6 => ?_) (fun q => absurd q (by decide))
    refine zt_iconst dX4_twoInBrackets_47 ?_
    exact zt_zret dX4_twoInBrackets_48 (by decide) ⟨rfl, rfl, by rw [show gTwo (h0 2) (h0 1 1) E c m p = .inl _ by unfold gTwo; simp only [hgp1]; rfl]; exact ⟨rfl, hs.1, hs.2.1, hs.2.2.1.2.1⟩⟩

set_option maxRecDepth 100000 in
set_option maxHeartbeats 4000000 in
theorem c_choice {d : Nat} {h0 : zMem} {ar : Int} {E : Int → Int ⊕ zPR} (hT : tOK h0) (hT1 : (h0 1 1) ≤ 200) (hC : pC h0 yX4_sum cX4_sum 4 [(0, ar)] E (d + 6)) (hCg : ∀ p r, p ≤ (h0 1 1) → E p = .inr r → pG1 (h0 1 1) p r) : pC h0 yX4_choice cX4_choice 5 [(0, ar)] (gIf (h0 2) (h0 1 1) E) (d + 7) := by
  intro n sh h p sz hS hs hsz
  refine zM.ofT2 (by decide +kernel) [some (2, 3), some (0, ar), none, none, none] rfl (Nat.le_of_ble_eq_true rfl) ?_
  refine zt_aload_n dX4_choice_0 rfl ?_
  refine zt_iload_n dX4_choice_1 rfl ?_
  refine zt_callV1q dX4_choice_2 ml_X4_29 (zs_3 hS) (Nat.le_of_ble_eq_true rfl) (hC _ _ _ _ _ hS hs (by have hb := kE_b (T := (h0 2)) (L := (h0 1 1)) (p := p) (by omega); omega)) ?_
  rintro r n1 sh1 g1 ⟨rfl, rfl, hq1⟩
  rcases he1 : E (p) with e | r1 <;> rw [he1] at hq1
  · obtain ⟨rfl, ho1, hR1, hs1⟩ := hq1
    simp only [Option.toList, List.cons_append, List.nil_append]
    refine zt_if_ne (tgt := 10) dX4_choice_5 (by decide) (by decide) (fun q => absurd q (by decide)) (fun c_5 => ?_)
    refine zt_iconst dX4_choice_8 ?_
    exact zt_zret dX4_choice_9 (by decide) ⟨rfl, rfl, by rw [show gIf (h0 2) (h0 1 1) E p = .inl e by unfold gIf; simp only [he1, if_true]]; exact ⟨rfl, ho1, hR1, hs1⟩⟩
  · obtain ⟨rfl, sg1, u1, v1⟩ := hq1
    simp only [Option.toList, List.cons_append, List.nil_append]
    have b1 := hCg _ _ (by first | omega | (have hb := kE_b (T := (h0 2)) (L := (h0 1 1)) (p := p) (by omega); omega)) he1
    obtain ⟨⟨b1a, b1b⟩, ⟨b1c, b1d⟩, -⟩ := b1
    refine zt_if_ne (tgt := 10) dX4_choice_5 (by decide) (by decide) (fun c_5 => ?_) (fun q => absurd q (by decide))
    refine zt_aload_n dX4_choice_10 rfl ?_
    refine zt_callV0r dX4_choice_11 ml_X4_68 (zs_3 hS) (Nat.le_of_ble_eq_true rfl) (c_cmp hS sg1) ?_
    have hcm : (cmpv (kK (h0 2) (h0 1 1) r1.1) = -11 ∧ kK (h0 2) (h0 1 1) r1.1 = 60) ∨ (cmpv (kK (h0 2) (h0 1 1) r1.1) = -12 ∧ kK (h0 2) (h0 1 1) r1.1 = 62) ∨ (cmpv (kK (h0 2) (h0 1 1) r1.1) = -13 ∧ kK (h0 2) (h0 1 1) r1.1 = 61) ∨ (cmpv (kK (h0 2) (h0 1 1) r1.1) = 0 ∧ kK (h0 2) (h0 1 1) r1.1 ≠ 60 ∧ kK (h0 2) (h0 1 1) r1.1 ≠ 62 ∧ kK (h0 2) (h0 1 1) r1.1 ≠ 61) := by
      unfold cmpv; (repeat' split) <;> omega
    refine zt_istore_n_2 dX4_choice_14 (by decide) rfl ?_
    refine zt_iload_n dX4_choice_15 rfl ?_
    refine zt_if_ne (tgt := 21) dX4_choice_16 (by decide) (by omega) (fun c_16 => ?_) (fun c_16 => ?_)
    · have hif : (kK (h0 2) (h0 1 1) r1.1 = 60 ∨ kK (h0 2) (h0 1 1) r1.1 = 62 ∨ kK (h0 2) (h0 1 1) r1.1 = 61) = True := eq_true (by omega)
      refine zt_aload_n dX4_choice_21 rfl ?_
      refine zt_callV0v dX4_choice_22 ml_X4_26 (zs_3 hS) (Nat.le_of_ble_eq_true rfl) (c_adv (p := kE (h0 2) (h0 1 1) r1.1) hS sg1.2.1 (sg1.tok hT) sg1.2.2.1.1 (by rw [sg1.1 1 (by decide) (by decide)]; have hb := kE_b (T := (h0 2)) (L := (h0 1 1)) (p := r1.1) (by omega); omega)) ?_
      obtain ⟨g2, hg2⟩ : ∃ g, g = lxA g1 (kE (h0 2) (h0 1 1) r1.1) := ⟨_, rfl⟩
      refine zt_mem hg2.symm ?_
      have sg2 : pSt h0 g2 (kE (h0 2) (h0 1 1) r1.1) (sz + r1.2.1) := hg2 ▸ sg1.adv
      have cg2 : g2 4 = g1 4 := hg2 ▸ lxA_ne (by decide)
      have bg2 := kE_b (T := (h0 2)) (L := (h0 1 1)) (p := r1.1) (by omega)
      have lg2 := bg2.2 (by omega)
      have bg2 := bg2.1
      refine zt_aload_n dX4_choice_25 rfl ?_
      refine zt_iload_n dX4_choice_26 rfl ?_
      refine zt_callV1q dX4_choice_27 ml_X4_29 (zs_3 hS) (Nat.le_of_ble_eq_true rfl) (hC _ _ _ _ _ hS sg2 (by have hb := kE_b (T := (h0 2)) (L := (h0 1 1)) (p := kE (h0 2) (h0 1 1) r1.1) (by omega); omega)) ?_
      rintro r n1 sh1 g3 ⟨rfl, rfl, hq3⟩
      rcases he3 : E (kE (h0 2) (h0 1 1) r1.1) with e | r3 <;> rw [he3] at hq3
      · obtain ⟨rfl, ho3, hR3, hs3⟩ := hq3
        simp only [Option.toList, List.cons_append, List.nil_append]
        refine zt_if_eq (tgt := 42) dX4_choice_30 (by decide) (by decide) (fun c_30 => ?_) (fun q => absurd q (by decide))
        refine zt_iconst dX4_choice_42 ?_
        exact zt_zret dX4_choice_43 (by decide) ⟨rfl, rfl, by rw [show gIf (h0 2) (h0 1 1) E p = .inl e by unfold gIf; simp only [he1, hif, he3, if_true]]; exact ⟨rfl, ho3, hR3, hs3⟩⟩
      · obtain ⟨rfl, sg3, u3, v3⟩ := hq3
        simp only [Option.toList, List.cons_append, List.nil_append]
        have b3 := hCg _ _ (by first | omega | (have hb := kE_b (T := (h0 2)) (L := (h0 1 1)) (p := kE (h0 2) (h0 1 1) r1.1) (by omega); omega)) he3
        obtain ⟨⟨b3a, b3b⟩, ⟨b3c, b3d⟩, -⟩ := b3
        refine zt_if_eq (tgt := 42) dX4_choice_30 (by decide) (by decide) (fun q => absurd q (by decide)) (fun c_30 => ?_)
        refine zt_aload_n dX4_choice_33 rfl ?_
        refine zt_getv (v := kK (h0 2) (h0 1 1) r3.1) dX4_choice_34 fl_X4_33 (zs_3 hS) sg3.2.2.1.2.2.1 ?_
        refine zt_bipush dX4_choice_37 (by decide) ?_
        refine zt_icmp_eq (tgt := 44) dX4_choice_39 (by decide) (by have := kK_r (T := h0 2) (L := h0 1 1) (p := r3.1); omega) (by decide) (fun c_39 => ?_) (fun c_39 => ?_)
        · have hp9 : gP (h0 2) (h0 1 1) 9 r3.1 = .inr (kE (h0 2) (h0 1 1) r3.1) := if_pos (by omega)
          have h49 := kE_4 (T := h0 2) (L := h0 1 1) (p := r3.1) (by omega) (by omega)
          refine zt_aload_n dX4_choice_44 rfl ?_
          refine zt_callV0v dX4_choice_45 ml_X4_26 (zs_3 hS) (Nat.le_of_ble_eq_true rfl) (c_adv (p := kE (h0 2) (h0 1 1) r3.1) hS sg3.2.1 (sg3.tok hT) sg3.2.2.1.1 (by rw [sg3.1 1 (by decide) (by decide)]; have hb := kE_b (T := (h0 2)) (L := (h0 1 1)) (p := r3.1) (by omega); omega)) ?_
          obtain ⟨g4, hg4⟩ : ∃ g, g = lxA g3 (kE (h0 2) (h0 1 1) r3.1) := ⟨_, rfl⟩
          refine zt_mem hg4.symm ?_
          have sg4 : pSt h0 g4 (kE (h0 2) (h0 1 1) r3.1) (sz + r1.2.1 + r3.2.1) := hg4 ▸ sg3.adv
          have cg4 : g4 4 = g3 4 := hg4 ▸ lxA_ne (by decide)
          have bg4 := kE_b (T := (h0 2)) (L := (h0 1 1)) (p := r3.1) (by omega)
          have lg4 := bg4.2 (by omega)
          have bg4 := bg4.1
          refine zt_aload_n dX4_choice_48 rfl ?_
          refine zt_iload_n dX4_choice_49 rfl ?_
          refine zt_callV1r dX4_choice_50 ml_X4_42 (zs_3 hS) (Nat.le_of_ble_eq_true rfl) (c_emit hS sg4.2.1 (by rw [sg4.2.2.2]; omega) (by omega)) ?_
          obtain ⟨g5, hg5⟩ : ∃ g, g = pEm g4 (cmpv (kK (h0 2) (h0 1 1) r1.1)) := ⟨_, rfl⟩
          refine zt_mem hg5.symm ?_
          have sg5 : pSt h0 g5 (kE (h0 2) (h0 1 1) r3.1) (sz + r1.2.1 + r3.2.1 + 1) := hg5 ▸ sg4.emit
          have cg5 : ∀ j, g5 4 j = if j = sz + r1.2.1 + r3.2.1 then cmpv (kK (h0 2) (h0 1 1) r1.1) else g4 4 j := fun j => hg5 ▸ pEm_4 sg4.2.2.2
          refine zt_pop dX4_choice_53 (Nat.ne_of_beq_eq_false rfl) ?_
          refine zt_aload_n dX4_choice_54 rfl ?_
          refine zt_getv (v := sz + r1.2.1 + r3.2.1 + 1) dX4_choice_55 fl_X4_19 (zs_3 hS) sg5.2.2.2 ?_
          refine zt_istore_n_3 dX4_choice_58 (by decide) rfl ?_
          refine zt_aload_n dX4_choice_59 rfl ?_
          refine zt_iconst dX4_choice_60 ?_
          refine zt_callV1r dX4_choice_61 ml_X4_42 (zs_3 hS) (Nat.le_of_ble_eq_true rfl) (c_emit hS sg5.2.1 (by rw [sg5.2.2.2]; omega) (by decide)) ?_
          obtain ⟨g6, hg6⟩ : ∃ g, g = pEm g5 0 := ⟨_, rfl⟩
          refine zt_mem hg6.symm ?_
          have sg6 : pSt h0 g6 (kE (h0 2) (h0 1 1) r3.1) (sz + r1.2.1 + r3.2.1 + 1 + 1) := hg6 ▸ sg5.emit
          have cg6 : ∀ j, g6 4 j = if j = sz + r1.2.1 + r3.2.1 + 1 then 0 else g5 4 j := fun j => hg6 ▸ pEm_4 sg5.2.2.2
          refine zt_pop dX4_choice_64 (Nat.ne_of_beq_eq_false rfl) ?_
          refine zt_aload_n dX4_choice_65 rfl ?_
          refine zt_iconst dX4_choice_66 ?_
          refine zt_callV1r dX4_choice_67 ml_X4_42 (zs_3 hS) (Nat.le_of_ble_eq_true rfl) (c_emit hS sg6.2.1 (by rw [sg6.2.2.2]; omega) (by decide)) ?_
          obtain ⟨g7, hg7⟩ : ∃ g, g = pEm g6 0 := ⟨_, rfl⟩
          refine zt_mem hg7.symm ?_
          have sg7 : pSt h0 g7 (kE (h0 2) (h0 1 1) r3.1) (sz + r1.2.1 + r3.2.1 + 1 + 1 + 1) := hg7 ▸ sg6.emit
          have cg7 : ∀ j, g7 4 j = if j = sz + r1.2.1 + r3.2.1 + 1 + 1 then 0 else g6 4 j := fun j => hg7 ▸ pEm_4 sg6.2.2.2
          refine zt_pop dX4_choice_70 (Nat.ne_of_beq_eq_false rfl) ?_
          refine zt_aload_n dX4_choice_71 rfl ?_
          refine zt_iload_n dX4_choice_72 rfl ?_
          refine zt_callV1q dX4_choice_73 ml_X4_29 (zs_3 hS) (Nat.le_of_ble_eq_true rfl) (hC _ _ _ _ _ hS sg7 (by have hb := kE_b (T := (h0 2)) (L := (h0 1 1)) (p := kE (h0 2) (h0 1 1) r3.1) (by omega); omega)) ?_
          rintro r n1 sh1 g8 ⟨rfl, rfl, hq8⟩
          rcases he8 : E (kE (h0 2) (h0 1 1) r3.1) with e | r8 <;> rw [he8] at hq8
          · obtain ⟨rfl, ho8, hR8, hs8⟩ := hq8
            simp only [Option.toList, List.cons_append, List.nil_append]
            refine zt_if_eq (tgt := 88) dX4_choice_76 (by decide) (by decide) (fun c_76 => ?_) (fun q => absurd q (by decide))
            refine zt_iconst dX4_choice_88 ?_
            exact zt_zret dX4_choice_89 (by decide) ⟨rfl, rfl, by rw [show gIf (h0 2) (h0 1 1) E p = .inl e by unfold gIf; simp only [he1, hif, he3, hp9, he8, if_true]]; exact ⟨rfl, ho8, hR8, hs8⟩⟩
          · obtain ⟨rfl, sg8, u8, v8⟩ := hq8
            simp only [Option.toList, List.cons_append, List.nil_append]
            have b8 := hCg _ _ (by first | omega | (have hb := kE_b (T := (h0 2)) (L := (h0 1 1)) (p := kE (h0 2) (h0 1 1) r3.1) (by omega); omega)) he8
            obtain ⟨⟨b8a, b8b⟩, ⟨b8c, b8d⟩, -⟩ := b8
            refine zt_if_eq (tgt := 88) dX4_choice_76 (by decide) (by decide) (fun q => absurd q (by decide)) (fun c_76 => ?_)
            refine zt_aload_n dX4_choice_79 rfl ?_
            refine zt_getv (v := kK (h0 2) (h0 1 1) r8.1) dX4_choice_80 fl_X4_33 (zs_3 hS) sg8.2.2.1.2.2.1 ?_
            refine zt_bipush dX4_choice_83 (by decide) ?_
            refine zt_icmp_eq (tgt := 90) dX4_choice_85 (by decide) (by have := kK_r (T := h0 2) (L := h0 1 1) (p := r8.1); omega) (by decide) (fun c_85 => ?_) (fun c_85 => ?_)
            · have hp10 : gP (h0 2) (h0 1 1) 10 r8.1 = .inr (kE (h0 2) (h0 1 1) r8.1) := if_pos (by omega)
              have h410 := kE_4 (T := h0 2) (L := h0 1 1) (p := r8.1) (by omega) (by omega)
              refine zt_aload_n dX4_choice_90 rfl ?_
              refine zt_callV0v dX4_choice_91 ml_X4_26 (zs_3 hS) (Nat.le_of_ble_eq_true rfl) (c_adv (p := kE (h0 2) (h0 1 1) r8.1) hS sg8.2.1 (sg8.tok hT) sg8.2.2.1.1 (by rw [sg8.1 1 (by decide) (by decide)]; have hb := kE_b (T := (h0 2)) (L := (h0 1 1)) (p := r8.1) (by omega); omega)) ?_
              obtain ⟨g9, hg9⟩ : ∃ g, g = lxA g8 (kE (h0 2) (h0 1 1) r8.1) := ⟨_, rfl⟩
              refine zt_mem hg9.symm ?_
              have sg9 : pSt h0 g9 (kE (h0 2) (h0 1 1) r8.1) (sz + r1.2.1 + r3.2.1 + 1 + 1 + 1 + r8.2.1) := hg9 ▸ sg8.adv
              have cg9 : g9 4 = g8 4 := hg9 ▸ lxA_ne (by decide)
              have bg9 := kE_b (T := (h0 2)) (L := (h0 1 1)) (p := r8.1) (by omega)
              have lg9 := bg9.2 (by omega)
              have bg9 := bg9.1
              refine zt_aload_n dX4_choice_94 rfl ?_
              refine zt_bipush dX4_choice_95 (by decide) ?_
              refine zt_callV1r dX4_choice_97 ml_X4_42 (zs_3 hS) (Nat.le_of_ble_eq_true rfl) (c_emit hS sg9.2.1 (by rw [sg9.2.2.2]; omega) (by decide)) ?_
              obtain ⟨g10, hg10⟩ : ∃ g, g = pEm g9 (-14) := ⟨_, rfl⟩
              refine zt_mem hg10.symm ?_
              have sg10 : pSt h0 g10 (kE (h0 2) (h0 1 1) r8.1) (sz + r1.2.1 + r3.2.1 + 1 + 1 + 1 + r8.2.1 + 1) := hg10 ▸ sg9.emit
              have cg10 : ∀ j, g10 4 j = if j = sz + r1.2.1 + r3.2.1 + 1 + 1 + 1 + r8.2.1 then -14 else g9 4 j := fun j => hg10 ▸ pEm_4 sg9.2.2.2
              refine zt_pop dX4_choice_100 (Nat.ne_of_beq_eq_false rfl) ?_
              refine zt_aload_n dX4_choice_101 rfl ?_
              refine zt_iconst dX4_choice_102 ?_
              refine zt_callV1r dX4_choice_103 ml_X4_42 (zs_3 hS) (Nat.le_of_ble_eq_true rfl) (c_emit hS sg10.2.1 (by rw [sg10.2.2.2]; omega) (by decide)) ?_
              obtain ⟨g11, hg11⟩ : ∃ g, g = pEm g10 0 := ⟨_, rfl⟩
              refine zt_mem hg11.symm ?_
              have sg11 : pSt h0 g11 (kE (h0 2) (h0 1 1) r8.1) (sz + r1.2.1 + r3.2.1 + 1 + 1 + 1 + r8.2.1 + 1 + 1) := hg11 ▸ sg10.emit
              have cg11 : ∀ j, g11 4 j = if j = sz + r1.2.1 + r3.2.1 + 1 + 1 + 1 + r8.2.1 + 1 then 0 else g10 4 j := fun j => hg11 ▸ pEm_4 sg10.2.2.2
              refine zt_pop dX4_choice_106 (Nat.ne_of_beq_eq_false rfl) ?_
              refine zt_aload_n dX4_choice_107 rfl ?_
              refine zt_iload_n dX4_choice_108 rfl ?_
              refine zt_aload_n dX4_choice_109 rfl ?_
              refine zt_getv (v := sz + r1.2.1 + r3.2.1 + 1 + 1 + 1 + r8.2.1 + 1 + 1) dX4_choice_110 fl_X4_19 (zs_3 hS) sg11.2.2.2 ?_
              refine zt_callV2v dX4_choice_113 ml_X4_72 (zs_3 hS) (Nat.le_of_ble_eq_true rfl) (c_patch hS sg11.2.1 (by omega) (by omega)) ?_
              obtain ⟨g12, hg12⟩ : ∃ g, g = zup g11 4 (sz + r1.2.1 + r3.2.1 + 1) (sz + r1.2.1 + r3.2.1 + 1 + 1 + 1 + r8.2.1 + 1 + 1) := ⟨_, rfl⟩
              refine zt_mem hg12.symm ?_
              have sg12 : pSt h0 g12 (kE (h0 2) (h0 1 1) r8.1) (sz + r1.2.1 + r3.2.1 + 1 + 1 + 1 + r8.2.1 + 1 + 1) := hg12 ▸ sg11.patch
              have cg12 : ∀ j, g12 4 j = if j = sz + r1.2.1 + r3.2.1 + 1 then sz + r1.2.1 + r3.2.1 + 1 + 1 + 1 + r8.2.1 + 1 + 1 else g11 4 j := fun j => hg12 ▸ zup_at
              refine zt_aload_n dX4_choice_116 rfl ?_
              refine zt_getv (v := sz + r1.2.1 + r3.2.1 + 1 + 1 + 1 + r8.2.1 + 1 + 1) dX4_choice_117 fl_X4_19 (zs_3 hS) sg12.2.2.2 ?_
              refine zt_istore_4 dX4_choice_120 (by decide) rfl ?_
              refine zt_aload_n dX4_choice_122 rfl ?_
              refine zt_iload_n dX4_choice_123 rfl ?_
              refine zt_callV1q dX4_choice_124 ml_X4_29 (zs_3 hS) (Nat.le_of_ble_eq_true rfl) (hC _ _ _ _ _ hS sg12 (by have hb := kE_b (T := (h0 2)) (L := (h0 1 1)) (p := kE (h0 2) (h0 1 1) r8.1) (by omega); omega)) ?_
              rintro r n1 sh1 g13 ⟨rfl, rfl, hq13⟩
              rcases he13 : E (kE (h0 2) (h0 1 1) r8.1) with e | r13 <;> rw [he13] at hq13
              · obtain ⟨rfl, ho13, hR13, hs13⟩ := hq13
                simp only [Option.toList, List.cons_append, List.nil_append]
                refine zt_if_ne (tgt := 132) dX4_choice_127 (by decide) (by decide) (fun q => absurd q (by decide)) (fun c_127 => ?_)
                refine zt_iconst dX4_choice_130 ?_
                exact zt_zret dX4_choice_131 (by decide) ⟨rfl, rfl, by rw [show gIf (h0 2) (h0 1 1) E p = .inl e by unfold gIf; simp only [he1, hif, he3, hp9, he8, hp10, he13, if_true]]; exact ⟨rfl, ho13, hR13, hs13⟩⟩
              · obtain ⟨rfl, sg13, u13, v13⟩ := hq13
                simp only [Option.toList, List.cons_append, List.nil_append]
                have b13 := hCg _ _ (by first | omega | (have hb := kE_b (T := (h0 2)) (L := (h0 1 1)) (p := kE (h0 2) (h0 1 1) r8.1) (by omega); omega)) he13
                obtain ⟨⟨b13a, b13b⟩, ⟨b13c, b13d⟩, -⟩ := b13
                refine zt_if_ne (tgt := 132) dX4_choice_127 (by decide) (by decide) (fun c_127 => ?_) (fun q => absurd q (by decide))
                refine zt_aload_n dX4_choice_132 rfl ?_
                refine zt_iload_n dX4_choice_133 rfl ?_
                refine zt_iconst dX4_choice_134 ?_
                refine zt_iadd dX4_choice_135 ?_
                refine zt_aload_n dX4_choice_136 rfl ?_
                refine zt_getv (v := sz + r1.2.1 + r3.2.1 + 1 + 1 + 1 + r8.2.1 + 1 + 1 + r13.2.1) dX4_choice_137 fl_X4_19 (zs_3 hS) sg13.2.2.2 ?_
                refine zt_callV2v dX4_choice_140 ml_X4_72 (zs_3 hS) (Nat.le_of_ble_eq_true rfl) (c_patch hS sg13.2.1 (by omega) (by omega)) ?_
                obtain ⟨g14, hg14⟩ : ∃ g, g = zup g13 4 ((sz + r1.2.1 + r3.2.1 + 1) + 1) (sz + r1.2.1 + r3.2.1 + 1 + 1 + 1 + r8.2.1 + 1 + 1 + r13.2.1) := ⟨_, rfl⟩
                refine zt_mem hg14.symm ?_
                have sg14 : pSt h0 g14 (r13.1) (sz + r1.2.1 + r3.2.1 + 1 + 1 + 1 + r8.2.1 + 1 + 1 + r13.2.1) := hg14 ▸ sg13.patch
                have cg14 : ∀ j, g14 4 j = if j = (sz + r1.2.1 + r3.2.1 + 1) + 1 then sz + r1.2.1 + r3.2.1 + 1 + 1 + 1 + r8.2.1 + 1 + 1 + r13.2.1 else g13 4 j := fun j => hg14 ▸ zup_at
                refine zt_aload_n dX4_choice_143 rfl ?_
                refine zt_iload dX4_choice_144 rfl ?_
                refine zt_iconst dX4_choice_146 ?_
                refine zt_isub dX4_choice_147 ?_
                refine zt_aload_n dX4_choice_148 rfl ?_
                refine zt_getv (v := sz + r1.2.1 + r3.2.1 + 1 + 1 + 1 + r8.2.1 + 1 + 1 + r13.2.1) dX4_choice_149 fl_X4_19 (zs_3 hS) sg14.2.2.2 ?_
                refine zt_callV2v dX4_choice_152 ml_X4_72 (zs_3 hS) (Nat.le_of_ble_eq_true rfl) (c_patch hS sg14.2.1 (by omega) (by omega)) ?_
                obtain ⟨g15, hg15⟩ : ∃ g, g = zup g14 4 ((sz + r1.2.1 + r3.2.1 + 1 + 1 + 1 + r8.2.1 + 1 + 1) - 1) (sz + r1.2.1 + r3.2.1 + 1 + 1 + 1 + r8.2.1 + 1 + 1 + r13.2.1) := ⟨_, rfl⟩
                refine zt_mem hg15.symm ?_
                have sg15 : pSt h0 g15 (r13.1) (sz + r1.2.1 + r3.2.1 + 1 + 1 + 1 + r8.2.1 + 1 + 1 + r13.2.1) := hg15 ▸ sg14.patch
                have cg15 : ∀ j, g15 4 j = if j = (sz + r1.2.1 + r3.2.1 + 1 + 1 + 1 + r8.2.1 + 1 + 1) - 1 then sz + r1.2.1 + r3.2.1 + 1 + 1 + 1 + r8.2.1 + 1 + 1 + r13.2.1 else g14 4 j := fun j => hg15 ▸ zup_at
                refine zt_iconst dX4_choice_155 ?_
                exact zt_zret dX4_choice_156 (by decide) ⟨rfl, rfl, by
      rw [show gIf (h0 2) (h0 1 1) E p = .inr (pIf (if kK (h0 2) (h0 1 1) r1.1 = 60 then -11 else if kK (h0 2) (h0 1 1) r1.1 = 62 then -12 else -13) (if kK (h0 2) (h0 1 1) r1.1 = 60 then 11 else if kK (h0 2) (h0 1 1) r1.1 = 62 then 12 else 13) r1 r3 r8 r13) by unfold gIf; simp only [he1, hif, he3, hp9, he8, hp10, he13, if_true]]
      refine ⟨rfl, ?_, fun j q1 q2 => ?_, fun j q1 q2 => ?_⟩
      · show pSt h0 g15 r13.1 (sz + (r1.2.1 + (r3.2.1 + (3 + (r8.2.1 + (2 + r13.2.1))))))
        rw [show sz + (r1.2.1 + (r3.2.1 + (3 + (r8.2.1 + (2 + r13.2.1))))) = sz + r1.2.1 + r3.2.1 + 1 + 1 + 1 + r8.2.1 + 1 + 1 + r13.2.1 by omega]; exact sg15
      · rw [cg15, if_neg (by omega)]; rw [cg14, if_neg (by omega)]; rw [u13 j (by omega) (by omega), cg12, if_neg (by omega)]; rw [cg11, if_neg (by omega), cg10, if_neg (by omega)]; rw [cg9]; rw [u8 j (by omega) (by omega), cg7, if_neg (by omega), cg6, if_neg (by omega), cg5, if_neg (by omega)]; rw [cg4]; rw [u3 j (by omega) (by omega), cg2]; exact u1 j q1 q2
      · replace q2 : j < sz + (r1.2.1 + (r3.2.1 + (3 + (r8.2.1 + (2 + r13.2.1))))) := q2
        show _ = sap r1.2.1 r1.2.2.1 (sap r3.2.1 r3.2.2.1 (sap 3 (sIf (if kK (h0 2) (h0 1 1) r1.1 = 60 then -11 else if kK (h0 2) (h0 1 1) r1.1 = 62 then -12 else -13) r8.2.1 r13.2.1) (sap r8.2.1 r8.2.2.1 (sap 2 (sJm r13.2.1) r13.2.2.1)))) sz j
        by_cases p1 : j < sz + r1.2.1
        · rw [sap_l p1]; rw [cg15, if_neg (by omega)]; rw [cg14, if_neg (by omega)]; rw [u13 j (by omega) (by omega), cg12, if_neg (by omega)]; rw [cg11, if_neg (by omega), cg10, if_neg (by omega)]; rw [cg9]; rw [u8 j (by omega) (by omega), cg7, if_neg (by omega), cg6, if_neg (by omega), cg5, if_neg (by omega)]; rw [cg4]; rw [u3 j (by omega) (by omega), cg2]; rw [v1 j (by omega) (by omega)]
        rw [sap_r (by omega)]
        by_cases p2 : j < sz + r1.2.1 + r3.2.1
        · rw [sap_l p2]; rw [cg15, if_neg (by omega)]; rw [cg14, if_neg (by omega)]; rw [u13 j (by omega) (by omega), cg12, if_neg (by omega)]; rw [cg11, if_neg (by omega), cg10, if_neg (by omega)]; rw [cg9]; rw [u8 j (by omega) (by omega), cg7, if_neg (by omega), cg6, if_neg (by omega), cg5, if_neg (by omega)]; rw [cg4]; rw [v3 j (by omega) (by omega)]
        rw [sap_r (by omega)]
        by_cases p3 : j < sz + r1.2.1 + r3.2.1 + 3
        · rw [sap_l p3]
          unfold sIf
          by_cases z0 : j = sz + r1.2.1 + r3.2.1
          · rw [if_pos z0]; rw [cg15, if_neg (by omega)]; rw [cg14, if_neg (by omega)]; rw [u13 j (by omega) (by omega), cg12, if_neg (by omega)]; rw [cg11, if_neg (by omega), cg10, if_neg (by omega)]; rw [cg9]; rw [u8 j (by omega) (by omega), cg7, if_neg (by omega), cg6, if_neg (by omega), cg5, if_pos (by omega)]; rcases hcm with z | z | z | z <;> (repeat' split) <;> omega
          by_cases z1 : j = sz + r1.2.1 + r3.2.1 + 1
          · rw [if_neg z0, if_pos z1]; rw [cg15, if_neg (by omega)]; rw [cg14, if_neg (by omega)]; rw [u13 j (by omega) (by omega), cg12, if_pos (by omega)]; omega
          · rw [if_neg z0, if_neg z1]; rw [cg15, if_neg (by omega)]; rw [cg14, if_pos (by omega)]; omega
        rw [sap_r (by omega)]
        by_cases p4 : j < sz + r1.2.1 + r3.2.1 + 3 + r8.2.1
        · rw [sap_l p4]; rw [cg15, if_neg (by omega)]; rw [cg14, if_neg (by omega)]; rw [u13 j (by omega) (by omega), cg12, if_neg (by omega)]; rw [cg11, if_neg (by omega), cg10, if_neg (by omega)]; rw [cg9]; rw [v8 j (by omega) (by omega)]; exact congrArg (fun b => r8.2.2.1 b j) (by omega)
        rw [sap_r (by omega)]
        by_cases p5 : j < sz + r1.2.1 + r3.2.1 + 3 + r8.2.1 + 2
        · rw [sap_l p5]
          unfold sJm
          by_cases z0 : j = sz + r1.2.1 + r3.2.1 + 3 + r8.2.1
          · rw [if_pos z0]; rw [cg15, if_neg (by omega)]; rw [cg14, if_neg (by omega)]; rw [u13 j (by omega) (by omega), cg12, if_neg (by omega)]; rw [cg11, if_neg (by omega), cg10, if_pos (by omega)]
          · rw [if_neg z0]; rw [cg15, if_pos (by omega)]; omega
        rw [sap_r (by omega)]
        rw [cg15, if_neg (by omega)]; rw [cg14, if_neg (by omega)]; rw [v13 j (by omega) (by omega)]; exact congrArg (fun b => r13.2.2.1 b j) (by omega)⟩
            · refine zt_iconst dX4_choice_88 ?_
              exact zt_zret dX4_choice_89 (by decide) ⟨rfl, rfl, by rw [show gIf (h0 2) (h0 1 1) E p = .inl (kS (h0 2) (h0 1 1) r8.1) by unfold gIf; simp only [he1, hif, he3, hp9, he8, if_true, show gP (h0 2) (h0 1 1) 10 r8.1 = .inl (kS (h0 2) (h0 1 1) r8.1) from if_neg (by omega)]]; exact ⟨rfl, sg8.1, sg8.2.1, sg8.2.2.1.2.1⟩⟩
        · refine zt_iconst dX4_choice_42 ?_
          exact zt_zret dX4_choice_43 (by decide) ⟨rfl, rfl, by rw [show gIf (h0 2) (h0 1 1) E p = .inl (kS (h0 2) (h0 1 1) r3.1) by unfold gIf; simp only [he1, hif, he3, if_true, show gP (h0 2) (h0 1 1) 9 r3.1 = .inl (kS (h0 2) (h0 1 1) r3.1) from if_neg (by omega)]]; exact ⟨rfl, sg3.1, sg3.2.1, sg3.2.2.1.2.1⟩⟩
    · refine zt_iconst dX4_choice_19 ?_
      exact zt_zret dX4_choice_20 (by decide) ⟨rfl, rfl, by rw [show gIf (h0 2) (h0 1 1) E p = .inl (kS (h0 2) (h0 1 1) r1.1) by unfold gIf; simp only [he1]; exact if_neg (by omega)]; exact ⟨rfl, sg1.1, sg1.2.1, sg1.2.2.1.2.1⟩⟩

set_option maxRecDepth 100000 in
set_option maxHeartbeats 4000000 in
theorem c_op45 {d : Nat} {h0 : zMem} {ar : Int} {F : Int → Int ⊕ zPR} (hT : tOK h0) (hT1 : (h0 1 1) ≤ 200) (hF : pC h0 yX4_factor cX4_factor 3 [(0, ar)] F (d + 8)) (hFg : ∀ p r, p ≤ (h0 1 1) → F p = .inr r → pG1 (h0 1 1) p r) : pC h0 yX4_opened cX4_opened 3 [(0, 45), (0, ar)] (gUn F (-6) 6) (d + 9) := by
  intro n sh h p sz hS hs hsz
  refine zM.ofT2 (by decide +kernel) [some (2, 3), some (0, 45), some (0, ar)] rfl (Nat.le_of_ble_eq_true rfl) ?_
  refine zt_iload_n dX4_opened_0 rfl ?_
  refine zt_lookup (off := 82) (tgt := 83) dX4_opened_1 (by decide) (by decide) (by decide) (by decide) ?_
  refine zt_aload_n dX4_opened_83 rfl ?_
  refine zt_iload_n dX4_opened_84 rfl ?_
  refine zt_callV1q dX4_opened_85 ml_X4_45 (zs_3 hS) (Nat.le_of_ble_eq_true rfl) (hF _ _ _ _ _ hS hs (by have hb := kE_b (T := (h0 2)) (L := (h0 1 1)) (p := p) (by omega); omega)) ?_
  rintro r n1 sh1 g1 ⟨rfl, rfl, hq1⟩
  rcases he1 : F (p) with e | r1 <;> rw [he1] at hq1
  · obtain ⟨rfl, ho1, hR1, hs1⟩ := hq1
    simp only [Option.toList, List.cons_append, List.nil_append]
    refine zt_if_eq (tgt := 104) dX4_opened_88 (by decide) (by decide) (fun c_88 => ?_) (fun q => absurd q (by decide))
    refine zt_iconst dX4_opened_104 ?_
    exact zt_zret dX4_opened_105 (by decide) ⟨rfl, rfl, by rw [show gUn F (-6) 6 p = .inl e by unfold gUn; simp only [he1]]; exact ⟨rfl, ho1, hR1, hs1⟩⟩
  · obtain ⟨rfl, sg1, u1, v1⟩ := hq1
    simp only [Option.toList, List.cons_append, List.nil_append]
    have b1 := hFg _ _ (by first | omega | (have hb := kE_b (T := (h0 2)) (L := (h0 1 1)) (p := p) (by omega); omega)) he1
    obtain ⟨⟨b1a, b1b⟩, ⟨b1c, b1d⟩, -⟩ := b1
    refine zt_if_eq (tgt := 104) dX4_opened_88 (by decide) (by decide) (fun q => absurd q (by decide)) (fun c_88 => ?_)
    refine zt_aload_n dX4_opened_91 rfl ?_
    refine zt_bipush dX4_opened_92 (by decide) ?_
    refine zt_callV1r dX4_opened_94 ml_X4_42 (zs_3 hS) (Nat.le_of_ble_eq_true rfl) (c_emit hS sg1.2.1 (by rw [sg1.2.2.2]; omega) (by decide)) ?_
    obtain ⟨g2, hg2⟩ : ∃ g, g = pEm g1 (-6) := ⟨_, rfl⟩
    refine zt_mem hg2.symm ?_
    have sg2 : pSt h0 g2 (r1.1) (sz + r1.2.1 + 1) := hg2 ▸ sg1.emit
    have cg2 : ∀ j, g2 4 j = if j = sz + r1.2.1 then -6 else g1 4 j := fun j => hg2 ▸ pEm_4 sg1.2.2.2
    refine zt_if_eq (tgt := 104) dX4_opened_97 (by decide) (by decide) (fun q => absurd q (by decide)) (fun c_97 => ?_)
    refine zt_iconst dX4_opened_100 ?_
    refine zt_goto (tgt := 105) dX4_opened_101 (by decide) ?_
    exact zt_zret dX4_opened_105 (by decide) ⟨rfl, rfl, by
      rw [show gUn F (-6) 6 p = .inr (pUn (-6) 6 r1) by unfold gUn; simp only [he1]]
      refine ⟨rfl, ?_, fun j q1 q2 => ?_, fun j q1 q2 => ?_⟩
      · show pSt h0 g2 r1.1 (sz + (r1.2.1 + 1))
        rw [show sz + (r1.2.1 + 1) = sz + r1.2.1 + 1 by omega]; exact sg2
      · rw [cg2, if_neg (by omega), u1 j q1 q2]
      · replace q2 : j < sz + (r1.2.1 + 1) := q2
        show _ = sap r1.2.1 r1.2.2.1 (sgl (-6)) sz j
        rw [cg2]
        by_cases q3 : j < sz + r1.2.1
        · rw [sap_l q3, if_neg (by omega)]; exact v1 j q1 q3
        · rw [sap_r (by omega), if_pos (by omega)]; rfl⟩

set_option maxRecDepth 100000 in
set_option maxHeartbeats 4000000 in
theorem c_op4 {d : Nat} {h0 : zMem} {ar : Int} {F : Int → Int ⊕ zPR} (hT : tOK h0) (hT1 : (h0 1 1) ≤ 200) (hF : pC h0 yX4_factor cX4_factor 3 [(0, ar)] F (d + 8)) (hFg : ∀ p r, p ≤ (h0 1 1) → F p = .inr r → pG1 (h0 1 1) p r) : pC h0 yX4_opened cX4_opened 3 [(0, 4), (0, ar)] (gUn F (-7) 7) (d + 9) := by
  intro n sh h p sz hS hs hsz
  refine zM.ofT2 (by decide +kernel) [some (2, 3), some (0, 4), some (0, ar)] rfl (Nat.le_of_ble_eq_true rfl) ?_
  refine zt_iload_n dX4_opened_0 rfl ?_
  refine zt_lookup (off := 105) (tgt := 106) dX4_opened_1 (by decide) (by decide) (by decide) (by decide) ?_
  refine zt_aload_n dX4_opened_106 rfl ?_
  refine zt_iload_n dX4_opened_107 rfl ?_
  refine zt_callV1q dX4_opened_108 ml_X4_45 (zs_3 hS) (Nat.le_of_ble_eq_true rfl) (hF _ _ _ _ _ hS hs (by have hb := kE_b (T := (h0 2)) (L := (h0 1 1)) (p := p) (by omega); omega)) ?_
  rintro r n1 sh1 g1 ⟨rfl, rfl, hq1⟩
  rcases he1 : F (p) with e | r1 <;> rw [he1] at hq1
  · obtain ⟨rfl, ho1, hR1, hs1⟩ := hq1
    simp only [Option.toList, List.cons_append, List.nil_append]
    refine zt_if_eq (tgt := 127) dX4_opened_111 (by decide) (by decide) (fun c_111 => ?_) (fun q => absurd q (by decide))
    refine zt_iconst dX4_opened_127 ?_
    exact zt_zret dX4_opened_128 (by decide) ⟨rfl, rfl, by rw [show gUn F (-7) 7 p = .inl e by unfold gUn; simp only [he1]]; exact ⟨rfl, ho1, hR1, hs1⟩⟩
  · obtain ⟨rfl, sg1, u1, v1⟩ := hq1
    simp only [Option.toList, List.cons_append, List.nil_append]
    have b1 := hFg _ _ (by first | omega | (have hb := kE_b (T := (h0 2)) (L := (h0 1 1)) (p := p) (by omega); omega)) he1
    obtain ⟨⟨b1a, b1b⟩, ⟨b1c, b1d⟩, -⟩ := b1
    refine zt_if_eq (tgt := 127) dX4_opened_111 (by decide) (by decide) (fun q => absurd q (by decide)) (fun c_111 => ?_)
    refine zt_aload_n dX4_opened_114 rfl ?_
    refine zt_bipush dX4_opened_115 (by decide) ?_
    refine zt_callV1r dX4_opened_117 ml_X4_42 (zs_3 hS) (Nat.le_of_ble_eq_true rfl) (c_emit hS sg1.2.1 (by rw [sg1.2.2.2]; omega) (by decide)) ?_
    obtain ⟨g2, hg2⟩ : ∃ g, g = pEm g1 (-7) := ⟨_, rfl⟩
    refine zt_mem hg2.symm ?_
    have sg2 : pSt h0 g2 (r1.1) (sz + r1.2.1 + 1) := hg2 ▸ sg1.emit
    have cg2 : ∀ j, g2 4 j = if j = sz + r1.2.1 then -7 else g1 4 j := fun j => hg2 ▸ pEm_4 sg1.2.2.2
    refine zt_if_eq (tgt := 127) dX4_opened_120 (by decide) (by decide) (fun q => absurd q (by decide)) (fun c_120 => ?_)
    refine zt_iconst dX4_opened_123 ?_
    refine zt_goto (tgt := 128) dX4_opened_124 (by decide) ?_
    exact zt_zret dX4_opened_128 (by decide) ⟨rfl, rfl, by
      rw [show gUn F (-7) 7 p = .inr (pUn (-7) 7 r1) by unfold gUn; simp only [he1]]
      refine ⟨rfl, ?_, fun j q1 q2 => ?_, fun j q1 q2 => ?_⟩
      · show pSt h0 g2 r1.1 (sz + (r1.2.1 + 1))
        rw [show sz + (r1.2.1 + 1) = sz + r1.2.1 + 1 by omega]; exact sg2
      · rw [cg2, if_neg (by omega), u1 j q1 q2]
      · replace q2 : j < sz + (r1.2.1 + 1) := q2
        show _ = sap r1.2.1 r1.2.2.1 (sgl (-7)) sz j
        rw [cg2]
        by_cases q3 : j < sz + r1.2.1
        · rw [sap_l q3, if_neg (by omega)]; exact v1 j q1 q3
        · rw [sap_r (by omega), if_pos (by omega)]; rfl⟩

set_option maxRecDepth 100000 in
set_option maxHeartbeats 4000000 in
theorem c_op5 {d : Nat} {h0 : zMem} {ar : Int} {F : Int → Int ⊕ zPR} (hT : tOK h0) (hT1 : (h0 1 1) ≤ 200) (hF : pC h0 yX4_factor cX4_factor 3 [(0, ar)] F (d + 8)) (hFg : ∀ p r, p ≤ (h0 1 1) → F p = .inr r → pG1 (h0 1 1) p r) : pC h0 yX4_opened cX4_opened 3 [(0, 5), (0, ar)] (gUn F (-8) 8) (d + 9) := by
  intro n sh h p sz hS hs hsz
  refine zM.ofT2 (by decide +kernel) [some (2, 3), some (0, 5), some (0, ar)] rfl (Nat.le_of_ble_eq_true rfl) ?_
  refine zt_iload_n dX4_opened_0 rfl ?_
  refine zt_lookup (off := 128) (tgt := 129) dX4_opened_1 (by decide) (by decide) (by decide) (by decide) ?_
  refine zt_aload_n dX4_opened_129 rfl ?_
  refine zt_iload_n dX4_opened_130 rfl ?_
  refine zt_callV1q dX4_opened_131 ml_X4_45 (zs_3 hS) (Nat.le_of_ble_eq_true rfl) (hF _ _ _ _ _ hS hs (by have hb := kE_b (T := (h0 2)) (L := (h0 1 1)) (p := p) (by omega); omega)) ?_
  rintro r n1 sh1 g1 ⟨rfl, rfl, hq1⟩
  rcases he1 : F (p) with e | r1 <;> rw [he1] at hq1
  · obtain ⟨rfl, ho1, hR1, hs1⟩ := hq1
    simp only [Option.toList, List.cons_append, List.nil_append]
    refine zt_if_eq (tgt := 150) dX4_opened_134 (by decide) (by decide) (fun c_134 => ?_) (fun q => absurd q (by decide))
    refine zt_iconst dX4_opened_150 ?_
    exact zt_zret dX4_opened_151 (by decide) ⟨rfl, rfl, by rw [show gUn F (-8) 8 p = .inl e by unfold gUn; simp only [he1]]; exact ⟨rfl, ho1, hR1, hs1⟩⟩
  · obtain ⟨rfl, sg1, u1, v1⟩ := hq1
    simp only [Option.toList, List.cons_append, List.nil_append]
    have b1 := hFg _ _ (by first | omega | (have hb := kE_b (T := (h0 2)) (L := (h0 1 1)) (p := p) (by omega); omega)) he1
    obtain ⟨⟨b1a, b1b⟩, ⟨b1c, b1d⟩, -⟩ := b1
    refine zt_if_eq (tgt := 150) dX4_opened_134 (by decide) (by decide) (fun q => absurd q (by decide)) (fun c_134 => ?_)
    refine zt_aload_n dX4_opened_137 rfl ?_
    refine zt_bipush dX4_opened_138 (by decide) ?_
    refine zt_callV1r dX4_opened_140 ml_X4_42 (zs_3 hS) (Nat.le_of_ble_eq_true rfl) (c_emit hS sg1.2.1 (by rw [sg1.2.2.2]; omega) (by decide)) ?_
    obtain ⟨g2, hg2⟩ : ∃ g, g = pEm g1 (-8) := ⟨_, rfl⟩
    refine zt_mem hg2.symm ?_
    have sg2 : pSt h0 g2 (r1.1) (sz + r1.2.1 + 1) := hg2 ▸ sg1.emit
    have cg2 : ∀ j, g2 4 j = if j = sz + r1.2.1 then -8 else g1 4 j := fun j => hg2 ▸ pEm_4 sg1.2.2.2
    refine zt_if_eq (tgt := 150) dX4_opened_143 (by decide) (by decide) (fun q => absurd q (by decide)) (fun c_143 => ?_)
    refine zt_iconst dX4_opened_146 ?_
    refine zt_goto (tgt := 151) dX4_opened_147 (by decide) ?_
    exact zt_zret dX4_opened_151 (by decide) ⟨rfl, rfl, by
      rw [show gUn F (-8) 8 p = .inr (pUn (-8) 8 r1) by unfold gUn; simp only [he1]]
      refine ⟨rfl, ?_, fun j q1 q2 => ?_, fun j q1 q2 => ?_⟩
      · show pSt h0 g2 r1.1 (sz + (r1.2.1 + 1))
        rw [show sz + (r1.2.1 + 1) = sz + r1.2.1 + 1 by omega]; exact sg2
      · rw [cg2, if_neg (by omega), u1 j q1 q2]
      · replace q2 : j < sz + (r1.2.1 + 1) := q2
        show _ = sap r1.2.1 r1.2.2.1 (sgl (-8)) sz j
        rw [cg2]
        by_cases q3 : j < sz + r1.2.1
        · rw [sap_l q3, if_neg (by omega)]; exact v1 j q1 q3
        · rw [sap_r (by omega), if_pos (by omega)]; rfl⟩

set_option maxRecDepth 100000 in
set_option maxHeartbeats 4000000 in
theorem c_op40 {d : Nat} {h0 : zMem} {ar : Int} {E : Int → Int ⊕ zPR} (hT : tOK h0) (hT1 : (h0 1 1) ≤ 200) (hC : pC h0 yX4_sum cX4_sum 4 [(0, ar)] E (d + 8)) (hCg : ∀ p r, p ≤ (h0 1 1) → E p = .inr r → pG1 (h0 1 1) p r) : pC h0 yX4_opened cX4_opened 3 [(0, 40), (0, ar)] (gPar (h0 2) (h0 1 1) E) (d + 9) := by
  intro n sh h p sz hS hs hsz
  refine zM.ofT2 (by decide +kernel) [some (2, 3), some (0, 40), some (0, ar)] rfl (Nat.le_of_ble_eq_true rfl) ?_
  refine zt_iload_n dX4_opened_0 rfl ?_
  refine zt_lookup (off := 59) (tgt := 60) dX4_opened_1 (by decide) (by decide) (by decide) (by decide) ?_
  refine zt_aload_n dX4_opened_60 rfl ?_
  refine zt_iload_n dX4_opened_61 rfl ?_
  refine zt_callV1q dX4_opened_62 ml_X4_29 (zs_3 hS) (Nat.le_of_ble_eq_true rfl) (hC _ _ _ _ _ hS hs (by have hb := kE_b (T := (h0 2)) (L := (h0 1 1)) (p := p) (by omega); omega)) ?_
  rintro r n1 sh1 g1 ⟨rfl, rfl, hq1⟩
  rcases he1 : E (p) with e | r1 <;> rw [he1] at hq1
  · obtain ⟨rfl, ho1, hR1, hs1⟩ := hq1
    simp only [Option.toList, List.cons_append, List.nil_append]
    refine zt_if_eq (tgt := 81) dX4_opened_65 (by decide) (by decide) (fun c_65 => ?_) (fun q => absurd q (by decide))
    refine zt_iconst dX4_opened_81 ?_
    exact zt_zret dX4_opened_82 (by decide) ⟨rfl, rfl, by rw [show gPar (h0 2) (h0 1 1) E p = .inl e by unfold gPar; simp only [he1]]; exact ⟨rfl, ho1, hR1, hs1⟩⟩
  · obtain ⟨rfl, sg1, u1, v1⟩ := hq1
    simp only [Option.toList, List.cons_append, List.nil_append]
    have b1 := hCg _ _ (by first | omega | (have hb := kE_b (T := (h0 2)) (L := (h0 1 1)) (p := p) (by omega); omega)) he1
    obtain ⟨⟨b1a, b1b⟩, ⟨b1c, b1d⟩, -⟩ := b1
    refine zt_if_eq (tgt := 81) dX4_opened_65 (by decide) (by decide) (fun q => absurd q (by decide)) (fun c_65 => ?_)
    refine zt_aload_n dX4_opened_68 rfl ?_
    refine zt_bipush dX4_opened_69 (by decide) ?_
    refine zt_callV1q dX4_opened_71 ml_X4_59 (zs_3 hS) (Nat.le_of_ble_eq_true rfl) (c_pass hT hS sg1 (by omega) (by decide)) ?_
    rintro r n1 sh1 g2 ⟨rfl, rfl, ⟨hw2, rfl, hg2⟩ | ⟨hw2, rfl, rfl⟩⟩
    · simp only [Option.toList, List.cons_append, List.nil_append]
      have sg2 : pSt h0 g2 (kE (h0 2) (h0 1 1) r1.1) (sz + r1.2.1) := hg2 ▸ sg1.adv
      have cg2 : g2 4 = g1 4 := hg2 ▸ lxA_ne (by decide)
      have bg2 := kE_b (T := (h0 2)) (L := (h0 1 1)) (p := r1.1) (by omega)
      have lg2 := bg2.2 (by omega)
      have bg2 := bg2.1
      have hgp2 : gP (h0 2) (h0 1 1) 41 (r1.1) = .inr (kE (h0 2) (h0 1 1) r1.1) := if_pos hw2
      refine zt_if_eq (tgt := 81) dX4_opened_74 (by decide) (by decide) (fun q => absurd q (by decide)) (fun c_74 => ?_)
      refine zt_iconst dX4_opened_77 ?_
      refine zt_goto (tgt := 82) dX4_opened_78 (by decide) ?_
      exact zt_zret dX4_opened_82 (by decide) ⟨rfl, rfl, by rw [show gPar (h0 2) (h0 1 1) E p = .inr (pTo (kE (h0 2) (h0 1 1) r1.1) r1) by unfold gPar; simp only [he1, hgp2]]; exact ⟨rfl, sg2, fun j q1 q2 => by rw [cg2]; exact u1 j q1 q2, fun j q1 q2 => by rw [cg2]; exact v1 j q1 q2⟩⟩
    · simp only [Option.toList, List.cons_append, List.nil_append]
      have hgp2 : gP (h0 2) (h0 1 1) 41 (r1.1) = .inl (kS (h0 2) (h0 1 1) (r1.1)) := if_neg hw2
      refine zt_if_eq (tgt := 81) dX4_opened_74 (by decide) (by decide) (fun c_74 => ?_) (fun q => absurd q (by decide))
      refine zt_iconst dX4_opened_81 ?_
      exact zt_zret dX4_opened_82 (by decide) ⟨rfl, rfl, by rw [show gPar (h0 2) (h0 1 1) E p = .inl _ by unfold gPar; simp only [he1, hgp2]; rfl]; exact ⟨rfl, sg1.1, sg1.2.1, sg1.2.2.1.2.1⟩⟩

theorem gTwo_p1 {T : Int → Int} {L : Int} {E : Int → Int ⊕ zPR} {c m p : Int} {r : zPR} (hE : ∀ p r, p ≤ L → E p = .inr r → pG1 L p r) (hp : p ≤ L) (e : gTwo T L E c m p = .inr r) : (p ≤ r.1 ∧ r.1 ≤ L) ∧ (1 ≤ r.2.1 ∧ r.2.1 ≤ r.1 - p) := by
  unfold gTwo at e
  split at e; cases e
  rename_i p1 e1
  split at e; cases e
  rename_i a ea
  split at e; cases e
  rename_i p2 e2
  split at e; cases e
  rename_i b eb
  split at e; cases e
  rename_i p3 e3
  injection e with e; subst e
  have g1 := gP_r (by decide) hp e1
  have ga := hE _ _ g1.2.2.2 ea
  have g2 := gP_r (by decide) ga.1.2 e2
  have gb := hE _ _ g2.2.2.2 eb
  have g3 := gP_r (by decide) gb.1.2 e3
  have h1 := ga.1; have h2 := ga.2.1; have h3 := gb.1; have h4 := gb.2.1
  show (p ≤ p3 ∧ p3 ≤ L) ∧ (1 ≤ a.2.1 + (b.2.1 + 1) ∧ a.2.1 + (b.2.1 + 1) ≤ p3 - p)
  omega

theorem gTwo_last {T : Int → Int} {L : Int} {E : Int → Int ⊕ zPR} {c m p b j : Int} {r : zPR} (hE : ∀ p r, p ≤ L → E p = .inr r → pG1 L p r) (hp : p ≤ L) (e : gTwo T L E c m p = .inr r) (hj : j = b + r.2.1 - 1) : r.2.2.1 b j = c := by
  unfold gTwo at e
  split at e; cases e
  rename_i p1 e1
  split at e; cases e
  rename_i a ea
  split at e; cases e
  rename_i p2 e2
  split at e; cases e
  rename_i q eb
  split at e; cases e
  injection e with e; subst e
  have g1 := gP_r (by decide) hp e1
  have ga := hE _ _ g1.2.2.2 ea
  have g2 := gP_r (by decide) ga.1.2 e2
  have gb := hE _ _ g2.2.2.2 eb
  replace hj : j = b + (a.2.1 + (q.2.1 + 1)) - 1 := hj
  have h2 := ga.2.1; have h4 := gb.2.1
  show sap a.2.1 a.2.2.1 (sap q.2.1 q.2.2.1 (sgl c)) b j = c
  rw [sap_r (by omega), sap_r (by omega)]; rfl

set_option maxRecDepth 100000 in
set_option maxHeartbeats 4000000 in
theorem c_op6 {d : Nat} {h0 : zMem} {ar : Int} {E : Int → Int ⊕ zPR} (hT : tOK h0) (hT1 : (h0 1 1) ≤ 200) (hC : pC h0 yX4_sum cX4_sum 4 [(0, ar)] E (d + 7)) (hCg : ∀ p r, p ≤ (h0 1 1) → E p = .inr r → pG1 (h0 1 1) p r) : pC h0 yX4_opened cX4_opened 3 [(0, 6), (0, ar)] (gTwo (h0 2) (h0 1 1) E (-9) 9) (d + 9) := by
  intro n sh h p sz hS hs hsz
  refine zM.ofT2 (by decide +kernel) [some (2, 3), some (0, 6), some (0, ar)] rfl (Nat.le_of_ble_eq_true rfl) ?_
  refine zt_iload_n dX4_opened_0 rfl ?_
  refine zt_lookup (off := 151) (tgt := 152) dX4_opened_1 (by decide) (by decide) (by decide) (by decide) ?_
  refine zt_aload_n dX4_opened_152 rfl ?_
  refine zt_iload_n dX4_opened_153 rfl ?_
  refine zt_callV1q dX4_opened_154 ml_X4_62 (zs_3 hS) (Nat.le_of_ble_eq_true rfl) (c_two2 (c := -9) (m := 9) hT hT1 hC hCg _ _ _ _ _ hS hs (by have hb := kE_b (T := (h0 2)) (L := (h0 1 1)) (p := p) (by omega); omega)) ?_
  rintro r n1 sh1 g1 ⟨rfl, rfl, hq1⟩
  rcases he1 : gTwo (h0 2) (h0 1 1) E (-9) 9 (p) with e | r1 <;> rw [he1] at hq1
  · obtain ⟨rfl, ho1, hR1, hs1⟩ := hq1
    simp only [Option.toList, List.cons_append, List.nil_append]
    refine zt_if_eq (tgt := 173) dX4_opened_157 (by decide) (by decide) (fun c_157 => ?_) (fun q => absurd q (by decide))
    refine zt_iconst dX4_opened_173 ?_
    exact zt_zret dX4_opened_174 (by decide) ⟨rfl, rfl, by exact ⟨rfl, ho1, hR1, hs1⟩⟩
  · obtain ⟨rfl, sg1, u1, v1⟩ := hq1
    simp only [Option.toList, List.cons_append, List.nil_append]
    have b1 := gTwo_p1 hCg (by omega) he1
    obtain ⟨⟨b1a, b1b⟩, ⟨b1c, b1d⟩⟩ := b1
    refine zt_if_eq (tgt := 173) dX4_opened_157 (by decide) (by decide) (fun q => absurd q (by decide)) (fun c_157 => ?_)
    refine zt_aload_n dX4_opened_160 rfl ?_
    refine zt_bipush dX4_opened_161 (by decide) ?_
    refine zt_callV1r dX4_opened_163 ml_X4_42 (zs_3 hS) (Nat.le_of_ble_eq_true rfl) (c_emit hS sg1.2.1 (by rw [sg1.2.2.2]; omega) (by decide)) ?_
    obtain ⟨g2, hg2⟩ : ∃ g, g = pEm g1 (-9) := ⟨_, rfl⟩
    refine zt_mem hg2.symm ?_
    have sg2 : pSt h0 g2 (r1.1) (sz + r1.2.1 - 1 + 1) := hg2 ▸ sg1.emit
    have cg2 : ∀ j, g2 4 j = if j = sz + r1.2.1 - 1 then -9 else g1 4 j := fun j => hg2 ▸ pEm_4 sg1.2.2.2
    refine zt_if_eq (tgt := 173) dX4_opened_166 (by decide) (by decide) (fun q => absurd q (by decide)) (fun c_166 => ?_)
    refine zt_iconst dX4_opened_169 ?_
    refine zt_goto (tgt := 174) dX4_opened_170 (by decide) ?_
    exact zt_zret dX4_opened_174 (by decide) ⟨rfl, rfl, by
      refine ⟨rfl, ?_, fun j q1 q2 => ?_, fun j q1 q2 => ?_⟩
      · rw [show sz + r1.2.1 = sz + r1.2.1 - 1 + 1 by omega]; exact sg2
      · rw [cg2, if_neg (by omega), u1 j q1 q2]
      · rw [cg2]
        by_cases q3 : j < sz + r1.2.1 - 1
        · rw [if_neg (by omega)]; exact v1 j q1 q3
        · rw [if_pos (by omega)]; exact (gTwo_last hCg (by omega) he1 (by omega)).symm⟩

set_option maxRecDepth 100000 in
set_option maxHeartbeats 4000000 in
theorem c_op7 {d : Nat} {h0 : zMem} {ar : Int} {E : Int → Int ⊕ zPR} (hT : tOK h0) (hT1 : (h0 1 1) ≤ 200) (hC : pC h0 yX4_sum cX4_sum 4 [(0, ar)] E (d + 7)) (hCg : ∀ p r, p ≤ (h0 1 1) → E p = .inr r → pG1 (h0 1 1) p r) : pC h0 yX4_opened cX4_opened 3 [(0, 7), (0, ar)] (gTwo (h0 2) (h0 1 1) E (-10) 10) (d + 9) := by
  intro n sh h p sz hS hs hsz
  refine zM.ofT2 (by decide +kernel) [some (2, 3), some (0, 7), some (0, ar)] rfl (Nat.le_of_ble_eq_true rfl) ?_
  refine zt_iload_n dX4_opened_0 rfl ?_
  refine zt_lookup (off := 174) (tgt := 175) dX4_opened_1 (by decide) (by decide) (by decide) (by decide) ?_
  refine zt_aload_n dX4_opened_175 rfl ?_
  refine zt_iload_n dX4_opened_176 rfl ?_
  refine zt_callV1q dX4_opened_177 ml_X4_62 (zs_3 hS) (Nat.le_of_ble_eq_true rfl) (c_two2 (c := -10) (m := 10) hT hT1 hC hCg _ _ _ _ _ hS hs (by have hb := kE_b (T := (h0 2)) (L := (h0 1 1)) (p := p) (by omega); omega)) ?_
  rintro r n1 sh1 g1 ⟨rfl, rfl, hq1⟩
  rcases he1 : gTwo (h0 2) (h0 1 1) E (-10) 10 (p) with e | r1 <;> rw [he1] at hq1
  · obtain ⟨rfl, ho1, hR1, hs1⟩ := hq1
    simp only [Option.toList, List.cons_append, List.nil_append]
    refine zt_if_eq (tgt := 196) dX4_opened_180 (by decide) (by decide) (fun c_180 => ?_) (fun q => absurd q (by decide))
    refine zt_iconst dX4_opened_196 ?_
    exact zt_zret dX4_opened_197 (by decide) ⟨rfl, rfl, by exact ⟨rfl, ho1, hR1, hs1⟩⟩
  · obtain ⟨rfl, sg1, u1, v1⟩ := hq1
    simp only [Option.toList, List.cons_append, List.nil_append]
    have b1 := gTwo_p1 hCg (by omega) he1
    obtain ⟨⟨b1a, b1b⟩, ⟨b1c, b1d⟩⟩ := b1
    refine zt_if_eq (tgt := 196) dX4_opened_180 (by decide) (by decide) (fun q => absurd q (by decide)) (fun c_180 => ?_)
    refine zt_aload_n dX4_opened_183 rfl ?_
    refine zt_bipush dX4_opened_184 (by decide) ?_
    refine zt_callV1r dX4_opened_186 ml_X4_42 (zs_3 hS) (Nat.le_of_ble_eq_true rfl) (c_emit hS sg1.2.1 (by rw [sg1.2.2.2]; omega) (by decide)) ?_
    obtain ⟨g2, hg2⟩ : ∃ g, g = pEm g1 (-10) := ⟨_, rfl⟩
    refine zt_mem hg2.symm ?_
    have sg2 : pSt h0 g2 (r1.1) (sz + r1.2.1 - 1 + 1) := hg2 ▸ sg1.emit
    have cg2 : ∀ j, g2 4 j = if j = sz + r1.2.1 - 1 then -10 else g1 4 j := fun j => hg2 ▸ pEm_4 sg1.2.2.2
    refine zt_if_eq (tgt := 196) dX4_opened_189 (by decide) (by decide) (fun q => absurd q (by decide)) (fun c_189 => ?_)
    refine zt_iconst dX4_opened_192 ?_
    refine zt_goto (tgt := 197) dX4_opened_193 (by decide) ?_
    exact zt_zret dX4_opened_197 (by decide) ⟨rfl, rfl, by
      refine ⟨rfl, ?_, fun j q1 q2 => ?_, fun j q1 q2 => ?_⟩
      · rw [show sz + r1.2.1 = sz + r1.2.1 - 1 + 1 by omega]; exact sg2
      · rw [cg2, if_neg (by omega), u1 j q1 q2]
      · rw [cg2]
        by_cases q3 : j < sz + r1.2.1 - 1
        · rw [if_neg (by omega)]; exact v1 j q1 q3
        · rw [if_pos (by omega)]; exact (gTwo_last hCg (by omega) he1 (by omega)).symm⟩

set_option maxRecDepth 100000 in
set_option maxHeartbeats 4000000 in
theorem c_op8 {d : Nat} {h0 : zMem} {ar : Int} {E : Int → Int ⊕ zPR} (hT : tOK h0) (hT1 : (h0 1 1) ≤ 200) (hC : pC h0 yX4_sum cX4_sum 4 [(0, ar)] E (d + 7)) (hCg : ∀ p r, p ≤ (h0 1 1) → E p = .inr r → pG1 (h0 1 1) p r) : pC h0 yX4_opened cX4_opened 3 [(0, 8), (0, ar)] (gIf (h0 2) (h0 1 1) E) (d + 9) := by
  intro n sh h p sz hS hs hsz
  refine zM.ofT2 (by decide +kernel) [some (2, 3), some (0, 8), some (0, ar)] rfl (Nat.le_of_ble_eq_true rfl) ?_
  refine zt_iload_n dX4_opened_0 rfl ?_
  refine zt_lookup (off := 197) (tgt := 198) dX4_opened_1 (by decide) (by decide) (by decide) (by decide) ?_
  refine zt_aload_n dX4_opened_198 rfl ?_
  refine zt_iload_n dX4_opened_199 rfl ?_
  refine zt_callV1q dX4_opened_200 ml_X4_65 (zs_3 hS) (Nat.le_of_ble_eq_true rfl) (c_choice hT hT1 hC hCg _ _ _ _ _ hS hs (by have hb := kE_b (T := (h0 2)) (L := (h0 1 1)) (p := p) (by omega); omega)) ?_
  rintro r n1 sh1 g1 ⟨rfl, rfl, hq1⟩
  rcases he1 : gIf (h0 2) (h0 1 1) E (p) with e | r1 <;> rw [he1] at hq1
  · obtain ⟨rfl, ho1, hR1, hs1⟩ := hq1
    simp only [Option.toList, List.cons_append, List.nil_append]
    exact zt_zret dX4_opened_203 (by decide) ⟨rfl, rfl, by exact ⟨rfl, ho1, hR1, hs1⟩⟩
  · obtain ⟨rfl, sg1, u1, v1⟩ := hq1
    simp only [Option.toList, List.cons_append, List.nil_append]
    exact zt_zret dX4_opened_203 (by decide) ⟨rfl, rfl, by exact ⟨rfl, sg1, u1, v1⟩⟩
