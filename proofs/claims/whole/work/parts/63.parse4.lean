section zSp4
variable {T : Int → Int} {L : Int}
theorem pF_2 {p : Int} (h : kK T L p = 2) : ∀ k, pF T L k p = .inr (pNu T L p)
  | 0 => if_pos h
  | k + 1 => if_pos h
theorem pF_3 {p : Int} (h : kK T L p = 3) : ∀ k, pF T L k p = .inr (pXx T L p)
  | 0 => (if_neg (by omega)).trans (if_pos h)
  | k + 1 => (if_neg (by omega)).trans (if_pos h)
theorem pF_z {p : Int} (h : kK T L p ≠ 2 ∧ kK T L p ≠ 3) : pF T L 0 p = .inl (kS T L p) := (if_neg h.1).trans (if_neg h.2)
theorem pF_n {p : Int} {k : Nat} (h : kK T L p ≠ 2 ∧ kK T L p ≠ 3) (ho : ¬ kOp (kK T L p)) : pF T L (k + 1) p = .inl (kS T L p) := (if_neg h.1).trans ((if_neg h.2).trans (if_neg ho))
theorem pF_o {p : Int} {k : Nat} (h : kK T L p ≠ 2 ∧ kK T L p ≠ 3) (ho : kOp (kK T L p)) : pF T L (k + 1) p = gOp T L (gE T L (pF T L k)) (pF T L k) (kK T L p) (kE T L p) := (if_neg h.1).trans ((if_neg h.2).trans (if_pos ho))
end zSp4

set_option maxRecDepth 100000 in
set_option maxHeartbeats 4000000 in
theorem c_fac0 {d : Nat} {h0 : zMem} (hT : tOK h0) (hT1 : (h0 1 1) ≤ 200) : pC h0 yX4_factor cX4_factor 3 [(0, 10)] (pF (h0 2) (h0 1 1) 0) (d + 7) := by
  intro n sh h p sz hS hs hsz
  refine zM.ofT2 (by decide +kernel) [some (2, 3), some (0, 10), none] rfl (Nat.le_of_ble_eq_true rfl) ?_
  refine zt_aload_n dX4_factor_0 rfl ?_
  refine zt_getv (v := kK (h0 2) (h0 1 1) p) dX4_factor_1 fl_X4_33 (zs_3 hS) hs.2.2.1.2.2.1 ?_
  refine zt_iconst dX4_factor_4 ?_
  refine zt_icmp_eq (tgt := 16) dX4_factor_5 (by decide) (by have := kK_r (T := h0 2) (L := h0 1 1) (p := p); omega) (by decide) (fun c_5 => ?_) (fun c_5 => ?_)
  · refine zt_aload_n dX4_factor_16 rfl ?_
    refine zt_aload_n dX4_factor_17 rfl ?_
    refine zt_getv (v := kK (h0 2) (h0 1 1) p) dX4_factor_18 fl_X4_33 (zs_3 hS) hs.2.2.1.2.2.1 ?_
    refine zt_iconst dX4_factor_21 ?_
    refine zt_icmp_ne (tgt := 29) dX4_factor_22 (by decide) (by have := kK_r (T := h0 2) (L := h0 1 1) (p := p); omega) (by decide) (fun c_22 => ?_) (fun c_22 => ?_)
    · refine zt_aload_n dX4_factor_29 rfl ?_
      refine zt_getv (v := kN (h0 2) (h0 1 1) p) dX4_factor_30 fl_X4_48 (zs_3 hS) (hs.2.2.1.2.2.2 (by omega)) ?_
      have hkn : 0 ≤ kN (h0 2) (h0 1 1) p ∧ kN (h0 2) (h0 1 1) p ≤ 1000000 := nv_b
      refine zt_callV1r dX4_factor_33 ml_X4_42 (zs_3 hS) (Nat.le_of_ble_eq_true rfl) (c_emit hS hs.2.1 (by rw [hs.2.2.2]; omega) (by omega)) ?_
      obtain ⟨g1, hg1⟩ : ∃ g, g = pEm h (kN (h0 2) (h0 1 1) p) := ⟨_, rfl⟩
      refine zt_mem hg1.symm ?_
      have sg1 : pSt h0 g1 (p) (sz + 1) := hg1 ▸ hs.emit
      have cg1 : ∀ j, g1 4 j = if j = sz then kN (h0 2) (h0 1 1) p else h 4 j := fun j => hg1 ▸ pEm_4 hs.2.2.2
      refine zt_pop dX4_factor_36 (Nat.ne_of_beq_eq_false rfl) ?_
      refine zt_aload_n dX4_factor_37 rfl ?_
      refine zt_callV0v dX4_factor_38 ml_X4_26 (zs_3 hS) (Nat.le_of_ble_eq_true rfl) (c_adv (p := kE (h0 2) (h0 1 1) p) hS sg1.2.1 (sg1.tok hT) sg1.2.2.1.1 (by rw [sg1.1 1 (by decide) (by decide)]; have hb := kE_b (T := (h0 2)) (L := (h0 1 1)) (p := p) (by omega); omega)) ?_
      obtain ⟨g2, hg2⟩ : ∃ g, g = lxA g1 (kE (h0 2) (h0 1 1) p) := ⟨_, rfl⟩
      refine zt_mem hg2.symm ?_
      have sg2 : pSt h0 g2 (kE (h0 2) (h0 1 1) p) (sz + 1) := hg2 ▸ sg1.adv
      have cg2 : g2 4 = g1 4 := hg2 ▸ lxA_ne (by decide)
      have bg2 := kE_b (T := (h0 2)) (L := (h0 1 1)) (p := p) (by omega)
      have lg2 := bg2.2 (by omega)
      have bg2 := bg2.1
      refine zt_iconst dX4_factor_41 ?_
      exact zt_zret dX4_factor_42 (by decide) ⟨rfl, rfl, by rw [pF_2 (show kK (h0 2) (h0 1 1) p = 2 by omega)]; exact ⟨rfl, sg2, fun j q1 q2 => by rw [cg2, cg1, if_neg (by omega)], fun j q1 q2 => by rw [cg2, cg1, if_pos (by have e : (pNu (h0 2) (h0 1 1) p).2.1 = 1 := rfl; omega)]; rfl⟩⟩
    · refine zt_iconst dX4_factor_25 ?_
      refine zt_goto (tgt := 33) dX4_factor_26 (by decide) ?_
      have hkn : 0 ≤ kN (h0 2) (h0 1 1) p ∧ kN (h0 2) (h0 1 1) p ≤ 1000000 := nv_b
      refine zt_callV1r dX4_factor_33 ml_X4_42 (zs_3 hS) (Nat.le_of_ble_eq_true rfl) (c_emit hS hs.2.1 (by rw [hs.2.2.2]; omega) (by decide)) ?_
      obtain ⟨g1, hg1⟩ : ∃ g, g = pEm h (-1) := ⟨_, rfl⟩
      refine zt_mem hg1.symm ?_
      have sg1 : pSt h0 g1 (p) (sz + 1) := hg1 ▸ hs.emit
      have cg1 : ∀ j, g1 4 j = if j = sz then -1 else h 4 j := fun j => hg1 ▸ pEm_4 hs.2.2.2
      refine zt_pop dX4_factor_36 (Nat.ne_of_beq_eq_false rfl) ?_
      refine zt_aload_n dX4_factor_37 rfl ?_
      refine zt_callV0v dX4_factor_38 ml_X4_26 (zs_3 hS) (Nat.le_of_ble_eq_true rfl) (c_adv (p := kE (h0 2) (h0 1 1) p) hS sg1.2.1 (sg1.tok hT) sg1.2.2.1.1 (by rw [sg1.1 1 (by decide) (by decide)]; have hb := kE_b (T := (h0 2)) (L := (h0 1 1)) (p := p) (by omega); omega)) ?_
      obtain ⟨g2, hg2⟩ : ∃ g, g = lxA g1 (kE (h0 2) (h0 1 1) p) := ⟨_, rfl⟩
      refine zt_mem hg2.symm ?_
      have sg2 : pSt h0 g2 (kE (h0 2) (h0 1 1) p) (sz + 1) := hg2 ▸ sg1.adv
      have cg2 : g2 4 = g1 4 := hg2 ▸ lxA_ne (by decide)
      have bg2 := kE_b (T := (h0 2)) (L := (h0 1 1)) (p := p) (by omega)
      have lg2 := bg2.2 (by omega)
      have bg2 := bg2.1
      refine zt_iconst dX4_factor_41 ?_
      exact zt_zret dX4_factor_42 (by decide) ⟨rfl, rfl, by rw [pF_3 (show kK (h0 2) (h0 1 1) p = 3 by omega)]; exact ⟨rfl, sg2, fun j q1 q2 => by rw [cg2, cg1, if_neg (by omega)], fun j q1 q2 => by rw [cg2, cg1, if_pos (by have e : (pXx (h0 2) (h0 1 1) p).2.1 = 1 := rfl; omega)]; rfl⟩⟩
  · refine zt_aload_n dX4_factor_8 rfl ?_
    refine zt_getv (v := kK (h0 2) (h0 1 1) p) dX4_factor_9 fl_X4_33 (zs_3 hS) hs.2.2.1.2.2.1 ?_
    refine zt_iconst dX4_factor_12 ?_
    refine zt_icmp_ne (tgt := 43) dX4_factor_13 (by decide) (by have := kK_r (T := h0 2) (L := h0 1 1) (p := p); omega) (by decide) (fun c_13 => ?_) (fun c_13 => ?_)
    · refine zt_aload_n dX4_factor_43 rfl ?_
      refine zt_callV0r dX4_factor_44 ml_X4_51 (zs_3 hS) (Nat.le_of_ble_eq_true rfl) (c_opens hS hs) ?_
      refine zt_ifb_eq (tgt := 56) dX4_factor_47 (by decide) (fun c_47 => ?_) (fun c_47 => ?_)
      · refine zt_iconst dX4_factor_56 ?_
        exact zt_zret dX4_factor_57 (by decide) ⟨rfl, rfl, by rw [pF_z ⟨by omega, by omega⟩]; exact ⟨rfl, hs.1, hs.2.1, hs.2.2.1.2.1⟩⟩
      · refine zt_iload_n dX4_factor_50 rfl ?_
        refine zt_bipush dX4_factor_51 (by decide) ?_
        refine zt_icmp_lt (tgt := 58) dX4_factor_53 (by decide) (by decide) (by decide) (fun q => absurd q (by decide)) (fun c_53 => ?_)
        refine zt_iconst dX4_factor_56 ?_
        exact zt_zret dX4_factor_57 (by decide) ⟨rfl, rfl, by rw [pF_z ⟨by omega, by omega⟩]; exact ⟨rfl, hs.1, hs.2.1, hs.2.2.1.2.1⟩⟩
    · refine zt_aload_n dX4_factor_16 rfl ?_
      refine zt_aload_n dX4_factor_17 rfl ?_
      refine zt_getv (v := kK (h0 2) (h0 1 1) p) dX4_factor_18 fl_X4_33 (zs_3 hS) hs.2.2.1.2.2.1 ?_
      refine zt_iconst dX4_factor_21 ?_
      refine zt_icmp_ne (tgt := 29) dX4_factor_22 (by decide) (by have := kK_r (T := h0 2) (L := h0 1 1) (p := p); omega) (by decide) (fun c_22 => ?_) (fun c_22 => ?_)
      · refine zt_aload_n dX4_factor_29 rfl ?_
        refine zt_getv (v := kN (h0 2) (h0 1 1) p) dX4_factor_30 fl_X4_48 (zs_3 hS) (hs.2.2.1.2.2.2 (by omega)) ?_
        have hkn : 0 ≤ kN (h0 2) (h0 1 1) p ∧ kN (h0 2) (h0 1 1) p ≤ 1000000 := nv_b
        refine zt_callV1r dX4_factor_33 ml_X4_42 (zs_3 hS) (Nat.le_of_ble_eq_true rfl) (c_emit hS hs.2.1 (by rw [hs.2.2.2]; omega) (by omega)) ?_
        obtain ⟨g1, hg1⟩ : ∃ g, g = pEm h (kN (h0 2) (h0 1 1) p) := ⟨_, rfl⟩
        refine zt_mem hg1.symm ?_
        have sg1 : pSt h0 g1 (p) (sz + 1) := hg1 ▸ hs.emit
        have cg1 : ∀ j, g1 4 j = if j = sz then kN (h0 2) (h0 1 1) p else h 4 j := fun j => hg1 ▸ pEm_4 hs.2.2.2
        refine zt_pop dX4_factor_36 (Nat.ne_of_beq_eq_false rfl) ?_
        refine zt_aload_n dX4_factor_37 rfl ?_
        refine zt_callV0v dX4_factor_38 ml_X4_26 (zs_3 hS) (Nat.le_of_ble_eq_true rfl) (c_adv (p := kE (h0 2) (h0 1 1) p) hS sg1.2.1 (sg1.tok hT) sg1.2.2.1.1 (by rw [sg1.1 1 (by decide) (by decide)]; have hb := kE_b (T := (h0 2)) (L := (h0 1 1)) (p := p) (by omega); omega)) ?_
        obtain ⟨g2, hg2⟩ : ∃ g, g = lxA g1 (kE (h0 2) (h0 1 1) p) := ⟨_, rfl⟩
        refine zt_mem hg2.symm ?_
        have sg2 : pSt h0 g2 (kE (h0 2) (h0 1 1) p) (sz + 1) := hg2 ▸ sg1.adv
        have cg2 : g2 4 = g1 4 := hg2 ▸ lxA_ne (by decide)
        have bg2 := kE_b (T := (h0 2)) (L := (h0 1 1)) (p := p) (by omega)
        have lg2 := bg2.2 (by omega)
        have bg2 := bg2.1
        refine zt_iconst dX4_factor_41 ?_
        exact zt_zret dX4_factor_42 (by decide) ⟨rfl, rfl, by rw [pF_2 (show kK (h0 2) (h0 1 1) p = 2 by omega)]; exact ⟨rfl, sg2, fun j q1 q2 => by rw [cg2, cg1, if_neg (by omega)], fun j q1 q2 => by rw [cg2, cg1, if_pos (by have e : (pNu (h0 2) (h0 1 1) p).2.1 = 1 := rfl; omega)]; rfl⟩⟩
      · refine zt_iconst dX4_factor_25 ?_
        refine zt_goto (tgt := 33) dX4_factor_26 (by decide) ?_
        have hkn : 0 ≤ kN (h0 2) (h0 1 1) p ∧ kN (h0 2) (h0 1 1) p ≤ 1000000 := nv_b
        refine zt_callV1r dX4_factor_33 ml_X4_42 (zs_3 hS) (Nat.le_of_ble_eq_true rfl) (c_emit hS hs.2.1 (by rw [hs.2.2.2]; omega) (by decide)) ?_
        obtain ⟨g1, hg1⟩ : ∃ g, g = pEm h (-1) := ⟨_, rfl⟩
        refine zt_mem hg1.symm ?_
        have sg1 : pSt h0 g1 (p) (sz + 1) := hg1 ▸ hs.emit
        have cg1 : ∀ j, g1 4 j = if j = sz then -1 else h 4 j := fun j => hg1 ▸ pEm_4 hs.2.2.2
        refine zt_pop dX4_factor_36 (Nat.ne_of_beq_eq_false rfl) ?_
        refine zt_aload_n dX4_factor_37 rfl ?_
        refine zt_callV0v dX4_factor_38 ml_X4_26 (zs_3 hS) (Nat.le_of_ble_eq_true rfl) (c_adv (p := kE (h0 2) (h0 1 1) p) hS sg1.2.1 (sg1.tok hT) sg1.2.2.1.1 (by rw [sg1.1 1 (by decide) (by decide)]; have hb := kE_b (T := (h0 2)) (L := (h0 1 1)) (p := p) (by omega); omega)) ?_
        obtain ⟨g2, hg2⟩ : ∃ g, g = lxA g1 (kE (h0 2) (h0 1 1) p) := ⟨_, rfl⟩
        refine zt_mem hg2.symm ?_
        have sg2 : pSt h0 g2 (kE (h0 2) (h0 1 1) p) (sz + 1) := hg2 ▸ sg1.adv
        have cg2 : g2 4 = g1 4 := hg2 ▸ lxA_ne (by decide)
        have bg2 := kE_b (T := (h0 2)) (L := (h0 1 1)) (p := p) (by omega)
        have lg2 := bg2.2 (by omega)
        have bg2 := bg2.1
        refine zt_iconst dX4_factor_41 ?_
        exact zt_zret dX4_factor_42 (by decide) ⟨rfl, rfl, by rw [pF_3 (show kK (h0 2) (h0 1 1) p = 3 by omega)]; exact ⟨rfl, sg2, fun j q1 q2 => by rw [cg2, cg1, if_neg (by omega)], fun j q1 q2 => by rw [cg2, cg1, if_pos (by have e : (pXx (h0 2) (h0 1 1) p).2.1 = 1 := rfl; omega)]; rfl⟩⟩

set_option maxRecDepth 100000 in
set_option maxHeartbeats 4000000 in
theorem c_facS {d : Nat} {h0 : zMem} {ar : Int} {k : Nat} (hT : tOK h0) (hT1 : (h0 1 1) ≤ 200) (har : 0 ≤ ar ∧ ar < 10) (hO : ∀ kd, kOp kd → pC h0 yX4_opened cX4_opened 3 [(0, kd), (0, ar + 1)] (gOp (h0 2) (h0 1 1) (gE (h0 2) (h0 1 1) (pF (h0 2) (h0 1 1) k)) (pF (h0 2) (h0 1 1) k) kd) (d + 9)) : pC h0 yX4_factor cX4_factor 3 [(0, ar)] (pF (h0 2) (h0 1 1) (k + 1)) (d + 10) := by
  intro n sh h p sz hS hs hsz
  refine zM.ofT2 (by decide +kernel) [some (2, 3), some (0, ar), none] rfl (Nat.le_of_ble_eq_true rfl) ?_
  refine zt_aload_n dX4_factor_0 rfl ?_
  refine zt_getv (v := kK (h0 2) (h0 1 1) p) dX4_factor_1 fl_X4_33 (zs_3 hS) hs.2.2.1.2.2.1 ?_
  refine zt_iconst dX4_factor_4 ?_
  refine zt_icmp_eq (tgt := 16) dX4_factor_5 (by decide) (by have := kK_r (T := h0 2) (L := h0 1 1) (p := p); omega) (by decide) (fun c_5 => ?_) (fun c_5 => ?_)
  · refine zt_aload_n dX4_factor_16 rfl ?_
    refine zt_aload_n dX4_factor_17 rfl ?_
    refine zt_getv (v := kK (h0 2) (h0 1 1) p) dX4_factor_18 fl_X4_33 (zs_3 hS) hs.2.2.1.2.2.1 ?_
    refine zt_iconst dX4_factor_21 ?_
    refine zt_icmp_ne (tgt := 29) dX4_factor_22 (by decide) (by have := kK_r (T := h0 2) (L := h0 1 1) (p := p); omega) (by decide) (fun c_22 => ?_) (fun c_22 => ?_)
    · refine zt_aload_n dX4_factor_29 rfl ?_
      refine zt_getv (v := kN (h0 2) (h0 1 1) p) dX4_factor_30 fl_X4_48 (zs_3 hS) (hs.2.2.1.2.2.2 (by omega)) ?_
      have hkn : 0 ≤ kN (h0 2) (h0 1 1) p ∧ kN (h0 2) (h0 1 1) p ≤ 1000000 := nv_b
      refine zt_callV1r dX4_factor_33 ml_X4_42 (zs_3 hS) (Nat.le_of_ble_eq_true rfl) (c_emit hS hs.2.1 (by rw [hs.2.2.2]; omega) (by omega)) ?_
      obtain ⟨g1, hg1⟩ : ∃ g, g = pEm h (kN (h0 2) (h0 1 1) p) := ⟨_, rfl⟩
      refine zt_mem hg1.symm ?_
      have sg1 : pSt h0 g1 (p) (sz + 1) := hg1 ▸ hs.emit
      have cg1 : ∀ j, g1 4 j = if j = sz then kN (h0 2) (h0 1 1) p else h 4 j := fun j => hg1 ▸ pEm_4 hs.2.2.2
      refine zt_pop dX4_factor_36 (Nat.ne_of_beq_eq_false rfl) ?_
      refine zt_aload_n dX4_factor_37 rfl ?_
      refine zt_callV0v dX4_factor_38 ml_X4_26 (zs_3 hS) (Nat.le_of_ble_eq_true rfl) (c_adv (p := kE (h0 2) (h0 1 1) p) hS sg1.2.1 (sg1.tok hT) sg1.2.2.1.1 (by rw [sg1.1 1 (by decide) (by decide)]; have hb := kE_b (T := (h0 2)) (L := (h0 1 1)) (p := p) (by omega); omega)) ?_
      obtain ⟨g2, hg2⟩ : ∃ g, g = lxA g1 (kE (h0 2) (h0 1 1) p) := ⟨_, rfl⟩
      refine zt_mem hg2.symm ?_
      have sg2 : pSt h0 g2 (kE (h0 2) (h0 1 1) p) (sz + 1) := hg2 ▸ sg1.adv
      have cg2 : g2 4 = g1 4 := hg2 ▸ lxA_ne (by decide)
      have bg2 := kE_b (T := (h0 2)) (L := (h0 1 1)) (p := p) (by omega)
      have lg2 := bg2.2 (by omega)
      have bg2 := bg2.1
      refine zt_iconst dX4_factor_41 ?_
      exact zt_zret dX4_factor_42 (by decide) ⟨rfl, rfl, by rw [pF_2 (show kK (h0 2) (h0 1 1) p = 2 by omega)]; exact ⟨rfl, sg2, fun j q1 q2 => by rw [cg2, cg1, if_neg (by omega)], fun j q1 q2 => by rw [cg2, cg1, if_pos (by have e : (pNu (h0 2) (h0 1 1) p).2.1 = 1 := rfl; omega)]; rfl⟩⟩
    · refine zt_iconst dX4_factor_25 ?_
      refine zt_goto (tgt := 33) dX4_factor_26 (by decide) ?_
      have hkn : 0 ≤ kN (h0 2) (h0 1 1) p ∧ kN (h0 2) (h0 1 1) p ≤ 1000000 := nv_b
      refine zt_callV1r dX4_factor_33 ml_X4_42 (zs_3 hS) (Nat.le_of_ble_eq_true rfl) (c_emit hS hs.2.1 (by rw [hs.2.2.2]; omega) (by decide)) ?_
      obtain ⟨g1, hg1⟩ : ∃ g, g = pEm h (-1) := ⟨_, rfl⟩
      refine zt_mem hg1.symm ?_
      have sg1 : pSt h0 g1 (p) (sz + 1) := hg1 ▸ hs.emit
      have cg1 : ∀ j, g1 4 j = if j = sz then -1 else h 4 j := fun j => hg1 ▸ pEm_4 hs.2.2.2
      refine zt_pop dX4_factor_36 (Nat.ne_of_beq_eq_false rfl) ?_
      refine zt_aload_n dX4_factor_37 rfl ?_
      refine zt_callV0v dX4_factor_38 ml_X4_26 (zs_3 hS) (Nat.le_of_ble_eq_true rfl) (c_adv (p := kE (h0 2) (h0 1 1) p) hS sg1.2.1 (sg1.tok hT) sg1.2.2.1.1 (by rw [sg1.1 1 (by decide) (by decide)]; have hb := kE_b (T := (h0 2)) (L := (h0 1 1)) (p := p) (by omega); omega)) ?_
      obtain ⟨g2, hg2⟩ : ∃ g, g = lxA g1 (kE (h0 2) (h0 1 1) p) := ⟨_, rfl⟩
      refine zt_mem hg2.symm ?_
      have sg2 : pSt h0 g2 (kE (h0 2) (h0 1 1) p) (sz + 1) := hg2 ▸ sg1.adv
      have cg2 : g2 4 = g1 4 := hg2 ▸ lxA_ne (by decide)
      have bg2 := kE_b (T := (h0 2)) (L := (h0 1 1)) (p := p) (by omega)
      have lg2 := bg2.2 (by omega)
      have bg2 := bg2.1
      refine zt_iconst dX4_factor_41 ?_
      exact zt_zret dX4_factor_42 (by decide) ⟨rfl, rfl, by rw [pF_3 (show kK (h0 2) (h0 1 1) p = 3 by omega)]; exact ⟨rfl, sg2, fun j q1 q2 => by rw [cg2, cg1, if_neg (by omega)], fun j q1 q2 => by rw [cg2, cg1, if_pos (by have e : (pXx (h0 2) (h0 1 1) p).2.1 = 1 := rfl; omega)]; rfl⟩⟩
  · refine zt_aload_n dX4_factor_8 rfl ?_
    refine zt_getv (v := kK (h0 2) (h0 1 1) p) dX4_factor_9 fl_X4_33 (zs_3 hS) hs.2.2.1.2.2.1 ?_
    refine zt_iconst dX4_factor_12 ?_
    refine zt_icmp_ne (tgt := 43) dX4_factor_13 (by decide) (by have := kK_r (T := h0 2) (L := h0 1 1) (p := p); omega) (by decide) (fun c_13 => ?_) (fun c_13 => ?_)
    · refine zt_aload_n dX4_factor_43 rfl ?_
      refine zt_callV0r dX4_factor_44 ml_X4_51 (zs_3 hS) (Nat.le_of_ble_eq_true rfl) (c_opens hS hs) ?_
      refine zt_ifb_eq (tgt := 56) dX4_factor_47 (by decide) (fun c_47 => ?_) (fun c_47 => ?_)
      · refine zt_iconst dX4_factor_56 ?_
        exact zt_zret dX4_factor_57 (by decide) ⟨rfl, rfl, by rw [pF_n ⟨by omega, by omega⟩ (fun q => by unfold kOp at q; omega)]; exact ⟨rfl, hs.1, hs.2.1, hs.2.2.1.2.1⟩⟩
      · refine zt_iload_n dX4_factor_50 rfl ?_
        refine zt_bipush dX4_factor_51 (by decide) ?_
        refine zt_icmp_lt (tgt := 58) dX4_factor_53 (by decide) (by omega) (by decide) (fun c_53 => ?_) (fun c_53 => ?_)
        · have hko : kOp (kK (h0 2) (h0 1 1) p) := by unfold kOp; omega
          refine zt_aload_n dX4_factor_58 rfl ?_
          refine zt_getv (v := kK (h0 2) (h0 1 1) p) dX4_factor_59 fl_X4_33 (zs_3 hS) hs.2.2.1.2.2.1 ?_
          refine zt_istore_n_2 dX4_factor_62 (by decide) rfl ?_
          refine zt_aload_n dX4_factor_63 rfl ?_
          refine zt_callV0v dX4_factor_64 ml_X4_26 (zs_3 hS) (Nat.le_of_ble_eq_true rfl) (c_adv (p := kE (h0 2) (h0 1 1) p) hS hs.2.1 (hs.tok hT) hs.2.2.1.1 (by rw [hs.1 1 (by decide) (by decide)]; have hb := kE_b (T := (h0 2)) (L := (h0 1 1)) (p := p) (by omega); omega)) ?_
          obtain ⟨g1, hg1⟩ : ∃ g, g = lxA h (kE (h0 2) (h0 1 1) p) := ⟨_, rfl⟩
          refine zt_mem hg1.symm ?_
          have sg1 : pSt h0 g1 (kE (h0 2) (h0 1 1) p) (sz) := hg1 ▸ hs.adv
          have cg1 : g1 4 = h 4 := hg1 ▸ lxA_ne (by decide)
          have bg1 := kE_b (T := (h0 2)) (L := (h0 1 1)) (p := p) (by omega)
          have lg1 := bg1.2 (by omega)
          have bg1 := bg1.1
          refine zt_aload_n dX4_factor_67 rfl ?_
          refine zt_iload_n dX4_factor_68 rfl ?_
          refine zt_iload_n dX4_factor_69 rfl ?_
          refine zt_iconst dX4_factor_70 ?_
          refine zt_iadd dX4_factor_71 ?_
          refine zt_callV2q dX4_factor_72 ml_X4_55 (zs_3 hS) (Nat.le_of_ble_eq_true rfl) (hO (kK (h0 2) (h0 1 1) p) hko _ _ _ _ _ hS sg1 (by have hb := kE_b (T := (h0 2)) (L := (h0 1 1)) (p := kE (h0 2) (h0 1 1) p) (by omega); omega)) ?_
          rintro r n1 sh1 g2 ⟨rfl, rfl, hq2⟩
          rcases he2 : gOp (h0 2) (h0 1 1) (gE (h0 2) (h0 1 1) (pF (h0 2) (h0 1 1) k)) (pF (h0 2) (h0 1 1) k) (kK (h0 2) (h0 1 1) p) (kE (h0 2) (h0 1 1) p) with e | r2 <;> rw [he2] at hq2
          · obtain ⟨rfl, ho2, hR2, hs2⟩ := hq2
            simp only [Option.toList, List.cons_append, List.nil_append]
            exact zt_zret dX4_factor_75 (by decide) ⟨rfl, rfl, by rw [pF_o ⟨by omega, by omega⟩ hko, he2]; exact ⟨rfl, ho2, hR2, hs2⟩⟩
          · obtain ⟨rfl, sg2, u2, v2⟩ := hq2
            simp only [Option.toList, List.cons_append, List.nil_append]
            exact zt_zret dX4_factor_75 (by decide) ⟨rfl, rfl, by rw [pF_o ⟨by omega, by omega⟩ hko, he2]; exact ⟨rfl, sg2, fun j q1 q2 => by rw [u2 j q1 q2, cg1], v2⟩⟩
        · exfalso
          omega
    · refine zt_aload_n dX4_factor_16 rfl ?_
      refine zt_aload_n dX4_factor_17 rfl ?_
      refine zt_getv (v := kK (h0 2) (h0 1 1) p) dX4_factor_18 fl_X4_33 (zs_3 hS) hs.2.2.1.2.2.1 ?_
      refine zt_iconst dX4_factor_21 ?_
      refine zt_icmp_ne (tgt := 29) dX4_factor_22 (by decide) (by have := kK_r (T := h0 2) (L := h0 1 1) (p := p); omega) (by decide) (fun c_22 => ?_) (fun c_22 => ?_)
      · refine zt_aload_n dX4_factor_29 rfl ?_
        refine zt_getv (v := kN (h0 2) (h0 1 1) p) dX4_factor_30 fl_X4_48 (zs_3 hS) (hs.2.2.1.2.2.2 (by omega)) ?_
        have hkn : 0 ≤ kN (h0 2) (h0 1 1) p ∧ kN (h0 2) (h0 1 1) p ≤ 1000000 := nv_b
        refine zt_callV1r dX4_factor_33 ml_X4_42 (zs_3 hS) (Nat.le_of_ble_eq_true rfl) (c_emit hS hs.2.1 (by rw [hs.2.2.2]; omega) (by omega)) ?_
        obtain ⟨g1, hg1⟩ : ∃ g, g = pEm h (kN (h0 2) (h0 1 1) p) := ⟨_, rfl⟩
        refine zt_mem hg1.symm ?_
        have sg1 : pSt h0 g1 (p) (sz + 1) := hg1 ▸ hs.emit
        have cg1 : ∀ j, g1 4 j = if j = sz then kN (h0 2) (h0 1 1) p else h 4 j := fun j => hg1 ▸ pEm_4 hs.2.2.2
        refine zt_pop dX4_factor_36 (Nat.ne_of_beq_eq_false rfl) ?_
        refine zt_aload_n dX4_factor_37 rfl ?_
        refine zt_callV0v dX4_factor_38 ml_X4_26 (zs_3 hS) (Nat.le_of_ble_eq_true rfl) (c_adv (p := kE (h0 2) (h0 1 1) p) hS sg1.2.1 (sg1.tok hT) sg1.2.2.1.1 (by rw [sg1.1 1 (by decide) (by decide)]; have hb := kE_b (T := (h0 2)) (L := (h0 1 1)) (p := p) (by omega); omega)) ?_
        obtain ⟨g2, hg2⟩ : ∃ g, g = lxA g1 (kE (h0 2) (h0 1 1) p) := ⟨_, rfl⟩
        refine zt_mem hg2.symm ?_
        have sg2 : pSt h0 g2 (kE (h0 2) (h0 1 1) p) (sz + 1) := hg2 ▸ sg1.adv
        have cg2 : g2 4 = g1 4 := hg2 ▸ lxA_ne (by decide)
        have bg2 := kE_b (T := (h0 2)) (L := (h0 1 1)) (p := p) (by omega)
        have lg2 := bg2.2 (by omega)
        have bg2 := bg2.1
        refine zt_iconst dX4_factor_41 ?_
        exact zt_zret dX4_factor_42 (by decide) ⟨rfl, rfl, by rw [pF_2 (show kK (h0 2) (h0 1 1) p = 2 by omega)]; exact ⟨rfl, sg2, fun j q1 q2 => by rw [cg2, cg1, if_neg (by omega)], fun j q1 q2 => by rw [cg2, cg1, if_pos (by have e : (pNu (h0 2) (h0 1 1) p).2.1 = 1 := rfl; omega)]; rfl⟩⟩
      · refine zt_iconst dX4_factor_25 ?_
        refine zt_goto (tgt := 33) dX4_factor_26 (by decide) ?_
        have hkn : 0 ≤ kN (h0 2) (h0 1 1) p ∧ kN (h0 2) (h0 1 1) p ≤ 1000000 := nv_b
        refine zt_callV1r dX4_factor_33 ml_X4_42 (zs_3 hS) (Nat.le_of_ble_eq_true rfl) (c_emit hS hs.2.1 (by rw [hs.2.2.2]; omega) (by decide)) ?_
        obtain ⟨g1, hg1⟩ : ∃ g, g = pEm h (-1) := ⟨_, rfl⟩
        refine zt_mem hg1.symm ?_
        have sg1 : pSt h0 g1 (p) (sz + 1) := hg1 ▸ hs.emit
        have cg1 : ∀ j, g1 4 j = if j = sz then -1 else h 4 j := fun j => hg1 ▸ pEm_4 hs.2.2.2
        refine zt_pop dX4_factor_36 (Nat.ne_of_beq_eq_false rfl) ?_
        refine zt_aload_n dX4_factor_37 rfl ?_
        refine zt_callV0v dX4_factor_38 ml_X4_26 (zs_3 hS) (Nat.le_of_ble_eq_true rfl) (c_adv (p := kE (h0 2) (h0 1 1) p) hS sg1.2.1 (sg1.tok hT) sg1.2.2.1.1 (by rw [sg1.1 1 (by decide) (by decide)]; have hb := kE_b (T := (h0 2)) (L := (h0 1 1)) (p := p) (by omega); omega)) ?_
        obtain ⟨g2, hg2⟩ : ∃ g, g = lxA g1 (kE (h0 2) (h0 1 1) p) := ⟨_, rfl⟩
        refine zt_mem hg2.symm ?_
        have sg2 : pSt h0 g2 (kE (h0 2) (h0 1 1) p) (sz + 1) := hg2 ▸ sg1.adv
        have cg2 : g2 4 = g1 4 := hg2 ▸ lxA_ne (by decide)
        have bg2 := kE_b (T := (h0 2)) (L := (h0 1 1)) (p := p) (by omega)
        have lg2 := bg2.2 (by omega)
        have bg2 := bg2.1
        refine zt_iconst dX4_factor_41 ?_
        exact zt_zret dX4_factor_42 (by decide) ⟨rfl, rfl, by rw [pF_3 (show kK (h0 2) (h0 1 1) p = 3 by omega)]; exact ⟨rfl, sg2, fun j q1 q2 => by rw [cg2, cg1, if_neg (by omega)], fun j q1 q2 => by rw [cg2, cg1, if_pos (by have e : (pXx (h0 2) (h0 1 1) p).2.1 = 1 := rfl; omega)]; rfl⟩⟩

theorem pF_p1 {T : Int → Int} {L : Int} {k : Nat} : ∀ p r, p ≤ L → pF T L k p = .inr r → pG1 L p r := fun p r hp e => (pF_gd k p r hp e).1
theorem gT_p1 {T : Int → Int} {L : Int} {k : Nat} : ∀ p r, p ≤ L → gT T L (pF T L k) p = .inr r → pG1 L p r := fun p r hp e => (gT_gd (fun p r hp e => pF_gd k p r hp e) (by omega) p r hp e).1
theorem gE_p1 {T : Int → Int} {L : Int} {k : Nat} : ∀ p r, p ≤ L → gE T L (pF T L k) p = .inr r → pG1 L p r := fun p r hp e => (gE_gd (fun p r hp e => pF_gd k p r hp e) (by omega) p r hp e).1
theorem c_sumk {D : Nat} {h0 : zMem} {ar : Int} {k : Nat} (hT : tOK h0) (hT1 : (h0 1 1) ≤ 200) (h : ∀ D, 7 + 5 * k ≤ D → pC h0 yX4_factor cX4_factor 3 [(0, ar)] (pF (h0 2) (h0 1 1) k) D) (hD : 9 + 5 * k ≤ D) : pC h0 yX4_sum cX4_sum 4 [(0, ar)] (gE (h0 2) (h0 1 1) (pF (h0 2) (h0 1 1) k)) D := by
  obtain ⟨d, rfl⟩ : ∃ d, D = d + 8 := ⟨D - 8, by omega⟩
  exact c_psum (d := d + 1) hT hT1 (c_prod (d := d) hT hT1 (h _ (by omega)) pF_p1) gT_p1
/-- all levels of factor -/
theorem c_fack {h0 : zMem} (hT : tOK h0) (hT1 : (h0 1 1) ≤ 200) : ∀ k : Nat, k ≤ 10 → ∀ D, 7 + 5 * k ≤ D → pC h0 yX4_factor cX4_factor 3 [(0, 10 - (k : Int))] (pF (h0 2) (h0 1 1) k) D
  | 0, _, D, hD => by
    obtain ⟨d, rfl⟩ : ∃ d, D = d + 7 := ⟨D - 7, by omega⟩
    exact c_fac0 hT hT1
  | k + 1, hk, D, hD => by
    have ih := c_fack hT hT1 k (by omega)
    obtain ⟨d, rfl⟩ : ∃ d, D = d + 10 := ⟨D - 10, by omega⟩
    rw [show (10 : Int) - ((k + 1 : Nat) : Int) = 9 - k by omega]
    have e9 : (9 : Int) - k + 1 = 10 - k := by omega
    refine c_facS hT hT1 (by omega) (fun kd hkd => ?_)
    rw [e9]
    have hE8 : pC h0 yX4_sum cX4_sum 4 [(0, 10 - (k : Int))] (gE (h0 2) (h0 1 1) (pF (h0 2) (h0 1 1) k)) (d + 8) := c_sumk hT hT1 ih (by omega)
    have hE7 : pC h0 yX4_sum cX4_sum 4 [(0, 10 - (k : Int))] (gE (h0 2) (h0 1 1) (pF (h0 2) (h0 1 1) k)) (d + 7) := c_sumk hT hT1 ih (by omega)
    have hF8 := ih (d + 8) (by omega)
    unfold kOp at hkd
    rcases hkd with rfl | rfl | rfl | rfl | rfl | rfl | rfl
    · exact c_op40 hT hT1 hE8 gE_p1
    · exact c_op45 hT hT1 hF8 pF_p1
    · exact c_op4 hT hT1 hF8 pF_p1
    · exact c_op5 hT hT1 hF8 pF_p1
    · exact c_op6 hT hT1 hE7 gE_p1
    · exact c_op7 hT hT1 hE7 gE_p1
    · exact c_op8 hT hT1 hE7 gE_p1
/-- what a whole TEXT comes to -/
noncomputable def pAl (T : Int → Int) (L : Int) : Int ⊕ zPR := match gE T L (pF T L 10) 0 with
  | .inl e => .inl e
  | .inr r => if kK T L r.1 = 0 then .inr r else .inl (kS T L r.1)
def pEnd (h : zMem) : Int ⊕ zPR → Option zV → zMem → Prop
  | .inl e, r, _ => r = some (0, e)
  | .inr q, r, h1 => r = some (0, -1) ∧ h1 3 1 = q.2.1 ∧ ∀ j, 0 ≤ j → j < q.2.1 → h1 4 j = q.2.2.1 0 j
theorem zup_mm {h : zMem} : ∀ x, x ≠ 3 → x ≠ 4 → zup (zup h 3 1 0) 3 3 0 x = h x := fun x h1 _ => (zup_ne h1).trans (zup_ne h1)

set_option maxRecDepth 100000 in
set_option maxHeartbeats 4000000 in
theorem c_parse {d n : Nat} {sh : zSh} {h : zMem} (hS : zShp sh) (hR : zRf h) (hT : tOK h) : zM yX4_parse cX4_parse 1 (some .int) (d + 60) 0 0 [(2, 3)] n sh h (fun r n1 sh1 h1 => n1 = n ∧ sh1 = sh ∧ (∀ x, x ≠ 3 → x ≠ 4 → h1 x = h x) ∧ zRf h1 ∧ pEnd h (pAl (h 2) (h 1 1)) r h1) := by
  refine zM.ofT2 (by decide +kernel) [some (2, 3)] rfl (Nat.le_of_ble_eq_true rfl) ?_
  have hR2 : zRf (zup (zup h 3 1 0) 3 3 0) := (hR.up (by decide)).up (by decide)
  refine zt_aload_n dX4_parse_0 rfl ?_
  refine zt_iconst dX4_parse_1 ?_
  refine zt_puti dX4_parse_2 fl_X4_19 rfl (zs_3 hS) (by decide) ?_
  refine zt_aload_n dX4_parse_5 rfl ?_
  refine zt_iconst dX4_parse_6 ?_
  refine zt_puti dX4_parse_7 fl_X4_23 rfl (zs_3 hS) (by decide) ?_
  refine zt_aload_n dX4_parse_10 rfl ?_
  refine zt_callV0v dX4_parse_11 ml_X4_26 (zs_3 hS) (Nat.le_of_ble_eq_true rfl) (c_adv (p := 0) hS hR2 (tOK_x hT (zup_mm 1 (by decide) (by decide)) (zup_mm 2 (by decide) (by decide))) zupE ⟨by decide, by rw [zup_mm 1 (by decide) (by decide)]; exact hT.1.1⟩) ?_
  obtain ⟨g1, hg1⟩ : ∃ g, g = lxA (zup (zup h 3 1 0) 3 3 0) 0 := ⟨_, rfl⟩
  refine zt_mem hg1.symm ?_
  have sg1 : pSt h g1 0 0 := hg1 ▸ lxA_st zup_mm hR2 ((zupJ (by decide)).trans zupE)
  refine zt_aload_n dX4_parse_14 rfl ?_
  refine zt_iconst dX4_parse_15 ?_
  refine zt_callV1q dX4_parse_16 ml_X4_29 (zs_3 hS) (Nat.le_of_ble_eq_true rfl) (c_sumk (ar := 10 - ((10 : Nat) : Int)) hT hT.1.2 (c_fack hT hT.1.2 10 (by omega)) (show 9 + 5 * 10 ≤ d + 59 by omega) _ _ _ _ _ hS sg1 ⟨by decide, by decide, hT.1.1⟩) ?_
  rintro r n1 sh1 g2 ⟨rfl, rfl, hq2⟩
  rcases he2 : gE (h 2) (h 1 1) (pF (h 2) (h 1 1) 10) (0) with e | r2 <;> rw [he2] at hq2
  · obtain ⟨rfl, ho2, hR2q, hs2⟩ := hq2
    simp only [Option.toList, List.cons_append, List.nil_append]
    refine zt_if_eq (tgt := 33) dX4_parse_19 (by decide) (by decide) (fun c_19 => ?_) (fun q => absurd q (by decide))
    refine zt_aload_n dX4_parse_33 rfl ?_
    refine zt_getv (v := e) dX4_parse_34 fl_X4_36 (zs_3 hS) hs2 ?_
    exact zt_iret dX4_parse_37 ⟨rfl, rfl, ho2, hR2q, by rw [show pAl (h 2) (h 1 1) = .inl e by unfold pAl; rw [he2]]; exact rfl⟩
  · obtain ⟨rfl, sg2, u2, v2⟩ := hq2
    simp only [Option.toList, List.cons_append, List.nil_append]
    refine zt_if_eq (tgt := 33) dX4_parse_19 (by decide) (by decide) (fun q => absurd q (by decide)) (fun c_19 => ?_)
    refine zt_aload_n dX4_parse_22 rfl ?_
    refine zt_getv (v := kK (h 2) (h 1 1) r2.1) dX4_parse_23 fl_X4_33 (zs_3 hS) sg2.2.2.1.2.2.1 ?_
    refine zt_if_ne (tgt := 33) dX4_parse_26 (by decide) (by have := kK_r (T := h 2) (L := h 1 1) (p := r2.1); omega) (fun c_26 => ?_) (fun c_26 => ?_)
    · refine zt_aload_n dX4_parse_33 rfl ?_
      refine zt_getv (v := kS (h 2) (h 1 1) r2.1) dX4_parse_34 fl_X4_36 (zs_3 hS) sg2.2.2.1.2.1 ?_
      exact zt_iret dX4_parse_37 ⟨rfl, rfl, sg2.1, sg2.2.1, by rw [show pAl (h 2) (h 1 1) = .inl (kS (h 2) (h 1 1) r2.1) by unfold pAl; rw [he2]; exact if_neg c_26]; exact rfl⟩
    · refine zt_iconst dX4_parse_29 ?_
      refine zt_goto (tgt := 37) dX4_parse_30 (by decide) ?_
      exact zt_iret dX4_parse_37 ⟨rfl, rfl, sg2.1, sg2.2.1, by rw [show pAl (h 2) (h 1 1) = .inr r2 by unfold pAl; rw [he2]; exact if_pos c_26]; exact ⟨rfl, by rw [sg2.2.2.2]; omega, fun j q1 q2 => v2 j q1 (by omega)⟩⟩
