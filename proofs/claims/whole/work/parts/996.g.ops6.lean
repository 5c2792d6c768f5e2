set_option maxRecDepth 100000 in
set_option maxHeartbeats 4000000 in
theorem op_set {q : Int} {n : Nat} {sh : zSh} {h : zMem} {p : Int} (hI : INV q n sh h) (hq6 : q ≤ 520) (hp_ : zi32 p) : oOK q n sh h (fun Q => zM yX10_set cX10_set 3 (some .int) 70 0 0 [(2, 0), (0, p)] n sh h Q) (fun n1 sh1 h1 Q => zM yX11_set cX11_set 4 (some .int) 70 0 0 [(2, 38), (0, p)] n1 sh1 h1 Q) := by
  obtain ⟨⟨hS, hR, hn, hq⟩, hB, hX, hSh, hT, hV, hE, hRw, hN, hU, hG, hL, hTk, hW⟩ := id hI
  have hTb := hI.xTb
  have e17 := hT.1
  have hcc : ∀ g : zMem, (∀ x y, x < 80 → g x y = h x y) → ((jT g p ∧ g 58 p = 0 ∧ jAll g p) ↔ (xT h p ∧ h (xAt h p) 11 = 0 ∧ tAll h (xAt h p))) := fun g eL => by
    unfold jT jAll
    rw [eL 38 17 (by decide), eL 58 p (by decide), eL 46 p (by decide)]
    by_cases c : 0 ≤ p ∧ p < h 0 11
    · obtain ⟨ea, ⟨hZ, ⟨e46, e58, e59, e60⟩, hbd, hwn, hen⟩, hp17, hp5⟩ := iT_at hI c
      have hE30 := hZ.2.2.1
      constructor
      · rintro ⟨z1, z2, z3⟩
        refine ⟨c, by omega, fun j j0 j1 => ?_⟩
        have k := hen j j0 j1
        have q := z3 j j0 (by omega)
        rw [eL 47 _ (by decide), eL 57 _ (by decide)] at q
        rw [k.1.1, k.1.2.2.2.1]; exact q
      · rintro ⟨z1, z2, z3⟩
        refine ⟨by omega, by omega, fun j j0 j1 => ?_⟩
        have k := hen j j0 (by omega)
        have q := z3 j j0 (by omega)
        rw [k.1.1, k.1.2.2.2.1] at q
        rw [eL 47 _ (by decide), eL 57 _ (by decide)]; exact q
    · constructor
      · rintro ⟨z1, _⟩; exact absurd (by omega) c
      · rintro ⟨z1, _⟩; exact absurd z1 c
  refine ⟨_, c_xst (d := 67) hS hR hTb hp_, ?_⟩
  rintro r n1 sh1 h1 ⟨rfl, rfl, hz⟩
  rcases hz with ⟨c, rfl, rfl⟩ | ⟨c, rfl, rfl⟩
  · obtain ⟨ea, ⟨hZ, ⟨e46, e58, e59, e60⟩, hbd, hwn, hen⟩, hp17, hp5⟩ := iT_at hI c.1
    have hE30 := hZ.2.2.1
    have ht80 := hZ.1
    have eL : ∀ r_ y_, r_ < 80 → (zup h (xAt h p) 11 1) r_ y_ = h r_ y_ := fun r_ y_ hx => zupA (by omega)
    have c1 : zChL [] [] h (zup h (xAt h p) 11 1) := zChL.hup (by omega)
    have hR1 : zRf (zup h (xAt h p) 11 1) := zRf_c c1 (by decide) hR
    have hB1 : mB (zup h (xAt h p) 11 1) := mB_c c1 (by decide) hB
    refine ⟨⟨rfl, c1.r (DR := [-1000]) (DS := []) (by decide) (by decide)⟩, _, rfl, _, c_jset (d := 68) hS hR1 hB1 hp_, ?_⟩
    rintro r2 n2 sh2 h2 ⟨rfl, rfl, hz2⟩
    rcases hz2 with ⟨_, rfl, rfl⟩ | ⟨c3, _, _⟩
    · have c2 : zChL [58] [] (zup h (xAt h p) 11 1) (zup (zup h (xAt h p) 11 1) 58 p 1) := zCh.upA.lo
      have cc := c1.trans c2
      have hx9 : ∀ x : Int, 80 ≤ x → (∀ k, 0 ≤ k → k ≤ 10 → x ≠ xAt h p + k) → (zup (zup h (xAt h p) 11 1) 58 p 1) x = h x := fun x h1 h2 => by rw [zup_ne (by omega), zup_ne (by have := h2 0 (by omega) (by omega); omega)]
      have hb1 : ∀ j, 1 ≤ j → j ≤ 10 → (zup (zup h (xAt h p) 11 1) 58 p 1) (xAt h p + j) = h (xAt h p + j) := fun j h1 h2 => by rw [zup_ne (by omega), zup_ne (by omega)]
      have hb0 : ∀ j, j ≠ 11 → (zup (zup h (xAt h p) 11 1) 58 p 1) (xAt h p) j = h (xAt h p) j := fun j h1 => by rw [zupA (by omega), zupJ h1]
      have hlr : ∀ x, x < 80 → x ≠ 58 → (zup (zup h (xAt h p) 11 1) 58 p 1) x = h x := fun x h1 h2 => by rw [zup_ne h2, zup_ne (by omega)]
      have h58 : ∀ y, (zup (zup h (xAt h p) 11 1) 58 p 1) 58 y = if y = p then 1 else h 58 y := fun y => by
        by_cases z : y = p
        · rw [if_pos z, z, zupE]
        · rw [if_neg z, zupJ z, zupA (by omega)]
      have hnew : iTb sh2 (zup (zup h (xAt h p) 11 1) 58 p 1) p (xAt h p) := by
        refine ⟨⟨hZ.1, hZ.2.1, by rw [hb0 0 (by decide)]; exact hZ.2.2.1, fun j j0 j1 => ⟨(hZ.2.2.2 j j0 j1).1, by rw [hb0 j (by omega)]; exact (hZ.2.2.2 j j0 j1).2⟩⟩, ⟨by rw [hlr 46 (by decide) (by decide), hb0 0 (by decide)]; exact e46, by rw [h58, if_pos rfl, zupA (by omega), zupE], by rw [hlr 59 (by decide) (by decide), hb0 12 (by decide)]; exact e59, by rw [hlr 60 (by decide) (by decide), hb0 13 (by decide)]; exact e60⟩, by rw [hb0 12 (by decide), hb0 13 (by decide)]; exact hbd, by rw [hb1 9 (by omega) (by omega), hb0 12 (by decide)]; exact hwn, fun i i0 i1 => ?_⟩
        rw [hb0 0 (by decide)] at i1
        exact iEn_same (fun k z1 z2 => by rw [hb1 k z1 z2]) (fun r hr => by rw [hlr r ((by decide : ∀ r ∈ ([47, 51, 52, 53, 54, 55, 56, 57, 61, 66] : List Int), r < 80) r hr) ((by decide : ∀ r ∈ ([47, 51, 52, 53, 54, 55, 56, 57, 61, 66] : List Int), r ≠ 58) r hr)]) (hen i i0 i1)
      have hTn : iT sh2 (zup (zup h (xAt h p) 11 1) 58 p 1) := iT_upd hT ea c.1 (hlr 9 (by decide) (by decide)) (congrFun (hlr 0 (by decide) (by decide)) 11) (congrFun (hlr 38 (by decide) (by decide)) 17) hx9 (fun r hr y hy => by rw [hlr r ((by decide : ∀ r ∈ ([47, 51, 52, 53, 54, 55, 56, 57, 61, 66] : List Int), r < 80) r hr) ((by decide : ∀ r ∈ ([47, 51, 52, 53, 54, 55, 56, 57, 61, 66] : List Int), r ≠ 58) r hr)]) (fun r hr y hy => by
        by_cases z3 : r = 58
        · rw [z3, h58, if_neg hy]
        · rw [hlr r ((by decide : ∀ r ∈ ([46, 58, 59, 60] : List Int), r < 80) r hr) z3]) hnew
      refine ⟨?_, ⟨rfl, cc.r (DR := [-1000]) (DS := []) (by decide) (by decide)⟩, ⟨⟨hS, zRf_c cc (by decide) hR, hn, by omega⟩, mB_c cc (by decide) hB, mTx_c cc (by decide) hX, iS_tb cc (by decide) hZ hx9 hSh, hTn, vHab_c cc (by decide) hV, iE_q (iE_c cc (by decide) hE), vRow_c cc (by decide) hRw, iN_c cc (by decide) hN, iU_c cc (by decide) hU, iG_c cc (by decide) hG, (by rw [cc.r (DR := [75]) (DS := []) (by decide) (x := 75) (by decide)]; exact hL), vTok_c cc (by decide) hTk, ⟨by rw [hlr 61 (by decide) (by decide)]; exact hW.1, fun u u0 u1 => by rw [hlr 38 (by decide) (by decide)] at u0; rw [h58, if_neg (by omega), hlr 59 (by decide) (by decide), hlr 60 (by decide) (by decide), hlr 61 (by decide) (by decide)]; exact hW.2 u u0 u1⟩⟩⟩
      congr 2
      rw [eL 46 p (by decide), e46]
      refine zS_congr 30 0 (by omega) (fun j j0 j1 => zb_eq ?_)
      rw [eL 47 _ (by decide)]
      have k := hen j j0 j1
      have e8 := k.1.2.2.2.1
      have q := c.2.2 j j0 j1
      constructor
      · intro z
        refine ⟨⟨j0, j1⟩, ?_⟩
        rcases q with q | q
        · rw [k.1.1] at q; exact absurd q z
        · exact q
      · intro z
        exact (k.2.2.2.2.2 (by have := z.2; omega)).2
    · exact absurd ((hcc _ eL).mpr c) c3
  · refine ⟨⟨rfl, rfl⟩, _, rfl, _, c_jset (d := 68) hS hR hB hp_, ?_⟩
    rintro r2 n2 sh2 h2 ⟨rfl, rfl, hz2⟩
    rcases hz2 with ⟨c3, _, _⟩ | ⟨_, rfl, rfl⟩
    · exact absurd ((hcc _ (fun _ _ _ => rfl)).mp c3) c
    · exact ⟨rfl, ⟨rfl, rfl⟩, (hI.keep zCh.refl (by decide) (by decide) hR (by decide) hL)⟩

set_option maxRecDepth 100000 in
set_option maxHeartbeats 4000000 in
theorem op_print {q : Int} {n : Nat} {sh : zSh} {h : zMem} {p x : Int} (hI : INV q n sh h) (hq6 : q ≤ 520) (hp_ : zi32 p) (hx_ : zi32 x) : oOK q n sh h (fun Q => zM yX10_print cX10_print 4 (some .int) 70 0 0 [(2, 0), (0, p), (0, x)] n sh h Q) (fun n1 sh1 h1 Q => zM yX11_print cX11_print 5 (some .int) 70 0 0 [(2, 38), (0, p), (0, x)] n1 sh1 h1 Q) := by
  obtain ⟨⟨hS, hR, hn, hq⟩, hB, hX, hSh, hT, hV, hE, hRw, hN, hU, hG, hL, hTk, hW⟩ := id hI
  have hTb := hI.xTb
  have e17 := hT.1
  have hpb : ((0 ≤ p ∧ p < h 0 11) ∧ h (xAt h p) 11 ≠ 0) → (∀ j : Int, 0 ≤ j → j < 30 → 0 ≤ h (xAt h p + 9) j ∧ h (xAt h p + 9) j ≤ 100000) ∧ (0 ≤ h (xAt h p) 12 ∧ h (xAt h p) 12 ≤ 60000) ∧ (0 ≤ h (xAt h p) 13 ∧ h (xAt h p) 13 ≤ 5000) := fun c => by
    obtain ⟨ea, ⟨hZ, ⟨e46, e58, e59, e60⟩, hbd, hwn, hen⟩, hp17, hp5⟩ := iT_at hI c.1
    exact ⟨fun j j0 j1 => by have := hwn j j0 j1; omega, hbd⟩
  have hcp : ∀ u, 0 ≤ u → u < h 38 17 → (0 ≤ h 59 u ∧ h 59 u ≤ 60000) ∧ 0 ≤ h 60 u ∧ h 60 u ≤ 5000 := fun u u0 u1 => by
    have k := hT.2.2 u u0 (by omega)
    rw [k.2.1.2.2.1, k.2.1.2.2.2]; exact k.2.2.1
  by_cases c : ((0 ≤ p ∧ p < h 0 11) ∧ h (xAt h p) 11 ≠ 0) ∧ (1 ≤ x ∧ x ≤ 5000) ∧ h (xAt h p) 12 + x ≤ 60000
  · obtain ⟨ea, ⟨hZ, ⟨e46, e58, e59, e60⟩, hbd, hwn, hen⟩, hp17, hp5⟩ := iT_at hI c.1.1
    have hE30 := hZ.2.2.1
    have ht80 := hZ.1
    have hzr := zpr_r (hd := h 0 13) (by have := hG.2.2; omega) x.toNat (h (xAt h p) 13) 0 (by omega) (by omega)
    have a := zF.of_eq (n := n) (r' := some (0, h (xAt h p) 12 + x)) (h1' := pM h (xAt h p) (h (xAt h p) 12 + x) (zpr (h 0 13) x.toNat (h (xAt h p) 13) 0).1 (zpr (h 0 13) x.toNat (h (xAt h p) 13) 0).2) (congrArg (fun z => some ((0, z) : zV)) (if_pos c)) rfl rfl (if_pos c) (c_xprt (d := 68) hS hR hTb hp_ hx_ hG.2.2 hpb)
    have eL : ∀ x' y, x' < 80 → (pM h (xAt h p) (h (xAt h p) 12 + x) (zpr (h 0 13) x.toNat (h (xAt h p) 13) 0).1 (zpr (h 0 13) x.toNat (h (xAt h p) 13) 0).2) x' y = h x' y := fun x' y hx => by unfold pM; rw [if_neg (by omega), if_neg (by omega), if_neg (by omega)]
    have c1 : zChL [] [] h (pM h (xAt h p) (h (xAt h p) 12 + x) (zpr (h 0 13) x.toNat (h (xAt h p) 13) 0).1 (zpr (h 0 13) x.toNat (h (xAt h p) 13) 0).2) := fun x' y hx _ _ => eL x' y hx
    have hR1 : zRf (pM h (xAt h p) (h (xAt h p) 12 + x) (zpr (h 0 13) x.toNat (h (xAt h p) 13) 0).1 (zpr (h 0 13) x.toNat (h (xAt h p) 13) 0).2) := zRf_c c1 (by decide) hR
    have hB1 : mB (pM h (xAt h p) (h (xAt h p) 12 + x) (zpr (h 0 13) x.toNat (h (xAt h p) 13) 0).1 (zpr (h 0 13) x.toNat (h (xAt h p) 13) 0).2) := mB_c c1 (by decide) hB
    have hcm : jS (pM h (xAt h p) (h (xAt h p) 12 + x) (zpr (h 0 13) x.toNat (h (xAt h p) 13) 0).1 (zpr (h 0 13) x.toNat (h (xAt h p) 13) 0).2) p ∧ (1 ≤ x ∧ x ≤ 5000) ∧ (pM h (xAt h p) (h (xAt h p) 12 + x) (zpr (h 0 13) x.toNat (h (xAt h p) 13) 0).1 (zpr (h 0 13) x.toNat (h (xAt h p) 13) 0).2) 59 p + x ≤ 60000 := by unfold jS; rw [eL 38 17 (by decide), eL 58 p (by decide), eL 59 p (by decide)]; omega
    have b := zF.of_eq (n := n) (r' := some (0, h (xAt h p) 12 + x)) (h1' := jPq (pM h (xAt h p) (h (xAt h p) 12 + x) (zpr (h 0 13) x.toNat (h (xAt h p) 13) 0).1 (zpr (h 0 13) x.toNat (h (xAt h p) 13) 0).2) p (h (xAt h p) 12 + x) (zpr (h 0 13) x.toNat (h (xAt h p) 13) 0).1 (zpr (h 0 13) x.toNat (h (xAt h p) 13) 0).2 0) (congrArg (fun z => some ((0, z) : zV)) ((if_pos hcm).trans (by rw [eL 59 p (by decide), e59]))) rfl rfl ((if_pos hcm).trans (by rw [eL 59 p (by decide), e59, eL 38 33 (by decide), hG.2.1, eL 60 p (by decide), e60])) (c_jpr (d := 67) hS hR1 hB1 hp_ hx_ (by rw [eL 38 33 (by decide), hG.2.1]; exact hG.2.2) (fun y y0 y1 => by rw [eL 61 y (by decide)]; have := hW.1 y y0 y1; omega) (fun u u0 u1 => by rw [eL 59 u (by decide), eL 60 u (by decide)]; rw [eL 38 17 (by decide)] at u1; exact hcp u u0 u1))
    have c2 : zChL [59, 60, 61] [] (pM h (xAt h p) (h (xAt h p) 12 + x) (zpr (h 0 13) x.toNat (h (xAt h p) 13) 0).1 (zpr (h 0 13) x.toNat (h (xAt h p) 13) 0).2) (jPq (pM h (xAt h p) (h (xAt h p) 12 + x) (zpr (h 0 13) x.toNat (h (xAt h p) 13) 0).1 (zpr (h 0 13) x.toNat (h (xAt h p) 13) 0).2) p (h (xAt h p) 12 + x) (zpr (h 0 13) x.toNat (h (xAt h p) 13) 0).1 (zpr (h 0 13) x.toNat (h (xAt h p) 13) 0).2 0) := fun x' y _ hx _ => congrFun (jPq_n ⟨fun z => hx (by rw [z]; decide), fun z => hx (by rw [z]; decide), fun z => hx (by rw [z]; decide)⟩) y
    have cc := c1.trans c2
    have hlr : ∀ x', x' < 80 → x' ≠ 59 → x' ≠ 60 → x' ≠ 61 → (jPq (pM h (xAt h p) (h (xAt h p) 12 + x) (zpr (h 0 13) x.toNat (h (xAt h p) 13) 0).1 (zpr (h 0 13) x.toNat (h (xAt h p) 13) 0).2) p (h (xAt h p) 12 + x) (zpr (h 0 13) x.toNat (h (xAt h p) 13) 0).1 (zpr (h 0 13) x.toNat (h (xAt h p) 13) 0).2 0) x' = h x' := fun x' z1 z2 z3 z4 => by rw [jPq_n ⟨z2, z3, z4⟩]; exact funext fun y => eL x' y z1
    have hhi : ∀ x' y, 80 ≤ x' → (jPq (pM h (xAt h p) (h (xAt h p) 12 + x) (zpr (h 0 13) x.toNat (h (xAt h p) 13) 0).1 (zpr (h 0 13) x.toNat (h (xAt h p) 13) 0).2) p (h (xAt h p) 12 + x) (zpr (h 0 13) x.toNat (h (xAt h p) 13) 0).1 (zpr (h 0 13) x.toNat (h (xAt h p) 13) 0).2 0) x' y = (pM h (xAt h p) (h (xAt h p) 12 + x) (zpr (h 0 13) x.toNat (h (xAt h p) 13) 0).1 (zpr (h 0 13) x.toNat (h (xAt h p) 13) 0).2) x' y := fun x' y z1 => congrFun (jPq_n (by omega)) y
    have hx9 : ∀ x' : Int, 80 ≤ x' → (∀ k, 0 ≤ k → k ≤ 10 → x' ≠ xAt h p + k) → (jPq (pM h (xAt h p) (h (xAt h p) 12 + x) (zpr (h 0 13) x.toNat (h (xAt h p) 13) 0).1 (zpr (h 0 13) x.toNat (h (xAt h p) 13) 0).2) p (h (xAt h p) 12 + x) (zpr (h 0 13) x.toNat (h (xAt h p) 13) 0).1 (zpr (h 0 13) x.toNat (h (xAt h p) 13) 0).2 0) x' = h x' := fun x' z1 z2 => funext fun y => by
      rw [hhi x' y z1]
      have q0 := z2 0 (by omega) (by omega)
      have q9 := z2 9 (by omega) (by omega)
      unfold pM; rw [if_neg (by omega), if_neg (by omega), if_neg (by omega)]
    have hb1 : ∀ j, 1 ≤ j → j ≤ 10 → j ≠ 9 → (jPq (pM h (xAt h p) (h (xAt h p) 12 + x) (zpr (h 0 13) x.toNat (h (xAt h p) 13) 0).1 (zpr (h 0 13) x.toNat (h (xAt h p) 13) 0).2) p (h (xAt h p) 12 + x) (zpr (h 0 13) x.toNat (h (xAt h p) 13) 0).1 (zpr (h 0 13) x.toNat (h (xAt h p) 13) 0).2 0) (xAt h p + j) = h (xAt h p + j) := fun j z1 z2 z3 => funext fun y => by
      rw [hhi _ y (by omega)]
      unfold pM; rw [if_neg (by omega), if_neg (by omega), if_neg (by omega)]
    have hb0 : ∀ j, j ≠ 12 → j ≠ 13 → (jPq (pM h (xAt h p) (h (xAt h p) 12 + x) (zpr (h 0 13) x.toNat (h (xAt h p) 13) 0).1 (zpr (h 0 13) x.toNat (h (xAt h p) 13) 0).2) p (h (xAt h p) 12 + x) (zpr (h 0 13) x.toNat (h (xAt h p) 13) 0).1 (zpr (h 0 13) x.toNat (h (xAt h p) 13) 0).2 0) (xAt h p) j = h (xAt h p) j := fun j z1 z2 => by
      rw [hhi _ j (by omega)]
      unfold pM; rw [if_neg (by omega), if_neg (by omega), if_neg (by omega)]
    have hb12 : (jPq (pM h (xAt h p) (h (xAt h p) 12 + x) (zpr (h 0 13) x.toNat (h (xAt h p) 13) 0).1 (zpr (h 0 13) x.toNat (h (xAt h p) 13) 0).2) p (h (xAt h p) 12 + x) (zpr (h 0 13) x.toNat (h (xAt h p) 13) 0).1 (zpr (h 0 13) x.toNat (h (xAt h p) 13) 0).2 0) (xAt h p) 12 = h (xAt h p) 12 + x := by rw [hhi _ _ (by omega)]; unfold pM; rw [if_pos ⟨rfl, rfl⟩]
    have hb13 : (jPq (pM h (xAt h p) (h (xAt h p) 12 + x) (zpr (h 0 13) x.toNat (h (xAt h p) 13) 0).1 (zpr (h 0 13) x.toNat (h (xAt h p) 13) 0).2) p (h (xAt h p) 12 + x) (zpr (h 0 13) x.toNat (h (xAt h p) 13) 0).1 (zpr (h 0 13) x.toNat (h (xAt h p) 13) 0).2 0) (xAt h p) 13 = (zpr (h 0 13) x.toNat (h (xAt h p) 13) 0).1 := by rw [hhi _ _ (by omega)]; unfold pM; rw [if_neg (by omega), if_pos ⟨rfl, rfl⟩]
    have hb9 : ∀ j, 0 ≤ j → j < 30 → (jPq (pM h (xAt h p) (h (xAt h p) 12 + x) (zpr (h 0 13) x.toNat (h (xAt h p) 13) 0).1 (zpr (h 0 13) x.toNat (h (xAt h p) 13) 0).2) p (h (xAt h p) 12 + x) (zpr (h 0 13) x.toNat (h (xAt h p) 13) 0).1 (zpr (h 0 13) x.toNat (h (xAt h p) 13) 0).2 0) (xAt h p + 9) j = h (xAt h p + 9) j + (zpr (h 0 13) x.toNat (h (xAt h p) 13) 0).2 := fun j j0 j1 => by rw [hhi _ _ (by omega)]; unfold pM; rw [if_neg (by omega), if_neg (by omega), if_pos ⟨rfl, j0, j1⟩]
    have h59 : ∀ y, (jPq (pM h (xAt h p) (h (xAt h p) 12 + x) (zpr (h 0 13) x.toNat (h (xAt h p) 13) 0).1 (zpr (h 0 13) x.toNat (h (xAt h p) 13) 0).2) p (h (xAt h p) 12 + x) (zpr (h 0 13) x.toNat (h (xAt h p) 13) 0).1 (zpr (h 0 13) x.toNat (h (xAt h p) 13) 0).2 0) 59 y = if y = p then h (xAt h p) 12 + x else h 59 y := fun y => by
      unfold jPq
      by_cases z : y = p
      · rw [if_pos ⟨rfl, z⟩, if_pos z]
      · rw [if_neg (fun w => z w.2), if_neg (by omega), if_neg (by omega), if_neg z]; exact eL 59 y (by decide)
    have h60 : ∀ y, (jPq (pM h (xAt h p) (h (xAt h p) 12 + x) (zpr (h 0 13) x.toNat (h (xAt h p) 13) 0).1 (zpr (h 0 13) x.toNat (h (xAt h p) 13) 0).2) p (h (xAt h p) 12 + x) (zpr (h 0 13) x.toNat (h (xAt h p) 13) 0).1 (zpr (h 0 13) x.toNat (h (xAt h p) 13) 0).2 0) 60 y = if y = p then (zpr (h 0 13) x.toNat (h (xAt h p) 13) 0).1 else h 60 y := fun y => by
      unfold jPq
      rw [if_neg (by omega)]
      by_cases z : y = p
      · rw [if_pos ⟨rfl, z⟩, if_pos z]
      · rw [if_neg (fun w => z w.2), if_neg (by omega), if_neg z]; exact eL 60 y (by decide)
    have h61 : ∀ y, (jPq (pM h (xAt h p) (h (xAt h p) 12 + x) (zpr (h 0 13) x.toNat (h (xAt h p) 13) 0).1 (zpr (h 0 13) x.toNat (h (xAt h p) 13) 0).2) p (h (xAt h p) 12 + x) (zpr (h 0 13) x.toNat (h (xAt h p) 13) 0).1 (zpr (h 0 13) x.toNat (h (xAt h p) 13) 0).2 0) 61 y = if 30 * p ≤ y ∧ y < 30 * p + h (xAt h p) 0 then h 61 y + (zpr (h 0 13) x.toNat (h (xAt h p) 13) 0).2 else h 61 y := fun y => by
      unfold jPq
      rw [if_neg (by omega), if_neg (by omega), eL 46 p (by decide), e46]
      by_cases z : 30 * p ≤ y ∧ y < 30 * p + h (xAt h p) 0
      · rw [if_pos ⟨rfl, z⟩, if_pos z, if_neg (by omega), eL 61 y (by decide)]
      · rw [if_neg (fun w => z w.2), if_neg z]; exact eL 61 y (by decide)
    have hG13 := hG.2.2
    have hnew : iTb sh (jPq (pM h (xAt h p) (h (xAt h p) 12 + x) (zpr (h 0 13) x.toNat (h (xAt h p) 13) 0).1 (zpr (h 0 13) x.toNat (h (xAt h p) 13) 0).2) p (h (xAt h p) 12 + x) (zpr (h 0 13) x.toNat (h (xAt h p) 13) 0).1 (zpr (h 0 13) x.toNat (h (xAt h p) 13) 0).2 0) p (xAt h p) := by
      refine ⟨⟨hZ.1, hZ.2.1, by rw [hb0 0 (by decide) (by decide)]; exact hZ.2.2.1, fun j j0 j1 => ⟨(hZ.2.2.2 j j0 j1).1, by rw [hb0 j (by omega) (by omega)]; exact (hZ.2.2.2 j j0 j1).2⟩⟩, ⟨by rw [hlr 46 (by decide) (by decide) (by decide) (by decide), hb0 0 (by decide) (by decide)]; exact e46, by rw [hlr 58 (by decide) (by decide) (by decide) (by decide), hb0 11 (by decide) (by decide)]; exact e58, by rw [h59, if_pos rfl, hb12], by rw [h60, if_pos rfl, hb13]⟩, by rw [hb12, hb13]; omega, fun j j0 j1 => by rw [hb9 j j0 j1, hb12]; have := hwn j j0 j1; omega, fun i i0 i1 => ?_⟩
      rw [hb0 0 (by decide) (by decide)] at i1
      have k := hen i i0 i1
      unfold iEn at *
      rw [hb1 1 (by omega) (by omega) (by omega), hb1 2 (by omega) (by omega) (by omega), hb1 3 (by omega) (by omega) (by omega), hb1 4 (by omega) (by omega) (by omega), hb1 5 (by omega) (by omega) (by omega), hb1 6 (by omega) (by omega) (by omega), hb1 7 (by omega) (by omega) (by omega), hb1 8 (by omega) (by omega) (by omega), hb1 10 (by omega) (by omega) (by omega), hb9 i i0 (by omega), h61, if_pos (by omega), hlr 47 (by decide) (by decide) (by decide) (by decide), hlr 51 (by decide) (by decide) (by decide) (by decide), hlr 52 (by decide) (by decide) (by decide) (by decide), hlr 53 (by decide) (by decide) (by decide) (by decide), hlr 54 (by decide) (by decide) (by decide) (by decide), hlr 55 (by decide) (by decide) (by decide) (by decide), hlr 56 (by decide) (by decide) (by decide) (by decide), hlr 57 (by decide) (by decide) (by decide) (by decide), hlr 66 (by decide) (by decide) (by decide) (by decide)]
      exact ⟨⟨k.1.1, k.1.2.1, k.1.2.2.1, k.1.2.2.2.1, by rw [k.1.2.2.2.2.1], k.1.2.2.2.2.2⟩, k.2⟩
    have hTn : iT sh (jPq (pM h (xAt h p) (h (xAt h p) 12 + x) (zpr (h 0 13) x.toNat (h (xAt h p) 13) 0).1 (zpr (h 0 13) x.toNat (h (xAt h p) 13) 0).2) p (h (xAt h p) 12 + x) (zpr (h 0 13) x.toNat (h (xAt h p) 13) 0).1 (zpr (h 0 13) x.toNat (h (xAt h p) 13) 0).2 0) := iT_upd hT ea c.1.1 (hlr 9 (by decide) (by decide) (by decide) (by decide)) (congrFun (hlr 0 (by decide) (by decide) (by decide) (by decide)) 11) (congrFun (hlr 38 (by decide) (by decide) (by decide) (by decide)) 17) hx9 (fun r hr y hy => by
      by_cases z3 : r = 61
      · rw [z3, h61, if_neg (by omega)]
      · rw [hlr r ((by decide : ∀ r ∈ ([47, 51, 52, 53, 54, 55, 56, 57, 61, 66] : List Int), r < 80) r hr) ((by decide : ∀ r ∈ ([47, 51, 52, 53, 54, 55, 56, 57, 61, 66] : List Int), r ≠ 59) r hr) ((by decide : ∀ r ∈ ([47, 51, 52, 53, 54, 55, 56, 57, 61, 66] : List Int), r ≠ 60) r hr) z3]) (fun r hr y hy => by
      by_cases z3 : r = 59
      · rw [z3, h59, if_neg hy]
      · by_cases z4 : r = 60
        · rw [z4, h60, if_neg hy]
        · rw [hlr r ((by decide : ∀ r ∈ ([46, 58, 59, 60] : List Int), r < 80) r hr) z3 z4 ((by decide : ∀ r ∈ ([46, 58, 59, 60] : List Int), r ≠ 61) r hr)]) hnew
    have hWn : iW (jPq (pM h (xAt h p) (h (xAt h p) 12 + x) (zpr (h 0 13) x.toNat (h (xAt h p) 13) 0).1 (zpr (h 0 13) x.toNat (h (xAt h p) 13) 0).2) p (h (xAt h p) 12 + x) (zpr (h 0 13) x.toNat (h (xAt h p) 13) 0).1 (zpr (h 0 13) x.toNat (h (xAt h p) 13) 0).2 0) := ⟨fun y y0 y1 => by
      rw [h61]
      have q := hW.1 y y0 y1
      split
      · have k := (hen (y - 30 * p) (by omega) (by omega)).1.2.2.2.2.1
        have k2 := hwn (y - 30 * p) (by omega) (by omega)
        rw [show 30 * p + (y - 30 * p) = y by omega] at k
        omega
      · exact q, fun u u0 u1 => by
      rw [hlr 38 (by decide) (by decide) (by decide) (by decide)] at u0
      have k := hW.2 u u0 u1
      rw [h59, if_neg (by omega), h60, if_neg (by omega), hlr 58 (by decide) (by decide) (by decide) (by decide)]
      exact ⟨k.1, k.2.1, k.2.2.1, fun i i0 i1 => by rw [h61, if_neg (by omega)]; exact k.2.2.2 i i0 i1⟩⟩
    exact oOK.FF a b rfl c1 c2 (by decide) (by decide) ⟨⟨hS, zRf_c cc (by decide) hR, hn, by omega⟩, mB_c cc (by decide) hB, mTx_c cc (by decide) hX, iS_tb cc (by decide) hZ hx9 hSh, hTn, vHab_c cc (by decide) hV, iE_q (iE_c cc (by decide) hE), vRow_c cc (by decide) hRw, iN_c cc (by decide) hN, iU_c cc (by decide) hU, iG_c cc (by decide) hG, (by rw [cc.r (DR := [75]) (DS := []) (by decide) (x := 75) (by decide)]; exact hL), vTok_c cc (by decide) hTk, hWn⟩
  · have a := zF.of_eq (n := n) (r' := some (0, -1)) (h1' := h) (congrArg (fun z => some ((0, z) : zV)) (if_neg c)) rfl rfl (if_neg c) (c_xprt (d := 68) hS hR hTb hp_ hx_ hG.2.2 hpb)
    have hcm : ¬ (jS h p ∧ (1 ≤ x ∧ x ≤ 5000) ∧ h 59 p + x ≤ 60000) := fun z => c (by
      have hp0 : 0 ≤ p ∧ p < h 0 11 := by omega
      obtain ⟨ea, ⟨hZ, ⟨e46, e58, e59, e60⟩, hbd, hwn, hen⟩, hp17, hp5⟩ := iT_at hI hp0
      exact ⟨⟨hp0, by omega⟩, z.2.1, by omega⟩)
    have eL : ∀ x' y, x' < 80 → h x' y = h x' y := fun _ _ _ => rfl
    have b := zF.of_eq (n := n) (r' := some (0, -1)) (h1' := h) (congrArg (fun z => some ((0, z) : zV)) (if_neg hcm)) rfl rfl (if_neg hcm) (c_jpr (d := 67) hS hR hB hp_ hx_ (by rw [hG.2.1]; exact hG.2.2) (fun y y0 y1 => by have := hW.1 y y0 y1; omega) hcp)
    exact oOK.FF a b rfl zChL.refl zChL.refl (by decide) (by decide) (hI.keep zCh.refl (by decide) (by decide) hR (by decide) hL)

