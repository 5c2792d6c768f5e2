theorem tab_sh {sh : zSh} {h : zMem} {b a k : Int} (hZ : zTab sh h b) (hk : 0 ≤ k ∧ k ≤ 10) (ha : sh a = (7, 1)) (hN : ∃ N : Nat, sh (a + 1) = (100, N) ∧ N ≤ 600) : a ≠ b + k ∧ a + 1 ≠ b + k := by
  have h1 : ∀ k, 0 ≤ k → k ≤ 10 → a ≠ b + k := fun k k0 k1 e => by
    by_cases q : k = 0
    · rw [q, Int.add_zero] at e; rw [e, hZ.2.1] at ha; exact absurd ha (by decide)
    · rw [e, (hZ.2.2.2 k (by omega) k1).1] at ha; exact absurd ha (by decide)
  refine ⟨h1 k hk.1 hk.2, fun e => ?_⟩
  by_cases q : k = 0
  · obtain ⟨N, hN, _⟩ := hN
    rw [e, q, Int.add_zero, hZ.2.1] at hN
    have := congrArg Prod.fst hN
    exact absurd (show (8 : Nat) = 100 from this) (by decide)
  · exact h1 (k - 1) (by omega) (by omega) (by omega)
theorem tab_tab {sh : zSh} {h : zMem} {b c j k : Int} (hZ : zTab sh h b) (hY : zTab sh h c) (hn : c ≠ b) (hj : 0 ≤ j ∧ j ≤ 10) (hk : 0 ≤ k ∧ k ≤ 10) : c + j ≠ b + k := fun e => by
  by_cases q : k = j
  · exact hn (by omega)
  · by_cases q2 : j < k
    · have h1 := (hZ.2.2.2 (k - j) (by omega) (by omega)).1
      rw [show b + (k - j) = c by omega, hY.2.1] at h1
      exact absurd h1 (by decide)
    · have h1 := (hY.2.2.2 (j - k) (by omega) (by omega)).1
      rw [show c + (j - k) = b by omega, hZ.2.1] at h1
      exact absurd h1 (by decide)
theorem iEn_same {h h' : zMem} {b e i : Int} (hb : ∀ k, 1 ≤ k → k ≤ 10 → h' (b + k) i = h (b + k) i) (hl : ∀ r ∈ ([47, 51, 52, 53, 54, 55, 56, 57, 61, 66] : List Int), h' r e = h r e) (k : iEn h b e i) : iEn h' b e i := by
  unfold iEn at *
  rw [hb 1 (by omega) (by omega), hb 2 (by omega) (by omega), hb 3 (by omega) (by omega), hb 4 (by omega) (by omega), hb 5 (by omega) (by omega), hb 6 (by omega) (by omega), hb 7 (by omega) (by omega), hb 8 (by omega) (by omega), hb 9 (by omega) (by omega), hb 10 (by omega) (by omega), hl 47 (by decide), hl 51 (by decide), hl 52 (by decide), hl 53 (by decide), hl 54 (by decide), hl 55 (by decide), hl 56 (by decide), hl 57 (by decide), hl 61 (by decide), hl 66 (by decide)]
  exact k
/-- one table has changed -/
theorem iT_upd {sh : zSh} {h h' : zMem} {p b : Int} (k : iT sh h) (eb : b = h 9 p) (hp : 0 ≤ p ∧ p < h 0 11) (e9 : h' 9 = h 9) (e11 : h' 0 11 = h 0 11) (e17 : h' 38 17 = h 38 17) (hx : ∀ x : Int, 80 ≤ x → (∀ k, 0 ≤ k → k ≤ 10 → x ≠ b + k) → h' x = h x) (hm : ∀ r ∈ ([47, 51, 52, 53, 54, 55, 56, 57, 61, 66] : List Int), ∀ y, ¬ (30 * p ≤ y ∧ y < 30 * p + 30) → h' r y = h r y) (hm2 : ∀ r ∈ ([46, 58, 59, 60] : List Int), ∀ y, y ≠ p → h' r y = h r y) (new : iTb sh h' p b) : iT sh h' := by
  subst eb
  obtain ⟨k1, k2, k3⟩ := k
  refine ⟨by rw [e17, e11]; exact k1, by rw [e11, e9]; exact k2, fun t a b => ?_⟩
  rw [e11] at b
  rw [e9]
  by_cases q : t = p
  · rw [q]; exact new
  · have hY := k3 t a b
    have hZ := (k3 p hp.1 hp.2).1
    have hne : h 9 t ≠ h 9 p := fun z => q (k2 t p a b hp.1 hp.2 z)
    have hr : ∀ k, 0 ≤ k → k ≤ 10 → h' (h 9 t + k) = h (h 9 t + k) := fun k a b => hx _ (by have := hY.1.1; omega) (fun j c d => tab_tab hZ hY.1 hne ⟨a, b⟩ ⟨c, d⟩)
    have e0 : h' (h 9 t) = h (h 9 t) := by have := hr 0 (by omega) (by omega); rw [Int.add_zero] at this; exact this
    have m := fun r hr => hm2 r hr t q
    obtain ⟨y1, y2, y3, y4, y5⟩ := hY
    refine ⟨⟨y1.1, y1.2.1, by rw [e0]; exact y1.2.2.1, by rw [e0]; exact y1.2.2.2⟩, by rw [m 46 (by decide), m 58 (by decide), m 59 (by decide), m 60 (by decide), e0]; exact y2, by rw [e0]; exact y3, by rw [hr 9 (by omega) (by omega), e0]; exact y4, fun i c d => ?_⟩
    rw [e0] at d
    have hE := y1.2.2.1
    exact iEn_same (fun k z1 z2 => by rw [hr k (by omega) z2]) (fun r z => hm r z _ (by omega)) (y5 i c d)
theorem iS_tb {sh : zSh} {h h' : zMem} {b : Int} {R : List Int} {S : List (Int × Int)} (c : zChL R S h h') (d : zdis R S [8, 43, 44, 45] [(0, 10), (38, 12)]) (hZ : zTab sh h b) (hx : ∀ x : Int, 80 ≤ x → (∀ k, 0 ≤ k → k ≤ 10 → x ≠ b + k) → h' x = h x) (k : iS sh h) : iS sh h' := iS_c c d (fun a h1 h2 h3 => ⟨hx a h1 (fun k z1 z2 => (tab_sh hZ ⟨z1, z2⟩ h2 h3).1), hx (a + 1) (by omega) (fun k z1 z2 => (tab_sh hZ ⟨z1, z2⟩ h2 h3).2)⟩) k

set_option maxRecDepth 100000 in
set_option maxHeartbeats 4000000 in
theorem op_mend {q : Int} {n : Nat} {sh : zSh} {h : zMem} {p e : Int} (hI : INV q n sh h) (hq6 : q ≤ 520) (hp_ : zi32 p) (he_ : zi32 e) : oOK q n sh h (fun Q => zM yX10_mend cX10_mend 4 (some .boolean) 70 0 0 [(2, 0), (0, p), (0, e)] n sh h Q) (fun n1 sh1 h1 Q => zM yX11_mend cX11_mend 3 (some .boolean) 70 0 0 [(2, 38), (0, p), (0, e)] n1 sh1 h1 Q) := by
  obtain ⟨⟨hS, hR, hn, hq⟩, hB, hX, hSh, hT, hV, hE, hRw, hN, hU, hG, hL, hTk, hW⟩ := id hI
  have hTb := hI.xTb
  by_cases c : ((0 ≤ p ∧ p < h 0 11) ∧ h (xAt h p) 11 ≠ 0) ∧ tAg h (xAt h p) e
  · obtain ⟨ea, ⟨hZ, ⟨e46, e58, e59, e60⟩, hbd, hwn, hen⟩, hp17, hp5⟩ := iT_at hI c.1.1
    obtain ⟨t, htd⟩ : ∃ t, t = xAt h p := ⟨_, rfl⟩
    have ht80 := hZ.1
    have hE30 := hZ.2.2.1
    have he30 : 0 ≤ e ∧ e < h (xAt h p) 0 := c.2.1
    have a := zF.of_eq (n := n) (r' := some (0, 1)) (h1' := zup h (xAt h p + 9) e 0) (congrArg (fun z => some ((0, z) : zV)) (zb_t c)) rfl rfl (if_pos c) (c_xmend (d := 68) hS hR hTb hp_ he_)
    have c1 : zChL [] [] h (zup h (xAt h p + 9) e 0) := zChL.hup (by omega)
    have eL : ∀ r_ y_, r_ < 80 → (zup h (xAt h p + 9) e 0) r_ y_ = h r_ y_ := fun r_ y_ hx => zupA (by omega)
    have hR1 : zRf (zup h (xAt h p + 9) e 0) := zRf_c c1 (by decide) hR
    have hB1 : mB (zup h (xAt h p + 9) e 0) := mB_c c1 (by decide) hB
    have b := zF.of_eq (n := n) (r' := some (0, 1)) (h1' := zup (zup h (xAt h p + 9) e 0) 61 (30 * p + e) 0) (congrArg (fun z => some ((0, z) : zV)) (zb_t (by unfold jG; rw [eL 38 17 (by decide), eL 58 p (by decide), eL 46 p (by decide), eL 57 (30 * p + e) (by decide)]; have k := (hen e he30.1 he30.2).1.2.2.2.1; omega))) rfl rfl (if_pos (by unfold jG; rw [eL 38 17 (by decide), eL 58 p (by decide), eL 46 p (by decide), eL 57 (30 * p + e) (by decide)]; have k := (hen e he30.1 he30.2).1.2.2.2.1; omega)) (c_jmend (d := 66) hS hR1 hB1 hp_ he_)
    have c2 : zChL [61] [] (zup h (xAt h p + 9) e 0) (zup (zup h (xAt h p + 9) e 0) 61 (30 * p + e) 0) := zCh.upA.lo
    have cc := c1.trans c2
    have hx9 : ∀ r_ : Int, 80 ≤ r_ → (∀ k, 0 ≤ k → k ≤ 10 → r_ ≠ xAt h p + k) → (zup (zup h (xAt h p + 9) e 0) 61 (30 * p + e) 0) r_ = h r_ := fun r_ h1 h2 => by rw [zup_ne (by omega), zup_ne (h2 9 (by omega) (by omega))]
    have hb1 : ∀ j, 0 ≤ j → j ≤ 10 → j ≠ 9 → (zup (zup h (xAt h p + 9) e 0) 61 (30 * p + e) 0) (xAt h p + j) = h (xAt h p + j) := fun j h1 h2 h3 => by rw [zup_ne (by omega), zup_ne (by omega)]
    have hb0 : (zup (zup h (xAt h p + 9) e 0) 61 (30 * p + e) 0) (xAt h p) = h (xAt h p) := by rw [zup_ne (by omega), zup_ne (by omega)]
    have hlr : ∀ r_, r_ < 80 → r_ ≠ 61 → (zup (zup h (xAt h p + 9) e 0) 61 (30 * p + e) 0) r_ = h r_ := fun r_ h1 h2 => by rw [zup_ne h2, zup_ne (by omega)]
    have hbk : ∀ y, (zup (zup h (xAt h p + 9) e 0) 61 (30 * p + e) 0) (xAt h p + 9) y = if y = e then 0 else h (xAt h p + 9) y := fun y => by
      rw [zupA (by omega)]
      by_cases z : y = e
      · rw [if_pos z, z, zupE]
      · rw [if_neg z, zupJ z]
    have hrk : ∀ y, (zup (zup h (xAt h p + 9) e 0) 61 (30 * p + e) 0) 61 y = if y = 30 * p + e then 0 else h 61 y := fun y => by
      by_cases z : y = 30 * p + e
      · rw [if_pos z, z, zupE]
      · rw [if_neg z, zupJ z, zupA (by omega)]
    have hnew : iTb sh (zup (zup h (xAt h p + 9) e 0) 61 (30 * p + e) 0) p (xAt h p) := by
      refine ⟨⟨hZ.1, hZ.2.1, by rw [hb0]; exact hZ.2.2.1, by rw [hb0]; exact hZ.2.2.2⟩, by rw [hlr 46 (by decide) (by decide), hlr 58 (by decide) (by decide), hlr 59 (by decide) (by decide), hlr 60 (by decide) (by decide), hb0]; exact ⟨e46, e58, e59, e60⟩, by rw [hb0]; exact hbd, fun j j0 j1 => by rw [hbk, hb0]; have := hwn j j0 j1; split <;> omega, fun i i0 i1 => ?_⟩
      rw [hb0] at i1
      by_cases z : i = e
      · subst z
        have k := hen i i0 i1
        unfold iEn at *
        rw [hb1 1 (by omega) (by omega) (by omega), hb1 2 (by omega) (by omega) (by omega), hb1 3 (by omega) (by omega) (by omega), hb1 4 (by omega) (by omega) (by omega), hb1 5 (by omega) (by omega) (by omega), hb1 6 (by omega) (by omega) (by omega), hb1 7 (by omega) (by omega) (by omega), hb1 8 (by omega) (by omega) (by omega), hb1 10 (by omega) (by omega) (by omega), hbk, if_pos rfl, hrk, if_pos rfl, hlr 47 (by decide) (by decide), hlr 51 (by decide) (by decide), hlr 52 (by decide) (by decide), hlr 53 (by decide) (by decide), hlr 54 (by decide) (by decide), hlr 55 (by decide) (by decide), hlr 56 (by decide) (by decide), hlr 57 (by decide) (by decide), hlr 66 (by decide) (by decide)]
        exact ⟨⟨k.1.1, k.1.2.1, k.1.2.2.1, k.1.2.2.2.1, rfl, k.1.2.2.2.2.2⟩, k.2⟩
      · refine iEn_same (fun k z1 z2 => ?_) (fun r hr => ?_) (hen i i0 i1)
        · by_cases z3 : k = 9
          · rw [z3, hbk, if_neg z]
          · rw [hb1 k (by omega) z2 z3]
        · by_cases z3 : r = 61
          · rw [z3, hrk, if_neg (by omega)]
          · rw [hlr r ((by decide : ∀ r ∈ ([47, 51, 52, 53, 54, 55, 56, 57, 61, 66] : List Int), r < 80) r hr) z3]
    have hTn : iT sh (zup (zup h (xAt h p + 9) e 0) 61 (30 * p + e) 0) := iT_upd hT ea c.1.1 (hlr 9 (by decide) (by decide)) (congrFun (hlr 0 (by decide) (by decide)) 11) (congrFun (hlr 38 (by decide) (by decide)) 17) hx9 (fun r hr y hy => by
      by_cases z3 : r = 61
      · rw [z3, hrk, if_neg (by omega)]
      · rw [hlr r ((by decide : ∀ r ∈ ([47, 51, 52, 53, 54, 55, 56, 57, 61, 66] : List Int), r < 80) r hr) z3]) (fun r hr y hy => by
      rw [hlr r ((by decide : ∀ r ∈ ([46, 58, 59, 60] : List Int), r < 80) r hr) ((by decide : ∀ r ∈ ([46, 58, 59, 60] : List Int), r ≠ 61) r hr)]) hnew
    exact oOK.FF a b rfl c1 c2 (by decide) (by decide) ⟨⟨hS, zRf_c cc (by decide) hR, hn, by omega⟩, mB_c cc (by decide) hB, mTx_c cc (by decide) hX, iS_tb cc (by decide) hZ hx9 hSh, hTn, vHab_c cc (by decide) hV, iE_q (iE_c cc (by decide) hE), vRow_c cc (by decide) hRw, iN_c cc (by decide) hN, iU_c cc (by decide) hU, iG_c cc (by decide) hG, (by rw [cc.r (DR := [75]) (DS := []) (by decide) (x := 75) (by decide)]; exact hL), vTok_c cc (by decide) hTk, ⟨fun y y0 y1 => by rw [hrk]; have := hW.1 y y0 y1; split <;> omega, fun u u0 u1 => by rw [hlr 38 (by decide) (by decide)] at u0; rw [hlr 58 (by decide) (by decide), hlr 59 (by decide) (by decide), hlr 60 (by decide) (by decide)]; have k := hW.2 u u0 u1; exact ⟨k.1, k.2.1, k.2.2.1, fun i i0 i1 => by rw [hrk, if_neg (by omega)]; exact k.2.2.2 i i0 i1⟩⟩⟩
  · have e17 := hT.1
    have kA := zF.of_eq (n := n) (r' := some (0, 0)) (h1' := h) (congrArg (fun z => some ((0, z) : zV)) (zb_f c)) rfl rfl (if_neg c) (c_xmend (d := 68) hS hR hTb hp_ he_)
    have c1 : zCh [] [] h h := zCh.refl
    have hR1 : zRf h := zRf_c c1.lo (by decide) hR
    have hB1 : mB h := mB_c c1.lo (by decide) hB
    have kB := zF.of_eq (n := n) (r' := some (0, 0)) (h1' := h) (congrArg (fun z => some ((0, z) : zV)) (zb_f (fun z => c (by
        have hp0 : 0 ≤ p ∧ p < h 0 11 := by omega
        obtain ⟨ea, ⟨hZ, ⟨e46, e58, e59, e60⟩, hbd, hwn, hen⟩, hp17, hp5⟩ := iT_at hI hp0
        have k := (hen e (by omega) (by omega)).1.2.2.2.1
        exact ⟨⟨hp0, by omega⟩, ⟨by omega, by omega⟩, by omega⟩)))) rfl rfl (if_neg (fun z => c (by
        have hp0 : 0 ≤ p ∧ p < h 0 11 := by omega
        obtain ⟨ea, ⟨hZ, ⟨e46, e58, e59, e60⟩, hbd, hwn, hen⟩, hp17, hp5⟩ := iT_at hI hp0
        have k := (hen e (by omega) (by omega)).1.2.2.2.1
        exact ⟨⟨hp0, by omega⟩, ⟨by omega, by omega⟩, by omega⟩))) (c_jmend (d := 66) hS hR1 hB1 hp_ he_)
    have c2 : zCh [] [] h h := zCh.refl
    have hi := (c1.trans c2).hi (by decide) (by decide)
    have cc := (c1.trans c2).lo
    exact oOK.FF kA kB rfl c1.lo c2.lo (by decide) (by decide) ⟨⟨hS, zRf_c cc (by decide) hR, hn, by omega⟩, mB_c cc (by decide) hB, mTx_c cc (by decide) hX, iS_c cc (by decide) (fun a h1 _ _ => ⟨hi a h1, hi (a + 1) (by omega)⟩) hSh, iT_c cc (by decide) (fun x h1 _ => hi x h1) hT, vHab_c cc (by decide) hV, iE_q (iE_c cc (by decide) hE), vRow_c cc (by decide) hRw, iN_c cc (by decide) hN, iU_c cc (by decide) hU, iG_c cc (by decide) hG, (by rw [cc.r (DR := [75]) (DS := []) (by decide) (x := 75) (by decide)]; exact hL), vTok_c cc (by decide) hTk, iW_c cc (by decide) hW⟩

set_option maxRecDepth 100000 in
set_option maxHeartbeats 4000000 in
theorem op_rival {q : Int} {n : Nat} {sh : zSh} {h : zMem} {p e x : Int} (hI : INV q n sh h) (hq6 : q ≤ 520) (hp_ : zi32 p) (he_ : zi32 e) (hx_ : zi32 x) : oOK q n sh h (fun Q => zM yX10_rival cX10_rival 5 (some .boolean) 70 0 0 [(2, 0), (0, p), (0, e), (0, x)] n sh h Q) (fun n1 sh1 h1 Q => zM yX11_rival cX11_rival 4 (some .boolean) 70 0 0 [(2, 38), (0, p), (0, e), (0, x)] n1 sh1 h1 Q) := by
  obtain ⟨⟨hS, hR, hn, hq⟩, hB, hX, hSh, hT, hV, hE, hRw, hN, hU, hG, hL, hTk, hW⟩ := id hI
  have hTb := hI.xTb
  by_cases c : ((0 ≤ p ∧ p < h 0 11) ∧ h (xAt h p) 11 ≠ 0) ∧ tHas h (xAt h p) e ∧ (x = -2147483648 ∨ (-999999999 ≤ x ∧ x ≤ 999999999))
  · obtain ⟨ea, ⟨hZ, ⟨e46, e58, e59, e60⟩, hbd, hwn, hen⟩, hp17, hp5⟩ := iT_at hI c.1.1
    obtain ⟨t, htd⟩ : ∃ t, t = xAt h p := ⟨_, rfl⟩
    have ht80 := hZ.1
    have hE30 := hZ.2.2.1
    have he30 : 0 ≤ e ∧ e < h (xAt h p) 0 := c.2.1
    have a := zF.of_eq (n := n) (r' := some (0, 1)) (h1' := zup h (xAt h p + 10) e x) (congrArg (fun z => some ((0, z) : zV)) (zb_t c)) rfl rfl (if_pos c) (c_xriv (d := 68) hS hR hTb hp_ he_ hx_)
    have c1 : zChL [] [] h (zup h (xAt h p + 10) e x) := zChL.hup (by omega)
    have eL : ∀ r_ y_, r_ < 80 → (zup h (xAt h p + 10) e x) r_ y_ = h r_ y_ := fun r_ y_ hx => zupA (by omega)
    have hR1 : zRf (zup h (xAt h p + 10) e x) := zRf_c c1 (by decide) hR
    have hB1 : mB (zup h (xAt h p + 10) e x) := mB_c c1 (by decide) hB
    have b := zF.of_eq (n := n) (r' := some (0, 1)) (h1' := zup (zup h (xAt h p + 10) e x) 66 (30 * p + e) x) (congrArg (fun z => some ((0, z) : zV)) (zb_t (by unfold jS jE; rw [eL 38 17 (by decide), eL 58 p (by decide), eL 46 p (by decide)]; omega))) rfl rfl (if_pos (by unfold jS jE; rw [eL 38 17 (by decide), eL 58 p (by decide), eL 46 p (by decide)]; omega)) (c_jriv (d := 67) hS hR1 hB1 hp_ he_ hx_)
    have c2 : zChL [66] [] (zup h (xAt h p + 10) e x) (zup (zup h (xAt h p + 10) e x) 66 (30 * p + e) x) := zCh.upA.lo
    have cc := c1.trans c2
    have hx9 : ∀ r_ : Int, 80 ≤ r_ → (∀ k, 0 ≤ k → k ≤ 10 → r_ ≠ xAt h p + k) → (zup (zup h (xAt h p + 10) e x) 66 (30 * p + e) x) r_ = h r_ := fun r_ h1 h2 => by rw [zup_ne (by omega), zup_ne (h2 10 (by omega) (by omega))]
    have hb1 : ∀ j, 0 ≤ j → j ≤ 10 → j ≠ 10 → (zup (zup h (xAt h p + 10) e x) 66 (30 * p + e) x) (xAt h p + j) = h (xAt h p + j) := fun j h1 h2 h3 => by rw [zup_ne (by omega), zup_ne (by omega)]
    have hb0 : (zup (zup h (xAt h p + 10) e x) 66 (30 * p + e) x) (xAt h p) = h (xAt h p) := by rw [zup_ne (by omega), zup_ne (by omega)]
    have hlr : ∀ r_, r_ < 80 → r_ ≠ 66 → (zup (zup h (xAt h p + 10) e x) 66 (30 * p + e) x) r_ = h r_ := fun r_ h1 h2 => by rw [zup_ne h2, zup_ne (by omega)]
    have hbk : ∀ y, (zup (zup h (xAt h p + 10) e x) 66 (30 * p + e) x) (xAt h p + 10) y = if y = e then x else h (xAt h p + 10) y := fun y => by
      rw [zupA (by omega)]
      by_cases z : y = e
      · rw [if_pos z, z, zupE]
      · rw [if_neg z, zupJ z]
    have hrk : ∀ y, (zup (zup h (xAt h p + 10) e x) 66 (30 * p + e) x) 66 y = if y = 30 * p + e then x else h 66 y := fun y => by
      by_cases z : y = 30 * p + e
      · rw [if_pos z, z, zupE]
      · rw [if_neg z, zupJ z, zupA (by omega)]
    have hnew : iTb sh (zup (zup h (xAt h p + 10) e x) 66 (30 * p + e) x) p (xAt h p) := by
      refine ⟨⟨hZ.1, hZ.2.1, by rw [hb0]; exact hZ.2.2.1, by rw [hb0]; exact hZ.2.2.2⟩, by rw [hlr 46 (by decide) (by decide), hlr 58 (by decide) (by decide), hlr 59 (by decide) (by decide), hlr 60 (by decide) (by decide), hb0]; exact ⟨e46, e58, e59, e60⟩, by rw [hb0]; exact hbd, fun j j0 j1 => by rw [hb1 9 (by omega) (by omega) (by omega), hb0]; exact hwn j j0 j1, fun i i0 i1 => ?_⟩
      rw [hb0] at i1
      by_cases z : i = e
      · subst z
        have k := hen i i0 i1
        unfold iEn at *
        rw [hb1 1 (by omega) (by omega) (by omega), hb1 2 (by omega) (by omega) (by omega), hb1 3 (by omega) (by omega) (by omega), hb1 4 (by omega) (by omega) (by omega), hb1 5 (by omega) (by omega) (by omega), hb1 6 (by omega) (by omega) (by omega), hb1 7 (by omega) (by omega) (by omega), hb1 8 (by omega) (by omega) (by omega), hb1 9 (by omega) (by omega) (by omega), hbk, if_pos rfl, hrk, if_pos rfl, hlr 47 (by decide) (by decide), hlr 51 (by decide) (by decide), hlr 52 (by decide) (by decide), hlr 53 (by decide) (by decide), hlr 54 (by decide) (by decide), hlr 55 (by decide) (by decide), hlr 56 (by decide) (by decide), hlr 57 (by decide) (by decide), hlr 61 (by decide) (by decide)]
        exact ⟨⟨k.1.1, k.1.2.1, k.1.2.2.1, k.1.2.2.2.1, k.1.2.2.2.2.1, rfl⟩, k.2⟩
      · refine iEn_same (fun k z1 z2 => ?_) (fun r hr => ?_) (hen i i0 i1)
        · by_cases z3 : k = 10
          · rw [z3, hbk, if_neg z]
          · rw [hb1 k (by omega) z2 z3]
        · by_cases z3 : r = 66
          · rw [z3, hrk, if_neg (by omega)]
          · rw [hlr r ((by decide : ∀ r ∈ ([47, 51, 52, 53, 54, 55, 56, 57, 61, 66] : List Int), r < 80) r hr) z3]
    have hTn : iT sh (zup (zup h (xAt h p + 10) e x) 66 (30 * p + e) x) := iT_upd hT ea c.1.1 (hlr 9 (by decide) (by decide)) (congrFun (hlr 0 (by decide) (by decide)) 11) (congrFun (hlr 38 (by decide) (by decide)) 17) hx9 (fun r hr y hy => by
      by_cases z3 : r = 66
      · rw [z3, hrk, if_neg (by omega)]
      · rw [hlr r ((by decide : ∀ r ∈ ([47, 51, 52, 53, 54, 55, 56, 57, 61, 66] : List Int), r < 80) r hr) z3]) (fun r hr y hy => by
      rw [hlr r ((by decide : ∀ r ∈ ([46, 58, 59, 60] : List Int), r < 80) r hr) ((by decide : ∀ r ∈ ([46, 58, 59, 60] : List Int), r ≠ 66) r hr)]) hnew
    exact oOK.FF a b rfl c1 c2 (by decide) (by decide) ⟨⟨hS, zRf_c cc (by decide) hR, hn, by omega⟩, mB_c cc (by decide) hB, mTx_c cc (by decide) hX, iS_tb cc (by decide) hZ hx9 hSh, hTn, vHab_c cc (by decide) hV, iE_q (iE_c cc (by decide) hE), vRow_c cc (by decide) hRw, iN_c cc (by decide) hN, iU_c cc (by decide) hU, iG_c cc (by decide) hG, (by rw [cc.r (DR := [75]) (DS := []) (by decide) (x := 75) (by decide)]; exact hL), vTok_c cc (by decide) hTk, iW_c cc (by decide) hW⟩
  · have e17 := hT.1
    have kA := zF.of_eq (n := n) (r' := some (0, 0)) (h1' := h) (congrArg (fun z => some ((0, z) : zV)) (zb_f c)) rfl rfl (if_neg c) (c_xriv (d := 68) hS hR hTb hp_ he_ hx_)
    have c1 : zCh [] [] h h := zCh.refl
    have hR1 : zRf h := zRf_c c1.lo (by decide) hR
    have hB1 : mB h := mB_c c1.lo (by decide) hB
    have kB := zF.of_eq (n := n) (r' := some (0, 0)) (h1' := h) (congrArg (fun z => some ((0, z) : zV)) (zb_f (fun z => c (by
        have hp0 : 0 ≤ p ∧ p < h 0 11 := by omega
        obtain ⟨ea, ⟨hZ, ⟨e46, e58, e59, e60⟩, hbd, hwn, hen⟩, hp17, hp5⟩ := iT_at hI hp0
        exact ⟨⟨hp0, by omega⟩, ⟨by omega, by omega⟩, z.2.2⟩)))) rfl rfl (if_neg (fun z => c (by
        have hp0 : 0 ≤ p ∧ p < h 0 11 := by omega
        obtain ⟨ea, ⟨hZ, ⟨e46, e58, e59, e60⟩, hbd, hwn, hen⟩, hp17, hp5⟩ := iT_at hI hp0
        exact ⟨⟨hp0, by omega⟩, ⟨by omega, by omega⟩, z.2.2⟩))) (c_jriv (d := 67) hS hR1 hB1 hp_ he_ hx_)
    have c2 : zCh [] [] h h := zCh.refl
    have hi := (c1.trans c2).hi (by decide) (by decide)
    have cc := (c1.trans c2).lo
    exact oOK.FF kA kB rfl c1.lo c2.lo (by decide) (by decide) ⟨⟨hS, zRf_c cc (by decide) hR, hn, by omega⟩, mB_c cc (by decide) hB, mTx_c cc (by decide) hX, iS_c cc (by decide) (fun a h1 _ _ => ⟨hi a h1, hi (a + 1) (by omega)⟩) hSh, iT_c cc (by decide) (fun x h1 _ => hi x h1) hT, vHab_c cc (by decide) hV, iE_q (iE_c cc (by decide) hE), vRow_c cc (by decide) hRw, iN_c cc (by decide) hN, iU_c cc (by decide) hU, iG_c cc (by decide) hG, (by rw [cc.r (DR := [75]) (DS := []) (by decide) (x := 75) (by decide)]; exact hL), vTok_c cc (by decide) hTk, iW_c cc (by decide) hW⟩

