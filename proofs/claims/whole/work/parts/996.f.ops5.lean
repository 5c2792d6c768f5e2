theorem hab_v {h : zMem} {a w x : Int} (k : vHab h) (c : ((0 ≤ a ∧ a < h 10 0) ∧ 0 ≤ w ∧ w < 3) ∧ hTok h x) : vHab (zup (zup (zup (zup (hTell h a w x) 48 (h 10 1) a) 49 (h 10 1) w) 50 (h 10 1) x) 38 21 (h 10 1 + 1)) := by
  obtain ⟨k1, k2, ⟨b1, b2, b3⟩, k4⟩ := k
  have f0 : (zup (zup (zup (zup (hTell h a w x) 48 (h 10 1) a) 49 (h 10 1) w) 50 (h 10 1) x) 38 21 (h 10 1 + 1)) 10 0 = h 10 0 := by unfold hTell; (repeat first | rw [zupE] | rw [zupA (by decide)] | rw [zupJ (by decide)])
  have f1 : (zup (zup (zup (zup (hTell h a w x) 48 (h 10 1) a) 49 (h 10 1) w) 50 (h 10 1) x) 38 21 (h 10 1 + 1)) 10 1 = h 10 1 + 1 := by unfold hTell; (repeat first | rw [zupE] | rw [zupA (by decide)] | rw [zupJ (by decide)])
  have f20 : (zup (zup (zup (zup (hTell h a w x) 48 (h 10 1) a) 49 (h 10 1) w) 50 (h 10 1) x) 38 21 (h 10 1 + 1)) 38 20 = h 38 20 := by unfold hTell; (repeat first | rw [zupE] | rw [zupA (by decide)] | rw [zupJ (by decide)])
  have gr : ∀ (r v : Int), ((r = 12 ∧ v = a) ∨ (r = 13 ∧ v = w) ∨ (r = 14 ∧ v = zten (x / 100)) ∨ (r = 15 ∧ v = x / 10 % 10) ∨ (r = 16 ∧ v = x % 10) ∨ (r = 48 ∧ v = a) ∨ (r = 49 ∧ v = w) ∨ (r = 50 ∧ v = x)) → ∀ i, (zup (zup (zup (zup (hTell h a w x) 48 (h 10 1) a) 49 (h 10 1) w) 50 (h 10 1) x) 38 21 (h 10 1 + 1)) r i = if i = h 10 1 then v else h r i := by
    intro r v hr i
    unfold hTell
    by_cases qi : i = h 10 1
    · subst qi
      rw [if_pos rfl]
      rcases hr with ⟨rfl, rfl⟩ | ⟨rfl, rfl⟩ | ⟨rfl, rfl⟩ | ⟨rfl, rfl⟩ | ⟨rfl, rfl⟩ | ⟨rfl, rfl⟩ | ⟨rfl, rfl⟩ | ⟨rfl, rfl⟩ <;> (repeat first | rw [zupE] | rw [zupA (by decide)] | rw [zupJ (by decide)])
    · rw [if_neg qi]
      rcases hr with ⟨rfl, rfl⟩ | ⟨rfl, rfl⟩ | ⟨rfl, rfl⟩ | ⟨rfl, rfl⟩ | ⟨rfl, rfl⟩ | ⟨rfl, rfl⟩ | ⟨rfl, rfl⟩ | ⟨rfl, rfl⟩ <;> (repeat first | rw [zupA (by decide)] | rw [zupJ qi])
  have g12 := gr 12 _ (Or.inl ⟨rfl, rfl⟩)
  have g13 := gr 13 _ (Or.inr (Or.inl ⟨rfl, rfl⟩))
  have g14 := gr 14 _ (Or.inr (Or.inr (Or.inl ⟨rfl, rfl⟩)))
  have g15 := gr 15 _ (Or.inr (Or.inr (Or.inr (Or.inl ⟨rfl, rfl⟩))))
  have g16 := gr 16 _ (Or.inr (Or.inr (Or.inr (Or.inr (Or.inl ⟨rfl, rfl⟩)))))
  have g48 := gr 48 _ (Or.inr (Or.inr (Or.inr (Or.inr (Or.inr (Or.inl ⟨rfl, rfl⟩))))))
  have g49 := gr 49 _ (Or.inr (Or.inr (Or.inr (Or.inr (Or.inr (Or.inr (Or.inl ⟨rfl, rfl⟩)))))))
  have g50 := gr 50 _ (Or.inr (Or.inr (Or.inr (Or.inr (Or.inr (Or.inr (Or.inr (⟨rfl, rfl⟩))))))))
  refine ⟨by rw [f20, f0]; exact k1, by rw [zupE, f1], ⟨by rw [f0]; exact b1, by rw [f1]; omega, fun i z1 z2 => ?_⟩, fun i z1 z2 => ?_⟩
  · rw [f1] at z2
    rw [g14, g15, g16]
    by_cases qi : i = h 10 1
    · rw [if_pos qi, if_pos qi, if_pos qi]
      exact ⟨⟨x / 100, by omega, by omega, rfl⟩, by omega, by omega⟩
    · rw [if_neg qi, if_neg qi, if_neg qi]; exact b3 i z1 (by omega)
  · rw [f1] at z2
    rw [g48, g49, g50, g12, g13, g14, g15, g16]
    by_cases qi : i = h 10 1
    · rw [if_pos qi, if_pos qi, if_pos qi, if_pos qi, if_pos qi, if_pos qi, if_pos qi, if_pos qi]
      exact ⟨rfl, rfl, by omega, rfl, rfl, rfl⟩
    · rw [if_neg qi, if_neg qi, if_neg qi, if_neg qi, if_neg qi, if_neg qi, if_neg qi, if_neg qi]; exact k4 i z1 (by omega)

set_option maxRecDepth 100000 in
set_option maxHeartbeats 4000000 in
theorem op_habit {q : Int} {n : Nat} {sh : zSh} {h : zMem} {a w x : Int} (hI : INV q n sh h) (hq6 : q ≤ 520) (ha_ : zi32 a) (hw_ : zi32 w) (hx_ : zi32 x) : oOK q n sh h (fun Q => zM yX10_habit cX10_habit 4 (some .int) 70 0 0 [(2, 0), (0, a), (0, w), (0, x)] n sh h Q) (fun n1 sh1 h1 Q => zM yX11_habit cX11_habit 4 (some .int) 70 0 0 [(2, 38), (0, a), (0, w), (0, x)] n1 sh1 h1 Q) := by
  obtain ⟨⟨hS, hR, hn, hq⟩, hB, hX, hSh, hT, hV, hE, hRw, hN, hU, hG, hL, hTk, hW⟩ := id hI
  have hTb := hI.xTb
  by_cases c : ((0 ≤ a ∧ a < h 10 0) ∧ 0 ≤ w ∧ w < 3) ∧ hTok h x
  · have f21 : hTell h a w x 38 21 = h 10 1 := by unfold hTell; (repeat first | rw [zupE] | rw [zupA (by decide)] | rw [zupJ (by decide)]); exact hV.2.1
    have f20 : hTell h a w x 38 20 = h 10 0 := by unfold hTell; (repeat first | rw [zupE] | rw [zupA (by decide)] | rw [zupJ (by decide)]); exact hV.1
    have kA := zF.of_eq (n := n) (r' := some (0, h 10 1 + 1)) (h1' := hTell h a w x) (congrArg (fun z => some ((0, z) : zV)) (if_pos c)) rfl rfl (if_pos c) (c_xhab (d := 68) hS hR hTb ha_ hw_ hx_ hV.2.2.1)
    have c1 : zCh ((((([12] ++ [13]) ++ [14]) ++ [15]) ++ [16]) ++ []) ((((([] ++ []) ++ []) ++ []) ++ []) ++ [(10, 1)]) h (hTell h a w x) := (((((zCh.upA.trans zCh.upA).trans zCh.upA).trans zCh.upA).trans zCh.upA).trans zCh.up)
    have hR1 : zRf (hTell h a w x) := zRf_c c1.lo (by decide) hR
    have hB1 : mB (hTell h a w x) := mB_c c1.lo (by decide) hB
    have kB := zF.of_eq (n := n) (r' := some (0, h 10 1 + 1)) (h1' := zup (zup (zup (zup (hTell h a w x) 48 (h 10 1) a) 49 (h 10 1) w) 50 (h 10 1) x) 38 21 (h 10 1 + 1)) (congrArg (fun z => some ((0, z) : zV)) ((if_pos (by rw [f20, f21]; omega)).trans (by rw [f21]))) rfl rfl ((if_pos (by rw [f20, f21]; omega)).trans (by rw [f21])) (c_jhab (d := 68) hS hR1 hB1 ha_ hw_ hx_)
    have c2 : zCh ((([48] ++ [49]) ++ [50]) ++ []) ((([] ++ []) ++ []) ++ [(38, 21)]) (hTell h a w x) (zup (zup (zup (zup (hTell h a w x) 48 (h 10 1) a) 49 (h 10 1) w) 50 (h 10 1) x) 38 21 (h 10 1 + 1)) := (((zCh.upA.trans zCh.upA).trans zCh.upA).trans zCh.up)
    have hi := (c1.trans c2).hi (by decide) (by decide)
    have cc := (c1.trans c2).lo
    exact oOK.FF kA kB rfl c1.lo c2.lo (by decide) (by decide) ⟨⟨hS, zRf_c cc (by decide) hR, hn, by omega⟩, mBu21 (mB_c ((zCh.upA (h := hTell h a w x) (a := 48) (j := h 10 1) (z := a)).trans (zCh.upA.trans zCh.upA)).lo (by decide) hB1) (by have := hV.2.2.1.2.1; omega), mTx_c cc (by decide) hX, iS_c cc (by decide) (fun a h1 _ _ => ⟨hi a h1, hi (a + 1) (by omega)⟩) hSh, iT_c cc (by decide) (fun x h1 _ => hi x h1) hT, hab_v hV c, iE_q (iE_c cc (by decide) hE), vRow_c cc (by decide) hRw, iN_c cc (by decide) hN, iU_c cc (by decide) hU, iG_c cc (by decide) hG, (by rw [cc.r (DR := [75]) (DS := []) (by decide) (x := 75) (by decide)]; exact hL), vTok_c cc (by decide) hTk, iW_c cc (by decide) hW⟩
  · have kA := zF.of_eq (n := n) (r' := some (0, -1)) (h1' := h) (congrArg (fun z => some ((0, z) : zV)) (if_neg c)) rfl rfl (if_neg c) (c_xhab (d := 68) hS hR hTb ha_ hw_ hx_ hV.2.2.1)
    have c1 : zCh [] [] h h := zCh.refl
    have hR1 : zRf h := zRf_c c1.lo (by decide) hR
    have hB1 : mB h := mB_c c1.lo (by decide) hB
    have kB := zF.of_eq (n := n) (r' := some (0, -1)) (h1' := h) (congrArg (fun z => some ((0, z) : zV)) (if_neg (fun z => c (by have := hV.1; have := hV.2.1; omega)))) rfl rfl (if_neg (fun z => c (by have := hV.1; have := hV.2.1; omega))) (c_jhab (d := 68) hS hR1 hB1 ha_ hw_ hx_)
    have c2 : zCh [] [] h h := zCh.refl
    have hi := (c1.trans c2).hi (by decide) (by decide)
    have cc := (c1.trans c2).lo
    exact oOK.FF kA kB rfl c1.lo c2.lo (by decide) (by decide) ⟨⟨hS, zRf_c cc (by decide) hR, hn, by omega⟩, mB_c cc (by decide) hB, mTx_c cc (by decide) hX, iS_c cc (by decide) (fun a h1 _ _ => ⟨hi a h1, hi (a + 1) (by omega)⟩) hSh, iT_c cc (by decide) (fun x h1 _ => hi x h1) hT, vHab_c cc (by decide) hV, iE_q (iE_c cc (by decide) hE), vRow_c cc (by decide) hRw, iN_c cc (by decide) hN, iU_c cc (by decide) hU, iG_c cc (by decide) hG, (by rw [cc.r (DR := [75]) (DS := []) (by decide) (x := 75) (by decide)]; exact hL), vTok_c cc (by decide) hTk, iW_c cc (by decide) hW⟩

theorem err_u {h : zMem} {p e x y : Int} (k : iU h) (h12 : h 0 12 ≤ 999) (hp : 0 ≤ p ∧ p < h 38 17) (he : 0 ≤ e ∧ e < h 46 p) (hag : h 57 (30 * p + e) ≠ -1) (hy : -999999999 ≤ y ∧ y ≤ 999999999) : iU (zup (zup (zup (zup (zup (eTell h p e x y (h 0 12)) 62 (h 32 0) (30 * p + e)) 63 (h 32 0) x) 64 (h 32 0) y) 65 (h 32 0) (h 0 12)) 38 37 (h 32 0 + 1)) := by
  obtain ⟨k1, k2⟩ := k
  have f0 : (zup (zup (zup (zup (zup (eTell h p e x y (h 0 12)) 62 (h 32 0) (30 * p + e)) 63 (h 32 0) x) 64 (h 32 0) y) 65 (h 32 0) (h 0 12)) 38 37 (h 32 0 + 1)) 32 0 = h 32 0 + 1 := by unfold eTell; (repeat first | rw [zupE] | rw [zupA (by decide)] | rw [zupJ (by decide)])
  have f17 : (zup (zup (zup (zup (zup (eTell h p e x y (h 0 12)) 62 (h 32 0) (30 * p + e)) 63 (h 32 0) x) 64 (h 32 0) y) 65 (h 32 0) (h 0 12)) 38 37 (h 32 0 + 1)) 38 17 = h 38 17 := by unfold eTell; (repeat first | rw [zupE] | rw [zupA (by decide)] | rw [zupJ (by decide)])
  have g46 : (zup (zup (zup (zup (zup (eTell h p e x y (h 0 12)) 62 (h 32 0) (30 * p + e)) 63 (h 32 0) x) 64 (h 32 0) y) 65 (h 32 0) (h 0 12)) 38 37 (h 32 0 + 1)) 46 = h 46 := by unfold eTell; (repeat first | rw [zup_ne (by decide)] | rw [znew_ne (by decide)])
  have g57 : (zup (zup (zup (zup (zup (eTell h p e x y (h 0 12)) 62 (h 32 0) (30 * p + e)) 63 (h 32 0) x) 64 (h 32 0) y) 65 (h 32 0) (h 0 12)) 38 37 (h 32 0 + 1)) 57 = h 57 := by unfold eTell; (repeat first | rw [zup_ne (by decide)] | rw [znew_ne (by decide)])
  have gr : ∀ (r v : Int), ((r = 33 ∧ v = p) ∨ (r = 34 ∧ v = e) ∨ (r = 35 ∧ v = x) ∨ (r = 36 ∧ v = y) ∨ (r = 37 ∧ v = h 0 12) ∨ (r = 62 ∧ v = 30 * p + e) ∨ (r = 63 ∧ v = x) ∨ (r = 64 ∧ v = y) ∨ (r = 65 ∧ v = h 0 12)) → ∀ i, (zup (zup (zup (zup (zup (eTell h p e x y (h 0 12)) 62 (h 32 0) (30 * p + e)) 63 (h 32 0) x) 64 (h 32 0) y) 65 (h 32 0) (h 0 12)) 38 37 (h 32 0 + 1)) r i = if i = h 32 0 then v else h r i := by
    intro r v hr i
    unfold eTell
    by_cases qi : i = h 32 0
    · subst qi
      rw [if_pos rfl]
      rcases hr with ⟨rfl, rfl⟩ | ⟨rfl, rfl⟩ | ⟨rfl, rfl⟩ | ⟨rfl, rfl⟩ | ⟨rfl, rfl⟩ | ⟨rfl, rfl⟩ | ⟨rfl, rfl⟩ | ⟨rfl, rfl⟩ | ⟨rfl, rfl⟩ <;> (repeat first | rw [zupE] | rw [zupA (by decide)] | rw [zupJ (by decide)])
    · rw [if_neg qi]
      rcases hr with ⟨rfl, rfl⟩ | ⟨rfl, rfl⟩ | ⟨rfl, rfl⟩ | ⟨rfl, rfl⟩ | ⟨rfl, rfl⟩ | ⟨rfl, rfl⟩ | ⟨rfl, rfl⟩ | ⟨rfl, rfl⟩ | ⟨rfl, rfl⟩ <;> (repeat first | rw [zupA (by decide)] | rw [zupJ qi])
  have g33 := gr 33 _ (Or.inl ⟨rfl, rfl⟩)
  have g34 := gr 34 _ (Or.inr (Or.inl ⟨rfl, rfl⟩))
  have g35 := gr 35 _ (Or.inr (Or.inr (Or.inl ⟨rfl, rfl⟩)))
  have g36 := gr 36 _ (Or.inr (Or.inr (Or.inr (Or.inl ⟨rfl, rfl⟩))))
  have g37 := gr 37 _ (Or.inr (Or.inr (Or.inr (Or.inr (Or.inl ⟨rfl, rfl⟩)))))
  have g62 := gr 62 _ (Or.inr (Or.inr (Or.inr (Or.inr (Or.inr (Or.inl ⟨rfl, rfl⟩))))))
  have g63 := gr 63 _ (Or.inr (Or.inr (Or.inr (Or.inr (Or.inr (Or.inr (Or.inl ⟨rfl, rfl⟩)))))))
  have g64 := gr 64 _ (Or.inr (Or.inr (Or.inr (Or.inr (Or.inr (Or.inr (Or.inr (Or.inl ⟨rfl, rfl⟩))))))))
  have g65 := gr 65 _ (Or.inr (Or.inr (Or.inr (Or.inr (Or.inr (Or.inr (Or.inr (Or.inr (⟨rfl, rfl⟩)))))))))
  refine ⟨by rw [zupE, f0], fun i z1 z2 => ?_⟩
  rw [f0] at z2
  rw [f17, g46, g57, g33, g34, g35, g36, g37, g62, g63, g64, g65]
  by_cases qi : i = h 32 0
  · rw [if_pos qi, if_pos qi, if_pos qi, if_pos qi, if_pos qi, if_pos qi, if_pos qi, if_pos qi, if_pos qi]
    exact ⟨⟨rfl, rfl, rfl, rfl⟩, hp, he, hag, h12, hy⟩
  · rw [if_neg qi, if_neg qi, if_neg qi, if_neg qi, if_neg qi, if_neg qi, if_neg qi, if_neg qi, if_neg qi]
    exact k2 i z1 (by omega)

set_option maxRecDepth 100000 in
set_option maxHeartbeats 4000000 in
theorem op_erratum {q : Int} {n : Nat} {sh : zSh} {h : zMem} {p e x y : Int} (hI : INV q n sh h) (hq6 : q ≤ 520) (hp_ : zi32 p) (he_ : zi32 e) (hx_ : zi32 x) (hy_ : zi32 y) : oOK q n sh h (fun Q => zM yX10_erratum cX10_erratum 6 (some .int) 70 0 0 [(2, 0), (0, p), (0, e), (0, x), (0, y)] n sh h Q) (fun n1 sh1 h1 Q => zM yX11_erratum cX11_erratum 5 (some .int) 70 0 0 [(2, 38), (0, p), (0, e), (0, x), (0, y)] n1 sh1 h1 Q) := by
  obtain ⟨⟨hS, hR, hn, hq⟩, hB, hX, hSh, hT, hV, hE, hRw, hN, hU, hG, hL, hTk, hW⟩ := id hI
  have hTb := hI.xTb
  by_cases c : ((((0 ≤ p ∧ p < h 0 11) ∧ h (xAt h p) 11 ≠ 0) ∧ tAg h (xAt h p) e) ∧ (-999999999 ≤ x ∧ x ≤ 999999999) ∧ (-999999999 ≤ y ∧ y ≤ 999999999)) ∧ h 32 0 < 40
  · obtain ⟨ea, ⟨hZ, ⟨e46, e58, e59, e60⟩, hbd, hwn, hen⟩, hp17, hp5⟩ := iT_at hI c.1.1.1.1
    have k := (hen e c.1.1.2.1.1 c.1.1.2.1.2).1.2.2.2.1
    have f37 : eTell h p e x y (h 0 12) 38 37 = h 32 0 := by unfold eTell; (repeat first | rw [zupE] | rw [zupA (by decide)] | rw [zupJ (by decide)]); exact hU.1
    have f16 : eTell h p e x y (h 0 12) 38 16 = h 0 12 := by unfold eTell; (repeat first | rw [zupE] | rw [zupA (by decide)] | rw [zupJ (by decide)]); exact hG.1
    have f17 : eTell h p e x y (h 0 12) 38 17 = h 38 17 := by unfold eTell; (repeat first | rw [zupE] | rw [zupA (by decide)] | rw [zupJ (by decide)])
    have f58 : eTell h p e x y (h 0 12) 58 = h 58 := by unfold eTell; (repeat first | rw [zup_ne (by decide)] | rw [znew_ne (by decide)])
    have f46 : eTell h p e x y (h 0 12) 46 = h 46 := by unfold eTell; (repeat first | rw [zup_ne (by decide)] | rw [znew_ne (by decide)])
    have f57 : eTell h p e x y (h 0 12) 57 = h 57 := by unfold eTell; (repeat first | rw [zup_ne (by decide)] | rw [znew_ne (by decide)])
    have hcm : (jG (eTell h p e x y (h 0 12)) p e ∧ (-999999999 ≤ x ∧ x ≤ 999999999) ∧ (-999999999 ≤ y ∧ y ≤ 999999999)) ∧ eTell h p e x y (h 0 12) 38 37 < 40 := by unfold jG; rw [f37, f17, f58, f46, f57]; omega
    have kA := zF.of_eq (n := n) (r' := some (0, h 32 0)) (h1' := eTell h p e x y (h 0 12)) (congrArg (fun z => some ((0, z) : zV)) (if_pos c)) rfl rfl (if_pos c) (c_xerr (d := 68) hS hR hTb hp_ he_ hx_ hy_ (by rw [← hU.1]; exact hB.2.2.2.2.2.1))
    have c1 : zCh ((((([33] ++ [34]) ++ [35]) ++ [36]) ++ [37]) ++ []) ((((([] ++ []) ++ []) ++ []) ++ []) ++ [(32, 0)]) h (eTell h p e x y (h 0 12)) := (((((zCh.upA.trans zCh.upA).trans zCh.upA).trans zCh.upA).trans zCh.upA).trans zCh.up)
    have hR1 : zRf (eTell h p e x y (h 0 12)) := zRf_c c1.lo (by decide) hR
    have hB1 : mB (eTell h p e x y (h 0 12)) := mB_c c1.lo (by decide) hB
    have kB := zF.of_eq (n := n) (r' := some (0, h 32 0)) (h1' := zup (zup (zup (zup (zup (eTell h p e x y (h 0 12)) 62 (h 32 0) (30 * p + e)) 63 (h 32 0) x) 64 (h 32 0) y) 65 (h 32 0) (h 0 12)) 38 37 (h 32 0 + 1)) (congrArg (fun z => some ((0, z) : zV)) ((if_pos hcm).trans f37)) rfl rfl ((if_pos hcm).trans (by rw [f37, f16])) (c_jerr (d := 66) hS hR1 hB1 hp_ he_ hx_ hy_)
    have c2 : zCh (((([62] ++ [63]) ++ [64]) ++ [65]) ++ []) (((([] ++ []) ++ []) ++ []) ++ [(38, 37)]) (eTell h p e x y (h 0 12)) (zup (zup (zup (zup (zup (eTell h p e x y (h 0 12)) 62 (h 32 0) (30 * p + e)) 63 (h 32 0) x) 64 (h 32 0) y) 65 (h 32 0) (h 0 12)) 38 37 (h 32 0 + 1)) := ((((zCh.upA.trans zCh.upA).trans zCh.upA).trans zCh.upA).trans zCh.up)
    have hi := (c1.trans c2).hi (by decide) (by decide)
    have cc := (c1.trans c2).lo
    exact oOK.FF kA kB rfl c1.lo c2.lo (by decide) (by decide) ⟨⟨hS, zRf_c cc (by decide) hR, hn, by omega⟩, mBu37 (mB_c ((zCh.upA (h := eTell h p e x y (h 0 12)) (a := 62) (j := h 32 0) (z := 30 * p + e)).trans (zCh.upA.trans (zCh.upA.trans zCh.upA))).lo (by decide) hB1) (by have := hB.2.2.2.2.2.1; have := hU.1; omega), mTx_c cc (by decide) hX, iS_c cc (by decide) (fun a h1 _ _ => ⟨hi a h1, hi (a + 1) (by omega)⟩) hSh, iT_c cc (by decide) (fun x h1 _ => hi x h1) hT, vHab_c cc (by decide) hV, iE_q (iE_c cc (by decide) hE), vRow_c cc (by decide) hRw, iN_c cc (by decide) hN, err_u hU (by have := hB.2.2.2.2.2.2.1; have := hG.1; omega) hp17 (by omega) (by omega) c.1.2.2, iG_c cc (by decide) hG, (by rw [cc.r (DR := [75]) (DS := []) (by decide) (x := 75) (by decide)]; exact hL), vTok_c cc (by decide) hTk, iW_c cc (by decide) hW⟩
  · have kA := zF.of_eq (n := n) (r' := some (0, -1)) (h1' := h) (congrArg (fun z => some ((0, z) : zV)) (if_neg c)) rfl rfl (if_neg c) (c_xerr (d := 68) hS hR hTb hp_ he_ hx_ hy_ (by rw [← hU.1]; exact hB.2.2.2.2.2.1))
    have c1 : zCh [] [] h h := zCh.refl
    have hR1 : zRf h := zRf_c c1.lo (by decide) hR
    have hB1 : mB h := mB_c c1.lo (by decide) hB
    have kB := zF.of_eq (n := n) (r' := some (0, -1)) (h1' := h) (congrArg (fun z => some ((0, z) : zV)) (if_neg (fun z => c (by
          have e17 := hT.1
          have hp0 : 0 ≤ p ∧ p < h 0 11 := by omega
          obtain ⟨ea, ⟨hZ, ⟨e46, e58, e59, e60⟩, hbd, hwn, hen⟩, hp17, hp5⟩ := iT_at hI hp0
          have k := (hen e (by omega) (by omega)).1.2.2.2.1
          have e37 := hU.1
          exact ⟨⟨⟨⟨hp0, by omega⟩, ⟨by omega, by omega⟩, by omega⟩, z.1.2.1, z.1.2.2⟩, by omega⟩)))) rfl rfl (if_neg (fun z => c (by
          have e17 := hT.1
          have hp0 : 0 ≤ p ∧ p < h 0 11 := by omega
          obtain ⟨ea, ⟨hZ, ⟨e46, e58, e59, e60⟩, hbd, hwn, hen⟩, hp17, hp5⟩ := iT_at hI hp0
          have k := (hen e (by omega) (by omega)).1.2.2.2.1
          have e37 := hU.1
          exact ⟨⟨⟨⟨hp0, by omega⟩, ⟨by omega, by omega⟩, by omega⟩, z.1.2.1, z.1.2.2⟩, by omega⟩))) (c_jerr (d := 66) hS hR1 hB1 hp_ he_ hx_ hy_)
    have c2 : zCh [] [] h h := zCh.refl
    have hi := (c1.trans c2).hi (by decide) (by decide)
    have cc := (c1.trans c2).lo
    exact oOK.FF kA kB rfl c1.lo c2.lo (by decide) (by decide) ⟨⟨hS, zRf_c cc (by decide) hR, hn, by omega⟩, mB_c cc (by decide) hB, mTx_c cc (by decide) hX, iS_c cc (by decide) (fun a h1 _ _ => ⟨hi a h1, hi (a + 1) (by omega)⟩) hSh, iT_c cc (by decide) (fun x h1 _ => hi x h1) hT, vHab_c cc (by decide) hV, iE_q (iE_c cc (by decide) hE), vRow_c cc (by decide) hRw, iN_c cc (by decide) hN, iU_c cc (by decide) hU, iG_c cc (by decide) hG, (by rw [cc.r (DR := [75]) (DS := []) (by decide) (x := 75) (by decide)]; exact hL), vTok_c cc (by decide) hTk, iW_c cc (by decide) hW⟩

theorem fed_x {h : zMem} {a b c e f : Int} (k : mTx h) (hl : h 1 1 ≤ 180) : mTx (jFm (tapp (tapp (tapp (tapp (tapp h a) b) c) e) f) a b c e f (h 1 1) 20) := by
  have hl0 := k.1.1
  have t1 : (tapp (tapp (tapp (tapp (tapp h a) b) c) e) f) 1 1 = h 1 1 + 20 := by rw [tapp_1, tapp_1, tapp_1, tapp_1, tapp_1]; omega
  have j1 : jFm (tapp (tapp (tapp (tapp (tapp h a) b) c) e) f) a b c e f (h 1 1) 20 1 1 = h 1 1 + 20 := by unfold jFm; rw [if_neg (by omega), if_neg (by omega)]; exact t1
  have j38 : jFm (tapp (tapp (tapp (tapp (tapp h a) b) c) e) f) a b c e f (h 1 1) 20 38 1 = h 1 1 + 20 := by unfold jFm; rw [if_neg (by omega), if_pos (by omega)]
  have j2 : ∀ y, jFm (tapp (tapp (tapp (tapp (tapp h a) b) c) e) f) a b c e f (h 1 1) 20 2 y = if h 1 1 ≤ y ∧ y < h 1 1 + 20 then fby a b c e f (y - h 1 1) else h 2 y := fun y => by
    unfold jFm
    rw [if_neg (by omega), if_neg (by omega), tapp_2, tapp_2, tapp_2, tapp_2, tapp_2, tapp_1, tapp_1, tapp_1, tapp_1]
    have zp : ∀ k, zp4 (y - h 1 1 - 4 * k) = zp4 (y - h 1 1) := fun k => by unfold zp4; rw [show (y - h 1 1 - 4 * k) % 4 = (y - h 1 1) % 4 by omega]
    unfold fby fwd
    by_cases z : h 1 1 ≤ y ∧ y < h 1 1 + 20
    · rw [if_pos z]
      by_cases z4 : h 1 1 + 4 + 4 + 4 + 4 ≤ y ∧ y < h 1 1 + 4 + 4 + 4 + 4 + 4
      · rw [if_pos z4, if_neg (show ¬ y - h 1 1 < 4 by omega), if_neg (show ¬ y - h 1 1 < 8 by omega), if_neg (show ¬ y - h 1 1 < 12 by omega), if_neg (show ¬ y - h 1 1 < 16 by omega), ← zp 4, show y - h 1 1 - 4 * 4 = y - (h 1 1 + 4 + 4 + 4 + 4) by omega]
      rw [if_neg z4]
      by_cases z3 : h 1 1 + 4 + 4 + 4 ≤ y ∧ y < h 1 1 + 4 + 4 + 4 + 4
      · rw [if_pos z3, if_neg (show ¬ y - h 1 1 < 4 by omega), if_neg (show ¬ y - h 1 1 < 8 by omega), if_neg (show ¬ y - h 1 1 < 12 by omega), if_pos (show y - h 1 1 < 16 by omega), ← zp 3, show y - h 1 1 - 4 * 3 = y - (h 1 1 + 4 + 4 + 4) by omega]
      rw [if_neg z3]
      by_cases z2 : h 1 1 + 4 + 4 ≤ y ∧ y < h 1 1 + 4 + 4 + 4
      · rw [if_pos z2, if_neg (show ¬ y - h 1 1 < 4 by omega), if_neg (show ¬ y - h 1 1 < 8 by omega), if_pos (show y - h 1 1 < 12 by omega), ← zp 2, show y - h 1 1 - 4 * 2 = y - (h 1 1 + 4 + 4) by omega]
      rw [if_neg z2]
      by_cases z1 : h 1 1 + 4 ≤ y ∧ y < h 1 1 + 4 + 4
      · rw [if_pos z1, if_neg (show ¬ y - h 1 1 < 4 by omega), if_pos (show y - h 1 1 < 8 by omega), ← zp 1, show y - h 1 1 - 4 * 1 = y - (h 1 1 + 4) by omega]
      rw [if_neg z1]
      rw [if_pos (show h 1 1 ≤ y ∧ y < h 1 1 + 4 by omega), if_pos (show y - h 1 1 < 4 by omega)]
    · rw [if_neg z, if_neg (show ¬ (h 1 1 + 4 + 4 + 4 + 4 ≤ y ∧ y < h 1 1 + 4 + 4 + 4 + 4 + 4) by omega), if_neg (show ¬ (h 1 1 + 4 + 4 + 4 ≤ y ∧ y < h 1 1 + 4 + 4 + 4 + 4) by omega), if_neg (show ¬ (h 1 1 + 4 + 4 ≤ y ∧ y < h 1 1 + 4 + 4 + 4) by omega), if_neg (show ¬ (h 1 1 + 4 ≤ y ∧ y < h 1 1 + 4 + 4) by omega), if_neg (show ¬ (h 1 1 ≤ y ∧ y < h 1 1 + 4) by omega)]
  have j39 : ∀ y, jFm (tapp (tapp (tapp (tapp (tapp h a) b) c) e) f) a b c e f (h 1 1) 20 39 y = if h 1 1 ≤ y ∧ y < h 1 1 + 20 then Int.bmod (fwd a b c e f (y - h 1 1) / zp4 (y - h 1 1)) 256 else h 39 y := fun y => by
    unfold jFm
    by_cases z : h 1 1 ≤ y ∧ y < h 1 1 + 20
    · rw [if_pos ⟨rfl, z⟩, if_pos z]
    · rw [if_neg (fun w => z w.2), if_neg z, if_neg (by omega), tapp_ne (by decide) (by decide), tapp_ne (by decide) (by decide), tapp_ne (by decide) (by decide), tapp_ne (by decide) (by decide), tapp_ne (by decide) (by decide)]
  refine ⟨⟨by rw [j1]; omega, fun p z1 z2 => ?_⟩, by rw [j38, j1], fun p z1 z2 => ?_⟩
  · rw [j1] at z2
    rw [j2]
    by_cases z : h 1 1 ≤ p ∧ p < h 1 1 + 20
    · rw [if_pos z]; unfold fby; omega
    · rw [if_neg z]; exact k.1.2 p z1 (by omega)
  · rw [j1] at z2
    rw [j2, j39]
    by_cases z : h 1 1 ≤ p ∧ p < h 1 1 + 20
    · rw [if_pos z, if_pos z]
      unfold fby
      generalize fwd a b c e f (p - h 1 1) / zp4 (p - h 1 1) = V
      have := Int.bmod_def V 256
      rw [this]
      by_cases z3 : V % 256 < 128
      · left; exact ⟨z3, if_pos (by omega)⟩
      · right; exact ⟨by omega, if_neg (by omega)⟩
    · rw [if_neg z, if_neg z]; exact k.2.2 p z1 (by omega)
theorem tapp_ch {h : zMem} {x : Int} : zCh [2] [(1, 1)] h (tapp h x) := fun a y ha hy => by
  by_cases c : a = 1
  · subst c; exact tapp_10 (fun q => hy (by rw [q]; decide))
  · rw [tapp_ne c (fun q => ha (by rw [q]; decide))]

set_option maxRecDepth 100000 in
set_option maxHeartbeats 4000000 in
theorem op_feed {q : Int} {n : Nat} {sh : zSh} {h : zMem} {a b c e f : Int} (hI : INV q n sh h) (hq6 : q ≤ 520) (ha_ : zi32 a) (hb_ : zi32 b) (hc_ : zi32 c) (he_ : zi32 e) (hf_ : zi32 f) : oOK q n sh h (fun Q => zM yX10_feed cX10_feed 6 (some .int) 70 0 0 [(2, 0), (0, a), (0, b), (0, c), (0, e), (0, f)] n sh h Q) (fun n1 sh1 h1 Q => zM yX11_feed cX11_feed 8 (some .int) 70 0 0 [(2, 38), (0, a), (0, b), (0, c), (0, e), (0, f)] n1 sh1 h1 Q) := by
  obtain ⟨⟨hS, hR, hn, hq⟩, hB, hX, hSh, hT, hV, hE, hRw, hN, hU, hG, hL, hTk, hW⟩ := id hI
  have hTb := hI.xTb
  by_cases cl : h 1 1 ≤ 180
  · have a1 := zF.of_eq (n := n) (r' := some (0, h 1 1 + 20)) (h1' := (tapp (tapp (tapp (tapp (tapp h a) b) c) e) f)) (congrArg (fun z => some ((0, z) : zV)) (if_pos cl)) rfl rfl (if_pos cl) (c_xfd (d := 69) hS hR hTb ha_ hb_ hc_ he_ hf_ hX.1.1)
    have c1 := ((((tapp_ch (h := h) (x := a)).trans (tapp_ch (x := b))).trans (tapp_ch (x := c))).trans (tapp_ch (x := e))).trans (tapp_ch (x := f))
    have hR1 : zRf (tapp (tapp (tapp (tapp (tapp h a) b) c) e) f) := zRf_c c1.lo (by decide) hR
    have hB1 : mB (tapp (tapp (tapp (tapp (tapp h a) b) c) e) f) := mB_c c1.lo (by decide) hB
    have e38 : (tapp (tapp (tapp (tapp (tapp h a) b) c) e) f) 38 1 = h 1 1 := by rw [tapp_ne (by decide) (by decide), tapp_ne (by decide) (by decide), tapp_ne (by decide) (by decide), tapp_ne (by decide) (by decide), tapp_ne (by decide) (by decide)]; exact hX.2.1
    have b1 := zF.of_eq (n := n) (r' := some (0, h 1 1 + 20)) (h1' := jFm (tapp (tapp (tapp (tapp (tapp h a) b) c) e) f) a b c e f (h 1 1) 20) (congrArg (fun z => some ((0, z) : zV)) ((if_pos (by rw [e38]; exact cl)).trans (by rw [e38]))) rfl rfl ((if_pos (by rw [e38]; exact cl)).trans (by rw [e38])) (c_jfd (d := 70) hS hR1 hB1 ha_ hb_ hc_ he_ hf_)
    have c2 : zCh [39] [(38, 1)] (tapp (tapp (tapp (tapp (tapp h a) b) c) e) f) (jFm (tapp (tapp (tapp (tapp (tapp h a) b) c) e) f) a b c e f (h 1 1) 20) := fun x y hx hy => by
      unfold jFm
      rw [if_neg (fun z => hx (by rw [z.1]; decide)), if_neg (fun z => hy (by rw [z.1, z.2]; decide))]
    have hi := (c1.trans c2).hi (by decide) (by decide)
    have cc := (c1.trans c2).lo
    have hx20 := fed_x (a := a) (b := b) (c := c) (e := e) (f := f) hX cl
    have hmB : mB (jFm (tapp (tapp (tapp (tapp (tapp h a) b) c) e) f) a b c e f (h 1 1) 20) := by
      have q : mB (zup (tapp (tapp (tapp (tapp (tapp h a) b) c) e) f) 38 1 (h 1 1 + 20)) := mBu1 hB1 (by have := hX.1.1; omega)
      have c3 : zChL [39] [] (zup (tapp (tapp (tapp (tapp (tapp h a) b) c) e) f) 38 1 (h 1 1 + 20)) (jFm (tapp (tapp (tapp (tapp (tapp h a) b) c) e) f) a b c e f (h 1 1) 20) := fun x y _ hx _ => by
        unfold jFm zup
        rw [if_neg (fun z => hx (by rw [z.1]; decide))]
      exact mB_c c3 (by decide) q
    exact oOK.FF a1 b1 rfl c1.lo c2.lo (by decide) (by decide) ⟨⟨hS, zRf_c cc (by decide) hR, hn, by omega⟩, hmB, hx20, iS_c cc (by decide) (fun a h1 _ _ => ⟨hi a h1, hi (a + 1) (by omega)⟩) hSh, iT_c cc (by decide) (fun x h1 _ => hi x h1) hT, vHab_c cc (by decide) hV, iE_q (iE_c cc (by decide) hE), vRow_c cc (by decide) hRw, iN_c cc (by decide) hN, iU_c cc (by decide) hU, iG_c cc (by decide) hG, (by rw [cc.r (DR := [75]) (DS := []) (by decide) (x := 75) (by decide)]; exact hL), vTok_c cc (by decide) hTk, iW_c cc (by decide) hW⟩
  · have a1 := zF.of_eq (n := n) (r' := some (0, -1)) (h1' := h) (congrArg (fun z => some ((0, z) : zV)) (if_neg cl)) rfl rfl (if_neg cl) (c_xfd (d := 69) hS hR hTb ha_ hb_ hc_ he_ hf_ hX.1.1)
    have b1 := zF.of_eq (n := n) (r' := some (0, -1)) (h1' := h) (congrArg (fun z => some ((0, z) : zV)) (if_neg (by rw [hX.2.1]; exact cl))) rfl rfl (if_neg (by rw [hX.2.1]; exact cl)) (c_jfd (d := 70) hS hR hB ha_ hb_ hc_ he_ hf_)
    exact oOK.FF a1 b1 rfl zChL.refl zChL.refl (by decide) (by decide) (hI.keep zCh.refl (by decide) (by decide) hR (by decide) hL)

set_option maxRecDepth 100000 in
set_option maxHeartbeats 4000000 in
theorem op_lay {q : Int} {n : Nat} {sh : zSh} {h : zMem} {p a b : Int} (hI : INV q n sh h) (hq6 : q ≤ 520) (hp_ : zi32 p) (ha_ : zi32 a) (hb_ : zi32 b) : oOK q n sh h (fun Q => zM yX10_lay cX10_lay 5 (some .int) 70 0 0 [(2, 0), (0, p), (0, a), (0, b)] n sh h Q) (fun n1 sh1 h1 Q => zM yX11_lay cX11_lay 7 (some .int) 70 0 0 [(2, 38), (0, p), (0, a), (0, b)] n1 sh1 h1 Q) := by
  obtain ⟨⟨hS, hR, hn, hq⟩, hB, hX, hSh, hT, hV, hE, hRw, hN, hU, hG, hL, hTk, hW⟩ := id hI
  have hTb := hI.xTb
  by_cases c : (0 ≤ p ∧ p < h 0 11) ∧ (1 ≤ b ∧ b ≤ 20) ∧ 0 ≤ a ∧ a ≤ h (xAt h p) 0 - b
  · obtain ⟨ea, ⟨hZ, ⟨e46, e58, e59, e60⟩, hbd, hwn, hen⟩, hp17, hp5⟩ := iT_at hI c.1
    have hE30 := hZ.2.2.1
    have a1 := zF.of_eq (n := n) (r' := some (0, zS (fun j => zb (rLv h (xAt h p) a j ≠ -2147483648)) 0 b)) (h1' := rLm h (xAt h p) a b b) (congrArg (fun z => some ((0, z) : zV)) (if_pos c)) rfl rfl (if_pos c) (c_xlay (d := 66) hS hR hTb hp_ ha_ hb_)
    have c1 : zCh [27] [(26, 0)] h (rLm h (xAt h p) a b b) := fun x y hx hy => by
      by_cases z : x = 26
      · subst z; exact rLm_ne (by decide) (Or.inr (fun q => hy (by rw [q]; decide)))
      · exact rLm_ne (fun q => hx (by rw [q]; decide)) (Or.inl z)
    have hR1 : zRf (rLm h (xAt h p) a b b) := rLm_rf hR
    have hB1 : mB (rLm h (xAt h p) a b b) := mB_c c1.lo (by decide) hB
    have eR := fun x hx => c1.lo.r (x := x) (DR := [46, 57, 53, 38]) (DS := []) (by decide) hx
    have hcm : jT (rLm h (xAt h p) a b b) p ∧ (1 ≤ b ∧ b ≤ 20) ∧ (0 ≤ a ∧ a ≤ (rLm h (xAt h p) a b b) 46 p - b) := by unfold jT; rw [eR 46 (by decide), eR 38 (by decide)]; omega
    have hlv : ∀ j, 0 ≤ j → j < b → jLv (rLm h (xAt h p) a b b) p a j = rLv h (xAt h p) a j := fun j j0 j1 => by
      have k := hen (a + j) (by omega) (by omega)
      have e8 := k.1.2.2.2.1
      unfold jLv rLv jAg tFig
      rw [eR 57 (by decide), eR 53 (by decide)]
      by_cases z : h 57 (30 * p + (a + j)) ≠ -1
      · have h3 := k.2.1 (k.2.2.2.2.2 z).1
        rw [if_pos (show (0 ≤ a + j ∧ a + j < h (xAt h p) 0) ∧ h (xAt h p + 8) (a + j) ≠ -1 by omega), h3.2.1]
        by_cases z2 : -999999 ≤ h 53 (30 * p + (a + j)) ∧ h 53 (30 * p + (a + j)) ≤ 999999
        · rw [if_pos ⟨z, z2⟩, if_pos z2]
        · rw [if_neg (fun w => z2 w.2), if_neg z2]
      · rw [if_neg (fun w => z w.1), if_neg (show ¬ ((0 ≤ a + j ∧ a + j < h (xAt h p) 0) ∧ h (xAt h p + 8) (a + j) ≠ -1) by omega), if_neg (by omega)]
    have hvv : zS (fun j => zb (jLv (rLm h (xAt h p) a b b) p a j ≠ -2147483648)) 0 b = zS (fun j => zb (rLv h (xAt h p) a j ≠ -2147483648)) 0 b := zS_congr 20 0 (by omega) (fun j j0 j1 => zb_eq (by rw [hlv j j0 j1]))
    have b1 := zF.of_eq (n := n) (r' := some (0, zS (fun j => zb (rLv h (xAt h p) a j ≠ -2147483648)) 0 b)) (h1' := jLm (rLm h (xAt h p) a b b) p a b b) (congrArg (fun z => some ((0, z) : zV)) ((if_pos hcm).trans hvv)) rfl rfl (if_pos hcm) (c_jly (d := 68) hS hR1 hB1 hp_ ha_ hb_)
    have c2 : zCh [71] [(38, 50)] (rLm h (xAt h p) a b b) (jLm (rLm h (xAt h p) a b b) p a b b) := fun x y hx hy => by
      by_cases z : x = 38
      · subst z; exact jLm_ne (by decide) (Or.inr (fun q => hy (by rw [q]; decide)))
      · exact jLm_ne (fun q => hx (by rw [q]; decide)) (Or.inl z)
    have hi := (c1.trans c2).hi (by decide) (by decide)
    have cc := (c1.trans c2).lo
    have g26 : (jLm (rLm h (xAt h p) a b b) p a b b) 26 0 = b := (jLm_ne (by decide) (Or.inl (by decide))).trans rLm_l
    have g27 : ∀ i, 0 ≤ i → i < b → (jLm (rLm h (xAt h p) a b b) p a b b) 27 i = rLv h (xAt h p) a i := fun i i0 i1 => (jLm_ne (by decide) (Or.inl (by decide))).trans ((if_neg (by omega)).trans (if_pos ⟨rfl, i0, i1⟩))
    have g71 : ∀ i, 0 ≤ i → i < b → (jLm (rLm h (xAt h p) a b b) p a b b) 71 i = rLv h (xAt h p) a i := fun i i0 i1 => ((if_neg (by omega)).trans (if_pos ⟨rfl, i0, i1⟩)).trans (hlv i i0 i1)
    have hvr : vRow (jLm (rLm h (xAt h p) a b b) p a b b) := ⟨by rw [jLm_l, g26], ⟨by rw [g26]; omega, fun i i0 i1 => by
      rw [g26] at i1
      rw [g27 i i0 i1]
      unfold rLv
      split
      · right; assumption
      · left; rfl⟩, fun i i0 i1 => by
      rw [g26] at i1
      rw [g27 i i0 i1, g71 i i0 i1]⟩
    exact oOK.FF a1 b1 rfl c1.lo c2.lo (by decide) (by decide) ⟨⟨hS, zRf_c cc (by decide) hR, hn, by omega⟩, jLm_B hB1 (by omega), mTx_c cc (by decide) hX, iS_c cc (by decide) (fun a h1 _ _ => ⟨hi a h1, hi (a + 1) (by omega)⟩) hSh, iT_c cc (by decide) (fun x h1 _ => hi x h1) hT, vHab_c cc (by decide) hV, iE_q (iE_c cc (by decide) hE), hvr, iN_c cc (by decide) hN, iU_c cc (by decide) hU, iG_c cc (by decide) hG, (by rw [cc.r (DR := [75]) (DS := []) (by decide) (x := 75) (by decide)]; exact hL), vTok_c cc (by decide) hTk, iW_c cc (by decide) hW⟩
  · have e17 := hT.1
    have a1 := zF.of_eq (n := n) (r' := some (0, -1)) (h1' := h) (congrArg (fun z => some ((0, z) : zV)) (if_neg c)) rfl rfl (if_neg c) (c_xlay (d := 66) hS hR hTb hp_ ha_ hb_)
    have hcm : ¬ (jT h p ∧ (1 ≤ b ∧ b ≤ 20) ∧ (0 ≤ a ∧ a ≤ h 46 p - b)) := fun z => c (by
      have hp0 : 0 ≤ p ∧ p < h 0 11 := by omega
      obtain ⟨ea, ⟨hZ, ⟨e46, e58, e59, e60⟩, hbd, hwn, hen⟩, hp17, hp5⟩ := iT_at hI hp0
      omega)
    have b1 := zF.of_eq (n := n) (r' := some (0, -1)) (h1' := h) (congrArg (fun z => some ((0, z) : zV)) (if_neg hcm)) rfl rfl (if_neg hcm) (c_jly (d := 68) hS hR hB hp_ ha_ hb_)
    exact oOK.FF a1 b1 rfl zChL.refl zChL.refl (by decide) (by decide) (hI.keep zCh.refl (by decide) (by decide) hR (by decide) hL)

