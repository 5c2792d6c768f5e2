theorem eSd_r {c : Int → Int} {y : Int} : 0 ≤ eSd c y ∧ eSd c y ≤ 9 := by unfold eSd; omega
theorem eng_e {q : Int} {h h1 : zMem} {g q2 : Int → Int} {D E : Int → Int} (hq : 0 ≤ q) (h1e : h1 = zup (zup (zup (znew h 19 g) 18 0 0) 18 1 0) 18 6 0) (hg : ∀ y, 0 ≤ y → y < 45 → g y = eSd D y) (hq2 : ∀ y, 0 ≤ y → y < 45 → q2 y = eSd E y) (hDE : ∀ k, 0 ≤ k → k ≤ 4 → D k = E k) : iE (q + 1) (zup (zup (zup (znew h1 67 q2) 38 44 0) 38 45 0) 38 46 0) := by
  have f0 : (zup (zup (zup (znew h1 67 q2) 38 44 0) 38 45 0) 38 46 0) 18 0 = 0 := by rw [zupA (by decide), zupA (by decide), zupA (by decide), znew_ne (by decide), h1e]; (repeat first | rw [zupE] | rw [zupA (by decide)] | rw [zupJ (by decide)])
  have f1 : (zup (zup (zup (znew h1 67 q2) 38 44 0) 38 45 0) 38 46 0) 18 1 = 0 := by rw [zupA (by decide), zupA (by decide), zupA (by decide), znew_ne (by decide), h1e]; (repeat first | rw [zupE] | rw [zupA (by decide)] | rw [zupJ (by decide)])
  have f6 : (zup (zup (zup (znew h1 67 q2) 38 44 0) 38 45 0) 38 46 0) 18 6 = 0 := by rw [zupA (by decide), zupA (by decide), zupA (by decide), znew_ne (by decide), h1e]; (repeat first | rw [zupE] | rw [zupA (by decide)] | rw [zupJ (by decide)])
  have g19 : (zup (zup (zup (znew h1 67 q2) 38 44 0) 38 45 0) 38 46 0) 19 = g := by rw [zup_ne (by decide), zup_ne (by decide), zup_ne (by decide), znew_ne (by decide), h1e, zup_ne (by decide), zup_ne (by decide), zup_ne (by decide), znew_at]
  have g67 : (zup (zup (zup (znew h1 67 q2) 38 44 0) 38 45 0) 38 46 0) 67 = q2 := by rw [zup_ne (by decide), zup_ne (by decide), zup_ne (by decide), znew_at]
  refine ⟨⟨by rw [f0]; (repeat first | rw [zupE] | rw [zupA (by decide)] | rw [zupJ (by decide)]), by rw [f1]; (repeat first | rw [zupE] | rw [zupA (by decide)] | rw [zupJ (by decide)]), by rw [f6]; (repeat first | rw [zupE] | rw [zupA (by decide)] | rw [zupJ (by decide)])⟩, ⟨by rw [f6]; decide, by rw [f1]; omega, by rw [f0]; omega, by rw [g19]; exact fun y a b => by rw [hg y a b]; exact eSd_r, fun i a b => by rw [f6] at b; omega⟩, by rw [g67]; exact fun y a b => by rw [hq2 y a b]; exact eSd_r, fun y a b => by rw [g67, g19, hg y a b, hq2 y a b]; unfold eSd; rw [hDE (y / 9) (by omega) (by omega)], fun i a b => by rw [f6] at b; omega⟩
theorem mBz {h : zMem} {g : Int → Int} (hB : mB h) : mB (zup (zup (zup (znew h 67 g) 38 44 0) 38 45 0) 38 46 0) := mBu46 (mBu45 (mB_c (zCh.up (h := znew h 67 g) (a := 38) (j := 44) (z := 0)).lo (by decide) (mB_c (zCh.new (h := h) (a := 67) (g := g)).lo (by decide) hB)) (by decide)) (by decide)

set_option maxRecDepth 100000 in
set_option maxHeartbeats 4000000 in
theorem op_engine {q : Int} {n : Nat} {sh : zSh} {h : zMem} {p e x : Int} (hI : INV q n sh h) (hq6 : q ≤ 520) (hp_ : zi32 p) (he_ : zi32 e) (hx_ : zi32 x) : oOK q n sh h (fun Q => zM yX10_engine cX10_engine 5 (some .int) 70 0 0 [(2, 0), (0, p), (0, e), (0, x)] n sh h Q) (fun n1 sh1 h1 Q => zM yX11_engine cX11_engine 8 (some .int) 70 0 0 [(2, 38), (0, p), (0, e), (0, x)] n1 sh1 h1 Q) := by
  obtain ⟨⟨hS, hR, hn, hq⟩, hB, hX, hSh, hT, hV, hE, hRw, hN, hU, hG, hL, hTk, hW⟩ := id hI
  have hTb := hI.xTb
  have e17 := hT.1
  refine ⟨_, c_xeng (d := 66) hS hR hTb hp_ he_ hx_, ?_⟩
  rintro r n1 sh1 h1 ⟨rfl, rfl, hz⟩
  rcases hz with ⟨c, rfl, g0, g, hz0, hg, rfl⟩ | ⟨c, rfl, hz0⟩
  · obtain ⟨ea, ⟨hZ, ⟨e46, e58, e59, e60⟩, hbd, hwn, hen⟩, hp17, hp5⟩ := iT_at hI c.1
    have c1 : zCh [24, 19] [(18, 0), (18, 1), (18, 6)] h (zup (zup (zup (znew g0 19 g) 18 0 0) 18 1 0) 18 6 0) := by
      have q0 : zCh [24] [] h g0 := ch_row (fun x hx => hz0 x (fun z => hx (by rw [z]; decide)))
      exact (q0.trans (((zCh.new (h := g0) (a := 19) (g := g)).trans zCh.up).trans (zCh.up.trans zCh.up))).mono (by decide) (by decide)
    have hR1 : zRf (zup (zup (zup (znew g0 19 g) 18 0 0) 18 1 0) 18 6 0) := zRf_c c1.lo (by decide) hR
    have hB1 : mB (zup (zup (zup (znew g0 19 g) 18 0 0) 18 1 0) 18 6 0) := mB_c c1.lo (by decide) hB
    have eR := fun x hx => c1.lo.r (x := x) (DR := [46, 47, 38, -1000]) (DS := []) (by decide) hx
    have hs : sLk h (zup (zup (zup (znew g0 19 g) 18 0 0) 18 1 0) 18 6 0) (xAt h p) p := ⟨by rw [eR 46 (by decide)]; exact e46.symm, by rw [eR 38 (by decide), e17]; exact c.1, fun i a b => by
      rw [eR 46 (by decide), e46] at b
      rw [eR 47 (by decide)]; exact (hen i a b).1.1⟩
    refine ⟨⟨rfl, eR (-1000) (by decide)⟩, _, rfl, _, c_jen (d := 66) hS hR1 hB1 hp_ he_ hx_, ?_⟩
    rintro r2 n2 sh2 h2 ⟨rfl, rfl, hz2⟩
    rcases hz2 with ⟨c3, rfl, q2, hq2, rfl⟩ | ⟨c3, _, _⟩
    · have c2 := ((zCh.new (h := zup (zup (zup (znew g0 19 g) 18 0 0) 18 1 0) 18 6 0) (a := 67) (g := q2)).trans (zCh.up (a := 38) (j := 44) (z := 0))).trans ((zCh.up (a := 38) (j := 45) (z := 0)).trans (zCh.up (a := 38) (j := 46) (z := 0)))
      have hi := (c1.trans c2).hi (by decide) (by decide)
      have cc := (c1.trans c2).lo
      exact ⟨rfl, ⟨rfl, cc.r (DR := [-1000]) (DS := []) (by decide) (by decide)⟩, ⟨⟨hS, zRf_c cc (by decide) hR, hn, by omega⟩, mBz hB1, mTx_c cc (by decide) hX, iS_c cc (by decide) (fun a h1 _ _ => ⟨hi a h1, hi (a + 1) (by omega)⟩) hSh, iT_c cc (by decide) (fun x h1 _ => hi x h1) hT, vHab_c cc (by decide) hV, eng_e hq rfl hg hq2 (sLk_dc hs c3), vRow_c cc (by decide) hRw, iN_c cc (by decide) hN, iU_c cc (by decide) hU, iG_c cc (by decide) hG, (by rw [cc.r (DR := [75]) (DS := []) (by decide) (x := 75) (by decide)]; exact hL), vTok_c cc (by decide) hTk, iW_c cc (by decide) hW⟩⟩
    · exact absurd ((sLk_ok hs).mp c.2) c3
  · have c1 : zCh [24] [] h h1 := ch_row (fun x hx => hz0 x (fun z => hx (by rw [z]; decide)))
    have hR1 : zRf h1 := zRf_c c1.lo (by decide) hR
    have hB1 : mB h1 := mB_c c1.lo (by decide) hB
    have eR := fun x hx => c1.lo.r (x := x) (DR := [46, 47, 38, -1000]) (DS := []) (by decide) hx
    refine ⟨⟨rfl, eR (-1000) (by decide)⟩, _, rfl, _, c_jen (d := 66) hS hR1 hB1 hp_ he_ hx_, ?_⟩
    rintro r2 n2 sh2 h2 ⟨rfl, rfl, hz2⟩
    rcases hz2 with ⟨c3, _⟩ | ⟨_, rfl, rfl⟩
    · have c4 : 0 ≤ p ∧ p < h 0 11 := by have := c3.1.1.1; rw [eR 38 (by decide), e17] at this; exact this
      obtain ⟨ea, ⟨hZ, ⟨e46, e58, e59, e60⟩, hbd, hwn, hen⟩, hp17, hp5⟩ := iT_at hI c4
      have hs : sLk h h1 (xAt h p) p := ⟨by rw [eR 46 (by decide)]; exact e46.symm, by rw [eR 38 (by decide), e17]; exact c4, fun i a b => by
        rw [eR 46 (by decide), e46] at b
        rw [eR 47 (by decide)]; exact (hen i a b).1.1⟩
      exact absurd ⟨c4, (sLk_ok hs).mpr c3⟩ c
    · exact ⟨rfl, ⟨rfl, eR (-1000) (by decide)⟩, hI.keep c1 (by decide) (by decide) hR1 (by decide) (by rw [c1.lo.r (DR := [75]) (DS := []) (by decide) (by decide)]; exact hL)⟩

set_option maxRecDepth 100000 in
set_option maxHeartbeats 4000000 in
theorem op_pair {q : Int} {n : Nat} {sh : zSh} {h : zMem} {p x : Int} (hI : INV q n sh h) (hq6 : q ≤ 520) (hp_ : zi32 p) (hx_ : zi32 x) : oOK q n sh h (fun Q => zM yX10_pair cX10_pair 4 (some .int) 70 0 0 [(2, 0), (0, p), (0, x)] n sh h Q) (fun n1 sh1 h1 Q => zM yX11_pair cX11_pair 7 (some .int) 70 0 0 [(2, 38), (0, p), (0, x)] n1 sh1 h1 Q) := by
  obtain ⟨⟨hS, hR, hn, hq⟩, hB, hX, hSh, hT, hV, hE, hRw, hN, hU, hG, hL, hTk, hW⟩ := id hI
  have hTb := hI.xTb
  have e17 := hT.1
  have h80 := hV.2.2.1.1
  refine ⟨_, c_xpair (d := 66) hS hR hTb hp_ hx_ hV.2.2.1, ?_⟩
  rintro r n1 sh1 h1 ⟨rfl, rfl, hz⟩
  rcases hz with ⟨c, g, hfl, rfl, rfl⟩ | ⟨c, rfl, rfl⟩
  · obtain ⟨ea, ⟨hZ, ⟨e46, e58, e59, e60⟩, hbd, hwn, hen⟩, hp17, hp5⟩ := iT_at hI c.1
    have hE30 := hZ.2.2.1
    have ht80 := hZ.1
    have c1 : zCh [17, 11] [] h (znew (znew h 17 g) 11 (pAll (znew h 17 g) (xAt h p) (fun y => if y = 5 then 0 else if y = 4 then 31 else h 11 y))) := (zCh.new (h := h) (a := 17) (g := g)).trans zCh.new
    have eL : ∀ r y, r < 80 → r ≠ 17 → r ≠ 11 → (znew (znew h 17 g) 11 (pAll (znew h 17 g) (xAt h p) (fun y => if y = 5 then 0 else if y = 4 then 31 else h 11 y))) r y = h r y := fun r y _ a b => by rw [znew_ne b, znew_ne a]
    have hR1 : zRf (znew (znew h 17 g) 11 (pAll (znew h 17 g) (xAt h p) (fun y => if y = 5 then 0 else if y = 4 then 31 else h 11 y))) := zRf_c c1.lo (by decide) hR
    have hB1 : mB (znew (znew h 17 g) 11 (pAll (znew h 17 g) (xAt h p) (fun y => if y = 5 then 0 else if y = 4 then 31 else h 11 y))) := mB_c c1.lo (by decide) hB
    have hV1 : vHab (znew (znew h 17 g) 11 (pAll (znew h 17 g) (xAt h p) (fun y => if y = 5 then 0 else if y = 4 then 31 else h 11 y))) := vHab_c c1.lo (by decide) hV
    have hTk1 : vTok (znew (znew h 17 g) 11 (pAll (znew h 17 g) (xAt h p) (fun y => if y = 5 then 0 else if y = 4 then 31 else h 11 y))) := vTok_c c1.lo (by decide) hTk
    have hWe : ∀ a w v, hWr (znew (znew h 17 g) 11 (pAll (znew h 17 g) (xAt h p) (fun y => if y = 5 then 0 else if y = 4 then 31 else h 11 y))) a w v = hWr h a w v := fun a w v => by
      have e1 : hHs (znew (znew h 17 g) 11 (pAll (znew h 17 g) (xAt h p) (fun y => if y = 5 then 0 else if y = 4 then 31 else h 11 y))) a w = hHs h a w := by
        funext i s
        unfold hHs
        rw [eL 12 i (by decide) (by decide) (by decide), eL 13 i (by decide) (by decide) (by decide), eL 14 i (by decide) (by decide) (by decide), eL 15 i (by decide) (by decide) (by decide), eL 16 i (by decide) (by decide) (by decide)]
      unfold hWr
      rw [e1, eL 10 1 (by decide) (by decide) (by decide)]
    have hcm : jT (znew (znew h 17 g) 11 (pAll (znew h 17 g) (xAt h p) (fun y => if y = 5 then 0 else if y = 4 then 31 else h 11 y))) p ∧ 2 ≤ (znew (znew h 17 g) 11 (pAll (znew h 17 g) (xAt h p) (fun y => if y = 5 then 0 else if y = 4 then 31 else h 11 y))) 38 20 ∧ 0 ≤ x ∧ x ≤ 5 := by
      unfold jT; rw [eL 38 17 (by decide) (by decide) (by decide), eL 38 20 (by decide) (by decide) (by decide), hV.1]; omega
    have hpe : pqE (znew h 17 g) (znew (znew h 17 g) 11 (pAll (znew h 17 g) (xAt h p) (fun y => if y = 5 then 0 else if y = 4 then 31 else h 11 y))) (xAt h p) p (h 10 0) := fun a w b u ha hw hb hu => by
      have f17 : ∀ a w i, (0 ≤ a ∧ a < h 10 0) → (0 ≤ w ∧ w < 3) → (0 ≤ i ∧ i < h (xAt h p) 0) → znew h 17 g 17 ((a * 3 + w) * 30 + i) = hWr h a w (h 47 (30 * p + i)) := fun a w i h1 h2 h3 => by
        rw [znew_at, hfl a w i h1 h2 h3 (by omega), (hen i h3.1 h3.2).1.1]
      have ft : ∀ i, 0 ≤ i → i < h (xAt h p) 0 → znew h 17 g (xAt h p + 1) i = h 47 (30 * p + i) := fun i h1 h2 => by
        rw [znew_ne (by omega), (hen i h1 h2).1.1]
      have f0 : znew h 17 g (xAt h p) 0 = h (xAt h p) 0 := by rw [znew_ne (by omega)]
      have f46 : (znew (znew h 17 g) 11 (pAll (znew h 17 g) (xAt h p) (fun y => if y = 5 then 0 else if y = 4 then 31 else h 11 y))) 46 p = h (xAt h p) 0 := (eL 46 p (by decide) (by decide) (by decide)).trans e46
      have q1 : pAF (znew h 17 g) (xAt h p) a w b u = qAF (znew (znew h 17 g) 11 (pAll (znew h 17 g) (xAt h p) (fun y => if y = 5 then 0 else if y = 4 then 31 else h 11 y))) p a w b u := by
        unfold pAF qAF
        rw [f0, f46]
        refine zS_congr 30 0 (by omega) (fun i h1 h2 => zb_eq ?_)
        rw [f17 a w i ha hw ⟨h1, h2⟩, f17 b u i hb hu ⟨h1, h2⟩, ft i h1 h2, eL 47 _ (by decide) (by decide) (by decide), hWe, hWe]
      have q2 : pBT (znew h 17 g) (xAt h p) a w b u = qBT (znew (znew h 17 g) 11 (pAll (znew h 17 g) (xAt h p) (fun y => if y = 5 then 0 else if y = 4 then 31 else h 11 y))) p a w b u := by
        unfold pBT qBT
        rw [f0, f46]
        refine zS_congr 30 0 (by omega) (fun i h1 h2 => zb_eq ?_)
        rw [f17 a w i ha hw ⟨h1, h2⟩, f17 b u i hb hu ⟨h1, h2⟩, ft i h1 h2, eL 47 _ (by decide) (by decide) (by decide), hWe, hWe]
      have q3 := zS_le (p := fun j => zb ((znew (znew h 17 g) 11 (pAll (znew h 17 g) (xAt h p) (fun y => if y = 5 then 0 else if y = 4 then 31 else h 11 y))) 47 (30 * p + j) ≠ -2147483648 ∧ hWr (znew (znew h 17 g) 11 (pAll (znew h 17 g) (xAt h p) (fun y => if y = 5 then 0 else if y = 4 then 31 else h 11 y))) a w ((znew (znew h 17 g) 11 (pAll (znew h 17 g) (xAt h p) (fun y => if y = 5 then 0 else if y = 4 then 31 else h 11 y))) 47 (30 * p + j)) = hWr (znew (znew h 17 g) 11 (pAll (znew h 17 g) (xAt h p) (fun y => if y = 5 then 0 else if y = 4 then 31 else h 11 y))) b u ((znew (znew h 17 g) 11 (pAll (znew h 17 g) (xAt h p) (fun y => if y = 5 then 0 else if y = 4 then 31 else h 11 y))) 47 (30 * p + j)) ∧ hWr (znew (znew h 17 g) 11 (pAll (znew h 17 g) (xAt h p) (fun y => if y = 5 then 0 else if y = 4 then 31 else h 11 y))) a w ((znew (znew h 17 g) 11 (pAll (znew h 17 g) (xAt h p) (fun y => if y = 5 then 0 else if y = 4 then 31 else h 11 y))) 47 (30 * p + j)) ≠ (znew (znew h 17 g) 11 (pAll (znew h 17 g) (xAt h p) (fun y => if y = 5 then 0 else if y = 4 then 31 else h 11 y))) 47 (30 * p + j))) (N := (znew (znew h 17 g) 11 (pAll (znew h 17 g) (xAt h p) (fun y => if y = 5 then 0 else if y = 4 then 31 else h 11 y))) 46 p) 30 0 (by omega) (fun j _ _ => by rcases zb_or ((znew (znew h 17 g) 11 (pAll (znew h 17 g) (xAt h p) (fun y => if y = 5 then 0 else if y = 4 then 31 else h 11 y))) 47 (30 * p + j) ≠ -2147483648 ∧ hWr (znew (znew h 17 g) 11 (pAll (znew h 17 g) (xAt h p) (fun y => if y = 5 then 0 else if y = 4 then 31 else h 11 y))) a w ((znew (znew h 17 g) 11 (pAll (znew h 17 g) (xAt h p) (fun y => if y = 5 then 0 else if y = 4 then 31 else h 11 y))) 47 (30 * p + j)) = hWr (znew (znew h 17 g) 11 (pAll (znew h 17 g) (xAt h p) (fun y => if y = 5 then 0 else if y = 4 then 31 else h 11 y))) b u ((znew (znew h 17 g) 11 (pAll (znew h 17 g) (xAt h p) (fun y => if y = 5 then 0 else if y = 4 then 31 else h 11 y))) 47 (30 * p + j)) ∧ hWr (znew (znew h 17 g) 11 (pAll (znew h 17 g) (xAt h p) (fun y => if y = 5 then 0 else if y = 4 then 31 else h 11 y))) a w ((znew (znew h 17 g) 11 (pAll (znew h 17 g) (xAt h p) (fun y => if y = 5 then 0 else if y = 4 then 31 else h 11 y))) 47 (30 * p + j)) ≠ (znew (znew h 17 g) 11 (pAll (znew h 17 g) (xAt h p) (fun y => if y = 5 then 0 else if y = 4 then 31 else h 11 y))) 47 (30 * p + j)) with z | z <;> omega) (by omega)
      refine ⟨q1, q2, q3.1, ?_⟩
      have q4 := q3.2
      show zS _ 0 _ ≤ 30
      omega
    have hpq := pq_all (s := (fun y => if y = 5 then 0 else if y = 4 then 31 else h 11 y)) (r := fun y => if y = 4 then -1 else (znew (znew h 17 g) 11 (pAll (znew h 17 g) (xAt h p) (fun y => if y = 5 then 0 else if y = 4 then 31 else h 11 y))) 74 y) hpe (by rw [znew_ne (by decide)]) (by rw [eL 38 20 (by decide) (by decide) (by decide), hV.1]) (by omega) (Or.inl ⟨rfl, rfl, rfl⟩)
    refine ⟨⟨rfl, c1.lo.r (DR := [-1000]) (DS := []) (by decide) (by decide)⟩, _, rfl, _, c_jpair (d := 68) hS hR1 hB1 hV1 hTk1 hp_ hx_, ?_⟩
    rintro r2 n2 sh2 h2 ⟨rfl, rfl, rfl, rfl⟩
    rw [if_pos hcm, if_pos hcm]
    have c2 : zCh [74] [] (znew (znew h 17 g) 11 (pAll (znew h 17 g) (xAt h p) (fun y => if y = 5 then 0 else if y = 4 then 31 else h 11 y))) (znew (znew (znew h 17 g) 11 (pAll (znew h 17 g) (xAt h p) (fun y => if y = 5 then 0 else if y = 4 then 31 else h 11 y))) 74 (qAll (znew (znew h 17 g) 11 (pAll (znew h 17 g) (xAt h p) (fun y => if y = 5 then 0 else if y = 4 then 31 else h 11 y))) p (fun y => if y = 4 then -1 else (znew (znew h 17 g) 11 (pAll (znew h 17 g) (xAt h p) (fun y => if y = 5 then 0 else if y = 4 then 31 else h 11 y))) 74 y))) := zCh.new
    have cc := c1.trans c2
    exact ⟨by rw [hpq.1 x c.2.2.1 c.2.2.2], ⟨rfl, cc.lo.r (DR := [-1000]) (DS := []) (by decide) (by decide)⟩, hI.keep cc (by decide) (by decide) (hR1.new (by decide)) (by decide) (by rw [cc.lo.r (DR := [75]) (DS := []) (by decide) (by decide)]; exact hL)⟩
  · refine ⟨⟨rfl, rfl⟩, _, rfl, _, c_jpair (d := 68) hS hR hB hV hTk hp_ hx_, ?_⟩
    rintro r2 n2 sh2 h2 ⟨rfl, rfl, rfl, rfl⟩
    have hcm : ¬ (jT h1 p ∧ 2 ≤ h1 38 20 ∧ 0 ≤ x ∧ x ≤ 5) := by have := hV.1; omega
    rw [if_neg hcm, if_neg hcm]
    exact ⟨rfl, ⟨rfl, rfl⟩, hI.keep zCh.refl (by decide) (by decide) hR (by decide) hL⟩

