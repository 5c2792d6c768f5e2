theorem iTb_one {sh : zSh} {h h' : zMem} {p b e : Int} (k : iTb sh h p b) (hb0 : h' b = h b) (hbo : ∀ j, 1 ≤ j → j ≤ 10 → ∀ y, y ≠ e → h' (b + j) y = h (b + j) y) (hlo : ∀ r ∈ ([47, 51, 52, 53, 54, 55, 56, 57, 61, 66] : List Int), ∀ y, y ≠ 30 * p + e → h' r y = h r y) (hl4 : ∀ r ∈ ([46, 58, 59, 60] : List Int), h' r = h r) (hw9 : h' (b + 9) = h (b + 9)) (ne : iEn h' b (30 * p + e) e) : iTb sh h' p b := by
  obtain ⟨y1, y2, y3, y4, y5⟩ := k
  refine ⟨⟨y1.1, y1.2.1, by rw [hb0]; exact y1.2.2.1, by rw [hb0]; exact y1.2.2.2⟩, by rw [hl4 46 (by decide), hl4 58 (by decide), hl4 59 (by decide), hl4 60 (by decide), hb0]; exact y2, by rw [hb0]; exact y3, by rw [hw9, hb0]; exact y4, fun i c d => ?_⟩
  rw [hb0] at d
  by_cases z : i = e
  · rw [z]; exact ne
  · exact iEn_same (fun k z1 z2 => hbo k z1 z2 i z) (fun r hr => hlo r hr _ (by omega)) (y5 i c d)

theorem hWr_cg {g h : zMem} {a w x : Int} (e : ∀ r y, r < 80 → g r y = h r y) : hWr g a w x = hWr h a w x := by
  have e1 : hHs g a w = hHs h a w := by
    funext i s
    unfold hHs
    rw [e 12 i (by decide), e 13 i (by decide), e 14 i (by decide), e 15 i (by decide), e 16 i (by decide)]
  unfold hWr
  rw [e1, e 10 1 (by decide)]

set_option maxRecDepth 100000 in
set_option maxHeartbeats 4000000 in
theorem op_work {q : Int} {n : Nat} {sh : zSh} {h : zMem} {a w p e : Int} (hI : INV q n sh h) (hq6 : q ≤ 520) (ha_ : zi32 a) (hw_ : zi32 w) (hp_ : zi32 p) (he_ : zi32 e) : oOK q n sh h (fun Q => zM yX10_work cX10_work 7 (some .int) 70 0 0 [(2, 0), (0, a), (0, w), (0, p), (0, e)] n sh h Q) (fun n1 sh1 h1 Q => zM yX11_work cX11_work 8 (some .int) 70 0 0 [(2, 38), (0, a), (0, w), (0, p), (0, e)] n1 sh1 h1 Q) := by
  obtain ⟨⟨hS, hR, hn, hq⟩, hB, hX, hSh, hT, hV, hE, hRw, hN, hU, hG, hL, hTk, hW⟩ := id hI
  have hTb := hI.xTb
  by_cases c : xT h p ∧ ((0 ≤ a ∧ a < h 10 0) ∧ 0 ≤ w ∧ w < 3) ∧ tMay h (xAt h p) a e
  · obtain ⟨ea, ⟨hZ, ⟨e46, e58, e59, e60⟩, hbd, hwn, hen⟩, hp17, hp5⟩ := iT_at hI c.1
    have hkb : iTb sh h p (xAt h p) := ⟨hZ, ⟨e46, e58, e59, e60⟩, hbd, hwn, hen⟩
    have hE30 := hZ.2.2.1
    have ht80 := hZ.1
    have e17 := hT.1
    have e20 := hV.1
    have h12 := hB.2.2.2.2.2.2.1
    have e16 := hG.1
    have htv := c.2.2.2.2.1
    have hte := tTr_ne htv
    have k := hen e hte.1.1 hte.1.2
    have e8 := k.1.2.2.2.1
    have e2 := k.1.2.1
    have e5 := k.1.2.2.1
    have hmy := c.2.2
    have hvr0 := hWr_r (a := a) (w := w) hV.2.2.1 (tTr_r (e := e) (by have := hTb.2 p c.1.1 c.1.2; rw [← ea] at this; exact this.2))
    have a0 := zF.of_eq (n := n) (r' := some (0, hWr h a w (tTr h (xAt h p) e))) (h1' := tWork h (xAt h p) a w e (hWr h a w (tTr h (xAt h p) e)) (h 0 12)) (congrArg (fun z => some ((0, z) : zV)) (if_pos c)) rfl rfl (if_pos c) (c_xwk (d := 67) hS hR hTb ha_ hw_ hp_ he_ hV.2.2.1 (by rw [← hG.1]; exact hB.2.2.2.2.2.2.1))
    generalize hv : hWr h a w (tTr h (xAt h p) e) = v at a0 hvr0
    have hvr : -999999999 ≤ v ∧ v ≤ 999999999 := by rcases hvr0 with q | q; exact absurd q.2 htv; exact ⟨q.1, q.2.1⟩
    rw [hte.2] at htv
    by_cases cf : h (xAt h p + 2) e = -1 ∨ h (xAt h p + 2) e = a
    · by_cases cg : h (xAt h p + 5) e ≠ -1 ∧ v = h (xAt h p + 7) e ∧ w ≠ h (xAt h p + 6) e
      · have k6 := k.2.2.2.1 (by omega)
        have ct : tWork h (xAt h p) a w e v (h 0 12) = zup (zup (zup (zup h (xAt h p + 2) e a) (xAt h p + 3) e w) (xAt h p + 4) e v) (xAt h p + 8) e (h 0 12) := (if_pos cf).trans (if_pos cg)
        rw [ct] at a0
        have eL : ∀ x y, x < 80 → (zup (zup (zup (zup h (xAt h p + 2) e a) (xAt h p + 3) e w) (xAt h p + 4) e v) (xAt h p + 8) e (h 0 12)) x y = h x y := fun x y hx => by (repeat first | rw [zupE] | rw [zupA (by omega)] | rw [zupJ (by omega)])
        have c1 : zChL ((([] ++ []) ++ []) ++ []) ((([] ++ []) ++ []) ++ []) h (zup (zup (zup (zup h (xAt h p + 2) e a) (xAt h p + 3) e w) (xAt h p + 4) e v) (xAt h p + 8) e (h 0 12)) := ((((zChL.hup (by omega)).trans (zChL.hup (by omega))).trans (zChL.hup (by omega))).trans (zChL.hup (by omega)))
        have hR1 : zRf (zup (zup (zup (zup h (xAt h p + 2) e a) (xAt h p + 3) e w) (xAt h p + 4) e v) (xAt h p + 8) e (h 0 12)) := zRf_c c1 (by decide) hR
        have hB1 : mB (zup (zup (zup (zup h (xAt h p + 2) e a) (xAt h p + 3) e w) (xAt h p + 4) e v) (xAt h p + 8) e (h 0 12)) := mB_c c1 (by decide) hB
        have hV1 : vHab (zup (zup (zup (zup h (xAt h p + 2) e a) (xAt h p + 3) e w) (xAt h p + 4) e v) (xAt h p + 8) e (h 0 12)) := vHab_c c1 (by decide) hV
        have hTk1 : vTok (zup (zup (zup (zup h (xAt h p + 2) e a) (xAt h p + 3) e w) (xAt h p + 4) e v) (xAt h p + 8) e (h 0 12)) := vTok_c c1 (by decide) hTk
        have eW : hWr (zup (zup (zup (zup h (xAt h p + 2) e a) (xAt h p + 3) e w) (xAt h p + 4) e v) (xAt h p + 8) e (h 0 12)) a w ((zup (zup (zup (zup h (xAt h p + 2) e a) (xAt h p + 3) e w) (xAt h p + 4) e v) (xAt h p + 8) e (h 0 12)) 47 (30 * p + e)) = v := by
          rw [eL 47 _ (by decide), ← k.1.1, ← hte.2]
          exact (hWr_cg (fun x y hx => eL x y hx)).trans hv
        have hcm : jWk (zup (zup (zup (zup h (xAt h p + 2) e a) (xAt h p + 3) e w) (xAt h p + 4) e v) (xAt h p + 8) e (h 0 12)) a w p e := by
          unfold jWk jWd jE
          rw [eW, eL 38 20 (by decide), eL 38 17 (by decide), eL 46 p (by decide), eL 58 p (by decide), eL 57 _ (by decide), eL 51 _ (by decide), eL 54 _ (by decide)]
          omega
        have b0 := zF.of_eq (n := n) (r' := some (0, v)) (congrArg (fun z => some ((0, z) : zV)) ((if_pos hcm).trans eW)) rfl rfl (if_pos hcm) (c_jwk (d := 67) hS hR1 hB1 hV1 hTk1 ha_ hw_ hp_ he_)
        have cm : jWm (zup (zup (zup (zup h (xAt h p + 2) e a) (xAt h p + 3) e w) (xAt h p + 4) e v) (xAt h p + 8) e (h 0 12)) a w (30 * p + e) (hWr (zup (zup (zup (zup h (xAt h p + 2) e a) (xAt h p + 3) e w) (xAt h p + 4) e v) (xAt h p + 8) e (h 0 12)) a w ((zup (zup (zup (zup h (xAt h p + 2) e a) (xAt h p + 3) e w) (xAt h p + 4) e v) (xAt h p + 8) e (h 0 12)) 47 (30 * p + e))) ((zup (zup (zup (zup h (xAt h p + 2) e a) (xAt h p + 3) e w) (xAt h p + 4) e v) (xAt h p + 8) e (h 0 12)) 38 16) = zup (zup (zup (zup (zup (zup (zup (zup h (xAt h p + 2) e a) (xAt h p + 3) e w) (xAt h p + 4) e v) (xAt h p + 8) e (h 0 12)) 51 (30 * p + e) a) 52 (30 * p + e) w) 53 (30 * p + e) v) 57 (30 * p + e) (h 0 12) := by
          rw [eW, eL 38 16 (by decide), hG.1]
          unfold jWm
          rw [eL 51 _ (by decide), eL 54 _ (by decide), eL 56 _ (by decide), eL 55 _ (by decide), eL 53 _ (by decide), eL 52 _ (by decide)]
          rw [if_pos (by omega), if_pos (by omega)]
        rw [cm] at b0
        have c2 : zChL ((([51] ++ [52]) ++ [53]) ++ [57]) ((([] ++ []) ++ []) ++ []) (zup (zup (zup (zup h (xAt h p + 2) e a) (xAt h p + 3) e w) (xAt h p + 4) e v) (xAt h p + 8) e (h 0 12)) (zup (zup (zup (zup (zup (zup (zup (zup h (xAt h p + 2) e a) (xAt h p + 3) e w) (xAt h p + 4) e v) (xAt h p + 8) e (h 0 12)) 51 (30 * p + e) a) 52 (30 * p + e) w) 53 (30 * p + e) v) 57 (30 * p + e) (h 0 12)) := (((zCh.upA.lo.trans zCh.upA.lo).trans zCh.upA.lo).trans zCh.upA.lo)
        have cc := c1.trans c2
        have hx9 : ∀ x : Int, 80 ≤ x → (∀ k, 0 ≤ k → k ≤ 10 → x ≠ xAt h p + k) → (zup (zup (zup (zup (zup (zup (zup (zup h (xAt h p + 2) e a) (xAt h p + 3) e w) (xAt h p + 4) e v) (xAt h p + 8) e (h 0 12)) 51 (30 * p + e) a) 52 (30 * p + e) w) 53 (30 * p + e) v) 57 (30 * p + e) (h 0 12)) x = h x := fun x h1 h2 => by
          have q2 := h2 2 (by omega) (by omega)
          have q3 := h2 3 (by omega) (by omega)
          have q4 := h2 4 (by omega) (by omega)
          have q5 := h2 5 (by omega) (by omega)
          have q6 := h2 6 (by omega) (by omega)
          have q7 := h2 7 (by omega) (by omega)
          have q8 := h2 8 (by omega) (by omega)
          (repeat rw [zup_ne (by omega)])
        have hb0 : (zup (zup (zup (zup (zup (zup (zup (zup h (xAt h p + 2) e a) (xAt h p + 3) e w) (xAt h p + 4) e v) (xAt h p + 8) e (h 0 12)) 51 (30 * p + e) a) 52 (30 * p + e) w) 53 (30 * p + e) v) 57 (30 * p + e) (h 0 12)) (xAt h p) = h (xAt h p) := by (repeat rw [zup_ne (by omega)])
        have hbo : ∀ j, 1 ≤ j → j ≤ 10 → ∀ y, y ≠ e → (zup (zup (zup (zup (zup (zup (zup (zup h (xAt h p + 2) e a) (xAt h p + 3) e w) (xAt h p + 4) e v) (xAt h p + 8) e (h 0 12)) 51 (30 * p + e) a) 52 (30 * p + e) w) 53 (30 * p + e) v) 57 (30 * p + e) (h 0 12)) (xAt h p + j) y = h (xAt h p + j) y := fun j _ _ y hy => by (repeat first | rw [zupJ hy] | rw [zupA (by omega)])
        have hlo : ∀ r ∈ ([47, 51, 52, 53, 54, 55, 56, 57, 61, 66] : List Int), ∀ y, y ≠ 30 * p + e → (zup (zup (zup (zup (zup (zup (zup (zup h (xAt h p + 2) e a) (xAt h p + 3) e w) (xAt h p + 4) e v) (xAt h p + 8) e (h 0 12)) 51 (30 * p + e) a) 52 (30 * p + e) w) 53 (30 * p + e) v) 57 (30 * p + e) (h 0 12)) r y = h r y := fun r hr y hy => by
          have q := (by decide : ∀ r ∈ ([47, 51, 52, 53, 54, 55, 56, 57, 61, 66] : List Int), r < 80) r hr
          (repeat first | rw [zupJ hy] | rw [zupA (by omega)])
        have hlr : ∀ r, r < 80 → r ≠ 51 → r ≠ 52 → r ≠ 53 → r ≠ 57 → (zup (zup (zup (zup (zup (zup (zup (zup h (xAt h p + 2) e a) (xAt h p + 3) e w) (xAt h p + 4) e v) (xAt h p + 8) e (h 0 12)) 51 (30 * p + e) a) 52 (30 * p + e) w) 53 (30 * p + e) v) 57 (30 * p + e) (h 0 12)) r = h r := fun r q q51 q52 q53 q57 => by (repeat rw [zup_ne (by omega)])
        have hnew : iTb sh (zup (zup (zup (zup (zup (zup (zup (zup h (xAt h p + 2) e a) (xAt h p + 3) e w) (xAt h p + 4) e v) (xAt h p + 8) e (h 0 12)) 51 (30 * p + e) a) 52 (30 * p + e) w) 53 (30 * p + e) v) 57 (30 * p + e) (h 0 12)) p (xAt h p) := by
          refine iTb_one hkb hb0 hbo hlo (fun r hr => hlr r ((by decide : ∀ r ∈ ([46, 58, 59, 60] : List Int), r < 80) r hr) ((by decide : ∀ r ∈ ([46, 58, 59, 60] : List Int), r ≠ 51) r hr) ((by decide : ∀ r ∈ ([46, 58, 59, 60] : List Int), r ≠ 52) r hr) ((by decide : ∀ r ∈ ([46, 58, 59, 60] : List Int), r ≠ 53) r hr) ((by decide : ∀ r ∈ ([46, 58, 59, 60] : List Int), r ≠ 57) r hr)) (by (repeat rw [zup_ne (by omega)])) ?_
          have hB_ : ∀ j, 1 ≤ j → j ≤ 10 → j ≠ 2 → j ≠ 3 → j ≠ 4 → j ≠ 8 → (zup (zup (zup (zup (zup (zup (zup (zup h (xAt h p + 2) e a) (xAt h p + 3) e w) (xAt h p + 4) e v) (xAt h p + 8) e (h 0 12)) 51 (30 * p + e) a) 52 (30 * p + e) w) 53 (30 * p + e) v) 57 (30 * p + e) (h 0 12)) (xAt h p + j) e = h (xAt h p + j) e := fun j j0 j1 q2 q3 q4 q8 => by (repeat rw [zupA (by omega)])
          have hL_ : ∀ r, r < 80 → r ≠ 51 → r ≠ 52 → r ≠ 53 → r ≠ 57 → (zup (zup (zup (zup (zup (zup (zup (zup h (xAt h p + 2) e a) (xAt h p + 3) e w) (xAt h p + 4) e v) (xAt h p + 8) e (h 0 12)) 51 (30 * p + e) a) 52 (30 * p + e) w) 53 (30 * p + e) v) 57 (30 * p + e) (h 0 12)) r (30 * p + e) = h r (30 * p + e) := fun r q q51 q52 q53 q57 => by (repeat rw [zupA (by omega)])
          have u2 : (zup (zup (zup (zup (zup (zup (zup (zup h (xAt h p + 2) e a) (xAt h p + 3) e w) (xAt h p + 4) e v) (xAt h p + 8) e (h 0 12)) 51 (30 * p + e) a) 52 (30 * p + e) w) 53 (30 * p + e) v) 57 (30 * p + e) (h 0 12)) (xAt h p + 2) e = a := by (repeat first | rw [zupE] | rw [zupA (by omega)] | rw [zupJ (by omega)])
          have u3 : (zup (zup (zup (zup (zup (zup (zup (zup h (xAt h p + 2) e a) (xAt h p + 3) e w) (xAt h p + 4) e v) (xAt h p + 8) e (h 0 12)) 51 (30 * p + e) a) 52 (30 * p + e) w) 53 (30 * p + e) v) 57 (30 * p + e) (h 0 12)) (xAt h p + 3) e = w := by (repeat first | rw [zupE] | rw [zupA (by omega)] | rw [zupJ (by omega)])
          have u4 : (zup (zup (zup (zup (zup (zup (zup (zup h (xAt h p + 2) e a) (xAt h p + 3) e w) (xAt h p + 4) e v) (xAt h p + 8) e (h 0 12)) 51 (30 * p + e) a) 52 (30 * p + e) w) 53 (30 * p + e) v) 57 (30 * p + e) (h 0 12)) (xAt h p + 4) e = v := by (repeat first | rw [zupE] | rw [zupA (by omega)] | rw [zupJ (by omega)])
          have u8 : (zup (zup (zup (zup (zup (zup (zup (zup h (xAt h p + 2) e a) (xAt h p + 3) e w) (xAt h p + 4) e v) (xAt h p + 8) e (h 0 12)) 51 (30 * p + e) a) 52 (30 * p + e) w) 53 (30 * p + e) v) 57 (30 * p + e) (h 0 12)) (xAt h p + 8) e = h 0 12 := by (repeat first | rw [zupE] | rw [zupA (by omega)] | rw [zupJ (by omega)])
          have u51 : (zup (zup (zup (zup (zup (zup (zup (zup h (xAt h p + 2) e a) (xAt h p + 3) e w) (xAt h p + 4) e v) (xAt h p + 8) e (h 0 12)) 51 (30 * p + e) a) 52 (30 * p + e) w) 53 (30 * p + e) v) 57 (30 * p + e) (h 0 12)) 51 (30 * p + e) = a := by (repeat first | rw [zupE] | rw [zupA (by omega)] | rw [zupJ (by omega)])
          have u52 : (zup (zup (zup (zup (zup (zup (zup (zup h (xAt h p + 2) e a) (xAt h p + 3) e w) (xAt h p + 4) e v) (xAt h p + 8) e (h 0 12)) 51 (30 * p + e) a) 52 (30 * p + e) w) 53 (30 * p + e) v) 57 (30 * p + e) (h 0 12)) 52 (30 * p + e) = w := by (repeat first | rw [zupE] | rw [zupA (by omega)] | rw [zupJ (by omega)])
          have u53 : (zup (zup (zup (zup (zup (zup (zup (zup h (xAt h p + 2) e a) (xAt h p + 3) e w) (xAt h p + 4) e v) (xAt h p + 8) e (h 0 12)) 51 (30 * p + e) a) 52 (30 * p + e) w) 53 (30 * p + e) v) 57 (30 * p + e) (h 0 12)) 53 (30 * p + e) = v := by (repeat first | rw [zupE] | rw [zupA (by omega)] | rw [zupJ (by omega)])
          have u57 : (zup (zup (zup (zup (zup (zup (zup (zup h (xAt h p + 2) e a) (xAt h p + 3) e w) (xAt h p + 4) e v) (xAt h p + 8) e (h 0 12)) 51 (30 * p + e) a) 52 (30 * p + e) w) 53 (30 * p + e) v) 57 (30 * p + e) (h 0 12)) 57 (30 * p + e) = h 0 12 := by (repeat first | rw [zupE] | rw [zupA (by omega)] | rw [zupJ (by omega)])
          unfold iEn
          rw [hB_ 1 (by omega) (by omega) (by omega) (by omega) (by omega) (by omega), u2, u3, u4, hB_ 5 (by omega) (by omega) (by omega) (by omega) (by omega) (by omega), hB_ 6 (by omega) (by omega) (by omega) (by omega) (by omega) (by omega), hB_ 7 (by omega) (by omega) (by omega) (by omega) (by omega) (by omega), u8, hB_ 9 (by omega) (by omega) (by omega) (by omega) (by omega) (by omega), hB_ 10 (by omega) (by omega) (by omega) (by omega) (by omega) (by omega), hL_ 47 (by omega) (by omega) (by omega) (by omega) (by omega), u51, u52, u53, hL_ 54 (by omega) (by omega) (by omega) (by omega) (by omega), hL_ 55 (by omega) (by omega) (by omega) (by omega) (by omega), hL_ 56 (by omega) (by omega) (by omega) (by omega) (by omega), u57, hL_ 61 (by omega) (by omega) (by omega) (by omega) (by omega), hL_ 66 (by omega) (by omega) (by omega) (by omega) (by omega)]
          exact ⟨⟨k.1.1, rfl, k.1.2.2.1, rfl, k.1.2.2.2.2.1, k.1.2.2.2.2.2⟩, fun _ => ⟨rfl, rfl, hvr.1, hvr.2⟩, fun z => by omega, k.2.2.2.1, k.2.2.2.2.1, fun _ => ⟨by omega, by rw [← k.1.1]; exact htv⟩⟩
        have hTn : iT sh (zup (zup (zup (zup (zup (zup (zup (zup h (xAt h p + 2) e a) (xAt h p + 3) e w) (xAt h p + 4) e v) (xAt h p + 8) e (h 0 12)) 51 (30 * p + e) a) 52 (30 * p + e) w) 53 (30 * p + e) v) 57 (30 * p + e) (h 0 12)) := iT_upd hT ea c.1 (hlr 9 (by decide) (by decide) (by decide) (by decide) (by decide)) (congrFun (hlr 0 (by decide) (by decide) (by decide) (by decide) (by decide)) 11) (congrFun (hlr 38 (by decide) (by decide) (by decide) (by decide) (by decide)) 17) hx9 (fun r hr y hy => hlo r hr y (by omega)) (fun r hr y _ => by rw [hlr r ((by decide : ∀ r ∈ ([46, 58, 59, 60] : List Int), r < 80) r hr) ((by decide : ∀ r ∈ ([46, 58, 59, 60] : List Int), r ≠ 51) r hr) ((by decide : ∀ r ∈ ([46, 58, 59, 60] : List Int), r ≠ 52) r hr) ((by decide : ∀ r ∈ ([46, 58, 59, 60] : List Int), r ≠ 53) r hr) ((by decide : ∀ r ∈ ([46, 58, 59, 60] : List Int), r ≠ 57) r hr)]) hnew
        have hUn : iU (zup (zup (zup (zup (zup (zup (zup (zup h (xAt h p + 2) e a) (xAt h p + 3) e w) (xAt h p + 4) e v) (xAt h p + 8) e (h 0 12)) 51 (30 * p + e) a) 52 (30 * p + e) w) 53 (30 * p + e) v) 57 (30 * p + e) (h 0 12)) := by
          have k57 : ∀ y, h 57 y ≠ -1 → (zup (zup (zup (zup (zup (zup (zup (zup h (xAt h p + 2) e a) (xAt h p + 3) e w) (xAt h p + 4) e v) (xAt h p + 8) e (h 0 12)) 51 (30 * p + e) a) 52 (30 * p + e) w) 53 (30 * p + e) v) 57 (30 * p + e) (h 0 12)) 57 y ≠ -1 := fun y hy => by
            rw [hlo 57 (by decide) y (fun z => hy (by rw [z]; omega))]; exact hy
          unfold iU
          rw [hlr 38 (by decide) (by decide) (by decide) (by decide) (by decide), hlr 32 (by decide) (by decide) (by decide) (by decide) (by decide), hlr 62 (by decide) (by decide) (by decide) (by decide) (by decide), hlr 33 (by decide) (by decide) (by decide) (by decide) (by decide), hlr 34 (by decide) (by decide) (by decide) (by decide) (by decide), hlr 63 (by decide) (by decide) (by decide) (by decide) (by decide), hlr 35 (by decide) (by decide) (by decide) (by decide) (by decide), hlr 64 (by decide) (by decide) (by decide) (by decide) (by decide), hlr 36 (by decide) (by decide) (by decide) (by decide) (by decide), hlr 65 (by decide) (by decide) (by decide) (by decide) (by decide), hlr 37 (by decide) (by decide) (by decide) (by decide) (by decide), hlr 46 (by decide) (by decide) (by decide) (by decide) (by decide)]
          exact ⟨hU.1, fun k a b => by have q := hU.2 k a b; exact ⟨q.1, q.2.1, q.2.2.1, k57 _ q.2.2.2.1, q.2.2.2.2⟩⟩
        exact oOK.FF a0 b0 rfl c1 c2 (by decide) (by decide) ⟨⟨hS, zRf_c cc (by decide) hR, hn, by omega⟩, mB_c cc (by decide) hB, mTx_c cc (by decide) hX, iS_tb cc (by decide) hZ hx9 hSh, hTn, vHab_c cc (by decide) hV, iE_q (iE_c cc (by decide) hE), vRow_c cc (by decide) hRw, iN_c cc (by decide) hN, hUn, iG_c cc (by decide) hG, (by rw [cc.r (DR := [75]) (DS := []) (by decide) (x := 75) (by decide)]; exact hL), vTok_c cc (by decide) hTk, iW_c cc (by decide) hW⟩
      · have k6 := k.2.2.2.1
        have k7 : ¬ (h 54 (30 * p + e) ≠ -1 ∧ v = h 56 (30 * p + e) ∧ w ≠ h 55 (30 * p + e)) := fun z => cg (by have := k6 z.1; omega)
        have ct : tWork h (xAt h p) a w e v (h 0 12) = zup (zup (zup h (xAt h p + 2) e a) (xAt h p + 3) e w) (xAt h p + 4) e v := (if_pos cf).trans (if_neg cg)
        rw [ct] at a0
        have eL : ∀ x y, x < 80 → (zup (zup (zup h (xAt h p + 2) e a) (xAt h p + 3) e w) (xAt h p + 4) e v) x y = h x y := fun x y hx => by (repeat first | rw [zupE] | rw [zupA (by omega)] | rw [zupJ (by omega)])
        have c1 : zChL (([] ++ []) ++ []) (([] ++ []) ++ []) h (zup (zup (zup h (xAt h p + 2) e a) (xAt h p + 3) e w) (xAt h p + 4) e v) := (((zChL.hup (by omega)).trans (zChL.hup (by omega))).trans (zChL.hup (by omega)))
        have hR1 : zRf (zup (zup (zup h (xAt h p + 2) e a) (xAt h p + 3) e w) (xAt h p + 4) e v) := zRf_c c1 (by decide) hR
        have hB1 : mB (zup (zup (zup h (xAt h p + 2) e a) (xAt h p + 3) e w) (xAt h p + 4) e v) := mB_c c1 (by decide) hB
        have hV1 : vHab (zup (zup (zup h (xAt h p + 2) e a) (xAt h p + 3) e w) (xAt h p + 4) e v) := vHab_c c1 (by decide) hV
        have hTk1 : vTok (zup (zup (zup h (xAt h p + 2) e a) (xAt h p + 3) e w) (xAt h p + 4) e v) := vTok_c c1 (by decide) hTk
        have eW : hWr (zup (zup (zup h (xAt h p + 2) e a) (xAt h p + 3) e w) (xAt h p + 4) e v) a w ((zup (zup (zup h (xAt h p + 2) e a) (xAt h p + 3) e w) (xAt h p + 4) e v) 47 (30 * p + e)) = v := by
          rw [eL 47 _ (by decide), ← k.1.1, ← hte.2]
          exact (hWr_cg (fun x y hx => eL x y hx)).trans hv
        have hcm : jWk (zup (zup (zup h (xAt h p + 2) e a) (xAt h p + 3) e w) (xAt h p + 4) e v) a w p e := by
          unfold jWk jWd jE
          rw [eW, eL 38 20 (by decide), eL 38 17 (by decide), eL 46 p (by decide), eL 58 p (by decide), eL 57 _ (by decide), eL 51 _ (by decide), eL 54 _ (by decide)]
          omega
        have b0 := zF.of_eq (n := n) (r' := some (0, v)) (congrArg (fun z => some ((0, z) : zV)) ((if_pos hcm).trans eW)) rfl rfl (if_pos hcm) (c_jwk (d := 67) hS hR1 hB1 hV1 hTk1 ha_ hw_ hp_ he_)
        have cm : jWm (zup (zup (zup h (xAt h p + 2) e a) (xAt h p + 3) e w) (xAt h p + 4) e v) a w (30 * p + e) (hWr (zup (zup (zup h (xAt h p + 2) e a) (xAt h p + 3) e w) (xAt h p + 4) e v) a w ((zup (zup (zup h (xAt h p + 2) e a) (xAt h p + 3) e w) (xAt h p + 4) e v) 47 (30 * p + e))) ((zup (zup (zup h (xAt h p + 2) e a) (xAt h p + 3) e w) (xAt h p + 4) e v) 38 16) = zup (zup (zup (zup (zup (zup h (xAt h p + 2) e a) (xAt h p + 3) e w) (xAt h p + 4) e v) 51 (30 * p + e) a) 52 (30 * p + e) w) 53 (30 * p + e) v := by
          rw [eW, eL 38 16 (by decide), hG.1]
          unfold jWm
          rw [eL 51 _ (by decide), eL 54 _ (by decide), eL 56 _ (by decide), eL 55 _ (by decide), eL 53 _ (by decide), eL 52 _ (by decide)]
          rw [if_pos (by omega), if_neg (by omega)]
        rw [cm] at b0
        have c2 : zChL (([51] ++ [52]) ++ [53]) (([] ++ []) ++ []) (zup (zup (zup h (xAt h p + 2) e a) (xAt h p + 3) e w) (xAt h p + 4) e v) (zup (zup (zup (zup (zup (zup h (xAt h p + 2) e a) (xAt h p + 3) e w) (xAt h p + 4) e v) 51 (30 * p + e) a) 52 (30 * p + e) w) 53 (30 * p + e) v) := ((zCh.upA.lo.trans zCh.upA.lo).trans zCh.upA.lo)
        have cc := c1.trans c2
        have hx9 : ∀ x : Int, 80 ≤ x → (∀ k, 0 ≤ k → k ≤ 10 → x ≠ xAt h p + k) → (zup (zup (zup (zup (zup (zup h (xAt h p + 2) e a) (xAt h p + 3) e w) (xAt h p + 4) e v) 51 (30 * p + e) a) 52 (30 * p + e) w) 53 (30 * p + e) v) x = h x := fun x h1 h2 => by
          have q2 := h2 2 (by omega) (by omega)
          have q3 := h2 3 (by omega) (by omega)
          have q4 := h2 4 (by omega) (by omega)
          have q5 := h2 5 (by omega) (by omega)
          have q6 := h2 6 (by omega) (by omega)
          have q7 := h2 7 (by omega) (by omega)
          have q8 := h2 8 (by omega) (by omega)
          (repeat rw [zup_ne (by omega)])
        have hb0 : (zup (zup (zup (zup (zup (zup h (xAt h p + 2) e a) (xAt h p + 3) e w) (xAt h p + 4) e v) 51 (30 * p + e) a) 52 (30 * p + e) w) 53 (30 * p + e) v) (xAt h p) = h (xAt h p) := by (repeat rw [zup_ne (by omega)])
        have hbo : ∀ j, 1 ≤ j → j ≤ 10 → ∀ y, y ≠ e → (zup (zup (zup (zup (zup (zup h (xAt h p + 2) e a) (xAt h p + 3) e w) (xAt h p + 4) e v) 51 (30 * p + e) a) 52 (30 * p + e) w) 53 (30 * p + e) v) (xAt h p + j) y = h (xAt h p + j) y := fun j _ _ y hy => by (repeat first | rw [zupJ hy] | rw [zupA (by omega)])
        have hlo : ∀ r ∈ ([47, 51, 52, 53, 54, 55, 56, 57, 61, 66] : List Int), ∀ y, y ≠ 30 * p + e → (zup (zup (zup (zup (zup (zup h (xAt h p + 2) e a) (xAt h p + 3) e w) (xAt h p + 4) e v) 51 (30 * p + e) a) 52 (30 * p + e) w) 53 (30 * p + e) v) r y = h r y := fun r hr y hy => by
          have q := (by decide : ∀ r ∈ ([47, 51, 52, 53, 54, 55, 56, 57, 61, 66] : List Int), r < 80) r hr
          (repeat first | rw [zupJ hy] | rw [zupA (by omega)])
        have hlr : ∀ r, r < 80 → r ≠ 51 → r ≠ 52 → r ≠ 53 → (zup (zup (zup (zup (zup (zup h (xAt h p + 2) e a) (xAt h p + 3) e w) (xAt h p + 4) e v) 51 (30 * p + e) a) 52 (30 * p + e) w) 53 (30 * p + e) v) r = h r := fun r q q51 q52 q53 => by (repeat rw [zup_ne (by omega)])
        have hnew : iTb sh (zup (zup (zup (zup (zup (zup h (xAt h p + 2) e a) (xAt h p + 3) e w) (xAt h p + 4) e v) 51 (30 * p + e) a) 52 (30 * p + e) w) 53 (30 * p + e) v) p (xAt h p) := by
          refine iTb_one hkb hb0 hbo hlo (fun r hr => hlr r ((by decide : ∀ r ∈ ([46, 58, 59, 60] : List Int), r < 80) r hr) ((by decide : ∀ r ∈ ([46, 58, 59, 60] : List Int), r ≠ 51) r hr) ((by decide : ∀ r ∈ ([46, 58, 59, 60] : List Int), r ≠ 52) r hr) ((by decide : ∀ r ∈ ([46, 58, 59, 60] : List Int), r ≠ 53) r hr)) (by (repeat rw [zup_ne (by omega)])) ?_
          have hB_ : ∀ j, 1 ≤ j → j ≤ 10 → j ≠ 2 → j ≠ 3 → j ≠ 4 → (zup (zup (zup (zup (zup (zup h (xAt h p + 2) e a) (xAt h p + 3) e w) (xAt h p + 4) e v) 51 (30 * p + e) a) 52 (30 * p + e) w) 53 (30 * p + e) v) (xAt h p + j) e = h (xAt h p + j) e := fun j j0 j1 q2 q3 q4 => by (repeat rw [zupA (by omega)])
          have hL_ : ∀ r, r < 80 → r ≠ 51 → r ≠ 52 → r ≠ 53 → (zup (zup (zup (zup (zup (zup h (xAt h p + 2) e a) (xAt h p + 3) e w) (xAt h p + 4) e v) 51 (30 * p + e) a) 52 (30 * p + e) w) 53 (30 * p + e) v) r (30 * p + e) = h r (30 * p + e) := fun r q q51 q52 q53 => by (repeat rw [zupA (by omega)])
          have u2 : (zup (zup (zup (zup (zup (zup h (xAt h p + 2) e a) (xAt h p + 3) e w) (xAt h p + 4) e v) 51 (30 * p + e) a) 52 (30 * p + e) w) 53 (30 * p + e) v) (xAt h p + 2) e = a := by (repeat first | rw [zupE] | rw [zupA (by omega)] | rw [zupJ (by omega)])
          have u3 : (zup (zup (zup (zup (zup (zup h (xAt h p + 2) e a) (xAt h p + 3) e w) (xAt h p + 4) e v) 51 (30 * p + e) a) 52 (30 * p + e) w) 53 (30 * p + e) v) (xAt h p + 3) e = w := by (repeat first | rw [zupE] | rw [zupA (by omega)] | rw [zupJ (by omega)])
          have u4 : (zup (zup (zup (zup (zup (zup h (xAt h p + 2) e a) (xAt h p + 3) e w) (xAt h p + 4) e v) 51 (30 * p + e) a) 52 (30 * p + e) w) 53 (30 * p + e) v) (xAt h p + 4) e = v := by (repeat first | rw [zupE] | rw [zupA (by omega)] | rw [zupJ (by omega)])
          have u51 : (zup (zup (zup (zup (zup (zup h (xAt h p + 2) e a) (xAt h p + 3) e w) (xAt h p + 4) e v) 51 (30 * p + e) a) 52 (30 * p + e) w) 53 (30 * p + e) v) 51 (30 * p + e) = a := by (repeat first | rw [zupE] | rw [zupA (by omega)] | rw [zupJ (by omega)])
          have u52 : (zup (zup (zup (zup (zup (zup h (xAt h p + 2) e a) (xAt h p + 3) e w) (xAt h p + 4) e v) 51 (30 * p + e) a) 52 (30 * p + e) w) 53 (30 * p + e) v) 52 (30 * p + e) = w := by (repeat first | rw [zupE] | rw [zupA (by omega)] | rw [zupJ (by omega)])
          have u53 : (zup (zup (zup (zup (zup (zup h (xAt h p + 2) e a) (xAt h p + 3) e w) (xAt h p + 4) e v) 51 (30 * p + e) a) 52 (30 * p + e) w) 53 (30 * p + e) v) 53 (30 * p + e) = v := by (repeat first | rw [zupE] | rw [zupA (by omega)] | rw [zupJ (by omega)])
          unfold iEn
          rw [hB_ 1 (by omega) (by omega) (by omega) (by omega) (by omega), u2, u3, u4, hB_ 5 (by omega) (by omega) (by omega) (by omega) (by omega), hB_ 6 (by omega) (by omega) (by omega) (by omega) (by omega), hB_ 7 (by omega) (by omega) (by omega) (by omega) (by omega), hB_ 8 (by omega) (by omega) (by omega) (by omega) (by omega), hB_ 9 (by omega) (by omega) (by omega) (by omega) (by omega), hB_ 10 (by omega) (by omega) (by omega) (by omega) (by omega), hL_ 47 (by omega) (by omega) (by omega) (by omega), u51, u52, u53, hL_ 54 (by omega) (by omega) (by omega) (by omega), hL_ 55 (by omega) (by omega) (by omega) (by omega), hL_ 56 (by omega) (by omega) (by omega) (by omega), hL_ 57 (by omega) (by omega) (by omega) (by omega), hL_ 61 (by omega) (by omega) (by omega) (by omega), hL_ 66 (by omega) (by omega) (by omega) (by omega)]
          exact ⟨⟨k.1.1, rfl, k.1.2.2.1, k.1.2.2.2.1, k.1.2.2.2.2.1, k.1.2.2.2.2.2⟩, fun _ => ⟨rfl, rfl, hvr.1, hvr.2⟩, fun z => by omega, k.2.2.2.1, k.2.2.2.2.1, fun _ => ⟨by omega, by rw [← k.1.1]; exact htv⟩⟩
        have hTn : iT sh (zup (zup (zup (zup (zup (zup h (xAt h p + 2) e a) (xAt h p + 3) e w) (xAt h p + 4) e v) 51 (30 * p + e) a) 52 (30 * p + e) w) 53 (30 * p + e) v) := iT_upd hT ea c.1 (hlr 9 (by decide) (by decide) (by decide) (by decide)) (congrFun (hlr 0 (by decide) (by decide) (by decide) (by decide)) 11) (congrFun (hlr 38 (by decide) (by decide) (by decide) (by decide)) 17) hx9 (fun r hr y hy => hlo r hr y (by omega)) (fun r hr y _ => by rw [hlr r ((by decide : ∀ r ∈ ([46, 58, 59, 60] : List Int), r < 80) r hr) ((by decide : ∀ r ∈ ([46, 58, 59, 60] : List Int), r ≠ 51) r hr) ((by decide : ∀ r ∈ ([46, 58, 59, 60] : List Int), r ≠ 52) r hr) ((by decide : ∀ r ∈ ([46, 58, 59, 60] : List Int), r ≠ 53) r hr)]) hnew
        exact oOK.FF a0 b0 rfl c1 c2 (by decide) (by decide) ⟨⟨hS, zRf_c cc (by decide) hR, hn, by omega⟩, mB_c cc (by decide) hB, mTx_c cc (by decide) hX, iS_tb cc (by decide) hZ hx9 hSh, hTn, vHab_c cc (by decide) hV, iE_q (iE_c cc (by decide) hE), vRow_c cc (by decide) hRw, iN_c cc (by decide) hN, iU_c cc (by decide) hU, iG_c cc (by decide) hG, (by rw [cc.r (DR := [75]) (DS := []) (by decide) (x := 75) (by decide)]; exact hL), vTok_c cc (by decide) hTk, iW_c cc (by decide) hW⟩
    · have k3 := k.2.1 (by omega)
      by_cases cg : h (xAt h p + 4) e = v ∧ h (xAt h p + 3) e ≠ w
      · have ct : tWork h (xAt h p) a w e v (h 0 12) = zup (zup (zup (zup h (xAt h p + 5) e a) (xAt h p + 6) e w) (xAt h p + 7) e v) (xAt h p + 8) e (h 0 12) := (if_neg cf).trans (if_pos cg)
        rw [ct] at a0
        have eL : ∀ x y, x < 80 → (zup (zup (zup (zup h (xAt h p + 5) e a) (xAt h p + 6) e w) (xAt h p + 7) e v) (xAt h p + 8) e (h 0 12)) x y = h x y := fun x y hx => by (repeat first | rw [zupE] | rw [zupA (by omega)] | rw [zupJ (by omega)])
        have c1 : zChL ((([] ++ []) ++ []) ++ []) ((([] ++ []) ++ []) ++ []) h (zup (zup (zup (zup h (xAt h p + 5) e a) (xAt h p + 6) e w) (xAt h p + 7) e v) (xAt h p + 8) e (h 0 12)) := ((((zChL.hup (by omega)).trans (zChL.hup (by omega))).trans (zChL.hup (by omega))).trans (zChL.hup (by omega)))
        have hR1 : zRf (zup (zup (zup (zup h (xAt h p + 5) e a) (xAt h p + 6) e w) (xAt h p + 7) e v) (xAt h p + 8) e (h 0 12)) := zRf_c c1 (by decide) hR
        have hB1 : mB (zup (zup (zup (zup h (xAt h p + 5) e a) (xAt h p + 6) e w) (xAt h p + 7) e v) (xAt h p + 8) e (h 0 12)) := mB_c c1 (by decide) hB
        have hV1 : vHab (zup (zup (zup (zup h (xAt h p + 5) e a) (xAt h p + 6) e w) (xAt h p + 7) e v) (xAt h p + 8) e (h 0 12)) := vHab_c c1 (by decide) hV
        have hTk1 : vTok (zup (zup (zup (zup h (xAt h p + 5) e a) (xAt h p + 6) e w) (xAt h p + 7) e v) (xAt h p + 8) e (h 0 12)) := vTok_c c1 (by decide) hTk
        have eW : hWr (zup (zup (zup (zup h (xAt h p + 5) e a) (xAt h p + 6) e w) (xAt h p + 7) e v) (xAt h p + 8) e (h 0 12)) a w ((zup (zup (zup (zup h (xAt h p + 5) e a) (xAt h p + 6) e w) (xAt h p + 7) e v) (xAt h p + 8) e (h 0 12)) 47 (30 * p + e)) = v := by
          rw [eL 47 _ (by decide), ← k.1.1, ← hte.2]
          exact (hWr_cg (fun x y hx => eL x y hx)).trans hv
        have hcm : jWk (zup (zup (zup (zup h (xAt h p + 5) e a) (xAt h p + 6) e w) (xAt h p + 7) e v) (xAt h p + 8) e (h 0 12)) a w p e := by
          unfold jWk jWd jE
          rw [eW, eL 38 20 (by decide), eL 38 17 (by decide), eL 46 p (by decide), eL 58 p (by decide), eL 57 _ (by decide), eL 51 _ (by decide), eL 54 _ (by decide)]
          omega
        have b0 := zF.of_eq (n := n) (r' := some (0, v)) (congrArg (fun z => some ((0, z) : zV)) ((if_pos hcm).trans eW)) rfl rfl (if_pos hcm) (c_jwk (d := 67) hS hR1 hB1 hV1 hTk1 ha_ hw_ hp_ he_)
        have cm : jWm (zup (zup (zup (zup h (xAt h p + 5) e a) (xAt h p + 6) e w) (xAt h p + 7) e v) (xAt h p + 8) e (h 0 12)) a w (30 * p + e) (hWr (zup (zup (zup (zup h (xAt h p + 5) e a) (xAt h p + 6) e w) (xAt h p + 7) e v) (xAt h p + 8) e (h 0 12)) a w ((zup (zup (zup (zup h (xAt h p + 5) e a) (xAt h p + 6) e w) (xAt h p + 7) e v) (xAt h p + 8) e (h 0 12)) 47 (30 * p + e))) ((zup (zup (zup (zup h (xAt h p + 5) e a) (xAt h p + 6) e w) (xAt h p + 7) e v) (xAt h p + 8) e (h 0 12)) 38 16) = zup (zup (zup (zup (zup (zup (zup (zup h (xAt h p + 5) e a) (xAt h p + 6) e w) (xAt h p + 7) e v) (xAt h p + 8) e (h 0 12)) 54 (30 * p + e) a) 55 (30 * p + e) w) 56 (30 * p + e) v) 57 (30 * p + e) (h 0 12) := by
          rw [eW, eL 38 16 (by decide), hG.1]
          unfold jWm
          rw [eL 51 _ (by decide), eL 54 _ (by decide), eL 56 _ (by decide), eL 55 _ (by decide), eL 53 _ (by decide), eL 52 _ (by decide)]
          rw [if_neg (by omega), if_pos (by omega)]
        rw [cm] at b0
        have c2 : zChL ((([54] ++ [55]) ++ [56]) ++ [57]) ((([] ++ []) ++ []) ++ []) (zup (zup (zup (zup h (xAt h p + 5) e a) (xAt h p + 6) e w) (xAt h p + 7) e v) (xAt h p + 8) e (h 0 12)) (zup (zup (zup (zup (zup (zup (zup (zup h (xAt h p + 5) e a) (xAt h p + 6) e w) (xAt h p + 7) e v) (xAt h p + 8) e (h 0 12)) 54 (30 * p + e) a) 55 (30 * p + e) w) 56 (30 * p + e) v) 57 (30 * p + e) (h 0 12)) := (((zCh.upA.lo.trans zCh.upA.lo).trans zCh.upA.lo).trans zCh.upA.lo)
        have cc := c1.trans c2
        have hx9 : ∀ x : Int, 80 ≤ x → (∀ k, 0 ≤ k → k ≤ 10 → x ≠ xAt h p + k) → (zup (zup (zup (zup (zup (zup (zup (zup h (xAt h p + 5) e a) (xAt h p + 6) e w) (xAt h p + 7) e v) (xAt h p + 8) e (h 0 12)) 54 (30 * p + e) a) 55 (30 * p + e) w) 56 (30 * p + e) v) 57 (30 * p + e) (h 0 12)) x = h x := fun x h1 h2 => by
          have q2 := h2 2 (by omega) (by omega)
          have q3 := h2 3 (by omega) (by omega)
          have q4 := h2 4 (by omega) (by omega)
          have q5 := h2 5 (by omega) (by omega)
          have q6 := h2 6 (by omega) (by omega)
          have q7 := h2 7 (by omega) (by omega)
          have q8 := h2 8 (by omega) (by omega)
          (repeat rw [zup_ne (by omega)])
        have hb0 : (zup (zup (zup (zup (zup (zup (zup (zup h (xAt h p + 5) e a) (xAt h p + 6) e w) (xAt h p + 7) e v) (xAt h p + 8) e (h 0 12)) 54 (30 * p + e) a) 55 (30 * p + e) w) 56 (30 * p + e) v) 57 (30 * p + e) (h 0 12)) (xAt h p) = h (xAt h p) := by (repeat rw [zup_ne (by omega)])
        have hbo : ∀ j, 1 ≤ j → j ≤ 10 → ∀ y, y ≠ e → (zup (zup (zup (zup (zup (zup (zup (zup h (xAt h p + 5) e a) (xAt h p + 6) e w) (xAt h p + 7) e v) (xAt h p + 8) e (h 0 12)) 54 (30 * p + e) a) 55 (30 * p + e) w) 56 (30 * p + e) v) 57 (30 * p + e) (h 0 12)) (xAt h p + j) y = h (xAt h p + j) y := fun j _ _ y hy => by (repeat first | rw [zupJ hy] | rw [zupA (by omega)])
        have hlo : ∀ r ∈ ([47, 51, 52, 53, 54, 55, 56, 57, 61, 66] : List Int), ∀ y, y ≠ 30 * p + e → (zup (zup (zup (zup (zup (zup (zup (zup h (xAt h p + 5) e a) (xAt h p + 6) e w) (xAt h p + 7) e v) (xAt h p + 8) e (h 0 12)) 54 (30 * p + e) a) 55 (30 * p + e) w) 56 (30 * p + e) v) 57 (30 * p + e) (h 0 12)) r y = h r y := fun r hr y hy => by
          have q := (by decide : ∀ r ∈ ([47, 51, 52, 53, 54, 55, 56, 57, 61, 66] : List Int), r < 80) r hr
          (repeat first | rw [zupJ hy] | rw [zupA (by omega)])
        have hlr : ∀ r, r < 80 → r ≠ 54 → r ≠ 55 → r ≠ 56 → r ≠ 57 → (zup (zup (zup (zup (zup (zup (zup (zup h (xAt h p + 5) e a) (xAt h p + 6) e w) (xAt h p + 7) e v) (xAt h p + 8) e (h 0 12)) 54 (30 * p + e) a) 55 (30 * p + e) w) 56 (30 * p + e) v) 57 (30 * p + e) (h 0 12)) r = h r := fun r q q54 q55 q56 q57 => by (repeat rw [zup_ne (by omega)])
        have hnew : iTb sh (zup (zup (zup (zup (zup (zup (zup (zup h (xAt h p + 5) e a) (xAt h p + 6) e w) (xAt h p + 7) e v) (xAt h p + 8) e (h 0 12)) 54 (30 * p + e) a) 55 (30 * p + e) w) 56 (30 * p + e) v) 57 (30 * p + e) (h 0 12)) p (xAt h p) := by
          refine iTb_one hkb hb0 hbo hlo (fun r hr => hlr r ((by decide : ∀ r ∈ ([46, 58, 59, 60] : List Int), r < 80) r hr) ((by decide : ∀ r ∈ ([46, 58, 59, 60] : List Int), r ≠ 54) r hr) ((by decide : ∀ r ∈ ([46, 58, 59, 60] : List Int), r ≠ 55) r hr) ((by decide : ∀ r ∈ ([46, 58, 59, 60] : List Int), r ≠ 56) r hr) ((by decide : ∀ r ∈ ([46, 58, 59, 60] : List Int), r ≠ 57) r hr)) (by (repeat rw [zup_ne (by omega)])) ?_
          have hB_ : ∀ j, 1 ≤ j → j ≤ 10 → j ≠ 5 → j ≠ 6 → j ≠ 7 → j ≠ 8 → (zup (zup (zup (zup (zup (zup (zup (zup h (xAt h p + 5) e a) (xAt h p + 6) e w) (xAt h p + 7) e v) (xAt h p + 8) e (h 0 12)) 54 (30 * p + e) a) 55 (30 * p + e) w) 56 (30 * p + e) v) 57 (30 * p + e) (h 0 12)) (xAt h p + j) e = h (xAt h p + j) e := fun j j0 j1 q5 q6 q7 q8 => by (repeat rw [zupA (by omega)])
          have hL_ : ∀ r, r < 80 → r ≠ 54 → r ≠ 55 → r ≠ 56 → r ≠ 57 → (zup (zup (zup (zup (zup (zup (zup (zup h (xAt h p + 5) e a) (xAt h p + 6) e w) (xAt h p + 7) e v) (xAt h p + 8) e (h 0 12)) 54 (30 * p + e) a) 55 (30 * p + e) w) 56 (30 * p + e) v) 57 (30 * p + e) (h 0 12)) r (30 * p + e) = h r (30 * p + e) := fun r q q54 q55 q56 q57 => by (repeat rw [zupA (by omega)])
          have u5 : (zup (zup (zup (zup (zup (zup (zup (zup h (xAt h p + 5) e a) (xAt h p + 6) e w) (xAt h p + 7) e v) (xAt h p + 8) e (h 0 12)) 54 (30 * p + e) a) 55 (30 * p + e) w) 56 (30 * p + e) v) 57 (30 * p + e) (h 0 12)) (xAt h p + 5) e = a := by (repeat first | rw [zupE] | rw [zupA (by omega)] | rw [zupJ (by omega)])
          have u6 : (zup (zup (zup (zup (zup (zup (zup (zup h (xAt h p + 5) e a) (xAt h p + 6) e w) (xAt h p + 7) e v) (xAt h p + 8) e (h 0 12)) 54 (30 * p + e) a) 55 (30 * p + e) w) 56 (30 * p + e) v) 57 (30 * p + e) (h 0 12)) (xAt h p + 6) e = w := by (repeat first | rw [zupE] | rw [zupA (by omega)] | rw [zupJ (by omega)])
          have u7 : (zup (zup (zup (zup (zup (zup (zup (zup h (xAt h p + 5) e a) (xAt h p + 6) e w) (xAt h p + 7) e v) (xAt h p + 8) e (h 0 12)) 54 (30 * p + e) a) 55 (30 * p + e) w) 56 (30 * p + e) v) 57 (30 * p + e) (h 0 12)) (xAt h p + 7) e = v := by (repeat first | rw [zupE] | rw [zupA (by omega)] | rw [zupJ (by omega)])
          have u8 : (zup (zup (zup (zup (zup (zup (zup (zup h (xAt h p + 5) e a) (xAt h p + 6) e w) (xAt h p + 7) e v) (xAt h p + 8) e (h 0 12)) 54 (30 * p + e) a) 55 (30 * p + e) w) 56 (30 * p + e) v) 57 (30 * p + e) (h 0 12)) (xAt h p + 8) e = h 0 12 := by (repeat first | rw [zupE] | rw [zupA (by omega)] | rw [zupJ (by omega)])
          have u54 : (zup (zup (zup (zup (zup (zup (zup (zup h (xAt h p + 5) e a) (xAt h p + 6) e w) (xAt h p + 7) e v) (xAt h p + 8) e (h 0 12)) 54 (30 * p + e) a) 55 (30 * p + e) w) 56 (30 * p + e) v) 57 (30 * p + e) (h 0 12)) 54 (30 * p + e) = a := by (repeat first | rw [zupE] | rw [zupA (by omega)] | rw [zupJ (by omega)])
          have u55 : (zup (zup (zup (zup (zup (zup (zup (zup h (xAt h p + 5) e a) (xAt h p + 6) e w) (xAt h p + 7) e v) (xAt h p + 8) e (h 0 12)) 54 (30 * p + e) a) 55 (30 * p + e) w) 56 (30 * p + e) v) 57 (30 * p + e) (h 0 12)) 55 (30 * p + e) = w := by (repeat first | rw [zupE] | rw [zupA (by omega)] | rw [zupJ (by omega)])
          have u56 : (zup (zup (zup (zup (zup (zup (zup (zup h (xAt h p + 5) e a) (xAt h p + 6) e w) (xAt h p + 7) e v) (xAt h p + 8) e (h 0 12)) 54 (30 * p + e) a) 55 (30 * p + e) w) 56 (30 * p + e) v) 57 (30 * p + e) (h 0 12)) 56 (30 * p + e) = v := by (repeat first | rw [zupE] | rw [zupA (by omega)] | rw [zupJ (by omega)])
          have u57 : (zup (zup (zup (zup (zup (zup (zup (zup h (xAt h p + 5) e a) (xAt h p + 6) e w) (xAt h p + 7) e v) (xAt h p + 8) e (h 0 12)) 54 (30 * p + e) a) 55 (30 * p + e) w) 56 (30 * p + e) v) 57 (30 * p + e) (h 0 12)) 57 (30 * p + e) = h 0 12 := by (repeat first | rw [zupE] | rw [zupA (by omega)] | rw [zupJ (by omega)])
          unfold iEn
          rw [hB_ 1 (by omega) (by omega) (by omega) (by omega) (by omega) (by omega), hB_ 2 (by omega) (by omega) (by omega) (by omega) (by omega) (by omega), hB_ 3 (by omega) (by omega) (by omega) (by omega) (by omega) (by omega), hB_ 4 (by omega) (by omega) (by omega) (by omega) (by omega) (by omega), u5, u6, u7, u8, hB_ 9 (by omega) (by omega) (by omega) (by omega) (by omega) (by omega), hB_ 10 (by omega) (by omega) (by omega) (by omega) (by omega) (by omega), hL_ 47 (by omega) (by omega) (by omega) (by omega) (by omega), hL_ 51 (by omega) (by omega) (by omega) (by omega) (by omega), hL_ 52 (by omega) (by omega) (by omega) (by omega) (by omega), hL_ 53 (by omega) (by omega) (by omega) (by omega) (by omega), u54, u55, u56, u57, hL_ 61 (by omega) (by omega) (by omega) (by omega) (by omega), hL_ 66 (by omega) (by omega) (by omega) (by omega) (by omega)]
          exact ⟨⟨k.1.1, k.1.2.1, rfl, rfl, k.1.2.2.2.2.1, k.1.2.2.2.2.2⟩, k.2.1, fun z => by omega, fun _ => ⟨rfl, rfl⟩, fun z => by omega, fun _ => ⟨by omega, by rw [← k.1.1]; exact htv⟩⟩
        have hTn : iT sh (zup (zup (zup (zup (zup (zup (zup (zup h (xAt h p + 5) e a) (xAt h p + 6) e w) (xAt h p + 7) e v) (xAt h p + 8) e (h 0 12)) 54 (30 * p + e) a) 55 (30 * p + e) w) 56 (30 * p + e) v) 57 (30 * p + e) (h 0 12)) := iT_upd hT ea c.1 (hlr 9 (by decide) (by decide) (by decide) (by decide) (by decide)) (congrFun (hlr 0 (by decide) (by decide) (by decide) (by decide) (by decide)) 11) (congrFun (hlr 38 (by decide) (by decide) (by decide) (by decide) (by decide)) 17) hx9 (fun r hr y hy => hlo r hr y (by omega)) (fun r hr y _ => by rw [hlr r ((by decide : ∀ r ∈ ([46, 58, 59, 60] : List Int), r < 80) r hr) ((by decide : ∀ r ∈ ([46, 58, 59, 60] : List Int), r ≠ 54) r hr) ((by decide : ∀ r ∈ ([46, 58, 59, 60] : List Int), r ≠ 55) r hr) ((by decide : ∀ r ∈ ([46, 58, 59, 60] : List Int), r ≠ 56) r hr) ((by decide : ∀ r ∈ ([46, 58, 59, 60] : List Int), r ≠ 57) r hr)]) hnew
        have hUn : iU (zup (zup (zup (zup (zup (zup (zup (zup h (xAt h p + 5) e a) (xAt h p + 6) e w) (xAt h p + 7) e v) (xAt h p + 8) e (h 0 12)) 54 (30 * p + e) a) 55 (30 * p + e) w) 56 (30 * p + e) v) 57 (30 * p + e) (h 0 12)) := by
          have k57 : ∀ y, h 57 y ≠ -1 → (zup (zup (zup (zup (zup (zup (zup (zup h (xAt h p + 5) e a) (xAt h p + 6) e w) (xAt h p + 7) e v) (xAt h p + 8) e (h 0 12)) 54 (30 * p + e) a) 55 (30 * p + e) w) 56 (30 * p + e) v) 57 (30 * p + e) (h 0 12)) 57 y ≠ -1 := fun y hy => by
            rw [hlo 57 (by decide) y (fun z => hy (by rw [z]; omega))]; exact hy
          unfold iU
          rw [hlr 38 (by decide) (by decide) (by decide) (by decide) (by decide), hlr 32 (by decide) (by decide) (by decide) (by decide) (by decide), hlr 62 (by decide) (by decide) (by decide) (by decide) (by decide), hlr 33 (by decide) (by decide) (by decide) (by decide) (by decide), hlr 34 (by decide) (by decide) (by decide) (by decide) (by decide), hlr 63 (by decide) (by decide) (by decide) (by decide) (by decide), hlr 35 (by decide) (by decide) (by decide) (by decide) (by decide), hlr 64 (by decide) (by decide) (by decide) (by decide) (by decide), hlr 36 (by decide) (by decide) (by decide) (by decide) (by decide), hlr 65 (by decide) (by decide) (by decide) (by decide) (by decide), hlr 37 (by decide) (by decide) (by decide) (by decide) (by decide), hlr 46 (by decide) (by decide) (by decide) (by decide) (by decide)]
          exact ⟨hU.1, fun k a b => by have q := hU.2 k a b; exact ⟨q.1, q.2.1, q.2.2.1, k57 _ q.2.2.2.1, q.2.2.2.2⟩⟩
        exact oOK.FF a0 b0 rfl c1 c2 (by decide) (by decide) ⟨⟨hS, zRf_c cc (by decide) hR, hn, by omega⟩, mB_c cc (by decide) hB, mTx_c cc (by decide) hX, iS_tb cc (by decide) hZ hx9 hSh, hTn, vHab_c cc (by decide) hV, iE_q (iE_c cc (by decide) hE), vRow_c cc (by decide) hRw, iN_c cc (by decide) hN, hUn, iG_c cc (by decide) hG, (by rw [cc.r (DR := [75]) (DS := []) (by decide) (x := 75) (by decide)]; exact hL), vTok_c cc (by decide) hTk, iW_c cc (by decide) hW⟩
      · have ct : tWork h (xAt h p) a w e v (h 0 12) = zup (zup (zup h (xAt h p + 5) e a) (xAt h p + 6) e w) (xAt h p + 7) e v := (if_neg cf).trans (if_neg cg)
        rw [ct] at a0
        have eL : ∀ x y, x < 80 → (zup (zup (zup h (xAt h p + 5) e a) (xAt h p + 6) e w) (xAt h p + 7) e v) x y = h x y := fun x y hx => by (repeat first | rw [zupE] | rw [zupA (by omega)] | rw [zupJ (by omega)])
        have c1 : zChL (([] ++ []) ++ []) (([] ++ []) ++ []) h (zup (zup (zup h (xAt h p + 5) e a) (xAt h p + 6) e w) (xAt h p + 7) e v) := (((zChL.hup (by omega)).trans (zChL.hup (by omega))).trans (zChL.hup (by omega)))
        have hR1 : zRf (zup (zup (zup h (xAt h p + 5) e a) (xAt h p + 6) e w) (xAt h p + 7) e v) := zRf_c c1 (by decide) hR
        have hB1 : mB (zup (zup (zup h (xAt h p + 5) e a) (xAt h p + 6) e w) (xAt h p + 7) e v) := mB_c c1 (by decide) hB
        have hV1 : vHab (zup (zup (zup h (xAt h p + 5) e a) (xAt h p + 6) e w) (xAt h p + 7) e v) := vHab_c c1 (by decide) hV
        have hTk1 : vTok (zup (zup (zup h (xAt h p + 5) e a) (xAt h p + 6) e w) (xAt h p + 7) e v) := vTok_c c1 (by decide) hTk
        have eW : hWr (zup (zup (zup h (xAt h p + 5) e a) (xAt h p + 6) e w) (xAt h p + 7) e v) a w ((zup (zup (zup h (xAt h p + 5) e a) (xAt h p + 6) e w) (xAt h p + 7) e v) 47 (30 * p + e)) = v := by
          rw [eL 47 _ (by decide), ← k.1.1, ← hte.2]
          exact (hWr_cg (fun x y hx => eL x y hx)).trans hv
        have hcm : jWk (zup (zup (zup h (xAt h p + 5) e a) (xAt h p + 6) e w) (xAt h p + 7) e v) a w p e := by
          unfold jWk jWd jE
          rw [eW, eL 38 20 (by decide), eL 38 17 (by decide), eL 46 p (by decide), eL 58 p (by decide), eL 57 _ (by decide), eL 51 _ (by decide), eL 54 _ (by decide)]
          omega
        have b0 := zF.of_eq (n := n) (r' := some (0, v)) (congrArg (fun z => some ((0, z) : zV)) ((if_pos hcm).trans eW)) rfl rfl (if_pos hcm) (c_jwk (d := 67) hS hR1 hB1 hV1 hTk1 ha_ hw_ hp_ he_)
        have cm : jWm (zup (zup (zup h (xAt h p + 5) e a) (xAt h p + 6) e w) (xAt h p + 7) e v) a w (30 * p + e) (hWr (zup (zup (zup h (xAt h p + 5) e a) (xAt h p + 6) e w) (xAt h p + 7) e v) a w ((zup (zup (zup h (xAt h p + 5) e a) (xAt h p + 6) e w) (xAt h p + 7) e v) 47 (30 * p + e))) ((zup (zup (zup h (xAt h p + 5) e a) (xAt h p + 6) e w) (xAt h p + 7) e v) 38 16) = zup (zup (zup (zup (zup (zup h (xAt h p + 5) e a) (xAt h p + 6) e w) (xAt h p + 7) e v) 54 (30 * p + e) a) 55 (30 * p + e) w) 56 (30 * p + e) v := by
          rw [eW, eL 38 16 (by decide), hG.1]
          unfold jWm
          rw [eL 51 _ (by decide), eL 54 _ (by decide), eL 56 _ (by decide), eL 55 _ (by decide), eL 53 _ (by decide), eL 52 _ (by decide)]
          rw [if_neg (by omega), if_neg (by omega)]
        rw [cm] at b0
        have c2 : zChL (([54] ++ [55]) ++ [56]) (([] ++ []) ++ []) (zup (zup (zup h (xAt h p + 5) e a) (xAt h p + 6) e w) (xAt h p + 7) e v) (zup (zup (zup (zup (zup (zup h (xAt h p + 5) e a) (xAt h p + 6) e w) (xAt h p + 7) e v) 54 (30 * p + e) a) 55 (30 * p + e) w) 56 (30 * p + e) v) := ((zCh.upA.lo.trans zCh.upA.lo).trans zCh.upA.lo)
        have cc := c1.trans c2
        have hx9 : ∀ x : Int, 80 ≤ x → (∀ k, 0 ≤ k → k ≤ 10 → x ≠ xAt h p + k) → (zup (zup (zup (zup (zup (zup h (xAt h p + 5) e a) (xAt h p + 6) e w) (xAt h p + 7) e v) 54 (30 * p + e) a) 55 (30 * p + e) w) 56 (30 * p + e) v) x = h x := fun x h1 h2 => by
          have q2 := h2 2 (by omega) (by omega)
          have q3 := h2 3 (by omega) (by omega)
          have q4 := h2 4 (by omega) (by omega)
          have q5 := h2 5 (by omega) (by omega)
          have q6 := h2 6 (by omega) (by omega)
          have q7 := h2 7 (by omega) (by omega)
          have q8 := h2 8 (by omega) (by omega)
          (repeat rw [zup_ne (by omega)])
        have hb0 : (zup (zup (zup (zup (zup (zup h (xAt h p + 5) e a) (xAt h p + 6) e w) (xAt h p + 7) e v) 54 (30 * p + e) a) 55 (30 * p + e) w) 56 (30 * p + e) v) (xAt h p) = h (xAt h p) := by (repeat rw [zup_ne (by omega)])
        have hbo : ∀ j, 1 ≤ j → j ≤ 10 → ∀ y, y ≠ e → (zup (zup (zup (zup (zup (zup h (xAt h p + 5) e a) (xAt h p + 6) e w) (xAt h p + 7) e v) 54 (30 * p + e) a) 55 (30 * p + e) w) 56 (30 * p + e) v) (xAt h p + j) y = h (xAt h p + j) y := fun j _ _ y hy => by (repeat first | rw [zupJ hy] | rw [zupA (by omega)])
        have hlo : ∀ r ∈ ([47, 51, 52, 53, 54, 55, 56, 57, 61, 66] : List Int), ∀ y, y ≠ 30 * p + e → (zup (zup (zup (zup (zup (zup h (xAt h p + 5) e a) (xAt h p + 6) e w) (xAt h p + 7) e v) 54 (30 * p + e) a) 55 (30 * p + e) w) 56 (30 * p + e) v) r y = h r y := fun r hr y hy => by
          have q := (by decide : ∀ r ∈ ([47, 51, 52, 53, 54, 55, 56, 57, 61, 66] : List Int), r < 80) r hr
          (repeat first | rw [zupJ hy] | rw [zupA (by omega)])
        have hlr : ∀ r, r < 80 → r ≠ 54 → r ≠ 55 → r ≠ 56 → (zup (zup (zup (zup (zup (zup h (xAt h p + 5) e a) (xAt h p + 6) e w) (xAt h p + 7) e v) 54 (30 * p + e) a) 55 (30 * p + e) w) 56 (30 * p + e) v) r = h r := fun r q q54 q55 q56 => by (repeat rw [zup_ne (by omega)])
        have hnew : iTb sh (zup (zup (zup (zup (zup (zup h (xAt h p + 5) e a) (xAt h p + 6) e w) (xAt h p + 7) e v) 54 (30 * p + e) a) 55 (30 * p + e) w) 56 (30 * p + e) v) p (xAt h p) := by
          refine iTb_one hkb hb0 hbo hlo (fun r hr => hlr r ((by decide : ∀ r ∈ ([46, 58, 59, 60] : List Int), r < 80) r hr) ((by decide : ∀ r ∈ ([46, 58, 59, 60] : List Int), r ≠ 54) r hr) ((by decide : ∀ r ∈ ([46, 58, 59, 60] : List Int), r ≠ 55) r hr) ((by decide : ∀ r ∈ ([46, 58, 59, 60] : List Int), r ≠ 56) r hr)) (by (repeat rw [zup_ne (by omega)])) ?_
          have hB_ : ∀ j, 1 ≤ j → j ≤ 10 → j ≠ 5 → j ≠ 6 → j ≠ 7 → (zup (zup (zup (zup (zup (zup h (xAt h p + 5) e a) (xAt h p + 6) e w) (xAt h p + 7) e v) 54 (30 * p + e) a) 55 (30 * p + e) w) 56 (30 * p + e) v) (xAt h p + j) e = h (xAt h p + j) e := fun j j0 j1 q5 q6 q7 => by (repeat rw [zupA (by omega)])
          have hL_ : ∀ r, r < 80 → r ≠ 54 → r ≠ 55 → r ≠ 56 → (zup (zup (zup (zup (zup (zup h (xAt h p + 5) e a) (xAt h p + 6) e w) (xAt h p + 7) e v) 54 (30 * p + e) a) 55 (30 * p + e) w) 56 (30 * p + e) v) r (30 * p + e) = h r (30 * p + e) := fun r q q54 q55 q56 => by (repeat rw [zupA (by omega)])
          have u5 : (zup (zup (zup (zup (zup (zup h (xAt h p + 5) e a) (xAt h p + 6) e w) (xAt h p + 7) e v) 54 (30 * p + e) a) 55 (30 * p + e) w) 56 (30 * p + e) v) (xAt h p + 5) e = a := by (repeat first | rw [zupE] | rw [zupA (by omega)] | rw [zupJ (by omega)])
          have u6 : (zup (zup (zup (zup (zup (zup h (xAt h p + 5) e a) (xAt h p + 6) e w) (xAt h p + 7) e v) 54 (30 * p + e) a) 55 (30 * p + e) w) 56 (30 * p + e) v) (xAt h p + 6) e = w := by (repeat first | rw [zupE] | rw [zupA (by omega)] | rw [zupJ (by omega)])
          have u7 : (zup (zup (zup (zup (zup (zup h (xAt h p + 5) e a) (xAt h p + 6) e w) (xAt h p + 7) e v) 54 (30 * p + e) a) 55 (30 * p + e) w) 56 (30 * p + e) v) (xAt h p + 7) e = v := by (repeat first | rw [zupE] | rw [zupA (by omega)] | rw [zupJ (by omega)])
          have u54 : (zup (zup (zup (zup (zup (zup h (xAt h p + 5) e a) (xAt h p + 6) e w) (xAt h p + 7) e v) 54 (30 * p + e) a) 55 (30 * p + e) w) 56 (30 * p + e) v) 54 (30 * p + e) = a := by (repeat first | rw [zupE] | rw [zupA (by omega)] | rw [zupJ (by omega)])
          have u55 : (zup (zup (zup (zup (zup (zup h (xAt h p + 5) e a) (xAt h p + 6) e w) (xAt h p + 7) e v) 54 (30 * p + e) a) 55 (30 * p + e) w) 56 (30 * p + e) v) 55 (30 * p + e) = w := by (repeat first | rw [zupE] | rw [zupA (by omega)] | rw [zupJ (by omega)])
          have u56 : (zup (zup (zup (zup (zup (zup h (xAt h p + 5) e a) (xAt h p + 6) e w) (xAt h p + 7) e v) 54 (30 * p + e) a) 55 (30 * p + e) w) 56 (30 * p + e) v) 56 (30 * p + e) = v := by (repeat first | rw [zupE] | rw [zupA (by omega)] | rw [zupJ (by omega)])
          unfold iEn
          rw [hB_ 1 (by omega) (by omega) (by omega) (by omega) (by omega), hB_ 2 (by omega) (by omega) (by omega) (by omega) (by omega), hB_ 3 (by omega) (by omega) (by omega) (by omega) (by omega), hB_ 4 (by omega) (by omega) (by omega) (by omega) (by omega), u5, u6, u7, hB_ 8 (by omega) (by omega) (by omega) (by omega) (by omega), hB_ 9 (by omega) (by omega) (by omega) (by omega) (by omega), hB_ 10 (by omega) (by omega) (by omega) (by omega) (by omega), hL_ 47 (by omega) (by omega) (by omega) (by omega), hL_ 51 (by omega) (by omega) (by omega) (by omega), hL_ 52 (by omega) (by omega) (by omega) (by omega), hL_ 53 (by omega) (by omega) (by omega) (by omega), u54, u55, u56, hL_ 57 (by omega) (by omega) (by omega) (by omega), hL_ 61 (by omega) (by omega) (by omega) (by omega), hL_ 66 (by omega) (by omega) (by omega) (by omega)]
          exact ⟨⟨k.1.1, k.1.2.1, rfl, k.1.2.2.2.1, k.1.2.2.2.2.1, k.1.2.2.2.2.2⟩, k.2.1, fun z => by omega, fun _ => ⟨rfl, rfl⟩, fun z => by omega, fun _ => ⟨by omega, by rw [← k.1.1]; exact htv⟩⟩
        have hTn : iT sh (zup (zup (zup (zup (zup (zup h (xAt h p + 5) e a) (xAt h p + 6) e w) (xAt h p + 7) e v) 54 (30 * p + e) a) 55 (30 * p + e) w) 56 (30 * p + e) v) := iT_upd hT ea c.1 (hlr 9 (by decide) (by decide) (by decide) (by decide)) (congrFun (hlr 0 (by decide) (by decide) (by decide) (by decide)) 11) (congrFun (hlr 38 (by decide) (by decide) (by decide) (by decide)) 17) hx9 (fun r hr y hy => hlo r hr y (by omega)) (fun r hr y _ => by rw [hlr r ((by decide : ∀ r ∈ ([46, 58, 59, 60] : List Int), r < 80) r hr) ((by decide : ∀ r ∈ ([46, 58, 59, 60] : List Int), r ≠ 54) r hr) ((by decide : ∀ r ∈ ([46, 58, 59, 60] : List Int), r ≠ 55) r hr) ((by decide : ∀ r ∈ ([46, 58, 59, 60] : List Int), r ≠ 56) r hr)]) hnew
        exact oOK.FF a0 b0 rfl c1 c2 (by decide) (by decide) ⟨⟨hS, zRf_c cc (by decide) hR, hn, by omega⟩, mB_c cc (by decide) hB, mTx_c cc (by decide) hX, iS_tb cc (by decide) hZ hx9 hSh, hTn, vHab_c cc (by decide) hV, iE_q (iE_c cc (by decide) hE), vRow_c cc (by decide) hRw, iN_c cc (by decide) hN, iU_c cc (by decide) hU, iG_c cc (by decide) hG, (by rw [cc.r (DR := [75]) (DS := []) (by decide) (x := 75) (by decide)]; exact hL), vTok_c cc (by decide) hTk, iW_c cc (by decide) hW⟩
  · have e17 := hT.1
    have e20 := hV.1
    have a0 := zF.of_eq (n := n) (r' := some (0, -2147483648)) (h1' := h) (congrArg (fun z => some ((0, z) : zV)) (if_neg c)) rfl rfl (if_neg c) (c_xwk (d := 67) hS hR hTb ha_ hw_ hp_ he_ hV.2.2.1 (by rw [← hG.1]; exact hB.2.2.2.2.2.2.1))
    have hcm : ¬ jWk h a w p e := fun z => c (by
      unfold jWk jWd jE at z
      have hp0 : 0 ≤ p ∧ p < h 0 11 := by omega
      obtain ⟨ea, ⟨hZ, ⟨e46, e58, e59, e60⟩, hbd, hwn, hen⟩, hp17, hp5⟩ := iT_at hI hp0
      have k := hen e (by omega) (by omega)
      have e8 := k.1.2.2.2.1
      have e2 := k.1.2.1
      have e5 := k.1.2.2.1
      have k3 := k.2.2.1
      have htr : tTr h (xAt h p) e = h 47 (30 * p + e) := (if_pos (by omega)).trans k.1.1
      have hw0 : h 47 (30 * p + e) ≠ -2147483648 := fun q => z.2.1.1 (by rw [q]; exact if_pos rfl)
      refine ⟨hp0, by omega, by omega, ?_, by rw [htr]; exact hw0, ?_⟩
      · unfold tAg; omega
      · have k9 : h 51 (30 * p + e) = -1 → h 54 (30 * p + e) = -1 := fun q => (k3 q).2
        omega)
    have b0 := zF.of_eq (n := n) (r' := some (0, -2147483648)) (h1' := h) (congrArg (fun z => some ((0, z) : zV)) (if_neg hcm)) rfl rfl (if_neg hcm) (c_jwk (d := 67) hS hR hB hV hTk ha_ hw_ hp_ he_)
    exact oOK.FF a0 b0 rfl zChL.refl zChL.refl (by decide) (by decide) (hI.keep zCh.refl (by decide) (by decide) hR (by decide) hL)

