theorem zFor_cg {β : Type} {f g : Int → β → β} {N : Int} : ∀ (k : Nat) (i : Int) (s : β), N - i ≤ k → (∀ j s, i ≤ j → j < N → f j s = g j s) → zFor f i N s = zFor g i N s := by
  intro k
  induction k with
  | zero => intro i s hk _; rw [zFor_e (by omega), zFor_e (by omega)]
  | succ k ih =>
    intro i s hk h
    by_cases c : i < N
    · rw [zFor_s c, zFor_s c, h i s (Int.le_refl _) c, ih (i + 1) _ (by omega) (fun j s a b => h j s (by omega) b)]
    · rw [zFor_e (by omega), zFor_e (by omega)]
theorem eNm_cg {g f : Int → Int} {b : Int} : ∀ (w : Nat) (v : Int), (∀ j : Nat, j < w → g (b + j) = f (b + j)) → eNm g b w v = eNm f b w v
  | 0, _, _ => rfl
  | w + 1, v, h => by
    show eNm g b w (v * 10 + g (b + w)) = eNm f b w (v * 10 + f (b + w))
    rw [h w (by omega)]; exact eNm_cg w _ (fun j hj => h j (by omega))
theorem eNum_cg {g f : Int → Int} {k : Int} (hk : 0 ≤ k ∧ k ≤ 4) (h : ∀ y, 0 ≤ y → y < 45 → g y = f y) : eNum g k = eNum f k := eNm_cg 9 0 (fun j hj => h _ (by omega) (by omega))
/-- table p, as the class and the reference have it -/
theorem iT_at {q : Int} {n : Nat} {sh : zSh} {h : zMem} {p : Int} (hI : INV q n sh h) (hp : 0 ≤ p ∧ p < h 0 11) : xAt h p = h 9 p ∧ iTb sh h p (xAt h p) ∧ (0 ≤ p ∧ p < h 38 17) ∧ p < 5 := by
  have e : xAt h p = h 9 p := if_pos hp
  have h1 := hI.2.2.2.2.1
  have h5 := hI.2.1.1
  refine ⟨e, by rw [e]; exact h1.2.2 p hp.1 hp.2, by rw [h1.1]; exact hp, by have := h1.1; omega⟩

theorem iFa {h : zMem} {b e i : Int} (hi : 0 ≤ i ∧ i < h b 0) (k : iEn h b e i) : (tFa h b i ↔ jF h e) ∧ (tAg h b i ↔ jAg h e) ∧ (jF h e → h (b + 4) i = h 53 e) := by
  have e8 := k.1.2.2.2.1
  have e1 := k.1.1
  have h3 : h 57 e ≠ -1 → h (b + 4) i = h 53 e := fun z => (k.2.1 (k.2.2.2.2.2 z).1).2.1
  refine ⟨⟨fun z => ⟨by omega, by rw [← h3 (by omega), ← e1]; exact z.2⟩, fun z => ⟨⟨hi, by omega⟩, by rw [h3 z.1, e1]; exact z.2⟩⟩, ⟨fun z => by have := z.2; omega, fun z => ⟨hi, by omega⟩⟩, fun z => h3 z.1⟩
theorem iSh {sh : zSh} {h : zMem} {p b : Int} (hZ : zTab sh h b) (e46 : h 46 p = h b 0) (hen : ∀ i, 0 ≤ i → i < h b 0 → iEn h b (30 * p + i) i) : jcS h p = tcS h b := by
  have := hZ.2.2.1
  unfold jcS tcS
  rw [e46]
  refine zS_congr 30 0 (by omega) (fun j a c => zb_eq ?_)
  have k := hen j a c
  have q := iFa ⟨a, c⟩ k
  have e10 := k.1.2.2.2.2.2
  constructor
  · rintro ⟨z1, z2⟩
    exact ⟨q.1.mpr z1, by rw [e10, q.2.2 z1]; exact z2⟩
  · rintro ⟨z1, z2⟩
    have z3 := q.1.mp z1
    exact ⟨z3, by rw [← q.2.2 z3, ← e10]; exact z2⟩
theorem iCo {sh : zSh} {h : zMem} {p b : Int} (hZ : zTab sh h b) (e46 : h 46 p = h b 0) (hen : ∀ i, 0 ≤ i → i < h b 0 → iEn h b (30 * p + i) i) : jcN h p = tcN h b ∧ jcF h p = tcF h b ∧ jcO h p = tcO h b := by
  have := hZ.2.2.1
  unfold jcN tcN jcF tcF jcO tcO
  rw [e46]
  refine ⟨zS_congr 30 0 (by omega) (fun j a c => zb_eq ?_), zS_congr 30 0 (by omega) (fun j a c => zb_eq ?_), zS_congr 30 0 (by omega) (fun j a c => zb_eq ?_)⟩
  · have k := hen j a c
    rw [k.1.2.2.2.2.2]
  · have k := hen j a c
    rw [k.1.2.2.2.2.2, k.1.1]
  · have k := hen j a c
    have q := iFa ⟨a, c⟩ k
    rw [k.1.2.2.2.2.2]
    exact ⟨fun z => ⟨z.1, q.1.mpr z.2⟩, fun z => ⟨z.1, q.1.mp z.2⟩⟩

set_option maxRecDepth 100000 in
set_option maxHeartbeats 4000000 in
theorem op_exact {q : Int} {n : Nat} {sh : zSh} {h : zMem} {p e : Int} (hI : INV q n sh h) (hq6 : q ≤ 520) (hp_ : zi32 p) (he_ : zi32 e) : oOK q n sh h (fun Q => zM yX10_exact cX10_exact 4 (some .int) 70 0 0 [(2, 0), (0, p), (0, e)] n sh h Q) (fun n1 sh1 h1 Q => zM yX11_exact cX11_exact 3 (some .int) 70 0 0 [(2, 38), (0, p), (0, e)] n1 sh1 h1 Q) := by
  obtain ⟨⟨hS, hR, hn, hq⟩, hB, hX, hSh, hT, hV, hE, hRw, hN, hU, hG, hL, hTk, hW⟩ := id hI
  have hTb := hI.xTb
  refine oOK.FF (c_xexact (d := 68) hS hR hTb hp_ he_) (c_jEx (d := 67) hS hR hB hp_ he_) ?_ zChL.refl zChL.refl (by decide) (by decide) (hI.keep zCh.refl (by decide) (by decide) hR (by decide) hL)
  unfold jEx
  have e17 := hT.1
  by_cases c : 0 ≤ p ∧ p < h 0 11
  · obtain ⟨ea, ⟨hZ, ⟨e46, e58, e59, e60⟩, hbd, hwn, hen⟩, hp17, hp5⟩ := iT_at hI c
    rw [if_pos c]
    unfold tTr
    by_cases c2 : 0 ≤ e ∧ e < h (xAt h p) 0
    · rw [if_pos c2, if_pos (by omega), (hen e c2.1 c2.2).1.1]
    · rw [if_neg c2, if_neg (by omega)]
  · rw [if_neg c, if_neg (by omega)]

set_option maxRecDepth 100000 in
set_option maxHeartbeats 4000000 in
theorem op_figure {q : Int} {n : Nat} {sh : zSh} {h : zMem} {p e : Int} (hI : INV q n sh h) (hq6 : q ≤ 520) (hp_ : zi32 p) (he_ : zi32 e) : oOK q n sh h (fun Q => zM yX10_figure cX10_figure 4 (some .int) 70 0 0 [(2, 0), (0, p), (0, e)] n sh h Q) (fun n1 sh1 h1 Q => zM yX11_figure cX11_figure 3 (some .int) 70 0 0 [(2, 38), (0, p), (0, e)] n1 sh1 h1 Q) := by
  obtain ⟨⟨hS, hR, hn, hq⟩, hB, hX, hSh, hT, hV, hE, hRw, hN, hU, hG, hL, hTk, hW⟩ := id hI
  have hTb := hI.xTb
  refine oOK.FF (c_xfig (d := 67) hS hR hTb hp_ he_) (c_jFg (d := 67) hS hR hB hp_ he_) ?_ zChL.refl zChL.refl (by decide) (by decide) (hI.keep zCh.refl (by decide) (by decide) hR (by decide) hL)
  unfold jFg
  have e17 := hT.1
  by_cases c : 0 ≤ p ∧ p < h 0 11
  · obtain ⟨ea, ⟨hZ, ⟨e46, e58, e59, e60⟩, hbd, hwn, hen⟩, hp17, hp5⟩ := iT_at hI c
    rw [if_pos c]
    unfold tFig
    by_cases c2 : 0 ≤ e ∧ e < h (xAt h p) 0
    · have hq2 := hen e c2.1 c2.2
      have e8 := hq2.1.2.2.2.1
      by_cases c3 : h 57 (30 * p + e) ≠ -1
      · rw [if_pos ⟨by omega, c3⟩, if_pos ⟨c2, by omega⟩, (hq2.2.1 (hq2.2.2.2.2.2 c3).1).2.1]
      · rw [if_neg (fun z => c3 z.2), if_neg (fun z => c3 (by omega))]
    · rw [if_neg (by omega), if_neg (by omega)]
  · rw [if_neg c, if_neg (by omega)]

set_option maxRecDepth 100000 in
set_option maxHeartbeats 4000000 in
theorem op_would {q : Int} {n : Nat} {sh : zSh} {h : zMem} {a w p e : Int} (hI : INV q n sh h) (hq6 : q ≤ 520) (ha_ : zi32 a) (hw_ : zi32 w) (hp_ : zi32 p) (he_ : zi32 e) : oOK q n sh h (fun Q => zM yX10_would cX10_would 6 (some .int) 70 0 0 [(2, 0), (0, a), (0, w), (0, p), (0, e)] n sh h Q) (fun n1 sh1 h1 Q => zM yX11_would cX11_would 5 (some .int) 70 0 0 [(2, 38), (0, a), (0, w), (0, p), (0, e)] n1 sh1 h1 Q) := by
  obtain ⟨⟨hS, hR, hn, hq⟩, hB, hX, hSh, hT, hV, hE, hRw, hN, hU, hG, hL, hTk, hW⟩ := id hI
  have hTb := hI.xTb
  refine oOK.FF (c_xwo (d := 68) hS hR hTb ha_ hw_ hp_ he_ hV.2.2.1) (c_jwo (d := 67) hS hR hB hV hTk ha_ hw_ hp_ he_) ?_ zChL.refl zChL.refl (by decide) (by decide) (hI.keep zCh.refl (by decide) (by decide) hR (by decide) hL)
  unfold jWo
  have e17 := hT.1
  have e20 := hV.1
  have hv0 : hWr h a w (-2147483648) = -2147483648 := if_pos rfl
  by_cases c : 0 ≤ p ∧ p < h 0 11
  · obtain ⟨ea, ⟨hZ, ⟨e46, e58, e59, e60⟩, hbd, hwn, hen⟩, hp17, hp5⟩ := iT_at hI c
    by_cases c2 : (0 ≤ a ∧ a < h 10 0) ∧ 0 ≤ w ∧ w < 3
    · rw [if_pos (show xT h p ∧ (0 ≤ a ∧ a < h 10 0) ∧ 0 ≤ w ∧ w < 3 from ⟨c, c2⟩)]
      unfold tTr
      by_cases c3 : 0 ≤ e ∧ e < h (xAt h p) 0
      · rw [if_pos c3, if_pos (show jWd h a w p e by omega), (hen e c3.1 c3.2).1.1]
      · rw [if_neg c3, if_neg (show ¬ jWd h a w p e by omega), hv0]
    · rw [if_neg (show ¬ (xT h p ∧ (0 ≤ a ∧ a < h 10 0) ∧ 0 ≤ w ∧ w < 3) from fun z => c2 z.2), if_neg (show ¬ jWd h a w p e by omega)]
  · rw [if_neg (show ¬ (xT h p ∧ (0 ≤ a ∧ a < h 10 0) ∧ 0 ≤ w ∧ w < 3) from fun z => c z.1), if_neg (show ¬ jWd h a w p e by omega)]

set_option maxRecDepth 100000 in
set_option maxHeartbeats 4000000 in
theorem op_column {q : Int} {n : Nat} {sh : zSh} {h : zMem} {x : Int} (hI : INV q n sh h) (hq6 : q ≤ 520) (hx_ : zi32 x) : oOK q n sh h (fun Q => zM yX10_column cX10_column 2 (some .int) 70 0 0 [(2, 0), (0, x)] n sh h Q) (fun n1 sh1 h1 Q => zM yX11_column cX11_column 2 (some .int) 70 0 0 [(2, 38), (0, x)] n1 sh1 h1 Q) := by
  obtain ⟨⟨hS, hR, hn, hq⟩, hB, hX, hSh, hT, hV, hE, hRw, hN, hU, hG, hL, hTk, hW⟩ := id hI
  have hTb := hI.xTb
  refine oOK.FF (c_xcol (d := 69) hS hR hTb hx_) (c_jcl (d := 69) hS hR hB hx_) ?_ zChL.refl zChL.refl (by decide) (by decide) (hI.keep zCh.refl (by decide) (by decide) hR (by decide) hL)
  unfold jCol
  by_cases c : 0 ≤ x ∧ x ≤ 6
  · rw [if_pos c, if_pos c, hE.1.1, hE.1.2.1]
    by_cases c2 : x < 5
    · rw [if_pos c2, if_pos c2]; exact eNum_cg (by omega) hE.2.2.2.1
    · rw [if_neg c2, if_neg c2]
  · rw [if_neg c, if_neg c]

set_option maxRecDepth 100000 in
set_option maxHeartbeats 4000000 in
theorem op_middle {q : Int} {n : Nat} {sh : zSh} {h : zMem} {i a b : Int} (hI : INV q n sh h) (hq6 : q ≤ 520) (hi_ : zi32 i) (ha_ : zi32 a) (hb_ : zi32 b) : oOK q n sh h (fun Q => zM yX10_middle cX10_middle 4 (some .int) 70 0 0 [(2, 0), (0, i), (0, a), (0, b)] n sh h Q) (fun n1 sh1 h1 Q => zM yX11_middle cX11_middle 10 (some .int) 70 0 0 [(2, 38), (0, i), (0, a), (0, b)] n1 sh1 h1 Q) := by
  obtain ⟨⟨hS, hR, hn, hq⟩, hB, hX, hSh, hT, hV, hE, hRw, hN, hU, hG, hL, hTk, hW⟩ := id hI
  have hTb := hI.xTb
  refine oOK.FF (c_xmid (d := 67) hS hR hTb hi_ ha_ hb_ hRw.2.1) (c_jmi (d := 68) hS hR hB hRw hi_ ha_ hb_) ?_ zChL.refl zChL.refl (by decide) (by decide) (hI.keep zCh.refl (by decide) (by decide) hR (by decide) hL)
  rfl

set_option maxRecDepth 100000 in
set_option maxHeartbeats 4000000 in
theorem op_bound {q : Int} {n : Nat} {sh : zSh} {h : zMem} {i : Int} (hI : INV q n sh h) (hq6 : q ≤ 520) (hi_ : zi32 i) : oOK q n sh h (fun Q => zM yX10_bound cX10_bound 2 (some .int) 70 0 0 [(2, 0), (0, i)] n sh h Q) (fun n1 sh1 h1 Q => zM yX11_bound cX11_bound 5 (some .int) 70 0 0 [(2, 38), (0, i)] n1 sh1 h1 Q) := by
  obtain ⟨⟨hS, hR, hn, hq⟩, hB, hX, hSh, hT, hV, hE, hRw, hN, hU, hG, hL, hTk, hW⟩ := id hI
  have hTb := hI.xTb
  refine oOK.FF (c_xbnd (d := 66) hS hR hTb hi_ hRw.2.1) (c_jbo (d := 67) hS hR hB hRw hi_) ?_ zChL.refl zChL.refl (by decide) (by decide) (hI.keep zCh.refl (by decide) (by decide) hR (by decide) hL)
  rfl

set_option maxRecDepth 100000 in
set_option maxHeartbeats 4000000 in
theorem op_read {q : Int} {n : Nat} {sh : zSh} {h : zMem} {p e : Int} (hI : INV q n sh h) (hq6 : q ≤ 520) (hp_ : zi32 p) (he_ : zi32 e) : oOK q n sh h (fun Q => zM yX10_read cX10_read 4 (some .int) 70 0 0 [(2, 0), (0, p), (0, e)] n sh h Q) (fun n1 sh1 h1 Q => zM yX11_read cX11_read 7 (some .int) 70 0 0 [(2, 38), (0, p), (0, e)] n1 sh1 h1 Q) := by
  obtain ⟨⟨hS, hR, hn, hq⟩, hB, hX, hSh, hT, hV, hE, hRw, hN, hU, hG, hL, hTk, hW⟩ := id hI
  have hTb := hI.xTb
  have e17 := hT.1
  have hfc : ((0 ≤ p ∧ p < h 0 11) ∧ h (xAt h p) 11 ≠ 0) → tAg h (xAt h p) e → -999999999 ≤ h (xAt h p + 4) e ∧ h (xAt h p + 4) e ≤ 999999999 := (fun c c2 => by
      obtain ⟨ea, ⟨hZ, ⟨e46, e58, e59, e60⟩, hbd, hwn, hen⟩, hp17, hp5⟩ := iT_at hI c.1
      have hq2 := hen e c2.1.1 c2.1.2
      have e8 := hq2.1.2.2.2.1
      have h3 := hq2.2.1 (hq2.2.2.2.2.2 (by omega)).1
      rw [h3.2.1]; exact h3.2.2)
  have hfm : jG h p e → -999999999 ≤ h 53 (30 * p + e) ∧ h 53 (30 * p + e) ≤ 999999999 := fun g => by
    have c : 0 ≤ p ∧ p < h 0 11 := by omega
    obtain ⟨ea, ⟨hZ, ⟨e46, e58, e59, e60⟩, hbd, hwn, hen⟩, hp17, hp5⟩ := iT_at hI c
    have hq2 := hen e (by omega) (by omega)
    exact (hq2.2.1 (hq2.2.2.2.2.2 g.2.2).1).2.2
  refine oOK.FF (c_xread (d := 67) hS hR hTb hp_ he_ hfc) (c_jrd (d := 66) hS hR hB hp_ he_ hfm) ?_ zChL.refl zChL.refl (by decide) (by decide) (hI.keep zCh.refl (by decide) (by decide) hR (by decide) hL)
  unfold jRd
  by_cases c : 0 ≤ p ∧ p < h 0 11
  · obtain ⟨ea, ⟨hZ, ⟨e46, e58, e59, e60⟩, hbd, hwn, hen⟩, hp17, hp5⟩ := iT_at hI c
    by_cases c1 : h (xAt h p) 11 ≠ 0
    · rw [if_pos (show (0 ≤ p ∧ p < h 0 11) ∧ h (xAt h p) 11 ≠ 0 from ⟨c, c1⟩)]
      unfold tRd
      by_cases c2 : 0 ≤ e ∧ e < h (xAt h p) 0
      · have hq2 := hen e c2.1 c2.2
        have e8 := hq2.1.2.2.2.1
        by_cases c3 : h 57 (30 * p + e) ≠ -1
        · have h3 := hq2.2.1 (hq2.2.2.2.2.2 c3).1
          rw [if_pos (show jG h p e by omega), if_pos (show (0 ≤ e ∧ e < h (xAt h p) 0) ∧ h (xAt h p + 8) e ≠ -1 by omega), h3.2.1, hq2.1.2.2.2.2.1]
        · rw [if_neg (show ¬ jG h p e from fun z => c3 z.2.2), if_neg (show ¬ ((0 ≤ e ∧ e < h (xAt h p) 0) ∧ h (xAt h p + 8) e ≠ -1) by omega)]
      · rw [if_neg (show ¬ jG h p e by omega), if_neg (show ¬ ((0 ≤ e ∧ e < h (xAt h p) 0) ∧ h (xAt h p + 8) e ≠ -1) by omega)]
    · rw [if_neg (show ¬ jG h p e by omega), if_neg (show ¬ ((0 ≤ p ∧ p < h 0 11) ∧ h (xAt h p) 11 ≠ 0) by omega)]
  · rw [if_neg (show ¬ jG h p e by omega), if_neg (show ¬ ((0 ≤ p ∧ p < h 0 11) ∧ h (xAt h p) 11 ≠ 0) by omega)]

set_option maxRecDepth 100000 in
set_option maxHeartbeats 4000000 in
theorem op_known {q : Int} {n : Nat} {sh : zSh} {h : zMem} {p e x : Int} (hI : INV q n sh h) (hq6 : q ≤ 520) (hp_ : zi32 p) (he_ : zi32 e) (hx_ : zi32 x) : oOK q n sh h (fun Q => zM yX10_known cX10_known 5 (some .int) 70 0 0 [(2, 0), (0, p), (0, e), (0, x)] n sh h Q) (fun n1 sh1 h1 Q => zM yX11_known cX11_known 4 (some .int) 70 0 0 [(2, 38), (0, p), (0, e), (0, x)] n1 sh1 h1 Q) := by
  obtain ⟨⟨hS, hR, hn, hq⟩, hB, hX, hSh, hT, hV, hE, hRw, hN, hU, hG, hL, hTk, hW⟩ := id hI
  have hTb := hI.xTb
  refine oOK.FF (c_xkn (d := 67) hS hR hTb hp_ he_ hx_ (by rw [← hU.1]; exact hB.2.2.2.2.2.1)) (c_jkn (d := 66) hS hR hB hp_ he_ hx_) ?_ zChL.refl zChL.refl (by decide) (by decide) (hI.keep zCh.refl (by decide) (by decide) hR (by decide) hL)
  have e17 := hT.1
  by_cases c : 0 ≤ p ∧ p < h 0 11
  · obtain ⟨ea, ⟨hZ, ⟨e46, e58, e59, e60⟩, hbd, hwn, hen⟩, hp17, hp5⟩ := iT_at hI c
    by_cases c1 : h (xAt h p) 11 ≠ 0
    · by_cases c2 : 0 ≤ e ∧ e < h (xAt h p) 0
      · have hq2 := hen e c2.1 c2.2
        have e8 := hq2.1.2.2.2.1
        have hE30 := hZ.2.2.1
        by_cases c3 : h 57 (30 * p + e) ≠ -1 ∧ 0 ≤ x ∧ x ≤ 999
        · have h3 := hq2.2.1 (hq2.2.2.2.2.2 c3.1).1
          rw [if_pos (show jG h p e ∧ 0 ≤ x ∧ x ≤ 999 by omega), if_pos (show (((0 ≤ p ∧ p < h 0 11) ∧ h (xAt h p) 11 ≠ 0) ∧ tAg h (xAt h p) e) ∧ 0 ≤ x ∧ x ≤ 999 by omega), show tFig h (xAt h p) e = h 53 (30 * p + e) from (if_pos ⟨c2, by omega⟩).trans h3.2.1, hU.1]
          refine zFor_cg 40 0 _ (by have := hB.2.2.2.2.2.1; have := hU.1; omega) (fun k s a b => ?_)
          have hk := hU.2 k a b
          have h46 := hB.2.1 (h 33 k) hk.2.1.1 hk.2.1.2
          unfold jAp eAp
          rw [hk.1.2.1, hk.1.2.2.1]
          have e5 := hk.1.2.2.2
          have e6 := hk.1.1
          have e7 := hk.2.2.1
          by_cases c4 : (h 33 k = p ∧ h 34 k = e ∧ h 37 k ≤ x) ∧ h 35 k = s
          · rw [if_pos c4, if_pos (by omega)]
          · rw [if_neg c4, if_neg (by omega)]
        · rw [if_neg (show ¬ (jG h p e ∧ 0 ≤ x ∧ x ≤ 999) by omega), if_neg (show ¬ ((((0 ≤ p ∧ p < h 0 11) ∧ h (xAt h p) 11 ≠ 0) ∧ tAg h (xAt h p) e) ∧ 0 ≤ x ∧ x ≤ 999) by omega)]
      · rw [if_neg (show ¬ (jG h p e ∧ 0 ≤ x ∧ x ≤ 999) by omega), if_neg (show ¬ ((((0 ≤ p ∧ p < h 0 11) ∧ h (xAt h p) 11 ≠ 0) ∧ tAg h (xAt h p) e) ∧ 0 ≤ x ∧ x ≤ 999) by omega)]
    · rw [if_neg (show ¬ (jG h p e ∧ 0 ≤ x ∧ x ≤ 999) by omega), if_neg (show ¬ ((((0 ≤ p ∧ p < h 0 11) ∧ h (xAt h p) 11 ≠ 0) ∧ tAg h (xAt h p) e) ∧ 0 ≤ x ∧ x ≤ 999) by omega)]
  · rw [if_neg (show ¬ (jG h p e ∧ 0 ≤ x ∧ x ≤ 999) by omega), if_neg (show ¬ ((((0 ≤ p ∧ p < h 0 11) ∧ h (xAt h p) 11 ≠ 0) ∧ tAg h (xAt h p) e) ∧ 0 ≤ x ∧ x ≤ 999) by omega)]

set_option maxRecDepth 100000 in
set_option maxHeartbeats 4000000 in
theorem op_shared {q : Int} {n : Nat} {sh : zSh} {h : zMem} {p : Int} (hI : INV q n sh h) (hq6 : q ≤ 520) (hp_ : zi32 p) : oOK q n sh h (fun Q => zM yX10_shared cX10_shared 3 (some .int) 70 0 0 [(2, 0), (0, p)] n sh h Q) (fun n1 sh1 h1 Q => zM yX11_shared cX11_shared 4 (some .int) 70 0 0 [(2, 38), (0, p)] n1 sh1 h1 Q) := by
  obtain ⟨⟨hS, hR, hn, hq⟩, hB, hX, hSh, hT, hV, hE, hRw, hN, hU, hG, hL, hTk, hW⟩ := id hI
  have hTb := hI.xTb
  refine oOK.FF (c_xsha (d := 66) hS hR hTb hp_) (c_jsh (d := 67) hS hR hB hp_) ?_ zChL.refl zChL.refl (by decide) (by decide) (hI.keep zCh.refl (by decide) (by decide) hR (by decide) hL)
  have e17 := hT.1
  unfold jSh
  by_cases c : 0 ≤ p ∧ p < h 0 11
  · obtain ⟨ea, ⟨hZ, ⟨e46, e58, e59, e60⟩, hbd, hwn, hen⟩, hp17, hp5⟩ := iT_at hI c
    by_cases c1 : h (xAt h p) 11 ≠ 0
    · rw [if_pos (show (0 ≤ p ∧ p < h 0 11) ∧ h (xAt h p) 11 ≠ 0 from ⟨c, c1⟩), if_pos (show jS h p by omega)]
      exact iSh hZ e46 hen
    · rw [if_neg (show ¬ jS h p by omega), if_neg (show ¬ ((0 ≤ p ∧ p < h 0 11) ∧ h (xAt h p) 11 ≠ 0) by omega)]
  · rw [if_neg (show ¬ jS h p by omega), if_neg (show ¬ ((0 ≤ p ∧ p < h 0 11) ∧ h (xAt h p) 11 ≠ 0) by omega)]

set_option maxRecDepth 100000 in
set_option maxHeartbeats 4000000 in
theorem op_copied {q : Int} {n : Nat} {sh : zSh} {h : zMem} {p : Int} (hI : INV q n sh h) (hq6 : q ≤ 520) (hp_ : zi32 p) : oOK q n sh h (fun Q => zM yX10_copied cX10_copied 3 (some .int) 70 0 0 [(2, 0), (0, p)] n sh h Q) (fun n1 sh1 h1 Q => zM yX11_copied cX11_copied 8 (some .int) 70 0 0 [(2, 38), (0, p)] n1 sh1 h1 Q) := by
  obtain ⟨⟨hS, hR, hn, hq⟩, hB, hX, hSh, hT, hV, hE, hRw, hN, hU, hG, hL, hTk, hW⟩ := id hI
  have hTb := hI.xTb
  refine oOK.FF (c_xcop (d := 65) hS hR hTb hp_) (c_jcop (d := 66) hS hR hB hp_) ?_ zChL.refl zChL.refl (by decide) (by decide) (hI.keep zCh.refl (by decide) (by decide) hR (by decide) hL)
  have e17 := hT.1
  by_cases c : 0 ≤ p ∧ p < h 0 11
  · obtain ⟨ea, ⟨hZ, ⟨e46, e58, e59, e60⟩, hbd, hwn, hen⟩, hp17, hp5⟩ := iT_at hI c
    by_cases c1 : h (xAt h p) 11 ≠ 0
    · rw [if_pos (show (0 ≤ p ∧ p < h 0 11) ∧ h (xAt h p) 11 ≠ 0 from ⟨c, c1⟩), if_pos (show jS h p by omega)]
      have k := iCo hZ e46 hen
      refine zb_eq ?_
      show _ ↔ zS (zcp (tcN h (xAt h p)) (tcF h (xAt h p)) (tcO h (xAt h p))) (tcS h (xAt h p)) (tcF h (xAt h p) + 1) * 100 < zbi (tcN h (xAt h p)) (tcF h (xAt h p))
      rw [k.1, k.2.1, k.2.2, iSh hZ e46 hen, cp_eq]
    · rw [if_neg (show ¬ jS h p by omega), if_neg (show ¬ ((0 ≤ p ∧ p < h 0 11) ∧ h (xAt h p) 11 ≠ 0) by omega)]
  · rw [if_neg (show ¬ jS h p by omega), if_neg (show ¬ ((0 ≤ p ∧ p < h 0 11) ∧ h (xAt h p) 11 ≠ 0) by omega)]

set_option maxRecDepth 100000 in
set_option maxHeartbeats 4000000 in
theorem op_lead {q : Int} {n : Nat} {sh : zSh} {h : zMem} {p e x : Int} (hI : INV q n sh h) (hq6 : q ≤ 520) (hp_ : zi32 p) (he_ : zi32 e) (hx_ : zi32 x) : oOK q n sh h (fun Q => zM yX10_lead cX10_lead 5 (some .int) 70 0 0 [(2, 0), (0, p), (0, e), (0, x)] n sh h Q) (fun n1 sh1 h1 Q => zM yX11_lead cX11_lead 7 (some .int) 70 0 0 [(2, 38), (0, p), (0, e), (0, x)] n1 sh1 h1 Q) := by
  obtain ⟨⟨hS, hR, hn, hq⟩, hB, hX, hSh, hT, hV, hE, hRw, hN, hU, hG, hL, hTk, hW⟩ := id hI
  have hTb := hI.xTb
  refine oOK.FF (c_xld (d := 66) hS hR hTb hp_ he_ hx_) (c_jld (d := 66) hS hR hB hp_ he_ hx_) ?_ zChL.refl zChL.refl (by decide) (by decide) (hI.keep zCh.refl (by decide) (by decide) hR (by decide) hL)
  have e17 := hT.1
  unfold jLd
  by_cases c : 0 ≤ p ∧ p < h 0 11
  · obtain ⟨ea, ⟨hZ, ⟨e46, e58, e59, e60⟩, hbd, hwn, hen⟩, hp17, hp5⟩ := iT_at hI c
    by_cases c2 : 0 ≤ e ∧ e < h (xAt h p) 0
    · have k := hen e c2.1 c2.2
      have qf := iFa c2 k
      rw [if_pos (show xT h p ∧ tHas h (xAt h p) e from ⟨c, c2⟩), if_pos (show jE h p e by omega)]
      by_cases x0 : x = 0
      · rw [if_pos x0, if_pos x0, k.1.2.1]
      rw [if_neg x0, if_neg x0]
      by_cases x1 : x = 1
      · rw [if_pos x1, if_pos x1]
        by_cases c5 : h 51 (30 * p + e) ≠ -1
        · rw [if_pos c5, (k.2.1 c5).1]
        · rw [if_neg c5, (k.2.2.1 (by omega)).1]
      rw [if_neg x1, if_neg x1]
      by_cases x2 : x = 2
      · rw [if_pos x2, if_pos x2, k.1.2.2.1]
      rw [if_neg x2, if_neg x2]
      by_cases x3 : x = 3
      · rw [if_pos x3, if_pos x3]
        by_cases c5 : h 54 (30 * p + e) ≠ -1
        · rw [if_pos c5, (k.2.2.2.1 c5).1]
        · rw [if_neg c5, k.2.2.2.2.1 (by omega)]
      rw [if_neg x3, if_neg x3]
      by_cases x4 : x = 4
      · rw [if_pos x4, if_pos x4, k.1.2.2.2.1]
      rw [if_neg x4, if_neg x4]
      by_cases x5 : x = 5
      · rw [if_pos x5, if_pos x5]
        unfold tFh
        by_cases c5 : h 57 (30 * p + e) ≠ -1
        · rw [if_pos c5, if_pos (show tAg h (xAt h p) e from qf.2.1.mpr c5)]
          by_cases c6 : h 53 (30 * p + e) ≠ h 47 (30 * p + e)
          · rw [if_pos c6, zb_t (qf.1.mpr ⟨c5, c6⟩)]
          · rw [if_neg c6, zb_f (fun z => c6 (qf.1.mp z).2)]
        · rw [if_neg c5, if_neg (show ¬ tAg h (xAt h p) e from fun z => c5 (qf.2.1.mp z))]
      rw [if_neg x5, if_neg x5]
      by_cases x6 : x = 6
      · rw [if_pos x6, if_pos x6, k.1.2.2.2.2.1]
        have e8 := k.1.2.2.2.1
        by_cases c5 : h (xAt h p) 11 ≠ 0 ∧ h 57 (30 * p + e) ≠ -1
        · rw [if_pos (show jG h p e by omega), if_pos (show h (xAt h p) 11 ≠ 0 ∧ tAg h (xAt h p) e by omega)]
        · rw [if_neg (show ¬ jG h p e by omega), if_neg (show ¬ (h (xAt h p) 11 ≠ 0 ∧ tAg h (xAt h p) e) by omega)]
      rw [if_neg x6, if_neg x6]
    · rw [if_neg (show ¬ (xT h p ∧ tHas h (xAt h p) e) from fun z => c2 z.2), if_neg (show ¬ jE h p e by omega)]
  · rw [if_neg (show ¬ (xT h p ∧ tHas h (xAt h p) e) from fun z => c z.1), if_neg (show ¬ jE h p e by omega)]

set_option maxRecDepth 100000 in
set_option maxHeartbeats 4000000 in
theorem op_count {q : Int} {n : Nat} {sh : zSh} {h : zMem} {x : Int} (hI : INV q n sh h) (hq6 : q ≤ 520) (hx_ : zi32 x) : oOK q n sh h (fun Q => zM yX10_count cX10_count 2 (some .int) 70 0 0 [(2, 0), (0, x)] n sh h Q) (fun n1 sh1 h1 Q => zM yX11_count cX11_count 5 (some .int) 70 0 0 [(2, 38), (0, x)] n1 sh1 h1 Q) := by
  obtain ⟨⟨hS, hR, hn, hq⟩, hB, hX, hSh, hT, hV, hE, hRw, hN, hU, hG, hL, hTk, hW⟩ := id hI
  have hTb := hI.xTb
  refine oOK.FF (c_xct (d := 65) hS hR hTb hx_) (c_jct (d := 68) hS hR hB hx_) ?_ zChL.refl zChL.refl (by decide) (by decide) (hI.keep zCh.refl (by decide) (by decide) hR (by decide) hL)
  have e17 := hT.1
  obtain ⟨W, hSs⟩ := hSh.2
  unfold jCt
  by_cases x0 : x = 0
  · rw [if_pos x0, if_neg (by omega), if_pos x0, hG.1]
  by_cases x1 : x = 1
  · rw [if_neg x0, if_pos x1, if_neg (by omega), if_neg x0, if_pos x1, hSh.1]
  by_cases x2 : x = 2
  · rw [if_neg x0, if_neg x1, if_pos x2, if_neg (by omega), if_neg x0, if_neg x1, if_pos x2, e17]
  by_cases x3 : x = 3
  · rw [if_neg x0, if_neg x1, if_neg x2, if_pos x3, if_neg (by omega), if_neg x0, if_neg x1, if_neg x2, if_pos x3, hV.1]
  by_cases x4 : x = 4
  · rw [if_neg x0, if_neg x1, if_neg x2, if_neg x3, if_pos x4, if_neg (by omega), if_neg x0, if_neg x1, if_neg x2, if_neg x3, if_pos x4, hV.2.1]
  by_cases x5 : x = 5
  · rw [if_neg x0, if_neg x1, if_neg x2, if_neg x3, if_neg x4, if_pos x5, if_neg (by omega), if_neg x0, if_neg x1, if_neg x2, if_neg x3, if_neg x4, if_pos x5, hRw.1]
  by_cases x6 : x = 6
  · rw [if_neg x0, if_neg x1, if_neg x2, if_neg x3, if_neg x4, if_neg x5, if_pos x6, if_neg (by omega), if_neg x0, if_neg x1, if_neg x2, if_neg x3, if_neg x4, if_neg x5, if_pos x6, hU.1]
  by_cases x7 : x = 7
  · rw [if_neg x0, if_neg x1, if_neg x2, if_neg x3, if_neg x4, if_neg x5, if_neg x6, if_pos x7, if_neg (by omega), if_neg x0, if_neg x1, if_neg x2, if_neg x3, if_neg x4, if_neg x5, if_neg x6, if_pos x7, hX.2.1]
  rw [if_neg x0, if_neg x1, if_neg x2, if_neg x3, if_neg x4, if_neg x5, if_neg x6, if_neg x7, if_neg x0, if_neg x1, if_neg x2, if_neg x3, if_neg x4, if_neg x5, if_neg x6, if_neg x7]
  unfold cOT
  by_cases xn : 0 ≤ x
  · rw [(ztm_p (x := x) (y := 10) (by decide) xn).1, (ztm_p (x := x) (y := 10) (by decide) xn).2]
    by_cases c : 0 ≤ x % 10 ∧ x % 10 < h 0 11
    · obtain ⟨ea, ⟨hZ, ⟨e46, e58, e59, e60⟩, hbd, hwn, hen⟩, hp17, hp5⟩ := iT_at hI c
      rw [if_pos c]
      by_cases cr : 10 ≤ x ∧ x ≤ 39
      · rw [if_pos ⟨cr, hp17⟩]
        by_cases k3 : 30 ≤ x
        · rw [if_pos k3, if_neg (by omega), if_neg (by omega), if_pos (by omega), e59]
        · rw [if_neg k3, e46]
          have hE30 := hZ.2.2.1
          by_cases k1 : x < 20
          · rw [if_pos k1, if_pos (by omega)]
            exact zS_congr 30 0 (by omega) (fun j a b => zb_eq (iFa ⟨a, b⟩ (hen j a b)).2.1.symm)
          · rw [if_neg k1, if_neg (by omega), if_pos (by omega)]
            exact zS_congr 30 0 (by omega) (fun j a b => zb_eq (iFa ⟨a, b⟩ (hen j a b)).1.symm)
      · rw [if_neg (fun z => cr z.1), if_neg (by omega), if_neg (by omega), if_neg (by omega)]
    · rw [if_neg c, if_neg (by omega)]
  · rw [if_neg (by omega)]
    have hd := zqd (s := x) (k := 10) (by decide)
    split
    · rw [if_neg (by omega), if_neg (by omega), if_neg (by omega)]
    · rfl

