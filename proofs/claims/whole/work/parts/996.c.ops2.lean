theorem rw_row {h : zMem} {x : Int} (k : vRow h) (c : h 26 0 < 20 ∧ -999999 ≤ x ∧ x ≤ 999999) : vRow (zup (zup (rTel h x) 71 (h 26 0) x) 38 50 (h 26 0 + 1)) := by
  have e26 : zup (zup (rTel h x) 71 (h 26 0) x) 38 50 (h 26 0 + 1) 26 0 = h 26 0 + 1 := by unfold rTel; (repeat first | rw [zupE] | rw [zupA (by decide)] | rw [zupJ (by decide)])
  have e27 : ∀ y, zup (zup (rTel h x) 71 (h 26 0) x) 38 50 (h 26 0 + 1) 27 y = if y = h 26 0 then x else h 27 y := fun y => by
    unfold rTel
    rw [zupA (by decide), zupA (by decide), zupA (by decide)]
    by_cases q : y = h 26 0
    · rw [if_pos q, q, zupE]
    · rw [if_neg q, zupJ q]
  have e71 : ∀ y, zup (zup (rTel h x) 71 (h 26 0) x) 38 50 (h 26 0 + 1) 71 y = if y = h 26 0 then x else h 71 y := fun y => by
    unfold rTel
    rw [zupA (by decide)]
    by_cases q : y = h 26 0
    · rw [if_pos q, q, zupE]
    · rw [if_neg q, zupJ q, zupA (by decide), zupA (by decide)]
  have hr := k.2.1.1
  refine ⟨by rw [e26, zupE], ⟨by rw [e26]; omega, fun i a b => ?_⟩, fun i a b => ?_⟩
  · rw [e26] at b
    rw [e27]
    by_cases q : i = h 26 0
    · rw [if_pos q]; right; exact c.2
    · rw [if_neg q]; exact k.2.1.2 i a (by omega)
  · rw [e26] at b
    rw [e27, e71]
    by_cases q : i = h 26 0
    · rw [if_pos q, if_pos q]
    · rw [if_neg q, if_neg q]; exact k.2.2 i a (by omega)

theorem mBu20 {h : zMem} {v : Int} (hB : mB h) (hv : 0 ≤ v ∧ v ≤ 8) : mB (zup h 38 20 v) := by
  obtain ⟨a1, a2, a3, a4, a5, a6, a7, a8, a9, a10, a11⟩ := hB
  exact ⟨by rw [zupJ (by decide)]; exact a1, by rw [zupJ (by decide), zup_ne (by decide)]; exact a2, by rw [zupE]; exact hv, by rw [zupJ (by decide)]; exact a4, by rw [zupJ (by decide)]; exact a5, by rw [zupJ (by decide)]; exact a6, by rw [zupJ (by decide)]; exact a7, by rw [zupJ (by decide)]; exact a8, by rw [zupJ (by decide)]; exact a9, by rw [zupJ (by decide)]; exact a10, by rw [zupJ (by decide)]; exact a11⟩
theorem mBu21 {h : zMem} {v : Int} (hB : mB h) (hv : 0 ≤ v ∧ v ≤ 24) : mB (zup h 38 21 v) := by
  obtain ⟨a1, a2, a3, a4, a5, a6, a7, a8, a9, a10, a11⟩ := hB
  exact ⟨by rw [zupJ (by decide)]; exact a1, by rw [zupJ (by decide), zup_ne (by decide)]; exact a2, by rw [zupJ (by decide)]; exact a3, by rw [zupE]; exact hv, by rw [zupJ (by decide)]; exact a5, by rw [zupJ (by decide)]; exact a6, by rw [zupJ (by decide)]; exact a7, by rw [zupJ (by decide)]; exact a8, by rw [zupJ (by decide)]; exact a9, by rw [zupJ (by decide)]; exact a10, by rw [zupJ (by decide)]; exact a11⟩
theorem mBu50 {h : zMem} {v : Int} (hB : mB h) (hv : 0 ≤ v ∧ v ≤ 20) : mB (zup h 38 50 v) := by
  obtain ⟨a1, a2, a3, a4, a5, a6, a7, a8, a9, a10, a11⟩ := hB
  exact ⟨by rw [zupJ (by decide)]; exact a1, by rw [zupJ (by decide), zup_ne (by decide)]; exact a2, by rw [zupJ (by decide)]; exact a3, by rw [zupJ (by decide)]; exact a4, by rw [zupE]; exact hv, by rw [zupJ (by decide)]; exact a6, by rw [zupJ (by decide)]; exact a7, by rw [zupJ (by decide)]; exact a8, by rw [zupJ (by decide)]; exact a9, by rw [zupJ (by decide)]; exact a10, by rw [zupJ (by decide)]; exact a11⟩
theorem mBu37 {h : zMem} {v : Int} (hB : mB h) (hv : 0 ≤ v ∧ v ≤ 40) : mB (zup h 38 37 v) := by
  obtain ⟨a1, a2, a3, a4, a5, a6, a7, a8, a9, a10, a11⟩ := hB
  exact ⟨by rw [zupJ (by decide)]; exact a1, by rw [zupJ (by decide), zup_ne (by decide)]; exact a2, by rw [zupJ (by decide)]; exact a3, by rw [zupJ (by decide)]; exact a4, by rw [zupJ (by decide)]; exact a5, by rw [zupE]; exact hv, by rw [zupJ (by decide)]; exact a7, by rw [zupJ (by decide)]; exact a8, by rw [zupJ (by decide)]; exact a9, by rw [zupJ (by decide)]; exact a10, by rw [zupJ (by decide)]; exact a11⟩
theorem mBu16 {h : zMem} {v : Int} (hB : mB h) (hv : 0 ≤ v ∧ v ≤ 999) : mB (zup h 38 16 v) := by
  obtain ⟨a1, a2, a3, a4, a5, a6, a7, a8, a9, a10, a11⟩ := hB
  exact ⟨by rw [zupJ (by decide)]; exact a1, by rw [zupJ (by decide), zup_ne (by decide)]; exact a2, by rw [zupJ (by decide)]; exact a3, by rw [zupJ (by decide)]; exact a4, by rw [zupJ (by decide)]; exact a5, by rw [zupJ (by decide)]; exact a6, by rw [zupE]; exact hv, by rw [zupJ (by decide)]; exact a8, by rw [zupJ (by decide)]; exact a9, by rw [zupJ (by decide)]; exact a10, by rw [zupJ (by decide)]; exact a11⟩
theorem mBu46 {h : zMem} {v : Int} (hB : mB h) (hv : 0 ≤ v ∧ v ≤ 12) : mB (zup h 38 46 v) := by
  obtain ⟨a1, a2, a3, a4, a5, a6, a7, a8, a9, a10, a11⟩ := hB
  exact ⟨by rw [zupJ (by decide)]; exact a1, by rw [zupJ (by decide), zup_ne (by decide)]; exact a2, by rw [zupJ (by decide)]; exact a3, by rw [zupJ (by decide)]; exact a4, by rw [zupJ (by decide)]; exact a5, by rw [zupJ (by decide)]; exact a6, by rw [zupJ (by decide)]; exact a7, by rw [zupE]; exact hv, by rw [zupJ (by decide)]; exact a9, by rw [zupJ (by decide)]; exact a10, by rw [zupJ (by decide)]; exact a11⟩
theorem mBu45 {h : zMem} {v : Int} (hB : mB h) (hv : 0 ≤ v ∧ v ≤ 100000) : mB (zup h 38 45 v) := by
  obtain ⟨a1, a2, a3, a4, a5, a6, a7, a8, a9, a10, a11⟩ := hB
  exact ⟨by rw [zupJ (by decide)]; exact a1, by rw [zupJ (by decide), zup_ne (by decide)]; exact a2, by rw [zupJ (by decide)]; exact a3, by rw [zupJ (by decide)]; exact a4, by rw [zupJ (by decide)]; exact a5, by rw [zupJ (by decide)]; exact a6, by rw [zupJ (by decide)]; exact a7, by rw [zupJ (by decide)]; exact a8, by rw [zupE]; exact hv, by rw [zupJ (by decide)]; exact a10, by rw [zupJ (by decide)]; exact a11⟩
theorem mBu1 {h : zMem} {v : Int} (hB : mB h) (hv : 0 ≤ v ∧ v ≤ 200) : mB (zup h 38 1 v) := by
  obtain ⟨a1, a2, a3, a4, a5, a6, a7, a8, a9, a10, a11⟩ := hB
  exact ⟨by rw [zupJ (by decide)]; exact a1, by rw [zupJ (by decide), zup_ne (by decide)]; exact a2, by rw [zupJ (by decide)]; exact a3, by rw [zupJ (by decide)]; exact a4, by rw [zupJ (by decide)]; exact a5, by rw [zupJ (by decide)]; exact a6, by rw [zupJ (by decide)]; exact a7, by rw [zupJ (by decide)]; exact a8, by rw [zupJ (by decide)]; exact a9, by rw [zupE]; exact hv, by rw [zupJ (by decide)]; exact a11⟩
theorem mBu12 {h : zMem} {v : Int} (hB : mB h) (hv : 0 ≤ v ∧ v ≤ 10) : mB (zup h 38 12 v) := by
  obtain ⟨a1, a2, a3, a4, a5, a6, a7, a8, a9, a10, a11⟩ := hB
  exact ⟨by rw [zupJ (by decide)]; exact a1, by rw [zupJ (by decide), zup_ne (by decide)]; exact a2, by rw [zupJ (by decide)]; exact a3, by rw [zupJ (by decide)]; exact a4, by rw [zupJ (by decide)]; exact a5, by rw [zupJ (by decide)]; exact a6, by rw [zupJ (by decide)]; exact a7, by rw [zupJ (by decide)]; exact a8, by rw [zupJ (by decide)]; exact a9, by rw [zupJ (by decide)]; exact a10, by rw [zupE]; exact hv⟩
set_option maxRecDepth 100000 in
set_option maxHeartbeats 4000000 in
theorem op_end {q : Int} {n : Nat} {sh : zSh} {h : zMem} {x : Int} (hI : INV q n sh h) (hq6 : q ≤ 520) (hx_ : zi32 x) : oOK q n sh h (fun Q => zM yX10_end cX10_end 2 (some .boolean) 70 0 0 [(2, 0), (0, x)] n sh h Q) (fun n1 sh1 h1 Q => zM yX11_end cX11_end 2 (some .boolean) 70 0 0 [(2, 38), (0, x)] n1 sh1 h1 Q) := by
  obtain ⟨⟨hS, hR, hn, hq⟩, hB, hX, hSh, hT, hV, hE, hRw, hN, hU, hG, hL, hTk, hW⟩ := id hI
  have hTb := hI.xTb
  by_cases c : 0 ≤ x ∧ x ≤ h 1 1
  · have kA := zF.of_eq (n := n) (r' := some (0, 1)) (h1' := zup h 1 1 x) (congrArg (fun z => some ((0, z) : zV)) (zb_t c)) rfl rfl (if_pos c) (c_xend (d := 70) hS hR hTb hx_)
    have c1 : zCh [] [(1, 1)] h (zup h 1 1 x) := zCh.up
    have hR1 : zRf (zup h 1 1 x) := zRf_c c1.lo (by decide) hR
    have hB1 : mB (zup h 1 1 x) := mB_c c1.lo (by decide) hB
    have kB := zF.of_eq (n := n) (r' := some (0, 1)) (h1' := zup (zup h 1 1 x) 38 1 x) (congrArg (fun z => some ((0, z) : zV)) (zb_t (⟨c.1, by rw [zupA (by decide), hX.2.1]; exact c.2⟩))) rfl rfl (if_pos (⟨c.1, by rw [zupA (by decide), hX.2.1]; exact c.2⟩)) (c_jend (d := 69) hS hR1 hB1 hx_)
    have c2 : zCh [] [(38, 1)] (zup h 1 1 x) (zup (zup h 1 1 x) 38 1 x) := zCh.up
    have hi := (c1.trans c2).hi (by decide) (by decide)
    have cc := (c1.trans c2).lo
    exact oOK.FF kA kB rfl c1.lo c2.lo (by decide) (by decide) ⟨⟨hS, zRf_c cc (by decide) hR, hn, by omega⟩, mBu1 hB1 (by have := hX.1.1; omega), ⟨⟨by (repeat first | rw [zupE] | rw [zupA (by decide)] | rw [zupJ (by decide)]); have := hX.1.1; omega, fun p a b => by rw [zup_ne (by decide), zup_ne (by decide)]; exact hX.1.2 p a (by rw [zupA (by decide), zupE] at b; omega)⟩, by (repeat first | rw [zupE] | rw [zupA (by decide)] | rw [zupJ (by decide)]), fun p a b => by rw [zup_ne (by decide), zup_ne (by decide), zup_ne (by decide), zup_ne (by decide)]; exact hX.2.2 p a (by rw [zupA (by decide), zupE] at b; omega)⟩, iS_c cc (by decide) (fun a h1 _ _ => ⟨hi a h1, hi (a + 1) (by omega)⟩) hSh, iT_c cc (by decide) (fun x h1 _ => hi x h1) hT, vHab_c cc (by decide) hV, iE_q (iE_c cc (by decide) hE), vRow_c cc (by decide) hRw, iN_c cc (by decide) hN, iU_c cc (by decide) hU, iG_c cc (by decide) hG, (by rw [cc.r (DR := [75]) (DS := []) (by decide) (x := 75) (by decide)]; exact hL), vTok_c cc (by decide) hTk, iW_c cc (by decide) hW⟩
  · have kA := zF.of_eq (n := n) (r' := some (0, 0)) (h1' := h) (congrArg (fun z => some ((0, z) : zV)) (zb_f c)) rfl rfl (if_neg c) (c_xend (d := 70) hS hR hTb hx_)
    have c1 : zCh [] [] h h := zCh.refl
    have hR1 : zRf h := zRf_c c1.lo (by decide) hR
    have hB1 : mB h := mB_c c1.lo (by decide) hB
    have kB := zF.of_eq (n := n) (r' := some (0, 0)) (h1' := h) (congrArg (fun z => some ((0, z) : zV)) (zb_f (fun z => c ⟨z.1, by rw [← hX.2.1]; exact z.2⟩))) rfl rfl (if_neg (fun z => c ⟨z.1, by rw [← hX.2.1]; exact z.2⟩)) (c_jend (d := 69) hS hR1 hB1 hx_)
    have c2 : zCh [] [] h h := zCh.refl
    have hi := (c1.trans c2).hi (by decide) (by decide)
    have cc := (c1.trans c2).lo
    exact oOK.FF kA kB rfl c1.lo c2.lo (by decide) (by decide) ⟨⟨hS, zRf_c cc (by decide) hR, hn, by omega⟩, mB_c cc (by decide) hB, mTx_c cc (by decide) hX, iS_c cc (by decide) (fun a h1 _ _ => ⟨hi a h1, hi (a + 1) (by omega)⟩) hSh, iT_c cc (by decide) (fun x h1 _ => hi x h1) hT, vHab_c cc (by decide) hV, iE_q (iE_c cc (by decide) hE), vRow_c cc (by decide) hRw, iN_c cc (by decide) hN, iU_c cc (by decide) hU, iG_c cc (by decide) hG, (by rw [cc.r (DR := [75]) (DS := []) (by decide) (x := 75) (by decide)]; exact hL), vTok_c cc (by decide) hTk, iW_c cc (by decide) hW⟩

set_option maxRecDepth 100000 in
set_option maxHeartbeats 4000000 in
theorem op_go {q : Int} {n : Nat} {sh : zSh} {h : zMem} {x : Int} (hI : INV q n sh h) (hq6 : q ≤ 520) (hx_ : zi32 x) : oOK q n sh h (fun Q => zM yX10_go cX10_go 2 (some .int) 70 0 0 [(2, 0), (0, x)] n sh h Q) (fun n1 sh1 h1 Q => zM yX11_go cX11_go 2 (some .int) 70 0 0 [(2, 38), (0, x)] n1 sh1 h1 Q) := by
  obtain ⟨⟨hS, hR, hn, hq⟩, hB, hX, hSh, hT, hV, hE, hRw, hN, hU, hG, hL, hTk, hW⟩ := id hI
  have hTb := hI.xTb
  by_cases c : 0 ≤ x ∧ x ≤ 100
  · have hmi : zmi 999 (h 0 12 + x) = h 0 12 + x ∨ zmi 999 (h 0 12 + x) = 999 := by unfold zmi; split <;> omega
    have hm2 : (if zup h 0 12 (zmi 999 (h 0 12 + x)) 38 16 + x < 999 then zup h 0 12 (zmi 999 (h 0 12 + x)) 38 16 + x else 999) = zmi 999 (h 0 12 + x) := by rw [zupA (by decide), hG.1]; rfl
    have kA := zF.of_eq (n := n) (r' := some (0, zmi 999 (h 0 12 + x))) (h1' := zup h 0 12 (zmi 999 (h 0 12 + x))) (congrArg (fun z => some ((0, z) : zV)) (if_pos c)) rfl rfl (if_pos c) (c_xgo (d := 69) hS hR hTb hx_ (by rw [← hG.1]; exact hB.2.2.2.2.2.2.1))
    have c1 : zCh [] [(0, 12)] h (zup h 0 12 (zmi 999 (h 0 12 + x))) := zCh.up
    have hR1 : zRf (zup h 0 12 (zmi 999 (h 0 12 + x))) := zRf_c c1.lo (by decide) hR
    have hB1 : mB (zup h 0 12 (zmi 999 (h 0 12 + x))) := mB_c c1.lo (by decide) hB
    have kB := zF.of_eq (n := n) (r' := some (0, zmi 999 (h 0 12 + x))) (h1' := zup (zup h 0 12 (zmi 999 (h 0 12 + x))) 38 16 (zmi 999 (h 0 12 + x))) (congrArg (fun z => some ((0, z) : zV)) ((if_pos c).trans hm2)) rfl rfl ((if_pos c).trans (congrArg (zup (zup h 0 12 (zmi 999 (h 0 12 + x))) 38 16) hm2)) (c_jgo (d := 69) hS hR1 hB1 hx_)
    have c2 : zCh [] [(38, 16)] (zup h 0 12 (zmi 999 (h 0 12 + x))) (zup (zup h 0 12 (zmi 999 (h 0 12 + x))) 38 16 (zmi 999 (h 0 12 + x))) := zCh.up
    have hi := (c1.trans c2).hi (by decide) (by decide)
    have cc := (c1.trans c2).lo
    exact oOK.FF kA kB rfl c1.lo c2.lo (by decide) (by decide) ⟨⟨hS, zRf_c cc (by decide) hR, hn, by omega⟩, mBu16 hB1 (by have := hB.2.2.2.2.2.2.1; have := hG.1; omega), mTx_c cc (by decide) hX, iS_c cc (by decide) (fun a h1 _ _ => ⟨hi a h1, hi (a + 1) (by omega)⟩) hSh, iT_c cc (by decide) (fun x h1 _ => hi x h1) hT, vHab_c cc (by decide) hV, iE_q (iE_c cc (by decide) hE), vRow_c cc (by decide) hRw, iN_c cc (by decide) hN, iU_c cc (by decide) hU, ⟨by (repeat first | rw [zupE] | rw [zupA (by decide)] | rw [zupJ (by decide)]), by (repeat first | rw [zupE] | rw [zupA (by decide)] | rw [zupJ (by decide)]); exact hG.2.1, by (repeat first | rw [zupE] | rw [zupA (by decide)] | rw [zupJ (by decide)]); exact hG.2.2.1, by (repeat first | rw [zupE] | rw [zupA (by decide)] | rw [zupJ (by decide)]); exact hG.2.2.2⟩, (by rw [cc.r (DR := [75]) (DS := []) (by decide) (x := 75) (by decide)]; exact hL), vTok_c cc (by decide) hTk, iW_c cc (by decide) hW⟩
  · have kA := zF.of_eq (n := n) (r' := some (0, -1)) (h1' := h) (congrArg (fun z => some ((0, z) : zV)) (if_neg c)) rfl rfl (if_neg c) (c_xgo (d := 69) hS hR hTb hx_ (by rw [← hG.1]; exact hB.2.2.2.2.2.2.1))
    have c1 : zCh [] [] h h := zCh.refl
    have hR1 : zRf h := zRf_c c1.lo (by decide) hR
    have hB1 : mB h := mB_c c1.lo (by decide) hB
    have kB := zF.of_eq (n := n) (r' := some (0, -1)) (h1' := h) (congrArg (fun z => some ((0, z) : zV)) (if_neg (c))) rfl rfl (if_neg (c)) (c_jgo (d := 69) hS hR1 hB1 hx_)
    have c2 : zCh [] [] h h := zCh.refl
    have hi := (c1.trans c2).hi (by decide) (by decide)
    have cc := (c1.trans c2).lo
    exact oOK.FF kA kB rfl c1.lo c2.lo (by decide) (by decide) ⟨⟨hS, zRf_c cc (by decide) hR, hn, by omega⟩, mB_c cc (by decide) hB, mTx_c cc (by decide) hX, iS_c cc (by decide) (fun a h1 _ _ => ⟨hi a h1, hi (a + 1) (by omega)⟩) hSh, iT_c cc (by decide) (fun x h1 _ => hi x h1) hT, vHab_c cc (by decide) hV, iE_q (iE_c cc (by decide) hE), vRow_c cc (by decide) hRw, iN_c cc (by decide) hN, iU_c cc (by decide) hU, iG_c cc (by decide) hG, (by rw [cc.r (DR := [75]) (DS := []) (by decide) (x := 75) (by decide)]; exact hL), vTok_c cc (by decide) hTk, iW_c cc (by decide) hW⟩

set_option maxRecDepth 100000 in
set_option maxHeartbeats 4000000 in
theorem op_hand {q : Int} {n : Nat} {sh : zSh} {h : zMem} (hI : INV q n sh h) (hq6 : q ≤ 520)  : oOK q n sh h (fun Q => zM yX10_hand cX10_hand 1 (some .int) 70 0 0 [(2, 0)] n sh h Q) (fun n1 sh1 h1 Q => zM yX11_hand cX11_hand 1 (some .int) 70 0 0 [(2, 38)] n1 sh1 h1 Q) := by
  obtain ⟨⟨hS, hR, hn, hq⟩, hB, hX, hSh, hT, hV, hE, hRw, hN, hU, hG, hL, hTk, hW⟩ := id hI
  have hTb := hI.xTb
  by_cases c : h 10 0 < 8
  · have kA := zF.of_eq (n := n) (r' := some (0, h 10 0)) (h1' := zup h 10 0 (h 10 0 + 1)) (congrArg (fun z => some ((0, z) : zV)) (if_pos c)) rfl rfl (if_pos c) (c_xhand (d := 70) hS hR hTb hV.2.2.1.1)
    have c1 : zCh [] [(10, 0)] h (zup h 10 0 (h 10 0 + 1)) := zCh.up
    have hR1 : zRf (zup h 10 0 (h 10 0 + 1)) := zRf_c c1.lo (by decide) hR
    have hB1 : mB (zup h 10 0 (h 10 0 + 1)) := mB_c c1.lo (by decide) hB
    have kB := zF.of_eq (n := n) (r' := some (0, h 10 0)) (h1' := zup (zup h 10 0 (h 10 0 + 1)) 38 20 (h 10 0 + 1)) (congrArg (fun z => some ((0, z) : zV)) ((if_pos (by rw [zupA (by decide), hV.1]; exact c)).trans (by rw [zupA (by decide), hV.1]))) rfl rfl ((if_pos (by rw [zupA (by decide), hV.1]; exact c)).trans (by rw [zupA (by decide), hV.1])) (c_jhand (d := 70) hS hR1 hB1)
    have c2 : zCh [] [(38, 20)] (zup h 10 0 (h 10 0 + 1)) (zup (zup h 10 0 (h 10 0 + 1)) 38 20 (h 10 0 + 1)) := zCh.up
    have hi := (c1.trans c2).hi (by decide) (by decide)
    have cc := (c1.trans c2).lo
    exact oOK.FF kA kB rfl c1.lo c2.lo (by decide) (by decide) ⟨⟨hS, zRf_c cc (by decide) hR, hn, by omega⟩, mBu20 hB1 (by have := hV.2.2.1.1; omega), mTx_c cc (by decide) hX, iS_c cc (by decide) (fun a h1 _ _ => ⟨hi a h1, hi (a + 1) (by omega)⟩) hSh, iT_c cc (by decide) (fun x h1 _ => hi x h1) hT, ⟨by (repeat first | rw [zupE] | rw [zupA (by decide)] | rw [zupJ (by decide)]), by (repeat first | rw [zupE] | rw [zupA (by decide)] | rw [zupJ (by decide)]); exact hV.2.1, ⟨⟨by (repeat first | rw [zupE] | rw [zupA (by decide)] | rw [zupJ (by decide)]); have := hV.2.2.1.1; omega, by (repeat first | rw [zupE] | rw [zupA (by decide)] | rw [zupJ (by decide)]); omega⟩, by (repeat first | rw [zupE] | rw [zupA (by decide)] | rw [zupJ (by decide)]); exact hV.2.2.1.2.1, by (repeat first | rw [zupE] | rw [zupA (by decide)] | rw [zupJ (by decide)]); (repeat first | rw [zup_ne (by decide)] | rw [znew_ne (by decide)]); exact hV.2.2.1.2.2⟩, by (repeat first | rw [zupE] | rw [zupA (by decide)] | rw [zupJ (by decide)]); (repeat first | rw [zup_ne (by decide)] | rw [znew_ne (by decide)]); exact hV.2.2.2⟩, iE_q (iE_c cc (by decide) hE), vRow_c cc (by decide) hRw, iN_c cc (by decide) hN, iU_c cc (by decide) hU, iG_c cc (by decide) hG, (by rw [cc.r (DR := [75]) (DS := []) (by decide) (x := 75) (by decide)]; exact hL), vTok_c cc (by decide) hTk, iW_c cc (by decide) hW⟩
  · have kA := zF.of_eq (n := n) (r' := some (0, -1)) (h1' := h) (congrArg (fun z => some ((0, z) : zV)) (if_neg c)) rfl rfl (if_neg c) (c_xhand (d := 70) hS hR hTb hV.2.2.1.1)
    have c1 : zCh [] [] h h := zCh.refl
    have hR1 : zRf h := zRf_c c1.lo (by decide) hR
    have hB1 : mB h := mB_c c1.lo (by decide) hB
    have kB := zF.of_eq (n := n) (r' := some (0, -1)) (h1' := h) (congrArg (fun z => some ((0, z) : zV)) (if_neg (by rw [hV.1]; exact c))) rfl rfl (if_neg (by rw [hV.1]; exact c)) (c_jhand (d := 70) hS hR1 hB1)
    have c2 : zCh [] [] h h := zCh.refl
    have hi := (c1.trans c2).hi (by decide) (by decide)
    have cc := (c1.trans c2).lo
    exact oOK.FF kA kB rfl c1.lo c2.lo (by decide) (by decide) ⟨⟨hS, zRf_c cc (by decide) hR, hn, by omega⟩, mB_c cc (by decide) hB, mTx_c cc (by decide) hX, iS_c cc (by decide) (fun a h1 _ _ => ⟨hi a h1, hi (a + 1) (by omega)⟩) hSh, iT_c cc (by decide) (fun x h1 _ => hi x h1) hT, vHab_c cc (by decide) hV, iE_q (iE_c cc (by decide) hE), vRow_c cc (by decide) hRw, iN_c cc (by decide) hN, iU_c cc (by decide) hU, iG_c cc (by decide) hG, (by rw [cc.r (DR := [75]) (DS := []) (by decide) (x := 75) (by decide)]; exact hL), vTok_c cc (by decide) hTk, iW_c cc (by decide) hW⟩

set_option maxRecDepth 100000 in
set_option maxHeartbeats 4000000 in
theorem op_hard {q : Int} {n : Nat} {sh : zSh} {h : zMem} {x : Int} (hI : INV q n sh h) (hq6 : q ≤ 520) (hx_ : zi32 x) : oOK q n sh h (fun Q => zM yX10_hard cX10_hard 2 (some .boolean) 70 0 0 [(2, 0), (0, x)] n sh h Q) (fun n1 sh1 h1 Q => zM yX11_hard cX11_hard 2 (some .boolean) 70 0 0 [(2, 38), (0, x)] n1 sh1 h1 Q) := by
  obtain ⟨⟨hS, hR, hn, hq⟩, hB, hX, hSh, hT, hV, hE, hRw, hN, hU, hG, hL, hTk, hW⟩ := id hI
  have hTb := hI.xTb
  by_cases c : 100 ≤ x ∧ x ≤ 5000
  · have kA := zF.of_eq (n := n) (r' := some (0, 1)) (h1' := zup h 0 13 x) (congrArg (fun z => some ((0, z) : zV)) (zb_t c)) rfl rfl (if_pos c) (c_xhard (d := 70) hS hR hTb hx_)
    have c1 : zCh [] [(0, 13)] h (zup h 0 13 x) := zCh.up
    have hR1 : zRf (zup h 0 13 x) := zRf_c c1.lo (by decide) hR
    have hB1 : mB (zup h 0 13 x) := mB_c c1.lo (by decide) hB
    have kB := zF.of_eq (n := n) (r' := some (0, 1)) (h1' := zup (zup h 0 13 x) 38 33 x) (congrArg (fun z => some ((0, z) : zV)) (zb_t (c))) rfl rfl (if_pos (c)) (c_jhard (d := 69) hS hR1 hB1 hx_)
    have c2 : zCh [] [(38, 33)] (zup h 0 13 x) (zup (zup h 0 13 x) 38 33 x) := zCh.up
    have hi := (c1.trans c2).hi (by decide) (by decide)
    have cc := (c1.trans c2).lo
    exact oOK.FF kA kB rfl c1.lo c2.lo (by decide) (by decide) ⟨⟨hS, zRf_c cc (by decide) hR, hn, by omega⟩, mB_c cc (by decide) hB, mTx_c cc (by decide) hX, iS_c cc (by decide) (fun a h1 _ _ => ⟨hi a h1, hi (a + 1) (by omega)⟩) hSh, iT_c cc (by decide) (fun x h1 _ => hi x h1) hT, vHab_c cc (by decide) hV, iE_q (iE_c cc (by decide) hE), vRow_c cc (by decide) hRw, iN_c cc (by decide) hN, iU_c cc (by decide) hU, ⟨by (repeat first | rw [zupE] | rw [zupA (by decide)] | rw [zupJ (by decide)]); exact hG.1, by (repeat first | rw [zupE] | rw [zupA (by decide)] | rw [zupJ (by decide)]), by (repeat first | rw [zupE] | rw [zupA (by decide)] | rw [zupJ (by decide)]); exact c.1, by (repeat first | rw [zupE] | rw [zupA (by decide)] | rw [zupJ (by decide)]); exact c.2⟩, (by rw [cc.r (DR := [75]) (DS := []) (by decide) (x := 75) (by decide)]; exact hL), vTok_c cc (by decide) hTk, iW_c cc (by decide) hW⟩
  · have kA := zF.of_eq (n := n) (r' := some (0, 0)) (h1' := h) (congrArg (fun z => some ((0, z) : zV)) (zb_f c)) rfl rfl (if_neg c) (c_xhard (d := 70) hS hR hTb hx_)
    have c1 : zCh [] [] h h := zCh.refl
    have hR1 : zRf h := zRf_c c1.lo (by decide) hR
    have hB1 : mB h := mB_c c1.lo (by decide) hB
    have kB := zF.of_eq (n := n) (r' := some (0, 0)) (h1' := h) (congrArg (fun z => some ((0, z) : zV)) (zb_f (c))) rfl rfl (if_neg (c)) (c_jhard (d := 69) hS hR1 hB1 hx_)
    have c2 : zCh [] [] h h := zCh.refl
    have hi := (c1.trans c2).hi (by decide) (by decide)
    have cc := (c1.trans c2).lo
    exact oOK.FF kA kB rfl c1.lo c2.lo (by decide) (by decide) ⟨⟨hS, zRf_c cc (by decide) hR, hn, by omega⟩, mB_c cc (by decide) hB, mTx_c cc (by decide) hX, iS_c cc (by decide) (fun a h1 _ _ => ⟨hi a h1, hi (a + 1) (by omega)⟩) hSh, iT_c cc (by decide) (fun x h1 _ => hi x h1) hT, vHab_c cc (by decide) hV, iE_q (iE_c cc (by decide) hE), vRow_c cc (by decide) hRw, iN_c cc (by decide) hN, iU_c cc (by decide) hU, iG_c cc (by decide) hG, (by rw [cc.r (DR := [75]) (DS := []) (by decide) (x := 75) (by decide)]; exact hL), vTok_c cc (by decide) hTk, iW_c cc (by decide) hW⟩

set_option maxRecDepth 100000 in
set_option maxHeartbeats 4000000 in
theorem op_row {q : Int} {n : Nat} {sh : zSh} {h : zMem} {x : Int} (hI : INV q n sh h) (hq6 : q ≤ 520) (hx_ : zi32 x) : oOK q n sh h (fun Q => zM yX10_row cX10_row 2 (some .int) 70 0 0 [(2, 0), (0, x)] n sh h Q) (fun n1 sh1 h1 Q => zM yX11_row cX11_row 2 (some .int) 70 0 0 [(2, 38), (0, x)] n1 sh1 h1 Q) := by
  obtain ⟨⟨hS, hR, hn, hq⟩, hB, hX, hSh, hT, hV, hE, hRw, hN, hU, hG, hL, hTk, hW⟩ := id hI
  have hTb := hI.xTb
  by_cases c : h 26 0 < 20 ∧ -999999 ≤ x ∧ x ≤ 999999
  · have e50 : rTel h x 38 50 = h 26 0 := (zupA (by decide)).trans ((zupA (by decide)).trans hRw.1)
    have kA := zF.of_eq (n := n) (r' := some (0, h 26 0 + 1)) (h1' := rTel h x) (congrArg (fun z => some ((0, z) : zV)) (if_pos c)) rfl rfl (if_pos c) (c_xrow (d := 68) hS hR hTb hx_ hRw.2.1)
    have c1 : zCh ([27] ++ []) ([] ++ [(26, 0)]) h (rTel h x) := (zCh.upA.trans zCh.up)
    have hR1 : zRf (rTel h x) := zRf_c c1.lo (by decide) hR
    have hB1 : mB (rTel h x) := mB_c c1.lo (by decide) hB
    have kB := zF.of_eq (n := n) (r' := some (0, h 26 0 + 1)) (h1' := zup (zup (rTel h x) 71 (h 26 0) x) 38 50 (h 26 0 + 1)) (congrArg (fun z => some ((0, z) : zV)) ((if_pos (by rw [e50]; exact ⟨c.2, c.1⟩)).trans (by rw [e50]))) rfl rfl ((if_pos (by rw [e50]; exact ⟨c.2, c.1⟩)).trans (by rw [e50])) (c_jrow (d := 69) hS hR1 hB1 hx_)
    have c2 : zCh ([71] ++ []) ([] ++ [(38, 50)]) (rTel h x) (zup (zup (rTel h x) 71 (h 26 0) x) 38 50 (h 26 0 + 1)) := (zCh.upA.trans zCh.up)
    have hi := (c1.trans c2).hi (by decide) (by decide)
    have cc := (c1.trans c2).lo
    exact oOK.FF kA kB rfl c1.lo c2.lo (by decide) (by decide) ⟨⟨hS, zRf_c cc (by decide) hR, hn, by omega⟩, mBu50 (mB_c (zCh.upA (h := rTel h x) (a := 71) (j := h 26 0) (z := x)).lo (by decide) hB1) (by have := hRw.2.1.1; omega), mTx_c cc (by decide) hX, iS_c cc (by decide) (fun a h1 _ _ => ⟨hi a h1, hi (a + 1) (by omega)⟩) hSh, iT_c cc (by decide) (fun x h1 _ => hi x h1) hT, vHab_c cc (by decide) hV, iE_q (iE_c cc (by decide) hE), rw_row hRw c, iN_c cc (by decide) hN, iU_c cc (by decide) hU, iG_c cc (by decide) hG, (by rw [cc.r (DR := [75]) (DS := []) (by decide) (x := 75) (by decide)]; exact hL), vTok_c cc (by decide) hTk, iW_c cc (by decide) hW⟩
  · have kA := zF.of_eq (n := n) (r' := some (0, -1)) (h1' := h) (congrArg (fun z => some ((0, z) : zV)) (if_neg c)) rfl rfl (if_neg c) (c_xrow (d := 68) hS hR hTb hx_ hRw.2.1)
    have c1 : zCh [] [] h h := zCh.refl
    have hR1 : zRf h := zRf_c c1.lo (by decide) hR
    have hB1 : mB h := mB_c c1.lo (by decide) hB
    have kB := zF.of_eq (n := n) (r' := some (0, -1)) (h1' := h) (congrArg (fun z => some ((0, z) : zV)) (if_neg (fun z => c ⟨by rw [← hRw.1]; exact z.2, z.1⟩))) rfl rfl (if_neg (fun z => c ⟨by rw [← hRw.1]; exact z.2, z.1⟩)) (c_jrow (d := 69) hS hR1 hB1 hx_)
    have c2 : zCh [] [] h h := zCh.refl
    have hi := (c1.trans c2).hi (by decide) (by decide)
    have cc := (c1.trans c2).lo
    exact oOK.FF kA kB rfl c1.lo c2.lo (by decide) (by decide) ⟨⟨hS, zRf_c cc (by decide) hR, hn, by omega⟩, mB_c cc (by decide) hB, mTx_c cc (by decide) hX, iS_c cc (by decide) (fun a h1 _ _ => ⟨hi a h1, hi (a + 1) (by omega)⟩) hSh, iT_c cc (by decide) (fun x h1 _ => hi x h1) hT, vHab_c cc (by decide) hV, iE_q (iE_c cc (by decide) hE), vRow_c cc (by decide) hRw, iN_c cc (by decide) hN, iU_c cc (by decide) hU, iG_c cc (by decide) hG, (by rw [cc.r (DR := [75]) (DS := []) (by decide) (x := 75) (by decide)]; exact hL), vTok_c cc (by decide) hTk, iW_c cc (by decide) hW⟩

set_option maxRecDepth 100000 in
set_option maxHeartbeats 4000000 in
theorem op_clear {q : Int} {n : Nat} {sh : zSh} {h : zMem} (hI : INV q n sh h) (hq6 : q ≤ 520)  : oOK q n sh h (fun Q => zM yX10_clear cX10_clear 2 (some .int) 70 0 0 [(2, 0)] n sh h Q) (fun n1 sh1 h1 Q => zM yX11_clear cX11_clear 2 (some .int) 70 0 0 [(2, 38)] n1 sh1 h1 Q) := by
  obtain ⟨⟨hS, hR, hn, hq⟩, hB, hX, hSh, hT, hV, hE, hRw, hN, hU, hG, hL, hTk, hW⟩ := id hI
  have hTb := hI.xTb
  have a := c_xclr (d := 70) (n := n) hS hR hTb
  have c1 : zCh [] [(26, 0)] h (zup h 26 0 0) := zCh.up
  have hR1 : zRf (zup h 26 0 0) := zRf_c c1.lo (by decide) hR
  have hB1 : mB (zup h 26 0 0) := mB_c c1.lo (by decide) hB
  have b := c_jclear (d := 70) (n := n) hS hR1 hB1
  have c2 : zCh [] [(38, 50)] (zup h 26 0 0) (zup (zup h 26 0 0) 38 50 0) := zCh.up
  have hi := (c1.trans c2).hi (by decide) (by decide)
  have cc := (c1.trans c2).lo
  exact oOK.FF a b (by rw [zupA (by decide), hRw.1]) c1.lo c2.lo (by decide) (by decide) ⟨⟨hS, zRf_c cc (by decide) hR, hn, by omega⟩, mBu50 hB1 (by decide), mTx_c cc (by decide) hX, iS_c cc (by decide) (fun a h1 _ _ => ⟨hi a h1, hi (a + 1) (by omega)⟩) hSh, iT_c cc (by decide) (fun x h1 _ => hi x h1) hT, vHab_c cc (by decide) hV, iE_q (iE_c cc (by decide) hE), ⟨by (repeat first | rw [zupE] | rw [zupA (by decide)] | rw [zupJ (by decide)]), ⟨by (repeat first | rw [zupE] | rw [zupA (by decide)] | rw [zupJ (by decide)]); decide, fun i a b => by rw [zupA (by decide), zupE] at b; omega⟩, fun i a b => by rw [zupA (by decide), zupE] at b; omega⟩, iN_c cc (by decide) hN, iU_c cc (by decide) hU, iG_c cc (by decide) hG, (by rw [cc.r (DR := [75]) (DS := []) (by decide) (x := 75) (by decide)]; exact hL), vTok_c cc (by decide) hTk, iW_c cc (by decide) hW⟩

theorem stk_e {q : Int} {h : zMem} {x a b : Int} (k : iE q h) (c : ((0 ≤ a ∧ a ≤ 50) ∧ (1 ≤ b ∧ b ≤ 50) ∧ eTok h x)) (hq : 0 ≤ q) : iE (q + 1) (zup (zup (zup (zup (eTel h x a b) 68 (h 18 6) (9 * (x / 10) + x % 10)) 69 (h 18 6) (h 18 1 + a)) 70 (h 18 6) (h 18 1 + a + b - 1)) 38 46 (h 18 6 + 1)) := by
  obtain ⟨⟨k1, k2, k3⟩, ⟨o1, o2, o3, o4, o5⟩, k4, k5, k6⟩ := k
  have f0 : (zup (zup (zup (zup (eTel h x a b) 68 (h 18 6) (9 * (x / 10) + x % 10)) 69 (h 18 6) (h 18 1 + a)) 70 (h 18 6) (h 18 1 + a + b - 1)) 38 46 (h 18 6 + 1)) 18 0 = h 18 0 := by unfold eTel; (repeat first | rw [zupE] | rw [zupA (by decide)] | rw [zupJ (by decide)])
  have f1 : (zup (zup (zup (zup (eTel h x a b) 68 (h 18 6) (9 * (x / 10) + x % 10)) 69 (h 18 6) (h 18 1 + a)) 70 (h 18 6) (h 18 1 + a + b - 1)) 38 46 (h 18 6 + 1)) 18 1 = h 18 1 := by unfold eTel; (repeat first | rw [zupE] | rw [zupA (by decide)] | rw [zupJ (by decide)])
  have f6 : (zup (zup (zup (zup (eTel h x a b) 68 (h 18 6) (9 * (x / 10) + x % 10)) 69 (h 18 6) (h 18 1 + a)) 70 (h 18 6) (h 18 1 + a + b - 1)) 38 46 (h 18 6 + 1)) 18 6 = h 18 6 + 1 := by unfold eTel; (repeat first | rw [zupE] | rw [zupA (by decide)] | rw [zupJ (by decide)])
  have g19 : (zup (zup (zup (zup (eTel h x a b) 68 (h 18 6) (9 * (x / 10) + x % 10)) 69 (h 18 6) (h 18 1 + a)) 70 (h 18 6) (h 18 1 + a + b - 1)) 38 46 (h 18 6 + 1)) 19 = h 19 := by unfold eTel; (repeat first | rw [zup_ne (by decide)] | rw [znew_ne (by decide)])
  have g67 : (zup (zup (zup (zup (eTel h x a b) 68 (h 18 6) (9 * (x / 10) + x % 10)) 69 (h 18 6) (h 18 1 + a)) 70 (h 18 6) (h 18 1 + a + b - 1)) 38 46 (h 18 6 + 1)) 67 = h 67 := by unfold eTel; (repeat first | rw [zup_ne (by decide)] | rw [znew_ne (by decide)])
  have gr : ∀ (r : Int) (v : Int), ((r = 20 ∧ v = x / 10 * 9 + x % 10) ∨ (r = 21 ∧ v = h 18 1 + a) ∨ (r = 22 ∧ v = h 18 1 + a + b) ∨ (r = 68 ∧ v = 9 * (x / 10) + x % 10) ∨ (r = 69 ∧ v = h 18 1 + a) ∨ (r = 70 ∧ v = h 18 1 + a + b - 1)) → ∀ i, (zup (zup (zup (zup (eTel h x a b) 68 (h 18 6) (9 * (x / 10) + x % 10)) 69 (h 18 6) (h 18 1 + a)) 70 (h 18 6) (h 18 1 + a + b - 1)) 38 46 (h 18 6 + 1)) r i = if i = h 18 6 then v else h r i := by
    intro r v hr i
    unfold eTel
    by_cases qi : i = h 18 6
    · subst qi
      rw [if_pos rfl]
      rcases hr with ⟨rfl, rfl⟩ | ⟨rfl, rfl⟩ | ⟨rfl, rfl⟩ | ⟨rfl, rfl⟩ | ⟨rfl, rfl⟩ | ⟨rfl, rfl⟩ <;> (repeat first | rw [zupE] | rw [zupA (by decide)] | rw [zupJ (by decide)])
    · rw [if_neg qi]
      rcases hr with ⟨rfl, rfl⟩ | ⟨rfl, rfl⟩ | ⟨rfl, rfl⟩ | ⟨rfl, rfl⟩ | ⟨rfl, rfl⟩ | ⟨rfl, rfl⟩ <;> (repeat first | rw [zupA (by decide)] | rw [zupJ qi])
  have g20 := gr 20 _ (Or.inl ⟨rfl, rfl⟩)
  have g21 := gr 21 _ (Or.inr (Or.inl ⟨rfl, rfl⟩))
  have g22 := gr 22 _ (Or.inr (Or.inr (Or.inl ⟨rfl, rfl⟩)))
  have g68 := gr 68 _ (Or.inr (Or.inr (Or.inr (Or.inl ⟨rfl, rfl⟩))))
  have g69 := gr 69 _ (Or.inr (Or.inr (Or.inr (Or.inr (Or.inl ⟨rfl, rfl⟩)))))
  have g70 := gr 70 _ (Or.inr (Or.inr (Or.inr (Or.inr (Or.inr ⟨rfl, rfl⟩)))))
  have f44 : (zup (zup (zup (zup (eTel h x a b) 68 (h 18 6) (9 * (x / 10) + x % 10)) 69 (h 18 6) (h 18 1 + a)) 70 (h 18 6) (h 18 1 + a + b - 1)) 38 46 (h 18 6 + 1)) 38 44 = h 38 44 := by unfold eTel; (repeat first | rw [zupE] | rw [zupA (by decide)] | rw [zupJ (by decide)])
  have f45 : (zup (zup (zup (zup (eTel h x a b) 68 (h 18 6) (9 * (x / 10) + x % 10)) 69 (h 18 6) (h 18 1 + a)) 70 (h 18 6) (h 18 1 + a + b - 1)) 38 46 (h 18 6 + 1)) 38 45 = h 38 45 := by unfold eTel; (repeat first | rw [zupE] | rw [zupA (by decide)] | rw [zupJ (by decide)])
  refine ⟨⟨by rw [f44, f0]; exact k1, by rw [f45, f1]; exact k2, by rw [f6, zupE]⟩, ⟨by rw [f6]; omega, by rw [f1]; omega, by rw [f0]; omega, by rw [g19]; exact o4, fun i z1 z2 => ?_⟩, by rw [g67]; exact k4, by rw [g67, g19]; exact k5, fun i z1 z2 => ?_⟩
  · rw [f6] at z2
    rw [g20]
    by_cases qi : i = h 18 6
    · rw [if_pos qi]; omega
    · rw [if_neg qi]; exact o5 i z1 (by omega)
  · rw [f6] at z2
    rw [g68, g69, g70, g20, g21, g22]
    by_cases qi : i = h 18 6
    · rw [if_pos qi, if_pos qi, if_pos qi, if_pos qi, if_pos qi, if_pos qi]; omega
    · rw [if_neg qi, if_neg qi, if_neg qi, if_neg qi, if_neg qi, if_neg qi]; exact k6 i z1 (by omega)

set_option maxRecDepth 100000 in
set_option maxHeartbeats 4000000 in
theorem op_stick {q : Int} {n : Nat} {sh : zSh} {h : zMem} {x a b : Int} (hI : INV q n sh h) (hq6 : q ≤ 520) (hx_ : zi32 x) (ha_ : zi32 a) (hb_ : zi32 b) : oOK q n sh h (fun Q => zM yX10_stick cX10_stick 4 (some .boolean) 70 0 0 [(2, 0), (0, x), (0, a), (0, b)] n sh h Q) (fun n1 sh1 h1 Q => zM yX11_stick cX11_stick 4 (some .boolean) 70 0 0 [(2, 38), (0, x), (0, a), (0, b)] n1 sh1 h1 Q) := by
  obtain ⟨⟨hS, hR, hn, hq⟩, hB, hX, hSh, hT, hV, hE, hRw, hN, hU, hG, hL, hTk, hW⟩ := id hI
  have hTb := hI.xTb
  by_cases c : ((0 ≤ a ∧ a ≤ 50) ∧ (1 ≤ b ∧ b ≤ 50) ∧ eTok h x)
  · have f46 : eTel h x a b 38 46 = h 18 6 := by unfold eTel; (repeat first | rw [zupE] | rw [zupA (by decide)] | rw [zupJ (by decide)]); exact hE.1.2.2
    have f45 : eTel h x a b 38 45 = h 18 1 := by unfold eTel; (repeat first | rw [zupE] | rw [zupA (by decide)] | rw [zupJ (by decide)]); exact hE.1.2.1
    have kA := zF.of_eq (n := n) (r' := some (0, 1)) (h1' := eTel h x a b) (congrArg (fun z => some ((0, z) : zV)) (zb_t c)) rfl rfl (if_pos c) (c_xstk (d := 69) hS hR hTb hx_ ha_ hb_ (hE.2.1.ok (by omega) (by omega)))
    have c1 : zCh ((([20] ++ [21]) ++ [22]) ++ []) ((([] ++ []) ++ []) ++ [(18, 6)]) h (eTel h x a b) := (((zCh.upA.trans zCh.upA).trans zCh.upA).trans zCh.up)
    have hR1 : zRf (eTel h x a b) := zRf_c c1.lo (by decide) hR
    have hB1 : mB (eTel h x a b) := mB_c c1.lo (by decide) hB
    have kB := zF.of_eq (n := n) (r' := some (0, 1)) (h1' := zup (zup (zup (zup (eTel h x a b) 68 (h 18 6) (9 * (x / 10) + x % 10)) 69 (h 18 6) (h 18 1 + a)) 70 (h 18 6) (h 18 1 + a + b - 1)) 38 46 (h 18 6 + 1)) (congrArg (fun z => some ((0, z) : zV)) (zb_t (by show _ ∧ _ ∧ _ ∧ eTel h x a b 38 46 < 12; omega))) rfl rfl ((if_pos (by show _ ∧ _ ∧ _ ∧ eTel h x a b 38 46 < 12; omega)).trans (by rw [f46, f45])) (c_jstk (d := 69) hS hR1 hB1 hx_ ha_ hb_)
    have c2 : zCh ((([68] ++ [69]) ++ [70]) ++ []) ((([] ++ []) ++ []) ++ [(38, 46)]) (eTel h x a b) (zup (zup (zup (zup (eTel h x a b) 68 (h 18 6) (9 * (x / 10) + x % 10)) 69 (h 18 6) (h 18 1 + a)) 70 (h 18 6) (h 18 1 + a + b - 1)) 38 46 (h 18 6 + 1)) := (((zCh.upA.trans zCh.upA).trans zCh.upA).trans zCh.up)
    have hi := (c1.trans c2).hi (by decide) (by decide)
    have cc := (c1.trans c2).lo
    exact oOK.FF kA kB rfl c1.lo c2.lo (by decide) (by decide) ⟨⟨hS, zRf_c cc (by decide) hR, hn, by omega⟩, mBu46 (mB_c ((zCh.upA (h := eTel h x a b) (a := 68) (j := h 18 6) (z := 9 * (x / 10) + x % 10)).trans (zCh.upA.trans zCh.upA)).lo (by decide) hB1) (by have := hE.2.1.1; omega), mTx_c cc (by decide) hX, iS_c cc (by decide) (fun a h1 _ _ => ⟨hi a h1, hi (a + 1) (by omega)⟩) hSh, iT_c cc (by decide) (fun x h1 _ => hi x h1) hT, vHab_c cc (by decide) hV, stk_e hE c hq, vRow_c cc (by decide) hRw, iN_c cc (by decide) hN, iU_c cc (by decide) hU, iG_c cc (by decide) hG, (by rw [cc.r (DR := [75]) (DS := []) (by decide) (x := 75) (by decide)]; exact hL), vTok_c cc (by decide) hTk, iW_c cc (by decide) hW⟩
  · have kA := zF.of_eq (n := n) (r' := some (0, 0)) (h1' := h) (congrArg (fun z => some ((0, z) : zV)) (zb_f c)) rfl rfl (if_neg c) (c_xstk (d := 69) hS hR hTb hx_ ha_ hb_ (hE.2.1.ok (by omega) (by omega)))
    have c1 : zCh [] [] h h := zCh.refl
    have hR1 : zRf h := zRf_c c1.lo (by decide) hR
    have hB1 : mB h := mB_c c1.lo (by decide) hB
    have kB := zF.of_eq (n := n) (r' := some (0, 0)) (h1' := h) (congrArg (fun z => some ((0, z) : zV)) (zb_f (fun z => c (by have := hE.1.2.2; omega)))) rfl rfl (if_neg (fun z => c (by have := hE.1.2.2; omega))) (c_jstk (d := 69) hS hR1 hB1 hx_ ha_ hb_)
    have c2 : zCh [] [] h h := zCh.refl
    have hi := (c1.trans c2).hi (by decide) (by decide)
    have cc := (c1.trans c2).lo
    exact oOK.FF kA kB rfl c1.lo c2.lo (by decide) (by decide) ⟨⟨hS, zRf_c cc (by decide) hR, hn, by omega⟩, mB_c cc (by decide) hB, mTx_c cc (by decide) hX, iS_c cc (by decide) (fun a h1 _ _ => ⟨hi a h1, hi (a + 1) (by omega)⟩) hSh, iT_c cc (by decide) (fun x h1 _ => hi x h1) hT, vHab_c cc (by decide) hV, iE_q (iE_c cc (by decide) hE), vRow_c cc (by decide) hRw, iN_c cc (by decide) hN, iU_c cc (by decide) hU, iG_c cc (by decide) hG, (by rw [cc.r (DR := [75]) (DS := []) (by decide) (x := 75) (by decide)]; exact hL), vTok_c cc (by decide) hTk, iW_c cc (by decide) hW⟩

