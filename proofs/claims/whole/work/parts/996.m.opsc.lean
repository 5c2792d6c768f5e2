theorem mseg_cg {g g' u u' : Int → Int} {b N : Int} {w : zFr → zFr} (hg : ∀ a, b ≤ a → a < N → g' a = g a ∧ u' a = u a) (hb : b ≤ N) (k : mseg g u b N w) : mseg g' u' b N w := fun x hx J hc hj => by
  refine k x hx (fun a s => b ≤ a → J a s) ⟨?_, ?_, ?_, ?_, ?_⟩ (fun _ => hj) (Int.le_refl _)
  · intro a s ha h1 h2 h3 h4 h5
    have e := hg a h5 ha
    refine hc.1 a s ha (by rw [e.1]; exact h1) h2 (by rw [e.2]; exact h3) ?_
    rw [e.2]; exact h4 (by omega)
  · intro a s ha h1 h2 h4 h5
    have e := hg a h5 ha
    exact hc.2.1 a s ha (by rw [e.1]; exact h1) h2 (h4 (by omega))
  · intro a s f ha h1 h2 h4 h5
    have e := hg a h5 ha
    refine hc.2.2.1 a s f ha (by rw [e.1]; exact h1) h2 ?_
    rw [e.1]; exact h4 (by omega)
  · intro a s f e0 ha h1 h2 h4 h5
    have e := hg a h5 ha
    refine hc.2.2.2.1 a s f e0 ha (by rw [e.1]; exact h1) h2 ?_
    rw [e.1]; exact h4 (by omega)
  · intro a s f e0 t z ha h1 h2 h4 h5
    have e := hg a h5 ha
    refine hc.2.2.2.2 a s f e0 t z ha (by rw [e.1]; exact h1) h2 ?_
    rw [e.1]; exact h4 (by omega)
theorem mRo_ch {h g : zMem} (k : mRo h g) : zCh [40, 41, 42] [(38, 2), (38, 3), (38, 4), (38, 5), (38, 7), (38, 8), (38, 11)] h g := fun x y a b => by
  by_cases c : x = 38
  · subst c; exact k.2.2 y ⟨fun z => b (by rw [z]; decide), fun z => b (by rw [z]; decide), fun z => b (by rw [z]; decide), fun z => b (by rw [z]; decide), fun z => b (by rw [z]; decide), fun z => b (by rw [z]; decide), fun z => b (by rw [z]; decide)⟩
  · rw [k.1 x c (fun z => a (by rw [z]; decide)) (fun z => a (by rw [z]; decide)) (fun z => a (by rw [z]; decide))]
theorem jCm_ch {g : zMem} {s k : Int} : zCh [43, 44, 45] [] g (zup (jCm g s k) 45 s k) := fun x y a _ => by
  rw [zup_ne (fun z => a (by rw [z]; decide)), jCm_n ⟨fun z => a (by rw [z]; decide), fun z => a (by rw [z]; decide)⟩]

theorem sheet_sh {n N : Nat} {sh : zSh} (hn : 80 ≤ n ∧ ∀ a : Int, (sh a).1 < 106 → a < n) : zgr sh (zshn (zshn sh n (7, 1)) ((n : Int) + 1) (100, N)) ∧ (80 ≤ n + 2 ∧ ∀ a : Int, ((zshn (zshn sh n (7, 1)) ((n : Int) + 1) (100, N)) a).1 < 106 → a < ((n + 2 : Nat) : Int)) ∧ (zshn (zshn sh n (7, 1)) ((n : Int) + 1) (100, N)) (-1000) = sh (-1000) := by
  refine ⟨fun a ha => ?_, ⟨by omega, fun a ha => ?_⟩, ?_⟩
  · have := hn.2 a ha
    rw [zshn_ne (by omega), zshn_ne (by omega)]
  · by_cases c : a < (n : Int) + 2
    · omega
    · rw [zshn_ne (by omega), zshn_ne (by omega)] at ha
      have := hn.2 a ha; omega
  · rw [zshn_ne (by omega), zshn_ne (by omega)]
theorem sheet_c1 {n : Nat} {h g : zMem} {qq : zPR} (n80 : 80 ≤ n) (hg : ∀ x, x ≠ 3 → x ≠ 4 → g x = h x) : zChL [3, 4, 8] [(0, 10), (1, 1)] h (zup (zup (zup (zup (znew (znew g n (zdf 7)) ((n : Int) + 1) (fun z => if 0 ≤ z ∧ z < ((qq.2.1.toNat : Nat) : Int) then znew g n (zdf 7) 4 z else 0)) n 0 ((n : Int) + 1)) 8 (h 0 10) n) 0 10 (h 0 10 + 1)) 1 1 0) := fun x y hx a b => by
  have a3 : x ≠ 3 := fun z => a (by rw [z]; decide)
  have a4 : x ≠ 4 := fun z => a (by rw [z]; decide)
  have a8 : x ≠ 8 := fun z => a (by rw [z]; decide)
  have b1 : ¬ (x = 0 ∧ y = 10) := fun z => b (by rw [z.1, z.2]; decide)
  have b2 : ¬ (x = 1 ∧ y = 1) := fun z => b (by rw [z.1, z.2]; decide)
  show (if x = 1 ∧ y = 1 then _ else if x = 0 ∧ y = 10 then _ else _) = _
  rw [if_neg b2, if_neg b1, zup_ne a8, zup_ne (by omega), znew_ne (by omega), znew_ne (by omega), hg x a3 a4]
theorem sheet_c0 {n : Nat} {h g : zMem} {qq : zPR} (n80 : 80 ≤ n) : zChL [8] [(0, 10), (1, 1)] g (zup (zup (zup (zup (znew (znew g n (zdf 7)) ((n : Int) + 1) (fun z => if 0 ≤ z ∧ z < ((qq.2.1.toNat : Nat) : Int) then znew g n (zdf 7) 4 z else 0)) n 0 ((n : Int) + 1)) 8 (h 0 10) n) 0 10 (h 0 10 + 1)) 1 1 0) := fun x y hx a b => by
  have a8 : x ≠ 8 := fun z => a (by rw [z]; decide)
  have b1 : ¬ (x = 0 ∧ y = 10) := fun z => b (by rw [z.1, z.2]; decide)
  have b2 : ¬ (x = 1 ∧ y = 1) := fun z => b (by rw [z.1, z.2]; decide)
  show (if x = 1 ∧ y = 1 then _ else if x = 0 ∧ y = 10 then _ else _) = _
  rw [if_neg b2, if_neg b1, zup_ne a8, zup_ne (by omega), znew_ne (by omega), znew_ne (by omega)]
theorem INV.sheet {q : Int} {n : Nat} {sh : zSh} {h g g2 : zMem} {qq : zPR} (hI : INV q n sh h) (h10 : h 0 10 < 10) (hp : pAl (h 2) (h 1 1) = .inr qq) (hg : ∀ x, x ≠ 3 → x ≠ 4 → g x = h x) (hg4 : ∀ j, 0 ≤ j → j < qq.2.1 → g 4 j = qq.2.2.1 0 j) (hm : mRo (zup (zup (zup (zup (znew (znew g n (zdf 7)) ((n : Int) + 1) (fun z => if 0 ≤ z ∧ z < ((qq.2.1.toNat : Nat) : Int) then znew g n (zdf 7) 4 z else 0)) n 0 ((n : Int) + 1)) 8 (h 0 10) n) 0 10 (h 0 10 + 1)) 1 1 0) g2) (hg2 : ∀ j, 0 ≤ j → j < qq.2.2.2.1 → g2 41 j = (qq.2.2.2.2.1 0 j).1 ∧ g2 42 j = (qq.2.2.2.2.1 0 j).2) : INV (q + 1) (n + 2) (zshn (zshn sh n (7, 1)) ((n : Int) + 1) (100, qq.2.1.toNat)) (jSm g2 (h 0 10) qq.2.2.2.1) := by
  obtain ⟨⟨hS, hR, hn, hq⟩, hB, hX, hSh, hT, hV, hEn, hRw, hN, hU, hG, hL, hTk, hW⟩ := hI
  obtain ⟨kg, kn, _⟩ := sheet_sh (N := qq.2.1.toNat) hn
  obtain ⟨e12, W, hSs, hms⟩ := id hSh
  have n80 := hn.1
  have s10 := hSs.1
  have hgd := pAl_gd hX.1.1.1 hp
  have hl := hX.1.1
  have p1 := hgd.1.1
  have p2 := hgd.1.2.1
  have p3 := hgd.1.2.2
  have c1 := sheet_c1 (n := n) (qq := qq) n80 hg
  have c2 := mRo_ch hm
  have c3 : zCh [43, 44, 45] [] g2 (zup (jCm g2 (h 0 10) qq.2.2.2.1) 45 (h 0 10) qq.2.2.2.1) := jCm_ch
  have c4 : zCh [] [(38, 1), (38, 12)] (zup (jCm g2 (h 0 10) qq.2.2.2.1) 45 (h 0 10) qq.2.2.2.1) (jSm g2 (h 0 10) qq.2.2.2.1) := zCh.up.trans zCh.up
  have cb := (c1.trans c2.lo).trans c3.lo
  have cc := cb.trans c4.lo
  have lowx : ∀ x : Int, 80 ≤ x → x < n → (jSm g2 (h 0 10) qq.2.2.2.1) x = h x := fun x a b => by
    rw [c4.hi (by decide) (by decide) x a, c3.hi (by decide) (by decide) x a, c2.hi (by decide) (by decide) x a, zup_ne (by omega), zup_ne (by omega), zup_ne (by omega), zup_ne (by omega), znew_ne (by omega), znew_ne (by omega), hg x (by omega) (by omega)]
  have hB2 : mB (zup (jCm g2 (h 0 10) qq.2.2.2.1) 45 (h 0 10) qq.2.2.2.1) := mB_c cb (by decide) hB
  have f11 : (jSm g2 (h 0 10) qq.2.2.2.1) 1 1 = 0 := by
    rw [(c2.trans (c3.trans c4)).lo.s (DR := []) (DS := [(1, 1)]) (a := 1) (j := 1) (by decide) (by decide), zupE]
  have f381 : (jSm g2 (h 0 10) qq.2.2.2.1) 38 1 = 0 := (zupJ (by decide)).trans zupE
  have f3812 : (jSm g2 (h 0 10) qq.2.2.2.1) 38 12 = h 0 10 + 1 := zupE
  have f010 : (jSm g2 (h 0 10) qq.2.2.2.1) 0 10 = h 0 10 + 1 := by
    rw [(c2.trans (c3.trans c4)).lo.s (DR := []) (DS := [(0, 10)]) (a := 0) (j := 10) (by decide) (by decide), zupA (by decide), zupE]
  have f8 : ∀ c, (jSm g2 (h 0 10) qq.2.2.2.1) 8 c = if c = h 0 10 then (n : Int) else h 8 c := fun c => by
    rw [(c2.trans (c3.trans c4)).lo.r (DR := [8]) (DS := []) (x := 8) (by decide) (by decide), zup_ne (by decide), zup_ne (by decide)]
    by_cases z : c = h 0 10
    · rw [if_pos z, z, zupE]
    · rw [if_neg z, zupJ z, zup_ne (by omega), znew_ne (by omega), znew_ne (by omega), hg 8 (by decide) (by decide)]
  have fn : (jSm g2 (h 0 10) qq.2.2.2.1) (n : Int) 0 = (n : Int) + 1 := by
    rw [c4.hi (by decide) (by decide) _ (by omega), c3.hi (by decide) (by decide) _ (by omega), c2.hi (by decide) (by decide) _ (by omega), zup_ne (by omega), zup_ne (by omega), zup_ne (by omega), zupE]
  have fn1 : ∀ j, 0 ≤ j → j < qq.2.1 → (jSm g2 (h 0 10) qq.2.2.2.1) ((n : Int) + 1) j = qq.2.2.1 0 j := fun j a b => by
    rw [c4.hi (by decide) (by decide) _ (by omega), c3.hi (by decide) (by decide) _ (by omega), c2.hi (by decide) (by decide) _ (by omega), zup_ne (by omega), zup_ne (by omega), zup_ne (by omega), zup_ne (by omega), znew_at]
    show (if 0 ≤ j ∧ j < (((qq.2.1.toNat : Nat) : Int)) then znew g n (zdf 7) 4 j else 0) = _
    rw [if_pos (by omega), znew_ne (by omega), hg4 j a b]
  have f45 : ∀ c, (jSm g2 (h 0 10) qq.2.2.2.1) 45 c = if c = h 0 10 then qq.2.2.2.1 else h 45 c := fun c => by
    rw [c4.lo.r (DR := [45]) (DS := []) (x := 45) (by decide) (by decide)]
    by_cases z : c = h 0 10
    · rw [if_pos z, z, zupE]
    · rw [if_neg z, zupJ z, jCm_n (by decide), (c1.trans c2.lo).r (DR := [45]) (DS := []) (x := 45) (by decide) (by decide)]
  have f43 : ∀ r, (r = 43 ∨ r = 44) → ∀ y, (jSm g2 (h 0 10) qq.2.2.2.1) r y = if 200 * h 0 10 ≤ y ∧ y < 200 * h 0 10 + qq.2.2.2.1 then g2 (r - 2) (y - 200 * h 0 10) else h r y := fun r hr y => by
    have e1 : (jSm g2 (h 0 10) qq.2.2.2.1) r = jCm g2 (h 0 10) qq.2.2.2.1 r := by
      rw [c4.lo.r (DR := [43, 44]) (DS := []) (x := r) (by decide) (by rcases hr with z | z <;> subst z <;> decide), zup_ne (by omega)]
    have e2 : g2 r = h r := (c1.trans c2.lo).r (DR := [43, 44]) (DS := []) (x := r) (by decide) (by rcases hr with z | z <;> subst z <;> decide)
    rw [e1]
    unfold jCm
    by_cases z : 200 * h 0 10 ≤ y ∧ y < 200 * h 0 10 + qq.2.2.2.1
    · rw [if_pos ⟨hr, z⟩, if_pos z]
    · rw [if_neg (fun u => z u.2), if_neg z, e2]
  refine ⟨⟨(hS.new (by omega)).new (by omega), ?_, kn, by omega⟩, mBu12 (mBu1 hB2 (by decide)) (by omega), ⟨⟨by rw [f11]; decide, fun p a b => by rw [f11] at b; omega⟩, by rw [f381, f11], fun p a b => by rw [f11] at b; omega⟩, ⟨by rw [f3812, f010], fun c => if c = h 0 10 then qq.2.2.2.2.2 else W c, ⟨by rw [f010]; omega, fun c a b => ?_⟩, fun c a b => ?_⟩, iT_sh kg (iT_c cc (by decide) (fun x h1 h2 => ?_) hT), vHab_c cc (by decide) hV, iE_q (iE_c cc (by decide) hEn), vRow_c cc (by decide) hRw, iN_sh kg (iN_c cc (by decide) hN), iU_c cc (by decide) hU, iG_c cc (by decide) hG, (by rw [cc.r (DR := [75]) (DS := []) (by decide) (x := 75) (by decide)]; exact hL), vTok_c cc (by decide) hTk, iW_c cc (by decide) hW⟩
  · exact (((jCm_rf hm.2.1).upA (by decide)).up (by decide)).up (by decide)
  · rw [f010] at b
    rw [f8]
    by_cases z : c = h 0 10
    · rw [if_pos z]
      show xSg _ _ _ (if c = h 0 10 then qq.2.2.2.2.2 else W c)
      rw [if_pos z]
      refine ⟨⟨by omega, by rw [zshn_ne (by omega), zshn_at], fn⟩, qq.2.1.toNat, zshn_at, by omega, ?_⟩
      have e : (((qq.2.1.toNat : Nat) : Int)) = qq.2.1 := by omega
      rw [e]
      exact seg_of hgd.2.1 (by decide) fn1
    · rw [if_neg z]
      show xSg _ _ _ (if c = h 0 10 then qq.2.2.2.2.2 else W c)
      rw [if_neg z]
      obtain ⟨⟨w1, w2, w3⟩, N, w4, w5, w6⟩ := hSs.2 c a (by omega)
      have u1 := hn.2 (h 8 c) (by rw [w2]; decide)
      have u2 := hn.2 (h 8 c + 1) (by rw [w4]; exact (show 100 < 106 by decide))
      exact ⟨⟨w1, kg.is w2 (by decide), by rw [lowx _ w1 u1]; exact w3⟩, N, kg.is w4 (show 100 < 106 by decide), w5, by rw [lowx _ (by omega) u2]; exact w6⟩
  · rw [f010] at b
    rw [f45]
    by_cases z : c = h 0 10
    · rw [if_pos z]
      show _ ∧ mseg _ _ _ _ (if c = h 0 10 then qq.2.2.2.2.2 else W c)
      rw [if_pos z]
      refine ⟨by omega, mseg_of hgd.2.2 (by decide) (fun j a b => ?_)⟩
      rw [f43 43 (by omega), f43 44 (by omega), if_pos (by omega), if_pos (by omega), show 200 * c + j - 200 * h 0 10 = j by omega]
      exact hg2 j a b
    · rw [if_neg z]
      show _ ∧ mseg _ _ _ _ (if c = h 0 10 then qq.2.2.2.2.2 else W c)
      rw [if_neg z]
      have hc := hms c a (by omega)
      refine ⟨hc.1, mseg_cg (fun y a b => ?_) (by omega) hc.2⟩
      rw [f43 43 (by omega), f43 44 (by omega), if_neg (by omega), if_neg (by omega)]
      exact ⟨rfl, rfl⟩
  · rcases h2 with h2 | h2
    · exact lowx x h1 (hn.2 x (by rw [h2]; decide))
    · exact lowx x h1 (hn.2 x (by rw [h2]; decide))

set_option maxRecDepth 100000 in
set_option maxHeartbeats 4000000 in
theorem op_sheet {q : Int} {n : Nat} {sh : zSh} {h : zMem} (hI : INV q n sh h) (hq6 : q ≤ 520)  : oOK q n sh h (fun Q => zM yX10_sheet cX10_sheet 1 (some .int) 70 2 201 [(2, 0)] n sh h Q) (fun n1 sh1 h1 Q => zM yX11_sheet cX11_sheet 2 (some .int) 70 0 0 [(2, 38)] n1 sh1 h1 Q) := by
  obtain ⟨⟨hS, hR, hn, hq⟩, hB, hX, hSh, hT, hV, hE, hRw, hN, hU, hG, hL, hTk, hW⟩ := id hI
  have hTb := hI.xTb
  have s10 := hSh.2
  obtain ⟨e12, W, hSs, hms⟩ := id hSh
  have s10 := hSs.1
  have hpl : ∀ {x : Int}, (0 ≤ h 1 1 ∧ h 1 1 ≤ 200) → pAl (h 2) (h 1 1) = .inl x → 0 ≤ x ∧ x ≤ 200 := fun a b => by have := pAl_l a.1 b; omega
  refine ⟨_, c_xshe (d := 9) hS hR hX.1 s10 hn.1, ?_⟩
  rintro r n1 sh1 h1 hz
  rcases hz with ⟨h10, qq, hp, rfl, rfl, rfl, g, hg, hRg, hg4, rfl⟩ | ⟨hf, rfl, rfl, rfl, hz0, hR1⟩
  · obtain ⟨kg, kn, k1000⟩ := sheet_sh (N := qq.2.1.toNat) hn
    have n80 := hn.1
    have c1 := sheet_c1 (n := n) (qq := qq) n80 hg
    have hR1 : zRf (zup (zup (zup (zup (znew (znew g n (zdf 7)) ((n : Int) + 1) (fun z => if 0 ≤ z ∧ z < ((qq.2.1.toNat : Nat) : Int) then znew g n (zdf 7) 4 z else 0)) n 0 ((n : Int) + 1)) 8 (h 0 10) n) 0 10 (h 0 10 + 1)) 1 1 0) := zRf_c (sheet_c0 n80) (by decide) hRg
    have hB1 : mB (zup (zup (zup (zup (znew (znew g n (zdf 7)) ((n : Int) + 1) (fun z => if 0 ≤ z ∧ z < ((qq.2.1.toNat : Nat) : Int) then znew g n (zdf 7) 4 z else 0)) n 0 ((n : Int) + 1)) 8 (h 0 10) n) 0 10 (h 0 10 + 1)) 1 1 0) := mB_c c1 (by decide) hB
    have er := fun r hr => c1.r (DR := [38, 39, -1000]) (DS := []) (x := r) (by decide) hr
    have hXt : mTt (zup (zup (zup (zup (znew (znew g n (zdf 7)) ((n : Int) + 1) (fun z => if 0 ≤ z ∧ z < ((qq.2.1.toNat : Nat) : Int) then znew g n (zdf 7) 4 z else 0)) n 0 ((n : Int) + 1)) 8 (h 0 10) n) 0 10 (h 0 10 + 1)) 1 1 0) (h 2) (h 1 1) := by
      unfold mTt
      rw [er 38 (by decide), er 39 (by decide)]; exact hX
    have hcj := fun (n0 : Nat) => c_jshe (d := 60) (n := n0) (T := h 2) (L := h 1 1) ((hS.new (s := (7, 1)) (a := (n : Int)) (by omega)).new (s := (100, qq.2.1.toNat)) (a := (n : Int) + 1) (by omega)) hR1 hB1 hXt hpl
    refine ⟨⟨by rw [k1000, kg.is (zs_38 hS) (by decide), zs_38 hS], er (-1000) (by decide)⟩, _, rfl, _, hcj _, ?_⟩
    rintro r2 n2 sh2 h2 ⟨rfl, rfl, _, hz2⟩
    obtain ⟨g2, hm, hg2, rfl, rfl⟩ := hz2 qq hp (by rw [er 38 (by decide), e12]; exact h10)
    rw [er 38 (by decide), e12]
    refine ⟨rfl, ⟨k1000, ?_⟩, hI.sheet h10 hp hg hg4 hm hg2⟩
    have c4 : zCh ([43, 44, 45] ++ []) ([] ++ [(38, 1), (38, 12)]) g2 (jSm g2 (h 0 10) qq.2.2.2.1) := jCm_ch.trans (zCh.up.trans zCh.up)
    exact (c4.lo.r (DR := [-1000]) (DS := []) (by decide) (by decide)).trans (((mRo_ch hm).lo.r (DR := [-1000]) (DS := []) (by decide) (by decide)).trans (er (-1000) (by decide)))
  · have c1 : zCh [3, 4] [] h h1 := fun x y a _ => by rw [hz0 x (fun z => a (by rw [z]; decide)) (fun z => a (by rw [z]; decide))]
    have hB1 : mB h1 := mB_c c1.lo (by decide) hB
    have er := fun r hr => c1.lo.r (DR := [38, 39, -1000]) (DS := []) (x := r) (by decide) hr
    have hXt : mTt h1 (h 2) (h 1 1) := by
      unfold mTt
      rw [er 38 (by decide), er 39 (by decide)]; exact hX
    have hcj := fun (n0 : Nat) => c_jshe (d := 60) (n := n0) (T := h 2) (L := h 1 1) hS hR1 hB1 hXt hpl
    refine ⟨⟨rfl, er (-1000) (by decide)⟩, _, rfl, _, hcj _, ?_⟩
    rintro r2 n2 sh2 h2 ⟨rfl, rfl, hz2, _⟩
    obtain ⟨rfl, hm⟩ := hz2 (by rw [er 38 (by decide), e12]; exact hf.symm)
    have c2 := c1.trans (mRo_ch hm)
    exact ⟨rfl, ⟨rfl, c2.lo.r (DR := [-1000]) (DS := []) (by decide) (by decide)⟩, hI.keep c2 (by decide) (by decide) hm.2.1 (by decide) (by rw [c2.lo.r (DR := [75]) (DS := []) (by decide) (by decide)]; exact hL)⟩

