/-- what lived, lives on -/
def zgr (sh sh' : zSh) : Prop := ∀ a : Int, (sh a).1 < 106 → sh' a = sh a
theorem zgr.refl {sh : zSh} : zgr sh sh := fun _ _ => rfl
theorem zgr.is {sh sh' : zSh} {a : Int} {s : Nat × Nat} (g : zgr sh sh') (e : sh a = s) (hs : s.1 < 106) : sh' a = s := (g a (by rw [e]; exact hs)).trans e
theorem zgr.new {sh : zSh} {n : Nat} {s : Nat × Nat} (hn : ∀ a : Int, (sh a).1 < 106 → a < n) : zgr sh (zshn sh n s) := fun a ha => zshn_ne (by have := hn a ha; omega)
theorem iS_sh {sh sh' : zSh} {h : zMem} (g : zgr sh sh') (k : iS sh h) : iS sh' h := by
  obtain ⟨k1, W, k2, k3⟩ := k
  refine ⟨k1, W, ⟨k2.1, fun s a b => ?_⟩, k3⟩
  obtain ⟨⟨p1, p2, p3⟩, N, p4, p5, p6⟩ := k2.2 s a b
  exact ⟨⟨p1, g.is p2 (by decide), p3⟩, N, g.is p4 (show 100 < 106 by decide), p5, p6⟩
theorem zTab_sh {sh sh' : zSh} {h : zMem} {b : Int} (g : zgr sh sh') (k : zTab sh h b) : zTab sh' h b := ⟨k.1, g.is k.2.1 (by decide), k.2.2.1, fun j a c => ⟨g.is (k.2.2.2 j a c).1 (by decide), (k.2.2.2 j a c).2⟩⟩
theorem iT_sh {sh sh' : zSh} {h : zMem} (g : zgr sh sh') (k : iT sh h) : iT sh' h := ⟨k.1, k.2.1, fun t a b => ⟨zTab_sh g (k.2.2 t a b).1, (k.2.2 t a b).2⟩⟩
theorem iN_sh {sh sh' : zSh} {h : zMem} (g : zgr sh sh') (k : iN sh h) : iN sh' h := by
  rcases k with k | k
  · exact Or.inl k
  · exact Or.inr ⟨k.1, g.is k.2 (by decide)⟩
/-- a search of the row has been made -/
theorem rK_ok {n n1 : Nat} {sh sh1 : zSh} {h h1 : zMem} (hn : 80 ≤ n ∧ ∀ a : Int, (sh a).1 < 106 → a < n) (hN : iN sh h) (k : rK n sh h n1 sh1 h1) :
    zRf h1 ∧ zShp sh1 ∧ (80 ≤ n1 ∧ ∀ a : Int, (sh1 a).1 < 106 → a < n1) ∧ zgr sh sh1 ∧ iN sh1 h1 ∧ zChL [-1, 28, 29, 30, 31] [(26, 1), (26, 2), (26, 5), (26, 7), (26, 10), (26, 11)] h h1 ∧ (∀ x : Int, 80 ≤ x → (sh x).1 < 106 → sh x ≠ (100, 8192) → h1 x = h x) ∧ sh1 (-1000) = sh (-1000) := by
  obtain ⟨k1, k2, s, k3, k4, k5, k6⟩ := k
  have hc : (s = -1 ∨ 80 ≤ s) → zChL [-1, 28, 29, 30, 31] [(26, 1), (26, 2), (26, 5), (26, 7), (26, 10), (26, 11)] h h1 := fun hs x y hx a b => by
    have a1 : x ≠ -1 ∧ x ≠ 28 ∧ x ≠ 29 ∧ x ≠ 30 ∧ x ≠ 31 := ⟨fun z => a (by rw [z]; decide), fun z => a (by rw [z]; decide), fun z => a (by rw [z]; decide), fun z => a (by rw [z]; decide), fun z => a (by rw [z]; decide)⟩
    by_cases c : x = 26
    · subst c
      exact k5 y (fun z => b (by rw [z]; decide)) (fun z => b (by rw [z]; decide)) (fun z => b (by rw [z]; decide)) (fun z => b (by rw [z]; decide)) (fun z => b (by rw [z]; decide)) (fun z => b (by rw [z]; decide))
    · rw [k4 x c a1.2.1 a1.2.2.1 a1.2.2.2.1 a1.2.2.2.2 (by omega)]
  rcases k6 with ⟨rfl, rfl, e⟩ | ⟨rfl, rfl, e, _⟩
  · have hs : s = -1 ∨ (80 ≤ s ∧ sh1 s = (100, 8192)) := by rw [e]; exact hN
    refine ⟨k1, k2, hn, zgr.refl, by unfold iN; rw [k3]; exact hs, hc (by omega), fun x hx _ hy => k4 x (by omega) (by omega) (by omega) (by omega) (by omega) (fun z => ?_), rfl⟩
    rcases hs with hs | hs
    · omega
    · exact hy (by rw [z]; exact hs.2)
  · refine ⟨k1, k2, ⟨by omega, fun a ha => ?_⟩, zgr.new hn.2, Or.inr ⟨by rw [k3, e]; omega, by rw [k3, e, zshn_at]⟩, hc (by omega), fun x hx ha _ => k4 x (by omega) (by omega) (by omega) (by omega) (by omega) (by have := hn.2 x ha; omega), zshn_ne (by omega)⟩
    by_cases c : a = (n : Int)
    · omega
    · rw [zshn_ne c] at ha; have := hn.2 a ha; omega
theorem mvV_ch {h g : zMem} {R : List Int} (k : mvV h g R) : zCh [77, 79] [(38, 61), (38, 62)] h g := fun x y a b => by
  by_cases c : x = 38
  · subst c; exact k.2.1 y (fun z => b (by rw [z]; decide)) (fun z => b (by rw [z]; decide))
  · rw [k.1 x c (fun z => a (by rw [z]; decide)) (fun z => a (by rw [z]; decide))]
/-- the invariant after both searches -/
theorem INV.rvs {q : Int} {n n1 : Nat} {sh sh1 : zSh} {h h1 h2 : zMem} (hI : INV q n sh h) (k : rK n sh h n1 sh1 h1) (c2 : zCh [77, 79] [(38, 61), (38, 62)] h1 h2) (hR2 : zRf h2) : INV (q + 1) n1 sh1 h2 := by
  obtain ⟨⟨hS, hR, hn, hq⟩, hB, hX, hSh, hT, hV, hE, hRw, hN, hU, hG, hL, hTk, hW⟩ := hI
  obtain ⟨k1, k2, k3, kg, k4, k5, k6, _⟩ := rK_ok hn hN k
  have cc := k5.trans c2.lo
  have hi := c2.hi (by decide) (by decide)
  exact ⟨⟨k2, hR2, k3, by omega⟩, mB_c cc (by decide) hB, mTx_c cc (by decide) hX, iS_sh kg (iS_c cc (by decide) (fun a h1 h2 h3 => by
      obtain ⟨N, e1, e2⟩ := h3
      exact ⟨(hi a h1).trans (k6 a h1 (by rw [h2]; decide) (by rw [h2]; decide)), (hi (a + 1) (by omega)).trans (k6 (a + 1) (by omega) (by rw [e1]; exact (show 100 < 106 by decide)) (by rw [e1]; exact fun z => by have : N = 8192 := congrArg Prod.snd z; omega))⟩) hSh), iT_sh kg (iT_c cc (by decide) (fun x h1 h2 => (hi x h1).trans (by
      rcases h2 with h2 | h2
      · exact k6 x h1 (by rw [h2]; decide) (by rw [h2]; decide)
      · exact k6 x h1 (by rw [h2]; decide) (by rw [h2]; decide))) hT), vHab_c cc (by decide) hV, iE_q (iE_c cc (by decide) hE), vRow_c cc (by decide) hRw, iN_c c2.lo (by decide) k4, iU_c cc (by decide) hU, iG_c cc (by decide) hG, (by rw [cc.r (DR := [75]) (DS := []) (by decide) (x := 75) (by decide)]; exact hL), vTok_c cc (by decide) hTk, iW_c cc (by decide) hW⟩

set_option maxRecDepth 100000 in
set_option maxHeartbeats 4000000 in
theorem op_suspects {q : Int} {n : Nat} {sh : zSh} {h : zMem} {x e : Int} (hI : INV q n sh h) (hq6 : q ≤ 520) (hx_ : zi32 x) (he_ : zi32 e) : oOK q n sh h (fun Q => zM yX10_suspects cX10_suspects 3 (some .int) 70 1 8192 [(2, 0), (0, x), (0, e)] n sh h Q) (fun n1 sh1 h1 Q => zM yX11_suspects cX11_suspects 3 (some .int) 70 0 0 [(2, 38), (0, x), (0, e)] n1 sh1 h1 Q) := by
  obtain ⟨⟨hS, hR, hn, hq⟩, hB, hX, hSh, hT, hV, hE, hRw, hN, hU, hG, hL, hTk, hW⟩ := id hI
  have hTb := hI.xTb
  refine ⟨_, c_xsus (d := 67) hS hR hTb hx_ he_ hRw.2.1 hN hn.1, ?_⟩
  rintro r n1 sh1 h1 ⟨hk, hz⟩
  obtain ⟨k1, k2, k3, kg, k4, k5, k6, k7⟩ := rK_ok hn hN hk
  have er := fun r hr => k5.r (x := r) (DR := [71, 27, 38, -1000]) (DS := []) (by decide) hr
  have e26 : h1 26 0 = h 26 0 := k5.s (DR := []) (DS := [(26, 0)]) (by decide) (by decide)
  have hq2 := rv_eq (h := h) (g := h1) (m := x) (e := e) (by rw [er 38 (by decide)]; exact hRw.1) (by rw [er 71 (by decide)]; exact hRw.2.2)
  have hcj := fun (n0 : Nat) => c_jsus (d := 67) (n := n0) (m := x) (e := e) k2 k1 (by rw [er 38 (by decide), hRw.1]; exact hRw.2.1.1) (fun i a b => by
    rw [er 38 (by decide), hRw.1] at b
    rw [er 71 (by decide), hRw.2.2 i a b]; exact hRw.2.1.2 i a b) hx_ he_
  refine ⟨⟨by rw [k7, zs_38 k2, zs_38 hS], er (-1000) (by decide)⟩, ?_⟩
  rw [hq2.2] at hcj
  rcases hz with ⟨c, rfl⟩ | ⟨c, rfl⟩
  · refine ⟨_, rfl, _, hcj n1, ?_⟩
    rintro r2 n2 sh2 h2 ⟨rfl, rfl, hz2⟩
    rcases hz2 with ⟨_, rfl, hv⟩ | ⟨c2, _⟩
    · exact ⟨rfl, ⟨k7, ((mvV_ch hv).lo.r (DR := [-1000]) (DS := []) (by decide) (by decide)).trans (er (-1000) (by decide))⟩, hI.rvs hk (mvV_ch hv) hv.2.2.1⟩
    · exact absurd (hq2.1.mpr c) c2
  · refine ⟨_, rfl, _, hcj n1, ?_⟩
    rintro r2 n2 sh2 h2 ⟨rfl, rfl, hz2⟩
    rcases hz2 with ⟨c2, _⟩ | ⟨_, rfl, rfl⟩
    · exact absurd (hq2.1.mp c2) c
    · exact ⟨rfl, ⟨k7, er (-1000) (by decide)⟩, hI.rvs hk (fun _ _ _ _ => rfl) k1⟩

set_option maxRecDepth 100000 in
set_option maxHeartbeats 4000000 in
theorem op_rivals {q : Int} {n : Nat} {sh : zSh} {h : zMem} {x e : Int} (hI : INV q n sh h) (hq6 : q ≤ 520) (hx_ : zi32 x) (he_ : zi32 e) : oOK q n sh h (fun Q => zM yX10_rivals cX10_rivals 3 (some .int) 70 1 8192 [(2, 0), (0, x), (0, e)] n sh h Q) (fun n1 sh1 h1 Q => zM yX11_rivals cX11_rivals 7 (some .int) 70 0 0 [(2, 38), (0, x), (0, e)] n1 sh1 h1 Q) := by
  obtain ⟨⟨hS, hR, hn, hq⟩, hB, hX, hSh, hT, hV, hE, hRw, hN, hU, hG, hL, hTk, hW⟩ := id hI
  have hTb := hI.xTb
  refine ⟨_, c_xrvs (d := 67) hS hR hTb hx_ he_ hRw.2.1 hN hn.1, ?_⟩
  rintro r n1 sh1 h1 ⟨hk, hz⟩
  obtain ⟨k1, k2, k3, kg, k4, k5, k6, k7⟩ := rK_ok hn hN hk
  have er := fun r hr => k5.r (x := r) (DR := [71, 27, 38, -1000]) (DS := []) (by decide) hr
  have e26 : h1 26 0 = h 26 0 := k5.s (DR := []) (DS := [(26, 0)]) (by decide) (by decide)
  have hq2 := rv_eq (h := h) (g := h1) (m := x) (e := e) (by rw [er 38 (by decide)]; exact hRw.1) (by rw [er 71 (by decide)]; exact hRw.2.2)
  have hcj := fun (n0 : Nat) => c_jriv2 (d := 67) (n := n0) (m := x) (e := e) k2 k1 (by rw [er 38 (by decide), hRw.1]; exact hRw.2.1.1) (fun i a b => by
    rw [er 38 (by decide), hRw.1] at b
    rw [er 71 (by decide), hRw.2.2 i a b]; exact hRw.2.1.2 i a b) hx_ he_
  refine ⟨⟨by rw [k7, zs_38 k2, zs_38 hS], er (-1000) (by decide)⟩, ?_⟩
  rw [hq2.2] at hcj
  rcases hz with ⟨c, rfl⟩ | ⟨c, rfl⟩
  · refine ⟨_, rfl, _, hcj n1, ?_⟩
    rintro r2 n2 sh2 h2 ⟨rfl, rfl, hz2⟩
    rcases hz2 with ⟨_, rfl, hv⟩ | ⟨c2, _⟩
    · exact ⟨rfl, ⟨k7, ((mvV_ch hv).lo.r (DR := [-1000]) (DS := []) (by decide) (by decide)).trans (er (-1000) (by decide))⟩, hI.rvs hk (mvV_ch hv) hv.2.2.1⟩
    · exact absurd (hq2.1.mpr c) c2
  · refine ⟨_, rfl, _, hcj n1, ?_⟩
    rintro r2 n2 sh2 h2 ⟨rfl, rfl, hz2⟩
    rcases hz2 with ⟨c2, _⟩ | ⟨_, rfl, rfl⟩
    · exact absurd (hq2.1.mp c2) c
    · exact ⟨rfl, ⟨k7, er (-1000) (by decide)⟩, hI.rvs hk (fun _ _ _ _ => rfl) k1⟩

