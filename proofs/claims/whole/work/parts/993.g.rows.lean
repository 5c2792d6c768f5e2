noncomputable def hO (y : Int → Int) (e : Int) (PL c : List Int) : Int := hpS (qm y e (c.map (zgt PL))) PL
theorem hO_b {y : Int → Int} {e : Int} {PL c : List Int} (hPL : chF 20 0 PL) : 0 ≤ hO y e PL c ∧ hO y e PL c < 1048576 := by
  have := (hpS_acc (q := qm y e (c.map (zgt PL))) PL 0 0 (by omega) hPL (by omega) (by decide)).1
  rw [Int.zero_add] at this
  exact ⟨this.1, this.2⟩
def srI (h g : zMem) (s : Int) (K : Nat) : Prop := (∀ x, x ≠ 26 → x ≠ 29 → x ≠ 30 → x ≠ 31 → x ≠ s → g x = h x) ∧ (∀ y, y ≠ 1 → y ≠ 2 → y ≠ 7 → y ≠ 10 → g 26 y = h 26 y) ∧ zRf g ∧ g 26 7 = K
theorem srI.ro {h g g1 : zMem} {s : Int} {K : Nat} (a : srI h g s K) (b : rO g g1) (c : g1 26 7 = K) : srI h g1 s K := ⟨fun x p q r t u => (b.1 x p q r t).trans (a.1 x p q r t u), fun y p q r t => (b.2.1 y r t).trans (a.2.1 y p q r t), b.2.2, c⟩
theorem srI.up {h g : zMem} {s v j : Int} {K : Nat} (a : srI h g s K) (hj : j = 1 ∨ j = 2) : srI h (zup g 26 j v) s K := ⟨fun x p q r t u => by rw [zup_ne p]; exact a.1 x p q r t u, fun y p q r t => by rw [zupJ (by omega)]; exact a.2.1 y p q r t, a.2.2.1.up (by rcases hj with rfl | rfl <;> decide), by rw [zupJ (by omega)]; exact a.2.2.2⟩
theorem srI.new {h g : zMem} {s : Int} {K : Nat} {f : Int → Int} (a : srI h g s K) (hs : 80 ≤ s) : srI h (znew g s f) s K := ⟨fun x p q r t u => by rw [znew_ne u]; exact a.1 x p q r t u, fun y p q r t => by rw [znew_ne (by omega)]; exact a.2.1 y p q r t, a.2.2.1.new (by simp only [List.mem_cons, List.not_mem_nil, or_false]; omega), by rw [znew_ne (by omega)]; exact a.2.2.2⟩
/-- what stands after the heaps R (the last one first), T of them in the slots -/
def srV (h : zMem) (s b : Int) (K : Nat) (f : Int) (g : zMem) (R T : List Int) : Prop :=
  srI h g s K ∧ f = (sB R).1 ∧ (R ≠ [] → g 26 1 = (sB R).2) ∧ (∀ x ∈ R, 0 ≤ x ∧ x < 1048576) ∧ (b = 1 → (R ≠ [] → g 26 2 = dC R f) ∧ tbI (g s) T ∧ (∀ x ∈ T, x ∈ R) ∧ (∀ x ∈ R, bts x = f → x ∈ T) ∧ T.length ≤ R.length)
theorem srV.ro {h g g1 : zMem} {s b f : Int} {K : Nat} {R T : List Int} (a : srV h s b K f g R T) (r : rO g g1) (c : g1 26 7 = K) (hs : s = -1 ∨ 80 ≤ s) : srV h s b K f g1 R T :=
  ⟨a.1.ro r c, a.2.1, fun q => (r.2.1 1 (by decide) (by decide)).trans (a.2.2.1 q), a.2.2.2.1, fun q => by
    obtain ⟨z1, z2, z3⟩ := a.2.2.2.2 q
    exact ⟨fun w => (r.2.1 2 (by decide) (by decide)).trans (z1 w), by rw [r.1 s (by omega) (by omega) (by omega) (by omega)]; exact z2, z3⟩⟩
theorem srV_mem {H : Int} {R : List Int} (hH : 0 ≤ H ∧ H < 1048576) (hr : ∀ x ∈ R, 0 ≤ x ∧ x < 1048576) : ∀ x ∈ H :: R, 0 ≤ x ∧ x < 1048576 := fun x hx => by
  rcases List.mem_cons.mp hx with q | q
  · subst q; exact hH
  · exact hr x q
theorem sB_ge {H : Int} {R : List Int} (h : (sB R).1 ≤ bts H) : sB (H :: R) = sB R := by
  show (if bts H < (sB R).1 then (bts H, H) else sB R) = sB R
  exact if_neg (by omega)
theorem sB_lt {H : Int} {R : List Int} (h : bts H < (sB R).1) : sB (H :: R) = (bts H, H) := by
  show (if bts H < (sB R).1 then (bts H, H) else sB R) = _
  exact if_pos h
theorem bts_20 (x : Int) : bts x ≤ 20 := (bt_b 20 x).2
theorem srV_ne {R : List Int} {x : Int} (h : (sB R).1 = bts x) : R ≠ [] := fun q => by
  subst q
  have := bts_20 x
  have e : (sB []).1 = 21 := rfl
  omega
theorem srV_A {h g : zMem} {s b f H : Int} {K : Nat} {R T : List Int} (a : srV h s b K f g R T) (hc : f < bts H) (hH : 0 ≤ H ∧ H < 1048576) : srV h s b K f g (H :: R) T := by
  obtain ⟨a1, a2, a3, a4, a5⟩ := a
  have e := sB_ge (H := H) (R := R) (by omega)
  refine ⟨a1, by rw [e]; exact a2, fun _ => ?_, srV_mem hH a4, fun q => ?_⟩
  · rw [e]
    refine a3 (fun z => ?_)
    subst z
    have := bts_20 H
    have e : (sB []).1 = 21 := rfl
    omega
  · obtain ⟨z1, z2, z3, z4, z5⟩ := a5 q
    refine ⟨fun _ => ?_, z2, fun x hx => List.mem_cons_of_mem _ (z3 x hx), fun x hx hb => ?_, by rw [List.length_cons]; omega⟩
    · show _ = dC R f + (if bts H = f ∧ H ∉ R then 1 else 0)
      rw [if_neg (by omega), z1 (fun z => by subst z; have := bts_20 H; have e : (sB []).1 = 21 := rfl; omega), Int.add_zero]
    · rcases List.mem_cons.mp hx with c | c
      · subst c; omega
      · exact z4 x c hb
theorem srV_B0 {h g : zMem} {s b f H v : Int} {K : Nat} {R T : List Int} (a : srV h s b K f g R T) (hb : b = 0) (hc : bts H = f) (hH : 0 ≤ H ∧ H < 1048576) : srV h s b K f (zup g 26 2 v) (H :: R) T := by
  obtain ⟨a1, a2, a3, a4, a5⟩ := a
  have e := sB_ge (H := H) (R := R) (by omega)
  exact ⟨a1.up (Or.inr rfl), by rw [e]; exact a2, fun _ => by rw [e, zupJ (by decide)]; exact a3 (srV_ne (x := H) (by omega)), srV_mem hH a4, fun q => by omega⟩
theorem srV_B1 {h g : zMem} {s b f H : Int} {K : Nat} {R T : List Int} (a : srV h s b K f g R T) (hb : b ≠ 0) (hc : bts H = f) (hH : 0 ≤ H ∧ H < 1048576) (hT : H ∈ T) (hs : s ≠ 26) : srV h s b K f (zup g 26 2 (g 26 2 + 0)) (H :: R) T := by
  obtain ⟨a1, a2, a3, a4, a5⟩ := a
  have e := sB_ge (H := H) (R := R) (by omega)
  refine ⟨a1.up (Or.inr rfl), by rw [e]; exact a2, fun _ => by rw [e, zupJ (by decide)]; exact a3 (srV_ne (x := H) (by omega)), srV_mem hH a4, fun q => ?_⟩
  obtain ⟨z1, z2, z3, z4, z5⟩ := a5 q
  refine ⟨fun _ => ?_, by rw [zup_ne hs]; exact z2, fun x hx => List.mem_cons_of_mem _ (z3 x hx), fun x hx hb => ?_, by rw [List.length_cons]; omega⟩
  · show _ = dC R f + (if bts H = f ∧ H ∉ R then 1 else 0)
    rw [if_neg (fun z => z.2 (z3 H hT)), zupE, z1 (srV_ne (x := H) (by omega))]
  · rcases List.mem_cons.mp hx with c | c
    · subst c; exact hT
    · exact z4 x c hb
theorem srV_B2 {h g : zMem} {s b f H : Int} {K : Nat} {R T : List Int} {gn : Int → Int} (a : srV h s b K f g R T) (hb : b = 1) (hc : bts H = f) (hH : 0 ≤ H ∧ H < 1048576) (hT : H ∉ T) (hs : 80 ≤ s) (ht : tbI gn (H :: T)) : srV h s b K f (zup (znew g s gn) 26 2 (g 26 2 + 1)) (H :: R) (H :: T) := by
  obtain ⟨a1, a2, a3, a4, a5⟩ := a
  have e := sB_ge (H := H) (R := R) (by omega)
  refine ⟨(a1.new hs).up (Or.inr rfl), by rw [e]; exact a2, fun _ => by rw [e, zupJ (by decide), znew_ne (by omega)]; exact a3 (srV_ne (x := H) (by omega)), srV_mem hH a4, fun q => ?_⟩
  obtain ⟨z1, z2, z3, z4, z5⟩ := a5 q
  refine ⟨fun _ => ?_, by rw [zup_ne (by omega), znew_at]; exact ht, fun x hx => ?_, fun x hx hb => ?_, by rw [List.length_cons, List.length_cons]; omega⟩
  · show _ = dC R f + (if bts H = f ∧ H ∉ R then 1 else 0)
    rw [if_pos ⟨hc, fun z => hT (z4 H z hc)⟩, zupE, z1 (srV_ne (x := H) (by omega))]
  · rcases List.mem_cons.mp hx with c | c
    · subst c; exact List.mem_cons_self
    · exact List.mem_cons_of_mem _ (z3 x c)
  · rcases List.mem_cons.mp hx with c | c
    · subst c; exact List.mem_cons_self
    · exact List.mem_cons_of_mem _ (z4 x c hb)
theorem srV_C0 {h g : zMem} {s b f H : Int} {K : Nat} {R T : List Int} (a : srV h s b K f g R T) (hb : b = 0) (hc : bts H < f) (hH : 0 ≤ H ∧ H < 1048576) : srV h s b K (bts H) (zup (zup (zup g 26 1 H) 26 2 0) 26 2 0) (H :: R) T := by
  obtain ⟨a1, a2, a3, a4, a5⟩ := a
  have e := sB_lt (H := H) (R := R) (by omega)
  exact ⟨((a1.up (Or.inl rfl)).up (Or.inr rfl)).up (Or.inr rfl), by rw [e], fun _ => by rw [e, zupJ (by decide), zupJ (by decide), zupE], srV_mem hH a4, fun q => by omega⟩
theorem srV_C2 {h g : zMem} {s b f H : Int} {K : Nat} {R T : List Int} {gn : Int → Int} (a : srV h s b K f g R T) (hb : b = 1) (hc : bts H < f) (hH : 0 ≤ H ∧ H < 1048576) (hT : H ∉ T) (hs : 80 ≤ s) (ht : tbI gn (H :: T)) : srV h s b K (bts H) (zup (znew (zup (zup g 26 1 H) 26 2 0) s gn) 26 2 1) (H :: R) (H :: T) := by
  obtain ⟨a1, a2, a3, a4, a5⟩ := a
  have e := sB_lt (H := H) (R := R) (by omega)
  refine ⟨(((a1.up (Or.inl rfl)).up (Or.inr rfl)).new hs).up (Or.inr rfl), by rw [e], fun _ => by rw [e, zupJ (by decide), znew_ne (by omega), zupJ (by decide), zupE], srV_mem hH a4, fun q => ?_⟩
  obtain ⟨z1, z2, z3, z4, z5⟩ := a5 q
  have hn : H ∉ R := fun z => by have := sB_le R H z; omega
  refine ⟨fun _ => ?_, by rw [zup_ne (by omega), znew_at]; exact ht, fun x hx => ?_, fun x hx hb => ?_, by rw [List.length_cons, List.length_cons]; omega⟩
  · show _ = dC R (bts H) + (if bts H = bts H ∧ H ∉ R then 1 else 0)
    rw [if_pos ⟨rfl, hn⟩, zupE, dC_0 R (bts H) (fun x hx hb => by have := sB_le R x hx; omega)]; rfl
  · rcases List.mem_cons.mp hx with c | c
    · subst c; exact List.mem_cons_self
    · exact List.mem_cons_of_mem _ (z3 x c)
  · rcases List.mem_cons.mp hx with c | c
    · subst c; exact List.mem_cons_self
    · have := sB_le R x c; omega
theorem srV_no {h g : zMem} {s b f H : Int} {K : Nat} {R T : List Int} (a : srV h s b K f g R T) (hb : b = 1) (hc : bts H < f) (hT : H ∈ T) : False := by
  have := sB_le R H ((a.2.2.2.2 hb).2.2.1 H hT)
  have := a.2.1
  omega
/-- what is to come -/
def srA (y : Int → Int) (e : Int) (K : Nat) (PL : List Int) (o : Int) (c R : List Int) : Prop := (o = 1 ∧ chF PL.length 0 c ∧ (CL (iot 0 PL.length) K).map (hO y e PL) = R.reverse ++ (rem PL.length c).map (hO y e PL)) ∨ (o = 0 ∧ (CL (iot 0 PL.length) K).map (hO y e PL) = R.reverse)
theorem srA_some {y : Int → Int} {e : Int} {K : Nat} {PL c c' R : List Int} (hc : chF PL.length 0 c) (ha : (CL (iot 0 PL.length) K).map (hO y e PL) = R.reverse ++ (rem PL.length c).map (hO y e PL)) (hn : nx PL.length c = some c') : srA y e K PL 1 c' (hO y e PL c :: R) := by
  refine Or.inl ⟨rfl, chF_nx c 0 c' hc hn, ?_⟩
  rw [ha, rem_nx PL.length c, hn]
  simp
theorem srA_none {y : Int → Int} {e : Int} {K : Nat} {PL c R : List Int} (ha : (CL (iot 0 PL.length) K).map (hO y e PL) = R.reverse ++ (rem PL.length c).map (hO y e PL)) (hn : nx PL.length c = none) : srA y e K PL 0 c (hO y e PL c :: R) := by
  refine Or.inr ⟨rfl, ?_⟩
  rw [ha, rem_nx PL.length c, hn]
  simp
theorem srA_len {y : Int → Int} {e : Int} {K : Nat} {PL c R : List Int} (hK : K ≤ 4) (hl : PL.length ≤ 20) (h : srA y e K PL 1 c R) : R.length < 4845 := by
  rcases h with ⟨_, h1, h2⟩ | ⟨h1, _⟩
  · have e1 := congrArg List.length h2
    rw [List.length_map, CL_len, iot_len, List.length_append, List.length_reverse, List.length_map] at e1
    have e2 := cnb_le PL.length (by omega) K (by omega)
    have e3 : 0 < (rem PL.length c).length := by rw [rem_nx]; simp
    omega
  · omega
