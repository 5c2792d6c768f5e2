theorem sap_l {α : Type} {la b j : Int} {A B : Int → Int → α} (h : j < b + la) : sap la A B b j = A b j := if_pos h
theorem sap_r {α : Type} {la b j : Int} {A B : Int → Int → α} (h : b + la ≤ j) : sap la A B b j = B (b + la) j := if_neg (by omega)
/-- a segment of the class' code works out v, with m places of the stack -/
def csg (n : Int) (cc : Int → Int → Int) (v : zFr → zFr) (m : Nat) : Prop := ∀ (x : zFr) (g : Int → Int) (N : Int) (J : Int → List zFr → Prop), fok x → clo g N x J → ∀ (b : Int) (s : List zFr), 0 ≤ b → b + n ≤ N → (∀ j, b ≤ j → j < b + n → g j = cc b j) → s.length + m ≤ 64 → J (b + n) (v x :: s) → J b s
/-- how the reference's code (g, w) of N parts is worked, backwards -/
def mclo (g w : Int → Int) (N : Int) (x : zFr) (J : Int → List zFr → Prop) : Prop :=
  (∀ a s, a < N → g a = 0 → s.length < 190 → fok (w a, 1) → J (a + 1) ((w a, 1) :: s) → J a s) ∧
  (∀ a s, a < N → g a = 1 → s.length < 190 → J (a + 1) (x :: s) → J a s) ∧
  (∀ a s f, a < N → (g a = 6 ∨ g a = 7 ∨ g a = 8) → s.length < 190 → J (a + 1) (f1 (-g a) f :: s) → J a (f :: s)) ∧
  (∀ a s f e, a < N → ((2 ≤ g a ∧ g a ≤ 5) ∨ g a = 9 ∨ g a = 10) → s.length < 190 → J (a + 1) (f2 (-g a) f e :: s) → J a (e :: f :: s)) ∧
  (∀ a s f e t z, a < N → (g a = 11 ∨ g a = 12 ∨ g a = 13) → s.length < 190 → J (a + 1) (fIf (-g a) f e t z :: s) → J a (z :: t :: e :: f :: s))
def msg (n : Int) (cc : Int → Int → Int × Int) (v : zFr → zFr) (m : Nat) : Prop := ∀ (x : zFr) (g w : Int → Int) (N : Int) (J : Int → List zFr → Prop), fok x → mclo g w N x J → ∀ (b : Int) (s : List zFr), b + n ≤ N → (∀ j, b ≤ j → j < b + n → g j = (cc b j).1 ∧ w j = (cc b j).2) → s.length + m ≤ 200 → J (b + n) (v x :: s) → J b s
theorem csg.mono {n : Int} {cc : Int → Int → Int} {v : zFr → zFr} {m m' : Nat} (h : csg n cc v m) (q : m ≤ m') : csg n cc v m' := fun x g N J hx hc b s h0 h1 hg hs hj => h x g N J hx hc b s h0 h1 hg (by omega) hj
theorem msg.mono {n : Int} {cc : Int → Int → Int × Int} {v : zFr → zFr} {m m' : Nat} (h : msg n cc v m) (q : m ≤ m') : msg n cc v m' := fun x g w N J hx hc b s h1 hg hs hj => h x g w N J hx hc b s h1 hg (by omega) hj
theorem csg_n {z : Int} {m : Nat} (hz : 0 ≤ z ∧ z ≤ 999999) (hm : 1 ≤ m) : csg 1 (sgl z) (fun _ => (z, 1)) m := fun x g N J hx hc b s h0 h1 hg hs hj => by
  have e : g b = z := hg b (by omega) (by omega)
  refine hc.1 b s (by omega) (by omega) (by omega) (by rw [e]; exact fok_int (by omega)) ?_
  rw [e]; exact hj
theorem csg_x {m : Nat} (hm : 1 ≤ m) : csg 1 (sgl (-1)) (fun x => x) m := fun x g N J hx hc b s h0 h1 hg hs hj => by
  have e : g b = -1 := hg b (by omega) (by omega)
  exact hc.2.1 b s (by omega) e (by omega) hj
theorem csg_u {n c : Int} {A : Int → Int → Int} {v : zFr → zFr} {m : Nat} (hn : 0 ≤ n) (h : csg n A v m) (hc0 : c = -6 ∨ c = -7 ∨ c = -8) (hm : 2 ≤ m) : csg (n + 1) (sap n A (sgl c)) (fun x => f1 c (v x)) m := fun x g N J hx hc b s h0 h1 hg hs hj => by
  have e : g (b + n) = c := (hg (b + n) (by omega) (by omega)).trans (sap_r (by omega))
  refine h x g N J hx hc b s h0 (by omega) (fun j a1 a2 => (hg j a1 (by omega)).trans (sap_l a2)) hs ?_
  refine hc.2.2.2.2.2.2.1 (b + n) s (v x) (by omega) (by omega) (by omega) ?_
  rw [e, show b + n + 1 = b + (n + 1) by omega]; exact hj
theorem csg_o {n1 n2 c : Int} {A B : Int → Int → Int} {v w : zFr → zFr} {m1 m2 m : Nat} (hn : 0 ≤ n1 ∧ 0 ≤ n2) (h : csg n1 A v m1) (h' : csg n2 B w m2) (hc0 : (-5 ≤ c ∧ c ≤ -2) ∨ c = -9 ∨ c = -10) (hm : m1 ≤ m ∧ m2 + 1 ≤ m ∧ 3 ≤ m) : csg (n1 + (n2 + 1)) (sap n1 A (sap n2 B (sgl c))) (fun x => f2 c (v x) (w x)) m := fun x g N J hx hc b s h0 h1 hg hs hj => by
  have e : g (b + n1 + n2) = c := (hg (b + n1 + n2) (by omega) (by omega)).trans ((sap_r (by omega)).trans (sap_r (by omega)))
  refine h x g N J hx hc b s h0 (by omega) (fun j a1 a2 => (hg j a1 (by omega)).trans (sap_l a2)) (by omega) ?_
  refine h' x g N J hx hc (b + n1) (v x :: s) (by omega) (by omega) (fun j a1 a2 => (hg j (by omega) (by omega)).trans ((sap_r (by omega)).trans (sap_l (by omega)))) (by rw [List.length_cons]; omega) ?_
  refine hc.2.2.2.2.2.2.2 (b + n1 + n2) s (v x) (w x) (by omega) (by omega) (by omega) ?_
  rw [e, show b + n1 + n2 + 1 = b + (n1 + (n2 + 1)) by omega]; exact hj
theorem csg_i {n1 n2 n3 n4 c : Int} {A B C D : Int → Int → Int} {v w t z : zFr → zFr} {m0 m : Nat} (hn : 0 ≤ n1 ∧ 0 ≤ n2 ∧ 0 ≤ n3 ∧ 0 ≤ n4) (h1 : csg n1 A v m0) (h2 : csg n2 B w m0) (h3 : csg n3 C t m0) (h4 : csg n4 D z m0) (hc0 : c = -11 ∨ c = -12 ∨ c = -13) (hm : m0 + 1 ≤ m ∧ 3 ≤ m) : csg (n1 + (n2 + (3 + (n3 + (2 + n4))))) (sap n1 A (sap n2 B (sap 3 (sIf c n3 n4) (sap n3 C (sap 2 (sJm n4) D))))) (fun x => fIf c (v x) (w x) (t x) (z x)) m := fun x g N J hx hc b s h0 hN hg hs hj => by
  have e0 : ∀ j, b + n1 + n2 ≤ j → j < b + n1 + n2 + 3 → g j = sIf c n3 n4 (b + n1 + n2) j := fun j a1 a2 => (hg j (by omega) (by omega)).trans ((sap_r (by omega)).trans ((sap_r (by omega)).trans (sap_l (by omega))))
  have g0 : g (b + n1 + n2) = c := (e0 _ (by omega) (by omega)).trans (if_pos rfl)
  have g1 : g (b + n1 + n2 + 1) = b + n1 + n2 + 3 + n3 + 2 := (e0 _ (by omega) (by omega)).trans ((if_neg (by omega)).trans (if_pos rfl))
  have g2 : g (b + n1 + n2 + 2) = b + n1 + n2 + 3 + n3 + 2 + n4 := (e0 _ (by omega) (by omega)).trans ((if_neg (by omega)).trans (if_neg (by omega)))
  have e1 : ∀ j, b + n1 + n2 + 3 + n3 ≤ j → j < b + n1 + n2 + 3 + n3 + 2 → g j = sJm n4 (b + n1 + n2 + 3 + n3) j := fun j a1 a2 => (hg j (by omega) (by omega)).trans ((sap_r (by omega)).trans ((sap_r (by omega)).trans ((sap_r (by omega)).trans ((sap_r (by omega)).trans (sap_l (by omega))))))
  have j0 : g (b + n1 + n2 + 3 + n3) = -14 := (e1 _ (by omega) (by omega)).trans (if_pos rfl)
  have j1 : g (b + n1 + n2 + 3 + n3 + 1) = b + n1 + n2 + 3 + n3 + 2 + n4 := (e1 _ (by omega) (by omega)).trans (if_neg (by omega))
  have eN : b + (n1 + (n2 + (3 + (n3 + (2 + n4))))) = b + n1 + n2 + 3 + n3 + 2 + n4 := by omega
  rw [eN] at hj hN
  replace hj : J (b + n1 + n2 + 3 + n3 + 2 + n4) (fIf c (v x) (w x) (t x) (z x) :: s) := hj
  refine h1 x g N J hx hc b s h0 (by omega) (fun j a1 a2 => (hg j a1 (by omega)).trans (sap_l a2)) (by omega) ?_
  refine h2 x g N J hx hc (b + n1) (v x :: s) (by omega) (by omega) (fun j a1 a2 => (hg j (by omega) (by omega)).trans ((sap_r (by omega)).trans (sap_l (by omega)))) (by rw [List.length_cons]; omega) ?_
  by_cases q : (v x).2 = 0 ∨ (w x).2 = 0
  · refine hc.2.2.2.1 (b + n1 + n2) s (v x) (w x) (by omega) (by omega) (by omega) (by omega) q ?_
    rw [g2]
    have e : fIf c (v x) (w x) (t x) (z x) = (0, 0) := if_pos q
    rw [e] at hj; exact hj
  · by_cases q2 : fhd c (v x) (w x)
    · have e : fIf c (v x) (w x) (t x) (z x) = t x := (if_neg q).trans (if_pos q2)
      rw [e] at hj
      refine hc.2.2.2.2.1 (b + n1 + n2) s (v x) (w x) (by omega) (by omega) (by omega) q (by rw [g0]; exact q2) ?_
      refine h3 x g N J hx hc (b + n1 + n2 + 3) s (by omega) (by omega) (fun j a1 a2 => (hg j (by omega) (by omega)).trans ((sap_r (by omega)).trans ((sap_r (by omega)).trans ((sap_r (by omega)).trans (sap_l (by omega)))))) (by omega) ?_
      refine hc.2.2.1 (b + n1 + n2 + 3 + n3) (t x :: s) (by omega) j0 (by omega) ?_
      rw [j1]; exact hj
    · have e : fIf c (v x) (w x) (t x) (z x) = z x := (if_neg q).trans (if_neg q2)
      rw [e] at hj
      refine hc.2.2.2.2.2.1 (b + n1 + n2) s (v x) (w x) (by omega) (by omega) (by omega) (by omega) q (by rw [g0]; exact q2) ?_
      rw [g1]
      exact h4 x g N J hx hc (b + n1 + n2 + 3 + n3 + 2) s (by omega) (by omega) (fun j a1 a2 => (hg j (by omega) (by omega)).trans ((sap_r (by omega)).trans ((sap_r (by omega)).trans ((sap_r (by omega)).trans ((sap_r (by omega)).trans (sap_r (by omega))))))) (by omega) hj
theorem msg_n {z : Int} {m : Nat} (hz : 0 ≤ z ∧ z ≤ 999999) (hm : 12 ≤ m) : msg 1 (sgl (0, z)) (fun _ => (z, 1)) m := fun x g w N J hx hc b s h1 hg hs hj => by
  have e := hg b (by omega) (by omega)
  have e1 : g b = 0 := e.1
  have e2 : w b = z := e.2
  refine hc.1 b s (by omega) e1 (by omega) (by rw [e2]; exact fok_int (by omega)) ?_
  rw [e2]; exact hj
theorem msg_x {m : Nat} (hm : 12 ≤ m) : msg 1 (sgl (1, 0)) (fun x => x) m := fun x g w N J hx hc b s h1 hg hs hj => by
  have e1 : g b = 1 := (hg b (by omega) (by omega)).1
  exact hc.2.1 b s (by omega) e1 (by omega) hj
theorem msg_u {n c : Int} {A : Int → Int → Int × Int} {v : zFr → zFr} {m : Nat} (hn : 0 ≤ n) (h : msg n A v m) (hc0 : c = -6 ∨ c = -7 ∨ c = -8) (hm : 12 ≤ m) : msg (n + 1) (sap n A (sgl (-c, 0))) (fun x => f1 c (v x)) m := fun x g w N J hx hc b s h1 hg hs hj => by
  have e : g (b + n) = -c := by rw [(hg (b + n) (by omega) (by omega)).1, sap_r (by omega)]; rfl
  refine h x g w N J hx hc b s (by omega) (fun j a1 a2 => by have := hg j a1 (by omega); rw [sap_l a2] at this; exact this) hs ?_
  refine hc.2.2.1 (b + n) s (v x) (by omega) (by omega) (by omega) ?_
  rw [e, Int.neg_neg, show b + n + 1 = b + (n + 1) by omega]; exact hj
theorem msg_o {n1 n2 c : Int} {A B : Int → Int → Int × Int} {v u : zFr → zFr} {m1 m2 m : Nat} (hn : 0 ≤ n1 ∧ 0 ≤ n2) (h : msg n1 A v m1) (h' : msg n2 B u m2) (hc0 : (-5 ≤ c ∧ c ≤ -2) ∨ c = -9 ∨ c = -10) (hm : m1 ≤ m ∧ m2 + 1 ≤ m ∧ 12 ≤ m) : msg (n1 + (n2 + 1)) (sap n1 A (sap n2 B (sgl (-c, 0)))) (fun x => f2 c (v x) (u x)) m := fun x g w N J hx hc b s h1 hg hs hj => by
  have e : g (b + n1 + n2) = -c := by rw [(hg (b + n1 + n2) (by omega) (by omega)).1, sap_r (by omega), sap_r (by omega)]; rfl
  refine h x g w N J hx hc b s (by omega) (fun j a1 a2 => by have := hg j a1 (by omega); rw [sap_l a2] at this; exact this) (by omega) ?_
  refine h' x g w N J hx hc (b + n1) (v x :: s) (by omega) (fun j a1 a2 => by have := hg j (by omega) (by omega); rw [sap_r (by omega), sap_l (by omega)] at this; exact this) (by rw [List.length_cons]; omega) ?_
  refine hc.2.2.2.1 (b + n1 + n2) s (v x) (u x) (by omega) (by omega) (by omega) ?_
  rw [e, Int.neg_neg, show b + n1 + n2 + 1 = b + (n1 + (n2 + 1)) by omega]; exact hj
theorem msg_i {n1 n2 n3 n4 c : Int} {A B C D : Int → Int → Int × Int} {v u t z : zFr → zFr} {m0 m : Nat} (hn : 0 ≤ n1 ∧ 0 ≤ n2 ∧ 0 ≤ n3 ∧ 0 ≤ n4) (h1 : msg n1 A v m0) (h2 : msg n2 B u m0) (h3 : msg n3 C t m0) (h4 : msg n4 D z m0) (hc0 : c = -11 ∨ c = -12 ∨ c = -13) (hm : m0 + 3 ≤ m ∧ 12 ≤ m) : msg (n1 + (n2 + (n3 + (n4 + 1)))) (sap n1 A (sap n2 B (sap n3 C (sap n4 D (sgl (-c, 0)))))) (fun x => fIf c (v x) (u x) (t x) (z x)) m := fun x g w N J hx hc b s hN hg hs hj => by
  have e : g (b + n1 + n2 + n3 + n4) = -c := by rw [(hg (b + n1 + n2 + n3 + n4) (by omega) (by omega)).1, sap_r (by omega), sap_r (by omega), sap_r (by omega), sap_r (by omega)]; rfl
  refine h1 x g w N J hx hc b s (by omega) (fun j a1 a2 => by have := hg j a1 (by omega); rw [sap_l a2] at this; exact this) (by omega) ?_
  refine h2 x g w N J hx hc (b + n1) (v x :: s) (by omega) (fun j a1 a2 => by have := hg j (by omega) (by omega); rw [sap_r (by omega), sap_l (by omega)] at this; exact this) (by rw [List.length_cons]; omega) ?_
  refine h3 x g w N J hx hc (b + n1 + n2) (u x :: v x :: s) (by omega) (fun j a1 a2 => by have := hg j (by omega) (by omega); rw [sap_r (by omega), sap_r (by omega), sap_l (by omega)] at this; exact this) (by rw [List.length_cons, List.length_cons]; omega) ?_
  refine h4 x g w N J hx hc (b + n1 + n2 + n3) (t x :: u x :: v x :: s) (by omega) (fun j a1 a2 => by have := hg j (by omega) (by omega); rw [sap_r (by omega), sap_r (by omega), sap_r (by omega), sap_l (by omega)] at this; exact this) (by rw [List.length_cons, List.length_cons, List.length_cons]; omega) ?_
  refine hc.2.2.2.2 (b + n1 + n2 + n3 + n4) s (v x) (u x) (t x) (z x) (by omega) (by omega) (by omega) ?_
  rw [e, Int.neg_neg, show b + n1 + n2 + n3 + n4 + 1 = b + (n1 + (n2 + (n3 + (n4 + 1)))) by omega]; exact hj
/-- all that is known of what comes -/
def gd (L : Int) (m m' : Nat) (p : Int) (r : zPR) : Prop := pG1 L p r ∧ csg r.2.1 r.2.2.1 r.2.2.2.2.2 m ∧ msg r.2.2.2.1 r.2.2.2.2.1 r.2.2.2.2.2 m'
theorem gd.mono {L p : Int} {m m' q q' : Nat} {r : zPR} (h : gd L m m' p r) (h1 : m ≤ q) (h2 : m' ≤ q') : gd L q q' p r := ⟨h.1, h.2.1.mono h1, h.2.2.mono h2⟩
theorem gd_op {L p p1 c : Int} {m m' q q' t t' : Nat} {a r : zPR} (ha : gd L m m' p a) (hr : gd L q q' p1 r) (hp : a.1 < p1) (hc : (-5 ≤ c ∧ c ≤ -2) ∨ c = -9 ∨ c = -10) (hm : m ≤ t ∧ q + 1 ≤ t ∧ 3 ≤ t) (hm' : m' ≤ t' ∧ q' + 1 ≤ t' ∧ 12 ≤ t') : gd L t t' p (pOp c (-c) a r) := by
  obtain ⟨⟨a1, a2, a3⟩, a4, a5⟩ := ha
  obtain ⟨⟨r1, r2, r3⟩, r4, r5⟩ := hr
  refine ⟨⟨?_, ?_, ?_⟩, ?_, ?_⟩
  · show p ≤ r.1 ∧ r.1 ≤ L; omega
  · show 1 ≤ a.2.1 + (r.2.1 + 1) ∧ a.2.1 + (r.2.1 + 1) ≤ r.1 - p; omega
  · show 1 ≤ a.2.2.2.1 + (r.2.2.2.1 + 1) ∧ a.2.2.2.1 + (r.2.2.2.1 + 1) ≤ r.1 - p; omega
  · exact csg_o (by omega) a4 r4 hc hm
  · exact msg_o (by omega) a5 r5 hc hm'
theorem gd_un {L p p1 c : Int} {m m' : Nat} {r : zPR} (hr : gd L m m' p1 r) (hp : p < p1) (hc : c = -6 ∨ c = -7 ∨ c = -8) (hm : 2 ≤ m) (hm' : 12 ≤ m') : gd L m m' p (pUn c (-c) r) := by
  obtain ⟨⟨r1, r2, r3⟩, r4, r5⟩ := hr
  refine ⟨⟨?_, ?_, ?_⟩, ?_, ?_⟩
  · show p ≤ r.1 ∧ r.1 ≤ L; omega
  · show 1 ≤ r.2.1 + 1 ∧ r.2.1 + 1 ≤ r.1 - p; omega
  · show 1 ≤ r.2.2.2.1 + 1 ∧ r.2.2.2.1 + 1 ≤ r.1 - p; omega
  · exact csg_u (by omega) r4 hc hm
  · exact msg_u (by omega) r5 hc hm'
theorem gd_to {L p p1 p2 : Int} {m m' : Nat} {r : zPR} (hr : gd L m m' p1 r) (hp : p ≤ p1) (h2 : r.1 ≤ p2 ∧ p2 ≤ L) : gd L m m' p (pTo p2 r) := by
  obtain ⟨⟨r1, r2, r3⟩, r4, r5⟩ := hr
  refine ⟨⟨?_, ?_, ?_⟩, r4, r5⟩
  · show p ≤ p2 ∧ p2 ≤ L; omega
  · show 1 ≤ r.2.1 ∧ r.2.1 ≤ p2 - p; omega
  · show 1 ≤ r.2.2.2.1 ∧ r.2.2.2.1 ≤ p2 - p; omega
theorem gd_if {L p p1 p2 p3 p4 c : Int} {m m' t t' : Nat} {a b z e : zPR} (ha : gd L m m' p1 a) (hb : gd L m m' p2 b) (hz : gd L m m' p3 z) (he : gd L m m' p4 e) (hp : p < p1) (h2 : a.1 < p2) (h3 : b.1 + 3 ≤ p3) (h4 : z.1 + 3 ≤ p4) (hc : c = -11 ∨ c = -12 ∨ c = -13) (hm : m + 1 ≤ t ∧ 3 ≤ t) (hm' : m' + 3 ≤ t' ∧ 12 ≤ t') : gd L t t' p (pIf c (-c) a b z e) := by
  obtain ⟨⟨a1, a2, a3⟩, a4, a5⟩ := ha
  obtain ⟨⟨b1, b2, b3⟩, b4, b5⟩ := hb
  obtain ⟨⟨z1, z2, z3⟩, z4, z5⟩ := hz
  obtain ⟨⟨e1, e2, e3⟩, e4, e5⟩ := he
  refine ⟨⟨?_, ?_, ?_⟩, ?_, ?_⟩
  · show p ≤ e.1 ∧ e.1 ≤ L; omega
  · show 1 ≤ a.2.1 + (b.2.1 + (3 + (z.2.1 + (2 + e.2.1)))) ∧ a.2.1 + (b.2.1 + (3 + (z.2.1 + (2 + e.2.1)))) ≤ e.1 - p; omega
  · show 1 ≤ a.2.2.2.1 + (b.2.2.2.1 + (z.2.2.2.1 + (e.2.2.2.1 + 1))) ∧ a.2.2.2.1 + (b.2.2.2.1 + (z.2.2.2.1 + (e.2.2.2.1 + 1))) ≤ e.1 - p; omega
  · exact csg_i (by omega) a4 b4 z4 e4 hc hm
  · exact msg_i (by omega) a5 b5 z5 e5 hc hm'

theorem sgI_v {x : Int} (h : 0 ≤ sgI x) : x = 43 ∨ x = 45 ∨ x = 42 ∨ x = 47 ∨ x = 40 ∨ x = 41 ∨ x = 44 ∨ x = 60 ∨ x = 62 ∨ x = 61 := by
  unfold sgI at h
  (repeat' split at h) <;> omega
theorem wix_6 {T : Int → Int} {s e : Int} (h : wix T s e = 6) : isw T 6 s e := by
  unfold wix at h
  by_cases q0 : isw T 0 s e; rw [wit_t q0] at h; omega
  by_cases q1 : isw T 1 s e; rw [wit_f q0, wit_t q1] at h; omega
  by_cases q2 : isw T 2 s e; rw [wit_f q0, wit_f q1, wit_t q2] at h; omega
  by_cases q3 : isw T 3 s e; rw [wit_f q0, wit_f q1, wit_f q2, wit_t q3] at h; omega
  by_cases q4 : isw T 4 s e; rw [wit_f q0, wit_f q1, wit_f q2, wit_f q3, wit_t q4] at h; omega
  by_cases q5 : isw T 5 s e; rw [wit_f q0, wit_f q1, wit_f q2, wit_f q3, wit_f q4, wit_t q5] at h; omega
  by_cases q6 : isw T 6 s e; exact q6
  rw [wit_f q0, wit_f q1, wit_f q2, wit_f q3, wit_f q4, wit_f q5, wit_f q6] at h
  by_cases q7 : isw T 7 s e; rw [wit_t q7] at h; omega
  rw [wit_f q7] at h; omega
theorem wix_7 {T : Int → Int} {s e : Int} (h : wix T s e = 7) : isw T 7 s e := by
  unfold wix at h
  by_cases q0 : isw T 0 s e; rw [wit_t q0] at h; omega
  by_cases q1 : isw T 1 s e; rw [wit_f q0, wit_t q1] at h; omega
  by_cases q2 : isw T 2 s e; rw [wit_f q0, wit_f q1, wit_t q2] at h; omega
  by_cases q3 : isw T 3 s e; rw [wit_f q0, wit_f q1, wit_f q2, wit_t q3] at h; omega
  by_cases q4 : isw T 4 s e; rw [wit_f q0, wit_f q1, wit_f q2, wit_f q3, wit_t q4] at h; omega
  by_cases q5 : isw T 5 s e; rw [wit_f q0, wit_f q1, wit_f q2, wit_f q3, wit_f q4, wit_t q5] at h; omega
  by_cases q6 : isw T 6 s e; rw [wit_f q0, wit_f q1, wit_f q2, wit_f q3, wit_f q4, wit_f q5, wit_t q6] at h; omega
  by_cases q7 : isw T 7 s e; exact q7
  rw [wit_f q0, wit_f q1, wit_f q2, wit_f q3, wit_f q4, wit_f q5, wit_f q6, wit_f q7] at h; omega
theorem kE_4 {T : Int → Int} {L p : Int} (h : p ≤ L) (hk : kK T L p = 9 ∨ kK T L p = 10) : p + 3 ≤ kE T L p := by
  have h1 := kS_b (T := T) h
  by_cases q : L ≤ kS T L p
  · rw [kK_end q] at hk; omega
  · by_cases q1 : 97 ≤ T (kS T L p) ∧ T (kS T L p) ≤ 122
    · rw [kK_w q q1] at hk
      have hb := wix_b (T := T) (s := kS T L p) (e := kE T L p)
      have hw : wix T (kS T L p) (kE T L p) = 6 ∨ wix T (kS T L p) (kE T L p) = 7 := by
        unfold wkd at hk; split at hk <;> omega
      rcases hw with hw | hw
      · have := (wix_6 hw).1
        have e : ((zStrL.getD 6 0 : Nat) : Int) = 4 := rfl
        omega
      · have := (wix_7 hw).1
        have e : ((zStrL.getD 7 0 : Nat) : Int) = 4 := rfl
        omega
    · by_cases q2 : 48 ≤ T (kS T L p) ∧ T (kS T L p) ≤ 57
      · rw [kK_n q q2] at hk; split at hk <;> omega
      · rw [kK_s q q1 q2] at hk
        split at hk
        · rename_i z; have := sgI_v z; omega
        · omega
section zSp3
variable {T : Int → Int} {L : Int}
theorem lpS_gd {k1 k2 c1 c2 m1 m2 p0 : Int} {G : Int → Int ⊕ zPR} {m m' q q' : Nat} (h1 : k1 ≠ 0 ∧ k2 ≠ 0) (hc : (-5 ≤ c1 ∧ c1 ≤ -2) ∧ (-5 ≤ c2 ∧ c2 ≤ -2) ∧ m1 = -c1 ∧ m2 = -c2) (hG : ∀ p r, p ≤ L → G p = .inr r → gd L q q' p r) (hm : q + 1 ≤ m ∧ 3 ≤ m) (hm' : q' + 1 ≤ m' ∧ 12 ≤ m') (f : Nat) (a r : zPR) (ha : gd L m m' p0 a) (e : lpS T L k1 k2 c1 c2 m1 m2 G f a = .inr r) : gd L m m' p0 r := by
  induction f generalizing a with
  | zero => injection e with e; subst e; exact ha
  | succ f ih =>
    unfold lpS at e
    split at e
    · rename_i qk
      split at e
      · cases e
      · rename_i r1 e1
        have hb := kE_b (T := T) (p := a.1) ha.1.1.2
        have hlt := (hb.2 (by omega)).1
        have hr := hG _ _ hb.1.2 e1
        refine ih _ ?_ e
        by_cases z : kK T L a.1 = k1
        · rw [if_pos z, if_pos z, hc.2.2.1]; exact gd_op ha hr hlt (by omega) (by omega) (by omega)
        · rw [if_neg z, if_neg z, hc.2.2.2]; exact gd_op ha hr hlt (by omega) (by omega) (by omega)
    · injection e with e; subst e; exact ha
theorem gT_gd {F : Int → Int ⊕ zPR} {q q' : Nat} (hF : ∀ p r, p ≤ L → F p = .inr r → gd L q q' p r) (h3 : 2 ≤ q ∧ 11 ≤ q') : ∀ p r, p ≤ L → gT T L F p = .inr r → gd L (q + 1) (q' + 1) p r := fun p r hp e => by
  unfold gT at e
  split at e
  · cases e
  · rename_i a ea
    exact lpS_gd (by decide) (by decide) hF (by omega) (by omega) _ _ _ ((hF p a hp ea).mono (by omega) (by omega)) e
theorem gE_gd {F : Int → Int ⊕ zPR} {q q' : Nat} (hF : ∀ p r, p ≤ L → F p = .inr r → gd L q q' p r) (h3 : 2 ≤ q ∧ 11 ≤ q') : ∀ p r, p ≤ L → gE T L F p = .inr r → gd L (q + 2) (q' + 2) p r := fun p r hp e => by
  unfold gE at e
  split at e
  · cases e
  · rename_i a ea
    exact lpS_gd (by decide) (by decide) (gT_gd hF h3) (by omega) (by omega) _ _ _ ((gT_gd hF h3 p a hp ea).mono (by omega) (by omega)) e
theorem gTwo_gd {E : Int → Int ⊕ zPR} {q q' : Nat} {c m p p0 : Int} {r : zPR} (hE : ∀ p r, p ≤ L → E p = .inr r → gd L q q' p r) (hc : c = -9 ∨ c = -10) (hm : m = -c) (hp : p ≤ L) (h0 : p0 < p) (h3 : 2 ≤ q ∧ 11 ≤ q') (e : gTwo T L E c m p = .inr r) : gd L (q + 1) (q' + 1) p0 r := by
  unfold gTwo at e
  split at e; cases e
  rename_i p1 e1
  split at e; cases e
  rename_i a ea
  split at e; cases e
  rename_i p2 e2
  split at e; cases e
  rename_i b eb
  split at e; cases e
  rename_i p3 e3
  injection e with e; subst e
  have g1 := gP_r (by decide) hp e1
  have ga := hE _ _ g1.2.2.2 ea
  have g2 := gP_r (by decide) ga.1.1.2 e2
  have gb := hE _ _ g2.2.2.2 eb
  have g3 := gP_r (by decide) gb.1.1.2 e3
  subst hm
  refine gd_to (gd_op ga gb (by omega) (by omega) (by omega) (by omega)) (by omega) ?_
  show b.1 ≤ p3 ∧ p3 ≤ L; omega
theorem gIf_gd {E : Int → Int ⊕ zPR} {q q' : Nat} {p p0 : Int} {r : zPR} (hE : ∀ p r, p ≤ L → E p = .inr r → gd L q q' p r) (hp : p ≤ L) (h0 : p0 < p) (h3 : 2 ≤ q ∧ 9 ≤ q') (e : gIf T L E p = .inr r) : gd L (q + 1) (q' + 3) p0 r := by
  unfold gIf at e
  split at e; cases e
  rename_i a ea
  have ga := hE _ _ hp ea
  split at e
  · rename_i hk
    have hb := kE_b (T := T) (p := a.1) ga.1.1.2
    have hlt := (hb.2 (by omega)).1
    split at e; cases e
    rename_i b eb
    have gb := hE _ _ hb.1.2 eb
    split at e; cases e
    rename_i p2 e2
    have g2 := gP_r (by decide) gb.1.1.2 e2
    have g24 := kE_4 gb.1.1.2 (Or.inl g2.1)
    split at e; cases e
    rename_i t et
    have gt := hE _ _ g2.2.2.2 et
    split at e; cases e
    rename_i p3 e3
    have g3 := gP_r (by decide) gt.1.1.2 e3
    have g34 := kE_4 gt.1.1.2 (Or.inr g3.1)
    split at e; cases e
    rename_i z ez
    have gz := hE _ _ g3.2.2.2 ez
    injection e with e; subst e
    rcases hk with hk | hk | hk
    · rw [if_pos hk, if_pos hk]
      exact gd_if (c := -11) ga gb gt gz (by omega) hlt (by omega) (by omega) (by decide) (by omega) (by omega)
    · rw [if_neg (by omega), if_pos hk, if_neg (by omega), if_pos hk]
      exact gd_if (c := -12) ga gb gt gz (by omega) hlt (by omega) (by omega) (by decide) (by omega) (by omega)
    · rw [if_neg (by omega), if_neg (by omega), if_neg (by omega), if_neg (by omega)]
      exact gd_if (c := -13) ga gb gt gz (by omega) hlt (by omega) (by omega) (by decide) (by omega) (by omega)
  · cases e
theorem pNu_gd {p : Int} {q q' : Nat} (hp : p ≤ L) (hk : kK T L p = 2) (h3 : 1 ≤ q ∧ 12 ≤ q') : gd L q q' p (pNu T L p) := by
  have hb := kE_b (T := T) hp
  have hlt := (hb.2 (by omega)).1
  have hn : 0 ≤ kN T L p ∧ kN T L p ≤ 999999 := by
    have h1 := kS_b (T := T) hp
    refine ⟨nv_b.1, ?_⟩
    by_cases z : L ≤ kS T L p
    · rw [kK_end z] at hk; omega
    · by_cases q1 : 97 ≤ T (kS T L p) ∧ T (kS T L p) ≤ 122
      · rw [kK_w z q1] at hk
        have hb := wix_b (T := T) (s := kS T L p) (e := kE T L p)
        unfold wkd at hk; split at hk <;> omega
      · by_cases q2 : 48 ≤ T (kS T L p) ∧ T (kS T L p) ≤ 57
        · rw [kK_n z q2] at hk; split at hk <;> omega
        · rw [kK_s z q1 q2] at hk
          split at hk
          · rename_i z2; have := sgI_v z2; omega
          · omega
  refine ⟨⟨?_, ?_, ?_⟩, csg_n hn h3.1, msg_n hn h3.2⟩
  · show p ≤ kE T L p ∧ kE T L p ≤ L; omega
  · show 1 ≤ 1 ∧ 1 ≤ kE T L p - p; omega
  · show 1 ≤ 1 ∧ 1 ≤ kE T L p - p; omega
theorem pXx_gd {p : Int} {q q' : Nat} (hp : p ≤ L) (hk : kK T L p = 3) (h3 : 1 ≤ q ∧ 12 ≤ q') : gd L q q' p (pXx T L p) := by
  have hb := kE_b (T := T) hp
  have hlt := (hb.2 (by omega)).1
  refine ⟨⟨?_, ?_, ?_⟩, csg_x h3.1, msg_x h3.2⟩
  · show p ≤ kE T L p ∧ kE T L p ≤ L; omega
  · show 1 ≤ 1 ∧ 1 ≤ kE T L p - p; omega
  · show 1 ≤ 1 ∧ 1 ≤ kE T L p - p; omega
theorem gUn_gd {F : Int → Int ⊕ zPR} {q q' : Nat} {c m p p0 : Int} {r : zPR} (hF : ∀ p r, p ≤ L → F p = .inr r → gd L q q' p r) (hc : c = -6 ∨ c = -7 ∨ c = -8) (hm : m = -c) (hp : p ≤ L) (h0 : p0 < p) (h3 : 2 ≤ q ∧ 12 ≤ q') (e : gUn F c m p = .inr r) : gd L q q' p0 r := by
  unfold gUn at e
  split at e; cases e
  rename_i a ea
  injection e with e; subst e; subst hm
  exact gd_un (hF _ _ hp ea) h0 hc h3.1 h3.2
theorem gPar_gd {E : Int → Int ⊕ zPR} {q q' : Nat} {p p0 : Int} {r : zPR} (hE : ∀ p r, p ≤ L → E p = .inr r → gd L q q' p r) (hp : p ≤ L) (h0 : p0 < p) (e : gPar T L E p = .inr r) : gd L q q' p0 r := by
  unfold gPar at e
  split at e; cases e
  rename_i a ea
  split at e; cases e
  rename_i p3 e3
  injection e with e; subst e
  have ga := hE _ _ hp ea
  have g3 := gP_r (by decide) ga.1.1.2 e3
  exact gd_to ga (by omega) (by omega)
theorem pF_gd : ∀ (k : Nat) (p : Int) (r : zPR), p ≤ L → pF T L k p = .inr r → gd L (3 * k + 3) (5 * k + 12) p r
  | 0, p, r, hp, e => by
    unfold pF at e
    split at e
    · injection e with e; subst e; exact pNu_gd hp (by assumption) (by omega)
    · split at e
      · injection e with e; subst e; exact pXx_gd hp (by assumption) (by omega)
      · cases e
  | k + 1, p, r, hp, e => by
    have hF : ∀ p r, p ≤ L → pF T L k p = .inr r → gd L (3 * k + 3) (5 * k + 12) p r := pF_gd k
    have hE := gE_gd (T := T) hF (by omega)
    unfold pF at e
    split at e
    · injection e with e; subst e; exact pNu_gd hp (by assumption) (by omega)
    · split at e
      · injection e with e; subst e; exact pXx_gd hp (by assumption) (by omega)
      · split at e
        · rename_i ho
          unfold kOp at ho
          have hb := kE_b (T := T) hp
          have hlt := (hb.2 (by omega)).1
          unfold gOp at e
          split at e
          · exact (gPar_gd hE hb.1.2 hlt e).mono (by omega) (by omega)
          · split at e
            · exact (gUn_gd hF (by decide) (by decide) hb.1.2 hlt (by omega) e).mono (by omega) (by omega)
            · split at e
              · exact (gUn_gd hF (by decide) (by decide) hb.1.2 hlt (by omega) e).mono (by omega) (by omega)
              · split at e
                · exact (gUn_gd hF (by decide) (by decide) hb.1.2 hlt (by omega) e).mono (by omega) (by omega)
                · split at e
                  · exact (gTwo_gd hE (by decide) (by decide) hb.1.2 hlt (by omega) e).mono (by omega) (by omega)
                  · split at e
                    · exact (gTwo_gd hE (by decide) (by decide) hb.1.2 hlt (by omega) e).mono (by omega) (by omega)
                    · exact (gIf_gd hE hb.1.2 hlt (by omega) e).mono (by omega) (by omega)
        · cases e
end zSp3
