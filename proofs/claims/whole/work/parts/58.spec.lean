/-- what comes of a part of the TEXT: behind it, the class' code (how long, at a base), the reference's (likewise), the value -/
abbrev zPR : Type := Int × Int × (Int → Int → Int) × Int × (Int → Int → Int × Int) × (zFr → zFr)
def sap {α : Type} (la : Int) (A B : Int → Int → α) : Int → Int → α := fun b j => if j < b + la then A b j else B (b + la) j
def sgl {α : Type} (x : α) : Int → Int → α := fun _ _ => x
def pOp (c m : Int) (a r : zPR) : zPR := (r.1, a.2.1 + (r.2.1 + 1), sap a.2.1 a.2.2.1 (sap r.2.1 r.2.2.1 (sgl c)), a.2.2.2.1 + (r.2.2.2.1 + 1), sap a.2.2.2.1 a.2.2.2.2.1 (sap r.2.2.2.1 r.2.2.2.2.1 (sgl (m, 0))), fun x => f2 c (a.2.2.2.2.2 x) (r.2.2.2.2.2 x))
def pUn (c m : Int) (r : zPR) : zPR := (r.1, r.2.1 + 1, sap r.2.1 r.2.2.1 (sgl c), r.2.2.2.1 + 1, sap r.2.2.2.1 r.2.2.2.2.1 (sgl (m, 0)), fun x => f1 c (r.2.2.2.2.2 x))
def pTo (p : Int) (r : zPR) : zPR := (p, r.2)
def sIf (c lt le : Int) : Int → Int → Int := fun b j => if j = b then c else if j = b + 1 then b + 3 + lt + 2 else b + 3 + lt + 2 + le
def sJm (le : Int) : Int → Int → Int := fun b j => if j = b then -14 else b + 2 + le
noncomputable def fIf (c : Int) (a b t e : zFr) : zFr := if a.2 = 0 ∨ b.2 = 0 then (0, 0) else @ite zFr (fhd c a b) (Classical.propDecidable _) t e
noncomputable def pIf (c m : Int) (a b t e : zPR) : zPR := (e.1, a.2.1 + (b.2.1 + (3 + (t.2.1 + (2 + e.2.1)))), sap a.2.1 a.2.2.1 (sap b.2.1 b.2.2.1 (sap 3 (sIf c t.2.1 e.2.1) (sap t.2.1 t.2.2.1 (sap 2 (sJm e.2.1) e.2.2.1)))),
  a.2.2.2.1 + (b.2.2.2.1 + (t.2.2.2.1 + (e.2.2.2.1 + 1))), sap a.2.2.2.1 a.2.2.2.2.1 (sap b.2.2.2.1 b.2.2.2.2.1 (sap t.2.2.2.1 t.2.2.2.2.1 (sap e.2.2.2.1 e.2.2.2.2.1 (sgl (m, 0))))),
  fun x => fIf c (a.2.2.2.2.2 x) (b.2.2.2.2.2 x) (t.2.2.2.2.2 x) (e.2.2.2.2.2 x))
section zSpec
variable (T : Int → Int) (L : Int)
noncomputable def lpS (k1 k2 c1 c2 m1 m2 : Int) (G : Int → Int ⊕ zPR) : Nat → zPR → Int ⊕ zPR
  | 0, a => .inr a
  | f + 1, a => if kK T L a.1 = k1 ∨ kK T L a.1 = k2 then
      (match G (kE T L a.1) with
      | .inl e => .inl e
      | .inr r => lpS k1 k2 c1 c2 m1 m2 G f (pOp (if kK T L a.1 = k1 then c1 else c2) (if kK T L a.1 = k1 then m1 else m2) a r))
    else .inr a
noncomputable def gT (F : Int → Int ⊕ zPR) (p : Int) : Int ⊕ zPR := match F p with
  | .inl e => .inl e
  | .inr a => lpS T L 42 47 (-4) (-5) 4 5 F 200 a
noncomputable def gE (F : Int → Int ⊕ zPR) (p : Int) : Int ⊕ zPR := match gT T L F p with
  | .inl e => .inl e
  | .inr a => lpS T L 43 45 (-2) (-3) 2 3 (gT T L F) 200 a
/-- a token that must stand there -/
noncomputable def gP (w p : Int) : Int ⊕ Int := if kK T L p = w then .inr (kE T L p) else .inl (kS T L p)
noncomputable def gTwo (E : Int → Int ⊕ zPR) (c m p : Int) : Int ⊕ zPR := match gP T L 40 p with
  | .inl e => .inl e
  | .inr p1 => match E p1 with
    | .inl e => .inl e
    | .inr a => match gP T L 44 a.1 with
      | .inl e => .inl e
      | .inr p2 => match E p2 with
        | .inl e => .inl e
        | .inr b => match gP T L 41 b.1 with
          | .inl e => .inl e
          | .inr p3 => .inr (pTo p3 (pOp c m a b))
noncomputable def gIf (E : Int → Int ⊕ zPR) (p : Int) : Int ⊕ zPR := match E p with
  | .inl e => .inl e
  | .inr a => if kK T L a.1 = 60 ∨ kK T L a.1 = 62 ∨ kK T L a.1 = 61 then
      (match E (kE T L a.1) with
      | .inl e => .inl e
      | .inr b => match gP T L 9 b.1 with
        | .inl e => .inl e
        | .inr p2 => match E p2 with
          | .inl e => .inl e
          | .inr t => match gP T L 10 t.1 with
            | .inl e => .inl e
            | .inr p3 => match E p3 with
              | .inl e => .inl e
              | .inr z => .inr (pIf (if kK T L a.1 = 60 then -11 else if kK T L a.1 = 62 then -12 else -13) (if kK T L a.1 = 60 then 11 else if kK T L a.1 = 62 then 12 else 13) a b t z))
    else .inl (kS T L a.1)
noncomputable def gPar (E : Int → Int ⊕ zPR) (p : Int) : Int ⊕ zPR := match E p with
  | .inl e => .inl e
  | .inr a => match gP T L 41 a.1 with
    | .inl e => .inl e
    | .inr p3 => .inr (pTo p3 a)
noncomputable def gUn (F : Int → Int ⊕ zPR) (c m p : Int) : Int ⊕ zPR := match F p with
  | .inl e => .inl e
  | .inr a => .inr (pUn c m a)
/-- what an opener opens; p behind it -/
noncomputable def gOp (E F : Int → Int ⊕ zPR) (k p : Int) : Int ⊕ zPR :=
  if k = 40 then gPar T L E p else if k = 45 then gUn F (-6) 6 p else if k = 4 then gUn F (-7) 7 p else if k = 5 then gUn F (-8) 8 p
  else if k = 6 then gTwo T L E (-9) 9 p else if k = 7 then gTwo T L E (-10) 10 p else gIf T L E p
def kOp (k : Int) : Prop := k = 40 ∨ k = 45 ∨ k = 4 ∨ k = 5 ∨ k = 6 ∨ k = 7 ∨ k = 8
noncomputable def pNu (p : Int) : zPR := (kE T L p, 1, sgl (kN T L p), 1, sgl (0, kN T L p), fun _ => (kN T L p, 1))
noncomputable def pXx (p : Int) : zPR := (kE T L p, 1, sgl (-1), 1, sgl (1, 0), fun x => x)
noncomputable def pF : Nat → Int → Int ⊕ zPR
  | 0, p => if kK T L p = 2 then .inr (pNu T L p) else if kK T L p = 3 then .inr (pXx T L p) else .inl (kS T L p)
  | k + 1, p => if kK T L p = 2 then .inr (pNu T L p) else if kK T L p = 3 then .inr (pXx T L p) else
      @ite _ (kOp (kK T L p)) (Classical.propDecidable _) (gOp T L (gE T L (pF k)) (pF k) (kK T L p) (kE T L p)) (.inl (kS T L p))
end zSpec
/-- how long things are -/
def pG1 (L : Int) (p : Int) (r : zPR) : Prop := (p ≤ r.1 ∧ r.1 ≤ L) ∧ (1 ≤ r.2.1 ∧ r.2.1 ≤ r.1 - p) ∧ (1 ≤ r.2.2.2.1 ∧ r.2.2.2.1 ≤ r.1 - p)
section zSp2
variable {T : Int → Int} {L : Int}
theorem kE_b {p : Int} (h : p ≤ L) : (p ≤ kE T L p ∧ kE T L p ≤ L) ∧ (kK T L p ≠ 0 → p < kE T L p ∧ p < L) := by
  have h1 := kS_b (T := T) h
  by_cases q : L ≤ kS T L p
  · rw [kE_end q]; exact ⟨by omega, fun z => absurd (kK_end q) z⟩
  · by_cases q1 : 97 ≤ T (kS T L p) ∧ T (kS T L p) ≤ 122
    · rw [kE_w q q1]
      have e := sc_s (u := 97) (v := 122) (T := T) (L := L) (p := kS T L p) ⟨by omega, q1⟩
      have := sc_bd (u := 97) (v := 122) (T := T) (L := L) (p := kS T L p + 1) (by omega)
      rw [e]; exact ⟨by omega, fun _ => by omega⟩
    · by_cases q2 : 48 ≤ T (kS T L p) ∧ T (kS T L p) ≤ 57
      · rw [kE_n q q2]
        have e := sc_s (u := 48) (v := 57) (T := T) (L := L) (p := kS T L p) ⟨by omega, q2⟩
        have := sc_bd (u := 48) (v := 57) (T := T) (L := L) (p := kS T L p + 1) (by omega)
        rw [e]; exact ⟨by omega, fun _ => by omega⟩
      · rw [kE_s q q1 q2]; exact ⟨by omega, fun _ => by omega⟩
theorem gP_r {w p p1 : Int} (hw : w ≠ 0) (h : p ≤ L) (e : gP T L w p = .inr p1) : kK T L p = w ∧ p1 = kE T L p ∧ p < p1 ∧ p1 ≤ L := by
  unfold gP at e
  split at e
  · rename_i q
    injection e with e; subst e
    have := kE_b (T := T) h
    refine ⟨q, rfl, (this.2 (by rw [q]; exact hw)).1, this.1.2⟩
  · cases e
theorem gP_l {w p e : Int} (h : gP T L w p = .inl e) : kK T L p ≠ w ∧ e = kS T L p := by
  unfold gP at h
  split at h
  · cases h
  · rename_i q; injection h with h; exact ⟨q, h.symm⟩

theorem lpS_ok {P : Int → zPR → Prop} {k1 k2 c1 c2 m1 m2 : Int} {G : Int → Int ⊕ zPR} {p0 : Int} (h1 : k1 ≠ 0 ∧ k2 ≠ 0) (hL : ∀ p r, P p r → p ≤ r.1 ∧ r.1 ≤ L) (hG : ∀ p r, p ≤ L → G p = .inr r → P p r)
    (hop : ∀ a r b, P p0 a → (kK T L a.1 = k1 ∨ kK T L a.1 = k2) → P (kE T L a.1) r → (b = kK T L a.1) → P p0 (pOp (if b = k1 then c1 else c2) (if b = k1 then m1 else m2) a r)) : ∀ (f : Nat) (a r : zPR), P p0 a → lpS T L k1 k2 c1 c2 m1 m2 G f a = .inr r → P p0 r
  | 0, a, r, ha, e => by injection e with e; subst e; exact ha
  | f + 1, a, r, ha, e => by
    unfold lpS at e
    split at e
    · rename_i q
      split at e
      · cases e
      · rename_i r1 e1
        exact lpS_ok h1 hL hG hop f _ r (hop a r1 _ ha q (hG _ _ (kE_b (hL _ _ ha).2).1.2 e1) rfl) e
    · injection e with e; subst e; exact ha
end zSp2
