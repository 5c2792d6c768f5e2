def ext (cf : Int → Int × Int) (m : Int) (x : Int × Int) : Int → Int × Int := fun j => if j < m then cf j else x
def cfx (cf : Int → Int × Int) (m : Int) (M : Int → Int → Int × Int) : Int → Int × Int := fun j => if j < m then cf j else M m j
abbrev okm (L p : Int) (w : List Int) (m : Int) : Prop := (0 ≤ p ∧ p ≤ L) ∧ w.length ≤ 690 ∧ (0 ≤ m ∧ m ≤ 200)
def mPi (k : Int) : List Int := if k = 40 then [1, 141] else if k = 45 then [5, 1006] else if k = 4 then [5, 1007] else if k = 5 then [5, 1008] else if k = 6 then [140, 1, 144, 1, 141, 1009] else if k = 7 then [140, 1, 144, 1, 141, 1010] else [1, 7]
/-- how the reference reads, backwards -/
def mcl (T : Int → Int) (L : Int) (Fl : Int → Prop) (J : Int → List Int → Int → Int → (Int → Int × Int) → Prop) : Prop :=
  (∀ p w d m cf cg, (∀ j, 0 ≤ j → j < m → cf j = cg j) → J p w d m cf → J p w d m cg) ∧
  (∀ p w d m cf, okm L p w m → J p (3 :: 2 :: w) d m cf → J p (1 :: w) d m cf) ∧
  (∀ p w d m cf, okm L p w m → J p (5 :: 4 :: w) d m cf → J p (3 :: w) d m cf) ∧
  (∀ p w d m cf, okm L p w m → (kK T L p = 43 → J (kE T L p) (3 :: 1002 :: 2 :: w) d m cf) → (kK T L p = 45 → J (kE T L p) (3 :: 1003 :: 2 :: w) d m cf) → (kK T L p ≠ 43 ∧ kK T L p ≠ 45 → J p w d m cf) → J p (2 :: w) d m cf) ∧
  (∀ p w d m cf, okm L p w m → (kK T L p = 42 → J (kE T L p) (5 :: 1004 :: 4 :: w) d m cf) → (kK T L p = 47 → J (kE T L p) (5 :: 1005 :: 4 :: w) d m cf) → (kK T L p ≠ 42 ∧ kK T L p ≠ 47 → J p w d m cf) → J p (4 :: w) d m cf) ∧
  (∀ p w d m cf, okm L p w m → m < 200 → kK T L p = 2 → J (kE T L p) w d (m + 1) (ext cf m (0, kN T L p)) → J p (5 :: w) d m cf) ∧
  (∀ p w d m cf, okm L p w m → m < 200 → kK T L p = 3 → J (kE T L p) w d (m + 1) (ext cf m (1, 0)) → J p (5 :: w) d m cf) ∧
  (∀ p w d m cf, okm L p w m → kOp (kK T L p) → (0 ≤ d ∧ d < 10) → J (kE T L p) (mPi (kK T L p) ++ 6 :: w) (d + 1) m cf → J p (5 :: w) d m cf) ∧
  (∀ p w d m cf, okm L p w m → kK T L p ≠ 2 → kK T L p ≠ 3 → (¬ kOp (kK T L p) ∨ d = 10) → Fl (kS T L p) → J p (5 :: w) d m cf) ∧
  (∀ p w d m cf, okm L p w m → (0 ≤ d ∧ d ≤ 10) → J p w (d - 1) m cf → J p (6 :: w) d m cf) ∧
  (∀ p w d m cf x, okm L p w m → ((kK T L p = 60 ∧ x = 1011) ∨ (kK T L p = 62 ∧ x = 1012) ∨ (kK T L p = 61 ∧ x = 1013)) → J (kE T L p) (1 :: 306 :: 1 :: 307 :: 1 :: x :: w) d m cf → J p (7 :: w) d m cf) ∧
  (∀ p w d m cf, okm L p w m → kK T L p ≠ 60 ∧ kK T L p ≠ 62 ∧ kK T L p ≠ 61 → Fl (kS T L p) → J p (7 :: w) d m cf) ∧
  (∀ p w d m cf x c, okm L p w m → ((x = 140 ∧ c = 40) ∨ (x = 141 ∧ c = 41) ∨ (x = 144 ∧ c = 44) ∨ (x = 306 ∧ c = 9) ∨ (x = 307 ∧ c = 10)) → (kK T L p = c → J (kE T L p) w d m cf) → (kK T L p ≠ c → Fl (kS T L p)) → J p (x :: w) d m cf) ∧
  (∀ p w d m cf x q, okm L p w m → m < 200 → x = 1000 + q → (2 ≤ q ∧ q ≤ 13) → J p w d (m + 1) (ext cf m (q, 0)) → J p (x :: w) d m cf) ∧
  (∀ p w d m cf, okm L p w m → (kK T L p = 0 → J p w d m cf) → (kK T L p ≠ 0 → Fl (kS T L p)) → J p (0 :: w) d m cf)
section zMp
variable {T : Int → Int} {L : Int} {Fl : Int → Prop} {J : Int → List Int → Int → Int → (Int → Int × Int) → Prop}
def mPs (L : Int) (Fl : Int → Prop) (J : Int → List Int → Int → Int → (Int → Int × Int) → Prop) (G : Int → Int ⊕ zPR) (s : Int) (B : Nat) (d : Int) : Prop := ∀ p w m cf, 0 ≤ p → p ≤ L → w.length + B ≤ 690 → 0 ≤ m → m ≤ p →
  (∀ e, G p = .inl e → Fl e → J p (s :: w) d m cf) ∧ ∀ r, G p = .inr r → J r.1 w d (m + r.2.2.2.1) (cfx cf m r.2.2.2.2.1) → J p (s :: w) d m cf
theorem m_lp {G : Int → Int ⊕ zPR} {s2 sp k1 k2 c1 c2 m1 m2 d : Int} {B : Nat} (hL : L ≤ 200) (hc : mcl T L Fl J) (hk : k1 ≠ 0 ∧ k2 ≠ 0 ∧ k1 ≠ k2) (hmm : (2 ≤ m1 ∧ m1 ≤ 13) ∧ (2 ≤ m2 ∧ m2 ≤ 13))
    (hr : ∀ p w d m cf, okm L p w m → (kK T L p = k1 → J (kE T L p) (sp :: (1000 + m1) :: s2 :: w) d m cf) → (kK T L p = k2 → J (kE T L p) (sp :: (1000 + m2) :: s2 :: w) d m cf) → (kK T L p ≠ k1 ∧ kK T L p ≠ k2 → J p w d m cf) → J p (s2 :: w) d m cf)
    (hG : mPs L Fl J G sp B d) (hGg : ∀ p r, p ≤ L → G p = .inr r → pG1 L p r) : ∀ (f : Nat) (a : zPR) (w : List Int) (m0 : Int) (cf : Int → Int × Int), w.length + (B + 2) ≤ 690 → 0 ≤ m0 → (0 ≤ a.2.2.2.1 ∧ m0 + a.2.2.2.1 ≤ a.1 ∧ a.1 ≤ L) → 200 ≤ a.1 + f →
      (∀ e, lpS T L k1 k2 c1 c2 m1 m2 G f a = .inl e → Fl e → J a.1 (s2 :: w) d (m0 + a.2.2.2.1) (cfx cf m0 a.2.2.2.2.1)) ∧ ∀ r, lpS T L k1 k2 c1 c2 m1 m2 G f a = .inr r → J r.1 w d (m0 + r.2.2.2.1) (cfx cf m0 r.2.2.2.2.1) → J a.1 (s2 :: w) d (m0 + a.2.2.2.1) (cfx cf m0 a.2.2.2.2.1)
  | 0, a, w, m0, cf, hw, h0, ha, hf => by
    have e0 : kK T L a.1 = 0 := kK_end (by have := (kS_b (T := T) (L := L) (p := a.1) ha.2.2).1; omega)
    refine ⟨fun e h => (by cases h), fun r h hj => ?_⟩
    injection h with h; subst h
    exact hr _ _ _ _ _ ⟨by omega, by omega, by omega⟩ (fun q => by omega) (fun q => by omega) (fun _ => hj)
  | f + 1, a, w, m0, cf, hw, h0, ha, hf => by
    have hb := kE_b (T := T) (p := a.1) ha.2.2
    have step : ∀ (mo co : Int), (2 ≤ mo ∧ mo ≤ 13) → kK T L a.1 ≠ 0 → (∀ e, (match G (kE T L a.1) with | .inl e => Sum.inl e | .inr r => lpS T L k1 k2 c1 c2 m1 m2 G f (pOp co mo a r)) = .inl e → Fl e → J (kE T L a.1) (sp :: (1000 + mo) :: s2 :: w) d (m0 + a.2.2.2.1) (cfx cf m0 a.2.2.2.2.1)) ∧ ∀ r, (match G (kE T L a.1) with | .inl e => Sum.inl e | .inr r => lpS T L k1 k2 c1 c2 m1 m2 G f (pOp co mo a r)) = .inr r → J r.1 w d (m0 + r.2.2.2.1) (cfx cf m0 r.2.2.2.2.1) → J (kE T L a.1) (sp :: (1000 + mo) :: s2 :: w) d (m0 + a.2.2.2.1) (cfx cf m0 a.2.2.2.2.1) := by
      intro mo co hmo hne
      have hlt := (hb.2 hne).1
      have hp := hG (kE T L a.1) ((1000 + mo) :: s2 :: w) (m0 + a.2.2.2.1) (cfx cf m0 a.2.2.2.2.1) (by omega) (by omega) (by rw [List.length_cons, List.length_cons]; omega) (by omega) (by omega)
      cases eg : G (kE T L a.1) with
      | inl e1 =>
        refine ⟨fun e h hfl => ?_, fun r h => by cases h⟩
        injection h with h; subst h
        exact hp.1 _ eg hfl
      | inr r1 =>
        have hg := hGg _ _ hb.1.2 eg
        obtain ⟨g1, g2, g3⟩ := hg
        have ih := m_lp (c1 := c1) (c2 := c2) hL hc hk hmm hr hG hGg f (pOp co mo a r1) w m0 cf hw h0 (by show 0 ≤ a.2.2.2.1 + (r1.2.2.2.1 + 1) ∧ m0 + (a.2.2.2.1 + (r1.2.2.2.1 + 1)) ≤ r1.1 ∧ r1.1 ≤ L; omega) (by show 200 ≤ r1.1 + f; omega)
        have glue : J r1.1 (s2 :: w) d (m0 + (a.2.2.2.1 + (r1.2.2.2.1 + 1))) (cfx cf m0 (pOp co mo a r1).2.2.2.2.1) → J (kE T L a.1) (sp :: (1000 + mo) :: s2 :: w) d (m0 + a.2.2.2.1) (cfx cf m0 a.2.2.2.2.1) := fun hj => by
          refine hp.2 r1 eg ?_
          refine hc.2.2.2.2.2.2.2.2.2.2.2.2.2.1 _ _ _ _ _ _ mo ⟨by omega, by rw [List.length_cons]; omega, by omega⟩ (by omega) rfl hmo ?_
          rw [show m0 + a.2.2.2.1 + r1.2.2.2.1 + 1 = m0 + (a.2.2.2.1 + (r1.2.2.2.1 + 1)) by omega]
          refine hc.1 _ _ _ _ _ _ (fun j q1 q2 => ?_) hj
          show (if j < m0 then cf j else sap a.2.2.2.1 a.2.2.2.2.1 (sap r1.2.2.2.1 r1.2.2.2.2.1 (sgl (mo, 0))) m0 j) = (if j < m0 + a.2.2.2.1 + r1.2.2.2.1 then (if j < m0 + a.2.2.2.1 then (if j < m0 then cf j else a.2.2.2.2.1 m0 j) else r1.2.2.2.2.1 (m0 + a.2.2.2.1) j) else (mo, 0))
          by_cases z0 : j < m0
          · rw [if_pos z0, if_pos (by omega), if_pos (by omega)]; rw [if_pos z0]
          · rw [if_neg z0]
            by_cases z1 : j < m0 + a.2.2.2.1
            · rw [sap_l z1, if_pos (by omega), if_pos z1]; rw [if_neg z0]
            · rw [sap_r (by omega)]
              by_cases z2 : j < m0 + a.2.2.2.1 + r1.2.2.2.1
              · rw [sap_l z2, if_pos z2, if_neg z1]
              · rw [sap_r (by omega), if_neg z2]; rfl
        exact ⟨fun e h hfl => glue (ih.1 e h hfl), fun r h hj => glue (ih.2 r h hj)⟩
    by_cases q1 : kK T L a.1 = k1
    · have e1 : lpS T L k1 k2 c1 c2 m1 m2 G (f + 1) a = (match G (kE T L a.1) with | .inl e => Sum.inl e | .inr r => lpS T L k1 k2 c1 c2 m1 m2 G f (pOp c1 m1 a r)) := by
        rw [lpS, if_pos (Or.inl q1), if_pos q1, if_pos q1]
        cases G (kE T L a.1) <;> rfl
      have s1 := step m1 c1 hmm.1 (by omega)
      refine ⟨fun e h hfl => ?_, fun r h hj => ?_⟩
      · rw [e1] at h
        exact hr _ _ _ _ _ ⟨by omega, by omega, by omega⟩ (fun _ => s1.1 e h hfl) (fun q => by omega) (fun q => absurd q1 q.1)
      · rw [e1] at h
        exact hr _ _ _ _ _ ⟨by omega, by omega, by omega⟩ (fun _ => s1.2 r h hj) (fun q => by omega) (fun q => absurd q1 q.1)
    · by_cases q2 : kK T L a.1 = k2
      · have e1 : lpS T L k1 k2 c1 c2 m1 m2 G (f + 1) a = (match G (kE T L a.1) with | .inl e => Sum.inl e | .inr r => lpS T L k1 k2 c1 c2 m1 m2 G f (pOp c2 m2 a r)) := by
          rw [lpS, if_pos (Or.inr q2), if_neg q1, if_neg q1]
          cases G (kE T L a.1) <;> rfl
        have s1 := step m2 c2 hmm.2 (by omega)
        refine ⟨fun e h hfl => ?_, fun r h hj => ?_⟩
        · rw [e1] at h
          exact hr _ _ _ _ _ ⟨by omega, by omega, by omega⟩ (fun q => absurd q q1) (fun _ => s1.1 e h hfl) (fun q => absurd q2 q.2)
        · rw [e1] at h
          exact hr _ _ _ _ _ ⟨by omega, by omega, by omega⟩ (fun q => absurd q q1) (fun _ => s1.2 r h hj) (fun q => absurd q2 q.2)
      · have e1 : lpS T L k1 k2 c1 c2 m1 m2 G (f + 1) a = .inr a := by rw [lpS, if_neg (by omega)]
        refine ⟨fun e h => (by rw [e1] at h; cases h), fun r h hj => ?_⟩
        rw [e1] at h; injection h with h; subst h
        exact hr _ _ _ _ _ ⟨by omega, by omega, by omega⟩ (fun q => absurd q q1) (fun q => absurd q q2) (fun _ => hj)
theorem m_gT {F : Int → Int ⊕ zPR} {B : Nat} {d : Int} (hL : L ≤ 200) (hc : mcl T L Fl J) (hF : mPs L Fl J F 5 B d) (hFg : ∀ p r, p ≤ L → F p = .inr r → pG1 L p r) : mPs L Fl J (gT T L F) 3 (B + 3) d := fun p w m cf hp hpL hw h0 hmp => by
  have h1 := hF p (4 :: w) m cf hp hpL (by rw [List.length_cons]; omega) h0 hmp
  have hE : J p (5 :: 4 :: w) d m cf → J p (3 :: w) d m cf := hc.2.2.1 p w d m cf ⟨by omega, by omega, by omega⟩
  unfold gT
  cases e : F p with
  | inl x =>
    refine ⟨fun y h hfl => ?_, fun r h => by cases h⟩
    injection h with h; subst h
    exact hE (h1.1 _ e hfl)
  | inr a =>
    obtain ⟨g1, g2, g3⟩ := hFg p a hpL e
    have h2 := m_lp (k1 := 42) (k2 := 47) (m1 := 4) (m2 := 5) (s2 := 4) (sp := 5) hL hc (by decide) (by decide) hc.2.2.2.2.1 hF hFg (c1 := -4) (c2 := -5) 200 a w m cf (by omega) h0 ⟨by omega, by omega, by omega⟩ (by omega)
    exact ⟨fun y h hfl => hE (h1.2 a e (h2.1 y h hfl)), fun r h hj => hE (h1.2 a e (h2.2 r h hj))⟩
theorem m_gE {F : Int → Int ⊕ zPR} {B : Nat} {d : Int} (hL : L ≤ 200) (hc : mcl T L Fl J) (hF : mPs L Fl J (gT T L F) 3 B d) (hFg : ∀ p r, p ≤ L → gT T L F p = .inr r → pG1 L p r) : mPs L Fl J (gE T L F) 1 (B + 3) d := fun p w m cf hp hpL hw h0 hmp => by
  have h1 := hF p (2 :: w) m cf hp hpL (by rw [List.length_cons]; omega) h0 hmp
  have hE : J p (3 :: 2 :: w) d m cf → J p (1 :: w) d m cf := hc.2.1 p w d m cf ⟨by omega, by omega, by omega⟩
  unfold gE
  cases e : gT T L F p with
  | inl x =>
    refine ⟨fun y h hfl => ?_, fun r h => by cases h⟩
    injection h with h; subst h
    exact hE (h1.1 _ e hfl)
  | inr a =>
    obtain ⟨g1, g2, g3⟩ := hFg p a hpL e
    have h2 := m_lp (k1 := 43) (k2 := 45) (m1 := 2) (m2 := 3) (s2 := 2) (sp := 3) hL hc (by decide) (by decide) hc.2.2.2.1 hF hFg (c1 := -2) (c2 := -3) 200 a w m cf (by omega) h0 ⟨by omega, by omega, by omega⟩ (by omega)
    exact ⟨fun y h hfl => hE (h1.2 a e (h2.1 y h hfl)), fun r h hj => hE (h1.2 a e (h2.2 r h hj))⟩

theorem m_par {E : Int → Int ⊕ zPR} {B : Nat} {d p m : Int} {w : List Int} {cf : Int → Int × Int} (hL : L ≤ 200) (hc : mcl T L Fl J) (hE : mPs L Fl J E 1 B (d + 1)) (hEg : ∀ p r, p ≤ L → E p = .inr r → pG1 L p r) (hp : 0 ≤ p ∧ p ≤ L) (hw : w.length + (B + 8) ≤ 690) (hm : 0 ≤ m ∧ m ≤ p) (hd : 0 ≤ d ∧ d < 10) : (∀ e, gPar T L E p = .inl e → Fl e → J p (1 :: 141 :: 6 :: w) (d + 1) m cf) ∧ ∀ r, gPar T L E p = .inr r → J r.1 w d (m + r.2.2.2.1) (cfx cf m r.2.2.2.2.1) → J p (1 :: 141 :: 6 :: w) (d + 1) m cf := by
  have h1 := hE p (141 :: 6 :: w) m cf hp.1 hp.2 (by rw [List.length_cons, List.length_cons]; omega) hm.1 hm.2
  unfold gPar
  cases e : E p with
  | inl x =>
    refine ⟨fun y h hfl => ?_, fun r h => by cases h⟩
    injection h with h; subst h
    exact h1.1 _ e hfl
  | inr a =>
    obtain ⟨g1, g2, g3⟩ := hEg p a hp.2 e
    have hb := kE_b (T := T) (p := a.1) g1.2
    have go : (kK T L a.1 = 41 → J (kE T L a.1) (6 :: w) (d + 1) (m + a.2.2.2.1) (cfx cf m a.2.2.2.2.1)) → (kK T L a.1 ≠ 41 → Fl (kS T L a.1)) → J p (1 :: 141 :: 6 :: w) (d + 1) m cf := fun k1 k2 =>
      h1.2 a e (hc.2.2.2.2.2.2.2.2.2.2.2.2.1 _ _ _ _ _ 141 41 ⟨by omega, by rw [List.length_cons]; omega, by omega⟩ (by omega) k1 k2)
    simp only []
    by_cases q : kK T L a.1 = 41
    · rw [show gP T L 41 a.1 = .inr (kE T L a.1) from if_pos q]
      refine ⟨fun y h => (by cases h), fun r h hj => ?_⟩
      injection h with h; subst h
      refine go (fun _ => ?_) (fun z => absurd q z)
      refine hc.2.2.2.2.2.2.2.2.2.1 _ _ _ _ _ ⟨by omega, by omega, by omega⟩ (by omega) ?_
      rw [show d + 1 - 1 = d by omega]; exact hj
    · rw [show gP T L 41 a.1 = .inl (kS T L a.1) from if_neg q]
      refine ⟨fun y h hfl => ?_, fun r h => by cases h⟩
      injection h with h; subst h
      exact go (fun z => absurd z q) (fun _ => hfl)
theorem m_un {F : Int → Int ⊕ zPR} {B : Nat} {d p m c mo : Int} {w : List Int} {cf : Int → Int × Int} (hL : L ≤ 200) (hc : mcl T L Fl J) (hF : mPs L Fl J F 5 B (d + 1)) (hFg : ∀ p r, p ≤ L → F p = .inr r → pG1 L p r) (hp : 0 ≤ p ∧ p ≤ L) (hw : w.length + (B + 8) ≤ 690) (hm : 0 ≤ m ∧ m < p) (hd : 0 ≤ d ∧ d < 10) (hmo : 2 ≤ mo ∧ mo ≤ 13) {x : Int} (hx : x = 1000 + mo) : (∀ e, gUn F c mo p = .inl e → Fl e → J p (5 :: x :: 6 :: w) (d + 1) m cf) ∧ ∀ r, gUn F c mo p = .inr r → J r.1 w d (m + r.2.2.2.1) (cfx cf m r.2.2.2.2.1) → J p (5 :: x :: 6 :: w) (d + 1) m cf := by
  have h1 := hF p (x :: 6 :: w) m cf hp.1 hp.2 (by rw [List.length_cons, List.length_cons]; omega) hm.1 (by omega)
  unfold gUn
  cases e : F p with
  | inl z =>
    refine ⟨fun y h hfl => ?_, fun r h => by cases h⟩
    injection h with h; subst h
    exact h1.1 _ e hfl
  | inr a =>
    obtain ⟨g1, g2, g3⟩ := hFg p a hp.2 e
    refine ⟨fun y h => (by cases h), fun r h hj => ?_⟩
    injection h with h; subst h
    refine h1.2 a e (hc.2.2.2.2.2.2.2.2.2.2.2.2.2.1 _ _ _ _ _ x mo ⟨by omega, by rw [List.length_cons]; omega, by omega⟩ (by omega) hx hmo ?_)
    refine hc.2.2.2.2.2.2.2.2.2.1 _ _ _ _ _ ⟨by omega, by omega, by omega⟩ (by omega) ?_
    rw [show d + 1 - 1 = d by omega, show m + a.2.2.2.1 + 1 = m + (a.2.2.2.1 + 1) by omega]
    refine hc.1 _ _ _ _ _ _ (fun j q1 q2 => ?_) hj
    show (if j < m then cf j else sap a.2.2.2.1 a.2.2.2.2.1 (sgl (mo, 0)) m j) = (if j < m + a.2.2.2.1 then (if j < m then cf j else a.2.2.2.2.1 m j) else (mo, 0))
    by_cases z0 : j < m
    · rw [if_pos z0, if_pos (by omega)]; rw [if_pos z0]
    · rw [if_neg z0]
      by_cases z1 : j < m + a.2.2.2.1
      · rw [sap_l z1, if_pos z1]; rw [if_neg z0]
      · rw [sap_r (by omega), if_neg z1]; rfl
end zMp
