section zMp2
variable {T : Int → Int} {L : Int} {Fl : Int → Prop} {J : Int → List Int → Int → Int → (Int → Int × Int) → Prop}
theorem m_tok {p d m x c : Int} {w : List Int} {cf : Int → Int × Int} (hc : mcl T L Fl J) (hok : okm L p w m) (hx : (x = 140 ∧ c = 40) ∨ (x = 141 ∧ c = 41) ∨ (x = 144 ∧ c = 44) ∨ (x = 306 ∧ c = 9) ∨ (x = 307 ∧ c = 10)) : (∀ e, gP T L c p = .inl e → Fl e → J p (x :: w) d m cf) ∧ ∀ p1, gP T L c p = .inr p1 → J p1 w d m cf → J p (x :: w) d m cf := by
  have go := hc.2.2.2.2.2.2.2.2.2.2.2.2.1 p w d m cf x c hok hx
  by_cases q : kK T L p = c
  · rw [show gP T L c p = .inr (kE T L p) from if_pos q]
    refine ⟨fun y h => (by cases h), fun r h hj => ?_⟩
    injection h with h; subst h
    exact go (fun _ => hj) (fun z => absurd q z)
  · rw [show gP T L c p = .inl (kS T L p) from if_neg q]
    refine ⟨fun y h hfl => ?_, fun r h => by cases h⟩
    injection h with h; subst h
    exact go (fun z => absurd z q) (fun _ => hfl)
theorem m_two {E : Int → Int ⊕ zPR} {B : Nat} {d p m c mo x : Int} {w : List Int} {cf : Int → Int × Int} (hL : L ≤ 200) (hc : mcl T L Fl J) (hE : mPs L Fl J E 1 B (d + 1)) (hEg : ∀ p r, p ≤ L → E p = .inr r → pG1 L p r) (hp : 0 ≤ p ∧ p ≤ L) (hw : w.length + (B + 8) ≤ 690) (hm : 0 ≤ m ∧ m < p) (hd : 0 ≤ d ∧ d < 10) (hmo : 2 ≤ mo ∧ mo ≤ 13) (hx : x = 1000 + mo) : (∀ e, gTwo T L E c mo p = .inl e → Fl e → J p (140 :: 1 :: 144 :: 1 :: 141 :: x :: 6 :: w) (d + 1) m cf) ∧ ∀ r, gTwo T L E c mo p = .inr r → J r.1 w d (m + r.2.2.2.1) (cfx cf m r.2.2.2.2.1) → J p (140 :: 1 :: 144 :: 1 :: 141 :: x :: 6 :: w) (d + 1) m cf := by
  have t1 := m_tok (x := 140) (c := 40) (d := d + 1) (w := 1 :: 144 :: 1 :: 141 :: x :: 6 :: w) (cf := cf) hc (p := p) (m := m) ⟨by omega, by simp only [List.length_cons]; omega, by omega⟩ (by omega)
  unfold gTwo
  cases e1 : gP T L 40 p with
  | inl z =>
    refine ⟨fun y h hfl => ?_, fun r h => by cases h⟩
    injection h with h; subst h
    exact t1.1 _ e1 hfl
  | inr p1 =>
    have g1 := gP_r (by decide) hp.2 e1
    have h1 := hE p1 (144 :: 1 :: 141 :: x :: 6 :: w) m cf (by omega) (by omega) (by simp only [List.length_cons]; omega) hm.1 (by omega)
    simp only []
    cases ea : E p1 with
    | inl z =>
      refine ⟨fun y h hfl => ?_, fun r h => by cases h⟩
      injection h with h; subst h
      exact t1.2 _ e1 (h1.1 _ ea hfl)
    | inr a =>
      obtain ⟨a1, a2, a3⟩ := hEg p1 a (by omega) ea
      have t2 := m_tok (x := 144) (c := 44) (d := d + 1) (w := 1 :: 141 :: x :: 6 :: w) (cf := cfx cf m a.2.2.2.2.1) hc (p := a.1) (m := m + a.2.2.2.1) ⟨by omega, by simp only [List.length_cons]; omega, by omega⟩ (by omega)
      simp only []
      cases e2 : gP T L 44 a.1 with
      | inl z =>
        refine ⟨fun y h hfl => ?_, fun r h => by cases h⟩
        injection h with h; subst h
        exact t1.2 _ e1 (h1.2 a ea (t2.1 _ e2 hfl))
      | inr p2 =>
        have g2 := gP_r (by decide) a1.2 e2
        have h2 := hE p2 (141 :: x :: 6 :: w) (m + a.2.2.2.1) (cfx cf m a.2.2.2.2.1) (by omega) (by omega) (by simp only [List.length_cons]; omega) (by omega) (by omega)
        simp only []
        cases eb : E p2 with
        | inl z =>
          refine ⟨fun y h hfl => ?_, fun r h => by cases h⟩
          injection h with h; subst h
          exact t1.2 _ e1 (h1.2 a ea (t2.2 _ e2 (h2.1 _ eb hfl)))
        | inr b =>
          obtain ⟨b1, b2, b3⟩ := hEg p2 b (by omega) eb
          have t3 := m_tok (x := 141) (c := 41) (d := d + 1) (w := x :: 6 :: w) (cf := cfx (cfx cf m a.2.2.2.2.1) (m + a.2.2.2.1) b.2.2.2.2.1) hc (p := b.1) (m := m + a.2.2.2.1 + b.2.2.2.1) ⟨by omega, by simp only [List.length_cons]; omega, by omega⟩ (by omega)
          simp only []
          cases e3 : gP T L 41 b.1 with
          | inl z =>
            refine ⟨fun y h hfl => ?_, fun r h => by cases h⟩
            injection h with h; subst h
            exact t1.2 _ e1 (h1.2 a ea (t2.2 _ e2 (h2.2 b eb (t3.1 _ e3 hfl))))
          | inr p3 =>
            have g3 := gP_r (by decide) b1.2 e3
            refine ⟨fun y h => (by cases h), fun r h hj => ?_⟩
            injection h with h; subst h
            refine t1.2 _ e1 (h1.2 a ea (t2.2 _ e2 (h2.2 b eb (t3.2 _ e3 ?_))))
            refine hc.2.2.2.2.2.2.2.2.2.2.2.2.2.1 _ _ _ _ _ x mo ⟨by omega, by simp only [List.length_cons]; omega, by omega⟩ (by omega) hx hmo ?_
            refine hc.2.2.2.2.2.2.2.2.2.1 _ _ _ _ _ ⟨by omega, by omega, by omega⟩ (by omega) ?_
            rw [show d + 1 - 1 = d by omega, show m + a.2.2.2.1 + b.2.2.2.1 + 1 = m + (a.2.2.2.1 + (b.2.2.2.1 + 1)) by omega]
            refine hc.1 _ _ _ _ _ _ (fun j q1 q2 => ?_) hj
            show (if j < m then cf j else sap a.2.2.2.1 a.2.2.2.2.1 (sap b.2.2.2.1 b.2.2.2.2.1 (sgl (mo, 0))) m j) = (if j < m + a.2.2.2.1 + b.2.2.2.1 then (if j < m + a.2.2.2.1 then (if j < m then cf j else a.2.2.2.2.1 m j) else b.2.2.2.2.1 (m + a.2.2.2.1) j) else (mo, 0))
            by_cases z0 : j < m
            · rw [if_pos z0, if_pos (by omega), if_pos (by omega)]; rw [if_pos z0]
            · rw [if_neg z0]
              by_cases z1 : j < m + a.2.2.2.1
              · rw [sap_l z1, if_pos (by omega), if_pos z1]; rw [if_neg z0]
              · rw [sap_r (by omega)]
                by_cases z2 : j < m + a.2.2.2.1 + b.2.2.2.1
                · rw [sap_l z2, if_pos z2, if_neg z1]
                · rw [sap_r (by omega), if_neg z2]; rfl
theorem m_if {E : Int → Int ⊕ zPR} {B : Nat} {d p m : Int} {w : List Int} {cf : Int → Int × Int} (hL : L ≤ 200) (hc : mcl T L Fl J) (hE : mPs L Fl J E 1 B (d + 1)) (hEg : ∀ p r, p ≤ L → E p = .inr r → pG1 L p r) (hp : 0 ≤ p ∧ p ≤ L) (hw : w.length + (B + 8) ≤ 690) (hm : 0 ≤ m ∧ m < p) (hd : 0 ≤ d ∧ d < 10) : (∀ e, gIf T L E p = .inl e → Fl e → J p (1 :: 7 :: 6 :: w) (d + 1) m cf) ∧ ∀ r, gIf T L E p = .inr r → J r.1 w d (m + r.2.2.2.1) (cfx cf m r.2.2.2.2.1) → J p (1 :: 7 :: 6 :: w) (d + 1) m cf := by
  have h0 := hE p (7 :: 6 :: w) m cf hp.1 hp.2 (by simp only [List.length_cons]; omega) hm.1 (by omega)
  unfold gIf
  cases ea : E p with
  | inl z =>
    refine ⟨fun y h hfl => ?_, fun r h => by cases h⟩
    injection h with h; subst h
    exact h0.1 _ ea hfl
  | inr a =>
    obtain ⟨a1, a2, a3⟩ := hEg p a (by omega) ea
    have hb := kE_b (T := T) (p := a.1) a1.2
    simp only []
    by_cases hk : kK T L a.1 = 60 ∨ kK T L a.1 = 62 ∨ kK T L a.1 = 61
    · rw [if_pos hk]
      obtain ⟨x, mo, hx, hmo, hxr⟩ : ∃ x mo : Int, x = 1000 + mo ∧ mo = (if kK T L a.1 = 60 then 11 else if kK T L a.1 = 62 then 12 else 13) ∧ ((kK T L a.1 = 60 ∧ x = 1011) ∨ (kK T L a.1 = 62 ∧ x = 1012) ∨ (kK T L a.1 = 61 ∧ x = 1013)) := by
        rcases hk with q | q | q
        · exact ⟨1011, 11, rfl, by rw [if_pos q], by omega⟩
        · exact ⟨1012, 12, rfl, by rw [if_neg (by omega), if_pos q], by omega⟩
        · exact ⟨1013, 13, rfl, by rw [if_neg (by omega), if_neg (by omega)], by omega⟩
      have hlt := (hb.2 (by omega)).1
      have r7 : J (kE T L a.1) (1 :: 306 :: 1 :: 307 :: 1 :: x :: 6 :: w) (d + 1) (m + a.2.2.2.1) (cfx cf m a.2.2.2.2.1) → J p (1 :: 7 :: 6 :: w) (d + 1) m cf := fun k => h0.2 a ea (hc.2.2.2.2.2.2.2.2.2.2.1 _ _ _ _ _ x ⟨by omega, by simp only [List.length_cons]; omega, by omega⟩ hxr k)
      have h1 := hE (kE T L a.1) (306 :: 1 :: 307 :: 1 :: x :: 6 :: w) (m + a.2.2.2.1) (cfx cf m a.2.2.2.2.1) (by omega) (by omega) (by simp only [List.length_cons]; omega) (by omega) (by omega)
      rw [← hmo]
      cases eb : E (kE T L a.1) with
      | inl z =>
        refine ⟨fun y h hfl => ?_, fun r h => by cases h⟩
        injection h with h; subst h
        exact r7 (h1.1 _ eb hfl)
      | inr b =>
        obtain ⟨b1, b2, b3⟩ := hEg _ b (by omega) eb
        have t2 := m_tok (x := 306) (c := 9) (d := d + 1) (w := 1 :: 307 :: 1 :: x :: 6 :: w) (cf := cfx (cfx cf m a.2.2.2.2.1) (m + a.2.2.2.1) b.2.2.2.2.1) hc (p := b.1) (m := m + a.2.2.2.1 + b.2.2.2.1) ⟨by omega, by simp only [List.length_cons]; omega, by omega⟩ (by omega)
        simp only []
        cases e2 : gP T L 9 b.1 with
        | inl z =>
          refine ⟨fun y h hfl => ?_, fun r h => by cases h⟩
          injection h with h; subst h
          exact r7 (h1.2 b eb (t2.1 _ e2 hfl))
        | inr p2 =>
          have g2 := gP_r (by decide) b1.2 e2
          have h2 := hE p2 (307 :: 1 :: x :: 6 :: w) (m + a.2.2.2.1 + b.2.2.2.1) (cfx (cfx cf m a.2.2.2.2.1) (m + a.2.2.2.1) b.2.2.2.2.1) (by omega) (by omega) (by simp only [List.length_cons]; omega) (by omega) (by omega)
          simp only []
          cases et : E p2 with
          | inl z =>
            refine ⟨fun y h hfl => ?_, fun r h => by cases h⟩
            injection h with h; subst h
            exact r7 (h1.2 b eb (t2.2 _ e2 (h2.1 _ et hfl)))
          | inr t =>
            obtain ⟨c1, c2, c3⟩ := hEg _ t (by omega) et
            have t3 := m_tok (x := 307) (c := 10) (d := d + 1) (w := 1 :: x :: 6 :: w) (cf := cfx (cfx (cfx cf m a.2.2.2.2.1) (m + a.2.2.2.1) b.2.2.2.2.1) (m + a.2.2.2.1 + b.2.2.2.1) t.2.2.2.2.1) hc (p := t.1) (m := m + a.2.2.2.1 + b.2.2.2.1 + t.2.2.2.1) ⟨by omega, by simp only [List.length_cons]; omega, by omega⟩ (by omega)
            simp only []
            cases e3 : gP T L 10 t.1 with
            | inl z =>
              refine ⟨fun y h hfl => ?_, fun r h => by cases h⟩
              injection h with h; subst h
              exact r7 (h1.2 b eb (t2.2 _ e2 (h2.2 t et (t3.1 _ e3 hfl))))
            | inr p3 =>
              have g3 := gP_r (by decide) c1.2 e3
              have h3 := hE p3 (x :: 6 :: w) (m + a.2.2.2.1 + b.2.2.2.1 + t.2.2.2.1) (cfx (cfx (cfx cf m a.2.2.2.2.1) (m + a.2.2.2.1) b.2.2.2.2.1) (m + a.2.2.2.1 + b.2.2.2.1) t.2.2.2.2.1) (by omega) (by omega) (by simp only [List.length_cons]; omega) (by omega) (by omega)
              simp only []
              cases ez : E p3 with
              | inl z =>
                refine ⟨fun y h hfl => ?_, fun r h => by cases h⟩
                injection h with h; subst h
                exact r7 (h1.2 b eb (t2.2 _ e2 (h2.2 t et (t3.2 _ e3 (h3.1 _ ez hfl)))))
              | inr z =>
                obtain ⟨z1, z2, z3⟩ := hEg _ z (by omega) ez
                refine ⟨fun y h => (by cases h), fun r h hj => ?_⟩
                injection h with h; subst h
                refine r7 (h1.2 b eb (t2.2 _ e2 (h2.2 t et (t3.2 _ e3 (h3.2 z ez ?_)))))
                refine hc.2.2.2.2.2.2.2.2.2.2.2.2.2.1 _ _ _ _ _ x mo ⟨by omega, by simp only [List.length_cons]; omega, by omega⟩ (by omega) hx (by omega) ?_
                refine hc.2.2.2.2.2.2.2.2.2.1 _ _ _ _ _ ⟨by omega, by omega, by omega⟩ (by omega) ?_
                rw [show d + 1 - 1 = d by omega, show m + a.2.2.2.1 + b.2.2.2.1 + t.2.2.2.1 + z.2.2.2.1 + 1 = m + (a.2.2.2.1 + (b.2.2.2.1 + (t.2.2.2.1 + (z.2.2.2.1 + 1)))) by omega]
                refine hc.1 _ _ _ _ _ _ (fun j q1 q2 => ?_) hj
                show (if j < m then cf j else sap a.2.2.2.1 a.2.2.2.2.1 (sap b.2.2.2.1 b.2.2.2.2.1 (sap t.2.2.2.1 t.2.2.2.2.1 (sap z.2.2.2.1 z.2.2.2.2.1 (sgl (mo, 0))))) m j) = (if j < m + a.2.2.2.1 + b.2.2.2.1 + t.2.2.2.1 + z.2.2.2.1 then (if j < m + a.2.2.2.1 + b.2.2.2.1 + t.2.2.2.1 then (if j < m + a.2.2.2.1 + b.2.2.2.1 then (if j < m + a.2.2.2.1 then (if j < m then cf j else a.2.2.2.2.1 m j) else b.2.2.2.2.1 (m + a.2.2.2.1) j) else t.2.2.2.2.1 (m + a.2.2.2.1 + b.2.2.2.1) j) else z.2.2.2.2.1 (m + a.2.2.2.1 + b.2.2.2.1 + t.2.2.2.1) j) else (mo, 0))
                by_cases w0 : j < m
                · rw [if_pos w0, if_pos (by omega), if_pos (by omega), if_pos (by omega), if_pos (by omega)]; rw [if_pos w0]
                rw [if_neg w0]
                by_cases w1 : j < m + a.2.2.2.1
                · rw [sap_l w1, if_pos (by omega), if_pos (by omega), if_pos (by omega), if_pos w1]; rw [if_neg w0]
                rw [sap_r (by omega)]
                by_cases w2 : j < m + a.2.2.2.1 + b.2.2.2.1
                · rw [sap_l w2, if_pos (by omega), if_pos (by omega), if_pos w2]; rw [if_neg w1]
                rw [sap_r (by omega)]
                by_cases w3 : j < m + a.2.2.2.1 + b.2.2.2.1 + t.2.2.2.1
                · rw [sap_l w3, if_pos (by omega), if_pos w3]; rw [if_neg w2]
                rw [sap_r (by omega)]
                by_cases w4 : j < m + a.2.2.2.1 + b.2.2.2.1 + t.2.2.2.1 + z.2.2.2.1
                · rw [sap_l w4, if_pos w4]; rw [if_neg w3]
                rw [sap_r (by omega), if_neg w4]; rfl
    · rw [if_neg hk]
      refine ⟨fun y h hfl => ?_, fun r h => by cases h⟩
      injection h with h; subst h
      exact h0.2 a ea (hc.2.2.2.2.2.2.2.2.2.2.2.1 _ _ _ _ _ ⟨by omega, by simp only [List.length_cons]; omega, by omega⟩ (by omega) hfl)
/-- the reference reads what the specification says, at all levels -/
theorem m_pF (hL : L ≤ 200) (hc : mcl T L Fl J) : ∀ k : Nat, k ≤ 10 → mPs L Fl J (pF T L k) 5 (20 * k) (10 - (k : Int)) := by
  have base : ∀ k : Nat, ∀ p w m cf d, 0 ≤ p → p ≤ L → w.length ≤ 690 → 0 ≤ m → m ≤ p → ((kK T L p = 2 → ∀ r, pF T L k p = .inr r → J r.1 w d (m + r.2.2.2.1) (cfx cf m r.2.2.2.2.1) → J p (5 :: w) d m cf) ∧ (kK T L p = 3 → ∀ r, pF T L k p = .inr r → J r.1 w d (m + r.2.2.2.1) (cfx cf m r.2.2.2.2.1) → J p (5 :: w) d m cf)) := by
    intro k p w m cf d hp hpL hw h0 hmp
    have hb := kE_b (T := T) hpL
    refine ⟨fun q r h hj => ?_, fun q r h hj => ?_⟩
    · rw [pF_2 q k] at h; injection h with h; subst h
      have := (hb.2 (by omega)).2
      exact hc.2.2.2.2.2.1 p w d m cf ⟨by omega, by omega, by omega⟩ (by omega) q hj
    · rw [pF_3 q k] at h; injection h with h; subst h
      have := (hb.2 (by omega)).2
      exact hc.2.2.2.2.2.2.1 p w d m cf ⟨by omega, by omega, by omega⟩ (by omega) q hj
  intro k
  induction k with
  | zero =>
    intro _ p w m cf hp hpL hw h0 hmp
    have b0 := base 0 p w m cf (10 - ((0 : Nat) : Int)) hp hpL (by omega) h0 hmp
    by_cases q2 : kK T L p = 2
    · exact ⟨fun e h => (by rw [pF_2 q2 0] at h; cases h), b0.1 q2⟩
    · by_cases q3 : kK T L p = 3
      · exact ⟨fun e h => (by rw [pF_3 q3 0] at h; cases h), b0.2 q3⟩
      · refine ⟨fun e h hfl => ?_, fun r h => by rw [pF_z ⟨q2, q3⟩] at h; cases h⟩
        rw [pF_z ⟨q2, q3⟩] at h; injection h with h; subst h
        exact hc.2.2.2.2.2.2.2.2.1 p w _ m cf ⟨by omega, by omega, by omega⟩ q2 q3 (Or.inr (by omega)) hfl
  | succ k ih =>
    intro hk p w m cf hp hpL hw h0 hmp
    have b0 := base (k + 1) p w m cf (10 - ((k + 1 : Nat) : Int)) hp hpL (by omega) h0 hmp
    have hF := ih (by omega)
    have hE := m_gE hL hc (m_gT hL hc hF pF_p1) gT_p1
    have ed : (10 : Int) - (k : Int) = 10 - ((k + 1 : Nat) : Int) + 1 := by omega
    rw [ed] at hF hE
    generalize hdd : (10 : Int) - ((k + 1 : Nat) : Int) = d at *
    by_cases q2 : kK T L p = 2
    · exact ⟨fun e h => (by rw [pF_2 q2 (k + 1)] at h; cases h), b0.1 q2⟩
    · by_cases q3 : kK T L p = 3
      · exact ⟨fun e h => (by rw [pF_3 q3 (k + 1)] at h; cases h), b0.2 q3⟩
      · by_cases qo : kOp (kK T L p)
        · have hb := kE_b (T := T) hpL
          have hne : kK T L p ≠ 0 := fun z => by rw [z] at qo; unfold kOp at qo; omega
          have hlt := (hb.2 hne).1
          rw [pF_o ⟨q2, q3⟩ qo]
          have go : ∀ G : Int ⊕ zPR, ((∀ e, G = .inl e → Fl e → J (kE T L p) (mPi (kK T L p) ++ 6 :: w) (d + 1) m cf) ∧ ∀ r, G = .inr r → J r.1 w d (m + r.2.2.2.1) (cfx cf m r.2.2.2.2.1) → J (kE T L p) (mPi (kK T L p) ++ 6 :: w) (d + 1) m cf) → (∀ e, G = .inl e → Fl e → J p (5 :: w) d m cf) ∧ ∀ r, G = .inr r → J r.1 w d (m + r.2.2.2.1) (cfx cf m r.2.2.2.2.1) → J p (5 :: w) d m cf := by
            intro G hh
            have r8 := hc.2.2.2.2.2.2.2.1 p w d m cf ⟨by omega, by omega, by omega⟩ qo (by omega)
            exact ⟨fun e h hfl => r8 (hh.1 e h hfl), fun r h hj => r8 (hh.2 r h hj)⟩
          refine go _ ?_
          unfold kOp at qo
          rcases qo with q | q | q | q | q | q | q
          · rw [q]; exact m_par hL hc hE gE_p1 (by omega) (by omega) (by omega) (by omega)
          · rw [q]; exact m_un hL hc hF pF_p1 (by omega) (by omega) (by omega) (by omega) (by decide) (by decide)
          · rw [q]; exact m_un hL hc hF pF_p1 (by omega) (by omega) (by omega) (by omega) (by decide) (by decide)
          · rw [q]; exact m_un hL hc hF pF_p1 (by omega) (by omega) (by omega) (by omega) (by decide) (by decide)
          · rw [q]; exact m_two hL hc hE gE_p1 (by omega) (by omega) (by omega) (by omega) (by decide) (by decide)
          · rw [q]; exact m_two hL hc hE gE_p1 (by omega) (by omega) (by omega) (by omega) (by decide) (by decide)
          · rw [q]; exact m_if hL hc hE gE_p1 (by omega) (by omega) (by omega) (by omega)
        · refine ⟨fun e h hfl => ?_, fun r h => by rw [pF_n ⟨q2, q3⟩ qo] at h; cases h⟩
          rw [pF_n ⟨q2, q3⟩ qo] at h; injection h with h; subst h
          exact hc.2.2.2.2.2.2.2.2.1 p w _ m cf ⟨by omega, by omega, by omega⟩ q2 q3 (Or.inl qo) hfl
theorem m_all (hL : 0 ≤ L ∧ L ≤ 200) (hc : mcl T L Fl J) (cf : Int → Int × Int) : (∀ e, pAl T L = .inl e → Fl e → J 0 [1, 0] 0 0 cf) ∧ ∀ r, pAl T L = .inr r → (kK T L r.1 = 0 → J r.1 [] 0 r.2.2.2.1 (cfx cf 0 r.2.2.2.2.1)) → J 0 [1, 0] 0 0 cf := by
  have hF := m_pF hL.2 hc 10 (by omega)
  have hE := m_gE hL.2 hc (m_gT hL.2 hc hF pF_p1) gT_p1
  have h1 := hE 0 [0] 0 cf (by omega) hL.1 (by decide) (by omega) (by omega)
  unfold pAl
  cases e : gE T L (pF T L 10) 0 with
  | inl z =>
    refine ⟨fun y h hfl => ?_, fun r h => by cases h⟩
    injection h with h; subst h
    exact h1.1 _ e hfl
  | inr a =>
    obtain ⟨a1, a2, a3⟩ := gE_p1 0 a hL.1 e
    simp only []
    have go := hc.2.2.2.2.2.2.2.2.2.2.2.2.2.2 a.1 [] 0 (0 + a.2.2.2.1) (cfx cf 0 a.2.2.2.2.1) ⟨by omega, by decide, by omega⟩
    by_cases q : kK T L a.1 = 0
    · rw [if_pos q]
      refine ⟨fun y h => (by cases h), fun r h hj => ?_⟩
      injection h with h; subst h
      refine h1.2 _ e (go (fun _ => ?_) (fun z => absurd q z))
      rw [Int.zero_add]; exact hj q
    · rw [if_neg q]
      refine ⟨fun y h hfl => ?_, fun r h => by cases h⟩
      injection h with h; subst h
      exact h1.2 _ e (go (fun z => absurd z q) (fun _ => hfl))
end zMp2
