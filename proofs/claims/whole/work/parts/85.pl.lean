/-- a FAULT is a place of the TEXT -/
def pLt (L : Int) (G : Int → Int ⊕ zPR) : Prop := ∀ p e, 0 ≤ p → p ≤ L → G p = .inl e → 0 ≤ e ∧ e ≤ L
section zPl
variable {T : Int → Int} {L : Int}
theorem kS_l {p : Int} (h0 : 0 ≤ p) (h : p ≤ L) : 0 ≤ kS T L p ∧ kS T L p ≤ L := by have := kS_b (T := T) h; omega
theorem lpS_l {k1 k2 c1 c2 m1 m2 : Int} {G : Int → Int ⊕ zPR} (hG : pLt L G) (hGg : ∀ p r, p ≤ L → G p = .inr r → pG1 L p r) : ∀ (f : Nat) (a : zPR) (e : Int), 0 ≤ a.1 → a.1 ≤ L → lpS T L k1 k2 c1 c2 m1 m2 G f a = .inl e → 0 ≤ e ∧ e ≤ L
  | 0, a, e, _, _, h => by cases h
  | f + 1, a, e, h0, h1, h => by
    unfold lpS at h
    split at h
    · have hb := kE_b (T := T) h1
      split at h
      · rename_i x hx; injection h with h; subst h; exact hG _ _ (by omega) hb.1.2 hx
      · rename_i r hx
        have hg := hGg _ _ hb.1.2 hx
        exact lpS_l hG hGg f _ e (by show 0 ≤ r.1; have := hg.1; omega) (by show r.1 ≤ L; exact hg.1.2) h
    · cases h
theorem gT_l {F : Int → Int ⊕ zPR} (hF : pLt L F) (hFg : ∀ p r, p ≤ L → F p = .inr r → pG1 L p r) : pLt L (gT T L F) := fun p e h0 h1 h => by
  unfold gT at h
  split at h
  · rename_i x hx; injection h with h; subst h; exact hF _ _ h0 h1 hx
  · rename_i a ha
    have hg := (hFg p a h1 ha).1
    exact lpS_l hF hFg _ _ _ (by omega) hg.2 h
theorem gE_l {F : Int → Int ⊕ zPR} (hF : pLt L (gT T L F)) (hFg : ∀ p r, p ≤ L → gT T L F p = .inr r → pG1 L p r) : pLt L (gE T L F) := fun p e h0 h1 h => by
  unfold gE at h
  split at h
  · rename_i x hx; injection h with h; subst h; exact hF _ _ h0 h1 hx
  · rename_i a ha
    have hg := (hFg p a h1 ha).1
    exact lpS_l hF hFg _ _ _ (by omega) hg.2 h
theorem gP_lt {w p e : Int} (h0 : 0 ≤ p) (h1 : p ≤ L) (h : gP T L w p = .inl e) : 0 ≤ e ∧ e ≤ L := by
  rw [(gP_l h).2]; exact kS_l h0 h1
theorem gP_0 {w p q : Int} (h0 : 0 ≤ p) (h1 : p ≤ L) (h : gP T L w p = .inr q) : 0 ≤ q ∧ q ≤ L := by
  unfold gP at h
  split at h
  · injection h with h; subst h; have := kE_b (T := T) h1; omega
  · cases h
theorem gPar_l {E : Int → Int ⊕ zPR} (hE : pLt L E) (hEg : ∀ p r, p ≤ L → E p = .inr r → pG1 L p r) : pLt L (gPar T L E) := fun p e h0 h1 h => by
  unfold gPar at h
  split at h
  · rename_i x hx; injection h with h; subst h; exact hE _ _ h0 h1 hx
  · rename_i a ha
    have hg := (hEg p a h1 ha).1
    split at h
    · rename_i x hx; injection h with h; subst h; exact gP_lt (by omega) hg.2 hx
    · cases h
theorem gUn_l {F : Int → Int ⊕ zPR} {c m : Int} (hF : pLt L F) : pLt L (gUn F c m) := fun p e h0 h1 h => by
  unfold gUn at h
  split at h
  · rename_i x hx; injection h with h; subst h; exact hF _ _ h0 h1 hx
  · cases h
theorem gTwo_l {E : Int → Int ⊕ zPR} {c m : Int} (hE : pLt L E) (hEg : ∀ p r, p ≤ L → E p = .inr r → pG1 L p r) : pLt L (gTwo T L E c m) := fun p e h0 h1 h => by
  unfold gTwo at h
  split at h
  · rename_i x hx; injection h with h; subst h; exact gP_lt h0 h1 hx
  rename_i p1 e1
  have q1 := gP_0 h0 h1 e1
  split at h
  · rename_i x hx; injection h with h; subst h; exact hE _ _ q1.1 q1.2 hx
  rename_i a ea
  have g1 := (hEg p1 a q1.2 ea).1
  split at h
  · rename_i x hx; injection h with h; subst h; exact gP_lt (by omega) g1.2 hx
  rename_i p2 e2
  have q2 := gP_0 (by omega) g1.2 e2
  split at h
  · rename_i x hx; injection h with h; subst h; exact hE _ _ q2.1 q2.2 hx
  rename_i b eb
  have g2 := (hEg p2 b q2.2 eb).1
  split at h
  · rename_i x hx; injection h with h; subst h; exact gP_lt (by omega) g2.2 hx
  · cases h
theorem gIf_l {E : Int → Int ⊕ zPR} (hE : pLt L E) (hEg : ∀ p r, p ≤ L → E p = .inr r → pG1 L p r) : pLt L (gIf T L E) := fun p e h0 h1 h => by
  unfold gIf at h
  split at h
  · rename_i x hx; injection h with h; subst h; exact hE _ _ h0 h1 hx
  rename_i a ea
  have g1 := (hEg p a h1 ea).1
  have hb := kE_b (T := T) g1.2
  split at h
  · split at h
    · rename_i x hx; injection h with h; subst h; exact hE _ _ (by omega) hb.1.2 hx
    rename_i b eb
    have g2 := (hEg _ b hb.1.2 eb).1
    split at h
    · rename_i x hx; injection h with h; subst h; exact gP_lt (by omega) g2.2 hx
    rename_i p2 e2
    have q2 := gP_0 (by omega) g2.2 e2
    split at h
    · rename_i x hx; injection h with h; subst h; exact hE _ _ q2.1 q2.2 hx
    rename_i t et
    have g3 := (hEg _ t q2.2 et).1
    split at h
    · rename_i x hx; injection h with h; subst h; exact gP_lt (by omega) g3.2 hx
    rename_i p3 e3
    have q3 := gP_0 (by omega) g3.2 e3
    split at h
    · rename_i x hx; injection h with h; subst h; exact hE _ _ q3.1 q3.2 hx
    · cases h
  · injection h with h; subst h; exact kS_l (by omega) g1.2
theorem pF_lt : ∀ k : Nat, pLt L (pF T L k)
  | 0 => fun p e h0 h1 h => by
    unfold pF at h
    split at h; cases h
    split at h; cases h
    injection h with h; subst h; exact kS_l h0 h1
  | k + 1 => fun p e h0 h1 h => by
    have hF : pLt L (pF T L k) := pF_lt k
    have hE := gE_l (gT_l hF pF_p1) gT_p1
    unfold pF at h
    split at h; cases h
    split at h; cases h
    split at h
    · have hb := kE_b (T := T) h1
      have q0 : 0 ≤ kE T L p := by omega
      unfold gOp at h
      split at h
      · exact gPar_l hE gE_p1 _ _ q0 hb.1.2 h
      split at h
      · exact gUn_l hF _ _ q0 hb.1.2 h
      split at h
      · exact gUn_l hF _ _ q0 hb.1.2 h
      split at h
      · exact gUn_l hF _ _ q0 hb.1.2 h
      split at h
      · exact gTwo_l hE gE_p1 _ _ q0 hb.1.2 h
      split at h
      · exact gTwo_l hE gE_p1 _ _ q0 hb.1.2 h
      · exact gIf_l hE gE_p1 _ _ q0 hb.1.2 h
    · injection h with h; subst h; exact kS_l h0 h1
theorem pAl_l {x : Int} (hL : 0 ≤ L) (h : pAl T L = .inl x) : 0 ≤ x ∧ x ≤ L := by
  unfold pAl at h
  split at h
  · rename_i e he; injection h with h; subst h
    exact gE_l (gT_l (pF_lt 10) pF_p1) gT_p1 _ _ (by omega) hL he
  · rename_i a ea
    split at h
    · cases h
    · injection h with h; subst h
      have := (gE_p1 0 a hL ea).1
      exact kS_l (by omega) this.2
end zPl
