theorem kRuns_ne {h : zMem} {t x i g y : Int} {C : Int → Int} (hy : y ≠ i) : kRuns h t x i g C y = C y := by
  unfold kRuns; split
  · exact kRun_ne hy _ _ _ _
  · rfl
theorem kRuns_leC {h : zMem} {t x i g y : Int} {C : Int → Int} : kRuns h t x i g C y ≤ C y := by
  unfold kRuns; split
  · exact kRun_leC _ _ _ _
  · exact Int.le_refl _
theorem kF_ne {h : zMem} {t x i y : Int} (hy : y ≠ i) : ∀ (k : Nat) (g : Int) (C : Int → Int), 5 - g ≤ k → zFor (kRuns h t x i) g 5 C y = C y := by
  intro k
  induction k with
  | zero => intro g C hk; rw [zFor_e (by omega)]
  | succ k ih =>
    intro g C hk
    by_cases hg : g < 5
    · rw [zFor_s hg, ih (g + 1) _ (by omega), kRuns_ne hy]
    · rw [zFor_e (by omega)]
theorem kF_leC {h : zMem} {t x i y : Int} : ∀ (k : Nat) (g : Int) (C : Int → Int), 5 - g ≤ k → zFor (kRuns h t x i) g 5 C y ≤ C y := by
  intro k
  induction k with
  | zero => intro g C hk; rw [zFor_e (by omega)]; exact Int.le_refl _
  | succ k ih =>
    intro g C hk
    by_cases hg : g < 5
    · rw [zFor_s hg]; exact Int.le_trans (ih (g + 1) _ (by omega)) kRuns_leC
    · rw [zFor_e (by omega)]; exact Int.le_refl _
/-- a run of the engine from i by g differences, good at i .. i + m -/
def kRn (h : zMem) (t x i g : Int) (m : Nat) : Prop := (1 ≤ g ∧ g ≤ 4) ∧ jCs h t i g ∧ g ≤ m ∧ i + m < h 46 t ∧ gdr (kGd h t x) m i (jDc (h 47) (30 * t + i) g)
theorem kRuns_U {h : zMem} {t x i g : Int} {m : Nat} {C : Int → Int} (q : kRn h t x i g m) : kRuns h t x i g C i ≤ 14 + 4 * g + m + C (i + m + 1) := by
  obtain ⟨q1, q2, q3, q4, q5⟩ := q
  rw [show kRuns h t x i g C = _ from if_pos q2]
  have := kRun_U (h := h) (t := t) (x := x) (e := i) (g := g) m (h 46 t - i).toNat i _ C (by omega) (Int.le_refl _) q5 (by omega)
  omega
theorem kF_U {h : zMem} {t x i g : Int} {m : Nat} (q : kRn h t x i g m) : ∀ (k : Nat) (g0 : Int) (C : Int → Int), 5 - g0 ≤ k → g0 ≤ g → zFor (kRuns h t x i) g0 5 C i ≤ 14 + 4 * g + m + C (i + m + 1) := by
  intro k
  induction k with
  | zero => intro g0 C hk hg; have := q.1; omega
  | succ k ih =>
    intro g0 C hk hg
    have hq := q.1
    rw [zFor_s (by omega)]
    by_cases hz : g0 = g
    · subst hz
      exact Int.le_trans (kF_leC k _ _ (by omega)) (kRuns_U q)
    · have := ih (g0 + 1) (kRuns h t x i g0 C) (by omega) (by omega)
      rw [kRuns_ne (y := i + m + 1) (by omega)] at this
      exact this
/-- an edge from i to j of weight w -/
def kEd (h : zMem) (t x i j w : Int) : Prop := (h 47 (30 * t + i) = -2147483648 ∧ j = i + 1 ∧ w = 0) ∨ (h 47 (30 * t + i) ≠ -2147483648 ∧ ((j = i + 1 ∧ w = 30) ∨ ∃ (g : Int) (m : Nat), kRn h t x i g m ∧ j = i + m + 1 ∧ w = 14 + 4 * g + m))
theorem kStep_ne {h : zMem} {t x i y : Int} {C : Int → Int} (hy : y ≠ i) : kStep h t x i C y = C y := by
  unfold kStep; split
  · exact if_neg hy
  · rw [kF_ne hy 4 1 _ (by omega)]; exact if_neg hy
theorem kStep_U {h : zMem} {t x i j w : Int} {C : Int → Int} (q : kEd h t x i j w) : kStep h t x i C i ≤ w + C j := by
  rcases q with ⟨q1, rfl, rfl⟩ | ⟨q1, q⟩
  · rw [show kStep h t x i C = _ from if_pos q1, kset_at]; omega
  · rw [show kStep h t x i C = _ from if_neg q1]
    rcases q with ⟨rfl, rfl⟩ | ⟨g, m, q2, rfl, rfl⟩
    · refine Int.le_trans (kF_leC 4 1 _ (by omega)) ?_
      rw [kset_at]; omega
    · have := kF_U q2 4 1 (kset C i (C (i + 1) + 30)) (by omega) q2.1.1
      rw [show kset C i (C (i + 1) + 30) (i + m + 1) = C (i + m + 1) from if_neg (by omega)] at this
      exact this
