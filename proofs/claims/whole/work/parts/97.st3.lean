theorem kEd_lt {h : zMem} {t x i j w : Int} (q : kEd h t x i j w) : i < j := by
  rcases q with ⟨_, rfl, _⟩ | ⟨_, ⟨rfl, _⟩ | ⟨g, m, _, rfl, _⟩⟩ <;> omega
theorem kDn_ne {h : zMem} {t x y : Int} : ∀ (k : Nat) (C : Int → Int), (k : Int) ≤ y → kDn h t x k C y = C y
  | 0, _, _ => rfl
  | k + 1, C, hy => by
    show kDn h t x k (kStep h t x k C) y = C y
    rw [kDn_ne k _ (by omega), kStep_ne (by omega)]
theorem kDn_U {h : zMem} {t x i j w : Int} (q : kEd h t x i j w) (h0 : 0 ≤ i) : ∀ (k : Nat) (C : Int → Int), i < k → kDn h t x k C i ≤ w + kDn h t x k C j
  | 0, _, hi => by omega
  | k + 1, C, hi => by
    show kDn h t x k (kStep h t x k C) i ≤ w + kDn h t x k (kStep h t x k C) j
    have hl := kEd_lt q
    by_cases hz : i = k
    · subst hz
      rw [kDn_ne k _ (Int.le_refl _), kDn_ne k _ (by omega), kStep_ne (y := j) (by omega)]
      exact kStep_U q
    · exact kDn_U q h0 k _ (by omega)
