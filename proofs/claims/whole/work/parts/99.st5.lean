theorem kF_L {h : zMem} {t x i B : Int} : ∀ (k : Nat) (g0 : Int) (C : Int → Int), 5 - g0 ≤ k → 1 ≤ g0 → B ≤ C i → (∀ (g : Int) (m : Nat), kRn h t x i g m → B ≤ 14 + 4 * g + m + C (i + m + 1)) → B ≤ zFor (kRuns h t x i) g0 5 C i := by
  intro k
  induction k with
  | zero => intro g0 C hk _ hB _; rw [zFor_e (by omega)]; exact hB
  | succ k ih =>
    intro g0 C hk h1 hB hm
    by_cases hg : g0 < 5
    · rw [zFor_s hg]
      refine ih (g0 + 1) _ (by omega) (by omega) ?_ (fun g m q => ?_)
      · by_cases hc : jCs h t i g0
        · rw [show kRuns h t x i g0 C = _ from if_pos hc]
          refine kRun_L _ i _ C (Int.le_refl _) hB (fun m q1 q2 q3 => ?_)
          have := hm g0 m ⟨⟨h1, by omega⟩, hc, by omega, by omega, q2⟩
          omega
        · rw [show kRuns h t x i g0 C = C from if_neg hc]; exact hB
      · rw [kRuns_ne (by omega)]; exact hm g m q
    · rw [zFor_e (by omega)]; exact hB
theorem kStep_L {h : zMem} {t x i B : Int} {C : Int → Int} (hm : ∀ j w, kEd h t x i j w → B ≤ w + C j) : B ≤ kStep h t x i C i := by
  by_cases hz : h 47 (30 * t + i) = -2147483648
  · rw [show kStep h t x i C = _ from if_pos hz, kset_at]
    have := hm (i + 1) 0 (Or.inl ⟨hz, rfl, rfl⟩)
    omega
  · rw [show kStep h t x i C = _ from if_neg hz]
    refine kF_L 4 1 _ (by omega) (by omega) ?_ (fun g m q => ?_)
    · rw [kset_at]
      have := hm (i + 1) 30 (Or.inr ⟨hz, Or.inl ⟨rfl, rfl⟩⟩)
      omega
    · rw [show kset C i (C (i + 1) + 30) (i + m + 1) = C (i + m + 1) from if_neg (by omega)]
      have := hm (i + m + 1) (14 + 4 * g + m) (Or.inr ⟨hz, Or.inr ⟨g, m, q, rfl, rfl⟩⟩)
      omega
/-- where L keeps every edge, the last of L is at most L + C all the way back -/
theorem kDn_L {h : zMem} {t x N B : Int} {L : Int → Int} (hL : ∀ i j w, 0 ≤ i → i < N → kEd h t x i j w → j ≤ N ∧ L j ≤ L i + w) : ∀ (k : Nat) (C : Int → Int), (k : Int) ≤ N → (∀ y, (k : Int) ≤ y → y ≤ N → B ≤ L y + C y) → ∀ y, 0 ≤ y → y ≤ N → B ≤ L y + kDn h t x k C y
  | 0, C, _, hC, y, h0, h1 => hC y (by omega) h1
  | k + 1, C, hk, hC, y, h0, h1 => by
    show B ≤ L y + kDn h t x k (kStep h t x k C) y
    refine kDn_L hL k _ (by omega) (fun z a b => ?_) y h0 h1
    by_cases hz : z = k
    · subst hz
      have := kStep_L (h := h) (t := t) (x := x) (i := k) (B := B - L k) (C := C) (fun j w q => by
        have q1 := hL k j w (by omega) (by omega) q
        have q2 := kEd_lt q
        have q3 := hC j (by omega) q1.1
        omega)
      omega
    · rw [kStep_ne hz]; exact hC z (by omega) b
