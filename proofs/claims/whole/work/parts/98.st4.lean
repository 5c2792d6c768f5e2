theorem kRun_L {h : zMem} {t x e g B : Int} : ∀ (K : Nat) (j : Int) (c C : Int → Int), e ≤ j → B ≤ C e → (∀ m : Nat, m < K → gdr (kGd h t x) m j c → e + g ≤ j + m → B ≤ 14 + 4 * g + (j + m) - e + C (j + m + 1)) → B ≤ kRun h t x e g K j c C e
  | 0, _, _, _, _, hB, _ => hB
  | K + 1, j, c, C, hj, hB, hm => by
    show B ≤ (if kGd h t x j c then _ else _ : Int → Int) e
    by_cases hG : kGd h t x j c
    · rw [if_pos hG]
      refine kRun_L K (j + 1) (cAdd c) _ (by omega) ?_ (fun m q1 q2 q3 => ?_)
      · by_cases c1 : e + g ≤ j
        · rw [if_pos c1]
          have q := hm 0 (by omega) hG (by omega)
          rw [show j + ((0 : Nat) : Int) = j by omega] at q
          unfold lOf
          split <;> omega
        · rw [if_neg c1]; exact hB
      · have q := hm (m + 1) (by omega) ⟨hG, q2⟩ (by omega)
        have q4 : (if e + g ≤ j then lOf C e (14 + 4 * g + j - e + C (j + 1)) else C) (j + 1 + m + 1) = C (j + 1 + m + 1) := by
          split
          · exact lOf_ne (by omega)
          · rfl
        rw [q4, show j + 1 + (m : Int) = j + ((m + 1 : Nat) : Int) by omega]
        exact q
    · rw [if_neg hG]; exact hB
