/-- a run is good at j .. j + m -/
def gdr (G : Int → (Int → Int) → Prop) : Nat → Int → (Int → Int) → Prop
  | 0, j, c => G j c
  | m + 1, j, c => G j c ∧ gdr G m (j + 1) (cAdd c)
theorem lOf_ne {C : Int → Int} {p v y : Int} (hy : y ≠ p) : lOf C p v y = C y := if_neg (fun q => hy q.1)
theorem lOf_v {C : Int → Int} {p v : Int} : lOf C p v p ≤ v := by unfold lOf; split <;> omega
theorem kRun_ne {h : zMem} {t x e g y : Int} (hy : y ≠ e) : ∀ (k : Nat) (j : Int) (c C : Int → Int), kRun h t x e g k j c C y = C y
  | 0, _, _, _ => rfl
  | k + 1, j, c, C => by
    show (if kGd h t x j c then _ else _ : Int → Int) y = C y
    split
    · rw [kRun_ne hy k]
      split
      · exact lOf_ne hy
      · rfl
    · rfl
theorem kRun_leC {h : zMem} {t x e g y : Int} : ∀ (k : Nat) (j : Int) (c C : Int → Int), kRun h t x e g k j c C y ≤ C y
  | 0, _, _, _ => Int.le_refl _
  | k + 1, j, c, C => by
    show (if kGd h t x j c then _ else _ : Int → Int) y ≤ C y
    split
    · refine Int.le_trans (kRun_leC k _ _ _) ?_
      split
      · exact lOf_le
      · exact Int.le_refl _
    · exact Int.le_refl _
theorem kRun_U {h : zMem} {t x e g : Int} : ∀ (m K : Nat) (j : Int) (c C : Int → Int), m < K → e ≤ j → gdr (kGd h t x) m j c → e + g ≤ j + m → kRun h t x e g K j c C e ≤ 14 + 4 * g + (j + m) - e + C (j + m + 1)
  | 0, K + 1, j, c, C, _, hj, hG, hm => by
    show (if kGd h t x j c then _ else _ : Int → Int) e ≤ _
    rw [if_pos (show kGd h t x j c from hG), if_pos (by omega)]
    refine Int.le_trans (kRun_leC K _ _ _) (Int.le_trans lOf_v ?_)
    rw [show j + ((0 : Nat) : Int) = j by omega]
    exact Int.le_refl _
  | m + 1, K + 1, j, c, C, hk, hj, hG, hm => by
    show (if kGd h t x j c then _ else _ : Int → Int) e ≤ _
    rw [if_pos hG.1]
    have q := kRun_U (h := h) (t := t) (x := x) (e := e) (g := g) m K (j + 1) (cAdd c) (if e + g ≤ j then lOf C e (14 + 4 * g + j - e + C (j + 1)) else C) (by omega) (by omega) hG.2 (by omega)
    have q2 : (if e + g ≤ j then lOf C e (14 + 4 * g + j - e + C (j + 1)) else C) (j + 1 + m + 1) = C (j + 1 + m + 1) := by
      split
      · exact lOf_ne (by omega)
      · rfl
    rw [q2, show j + 1 + (m : Int) = j + ((m + 1 : Nat) : Int) by omega] at q
    exact q
