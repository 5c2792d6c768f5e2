theorem lRun_lo {h : zMem} {t e i g v y : Int} : ∀ (k : Nat) (j : Int) (c L : Int → Int), y ≤ j → lRun h t e i g v k j c L y = L y
  | 0, _, _, _, _ => rfl
  | k + 1, j, c, L, hy => by
    show (if rGd h t e j c then _ else _ : Int → Int) y = L y
    split
    · rw [lRun_lo k (j + 1) _ _ (by omega)]
      split
      · exact lOf_ne (by omega)
      · rfl
    · rfl
theorem lRun_leL {h : zMem} {t e i g v y : Int} : ∀ (k : Nat) (j : Int) (c L : Int → Int), lRun h t e i g v k j c L y ≤ L y
  | 0, _, _, _ => Int.le_refl _
  | k + 1, j, c, L => by
    show (if rGd h t e j c then _ else _ : Int → Int) y ≤ L y
    split
    · refine Int.le_trans (lRun_leL k _ _ _) ?_
      split
      · exact lOf_le
      · exact Int.le_refl _
    · exact Int.le_refl _
theorem lRun_U {h : zMem} {t e i g v : Int} : ∀ (m K : Nat) (j : Int) (c L : Int → Int), m < K → gdr (rGd h t e) m j c → i + g ≤ j + m → lRun h t e i g v K j c L (j + m + 1) ≤ v + (j + m) - i
  | 0, K + 1, j, c, L, _, hG, hm => by
    show (if rGd h t e j c then _ else _ : Int → Int) _ ≤ _
    rw [if_pos (show rGd h t e j c from hG), if_pos (by omega), show j + ((0 : Nat) : Int) = j by omega]
    exact Int.le_trans (lRun_leL K _ _ _) lOf_v
  | m + 1, K + 1, j, c, L, hk, hG, hm => by
    show (if rGd h t e j c then _ else _ : Int → Int) _ ≤ _
    rw [if_pos hG.1]
    have q := lRun_U (h := h) (t := t) (e := e) (i := i) (g := g) (v := v) m K (j + 1) (cAdd c) (if i + g ≤ j then lOf L (j + 1) (v + j - i) else L) (by omega) hG.2 (by omega)
    rw [show j + 1 + (m : Int) = j + ((m + 1 : Nat) : Int) by omega] at q
    exact q
