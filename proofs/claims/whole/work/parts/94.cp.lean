theorem zS_cut {p : Int → Int} {A B : Int} (hv : ∀ j, A ≤ j → j < B → p j = 0) (hAB : A ≤ B) : ∀ (k : Nat) (i : Int), B - i ≤ k → zS p i A = zS p i B := by
  intro k
  induction k with
  | zero => intro i hk; rw [zS_e (by omega), zS_e (by omega)]
  | succ k ih =>
    intro i hk
    by_cases h1 : i < A
    · rw [zS_s h1, zS_s (N := B) (by omega), ih (i + 1) (by omega)]
    · by_cases h2 : i < B
      · have q := ih (i + 1) (by omega)
        rw [zS_e (by omega)] at q
        rw [zS_e (by omega), zS_s h2, hv i (by omega) h2, ← q]; rfl
      · rw [zS_e (by omega), zS_e (by omega)]
theorem cp_eq {N F O S : Int} : zS (zcp N F O) S (F + 1) = zS (zcp N F O) S (O + 1) := by
  by_cases h : F ≤ O
  · exact zS_cut (fun j a b => by unfold zcp; rw [show zbi (N - O) (F - j) = 0 from if_pos (by omega), Int.mul_zero]) (by omega) (O + 1 - S).toNat S (by omega)
  · exact (zS_cut (fun j a b => by unfold zcp; rw [show zbi O j = 0 from if_pos (by omega), Int.zero_mul]) (by omega) (F + 1 - S).toNat S (by omega)).symm
