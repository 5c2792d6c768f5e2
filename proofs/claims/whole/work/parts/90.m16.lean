theorem zshr20 {x i : Int} (hx : 0 ≤ x ∧ x < 1048576) (hi : 0 ≤ i ∧ i < 20) : (Int32.ofInt x >>> (Int32.ofInt i &&& 31)).toInt = x / 2 ^ i.toNat := by
  have hw : (Int32.ofInt x).toInt = x := Int32.toInt_ofInt_of_le (by omega) (by omega)
  obtain ⟨k, rfl⟩ : ∃ k : Nat, i = k := ⟨i.toNat, by omega⟩
  have hk : ∀ k : Nat, k < 20 → ((Int32.ofInt (k : Int) &&& 31).toBitVec.smod 32).toNat = k := by decide +kernel
  rw [pk_shr _ _ k (hk k (by omega)), hw, Int.shiftRight_eq_div_pow, Int.toNat_natCast]
  norm_cast
theorem zand1 {y : Int} (hy : 0 ≤ y ∧ y < 1048576) : (Int32.ofInt y &&& Int32.ofInt 1).toInt = y % 2 := by
  obtain ⟨k, rfl⟩ : ∃ k : Nat, y = k := ⟨y.toNat, by omega⟩
  rw [show (1 : Int) = ((1 : Nat) : Int) from rfl, zlandN (by omega) (by decide), Nat.and_one_is_mod]
  omega
theorem zdp {x i : Int} (hx : 0 ≤ x ∧ x < 1048576) (hi : 0 ≤ i) : (0 ≤ x / 2 ^ i.toNat ∧ x / 2 ^ i.toNat < 1048576) ∧ x / 2 ^ i.toNat / 2 = x / 2 ^ (i + 1).toNat := by
  have hp : (0 : Int) < 2 ^ i.toNat := Int.pow_pos (by decide)
  refine ⟨⟨Int.ediv_nonneg hx.1 (Int.le_of_lt hp), ?_⟩, ?_⟩
  · have := Int.ediv_le_self (2 ^ i.toNat) hx.1; omega
  · rw [Int.ediv_ediv_of_nonneg (Int.le_of_lt hp), show (i + 1).toNat = i.toNat + 1 by omega, Int.pow_succ]

set_option maxRecDepth 100000 in
set_option maxHeartbeats 4000000 in
theorem l_jbi {d n : Nat} {sh : zSh} {h : zMem} {x : Int} (hx : 0 ≤ x ∧ x < 1048576) : ∀ (k : Nat) (i : Int) (f : Int), 20 - i < (k : Int) → 0 ≤ i → i ≤ 20 → bts x = f + bt (20 - i).toNat (x / 2 ^ i.toNat) → zT yX11_bits cX11_bits 3 (some .int) (d + 0) 0 0 (zq (some (0, bts x)) n sh h) 4 [some (0, x), some (0, f), some (0, i)] [] n sh h := by
  intro k
  induction k with
  | zero => intros; exfalso; omega
  | succ k ih =>
    intro i f hk h0 h1 hr
    refine zt_iload_n dX11_bits_4 rfl ?_
    refine zt_bipush dX11_bits_5 (by decide) ?_
    refine zt_icmp_ge (tgt := 24) dX11_bits_7 (by decide) (by omega) (by decide) (fun c_7 => ?_) (fun c_7 => ?_)
    · refine zt_iload_n dX11_bits_24 rfl ?_
      exact zt_iret dX11_bits_25 ⟨by rw [hr, show (20 - i).toNat = 0 by omega]; congr 2; exact (Int.add_zero f).symm, rfl, rfl, rfl⟩
    · refine zt_iload_n dX11_bits_10 rfl ?_
      refine zt_iload_n dX11_bits_11 rfl ?_
      refine zt_iload_n dX11_bits_12 rfl ?_
      refine zt_ishr dX11_bits_13 ?_
      refine zt_topv (v := x / 2 ^ i.toNat) (zshr20 hx (by omega)) ?_
      refine zt_iconst dX11_bits_14 ?_
      refine zt_iand dX11_bits_15 ?_
      refine zt_topv (v := x / 2 ^ i.toNat % 2) (zand1 (zdp hx h0).1) ?_
      refine zt_iadd dX11_bits_16 ?_
      refine zt_istore_n_1 dX11_bits_17 (by decide) rfl ?_
      refine zt_iinc_2 dX11_bits_18 (by decide) rfl ?_
      refine zt_goto (tgt := 4) dX11_bits_21 (by decide) ?_
      exact ih (i + 1) _ (by omega) (by omega) (by omega) (by rw [hr, show (20 - i).toNat = (20 - (i + 1)).toNat + 1 by omega, ← (zdp hx h0).2]; show f + (_ + _) = _; omega)

set_option maxRecDepth 100000 in
set_option maxHeartbeats 4000000 in
theorem c_jbi {d n : Nat} {sh : zSh} {h : zMem} {x : Int} (hx : 0 ≤ x ∧ x < 1048576) : zF yX11_bits cX11_bits 3 (some .int) (d + 0) 0 0 [(0, x)] n sh h (some (0, bts x)) n sh h := by
  refine zF.ofT (by decide +kernel) [some (0, x), none, none] rfl (Nat.le_of_ble_eq_true rfl) ?_
  refine zt_iconst dX11_bits_0 ?_
  refine zt_istore_n_1 dX11_bits_1 (by decide) rfl ?_
  refine zt_iconst dX11_bits_2 ?_
  refine zt_istore_n_2 dX11_bits_3 (by decide) rfl ?_
  exact l_jbi hx 21 0 0 (by omega) (by omega) (by omega) (by show _ = 0 + bt 20 (x / 1); rw [Int.ediv_one, Int.zero_add])
