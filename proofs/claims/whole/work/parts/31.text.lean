theorem ztn (z : Int) : (Int32.ofInt z).toBitVec.toNat = (z % 4294967296).toNat := by
  show (BitVec.ofInt 32 z).toNat = _
  rw [BitVec.toNat_ofInt]; rfl
theorem znI {n : Nat} (h : n < 2147483648) : (nI n).toInt = (n : Int) := nI_toInt (by omega)
theorem zushr8 (x : Int) (s : Int32) (k : Nat) (hk : k ≤ 24) (hs : ((s.toUInt32 &&& Int32.toUInt32 31).toBitVec % 32).toNat = k) : (Int32.ofInt ((((Int32.ofInt x).toUInt32 >>> (s.toUInt32 &&& Int32.toUInt32 31)).toInt32).toInt) &&& Int32.ofInt 255).toInt = x / 2 ^ k % 256 := by
  rw [Int32.ofInt_toInt, pk_and _ 8 (by decide), pk_ushr _ _ k hs, ztn, znI (by omega)]
  have h1 : (0 : Int) ≤ x % 4294967296 := by omega
  obtain ⟨w, hw⟩ : ∃ w : Nat, x % 4294967296 = w := ⟨(x % 4294967296).toNat, by omega⟩
  rw [hw, Int.toNat_natCast]
  have hx : x = (w : Int) + 4294967296 * (x / 4294967296) := by omega
  have e1 : (4294967296 : Int) = 2 ^ k * 2 ^ (32 - k) := by rw [← Int.pow_add]; rw [show k + (32 - k) = 32 by omega]; rfl
  have e2 : (2 : Int) ^ (32 - k) = 256 * 2 ^ (24 - k) := by rw [show 32 - k = 8 + (24 - k) by omega, Int.pow_add]; rfl
  have e3 : x / 2 ^ k = (w : Int) / 2 ^ k + 256 * (2 ^ (24 - k) * (x / 4294967296)) := by
    have hp : (2 : Int) ^ k ≠ 0 := by have := Int.pow_pos (n := 2) (m := k) (by omega); omega
    conv => lhs; rw [hx, e1, e2]
    rw [show (2 : Int) ^ k * (256 * 2 ^ (24 - k)) * (x / (2 ^ k * (256 * 2 ^ (24 - k)))) = 2 ^ k * (256 * (2 ^ (24 - k) * (x / (2 ^ k * (256 * 2 ^ (24 - k)))))) by rw [Int.mul_assoc, Int.mul_assoc], Int.add_mul_ediv_left _ _ hp, ← e2, ← e1]
  rw [e3, Int.add_mul_emod_self_left]
  rw [Int.natCast_emod, Int.natCast_ediv, Int.natCast_pow]; rfl
theorem zby24 (x : Int) : (Int32.ofInt ((((Int32.ofInt x).toUInt32 >>> ((Int32.ofInt 24).toUInt32 &&& Int32.toUInt32 31)).toInt32).toInt) &&& Int32.ofInt 255).toInt = x / 16777216 % 256 := zushr8 x _ 24 (by omega) (by decide)
theorem zby16 (x : Int) : (Int32.ofInt ((((Int32.ofInt x).toUInt32 >>> ((Int32.ofInt 16).toUInt32 &&& Int32.toUInt32 31)).toInt32).toInt) &&& Int32.ofInt 255).toInt = x / 65536 % 256 := zushr8 x _ 16 (by omega) (by decide)
theorem zby8 (x : Int) : (Int32.ofInt ((((Int32.ofInt x).toUInt32 >>> ((Int32.ofInt 8).toUInt32 &&& Int32.toUInt32 31)).toInt32).toInt) &&& Int32.ofInt 255).toInt = x / 256 % 256 := zushr8 x _ 8 (by omega) (by decide)
theorem zby0 (x : Int) : (Int32.ofInt ((((Int32.ofInt x).toUInt32 >>> ((Int32.ofInt 0).toUInt32 &&& Int32.toUInt32 31)).toInt32).toInt) &&& Int32.ofInt 255).toInt = x % 256 := (zushr8 x _ 0 (by omega) (by decide)).trans (by simp)
/-- Text.at -/
def tat (h : zMem) (p : Int) : Int := if 0 ≤ p ∧ p < h 1 1 then h 2 p else -1

set_option maxRecDepth 100000 in
set_option maxHeartbeats 4000000 in
theorem c_at {d n : Nat} {sh : zSh} {h : zMem} {p : Int} (hS : zShp sh) (hR : zRf h) (hp : zi32 p) (hl : 0 ≤ h 1 1 ∧ h 1 1 ≤ 200) : zF yX9_at cX9_at 2 (some .int) (d + 0) 0 0 [(2, 1), (0, p)] n sh h (some (0, tat h p)) n sh h := by
  refine zF.ofT (by decide +kernel) [some (2, 1), some (0, p)] rfl (Nat.le_of_ble_eq_true rfl) ?_
  refine zt_iload_n dX9_at_0 rfl ?_
  refine zt_if_lt (tgt := 21) dX9_at_1 (by decide) (by omega) (fun c_1 => ?_) (fun c_1 => ?_)
  · refine zt_iconst dX9_at_21 ?_
    refine zt_goto (tgt := 31) dX9_at_22 (by decide) ?_
    exact zt_iret dX9_at_31 ⟨by congr 2; unfold tat; split <;> omega, rfl, rfl, rfl⟩
  · refine zt_iload_n dX9_at_4 rfl ?_
    refine zt_aload_n dX9_at_5 rfl ?_
    refine zt_get dX9_at_6 fl_X9_15 (zs_1 hS) ?_
    refine zt_icmp_ge (tgt := 21) dX9_at_9 (by decide) (by omega) (by omega) (fun c_9 => ?_) (fun c_9 => ?_)
    · refine zt_iconst dX9_at_21 ?_
      refine zt_goto (tgt := 31) dX9_at_22 (by decide) ?_
      exact zt_iret dX9_at_31 ⟨by congr 2; unfold tat; split <;> omega, rfl, rfl, rfl⟩
    · refine zt_iload_n dX9_at_12 rfl ?_
      refine zt_aload_n dX9_at_13 rfl ?_
      refine zt_getv dX9_at_14 fl_X9_9 (zs_1 hS) (rf_1_0 hR) ?_
      refine zt_alenv (v := 200) dX9_at_17 (zs_2 hS) (by decide) (by decide) rfl ?_
      refine zt_icmp_lt (tgt := 25) dX9_at_18 (by decide) (by omega) (by decide) (fun c_18 => ?_) (fun c_18 => ?_)
      · refine zt_aload_n dX9_at_25 rfl ?_
        refine zt_getv dX9_at_26 fl_X9_9 (zs_1 hS) (rf_1_0 hR) ?_
        refine zt_iload_n dX9_at_29 rfl ?_
        refine zt_iaload dX9_at_30 (zs_2 hS) (by decide) (by omega) (by omega) ?_
        exact zt_iret dX9_at_31 ⟨by congr 2; unfold tat; split <;> omega, rfl, rfl, rfl⟩
      · refine zt_iconst dX9_at_21 ?_
        refine zt_goto (tgt := 31) dX9_at_22 (by decide) ?_
        exact zt_iret dX9_at_31 ⟨by congr 2; unfold tat; split <;> omega, rfl, rfl, rfl⟩

/-- the memory behind Text.append -/
def tapp (h : zMem) (x : Int) : zMem := (zup (zup (zup (zup (zup (zup (zup (zup h 2 (h 1 1) (x / 16777216 % 256)) 1 1 ((h 1 1) + 1)) 2 ((h 1 1) + 1) (x / 65536 % 256)) 1 1 (((h 1 1) + 1) + 1)) 2 (((h 1 1) + 1) + 1) (x / 256 % 256)) 1 1 ((((h 1 1) + 1) + 1) + 1)) 2 ((((h 1 1) + 1) + 1) + 1) (x % 256)) 1 1 (((((h 1 1) + 1) + 1) + 1) + 1))

set_option maxRecDepth 100000 in
set_option maxHeartbeats 4000000 in
theorem c_append {d n : Nat} {sh : zSh} {h : zMem} {x : Int} (hS : zShp sh) (hR : zRf h) (hl : 0 ≤ h 1 1 ∧ h 1 1 ≤ 196) : zF yX9_append cX9_append 3 none (d + 0) 0 0 [(2, 1), (0, x)] n sh h none n sh (tapp h x) := by
  refine zF.ofT (by decide +kernel) [some (2, 1), some (0, x), none] rfl (Nat.le_of_ble_eq_true rfl) ?_
  refine zt_bipush dX9_append_0 (by decide) ?_
  refine zt_istore_n_2 dX9_append_2 (by decide) rfl ?_
  refine zt_iload_n dX9_append_3 rfl ?_
  refine zt_if_lt (tgt := 51) dX9_append_4 (by decide) (by decide) (fun q => absurd q (by decide)) (fun c_4 => ?_)
  refine zt_aload_n dX9_append_7 rfl ?_
  refine zt_get dX9_append_8 fl_X9_15 (zs_1 hS) ?_
  refine zt_aload_n dX9_append_11 rfl ?_
  refine zt_getv dX9_append_12 fl_X9_9 (zs_1 hS) (rf_1_0 hR) ?_
  refine zt_alenv (v := 200) dX9_append_15 (zs_2 hS) (by decide) (by decide) rfl ?_
  refine zt_icmp_ge (tgt := 45) dX9_append_16 (by decide) (by omega) (by decide) (fun c_16 => ?_) (fun c_16 => ?_)
  · exfalso
    omega
  · refine zt_aload_n dX9_append_19 rfl ?_
    refine zt_getv dX9_append_20 fl_X9_9 (zs_1 hS) (rf_1_0 hR) ?_
    refine zt_aload_n dX9_append_23 rfl ?_
    refine zt_get dX9_append_24 fl_X9_15 (zs_1 hS) ?_
    refine zt_iload_n dX9_append_27 rfl ?_
    refine zt_iload_n dX9_append_28 rfl ?_
    refine zt_iushr dX9_append_29 ?_
    refine zt_sipush dX9_append_30 (by decide) ?_
    refine zt_iand dX9_append_33 ?_
    refine zt_topv (zby24 x) ?_
    refine zt_iastore dX9_append_34 (zs_2 hS) (by decide) (by omega) (by omega) (by omega) ?_
    refine zt_aload_n dX9_append_35 rfl ?_
    refine zt_dup dX9_append_36 (Nat.ne_of_beq_eq_false rfl) ?_
    refine zt_getv (v := h 1 1) dX9_append_37 fl_X9_15 (zs_1 hS) ((zupA (by decide)).trans rfl) ?_
    refine zt_iconst dX9_append_40 ?_
    refine zt_iadd dX9_append_41 ?_
    refine zt_puti dX9_append_42 fl_X9_15 rfl (zs_1 hS) (by omega) ?_
    refine zt_iincv_2 (v := 16) dX9_append_45 (by decide) rfl (by decide) ?_
    refine zt_goto (tgt := 3) dX9_append_48 (by decide) ?_
    refine zt_iload_n dX9_append_3 rfl ?_
    refine zt_if_lt (tgt := 51) dX9_append_4 (by decide) (by decide) (fun q => absurd q (by decide)) (fun c_4 => ?_)
    refine zt_aload_n dX9_append_7 rfl ?_
    refine zt_getv (v := (h 1 1) + 1) dX9_append_8 fl_X9_15 (zs_1 hS) zupE ?_
    refine zt_aload_n dX9_append_11 rfl ?_
    refine zt_getv dX9_append_12 fl_X9_9 (zs_1 hS) (rf_1_0 ((hR.upA (by decide)).up (by decide))) ?_
    refine zt_alenv (v := 200) dX9_append_15 (zs_2 hS) (by decide) (by decide) rfl ?_
    refine zt_icmp_ge (tgt := 45) dX9_append_16 (by decide) (by omega) (by decide) (fun c_16 => ?_) (fun c_16 => ?_)
    · exfalso
      omega
    · refine zt_aload_n dX9_append_19 rfl ?_
      refine zt_getv dX9_append_20 fl_X9_9 (zs_1 hS) (rf_1_0 ((hR.upA (by decide)).up (by decide))) ?_
      refine zt_aload_n dX9_append_23 rfl ?_
      refine zt_getv (v := (h 1 1) + 1) dX9_append_24 fl_X9_15 (zs_1 hS) zupE ?_
      refine zt_iload_n dX9_append_27 rfl ?_
      refine zt_iload_n dX9_append_28 rfl ?_
      refine zt_iushr dX9_append_29 ?_
      refine zt_sipush dX9_append_30 (by decide) ?_
      refine zt_iand dX9_append_33 ?_
      refine zt_topv (zby16 x) ?_
      refine zt_iastore dX9_append_34 (zs_2 hS) (by decide) (by omega) (by omega) (by omega) ?_
      refine zt_aload_n dX9_append_35 rfl ?_
      refine zt_dup dX9_append_36 (Nat.ne_of_beq_eq_false rfl) ?_
      refine zt_getv (v := (h 1 1) + 1) dX9_append_37 fl_X9_15 (zs_1 hS) ((zupA (by decide)).trans zupE) ?_
      refine zt_iconst dX9_append_40 ?_
      refine zt_iadd dX9_append_41 ?_
      refine zt_puti dX9_append_42 fl_X9_15 rfl (zs_1 hS) (by omega) ?_
      refine zt_iincv_2 (v := 8) dX9_append_45 (by decide) rfl (by decide) ?_
      refine zt_goto (tgt := 3) dX9_append_48 (by decide) ?_
      refine zt_iload_n dX9_append_3 rfl ?_
      refine zt_if_lt (tgt := 51) dX9_append_4 (by decide) (by decide) (fun q => absurd q (by decide)) (fun c_4 => ?_)
      refine zt_aload_n dX9_append_7 rfl ?_
      refine zt_getv (v := ((h 1 1) + 1) + 1) dX9_append_8 fl_X9_15 (zs_1 hS) zupE ?_
      refine zt_aload_n dX9_append_11 rfl ?_
      refine zt_getv dX9_append_12 fl_X9_9 (zs_1 hS) (rf_1_0 ((((hR.upA (by decide)).up (by decide)).upA (by decide)).up (by decide))) ?_
      refine zt_alenv (v := 200) dX9_append_15 (zs_2 hS) (by decide) (by decide) rfl ?_
      refine zt_icmp_ge (tgt := 45) dX9_append_16 (by decide) (by omega) (by decide) (fun c_16 => ?_) (fun c_16 => ?_)
      · exfalso
        omega
      · refine zt_aload_n dX9_append_19 rfl ?_
        refine zt_getv dX9_append_20 fl_X9_9 (zs_1 hS) (rf_1_0 ((((hR.upA (by decide)).up (by decide)).upA (by decide)).up (by decide))) ?_
        refine zt_aload_n dX9_append_23 rfl ?_
        refine zt_getv (v := ((h 1 1) + 1) + 1) dX9_append_24 fl_X9_15 (zs_1 hS) zupE ?_
        refine zt_iload_n dX9_append_27 rfl ?_
        refine zt_iload_n dX9_append_28 rfl ?_
        refine zt_iushr dX9_append_29 ?_
        refine zt_sipush dX9_append_30 (by decide) ?_
        refine zt_iand dX9_append_33 ?_
        refine zt_topv (zby8 x) ?_
        refine zt_iastore dX9_append_34 (zs_2 hS) (by decide) (by omega) (by omega) (by omega) ?_
        refine zt_aload_n dX9_append_35 rfl ?_
        refine zt_dup dX9_append_36 (Nat.ne_of_beq_eq_false rfl) ?_
        refine zt_getv (v := ((h 1 1) + 1) + 1) dX9_append_37 fl_X9_15 (zs_1 hS) ((zupA (by decide)).trans zupE) ?_
        refine zt_iconst dX9_append_40 ?_
        refine zt_iadd dX9_append_41 ?_
        refine zt_puti dX9_append_42 fl_X9_15 rfl (zs_1 hS) (by omega) ?_
        refine zt_iincv_2 (v := 0) dX9_append_45 (by decide) rfl (by decide) ?_
        refine zt_goto (tgt := 3) dX9_append_48 (by decide) ?_
        refine zt_iload_n dX9_append_3 rfl ?_
        refine zt_if_lt (tgt := 51) dX9_append_4 (by decide) (by decide) (fun q => absurd q (by decide)) (fun c_4 => ?_)
        refine zt_aload_n dX9_append_7 rfl ?_
        refine zt_getv (v := (((h 1 1) + 1) + 1) + 1) dX9_append_8 fl_X9_15 (zs_1 hS) zupE ?_
        refine zt_aload_n dX9_append_11 rfl ?_
        refine zt_getv dX9_append_12 fl_X9_9 (zs_1 hS) (rf_1_0 ((((((hR.upA (by decide)).up (by decide)).upA (by decide)).up (by decide)).upA (by decide)).up (by decide))) ?_
        refine zt_alenv (v := 200) dX9_append_15 (zs_2 hS) (by decide) (by decide) rfl ?_
        refine zt_icmp_ge (tgt := 45) dX9_append_16 (by decide) (by omega) (by decide) (fun c_16 => ?_) (fun c_16 => ?_)
        · exfalso
          omega
        · refine zt_aload_n dX9_append_19 rfl ?_
          refine zt_getv dX9_append_20 fl_X9_9 (zs_1 hS) (rf_1_0 ((((((hR.upA (by decide)).up (by decide)).upA (by decide)).up (by decide)).upA (by decide)).up (by decide))) ?_
          refine zt_aload_n dX9_append_23 rfl ?_
          refine zt_getv (v := (((h 1 1) + 1) + 1) + 1) dX9_append_24 fl_X9_15 (zs_1 hS) zupE ?_
          refine zt_iload_n dX9_append_27 rfl ?_
          refine zt_iload_n dX9_append_28 rfl ?_
          refine zt_iushr dX9_append_29 ?_
          refine zt_sipush dX9_append_30 (by decide) ?_
          refine zt_iand dX9_append_33 ?_
          refine zt_topv (zby0 x) ?_
          refine zt_iastore dX9_append_34 (zs_2 hS) (by decide) (by omega) (by omega) (by omega) ?_
          refine zt_aload_n dX9_append_35 rfl ?_
          refine zt_dup dX9_append_36 (Nat.ne_of_beq_eq_false rfl) ?_
          refine zt_getv (v := (((h 1 1) + 1) + 1) + 1) dX9_append_37 fl_X9_15 (zs_1 hS) ((zupA (by decide)).trans zupE) ?_
          refine zt_iconst dX9_append_40 ?_
          refine zt_iadd dX9_append_41 ?_
          refine zt_puti dX9_append_42 fl_X9_15 rfl (zs_1 hS) (by omega) ?_
          refine zt_iincv_2 (v := -8) dX9_append_45 (by decide) rfl (by decide) ?_
          refine zt_goto (tgt := 3) dX9_append_48 (by decide) ?_
          refine zt_iload_n dX9_append_3 rfl ?_
          refine zt_if_lt (tgt := 51) dX9_append_4 (by decide) (by decide) (fun c_4 => ?_) (fun q => absurd q (by decide))
          exact zt_vret dX9_append_51 ⟨rfl, rfl, rfl, rfl⟩
