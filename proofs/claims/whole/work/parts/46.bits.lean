theorem zlandN {a b : Nat} (ha : a < 2147483648) (hb : b < 2147483648) : (Int32.ofInt (a : Int) &&& Int32.ofInt (b : Int)).toInt = ((a &&& b : Nat) : Int) := by
  have h1 : (Int32.ofInt (a : Int) &&& Int32.ofInt (b : Int)) = nI (a &&& b) := by
    show Int32.ofBitVec (BitVec.ofInt 32 (a : Int) &&& BitVec.ofInt 32 (b : Int)) = Int32.ofBitVec _
    congr 1
    apply BitVec.eq_of_toNat_eq
    rw [BitVec.toNat_and, BitVec.toNat_ofInt, BitVec.toNat_ofInt]
    have e1 : ((a : Int) % ((2 ^ 32 : Nat) : Int)).toNat = a := by omega
    have e2 : ((b : Int) % ((2 ^ 32 : Nat) : Int)).toNat = b := by omega
    rw [e1, e2]
    have h3 : a &&& b ≤ a := Nat.and_le_left
    show _ = (BitVec.ofInt 32 ((a &&& b : Nat) : Int)).toNat
    rw [BitVec.toNat_ofInt]; omega
  rw [h1]; exact znI (Nat.lt_of_le_of_lt Nat.and_le_left ha)
theorem zushN {a : Nat} (ha : a < 2147483648) (s : Int32) (k : Nat) (hs : ((s.toUInt32 &&& Int32.toUInt32 31).toBitVec % 32).toNat = k) : (((Int32.ofInt (a : Int)).toUInt32 >>> (s.toUInt32 &&& Int32.toUInt32 31)).toInt32).toInt = ((a / 2 ^ k : Nat) : Int) := by
  have h2 : (Int32.ofInt (a : Int)).toBitVec.toNat = a := by rw [ztn]; omega
  have h3 : a / 2 ^ k ≤ a := Nat.div_le_self _ _
  have h4 : Int32.ofInt (a : Int) = nI a := rfl
  rw [h4, pk_ushrN (by omega) _ k hs]
  exact znI (by omega)
theorem zlsp {X Y m0 m1 : Nat} (hx : X < 256) (hm : m0 < 256) : (X + 256 * Y) &&& (m0 + 256 * m1) = (X &&& m0) + 256 * (Y &&& m1) := by
  have h1 : ((X + 256 * Y) &&& (m0 + 256 * m1)) % 2 ^ 8 = (X &&& m0) := by rw [Nat.and_mod_two_pow]; congr 1 <;> omega
  have h2 : ((X + 256 * Y) &&& (m0 + 256 * m1)) / 2 ^ 8 = (Y &&& m1) := by rw [Nat.and_div_two_pow]; congr 1 <;> omega
  omega
def jb1 (x : Nat) : Nat := x - (x / 2 &&& 85)
def jb2 (x : Nat) : Nat := (jb1 x &&& 51) + (jb1 x / 4 &&& 51)
def jb3 (x : Nat) : Nat := jb2 x + jb2 x / 16 &&& 15
theorem jbd1 : ∀ x : Nat, x < 256 → ∀ e : Nat, e < 2 → (x / 2 + 128 * e) &&& 85 = x / 2 &&& 85 := by decide +kernel
theorem jbd2 : ∀ x : Nat, x < 256 → ∀ e : Nat, e < 4 → (jb1 x / 4 + 64 * e) &&& 51 = jb1 x / 4 &&& 51 := by decide +kernel
theorem jbd3 : ∀ x : Nat, x < 256 → ∀ e : Nat, e < 5 → (jb2 x + jb2 x / 16 + 16 * e) &&& 15 = jb2 x + jb2 x / 16 &&& 15 := by decide +kernel
theorem jbr : ∀ x : Nat, x < 256 → (x / 2 &&& 85) ≤ x ∧ jb1 x < 256 ∧ jb2 x % 16 < 5 ∧ jb2 x / 16 < 5 ∧ jb3 x ≤ 8 ∧ (jb3 x : Int) = bt 8 (x : Int) := by decide +kernel
theorem jbz : ∀ z : Nat, z < 16 → (z / 2 &&& 21845) = (z / 2 &&& 85) ∧ (jb1 z &&& 13107) = (jb1 z &&& 51) ∧ (jb1 z / 4 &&& 13107) = (jb1 z / 4 &&& 51) ∧ (jb2 z + jb2 z / 16 &&& 3855) = jb3 z ∧ (jb3 z : Int) = bt 4 (z : Int) := by decide +kernel
theorem bt_sp (N : Nat) (x y : Int) (hx : 0 ≤ x ∧ x < 256) : bt (N + 8) (x + 256 * y) = bt 8 x + bt N y := by
  have h : ∀ v, bt (N + 8) v = v % 2 + (v / 2 % 2 + (v / 2 / 2 % 2 + (v / 2 / 2 / 2 % 2 + (v / 2 / 2 / 2 / 2 % 2 + (v / 2 / 2 / 2 / 2 / 2 % 2 + (v / 2 / 2 / 2 / 2 / 2 / 2 % 2 + (v / 2 / 2 / 2 / 2 / 2 / 2 / 2 % 2 + bt N (v / 2 / 2 / 2 / 2 / 2 / 2 / 2 / 2)))))))) := fun v => rfl
  have h8 : ∀ v, bt 8 v = v % 2 + (v / 2 % 2 + (v / 2 / 2 % 2 + (v / 2 / 2 / 2 % 2 + (v / 2 / 2 / 2 / 2 % 2 + (v / 2 / 2 / 2 / 2 / 2 % 2 + (v / 2 / 2 / 2 / 2 / 2 / 2 % 2 + (v / 2 / 2 / 2 / 2 / 2 / 2 / 2 % 2 + 0))))))) := fun v => rfl
  rw [h, h8, show (x + 256 * y) / 2 / 2 / 2 / 2 / 2 / 2 / 2 / 2 = y by omega]
  omega
def jA (w : Nat) : Nat := w - (w / 2 &&& 1431655765)
def jB (w : Nat) : Nat := (w &&& 858993459) + (w / 4 &&& 858993459)
def jC (w : Nat) : Nat := w + w / 16 &&& 252645135
theorem jA_e {x y z : Nat} (hx : x < 256) (hy : y < 256) (hz : z < 16) : jA (x + 256 * (y + 256 * z)) = jb1 x + 256 * (jb1 y + 256 * jb1 z) := by
  have hX := jbr x hx
  have hY := jbr y hy
  have hZ := jbr z (by omega)
  have e : (x + 256 * (y + 256 * z)) / 2 = (x / 2 + 128 * (y % 2)) + 256 * ((y / 2 + 128 * (z % 2)) + 256 * (z / 2)) := by omega
  unfold jA
  rw [e, show 1431655765 = 85 + 256 * (85 + 256 * 21845) from rfl, zlsp (by omega) (by decide), zlsp (by omega) (by decide), jbd1 x hx _ (by omega), jbd1 y hy _ (by omega), (jbz z hz).1]
  unfold jb1
  omega
theorem jB_e {x y z : Nat} (hx : x < 256) (hy : y < 256) (hz : z < 16) : jB (jb1 x + 256 * (jb1 y + 256 * jb1 z)) = jb2 x + 256 * (jb2 y + 256 * jb2 z) := by
  have hX := jbr x hx
  have hY := jbr y hy
  have hZ := jbr z (by omega)
  have e : (jb1 x + 256 * (jb1 y + 256 * jb1 z)) / 4 = (jb1 x / 4 + 64 * (jb1 y % 4)) + 256 * ((jb1 y / 4 + 64 * (jb1 z % 4)) + 256 * (jb1 z / 4)) := by omega
  unfold jB
  rw [e, show 858993459 = 51 + 256 * (51 + 256 * 13107) from rfl, zlsp (by omega) (by decide), zlsp (by omega) (by decide), zlsp (by omega) (by decide), zlsp (by omega) (by decide), jbd2 x hx _ (by omega), jbd2 y hy _ (by omega), (jbz z hz).2.1, (jbz z hz).2.2.1]
  unfold jb2
  omega
theorem jC_e {x y z : Nat} (hx : x < 256) (hy : y < 256) (hz : z < 16) : jC (jb2 x + 256 * (jb2 y + 256 * jb2 z)) = jb3 x + 256 * (jb3 y + 256 * jb3 z) := by
  have hX := jbr x hx
  have hY := jbr y hy
  have hZ := jbr z (by omega)
  have e : (jb2 x + 256 * (jb2 y + 256 * jb2 z)) + (jb2 x + 256 * (jb2 y + 256 * jb2 z)) / 16 = (jb2 x + jb2 x / 16 + 16 * (jb2 y % 16)) + 256 * ((jb2 y + jb2 y / 16 + 16 * (jb2 z % 16)) + 256 * (jb2 z + jb2 z / 16)) := by omega
  unfold jC
  rw [e, show 252645135 = 15 + 256 * (15 + 256 * 3855) from rfl, zlsp (by omega) (by decide), zlsp (by omega) (by decide), jbd3 x hx _ (by omega), jbd3 y hy _ (by omega), (jbz z hz).2.2.2.1]
  rfl
theorem jfin {u v w : Nat} (hu : u ≤ 8) (hv : v ≤ 8) (hw : w ≤ 8) : ((u + 256 * (v + 256 * w)) + (u + 256 * (v + 256 * w)) / 256 + ((u + 256 * (v + 256 * w)) + (u + 256 * (v + 256 * w)) / 256) / 65536) % 64 = u + v + w := by
  rw [show (u + 256 * (v + 256 * w)) / 256 = v + 256 * w by omega, show (u + 256 * (v + 256 * w) + (v + 256 * w)) / 65536 = w by omega]
  rw [show u + 256 * (v + 256 * w) + (v + 256 * w) + w = (u + v + w) + 64 * (4 * v + 4 * w + 1024 * w) by omega, Nat.add_mul_mod_self_left]
  exact Nat.mod_eq_of_lt (by omega)
def jbc (w : Nat) : Nat :=
  let c := jC (jB (jA w))
  let d := c + c / 256
  (d + d / 65536) &&& 63
theorem jbc_e {w : Nat} (hw : w < 1048576) : (jbc w : Int) = bts (w : Int) ∧ jA w < 2147483648 ∧ jB (jA w) < 1000000000 ∧ jC (jB (jA w)) < 1000000 := by
  obtain ⟨x, y, z, hx, hy, hz, e⟩ : ∃ x y z : Nat, x < 256 ∧ y < 256 ∧ z < 16 ∧ w = x + 256 * (y + 256 * z) := ⟨w % 256, w / 256 % 256, w / 65536, by omega, by omega, by omega, by omega⟩
  subst e
  have hX := jbr x hx
  have hY := jbr y hy
  have hZ := jbr z (by omega)
  have hz2 := (jbz z hz).2.2.2.2
  have hc : bts ((x + 256 * (y + 256 * z) : Nat) : Int) = bt 8 x + (bt 8 y + bt 4 z) := by
    rw [show ((x + 256 * (y + 256 * z) : Nat) : Int) = (x : Int) + 256 * ((y : Int) + 256 * (z : Int)) by omega]
    show bt (12 + 8) _ = _
    rw [bt_sp 12 _ _ (by omega)]
    show _ + bt (4 + 8) _ = _
    rw [bt_sp 4 _ _ (by omega)]
  refine ⟨?_, ?_⟩
  · unfold jbc
    rw [jA_e hx hy hz, jB_e hx hy hz, jC_e hx hy hz, hc]
    show (((jb3 x + 256 * (jb3 y + 256 * jb3 z)) + (jb3 x + 256 * (jb3 y + 256 * jb3 z)) / 256 + ((jb3 x + 256 * (jb3 y + 256 * jb3 z)) + (jb3 x + 256 * (jb3 y + 256 * jb3 z)) / 256) / 65536 &&& (2 ^ 6 - 1) : Nat) : Int) = _
    rw [Nat.and_two_pow_sub_one_eq_mod, show (2 ^ 6 : Nat) = 64 from rfl, jfin hX.2.2.2.2.1 hY.2.2.2.2.1 hZ.2.2.2.2.1]
    have q1 := hX.2.2.2.2.2
    have q2 := hY.2.2.2.2.2
    rw [← q1, ← q2, ← hz2]
    omega
  · rw [jA_e hx hy hz, jB_e hx hy hz, jC_e hx hy hz]; omega

set_option maxRecDepth 100000 in
set_option maxHeartbeats 4000000 in
theorem c_bc {d n : Nat} {sh : zSh} {h : zMem} {w : Nat} (hw : w < 1048576) : zF yJ6_bitCount_0f7a4 cJ6_bitCount_0f7a4 1 (some .int) (d + 0) 0 0 [(0, (w : Int))] n sh h (some (0, bts (w : Int))) n sh h := by
  refine zF.ofTF (by decide +kernel) [some (0, (w : Int))] rfl (Nat.le_of_ble_eq_true rfl) ?_
  have hj := jbc_e hw
  refine zt_iload_n dJ6_bitCount_0f7a4_0 rfl ?_
  refine zt_iload_n dJ6_bitCount_0f7a4_1 rfl ?_
  refine zt_iconst dJ6_bitCount_0f7a4_2 ?_
  refine zt_iushr dJ6_bitCount_0f7a4_3 ?_
  refine zt_topv (v := ((w / 2 : Nat) : Int)) (zushN (a := w) (k := 1) (by omega) _ (by decide)) ?_
  refine zt_ldc_w dJ6_bitCount_0f7a4_4 kc_J6_265 ?_
  refine zt_iand dJ6_bitCount_0f7a4_7 ?_
  refine zt_topv (v := ((w / 2 &&& 1431655765 : Nat) : Int)) (zlandN (b := 1431655765) (by omega) (by decide)) ?_
  refine zt_isub dJ6_bitCount_0f7a4_8 ?_
  refine zt_topv (v := ((jA w : Nat) : Int)) (by have : w / 2 &&& 1431655765 ≤ w / 2 := Nat.and_le_left; unfold jA; omega) ?_
  refine zt_istore_n_0 dJ6_bitCount_0f7a4_9 (by decide) ?_
  refine zt_iload_n dJ6_bitCount_0f7a4_10 rfl ?_
  refine zt_ldc_w dJ6_bitCount_0f7a4_11 kc_J6_266 ?_
  refine zt_iand dJ6_bitCount_0f7a4_14 ?_
  refine zt_topv (v := ((jA w &&& 858993459 : Nat) : Int)) (zlandN (b := 858993459) (by omega) (by decide)) ?_
  refine zt_iload_n dJ6_bitCount_0f7a4_15 rfl ?_
  refine zt_iconst dJ6_bitCount_0f7a4_16 ?_
  refine zt_iushr dJ6_bitCount_0f7a4_17 ?_
  refine zt_topv (v := ((jA w / 4 : Nat) : Int)) (zushN (a := jA w) (k := 2) (by omega) _ (by decide)) ?_
  refine zt_ldc_w dJ6_bitCount_0f7a4_18 kc_J6_266 ?_
  refine zt_iand dJ6_bitCount_0f7a4_21 ?_
  refine zt_topv (v := ((jA w / 4 &&& 858993459 : Nat) : Int)) (zlandN (b := 858993459) (by omega) (by decide)) ?_
  refine zt_iadd dJ6_bitCount_0f7a4_22 ?_
  refine zt_topv (v := ((jB (jA w) : Nat) : Int)) (by unfold jB; omega) ?_
  refine zt_istore_n_0 dJ6_bitCount_0f7a4_23 (by decide) ?_
  refine zt_iload_n dJ6_bitCount_0f7a4_24 rfl ?_
  refine zt_iload_n dJ6_bitCount_0f7a4_25 rfl ?_
  refine zt_iconst dJ6_bitCount_0f7a4_26 ?_
  refine zt_iushr dJ6_bitCount_0f7a4_27 ?_
  refine zt_topv (v := ((jB (jA w) / 16 : Nat) : Int)) (zushN (a := jB (jA w)) (k := 4) (by omega) _ (by decide)) ?_
  refine zt_iadd dJ6_bitCount_0f7a4_28 ?_
  refine zt_topv (v := ((jB (jA w) + jB (jA w) / 16 : Nat) : Int)) (by omega) ?_
  refine zt_ldc_w dJ6_bitCount_0f7a4_29 kc_J6_267 ?_
  refine zt_iand dJ6_bitCount_0f7a4_32 ?_
  refine zt_topv (v := ((jC (jB (jA w)) : Nat) : Int)) (zlandN (a := jB (jA w) + jB (jA w) / 16) (b := 252645135) (by omega) (by decide)) ?_
  refine zt_istore_n_0 dJ6_bitCount_0f7a4_33 (by decide) ?_
  refine zt_iload_n dJ6_bitCount_0f7a4_34 rfl ?_
  refine zt_iload_n dJ6_bitCount_0f7a4_35 rfl ?_
  refine zt_bipush dJ6_bitCount_0f7a4_36 (by decide) ?_
  refine zt_iushr dJ6_bitCount_0f7a4_38 ?_
  refine zt_topv (v := ((jC (jB (jA w)) / 256 : Nat) : Int)) (zushN (a := jC (jB (jA w))) (k := 8) (by omega) _ (by decide)) ?_
  refine zt_iadd dJ6_bitCount_0f7a4_39 ?_
  refine zt_topv (v := ((jC (jB (jA w)) + jC (jB (jA w)) / 256 : Nat) : Int)) (by omega) ?_
  refine zt_istore_n_0 dJ6_bitCount_0f7a4_40 (by decide) ?_
  refine zt_iload_n dJ6_bitCount_0f7a4_41 rfl ?_
  refine zt_iload_n dJ6_bitCount_0f7a4_42 rfl ?_
  refine zt_bipush dJ6_bitCount_0f7a4_43 (by decide) ?_
  refine zt_iushr dJ6_bitCount_0f7a4_45 ?_
  refine zt_topv (v := (((jC (jB (jA w)) + jC (jB (jA w)) / 256) / 65536 : Nat) : Int)) (zushN (a := jC (jB (jA w)) + jC (jB (jA w)) / 256) (k := 16) (by omega) _ (by decide)) ?_
  refine zt_iadd dJ6_bitCount_0f7a4_46 ?_
  refine zt_topv (v := (((jC (jB (jA w)) + jC (jB (jA w)) / 256) + (jC (jB (jA w)) + jC (jB (jA w)) / 256) / 65536 : Nat) : Int)) (by omega) ?_
  refine zt_istore_n_0 dJ6_bitCount_0f7a4_47 (by decide) ?_
  refine zt_iload_n dJ6_bitCount_0f7a4_48 rfl ?_
  refine zt_bipush dJ6_bitCount_0f7a4_49 (by decide) ?_
  refine zt_iand dJ6_bitCount_0f7a4_51 ?_
  refine zt_topv (v := bts (w : Int)) ((zlandN (a := (jC (jB (jA w)) + jC (jB (jA w)) / 256) + (jC (jB (jA w)) + jC (jB (jA w)) / 256) / 65536) (b := 63) (by omega) (by decide)).trans hj.1) ?_
  exact zt_iret dJ6_bitCount_0f7a4_52 ⟨rfl, rfl, rfl, rfl⟩

theorem c_bitc {d n : Nat} {sh : zSh} {h : zMem} {x : Int} (h0 : 0 ≤ x) (h1 : x < 1048576) : zF yJ6_bitCount_0f7a4 cJ6_bitCount_0f7a4 1 (some .int) (d + 0) 0 0 [(0, x)] n sh h (some (0, bts x)) n sh h := by
  obtain ⟨w, rfl⟩ : ∃ w : Nat, x = w := ⟨x.toNat, by omega⟩
  exact c_bc (by omega)
