section zRules4
variable {y : MethodName} {cc : ByteArray} {mL : Nat} {rt : Option FieldType} {d kc ks : Nat} {Q : Option zV → Nat → zSh → zMem → Prop} {pc : Nat} {ls : List (Option zV)} {st : List zV} {n : Nat} {sh : zSh} {h : zMem}
theorem zi32_t {z : Int} (h : zi32 z) : (Int32.ofInt z).toInt = z := Int32.toInt_ofInt_of_le (by have := h.1; omega) (by have := h.2; omega)
theorem zi64_t {z : Int} (h : zi64 z) : (Int64.ofInt z).toInt = z := Int64.toInt_ofInt_of_le (by have := h.1; omega) (by have := h.2; omega)
theorem zi32_in (x : Int32) : zi32 x.toInt := by
  have h1 := x.le_toInt
  have h2 := x.toInt_lt
  unfold zi32; omega
theorem zi64_in (x : Int64) : zi64 x.toInt := by
  have h1 := x.le_toInt
  have h2 := x.toInt_lt
  unfold zi64; omega
theorem zi32_lt {a b : Int} (ha : zi32 a) (hb : zi32 b) : Int32.ofInt a < Int32.ofInt b ↔ a < b := by rw [Int32.lt_iff_toInt_lt, zi32_t ha, zi32_t hb]
theorem zi32_le {a b : Int} (ha : zi32 a) (hb : zi32 b) : Int32.ofInt a ≤ Int32.ofInt b ↔ a ≤ b := by rw [Int32.le_iff_toInt_le, zi32_t ha, zi32_t hb]
theorem zi32_eq {a b : Int} (ha : zi32 a) (hb : zi32 b) : Int32.ofInt a = Int32.ofInt b ↔ a = b := by rw [← Int32.toInt_inj, zi32_t ha, zi32_t hb]
theorem zi64_lt {a b : Int} (ha : zi64 a) (hb : zi64 b) : Int64.ofInt a < Int64.ofInt b ↔ a < b := by rw [Int64.lt_iff_toInt_lt, zi64_t ha, zi64_t hb]
theorem zi64_eq {a b : Int} (ha : zi64 a) (hb : zi64 b) : Int64.ofInt a = Int64.ofInt b ↔ a = b := by rw [← Int64.toInt_inj, zi64_t ha, zi64_t hb]
theorem zi32_0 : zi32 0 := by unfold zi32; omega
theorem zi64_0 : zi64 0 := by unfold zi64; omega
theorem zmx32 : Int32.maxValue.toInt = 2147483647 := by decide
theorem zmn32 : Int32.minValue.toInt = -2147483648 := by decide
theorem zmx64 : Int64.maxValue.toInt = 9223372036854775807 := by decide
theorem zmn64 : Int64.minValue.toInt = -9223372036854775808 := by decide
theorem zi32_div {a b : Int} (ha : zi32 a) (hb : zi32 b) : Int32.ofInt a / Int32.ofInt b = Int32.ofInt (Int.tdiv a b) := (Int32.ofInt_tdiv (by rw [zmn32]; exact ha.1) (by rw [zmx32]; exact ha.2) (by rw [zmn32]; exact hb.1) (by rw [zmx32]; exact hb.2)).symm
theorem zi64_div {a b : Int} (ha : zi64 a) (hb : zi64 b) : Int64.ofInt a / Int64.ofInt b = Int64.ofInt (Int.tdiv a b) := (Int64.ofInt_tdiv (by rw [zmn64]; exact ha.1) (by rw [zmx64]; exact ha.2) (by rw [zmn64]; exact hb.1) (by rw [zmx64]; exact hb.2)).symm
theorem zi32_rem {a b : Int} (ha : zi32 a) (hb : zi32 b) : Int32.ofInt a - Int32.ofInt a / Int32.ofInt b * Int32.ofInt b = Int32.ofInt (Int.tmod a b) := by
  rw [zi32_div ha hb, ← Int32.ofInt_mul, ← Int32.ofInt_sub, Int.tmod_def, Int.mul_comm b]
theorem zi64_rem {a b : Int} (ha : zi64 a) (hb : zi64 b) : Int64.ofInt a - Int64.ofInt a / Int64.ofInt b * Int64.ofInt b = Int64.ofInt (Int.tmod a b) := by
  rw [zi64_div ha hb, ← Int64.ofInt_mul, ← Int64.ofInt_sub, Int.tmod_def, Int.mul_comm b]
theorem zeqv {φ : Int → Nat} {v : zV} {w : Value} {a : Value → Prop} (e : zrv φ v = w) (h : a (zrv φ v)) : a w := e ▸ h
theorem zt_iadd {a b : Int} (hd : decode cc pc = .ok (.iadd, 1)) (k : zT y cc mL rt d kc ks Q (pc + 1) ls ((0, a + b) :: st) n sh h) : zT y cc mL rt d kc ks Q pc ls ((0, b) :: (0, a) :: st) n sh h := by
  intro l D cA φ n0 p e s m args below meth c K N H locs cells slots ls0 E S X V L c1 c2
  refine lv_iadd E.1 E.2.1 hd ?_
  rw [← Int32.ofInt_add]
  exact (k l D cA φ n0 p e s m args below meth c K N H locs cells slots ls0 E S X V L c1 c2)
theorem zt_isub {a b : Int} (hd : decode cc pc = .ok (.isub, 1)) (k : zT y cc mL rt d kc ks Q (pc + 1) ls ((0, a - b) :: st) n sh h) : zT y cc mL rt d kc ks Q pc ls ((0, b) :: (0, a) :: st) n sh h := by
  intro l D cA φ n0 p e s m args below meth c K N H locs cells slots ls0 E S X V L c1 c2
  refine lv_isub E.1 E.2.1 hd ?_
  rw [← Int32.ofInt_sub]
  exact (k l D cA φ n0 p e s m args below meth c K N H locs cells slots ls0 E S X V L c1 c2)
theorem zt_imul {a b : Int} (hd : decode cc pc = .ok (.imul, 1)) (k : zT y cc mL rt d kc ks Q (pc + 1) ls ((0, a * b) :: st) n sh h) : zT y cc mL rt d kc ks Q pc ls ((0, b) :: (0, a) :: st) n sh h := by
  intro l D cA φ n0 p e s m args below meth c K N H locs cells slots ls0 E S X V L c1 c2
  refine lv_imul E.1 E.2.1 hd ?_
  rw [← Int32.ofInt_mul]
  exact (k l D cA φ n0 p e s m args below meth c K N H locs cells slots ls0 E S X V L c1 c2)
theorem zt_ladd {a b : Int} (hd : decode cc pc = .ok (.ladd, 1)) (k : zT y cc mL rt d kc ks Q (pc + 1) ls ((1, a + b) :: st) n sh h) : zT y cc mL rt d kc ks Q pc ls ((1, b) :: (1, a) :: st) n sh h := by
  intro l D cA φ n0 p e s m args below meth c K N H locs cells slots ls0 E S X V L c1 c2
  refine lv_ladd E.1 E.2.1 hd ?_
  rw [← Int64.ofInt_add]
  exact (k l D cA φ n0 p e s m args below meth c K N H locs cells slots ls0 E S X V L c1 c2)
theorem zt_lsub {a b : Int} (hd : decode cc pc = .ok (.lsub, 1)) (k : zT y cc mL rt d kc ks Q (pc + 1) ls ((1, a - b) :: st) n sh h) : zT y cc mL rt d kc ks Q pc ls ((1, b) :: (1, a) :: st) n sh h := by
  intro l D cA φ n0 p e s m args below meth c K N H locs cells slots ls0 E S X V L c1 c2
  refine lv_lsub E.1 E.2.1 hd ?_
  rw [← Int64.ofInt_sub]
  exact (k l D cA φ n0 p e s m args below meth c K N H locs cells slots ls0 E S X V L c1 c2)
theorem zt_lmul {a b : Int} (hd : decode cc pc = .ok (.lmul, 1)) (k : zT y cc mL rt d kc ks Q (pc + 1) ls ((1, a * b) :: st) n sh h) : zT y cc mL rt d kc ks Q pc ls ((1, b) :: (1, a) :: st) n sh h := by
  intro l D cA φ n0 p e s m args below meth c K N H locs cells slots ls0 E S X V L c1 c2
  refine lv_lmul E.1 E.2.1 hd ?_
  rw [← Int64.ofInt_mul]
  exact (k l D cA φ n0 p e s m args below meth c K N H locs cells slots ls0 E S X V L c1 c2)
theorem zt_ineg {a : Int} (hd : decode cc pc = .ok (.ineg, 1)) (k : zT y cc mL rt d kc ks Q (pc + 1) ls ((0, -a) :: st) n sh h) : zT y cc mL rt d kc ks Q pc ls ((0, a) :: st) n sh h := by
  intro l D cA φ n0 p e s m args below meth c K N H locs cells slots ls0 E S X V L c1 c2
  refine lv_ineg E.1 E.2.1 hd ?_
  rw [← Int32.ofInt_neg]
  exact (k l D cA φ n0 p e s m args below meth c K N H locs cells slots ls0 E S X V L c1 c2)
theorem zt_lneg {a : Int} (hd : decode cc pc = .ok (.lneg, 1)) (k : zT y cc mL rt d kc ks Q (pc + 1) ls ((1, -a) :: st) n sh h) : zT y cc mL rt d kc ks Q pc ls ((1, a) :: st) n sh h := by
  intro l D cA φ n0 p e s m args below meth c K N H locs cells slots ls0 E S X V L c1 c2
  refine lv_lneg E.1 E.2.1 hd ?_
  rw [← Int64.ofInt_neg]
  exact (k l D cA φ n0 p e s m args below meth c K N H locs cells slots ls0 E S X V L c1 c2)
theorem zt_idiv {a b : Int} (hd : decode cc pc = .ok (.idiv, 1)) (ha : zi32 a) (hb : zi32 b) (h0 : b ≠ 0) (k : zT y cc mL rt d kc ks Q (pc + 1) ls ((0, Int.tdiv a b) :: st) n sh h) : zT y cc mL rt d kc ks Q pc ls ((0, b) :: (0, a) :: st) n sh h := by
  intro l D cA φ n0 p e s m args below meth c K N H locs cells slots ls0 E S X V L c1 c2
  refine lv_idiv E.1 E.2.1 hd (fun q => h0 ((zi32_eq hb zi32_0).mp q)) ?_
  rw [zi32_div ha hb]
  exact (k l D cA φ n0 p e s m args below meth c K N H locs cells slots ls0 E S X V L c1 c2)
theorem zt_irem {a b : Int} (hd : decode cc pc = .ok (.irem, 1)) (ha : zi32 a) (hb : zi32 b) (h0 : b ≠ 0) (k : zT y cc mL rt d kc ks Q (pc + 1) ls ((0, Int.tmod a b) :: st) n sh h) : zT y cc mL rt d kc ks Q pc ls ((0, b) :: (0, a) :: st) n sh h := by
  intro l D cA φ n0 p e s m args below meth c K N H locs cells slots ls0 E S X V L c1 c2
  refine lv_irem E.1 E.2.1 hd (fun q => h0 ((zi32_eq hb zi32_0).mp q)) ?_
  rw [zi32_rem ha hb]
  exact (k l D cA φ n0 p e s m args below meth c K N H locs cells slots ls0 E S X V L c1 c2)
theorem zt_ldiv {a b : Int} (hd : decode cc pc = .ok (.ldiv, 1)) (ha : zi64 a) (hb : zi64 b) (h0 : b ≠ 0) (k : zT y cc mL rt d kc ks Q (pc + 1) ls ((1, Int.tdiv a b) :: st) n sh h) : zT y cc mL rt d kc ks Q pc ls ((1, b) :: (1, a) :: st) n sh h := by
  intro l D cA φ n0 p e s m args below meth c K N H locs cells slots ls0 E S X V L c1 c2
  refine lv_ldiv E.1 E.2.1 hd (fun q => h0 ((zi64_eq hb zi64_0).mp q)) ?_
  rw [zi64_div ha hb]
  exact (k l D cA φ n0 p e s m args below meth c K N H locs cells slots ls0 E S X V L c1 c2)
theorem zt_lrem {a b : Int} (hd : decode cc pc = .ok (.lrem, 1)) (ha : zi64 a) (hb : zi64 b) (h0 : b ≠ 0) (k : zT y cc mL rt d kc ks Q (pc + 1) ls ((1, Int.tmod a b) :: st) n sh h) : zT y cc mL rt d kc ks Q pc ls ((1, b) :: (1, a) :: st) n sh h := by
  intro l D cA φ n0 p e s m args below meth c K N H locs cells slots ls0 E S X V L c1 c2
  refine lv_lrem E.1 E.2.1 hd (fun q => h0 ((zi64_eq hb zi64_0).mp q)) ?_
  rw [zi64_rem ha hb]
  exact (k l D cA φ n0 p e s m args below meth c K N H locs cells slots ls0 E S X V L c1 c2)
theorem zt_i2l {a : Int} (hd : decode cc pc = .ok (.i2l, 1)) (ha : zi32 a) (k : zT y cc mL rt d kc ks Q (pc + 1) ls ((1, a) :: st) n sh h) : zT y cc mL rt d kc ks Q pc ls ((0, a) :: st) n sh h := by
  intro l D cA φ n0 p e s m args below meth c K N H locs cells slots ls0 E S X V L c1 c2
  exact lv_i2l E.1 E.2.1 hd (Int32.toInt64_ofInt (by rw [zmn32]; exact ha.1) (by rw [zmx32]; exact ha.2)) (k l D cA φ n0 p e s m args below meth c K N H locs cells slots ls0 E S X V L c1 c2)
theorem zt_l2i {a : Int} (hd : decode cc pc = .ok (.l2i, 1)) (k : zT y cc mL rt d kc ks Q (pc + 1) ls ((0, a) :: st) n sh h) : zT y cc mL rt d kc ks Q pc ls ((1, a) :: st) n sh h := by
  intro l D cA φ n0 p e s m args below meth c K N H locs cells slots ls0 E S X V L c1 c2
  exact lv_l2i E.1 E.2.1 hd Int64.toInt32_ofInt (k l D cA φ n0 p e s m args below meth c K N H locs cells slots ls0 E S X V L c1 c2)
theorem zt_i2b {a : Int} (hd : decode cc pc = .ok (.i2b, 1)) (k : zT y cc mL rt d kc ks Q (pc + 1) ls ((0, Int.bmod a 256) :: st) n sh h) : zT y cc mL rt d kc ks Q pc ls ((0, a) :: st) n sh h := by
  intro l D cA φ n0 p e s m args below meth c K N H locs cells slots ls0 E S X V L c1 c2
  refine lv_i2b E.1 E.2.1 hd ?_ (k l D cA φ n0 p e s m args below meth c K N H locs cells slots ls0 E S X V L c1 c2)
  apply Int32.toInt_inj.mp
  rw [Int8.toInt_toInt32, Int32.toInt8_ofInt, Int8.toInt_ofInt]
  refine (zi32_t (?_ : zi32 (a.bmod 256))).symm
  · have h1 := Int.bmod_lt (x := a) (m := 256) (by omega)
    have h2 := Int.le_bmod (x := a) (m := 256) (by omega)
    unfold zi32; omega
theorem zt_i2c {a : Int} (hd : decode cc pc = .ok (.i2c, 1)) (k : zT y cc mL rt d kc ks Q (pc + 1) ls ((0, a % 65536) :: st) n sh h) : zT y cc mL rt d kc ks Q pc ls ((0, a) :: st) n sh h := by
  intro l D cA φ n0 p e s m args below meth c K N H locs cells slots ls0 E S X V L c1 c2
  refine lv_i2c E.1 E.2.1 hd ?_ (k l D cA φ n0 p e s m args below meth c K N H locs cells slots ls0 E S X V L c1 c2)
  rw [pk_char]
  show Int32.ofNat _ = _
  have e1 : ((Int32.ofInt a).toBitVec.toNat % 65536 : Nat) = (a % 65536).toNat := by
    have : (Int32.ofInt a).toBitVec.toNat = (a % 4294967296).toNat := by
      show (BitVec.ofInt 32 a).toNat = _
      rw [BitVec.toNat_ofInt]; rfl
    rw [this]; omega
  rw [e1]
  obtain ⟨q, hq⟩ : ∃ q : Nat, a % 65536 = q := ⟨(a % 65536).toNat, by omega⟩
  rw [hq, Int.toNat_natCast, Int32.ofInt_eq_ofNat]
theorem zt_iand {a b : Int} (hd : decode cc pc = .ok (.iand, 1)) (k : zT y cc mL rt d kc ks Q (pc + 1) ls ((0, (Int32.ofInt a &&& Int32.ofInt b).toInt) :: st) n sh h) : zT y cc mL rt d kc ks Q pc ls ((0, b) :: (0, a) :: st) n sh h := by
  intro l D cA φ n0 p e s m args below meth c K N H locs cells slots ls0 E S X V L c1 c2
  refine lv_iand E.1 E.2.1 hd ?_
  have k2 := (k l D cA φ n0 p e s m args below meth c K N H locs cells slots ls0 E S X V L c1 c2)
  simp only [List.map_cons, zrv, Int32.ofInt_toInt] at k2
  exact k2
theorem zt_ior {a b : Int} (hd : decode cc pc = .ok (.ior, 1)) (k : zT y cc mL rt d kc ks Q (pc + 1) ls ((0, (Int32.ofInt a ||| Int32.ofInt b).toInt) :: st) n sh h) : zT y cc mL rt d kc ks Q pc ls ((0, b) :: (0, a) :: st) n sh h := by
  intro l D cA φ n0 p e s m args below meth c K N H locs cells slots ls0 E S X V L c1 c2
  refine lv_ior E.1 E.2.1 hd ?_
  have k2 := (k l D cA φ n0 p e s m args below meth c K N H locs cells slots ls0 E S X V L c1 c2)
  simp only [List.map_cons, zrv, Int32.ofInt_toInt] at k2
  exact k2
theorem zt_ixor {a b : Int} (hd : decode cc pc = .ok (.ixor, 1)) (k : zT y cc mL rt d kc ks Q (pc + 1) ls ((0, (Int32.ofInt a ^^^ Int32.ofInt b).toInt) :: st) n sh h) : zT y cc mL rt d kc ks Q pc ls ((0, b) :: (0, a) :: st) n sh h := by
  intro l D cA φ n0 p e s m args below meth c K N H locs cells slots ls0 E S X V L c1 c2
  refine lv_ixor E.1 E.2.1 hd ?_
  have k2 := (k l D cA φ n0 p e s m args below meth c K N H locs cells slots ls0 E S X V L c1 c2)
  simp only [List.map_cons, zrv, Int32.ofInt_toInt] at k2
  exact k2
theorem zt_land {a b : Int} (hd : decode cc pc = .ok (.land, 1)) (k : zT y cc mL rt d kc ks Q (pc + 1) ls ((1, (Int64.ofInt a &&& Int64.ofInt b).toInt) :: st) n sh h) : zT y cc mL rt d kc ks Q pc ls ((1, b) :: (1, a) :: st) n sh h := by
  intro l D cA φ n0 p e s m args below meth c K N H locs cells slots ls0 E S X V L c1 c2
  refine lv_land E.1 E.2.1 hd ?_
  have k2 := (k l D cA φ n0 p e s m args below meth c K N H locs cells slots ls0 E S X V L c1 c2)
  simp only [List.map_cons, zrv, Int64.ofInt_toInt] at k2
  exact k2
theorem zt_lor {a b : Int} (hd : decode cc pc = .ok (.lor, 1)) (k : zT y cc mL rt d kc ks Q (pc + 1) ls ((1, (Int64.ofInt a ||| Int64.ofInt b).toInt) :: st) n sh h) : zT y cc mL rt d kc ks Q pc ls ((1, b) :: (1, a) :: st) n sh h := by
  intro l D cA φ n0 p e s m args below meth c K N H locs cells slots ls0 E S X V L c1 c2
  refine lv_lor E.1 E.2.1 hd ?_
  have k2 := (k l D cA φ n0 p e s m args below meth c K N H locs cells slots ls0 E S X V L c1 c2)
  simp only [List.map_cons, zrv, Int64.ofInt_toInt] at k2
  exact k2
theorem zt_lxor {a b : Int} (hd : decode cc pc = .ok (.lxor, 1)) (k : zT y cc mL rt d kc ks Q (pc + 1) ls ((1, (Int64.ofInt a ^^^ Int64.ofInt b).toInt) :: st) n sh h) : zT y cc mL rt d kc ks Q pc ls ((1, b) :: (1, a) :: st) n sh h := by
  intro l D cA φ n0 p e s m args below meth c K N H locs cells slots ls0 E S X V L c1 c2
  refine lv_lxor E.1 E.2.1 hd ?_
  have k2 := (k l D cA φ n0 p e s m args below meth c K N H locs cells slots ls0 E S X V L c1 c2)
  simp only [List.map_cons, zrv, Int64.ofInt_toInt] at k2
  exact k2
theorem zt_ishl {a b : Int} (hd : decode cc pc = .ok (.ishl, 1)) (k : zT y cc mL rt d kc ks Q (pc + 1) ls ((0, (Int32.ofInt a <<< (Int32.ofInt b &&& 31)).toInt) :: st) n sh h) : zT y cc mL rt d kc ks Q pc ls ((0, b) :: (0, a) :: st) n sh h := by
  intro l D cA φ n0 p e s m args below meth c K N H locs cells slots ls0 E S X V L c1 c2
  refine lv_ishl E.1 E.2.1 hd ?_
  have k2 := (k l D cA φ n0 p e s m args below meth c K N H locs cells slots ls0 E S X V L c1 c2)
  simp only [List.map_cons, zrv, Int32.ofInt_toInt] at k2
  exact k2
theorem zt_ishr {a b : Int} (hd : decode cc pc = .ok (.ishr, 1)) (k : zT y cc mL rt d kc ks Q (pc + 1) ls ((0, (Int32.ofInt a >>> (Int32.ofInt b &&& 31)).toInt) :: st) n sh h) : zT y cc mL rt d kc ks Q pc ls ((0, b) :: (0, a) :: st) n sh h := by
  intro l D cA φ n0 p e s m args below meth c K N H locs cells slots ls0 E S X V L c1 c2
  refine lv_ishr E.1 E.2.1 hd ?_
  have k2 := (k l D cA φ n0 p e s m args below meth c K N H locs cells slots ls0 E S X V L c1 c2)
  simp only [List.map_cons, zrv, Int32.ofInt_toInt] at k2
  exact k2
theorem zt_iushr {a b : Int} (hd : decode cc pc = .ok (.iushr, 1)) (k : zT y cc mL rt d kc ks Q (pc + 1) ls ((0, (((Int32.ofInt a).toUInt32 >>> ((Int32.ofInt b).toUInt32 &&& Int32.toUInt32 31)).toInt32).toInt) :: st) n sh h) : zT y cc mL rt d kc ks Q pc ls ((0, b) :: (0, a) :: st) n sh h := by
  intro l D cA φ n0 p e s m args below meth c K N H locs cells slots ls0 E S X V L c1 c2
  refine lv_iushr E.1 E.2.1 hd rfl ?_
  have k2 := (k l D cA φ n0 p e s m args below meth c K N H locs cells slots ls0 E S X V L c1 c2)
  simp only [List.map_cons, zrv, Int32.ofInt_toInt] at k2
  exact k2
theorem zt_lshl {a b : Int} (hd : decode cc pc = .ok (.lshl, 1)) (k : zT y cc mL rt d kc ks Q (pc + 1) ls ((1, (Int64.ofInt a <<< ((Int32.ofInt b).toInt64 &&& 63)).toInt) :: st) n sh h) : zT y cc mL rt d kc ks Q pc ls ((0, b) :: (1, a) :: st) n sh h := by
  intro l D cA φ n0 p e s m args below meth c K N H locs cells slots ls0 E S X V L c1 c2
  refine lv_lshl E.1 E.2.1 hd rfl ?_
  have k2 := (k l D cA φ n0 p e s m args below meth c K N H locs cells slots ls0 E S X V L c1 c2)
  simp only [List.map_cons, zrv, Int64.ofInt_toInt] at k2
  exact k2
theorem zt_lushr {a b : Int} (hd : decode cc pc = .ok (.lushr, 1)) (k : zT y cc mL rt d kc ks Q (pc + 1) ls ((1, (((Int64.ofInt a).toUInt64 >>> ((Int32.ofInt b).toInt64.toUInt64 &&& Int64.toUInt64 63)).toInt64).toInt) :: st) n sh h) : zT y cc mL rt d kc ks Q pc ls ((0, b) :: (1, a) :: st) n sh h := by
  intro l D cA φ n0 p e s m args below meth c K N H locs cells slots ls0 E S X V L c1 c2
  refine lv_lushr E.1 E.2.1 hd rfl ?_
  have k2 := (k l D cA φ n0 p e s m args below meth c K N H locs cells slots ls0 E S X V L c1 c2)
  simp only [List.map_cons, zrv, Int64.ofInt_toInt] at k2
  exact k2
theorem zt_dup {v : zV} (hd : decode cc pc = .ok (.dup, 1)) (hv : v.1 ≠ 1) (k : zT y cc mL rt d kc ks Q (pc + 1) ls (v :: v :: st) n sh h) : zT y cc mL rt d kc ks Q pc ls (v :: st) n sh h := by
  intro l D cA φ n0 p e s m args below meth c K N H locs cells slots ls0 E S X V L c1 c2
  exact lv_dup E.1 E.2.1 hd (by rw [zrv_cat]; exact if_neg hv) (k l D cA φ n0 p e s m args below meth c K N H locs cells slots ls0 E S X V L c1 c2)
theorem zt_pop {v : zV} (hd : decode cc pc = .ok (.pop, 1)) (hv : v.1 ≠ 1) (k : zT y cc mL rt d kc ks Q (pc + 1) ls (st) n sh h) : zT y cc mL rt d kc ks Q pc ls (v :: st) n sh h := by
  intro l D cA φ n0 p e s m args below meth c K N H locs cells slots ls0 E S X V L c1 c2
  exact lv_pop E.1 E.2.1 hd (by rw [zrv_cat]; exact if_neg hv) (k l D cA φ n0 p e s m args below meth c K N H locs cells slots ls0 E S X V L c1 c2)
theorem zt_dup2 {v w : zV} (hd : decode cc pc = .ok (.dup2, 1)) (hv : v.1 ≠ 1) (hw : w.1 ≠ 1) (k : zT y cc mL rt d kc ks Q (pc + 1) ls (v :: w :: v :: w :: st) n sh h) : zT y cc mL rt d kc ks Q pc ls (v :: w :: st) n sh h := by
  intro l D cA φ n0 p e s m args below meth c K N H locs cells slots ls0 E S X V L c1 c2
  exact lv_dup2_11 E.1 E.2.1 hd (by rw [zrv_cat]; exact if_neg hv) (by rw [zrv_cat]; exact if_neg hw) (k l D cA φ n0 p e s m args below meth c K N H locs cells slots ls0 E S X V L c1 c2)
theorem zt_dup2_2 {v : zV} (hd : decode cc pc = .ok (.dup2, 1)) (hv : v.1 = 1) (k : zT y cc mL rt d kc ks Q (pc + 1) ls (v :: v :: st) n sh h) : zT y cc mL rt d kc ks Q pc ls (v :: st) n sh h := by
  intro l D cA φ n0 p e s m args below meth c K N H locs cells slots ls0 E S X V L c1 c2
  exact lv_dup2_2 E.1 E.2.1 hd (by rw [zrv_cat]; exact if_pos hv) (k l D cA φ n0 p e s m args below meth c K N H locs cells slots ls0 E S X V L c1 c2)
theorem zt_icmp_eq {a b off : Int} {tgt : Nat} (hd : decode cc pc = .ok (.if_icmp .eq off, 3)) (ht : (pc : Int) + off = (tgt : Int)) (ha : zi32 a) (hb : zi32 b) (k1 : a = b → zT y cc mL rt d kc ks Q tgt ls st n sh h) (k2 : a ≠ b → zT y cc mL rt d kc ks Q (pc + 3) ls st n sh h) : zT y cc mL rt d kc ks Q pc ls ((0, b) :: (0, a) :: st) n sh h := by
  intro l D cA φ n0 p e s m args below meth c K N H locs cells slots ls0 E S X V L c1 c2
  exact lv_icmp_eq E.1 E.2.1 hd ht (fun q => k1 ((zi32_eq ha hb).mp q) l D cA φ n0 p e s m args below meth c K N H locs cells slots ls0 E S X V L c1 c2) (fun q => k2 (fun z => q ((zi32_eq ha hb).mpr z)) l D cA φ n0 p e s m args below meth c K N H locs cells slots ls0 E S X V L c1 c2)
theorem zt_if_eq {a off : Int} {tgt : Nat} (hd : decode cc pc = .ok (.ifCond .eq off, 3)) (ht : (pc : Int) + off = (tgt : Int)) (ha : zi32 a) (k1 : a = 0 → zT y cc mL rt d kc ks Q tgt ls st n sh h) (k2 : a ≠ 0 → zT y cc mL rt d kc ks Q (pc + 3) ls st n sh h) : zT y cc mL rt d kc ks Q pc ls ((0, a) :: st) n sh h := by
  intro l D cA φ n0 p e s m args below meth c K N H locs cells slots ls0 E S X V L c1 c2
  exact lv_if_eq E.1 E.2.1 hd ht (fun q => k1 ((zi32_eq ha zi32_0).mp q) l D cA φ n0 p e s m args below meth c K N H locs cells slots ls0 E S X V L c1 c2) (fun q => k2 (fun z => q ((zi32_eq ha zi32_0).mpr z)) l D cA φ n0 p e s m args below meth c K N H locs cells slots ls0 E S X V L c1 c2)
theorem zt_icmp_ne {a b off : Int} {tgt : Nat} (hd : decode cc pc = .ok (.if_icmp .ne off, 3)) (ht : (pc : Int) + off = (tgt : Int)) (ha : zi32 a) (hb : zi32 b) (k1 : a ≠ b → zT y cc mL rt d kc ks Q tgt ls st n sh h) (k2 : a = b → zT y cc mL rt d kc ks Q (pc + 3) ls st n sh h) : zT y cc mL rt d kc ks Q pc ls ((0, b) :: (0, a) :: st) n sh h := by
  intro l D cA φ n0 p e s m args below meth c K N H locs cells slots ls0 E S X V L c1 c2
  exact lv_icmp_ne E.1 E.2.1 hd ht (fun q => k1 (fun z => q ((zi32_eq ha hb).mpr z)) l D cA φ n0 p e s m args below meth c K N H locs cells slots ls0 E S X V L c1 c2) (fun q => k2 ((zi32_eq ha hb).mp q) l D cA φ n0 p e s m args below meth c K N H locs cells slots ls0 E S X V L c1 c2)
theorem zt_if_ne {a off : Int} {tgt : Nat} (hd : decode cc pc = .ok (.ifCond .ne off, 3)) (ht : (pc : Int) + off = (tgt : Int)) (ha : zi32 a) (k1 : a ≠ 0 → zT y cc mL rt d kc ks Q tgt ls st n sh h) (k2 : a = 0 → zT y cc mL rt d kc ks Q (pc + 3) ls st n sh h) : zT y cc mL rt d kc ks Q pc ls ((0, a) :: st) n sh h := by
  intro l D cA φ n0 p e s m args below meth c K N H locs cells slots ls0 E S X V L c1 c2
  exact lv_if_ne E.1 E.2.1 hd ht (fun q => k1 (fun z => q ((zi32_eq ha zi32_0).mpr z)) l D cA φ n0 p e s m args below meth c K N H locs cells slots ls0 E S X V L c1 c2) (fun q => k2 ((zi32_eq ha zi32_0).mp q) l D cA φ n0 p e s m args below meth c K N H locs cells slots ls0 E S X V L c1 c2)
theorem zt_icmp_lt {a b off : Int} {tgt : Nat} (hd : decode cc pc = .ok (.if_icmp .lt off, 3)) (ht : (pc : Int) + off = (tgt : Int)) (ha : zi32 a) (hb : zi32 b) (k1 : a < b → zT y cc mL rt d kc ks Q tgt ls st n sh h) (k2 : b ≤ a → zT y cc mL rt d kc ks Q (pc + 3) ls st n sh h) : zT y cc mL rt d kc ks Q pc ls ((0, b) :: (0, a) :: st) n sh h := by
  intro l D cA φ n0 p e s m args below meth c K N H locs cells slots ls0 E S X V L c1 c2
  exact lv_icmp_lt E.1 E.2.1 hd ht (fun q => k1 ((zi32_lt ha hb).mp q) l D cA φ n0 p e s m args below meth c K N H locs cells slots ls0 E S X V L c1 c2) (fun q => k2 (Int.not_lt.mp fun z => q ((zi32_lt ha hb).mpr z)) l D cA φ n0 p e s m args below meth c K N H locs cells slots ls0 E S X V L c1 c2)
theorem zt_if_lt {a off : Int} {tgt : Nat} (hd : decode cc pc = .ok (.ifCond .lt off, 3)) (ht : (pc : Int) + off = (tgt : Int)) (ha : zi32 a) (k1 : a < 0 → zT y cc mL rt d kc ks Q tgt ls st n sh h) (k2 : 0 ≤ a → zT y cc mL rt d kc ks Q (pc + 3) ls st n sh h) : zT y cc mL rt d kc ks Q pc ls ((0, a) :: st) n sh h := by
  intro l D cA φ n0 p e s m args below meth c K N H locs cells slots ls0 E S X V L c1 c2
  exact lv_if_lt E.1 E.2.1 hd ht (fun q => k1 ((zi32_lt ha zi32_0).mp q) l D cA φ n0 p e s m args below meth c K N H locs cells slots ls0 E S X V L c1 c2) (fun q => k2 (Int.not_lt.mp fun z => q ((zi32_lt ha zi32_0).mpr z)) l D cA φ n0 p e s m args below meth c K N H locs cells slots ls0 E S X V L c1 c2)
theorem zt_icmp_ge {a b off : Int} {tgt : Nat} (hd : decode cc pc = .ok (.if_icmp .ge off, 3)) (ht : (pc : Int) + off = (tgt : Int)) (ha : zi32 a) (hb : zi32 b) (k1 : b ≤ a → zT y cc mL rt d kc ks Q tgt ls st n sh h) (k2 : a < b → zT y cc mL rt d kc ks Q (pc + 3) ls st n sh h) : zT y cc mL rt d kc ks Q pc ls ((0, b) :: (0, a) :: st) n sh h := by
  intro l D cA φ n0 p e s m args below meth c K N H locs cells slots ls0 E S X V L c1 c2
  exact lv_icmp_ge E.1 E.2.1 hd ht (fun q => k1 ((zi32_le hb ha).mp q) l D cA φ n0 p e s m args below meth c K N H locs cells slots ls0 E S X V L c1 c2) (fun q => k2 (Int.not_le.mp fun z => q ((zi32_le hb ha).mpr z)) l D cA φ n0 p e s m args below meth c K N H locs cells slots ls0 E S X V L c1 c2)
theorem zt_if_ge {a off : Int} {tgt : Nat} (hd : decode cc pc = .ok (.ifCond .ge off, 3)) (ht : (pc : Int) + off = (tgt : Int)) (ha : zi32 a) (k1 : 0 ≤ a → zT y cc mL rt d kc ks Q tgt ls st n sh h) (k2 : a < 0 → zT y cc mL rt d kc ks Q (pc + 3) ls st n sh h) : zT y cc mL rt d kc ks Q pc ls ((0, a) :: st) n sh h := by
  intro l D cA φ n0 p e s m args below meth c K N H locs cells slots ls0 E S X V L c1 c2
  exact lv_if_ge E.1 E.2.1 hd ht (fun q => k1 ((zi32_le zi32_0 ha).mp q) l D cA φ n0 p e s m args below meth c K N H locs cells slots ls0 E S X V L c1 c2) (fun q => k2 (Int.not_le.mp fun z => q ((zi32_le zi32_0 ha).mpr z)) l D cA φ n0 p e s m args below meth c K N H locs cells slots ls0 E S X V L c1 c2)
theorem zt_icmp_gt {a b off : Int} {tgt : Nat} (hd : decode cc pc = .ok (.if_icmp .gt off, 3)) (ht : (pc : Int) + off = (tgt : Int)) (ha : zi32 a) (hb : zi32 b) (k1 : b < a → zT y cc mL rt d kc ks Q tgt ls st n sh h) (k2 : a ≤ b → zT y cc mL rt d kc ks Q (pc + 3) ls st n sh h) : zT y cc mL rt d kc ks Q pc ls ((0, b) :: (0, a) :: st) n sh h := by
  intro l D cA φ n0 p e s m args below meth c K N H locs cells slots ls0 E S X V L c1 c2
  exact lv_icmp_gt E.1 E.2.1 hd ht (fun q => k1 ((zi32_lt hb ha).mp q) l D cA φ n0 p e s m args below meth c K N H locs cells slots ls0 E S X V L c1 c2) (fun q => k2 (Int.not_lt.mp fun z => q ((zi32_lt hb ha).mpr z)) l D cA φ n0 p e s m args below meth c K N H locs cells slots ls0 E S X V L c1 c2)
theorem zt_if_gt {a off : Int} {tgt : Nat} (hd : decode cc pc = .ok (.ifCond .gt off, 3)) (ht : (pc : Int) + off = (tgt : Int)) (ha : zi32 a) (k1 : 0 < a → zT y cc mL rt d kc ks Q tgt ls st n sh h) (k2 : a ≤ 0 → zT y cc mL rt d kc ks Q (pc + 3) ls st n sh h) : zT y cc mL rt d kc ks Q pc ls ((0, a) :: st) n sh h := by
  intro l D cA φ n0 p e s m args below meth c K N H locs cells slots ls0 E S X V L c1 c2
  exact lv_if_gt E.1 E.2.1 hd ht (fun q => k1 ((zi32_lt zi32_0 ha).mp q) l D cA φ n0 p e s m args below meth c K N H locs cells slots ls0 E S X V L c1 c2) (fun q => k2 (Int.not_lt.mp fun z => q ((zi32_lt zi32_0 ha).mpr z)) l D cA φ n0 p e s m args below meth c K N H locs cells slots ls0 E S X V L c1 c2)
theorem zt_icmp_le {a b off : Int} {tgt : Nat} (hd : decode cc pc = .ok (.if_icmp .le off, 3)) (ht : (pc : Int) + off = (tgt : Int)) (ha : zi32 a) (hb : zi32 b) (k1 : a ≤ b → zT y cc mL rt d kc ks Q tgt ls st n sh h) (k2 : b < a → zT y cc mL rt d kc ks Q (pc + 3) ls st n sh h) : zT y cc mL rt d kc ks Q pc ls ((0, b) :: (0, a) :: st) n sh h := by
  intro l D cA φ n0 p e s m args below meth c K N H locs cells slots ls0 E S X V L c1 c2
  exact lv_icmp_le E.1 E.2.1 hd ht (fun q => k1 ((zi32_le ha hb).mp q) l D cA φ n0 p e s m args below meth c K N H locs cells slots ls0 E S X V L c1 c2) (fun q => k2 (Int.not_le.mp fun z => q ((zi32_le ha hb).mpr z)) l D cA φ n0 p e s m args below meth c K N H locs cells slots ls0 E S X V L c1 c2)
theorem zt_if_le {a off : Int} {tgt : Nat} (hd : decode cc pc = .ok (.ifCond .le off, 3)) (ht : (pc : Int) + off = (tgt : Int)) (ha : zi32 a) (k1 : a ≤ 0 → zT y cc mL rt d kc ks Q tgt ls st n sh h) (k2 : 0 < a → zT y cc mL rt d kc ks Q (pc + 3) ls st n sh h) : zT y cc mL rt d kc ks Q pc ls ((0, a) :: st) n sh h := by
  intro l D cA φ n0 p e s m args below meth c K N H locs cells slots ls0 E S X V L c1 c2
  exact lv_if_le E.1 E.2.1 hd ht (fun q => k1 ((zi32_le ha zi32_0).mp q) l D cA φ n0 p e s m args below meth c K N H locs cells slots ls0 E S X V L c1 c2) (fun q => k2 (Int.not_le.mp fun z => q ((zi32_le ha zi32_0).mpr z)) l D cA φ n0 p e s m args below meth c K N H locs cells slots ls0 E S X V L c1 c2)
theorem zt_goto {off : Int} {tgt : Nat} (hd : decode cc pc = .ok (.goto off, 3)) (ht : (pc : Int) + off = (tgt : Int)) (k : zT y cc mL rt d kc ks Q (tgt) ls (st) n sh h) : zT y cc mL rt d kc ks Q pc ls (st) n sh h := by
  intro l D cA φ n0 p e s m args below meth c K N H locs cells slots ls0 E S X V L c1 c2
  exact lv_goto E.1 E.2.1 hd ht (k l D cA φ n0 p e s m args below meth c K N H locs cells slots ls0 E S X V L c1 c2)
theorem zt_ifnull {a off : Int} {tgt : Nat} (hd : decode cc pc = .ok (.ifnull off, 3)) (ht : (pc : Int) + off = (tgt : Int)) (k1 : a = -1 → zT y cc mL rt d kc ks Q tgt ls st n sh h) (k2 : a ≠ -1 → zT y cc mL rt d kc ks Q (pc + 3) ls st n sh h) : zT y cc mL rt d kc ks Q pc ls ((2, a) :: st) n sh h := by
  intro l D cA φ n0 p e s m args below meth c K N H locs cells slots ls0 E S X V L c1 c2
  by_cases ha : a = -1
  · subst ha; exact lv_ifnullN E.1 E.2.1 hd ht (k1 rfl l D cA φ n0 p e s m args below meth c K N H locs cells slots ls0 E S X V L c1 c2)
  · have e0 : zrv φ (2, a) = .ref (φ a) := if_neg ha
    show W _ _ _ _ _ _ _ _ _ _ _ _ _ _ _ (F0 m pc ls0 (zrv φ (2, a) :: st.map (zrv φ)))
    rw [e0]
    exact lv_ifnull E.1 E.2.1 hd (k2 ha l D cA φ n0 p e s m args below meth c K N H locs cells slots ls0 E S X V L c1 c2)
theorem zt_ifnonnull {a off : Int} {tgt : Nat} (hd : decode cc pc = .ok (.ifnonnull off, 3)) (ht : (pc : Int) + off = (tgt : Int)) (k1 : a ≠ -1 → zT y cc mL rt d kc ks Q tgt ls st n sh h) (k2 : a = -1 → zT y cc mL rt d kc ks Q (pc + 3) ls st n sh h) : zT y cc mL rt d kc ks Q pc ls ((2, a) :: st) n sh h := by
  intro l D cA φ n0 p e s m args below meth c K N H locs cells slots ls0 E S X V L c1 c2
  by_cases ha : a = -1
  · subst ha; exact lv_ifnonnullN E.1 E.2.1 hd (k2 rfl l D cA φ n0 p e s m args below meth c K N H locs cells slots ls0 E S X V L c1 c2)
  · have e0 : zrv φ (2, a) = .ref (φ a) := if_neg ha
    show W _ _ _ _ _ _ _ _ _ _ _ _ _ _ _ (F0 m pc ls0 (zrv φ (2, a) :: st.map (zrv φ)))
    rw [e0]
    exact lv_ifnonnull E.1 E.2.1 hd ht (k1 ha l D cA φ n0 p e s m args below meth c K N H locs cells slots ls0 E S X V L c1 c2)
def zcmp (a b : Int) : Int := if a < b then -1 else if a = b then 0 else 1
theorem zcmp_cmp {a b : Int} (ha : zi64 a) (hb : zi64 b) : lg_cmp (Int64.ofInt a) (Int64.ofInt b) = Int32.ofInt (zcmp a b) := by
  unfold lg_cmp zcmp
  by_cases h1 : a < b
  · have h2 : Int64.ofInt a < Int64.ofInt b := (zi64_lt ha hb).mpr h1
    have h3 : ¬ Int64.ofInt a = Int64.ofInt b := fun q => by have := (zi64_eq ha hb).mp q; omega
    have h4 : ¬ Int64.ofInt b < Int64.ofInt a := fun q => by have := (zi64_lt hb ha).mp q; omega
    simp [h1, h2, h3, h4]
  · have h2 : ¬ Int64.ofInt a < Int64.ofInt b := fun q => h1 ((zi64_lt ha hb).mp q)
    by_cases h3 : a = b
    · subst h3; simp
    · have h4 : ¬ Int64.ofInt a = Int64.ofInt b := fun q => h3 ((zi64_eq ha hb).mp q)
      have h5 : Int64.ofInt b < Int64.ofInt a := (zi64_lt hb ha).mpr (by omega)
      simp [h1, h2, h3, h4, h5]
theorem zcmp_in (a b : Int) : zi32 (zcmp a b) := by unfold zcmp zi32; split <;> (try split) <;> omega
theorem zt_lcmp {a b : Int} (hd : decode cc pc = .ok (.lcmp, 1)) (ha : zi64 a) (hb : zi64 b) (k : zT y cc mL rt d kc ks Q (pc + 1) ls ((0, zcmp a b) :: st) n sh h) : zT y cc mL rt d kc ks Q pc ls ((1, b) :: (1, a) :: st) n sh h := by
  intro l D cA φ n0 p e s m args below meth c K N H locs cells slots ls0 E S X V L c1 c2
  refine W.lcmp E.1 E.2.1 hd ?_
  rw [zcmp_cmp ha hb]
  exact (k l D cA φ n0 p e s m args below meth c K N H locs cells slots ls0 E S X V L c1 c2)
theorem zt_lc_eq {a b off : Int} {tgt : Nat} (hd : decode cc pc = .ok (.lcmp, 1)) (hd2 : decode cc (pc + 1) = .ok (.ifCond .eq off, 3)) (ht : ((pc + 1 : Nat) : Int) + off = (tgt : Int)) (ha : zi64 a) (hb : zi64 b) (k1 : a = b → zT y cc mL rt d kc ks Q tgt ls st n sh h) (k2 : a ≠ b → zT y cc mL rt d kc ks Q (pc + 4) ls st n sh h) : zT y cc mL rt d kc ks Q pc ls ((1, b) :: (1, a) :: st) n sh h :=
  zt_lcmp hd ha hb (zt_if_eq hd2 ht (zcmp_in a b) (fun q => k1 (by unfold zcmp at q; split at q <;> (try split at q) <;> omega)) (fun q => k2 (by unfold zcmp at q; split at q <;> (try split at q) <;> omega)))
theorem zt_lc_ne {a b off : Int} {tgt : Nat} (hd : decode cc pc = .ok (.lcmp, 1)) (hd2 : decode cc (pc + 1) = .ok (.ifCond .ne off, 3)) (ht : ((pc + 1 : Nat) : Int) + off = (tgt : Int)) (ha : zi64 a) (hb : zi64 b) (k1 : a ≠ b → zT y cc mL rt d kc ks Q tgt ls st n sh h) (k2 : a = b → zT y cc mL rt d kc ks Q (pc + 4) ls st n sh h) : zT y cc mL rt d kc ks Q pc ls ((1, b) :: (1, a) :: st) n sh h :=
  zt_lcmp hd ha hb (zt_if_ne hd2 ht (zcmp_in a b) (fun q => k1 (by unfold zcmp at q; split at q <;> (try split at q) <;> omega)) (fun q => k2 (by unfold zcmp at q; split at q <;> (try split at q) <;> omega)))
theorem zt_lc_lt {a b off : Int} {tgt : Nat} (hd : decode cc pc = .ok (.lcmp, 1)) (hd2 : decode cc (pc + 1) = .ok (.ifCond .lt off, 3)) (ht : ((pc + 1 : Nat) : Int) + off = (tgt : Int)) (ha : zi64 a) (hb : zi64 b) (k1 : a < b → zT y cc mL rt d kc ks Q tgt ls st n sh h) (k2 : b ≤ a → zT y cc mL rt d kc ks Q (pc + 4) ls st n sh h) : zT y cc mL rt d kc ks Q pc ls ((1, b) :: (1, a) :: st) n sh h :=
  zt_lcmp hd ha hb (zt_if_lt hd2 ht (zcmp_in a b) (fun q => k1 (by unfold zcmp at q; split at q <;> (try split at q) <;> omega)) (fun q => k2 (by unfold zcmp at q; split at q <;> (try split at q) <;> omega)))
theorem zt_lc_ge {a b off : Int} {tgt : Nat} (hd : decode cc pc = .ok (.lcmp, 1)) (hd2 : decode cc (pc + 1) = .ok (.ifCond .ge off, 3)) (ht : ((pc + 1 : Nat) : Int) + off = (tgt : Int)) (ha : zi64 a) (hb : zi64 b) (k1 : b ≤ a → zT y cc mL rt d kc ks Q tgt ls st n sh h) (k2 : a < b → zT y cc mL rt d kc ks Q (pc + 4) ls st n sh h) : zT y cc mL rt d kc ks Q pc ls ((1, b) :: (1, a) :: st) n sh h :=
  zt_lcmp hd ha hb (zt_if_ge hd2 ht (zcmp_in a b) (fun q => k1 (by unfold zcmp at q; split at q <;> (try split at q) <;> omega)) (fun q => k2 (by unfold zcmp at q; split at q <;> (try split at q) <;> omega)))
theorem zt_lc_gt {a b off : Int} {tgt : Nat} (hd : decode cc pc = .ok (.lcmp, 1)) (hd2 : decode cc (pc + 1) = .ok (.ifCond .gt off, 3)) (ht : ((pc + 1 : Nat) : Int) + off = (tgt : Int)) (ha : zi64 a) (hb : zi64 b) (k1 : b < a → zT y cc mL rt d kc ks Q tgt ls st n sh h) (k2 : a ≤ b → zT y cc mL rt d kc ks Q (pc + 4) ls st n sh h) : zT y cc mL rt d kc ks Q pc ls ((1, b) :: (1, a) :: st) n sh h :=
  zt_lcmp hd ha hb (zt_if_gt hd2 ht (zcmp_in a b) (fun q => k1 (by unfold zcmp at q; split at q <;> (try split at q) <;> omega)) (fun q => k2 (by unfold zcmp at q; split at q <;> (try split at q) <;> omega)))
theorem zt_lc_le {a b off : Int} {tgt : Nat} (hd : decode cc pc = .ok (.lcmp, 1)) (hd2 : decode cc (pc + 1) = .ok (.ifCond .le off, 3)) (ht : ((pc + 1 : Nat) : Int) + off = (tgt : Int)) (ha : zi64 a) (hb : zi64 b) (k1 : a ≤ b → zT y cc mL rt d kc ks Q tgt ls st n sh h) (k2 : b < a → zT y cc mL rt d kc ks Q (pc + 4) ls st n sh h) : zT y cc mL rt d kc ks Q pc ls ((1, b) :: (1, a) :: st) n sh h :=
  zt_lcmp hd ha hb (zt_if_le hd2 ht (zcmp_in a b) (fun q => k1 (by unfold zcmp at q; split at q <;> (try split at q) <;> omega)) (fun q => k2 (by unfold zcmp at q; split at q <;> (try split at q) <;> omega)))
theorem zt_tableIn {a dflt lo hi off : Int} {offs : Array Int} {len tgt : Nat} (hd : decode cc pc = .ok (.tableswitch dflt lo hi offs, len)) (ha : zi32 a) (h1 : lo ≤ a) (h2 : a ≤ hi) (ho : offs[(a - lo).toNat]? = some off) (ht : (pc : Int) + off = (tgt : Int)) (k : zT y cc mL rt d kc ks Q tgt ls st n sh h) : zT y cc mL rt d kc ks Q pc ls ((0, a) :: st) n sh h := by
  intro l D cA φ n0 p e s m args below meth c K N H locs cells slots ls0 E S X V L c1 c2
  have e0 := zi32_t ha
  exact lv_tableIn E.1 E.2.1 hd (by rw [e0]; omega) (by rw [e0]; omega) (by rw [e0]; exact ho) ht (k l D cA φ n0 p e s m args below meth c K N H locs cells slots ls0 E S X V L c1 c2)
theorem zt_tableOut {a dflt lo hi : Int} {offs : Array Int} {len tgt : Nat} (hd : decode cc pc = .ok (.tableswitch dflt lo hi offs, len)) (ha : zi32 a) (h1 : a < lo ∨ hi < a) (ht : (pc : Int) + dflt = (tgt : Int)) (k : zT y cc mL rt d kc ks Q tgt ls st n sh h) : zT y cc mL rt d kc ks Q pc ls ((0, a) :: st) n sh h := by
  intro l D cA φ n0 p e s m args below meth c K N H locs cells slots ls0 E S X V L c1 c2
  have e0 := zi32_t ha
  exact lv_tableOut E.1 E.2.1 hd (by rw [e0]; exact h1) ht (k l D cA φ n0 p e s m args below meth c K N H locs cells slots ls0 E S X V L c1 c2)
theorem zt_lookup {a dflt off : Int} {ps : Array (Int × Int)} {len tgt : Nat} (hd : decode cc pc = .ok (.lookupswitch dflt ps, len)) (ha : zi32 a) (hp : (ps.toList.zip (ps.toList.drop 1)).all (fun (a, next) => a.1 < next.1) = true) (ho : Op.lookupswitch.offset ps.toList dflt a = off) (ht : (pc : Int) + off = (tgt : Int)) (k : zT y cc mL rt d kc ks Q tgt ls st n sh h) : zT y cc mL rt d kc ks Q pc ls ((0, a) :: st) n sh h := by
  intro l D cA φ n0 p e s m args below meth c K N H locs cells slots ls0 E S X V L c1 c2
  have e0 := zi32_t ha
  exact lv_lookup E.1 E.2.1 hd hp (by rw [e0]; exact ho) ht (k l D cA φ n0 p e s m args below meth c K N H locs cells slots ls0 E S X V L c1 c2)
end zRules4
