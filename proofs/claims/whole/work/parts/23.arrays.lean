section zRules6
variable {y : MethodName} {cc : ByteArray} {mL : Nat} {rt : Option FieldType} {d kc ks : Nat} {Q : Option zV → Nat → zSh → zMem → Prop} {pc : Nat} {ls : List (Option zV)} {st : List zV} {n : Nat} {sh : zSh} {h : zMem}
theorem zidx {i : Int} {n : Nat} (h0 : 0 ≤ i) (h1 : i < n) (hn : n < 2147483648) : vp_in (Int32.ofInt i) n ∧ (Int32.ofInt i).toNatClampNeg = i.toNat := by
  have h2 : zi32 i := by unfold zi32; omega
  refine ⟨vp_in_iff.mpr ?_, ?_⟩
  · rw [zi32_t h2]; omega
  · show (Int32.ofInt i).toInt.toNat = _
    rw [zi32_t h2]
theorem zSim.arr {D : va_G} {cA : Nat → ClassId} {φ : Int → Nat} {n0 n : Nat} {sh : zSh} {h : zMem} {H : Heap} (S : zSim D cA φ n0 n sh h H) {a : Int} {kd N : Nat} (hs : sh a = (kd, N)) (h1 : 100 ≤ kd) (h2 : kd < 106) : ∃ k : Nat, a = k ∧ k < n ∧ H[n0 + k]? = some (arrV (cA (kd - 100)) N (fun j => zrv φ (zat kd, h a j))) ∧ zRg (kd, N) (h a) := by
  obtain ⟨i, rfl, hi⟩ := S.adr (a := a) (by rw [hs]; exact h2)
  obtain ⟨-, b2, b3⟩ := S.2.2 i hi
  rw [hs] at b3 b2
  unfold zAt at b3
  rw [if_neg (show ¬ kd < 100 by omega)] at b3
  exact ⟨i, rfl, hi, b3, b2⟩
theorem zSim.arrUp {D : va_G} {cA : Nat → ClassId} {φ : Int → Nat} {n0 n : Nat} {sh : zSh} {h : zMem} {H H1 : Heap} (S : zSim D cA φ n0 n sh h H) {k kd N : Nat} {j z : Int} (hs : sh k = (kd, N)) (h1 : 100 ≤ kd) (hk : k < n) (h0 : 0 ≤ j) (hz : H1.size = H.size) (oq : ∀ q : Nat, q ≠ n0 + k → H1[q]? = H[q]?) (hok : zok (zak kd) z)
    (e : H1[n0 + k]? = some ((arrV (cA (kd - 100)) N (fun j => zrv φ (zat kd, h k j))).setSlot j.toNat (zrv φ (zat kd, z)))) : zSim D cA φ n0 n sh (zup h k j z) H1 := by
  obtain ⟨-, b2, -⟩ := S.2.2 k hk
  rw [hs] at b2
  refine S.up hz oq hk ?_ ?_
  · rw [hs]
    intro q hq
    have b5 := b2 q hq
    rw [if_neg (show ¬ kd < 100 by omega)] at b5 ⊢
    rw [zup_at]
    split
    · exact hok
    · exact b5
  · rw [hs]
    unfold zAt
    rw [if_neg (show ¬ kd < 100 by omega), e, arrV_store]
    congr 2
    funext q
    show (if q = j.toNat then _ else _) = zrv φ (zat kd, zup h k j z k q)
    rw [zup_at]
    by_cases hq : q = j.toNat
    · rw [if_pos hq, if_pos (by omega)]
    · rw [if_neg hq, if_neg (by omega)]
theorem zsl {n : Nat} {sh : zSh} {h : zMem} {D : va_G} {cA : Nat → ClassId} {φ : Int → Nat} {n0 : Nat} {H : Heap} (S : zSim D cA φ n0 n sh h H) : True := trivial
theorem zt_alen {a : Int} {kd N0 : Nat} (hd : decode cc pc = .ok (.arraylength, 1)) (hs : sh a = (kd, N0)) (h1 : 100 ≤ kd) (h2 : kd < 106) (k : zT y cc mL rt d kc ks Q (pc + 1) ls ((0, (N0 : Int)) :: st) n sh h) : zT y cc mL rt d kc ks Q pc ls ((2, a) :: st) n sh h := by
  intro l D cA φ n0 p e s m args below meth c K N H locs cells slots ls0 E S X V L c1 c2
  have k2 := (k l D cA φ n0 p e s m args below meth c K N H locs cells slots ls0 E S X V L c1 c2)
  obtain ⟨i, rfl, hi, hc, -⟩ := S.arr hs h1 h2
  have e1 : zrv φ (2, (i : Int)) = .ref (n0 + i) := zref E.2.2.2.2.2.2.2.2.2 i
  show W _ _ _ _ _ _ _ _ _ _ _ _ _ _ _ (F0 m pc ls0 (zrv φ (2, (i : Int)) :: st.map (zrv φ)))
  rw [e1]
  have hA : ∃ ty, (zty cA)[kd - 100]? = some (cA (kd - 100), ty) := by
    obtain ⟨q, rfl⟩ : ∃ q, kd = 100 + q := ⟨kd - 100, by omega⟩
    rw [Nat.add_sub_cancel_left]
    match q, h2 with
    | 0, _ => exact ⟨_, rfl⟩
    | 1, _ => exact ⟨_, rfl⟩
    | 2, _ => exact ⟨_, rfl⟩
    | 3, _ => exact ⟨_, rfl⟩
    | 4, _ => exact ⟨_, rfl⟩
    | 5, _ => exact ⟨_, rfl⟩
    | q + 6, h => exact absurd h (by omega)
  obtain ⟨ty, hty⟩ := hA
  exact W.alen E.1 E.2.1 hc ((E.2.2.2.2.2.2.2.2.1.1.2 _ _ hty).1 N0 _) (by rw [arrV_size]; exact (Int32.ofInt_eq_ofNat).symm) rfl rfl hd k2
theorem zt_iaload {a i : Int} {N0 : Nat} (hd : decode cc pc = .ok (.iaload, 1)) (hs : sh a = (100, N0)) (hN : N0 < 2147483648) (h0 : 0 ≤ i) (h1 : i < N0) (k : zT y cc mL rt d kc ks Q (pc + 1) ls ((0, h a i) :: st) n sh h) : zT y cc mL rt d kc ks Q pc ls ((0, i) :: (2, a) :: st) n sh h := by
  intro l D cA φ n0 p e s m args below meth c K N H locs cells slots ls0 E S X V L c1 c2
  have k2 := (k l D cA φ n0 p e s m args below meth c K N H locs cells slots ls0 E S X V L c1 c2)
  obtain ⟨q, rfl, hq, hc, -⟩ := S.arr hs (by omega) (by omega)
  have e1 : zrv φ (2, (q : Int)) = .ref (n0 + q) := zref E.2.2.2.2.2.2.2.2.2 q
  obtain ⟨x1, x2⟩ := zidx h0 h1 hN
  show W _ _ _ _ _ _ _ _ _ _ _ _ _ _ _ (F0 m pc ls0 (.int (Int32.ofInt i) :: zrv φ (2, (q : Int)) :: st.map (zrv φ)))
  rw [e1]
  refine W.iald E.1 E.2.1 hc ((E.2.2.2.2.2.2.2.2.1.1.2 0 _ rfl).1 N0 _) (fun q => by cases q) (by rw [arrV_size]; exact x1) (v := zrv φ (0, h q i)) ?_ rfl rfl hd k2
  rw [x2, arrV_read _ _ (by omega)]
  show some (zrv φ (0, h q (i.toNat : Int))) = _
  rw [Int.toNat_of_nonneg h0]
theorem zt_laload {a i : Int} {N0 : Nat} (hd : decode cc pc = .ok (.laload, 1)) (hs : sh a = (101, N0)) (hN : N0 < 2147483648) (h0 : 0 ≤ i) (h1 : i < N0) (k : zT y cc mL rt d kc ks Q (pc + 1) ls ((1, h a i) :: st) n sh h) : zT y cc mL rt d kc ks Q pc ls ((0, i) :: (2, a) :: st) n sh h := by
  intro l D cA φ n0 p e s m args below meth c K N H locs cells slots ls0 E S X V L c1 c2
  have k2 := (k l D cA φ n0 p e s m args below meth c K N H locs cells slots ls0 E S X V L c1 c2)
  obtain ⟨q, rfl, hq, hc, -⟩ := S.arr hs (by omega) (by omega)
  have e1 : zrv φ (2, (q : Int)) = .ref (n0 + q) := zref E.2.2.2.2.2.2.2.2.2 q
  obtain ⟨x1, x2⟩ := zidx h0 h1 hN
  show W _ _ _ _ _ _ _ _ _ _ _ _ _ _ _ (F0 m pc ls0 (.int (Int32.ofInt i) :: zrv φ (2, (q : Int)) :: st.map (zrv φ)))
  rw [e1]
  refine W.lald E.1 E.2.1 hc ((E.2.2.2.2.2.2.2.2.1.1.2 1 _ rfl).1 N0 _) (fun q => by cases q) (by rw [arrV_size]; exact x1) (v := zrv φ (1, h q i)) ?_ rfl rfl hd k2
  rw [x2, arrV_read _ _ (by omega)]
  show some (zrv φ (1, h q (i.toNat : Int))) = _
  rw [Int.toNat_of_nonneg h0]
theorem zt_baload {a i : Int} {N0 : Nat} (hd : decode cc pc = .ok (.baload, 1)) (hs : sh a = (102, N0)) (hN : N0 < 2147483648) (h0 : 0 ≤ i) (h1 : i < N0) (k : zT y cc mL rt d kc ks Q (pc + 1) ls ((0, h a i) :: st) n sh h) : zT y cc mL rt d kc ks Q pc ls ((0, i) :: (2, a) :: st) n sh h := by
  intro l D cA φ n0 p e s m args below meth c K N H locs cells slots ls0 E S X V L c1 c2
  have k2 := (k l D cA φ n0 p e s m args below meth c K N H locs cells slots ls0 E S X V L c1 c2)
  obtain ⟨q, rfl, hq, hc, -⟩ := S.arr hs (by omega) (by omega)
  have e1 : zrv φ (2, (q : Int)) = .ref (n0 + q) := zref E.2.2.2.2.2.2.2.2.2 q
  obtain ⟨x1, x2⟩ := zidx h0 h1 hN
  show W _ _ _ _ _ _ _ _ _ _ _ _ _ _ _ (F0 m pc ls0 (.int (Int32.ofInt i) :: zrv φ (2, (q : Int)) :: st.map (zrv φ)))
  rw [e1]
  refine W.bald E.1 E.2.1 hc ((E.2.2.2.2.2.2.2.2.1.1.2 2 _ rfl).1 N0 _) (fun q => by cases q) (by rw [arrV_size]; exact x1) (v := zrv φ (0, h q i)) ?_ rfl rfl hd k2
  rw [x2, arrV_read _ _ (by omega)]
  show some (zrv φ (0, h q (i.toNat : Int))) = _
  rw [Int.toNat_of_nonneg h0]
theorem zt_zaload {a i : Int} {N0 : Nat} (hd : decode cc pc = .ok (.baload, 1)) (hs : sh a = (103, N0)) (hN : N0 < 2147483648) (h0 : 0 ≤ i) (h1 : i < N0) (k : zT y cc mL rt d kc ks Q (pc + 1) ls ((0, h a i) :: st) n sh h) : zT y cc mL rt d kc ks Q pc ls ((0, i) :: (2, a) :: st) n sh h := by
  intro l D cA φ n0 p e s m args below meth c K N H locs cells slots ls0 E S X V L c1 c2
  have k2 := (k l D cA φ n0 p e s m args below meth c K N H locs cells slots ls0 E S X V L c1 c2)
  obtain ⟨q, rfl, hq, hc, -⟩ := S.arr hs (by omega) (by omega)
  have e1 : zrv φ (2, (q : Int)) = .ref (n0 + q) := zref E.2.2.2.2.2.2.2.2.2 q
  obtain ⟨x1, x2⟩ := zidx h0 h1 hN
  show W _ _ _ _ _ _ _ _ _ _ _ _ _ _ _ (F0 m pc ls0 (.int (Int32.ofInt i) :: zrv φ (2, (q : Int)) :: st.map (zrv φ)))
  rw [e1]
  refine W.zald E.1 E.2.1 hc ((E.2.2.2.2.2.2.2.2.1.1.2 3 _ rfl).1 N0 _) (fun q => by cases q) (by rw [arrV_size]; exact x1) (v := zrv φ (0, h q i)) ?_ rfl rfl hd k2
  rw [x2, arrV_read _ _ (by omega)]
  show some (zrv φ (0, h q (i.toNat : Int))) = _
  rw [Int.toNat_of_nonneg h0]
theorem zn8 {φ : Int → Nat} {z : Int} (hz : -128 ≤ z ∧ z ≤ 127) : narrow .byte (.int (Int32.ofInt z)) = zrv φ (zat 102, z) := by
  show Value.int (Int32.ofInt z).toInt8.toInt32 = .int (Int32.ofInt z)
  rw [Int32.toInt8_ofInt, zi8 hz]
theorem zt_iastore {a i z : Int} {N0 : Nat} (hd : decode cc pc = .ok (.iastore, 1)) (hs : sh a = (100, N0)) (hN : N0 < 2147483648) (h0 : 0 ≤ i) (h1 : i < N0) (hz : zi32 z) (k : zT y cc mL rt d kc ks Q (pc + 1) ls st n sh (zup h a i z)) : zT y cc mL rt d kc ks Q pc ls ((0, z) :: (0, i) :: (2, a) :: st) n sh h := by
  intro l D cA φ n0 p e s m args below meth c K N H locs cells slots ls0 E S X V L c1 c2
  obtain ⟨q, rfl, hq, hc, -⟩ := S.arr hs (by omega) (by omega)
  have e1 : zrv φ (2, (q : Int)) = .ref (n0 + q) := zref E.2.2.2.2.2.2.2.2.2 q
  obtain ⟨x1, x2⟩ := zidx h0 h1 hN
  show W _ _ _ _ _ _ _ _ _ _ _ _ _ _ _ (F0 m pc ls0 (zrv φ (0, z) :: .int (Int32.ofInt i) :: zrv φ (2, (q : Int)) :: st.map (zrv φ)))
  rw [e1]
  refine W.iast E.1 E.2.1 hc ((E.2.2.2.2.2.2.2.2.1.1.2 0 _ rfl).1 N0 _) (fun q => by cases q) (by rw [arrV_size]; exact x1) rfl rfl hd (fun H1 w1 w2 w3 => ?_)
  rw [x2] at w1
  exact k l D cA φ n0 p e s m args below meth c K N H1 _ cells slots ls0 E (S.arrUp hs (by omega) hq h0 w2 w3 hz w1) (X.up w3) (V.put w2 w3 (Nat.le_add_right n0 q)) L c1 c2
theorem zt_lastore {a i z : Int} {N0 : Nat} (hd : decode cc pc = .ok (.lastore, 1)) (hs : sh a = (101, N0)) (hN : N0 < 2147483648) (h0 : 0 ≤ i) (h1 : i < N0) (hz : zi64 z) (k : zT y cc mL rt d kc ks Q (pc + 1) ls st n sh (zup h a i z)) : zT y cc mL rt d kc ks Q pc ls ((1, z) :: (0, i) :: (2, a) :: st) n sh h := by
  intro l D cA φ n0 p e s m args below meth c K N H locs cells slots ls0 E S X V L c1 c2
  obtain ⟨q, rfl, hq, hc, -⟩ := S.arr hs (by omega) (by omega)
  have e1 : zrv φ (2, (q : Int)) = .ref (n0 + q) := zref E.2.2.2.2.2.2.2.2.2 q
  obtain ⟨x1, x2⟩ := zidx h0 h1 hN
  show W _ _ _ _ _ _ _ _ _ _ _ _ _ _ _ (F0 m pc ls0 (zrv φ (1, z) :: .int (Int32.ofInt i) :: zrv φ (2, (q : Int)) :: st.map (zrv φ)))
  rw [e1]
  refine W.last E.1 E.2.1 hc ((E.2.2.2.2.2.2.2.2.1.1.2 1 _ rfl).1 N0 _) (fun q => by cases q) (by rw [arrV_size]; exact x1) rfl rfl hd (fun H1 w1 w2 w3 => ?_)
  rw [x2] at w1
  exact k l D cA φ n0 p e s m args below meth c K N H1 _ cells slots ls0 E (S.arrUp hs (by omega) hq h0 w2 w3 hz w1) (X.up w3) (V.put w2 w3 (Nat.le_add_right n0 q)) L c1 c2
theorem zt_bastore {a i z : Int} {N0 : Nat} (hd : decode cc pc = .ok (.bastore, 1)) (hs : sh a = (102, N0)) (hN : N0 < 2147483648) (h0 : 0 ≤ i) (h1 : i < N0) (hz : -128 ≤ z ∧ z ≤ 127) (k : zT y cc mL rt d kc ks Q (pc + 1) ls st n sh (zup h a i z)) : zT y cc mL rt d kc ks Q pc ls ((0, z) :: (0, i) :: (2, a) :: st) n sh h := by
  intro l D cA φ n0 p e s m args below meth c K N H locs cells slots ls0 E S X V L c1 c2
  obtain ⟨q, rfl, hq, hc, -⟩ := S.arr hs (by omega) (by omega)
  have e1 : zrv φ (2, (q : Int)) = .ref (n0 + q) := zref E.2.2.2.2.2.2.2.2.2 q
  obtain ⟨x1, x2⟩ := zidx h0 h1 hN
  show W _ _ _ _ _ _ _ _ _ _ _ _ _ _ _ (F0 m pc ls0 (zrv φ (0, z) :: .int (Int32.ofInt i) :: zrv φ (2, (q : Int)) :: st.map (zrv φ)))
  rw [e1]
  refine W.bast E.1 E.2.1 hc ((E.2.2.2.2.2.2.2.2.1.1.2 2 _ rfl).1 N0 _) (fun q => by cases q) (by rw [arrV_size]; exact x1) rfl rfl hd (fun H1 w1 w2 w3 => ?_)
  rw [x2] at w1
  exact k l D cA φ n0 p e s m args below meth c K N H1 _ cells slots ls0 E (S.arrUp hs (by omega) hq h0 w2 w3 hz (by rw [w1]; congr 2; exact zn8 hz)) (X.up w3) (V.put w2 w3 (Nat.le_add_right n0 q)) L c1 c2
theorem zt_zastore {a i z : Int} {N0 : Nat} (hd : decode cc pc = .ok (.bastore, 1)) (hs : sh a = (103, N0)) (hN : N0 < 2147483648) (h0 : 0 ≤ i) (h1 : i < N0) (hz : z = 0 ∨ z = 1) (k : zT y cc mL rt d kc ks Q (pc + 1) ls st n sh (zup h a i z)) : zT y cc mL rt d kc ks Q pc ls ((0, z) :: (0, i) :: (2, a) :: st) n sh h := by
  intro l D cA φ n0 p e s m args below meth c K N H locs cells slots ls0 E S X V L c1 c2
  obtain ⟨q, rfl, hq, hc, -⟩ := S.arr hs (by omega) (by omega)
  have e1 : zrv φ (2, (q : Int)) = .ref (n0 + q) := zref E.2.2.2.2.2.2.2.2.2 q
  obtain ⟨x1, x2⟩ := zidx h0 h1 hN
  show W _ _ _ _ _ _ _ _ _ _ _ _ _ _ _ (F0 m pc ls0 (zrv φ (0, z) :: .int (Int32.ofInt i) :: zrv φ (2, (q : Int)) :: st.map (zrv φ)))
  rw [e1]
  refine W.zast E.1 E.2.1 hc ((E.2.2.2.2.2.2.2.2.1.1.2 3 _ rfl).1 N0 _) (fun q => by cases q) (by rw [arrV_size]; exact x1) rfl rfl hd (fun H1 w1 w2 w3 => ?_)
  rw [x2] at w1
  exact k l D cA φ n0 p e s m args below meth c K N H1 _ cells slots ls0 E (S.arrUp hs (by omega) hq h0 w2 w3 hz (by rw [w1]; congr 2; rcases hz with rfl | rfl <;> rfl)) (X.up w3) (V.put w2 w3 (Nat.le_add_right n0 q)) L c1 c2
theorem zt_aaload {a i : Int} {kd N0 : Nat} (hd : decode cc pc = .ok (.aaload, 1)) (hs : sh a = (kd, N0)) (hkd : kd = 104 ∨ kd = 105) (hN : N0 < 2147483648) (h0 : 0 ≤ i) (h1 : i < N0) (k : zT y cc mL rt d kc ks Q (pc + 1) ls ((2, h a i) :: st) n sh h) : zT y cc mL rt d kc ks Q pc ls ((0, i) :: (2, a) :: st) n sh h := by
  intro l D cA φ n0 p e s m args below meth c K N H locs cells slots ls0 E S X V L c1 c2
  have k2 := (k l D cA φ n0 p e s m args below meth c K N H locs cells slots ls0 E S X V L c1 c2)
  obtain ⟨q, rfl, hq, hc, -⟩ := S.arr hs (by omega) (by omega)
  have e1 : zrv φ (2, (q : Int)) = .ref (n0 + q) := zref E.2.2.2.2.2.2.2.2.2 q
  obtain ⟨x1, x2⟩ := zidx h0 h1 hN
  have hA : ∃ C : String, (zty cA)[kd - 100]? = some (cA (kd - 100), .object C) := by rcases hkd with rfl | rfl <;> exact ⟨_, rfl⟩
  obtain ⟨C, hC⟩ := hA
  show W _ _ _ _ _ _ _ _ _ _ _ _ _ _ _ (F0 m pc ls0 (.int (Int32.ofInt i) :: zrv φ (2, (q : Int)) :: st.map (zrv φ)))
  rw [e1]
  refine W.aald (ty := .object C) E.1 E.2.1 hc ((E.2.2.2.2.2.2.2.2.1.1.2 _ _ hC).1 N0 _) rfl (fun q => by cases q) (by rw [arrV_size]; exact x1) (v := zrv φ (2, h q i)) ?_ rfl rfl hd k2
  rw [x2, arrV_read _ _ (by omega)]
  show some (zrv φ (zat kd, h q (i.toNat : Int))) = _
  rw [Int.toNat_of_nonneg h0]
  rcases hkd with rfl | rfl <;> rfl
theorem zt_aastore {a i z : Int} {kd N0 ci N1 : Nat} (hd : decode cc pc = .ok (.aastore, 1)) (hs : sh a = (kd, N0)) (hkd : (kd = 104 ∧ ci = 7) ∨ (kd = 105 ∧ ci = 8)) (hN : N0 < 2147483648) (h0 : 0 ≤ i) (h1 : i < N0) (hv : sh z = (ci, N1)) (k : zT y cc mL rt d kc ks Q (pc + 1) ls st n sh (zup h a i z)) : zT y cc mL rt d kc ks Q pc ls ((2, z) :: (0, i) :: (2, a) :: st) n sh h := by
  intro l D cA φ n0 p e s m args below meth c K N H locs cells slots ls0 E S X V L c1 c2
  obtain ⟨q, rfl, hq, hc, -⟩ := S.arr hs (by omega) (by omega)
  have e1 : zrv φ (2, (q : Int)) = .ref (n0 + q) := zref E.2.2.2.2.2.2.2.2.2 q
  obtain ⟨x1, x2⟩ := zidx h0 h1 hN
  obtain ⟨v, rfl, hvn⟩ := S.adr (a := z) (by rw [hv]; show ci < 106; omega)
  have e2 : zrv φ (2, (v : Int)) = .ref (n0 + v) := zref E.2.2.2.2.2.2.2.2.2 v
  have hK := E.2.2.2.2.2.2.2.2.1.1
  obtain ⟨-, -, b3⟩ := S.2.2 v hvn
  rw [hv] at b3
  unfold zAt at b3
  rw [if_pos (show ci < 100 by omega)] at b3
  obtain ⟨cellV, g1, g2, g3, -⟩ := b3.2
  have hA : ∃ r : vw_C, vwCl[ci]? = some r ∧ (zty cA)[kd - 100]? = some (cA (kd - 100), .object r.1) := by rcases hkd with ⟨rfl, rfl⟩ | ⟨rfl, rfl⟩ <;> exact ⟨_, rfl, rfl⟩
  obtain ⟨r, hr, hC⟩ := hA
  have hcls := (hK.1 ci r hr).2
  obtain ⟨kA, comp, k1, k2, k3, -⟩ := (hK.2 _ _ hC).2
  have hcomp : comp = D.1 ci := Option.some.inj (k3.symm.trans hcls.1)
  subst hcomp
  obtain ⟨kC, hkC, -⟩ := hcls.2
  show W _ _ _ _ _ _ _ _ _ _ _ _ _ _ _ (F0 m pc ls0 (zrv φ (2, (v : Int)) :: .int (Int32.ofInt i) :: zrv φ (2, (q : Int)) :: st.map (zrv φ)))
  rw [e1, e2]
  refine W.aast E.1 E.2.1 hc (fun q h => by cases h) (fun h => by cases h) k1 k2 rfl hkC ⟨fun q => x1 (Or.inl q), by rw [arrV_size, x2]; omega⟩ g1 (fun q h => by rw [g3] at h; cases h) (by rw [g2]; exact hkC) (by rw [g2]; exact va_assign hcls) rfl rfl hd (fun H1 w1 w2 w3 => ?_)
  rw [x2, ← e2] at w1
  refine k l D cA φ n0 p e s m args below meth c K N H1 _ cells slots ls0 E (S.arrUp hs (by omega) hq h0 w2 w3 ?_ ?_) (X.up w3) (V.put w2 w3 (Nat.le_add_right n0 q)) L c1 c2
  · rcases hkd with ⟨rfl, rfl⟩ | ⟨rfl, rfl⟩ <;> exact trivial
  · rw [w1]
    rcases hkd with ⟨rfl, rfl⟩ | ⟨rfl, rfl⟩ <;> rfl
/-- the script's element -/
theorem zt_sld {i : Int} {N0 : Nat} (hd : decode cc pc = .ok (.iaload, 1)) (hs : sh (-1000) = (160, N0)) (hN : N0 < 2147483648) (h0 : 0 ≤ i) (h1 : i < N0) (k : zi32 (h (-1000) i) → zT y cc mL rt d kc ks Q (pc + 1) ls ((0, h (-1000) i) :: st) n sh h) : zT y cc mL rt d kc ks Q pc ls ((0, i) :: (2, -1000) :: st) n sh h := by
  intro l D cA φ n0 p e s m args below meth c K N H locs cells slots ls0 E S X V L c1 c2
  obtain ⟨x1, x2⟩ := zidx h0 h1 hN
  obtain ⟨y1, y2, y3⟩ := X N0 hs
  have e9 : ((i.toNat : Nat) : Int) = i := Int.toNat_of_nonneg h0
  have k2 := k (by have := y2 i.toNat (by omega); rwa [e9] at this) l D cA φ n0 p e s m args below meth c K N H locs cells slots ls0 E S X V L c1 c2
  refine va_sld (H0 := H) (A := zA n0) E.1 E.2.1 y3 (by have := S.1; omega) (fun q => by have : n0 ≤ _ := q; omega) ⟨Nat.le_refl _, fun _ _ _ => rfl, V.2.2⟩ x1 hd ?_
  rw [x2]
  show W _ _ _ _ _ _ _ _ _ _ _ _ _ _ _ (F0 m (pc + 1) ls0 (.int (Int32.ofInt (h (-1000) (i.toNat : Int))) :: st.map (zrv φ)))
  rw [e9]
  exact k2
theorem zt_slen {N0 : Nat} (hd : decode cc pc = .ok (.arraylength, 1)) (hs : sh (-1000) = (160, N0)) (k : zT y cc mL rt d kc ks Q (pc + 1) ls ((0, (N0 : Int)) :: st) n sh h) : zT y cc mL rt d kc ks Q pc ls ((2, -1000) :: st) n sh h := by
  intro l D cA φ n0 p e s m args below meth c K N H locs cells slots ls0 E S X V L c1 c2
  have k2 := (k l D cA φ n0 p e s m args below meth c K N H locs cells slots ls0 E S X V L c1 c2)
  obtain ⟨y1, y2, scr, z1, z2, z3, z4, z5⟩ := X N0 hs
  exact W.alen E.1 E.2.1 z1 z2 (by rw [z4]; exact (Int32.ofInt_eq_ofNat).symm) rfl rfl hd k2
end zRules6
