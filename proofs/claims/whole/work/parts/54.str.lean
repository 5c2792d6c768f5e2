section zStr
variable {y : MethodName} {cc : ByteArray} {mL : Nat} {rt : Option FieldType} {d kc ks : Nat} {Q : Option zV → Nat → zSh → zMem → Prop} {pc : Nat} {ls : List (Option zV)} {st : List zV} {n : Nat} {sh : zSh} {h : zMem}
/-- b is the address of the i-th String constant -/
def zSc (b : Int) (i : Nat) : Prop := b = -(2 + 2 * (i : Int)) ∧ i < 10
def zsb (i : Nat) (k : Int) : Int := ((zStrB.getD i []).getD k.toNat 0).toInt
theorem zrv_r {φ : Int → Nat} {a : Int} (h : a ≠ -1) : zrv φ (2, a) = .ref (φ a) := if_neg h
theorem zt_ldcs {idx i : Nat} {v : Int} (hd : decode cc pc = .ok (.ldc idx, 2)) (hb : zSc v i) (hq : (zStrs.getD i ("", 0, "")).1 = y.cls ∧ (zStrs.getD i ("", 0, "")).2.1 = idx) (k : zT y cc mL rt d kc ks Q (pc + 2) ls ((2, v) :: st) n sh h) : zT y cc mL rt d kc ks Q pc ls st n sh h := by
  intro l D cA φ n0 p e s m args below meth c K N H locs cells slots ls0 E S X V L c1 c2
  have k2 := k l D cA φ n0 p e s m args below meth c K N H locs cells slots ls0 E S X V L c1 c2
  have C := E.2.2.2.2.2.2.2.2.1
  have hR := C.2.2.2.2.2.1 i hb.2
  rw [hq.1, hq.2] at hR
  obtain ⟨rfl, hi⟩ := hb
  rw [List.map_cons, zrv_r (by omega)] at k2
  exact va_ldcS E.1 E.2.1 E.2.2.2.1 hR hd k2
theorem zt_gsC {idx : Nat} (hd : decode cc pc = .ok (.getstatic idx, 3)) (hf : Cond.fieldLink y.cls idx "java/lang/String" "COMPACT_STRINGS" "Z" ∈ zTb) (k : zT y cc mL rt d kc ks Q (pc + 3) ls ((0, 1) :: st) n sh h) : zT y cc mL rt d kc ks Q pc ls st n sh h := by
  intro l D cA φ n0 p e s m args below meth c K N H locs cells slots ls0 E S X V L c1 c2
  have k2 := k l D cA φ n0 p e s m args below meth c K N H locs cells slots ls0 E S X V L c1 c2
  have C := E.2.2.2.2.2.2.2.2.1
  exact va_gets E.1 E.2.1 C.2.2.2.2.2.2.1 V E.2.2.2.1 (E.2.2.2.2.1 _ hf) (fun _ q => q) hd k2
theorem zt_gsF {idx : Nat} (hd : decode cc pc = .ok (.getstatic idx, 3)) (hf : Cond.fieldLink y.cls idx "jdk/internal/util/Preconditions" "SIOOBE_FORMATTER" "Ljava/util/function/BiFunction;" ∈ zTb) (k : ∀ z : Int, zT y cc mL rt d kc ks Q (pc + 3) ls ((2, z) :: st) n sh h) : zT y cc mL rt d kc ks Q pc ls st n sh h := by
  intro l D cA φ n0 p e s m args below meth c K N H locs cells slots ls0 E S X V L c1 c2
  have C := E.2.2.2.2.2.2.2.2.1
  obtain ⟨z, -, hZ⟩ := C.2.2.2.2.2.2.2
  have k2 := k z l D cA φ n0 p e s m args below meth c K N H locs cells slots ls0 E S X V L c1 c2
  exact va_gets E.1 E.2.1 hZ V E.2.2.2.1 (E.2.2.2.2.1 _ hf) (fun _ q => q) hd k2
theorem zt_gfV {idx i : Nat} {b : Int} (hd : decode cc pc = .ok (.getfield idx, 3)) (hf : Cond.fieldLink y.cls idx "java/lang/String" "value" "[B" ∈ zTb) (hb : zSc b i) (k : zT y cc mL rt d kc ks Q (pc + 3) ls ((2, b - 1) :: st) n sh h) : zT y cc mL rt d kc ks Q pc ls ((2, b) :: st) n sh h := by
  intro l D cA φ n0 p e s m args below meth c K N H locs cells slots ls0 E S X V L c1 c2
  have k2 := k l D cA φ n0 p e s m args below meth c K N H locs cells slots ls0 E S X V L c1 c2
  have C := E.2.2.2.2.2.2.2.2.1
  obtain ⟨rfl, hi⟩ := hb
  have hE := (C.2.2.2.2.1.1 i hi).2.2.1
  rw [List.map_cons, zrv_r (by omega), show -(2 + 2 * (i : Int)) - 1 = -(3 + 2 * (i : Int)) by omega] at k2
  rw [List.map_cons, zrv_r (by omega)]
  exact vk_getf E.1 E.2.1 hE V E.2.2.2.1 (E.2.2.2.2.1 _ hf) (fun _ q => q) hd k2
theorem zt_gfC {idx i : Nat} {b : Int} (hd : decode cc pc = .ok (.getfield idx, 3)) (hf : Cond.fieldLink y.cls idx "java/lang/String" "coder" "B" ∈ zTb) (hb : zSc b i) (k : zT y cc mL rt d kc ks Q (pc + 3) ls ((0, 0) :: st) n sh h) : zT y cc mL rt d kc ks Q pc ls ((2, b) :: st) n sh h := by
  intro l D cA φ n0 p e s m args below meth c K N H locs cells slots ls0 E S X V L c1 c2
  have k2 := k l D cA φ n0 p e s m args below meth c K N H locs cells slots ls0 E S X V L c1 c2
  have C := E.2.2.2.2.2.2.2.2.1
  obtain ⟨rfl, hi⟩ := hb
  have hE := (C.2.2.2.2.1.1 i hi).2.1
  rw [List.map_cons, zrv_r (by omega)]
  exact vk_getf E.1 E.2.1 hE V E.2.2.2.1 (E.2.2.2.2.1 _ hf) (fun _ q => q) hd k2
theorem zStrL_b : ∀ i : Nat, i < 10 → zStrL.getD i 0 ≤ 36 := by decide
theorem zt_alS {i : Nat} {b v : Int} (hd : decode cc pc = .ok (.arraylength, 1)) (hb : zSc b i) (hv : ((zStrL.getD i 0 : Nat) : Int) = v) (k : zT y cc mL rt d kc ks Q (pc + 1) ls ((0, v) :: st) n sh h) : zT y cc mL rt d kc ks Q pc ls ((2, b - 1) :: st) n sh h := by
  intro l D cA φ n0 p e s m args below meth c K N H locs cells slots ls0 E S X V L c1 c2
  have k2 := k l D cA φ n0 p e s m args below meth c K N H locs cells slots ls0 E S X V L c1 c2
  have C := E.2.2.2.2.2.2.2.2.1
  obtain ⟨rfl, hi⟩ := hb
  have hE := (C.2.2.2.2.1.1 i hi).2.2.2
  rw [List.map_cons, zrv_r (by omega), show -(2 + 2 * (i : Int)) - 1 = -(3 + 2 * (i : Int)) by omega]
  refine va_tlen E.1 E.2.1 hE V (v := Int32.ofInt v) ?_ hd k2
  rw [← hv]; exact (Int32.ofInt_eq_ofNat).symm
theorem zt_bS {i : Nat} {b x v : Int} (hd : decode cc pc = .ok (.baload, 1)) (hb : zSc b i) (h0 : 0 ≤ x) (h1 : x < ((zStrL.getD i 0 : Nat) : Int)) (hv : zsb i x = v) (k : zT y cc mL rt d kc ks Q (pc + 1) ls ((0, v) :: st) n sh h) : zT y cc mL rt d kc ks Q pc ls ((0, x) :: (2, b - 1) :: st) n sh h := by
  intro l D cA φ n0 p e s m args below meth c K N H locs cells slots ls0 E S X V L c1 c2
  have k2 := k l D cA φ n0 p e s m args below meth c K N H locs cells slots ls0 E S X V L c1 c2
  have C := E.2.2.2.2.2.2.2.2.1
  obtain ⟨rfl, hi⟩ := hb
  have hE := (C.2.2.2.2.1.1 i hi).2.2.2
  have h9 := zStrL_b i hi
  obtain ⟨x1, x2⟩ := zidx h0 h1 (by omega)
  rw [List.map_cons, List.map_cons, zrv_r (by omega), show -(2 + 2 * (i : Int)) - 1 = -(3 + 2 * (i : Int)) by omega]
  refine va_tb E.1 E.2.1 hE V x1 (v := .int (Int32.ofInt v)) ?_ hd k2
  rw [x2, ← hv]; unfold zsb; rw [Int32.ofInt_toInt]
def zLVS (own : String) (idx : Nat) (y' : MethodName) (cc' : ByteArray) (mL' : Nat) (rt' : Option FieldType) (na : Nat) : Prop := zML own idx y' cc' mL' rt' na ∧ Cond.instanceMethod y' ∈ zTb ∧ Cond.selects "java/lang/String" y' y' ∈ zTb
theorem zg_callVS {idx i : Nat} {y' : MethodName} {cc' : ByteArray} {mL' : Nat} {rt' : Option FieldType} {na kc' ks' : Nat} {Q' : Option zV → Nat → zSh → zMem → Prop} {av : List zV} {b : Int} (hd : decode cc pc = .ok (.invokevirtual idx, 3)) (hl : zLVS y.cls idx y' cc' mL' rt' na) (hb : zSc b i) (ha : av.length = na) (hw : zws st ≤ 8) (M : zM y' cc' mL' rt' d kc' ks' ((2, b) :: av) n sh h Q') (k : ∀ r n' sh' h', Q' r n' sh' h' → zT y cc mL rt (d + 1) kc ks Q (pc + 3) ls (r.toList ++ st) n' sh' h') : zT y cc mL rt (d + 1) (kc + kc') (ks + ks') Q pc ls (av.reverse ++ (2, b) :: st) n sh h := by
  intro l D cA φ n0 p e s m args below meth c K N H locs cells slots ls0 E S X V L c1 c2
  have hts := E.2.2.2.2.1
  have C := E.2.2.2.2.2.2.2.2.1
  obtain ⟨rfl, hi⟩ := hb
  have hv := vk_recv C.2.2.2.2.1 hi V
  generalize hbe : -(2 + 2 * (i : Int)) = b at *
  have e1 : zrv φ (2, b) = .ref (φ b) := zrv_r (by omega)
  have hg : (av.reverse ++ (2, b) :: st).map (zrv φ) = (av.map (zrv φ)).reverse ++ .ref (φ b) :: st.map (zrv φ) := by rw [← e1]; simp
  have hp := zpre (av := (2, b) :: av) S X C V
  have hp2 : PreV s H "java/lang/String" (φ b) (fun v U => v = ((((2, b) :: av)).map (zrv φ)).toArray ∧ zSim D cA φ n0 n sh h U.heap ∧ zX φ n0 sh h U U.heap ∧ zC D cA φ n0 U) (av.map (zrv φ)) := by
    refine ⟨hp.1, hv, fun U hU hW => ?_⟩
    have h9 := hp.2 U hU hW
    exact ⟨by rw [List.map_cons, e1], h9.2⟩
  exact zback E V L c1 c2 (va_runV (As := av.map (zrv φ)) (rest := st.map (zrv φ)) ⟨E.1, E.2.1, E.2.2.1, E.2.2.2.1, hts⟩ (M l D cA φ n0 E.2.2.2.2.2.2.2.2.2) ⟨(zcallB hl.1 hts), hts _ hl.2.1, hts _ hl.2.2⟩ hp2 rfl (by rw [List.length_map]; exact ha) L.1 hg (lv_room (by rw [zws_cat]; exact hw)) hd ⟨by show cells + kc' ≤ K; omega, by show slots + ks' ≤ N; omega⟩) k

theorem zt_callVS0r {idx i : Nat} {y' : MethodName} {cc' : ByteArray} {mL' : Nat} {rt' : Option FieldType} {kc' ks' n1 : Nat} {sh1 : zSh} {h1 : zMem} {b : Int} {v : zV} (hd : decode cc pc = .ok (.invokevirtual idx, 3)) (hl : zLVS y.cls idx y' cc' mL' rt' 0) (hb : zSc b i) (hw : zws st ≤ 8) (M : zF y' cc' mL' rt' d kc' ks' [(2, b)] n sh h (some v) n1 sh1 h1) (k : zT y cc mL rt (d + 1) kc ks Q (pc + 3) ls (v :: st) n1 sh1 h1) : zT y cc mL rt (d + 1) (kc + kc') (ks + ks') Q pc ls ((2, b) :: st) n sh h := zg_callVS (av := []) hd hl hb rfl hw M (fun r' n' sh' h' ⟨e1, e2, e3, e4⟩ => by subst e1 e2 e3 e4; exact k)
theorem zt_callVS1r {idx i : Nat} {y' : MethodName} {cc' : ByteArray} {mL' : Nat} {rt' : Option FieldType} {kc' ks' n1 : Nat} {sh1 : zSh} {h1 : zMem} {b : Int} {v0 : zV} {v : zV} (hd : decode cc pc = .ok (.invokevirtual idx, 3)) (hl : zLVS y.cls idx y' cc' mL' rt' 1) (hb : zSc b i) (hw : zws st ≤ 8) (M : zF y' cc' mL' rt' d kc' ks' [(2, b), v0] n sh h (some v) n1 sh1 h1) (k : zT y cc mL rt (d + 1) kc ks Q (pc + 3) ls (v :: st) n1 sh1 h1) : zT y cc mL rt (d + 1) (kc + kc') (ks + ks') Q pc ls (v0 :: (2, b) :: st) n sh h := zg_callVS (av := [v0]) hd hl hb rfl hw M (fun r' n' sh' h' ⟨e1, e2, e3, e4⟩ => by subst e1 e2 e3 e4; exact k)
theorem zt_callVS2r {idx i : Nat} {y' : MethodName} {cc' : ByteArray} {mL' : Nat} {rt' : Option FieldType} {kc' ks' n1 : Nat} {sh1 : zSh} {h1 : zMem} {b : Int} {v0 v1 : zV} {v : zV} (hd : decode cc pc = .ok (.invokevirtual idx, 3)) (hl : zLVS y.cls idx y' cc' mL' rt' 2) (hb : zSc b i) (hw : zws st ≤ 8) (M : zF y' cc' mL' rt' d kc' ks' [(2, b), v0, v1] n sh h (some v) n1 sh1 h1) (k : zT y cc mL rt (d + 1) kc ks Q (pc + 3) ls (v :: st) n1 sh1 h1) : zT y cc mL rt (d + 1) (kc + kc') (ks + ks') Q pc ls (v1 :: v0 :: (2, b) :: st) n sh h := zg_callVS (av := [v0, v1]) hd hl hb rfl hw M (fun r' n' sh' h' ⟨e1, e2, e3, e4⟩ => by subst e1 e2 e3 e4; exact k)
end zStr
set_option maxRecDepth 20000 in
theorem ml_X4_95 : zLVS RX4 95 yJ0_indexOf_0f7a4 cJ0_indexOf_0f7a4 2 (some .int) 1 := ⟨⟨(zTb_in (zin_2 (List.mem_of_getElem? (i := 164) rfl)) rfl), (zTb_in (zin_2 (List.mem_of_getElem? (i := 167) rfl)) rfl), (zTb_in (zin_1 (List.mem_of_getElem? (i := 11) rfl)) rfl), ⟨by decide, by decide⟩, by decide +kernel, by decide⟩, (zTb_in (zin_2 (List.mem_of_getElem? (i := 165) rfl)) rfl), (zTb_in (zin_2 (List.mem_of_getElem? (i := 166) rfl)) rfl)⟩
set_option maxRecDepth 20000 in
theorem ml_X4_128 : zLVS RX4 128 yJ0_length_8abf5 cJ0_length_8abf5 1 (some .int) 0 := ⟨⟨(zTb_in (zin_2 (List.mem_of_getElem? (i := 96) rfl)) rfl), (zTb_in (zin_2 (List.mem_of_getElem? (i := 99) rfl)) rfl), (zTb_in (zin_1 (List.mem_of_getElem? (i := 11) rfl)) rfl), ⟨by decide, by decide⟩, by decide +kernel, by decide⟩, (zTb_in (zin_2 (List.mem_of_getElem? (i := 97) rfl)) rfl), (zTb_in (zin_2 (List.mem_of_getElem? (i := 98) rfl)) rfl)⟩
set_option maxRecDepth 20000 in
theorem ml_X4_131 : zLVS RX4 131 yJ0_charAt_5068e cJ0_charAt_5068e 2 (some .char) 1 := ⟨⟨(zTb_in (zin_2 (List.mem_of_getElem? (i := 106) rfl)) rfl), (zTb_in (zin_2 (List.mem_of_getElem? (i := 109) rfl)) rfl), (zTb_in (zin_1 (List.mem_of_getElem? (i := 11) rfl)) rfl), ⟨by decide, by decide⟩, by decide +kernel, by decide⟩, (zTb_in (zin_2 (List.mem_of_getElem? (i := 107) rfl)) rfl), (zTb_in (zin_2 (List.mem_of_getElem? (i := 108) rfl)) rfl)⟩
set_option maxRecDepth 20000 in
theorem ml_X11_149 : zLVS RX11 149 yJ0_length_8abf5 cJ0_length_8abf5 1 (some .int) 0 := ⟨⟨(zTb_in (zin_6 (List.mem_of_getElem? (i := 167) rfl)) rfl), (zTb_in (zin_2 (List.mem_of_getElem? (i := 99) rfl)) rfl), (zTb_in (zin_1 (List.mem_of_getElem? (i := 11) rfl)) rfl), ⟨by decide, by decide⟩, by decide +kernel, by decide⟩, (zTb_in (zin_2 (List.mem_of_getElem? (i := 97) rfl)) rfl), (zTb_in (zin_2 (List.mem_of_getElem? (i := 98) rfl)) rfl)⟩
set_option maxRecDepth 20000 in
theorem ml_X11_155 : zLVS RX11 155 yJ0_charAt_5068e cJ0_charAt_5068e 2 (some .char) 1 := ⟨⟨(zTb_in (zin_6 (List.mem_of_getElem? (i := 168) rfl)) rfl), (zTb_in (zin_2 (List.mem_of_getElem? (i := 109) rfl)) rfl), (zTb_in (zin_1 (List.mem_of_getElem? (i := 11) rfl)) rfl), ⟨by decide, by decide⟩, by decide +kernel, by decide⟩, (zTb_in (zin_2 (List.mem_of_getElem? (i := 107) rfl)) rfl), (zTb_in (zin_2 (List.mem_of_getElem? (i := 108) rfl)) rfl)⟩
set_option maxRecDepth 20000 in
theorem ml_J0_335 : zLVS RJ0 335 yJ0_coder_7d493 cJ0_coder_7d493 1 (some .byte) 0 := ⟨⟨(zTb_in (zin_2 (List.mem_of_getElem? (i := 100) rfl)) rfl), (zTb_in (zin_2 (List.mem_of_getElem? (i := 103) rfl)) rfl), (zTb_in (zin_1 (List.mem_of_getElem? (i := 11) rfl)) rfl), ⟨by decide, by decide⟩, by decide +kernel, by decide⟩, (zTb_in (zin_2 (List.mem_of_getElem? (i := 101) rfl)) rfl), (zTb_in (zin_2 (List.mem_of_getElem? (i := 102) rfl)) rfl)⟩
set_option maxRecDepth 20000 in
theorem ml_J0_492 : zLVS RJ0 492 yJ0_isLatin1_aae02 cJ0_isLatin1_aae02 1 (some .boolean) 0 := ⟨⟨(zTb_in (zin_2 (List.mem_of_getElem? (i := 110) rfl)) rfl), (zTb_in (zin_2 (List.mem_of_getElem? (i := 113) rfl)) rfl), (zTb_in (zin_1 (List.mem_of_getElem? (i := 11) rfl)) rfl), ⟨by decide, by decide⟩, by decide +kernel, by decide⟩, (zTb_in (zin_2 (List.mem_of_getElem? (i := 111) rfl)) rfl), (zTb_in (zin_2 (List.mem_of_getElem? (i := 112) rfl)) rfl)⟩
set_option maxRecDepth 20000 in
theorem ml_J0_505 : zLVS RJ0 505 yJ0_length_8abf5 cJ0_length_8abf5 1 (some .int) 0 := ⟨⟨(zTb_in (zin_2 (List.mem_of_getElem? (i := 172) rfl)) rfl), (zTb_in (zin_2 (List.mem_of_getElem? (i := 99) rfl)) rfl), (zTb_in (zin_1 (List.mem_of_getElem? (i := 11) rfl)) rfl), ⟨by decide, by decide⟩, by decide +kernel, by decide⟩, (zTb_in (zin_2 (List.mem_of_getElem? (i := 97) rfl)) rfl), (zTb_in (zin_2 (List.mem_of_getElem? (i := 98) rfl)) rfl)⟩
set_option maxRecDepth 20000 in
theorem ml_J0_633 : zLVS RJ0 633 yJ0_indexOf_7cf53 cJ0_indexOf_7cf53 3 (some .int) 2 := ⟨⟨(zTb_in (zin_2 (List.mem_of_getElem? (i := 168) rfl)) rfl), (zTb_in (zin_2 (List.mem_of_getElem? (i := 171) rfl)) rfl), (zTb_in (zin_1 (List.mem_of_getElem? (i := 11) rfl)) rfl), ⟨by decide, by decide⟩, by decide +kernel, by decide⟩, (zTb_in (zin_2 (List.mem_of_getElem? (i := 169) rfl)) rfl), (zTb_in (zin_2 (List.mem_of_getElem? (i := 170) rfl)) rfl)⟩
set_option maxRecDepth 20000 in
theorem fl_J0_9 : Cond.fieldLink RJ0 9 "java/lang/String" "value" "[B" ∈ zTb := (zTb_in (zin_8 (List.mem_of_getElem? (i := 40) rfl)) rfl)
set_option maxRecDepth 20000 in
theorem fl_J0_15 : Cond.fieldLink RJ0 15 "java/lang/String" "coder" "B" ∈ zTb := (zTb_in (zin_8 (List.mem_of_getElem? (i := 41) rfl)) rfl)
set_option maxRecDepth 20000 in
theorem fl_J0_38 : Cond.fieldLink RJ0 38 "java/lang/String" "COMPACT_STRINGS" "Z" ∈ zTb := (zTb_in (zin_2 (List.mem_of_getElem? (i := 104) rfl)) rfl)
set_option maxRecDepth 20000 in
theorem fl_J0_1053 : Cond.fieldLink RJ0 1053 "jdk/internal/util/Preconditions" "SIOOBE_FORMATTER" "Ljava/util/function/BiFunction;" ∈ zTb := (zTb_in (zin_2 (List.mem_of_getElem? (i := 120) rfl)) rfl)
