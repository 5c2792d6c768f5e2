section zIni
variable {y : MethodName} {cc : ByteArray} {mL : Nat} {rt : Option FieldType} {d kc ks : Nat} {Q : Option zV → Nat → zSh → zMem → Prop} {pc : Nat} {ls : List (Option zV)} {st : List zV} {n : Nat} {sh : zSh} {h : zMem}
theorem zi_int {z a : Int} {N0 m : Nat} (hd : decode cc pc = .ok (.newarray .int, 2)) (hz : z = (N0 : Int)) (hN : N0 ≤ 60000000) (ha : (n : Int) = a) (hm : n + 1 = m) (k : zT y cc mL rt d kc ks Q (pc + 2) ls ((2, a) :: st) m (zshn sh a (100, N0)) (znew h a (fun _ => 0))) : zT y cc mL rt d (kc + 1) (ks + N0) Q pc ls ((0, z) :: st) n sh h := by
  subst ha hm; exact zt_newa_int hd zac_int hz hN k
theorem zi_long {z a : Int} {N0 m : Nat} (hd : decode cc pc = .ok (.newarray .long, 2)) (hz : z = (N0 : Int)) (hN : N0 ≤ 60000000) (ha : (n : Int) = a) (hm : n + 1 = m) (k : zT y cc mL rt d kc ks Q (pc + 2) ls ((2, a) :: st) m (zshn sh a (101, N0)) (znew h a (fun _ => 0))) : zT y cc mL rt d (kc + 1) (ks + N0) Q pc ls ((0, z) :: st) n sh h := by
  subst ha hm; exact zt_newa_long hd zac_long hz hN k
theorem zi_byte {z a : Int} {N0 m : Nat} (hd : decode cc pc = .ok (.newarray .byte, 2)) (hz : z = (N0 : Int)) (hN : N0 ≤ 60000000) (ha : (n : Int) = a) (hm : n + 1 = m) (k : zT y cc mL rt d kc ks Q (pc + 2) ls ((2, a) :: st) m (zshn sh a (102, N0)) (znew h a (fun _ => 0))) : zT y cc mL rt d (kc + 1) (ks + N0) Q pc ls ((0, z) :: st) n sh h := by
  subst ha hm; exact zt_newa_byte hd zac_byte hz hN k
theorem zi_boolean {z a : Int} {N0 m : Nat} (hd : decode cc pc = .ok (.newarray .boolean, 2)) (hz : z = (N0 : Int)) (hN : N0 ≤ 60000000) (ha : (n : Int) = a) (hm : n + 1 = m) (k : zT y cc mL rt d kc ks Q (pc + 2) ls ((2, a) :: st) m (zshn sh a (103, N0)) (znew h a (fun _ => 0))) : zT y cc mL rt d (kc + 1) (ks + N0) Q pc ls ((0, z) :: st) n sh h := by
  subst ha hm; exact zt_newa_boolean hd zac_boolean hz hN k
theorem zi_new {a : Int} {idx ci N0 m : Nat} (hd : decode cc pc = .ok (.new idx, 3)) (hf : zNL y.cls idx ci N0) (ha : (n : Int) = a) (hm : n + 1 = m) (k : zT y cc mL rt d kc ks Q (pc + 3) ls ((2, a) :: st) m (zshn sh a (ci, N0)) (znew h a (zdf ci))) : zT y cc mL rt d (kc + 1) (ks + N0) Q pc ls st n sh h := by
  subst ha hm; exact zt_new hd hf k
theorem zi_q {z a : Int} {idx ci kd N0 m : Nat} (hd : decode cc pc = .ok (.anewarray idx, 3)) (hkd : (kd = 104 ∧ ci = 7) ∨ (kd = 105 ∧ ci = 8)) (hw : Cond.classLink y.cls idx (zRR ci) ∈ zTb) (hz : z = (N0 : Int)) (hN : N0 ≤ 60000000) (ha : (n : Int) = a) (hm : n + 1 = m) (k : zT y cc mL rt d kc ks Q (pc + 3) ls ((2, a) :: st) m (zshn sh a (kd, N0)) (znew h a (fun _ => -1))) : zT y cc mL rt d (kc + 1) (ks + N0) Q pc ls ((0, z) :: st) n sh h := by
  subst ha hm; exact zt_newq hd hkd hw hz hN k
end zIni
def in9S (sh : zSh) : zSh := (zshn sh 2 (100, 200))
def in9H (h : zMem) : zMem := (zup (znew h 2 (fun _ => 0)) 1 0 2)
theorem in9S_lo {sh : zSh} {x : Int} (hx : x < 2) : in9S sh x = sh x := by
  unfold in9S
  (repeat first | rw [zshn_ne (by omega)])
set_option maxRecDepth 100000 in
set_option maxHeartbeats 4000000 in
theorem c_in9 {d : Nat} {sh : zSh} {h : zMem} (hs : sh 1 = (9, 2)) : zF yX9_init cX9_init 1 none (d + 1) 1 200 [(2, 1)] 2 sh h none 3 (in9S sh) (in9H h) := by
  refine zF.ofT (by decide +kernel) [some (2, 1)] rfl (Nat.le_of_ble_eq_true rfl) ?_
  have s0 : sh 1 = (9, 2) := hs
  refine zt_aload_n dX9_init_0 rfl ?_
  refine zt_objInit dX9_init_1 ml_X9_3 (by rw [s0]; decide) (Nat.le_of_ble_eq_true rfl) ?_
  refine zt_aload_n dX9_init_4 rfl ?_
  refine zt_sipush dX9_init_5 (by decide) ?_
  refine zi_int (N0 := 200) (a := 2) (m := 3) dX9_init_8 rfl (by decide) rfl rfl ?_
  have s8 : (zshn sh 2 (100, 200)) 1 = (9, 2) := (zshn_ne (by decide)).trans s0
  refine zt_putFr dX9_init_10 fl_X9_9 ⟨rfl, rfl⟩ s8 ?_
  exact zt_vret dX9_init_13 ⟨rfl, rfl, rfl, rfl⟩

def in4S (sh : zSh) : zSh := (zshn sh 4 (100, 600))
def in4H (h : zMem) : zMem := (zup (zup (znew h 4 (fun _ => 0)) 3 0 4) 3 2 1)
theorem in4S_lo {sh : zSh} {x : Int} (hx : x < 4) : in4S sh x = sh x := by
  unfold in4S
  (repeat first | rw [zshn_ne (by omega)])
set_option maxRecDepth 100000 in
set_option maxHeartbeats 4000000 in
theorem c_in4 {d : Nat} {sh : zSh} {h : zMem} (hs : sh 3 = (4, 7)) : zF yX4_init cX4_init 2 none (d + 1) 1 600 [(2, 3), (2, 1)] 4 sh h none 5 (in4S sh) (in4H h) := by
  refine zF.ofT (by decide +kernel) [some (2, 3), some (2, 1)] rfl (Nat.le_of_ble_eq_true rfl) ?_
  have s0 : sh 3 = (4, 7) := hs
  refine zt_aload_n dX4_init_0 rfl ?_
  refine zt_objInit dX4_init_1 ml_X4_3 (by rw [s0]; decide) (Nat.le_of_ble_eq_true rfl) ?_
  refine zt_aload_n dX4_init_4 rfl ?_
  refine zt_sipush dX4_init_5 (by decide) ?_
  refine zi_int (N0 := 600) (a := 4) (m := 5) dX4_init_8 rfl (by decide) rfl rfl ?_
  have s8 : (zshn sh 4 (100, 600)) 3 = (4, 7) := (zshn_ne (by decide)).trans s0
  refine zt_putFr dX4_init_10 fl_X4_11 ⟨rfl, rfl⟩ s8 ?_
  refine zt_aload_n dX4_init_13 rfl ?_
  refine zt_aload_n dX4_init_14 rfl ?_
  refine zt_putFr dX4_init_15 fl_X4_15 ⟨rfl, rfl⟩ s8 ?_
  exact zt_vret dX4_init_18 ⟨rfl, rfl, rfl, rfl⟩

def in0S (sh : zSh) : zSh := (zshn (zshn sh 6 (101, 64)) 7 (101, 64))
def in0H (h : zMem) : zMem := (zup (znew (zup (znew h 6 (fun _ => 0)) 5 0 6) 7 (fun _ => 0)) 5 1 7)
theorem in0S_lo {sh : zSh} {x : Int} (hx : x < 6) : in0S sh x = sh x := by
  unfold in0S
  (repeat first | rw [zshn_ne (by omega)])
set_option maxRecDepth 100000 in
set_option maxHeartbeats 4000000 in
theorem c_in0 {d : Nat} {sh : zSh} {h : zMem} (hs : sh 5 = (0, 3)) : zF yX0_init cX0_init 1 none (d + 1) 2 128 [(2, 5)] 6 sh h none 8 (in0S sh) (in0H h) := by
  refine zF.ofT (by decide +kernel) [some (2, 5)] rfl (Nat.le_of_ble_eq_true rfl) ?_
  have s0 : sh 5 = (0, 3) := hs
  refine zt_aload_n dX0_init_0 rfl ?_
  refine zt_objInit dX0_init_1 ml_X0_3 (by rw [s0]; decide) (Nat.le_of_ble_eq_true rfl) ?_
  refine zt_aload_n dX0_init_4 rfl ?_
  refine zt_bipush dX0_init_5 (by decide) ?_
  refine zi_long (N0 := 64) (a := 6) (m := 7) dX0_init_7 rfl (by decide) rfl rfl ?_
  have s7 : (zshn sh 6 (101, 64)) 5 = (0, 3) := (zshn_ne (by decide)).trans s0
  refine zt_putFr dX0_init_9 fl_X0_11 ⟨rfl, rfl⟩ s7 ?_
  refine zt_aload_n dX0_init_12 rfl ?_
  refine zt_bipush dX0_init_13 (by decide) ?_
  refine zi_long (N0 := 64) (a := 7) (m := 8) dX0_init_15 rfl (by decide) rfl rfl ?_
  have s15 : (zshn (zshn sh 6 (101, 64)) 7 (101, 64)) 5 = (0, 3) := (zshn_ne (by decide)).trans s7
  refine zt_putFr dX0_init_17 fl_X0_15 ⟨rfl, rfl⟩ s15 ?_
  exact zt_vret dX0_init_20 ⟨rfl, rfl, rfl, rfl⟩

def in3S (sh : zSh) : zSh := (zshn (zshn (zshn (zshn (zshn (zshn (zshn sh 11 (100, 6)) 12 (100, 24)) 13 (100, 24)) 14 (100, 24)) 15 (100, 24)) 16 (100, 24)) 17 (100, 720))
def in3H (h : zMem) : zMem := (zup (znew (zup (znew (zup (znew (zup (znew (zup (znew (zup (znew (zup (znew h 11 (fun _ => 0)) 10 2 11) 12 (fun _ => 0)) 10 3 12) 13 (fun _ => 0)) 10 4 13) 14 (fun _ => 0)) 10 5 14) 15 (fun _ => 0)) 10 6 15) 16 (fun _ => 0)) 10 7 16) 17 (fun _ => 0)) 10 8 17)
theorem in3S_lo {sh : zSh} {x : Int} (hx : x < 11) : in3S sh x = sh x := by
  unfold in3S
  (repeat first | rw [zshn_ne (by omega)])
set_option maxRecDepth 100000 in
set_option maxHeartbeats 4000000 in
theorem c_in3 {d : Nat} {sh : zSh} {h : zMem} (hs : sh 10 = (3, 9)) : zF yX3_init cX3_init 1 none (d + 1) 7 846 [(2, 10)] 11 sh h none 18 (in3S sh) (in3H h) := by
  refine zF.ofT (by decide +kernel) [some (2, 10)] rfl (Nat.le_of_ble_eq_true rfl) ?_
  have s0 : sh 10 = (3, 9) := hs
  refine zt_aload_n dX3_init_0 rfl ?_
  refine zt_objInit dX3_init_1 ml_X3_3 (by rw [s0]; decide) (Nat.le_of_ble_eq_true rfl) ?_
  refine zt_aload_n dX3_init_4 rfl ?_
  refine zt_bipush dX3_init_5 (by decide) ?_
  refine zi_int (N0 := 6) (a := 11) (m := 12) dX3_init_7 rfl (by decide) rfl rfl ?_
  have s7 : (zshn sh 11 (100, 6)) 10 = (3, 9) := (zshn_ne (by decide)).trans s0
  refine zt_putFr dX3_init_9 fl_X3_9 ⟨rfl, rfl⟩ s7 ?_
  refine zt_aload_n dX3_init_12 rfl ?_
  refine zt_bipush dX3_init_13 (by decide) ?_
  refine zi_int (N0 := 24) (a := 12) (m := 13) dX3_init_15 rfl (by decide) rfl rfl ?_
  have s15 : (zshn (zshn sh 11 (100, 6)) 12 (100, 24)) 10 = (3, 9) := (zshn_ne (by decide)).trans s7
  refine zt_putFr dX3_init_17 fl_X3_15 ⟨rfl, rfl⟩ s15 ?_
  refine zt_aload_n dX3_init_20 rfl ?_
  refine zt_bipush dX3_init_21 (by decide) ?_
  refine zi_int (N0 := 24) (a := 13) (m := 14) dX3_init_23 rfl (by decide) rfl rfl ?_
  have s23 : (zshn (zshn (zshn sh 11 (100, 6)) 12 (100, 24)) 13 (100, 24)) 10 = (3, 9) := (zshn_ne (by decide)).trans s15
  refine zt_putFr dX3_init_25 fl_X3_18 ⟨rfl, rfl⟩ s23 ?_
  refine zt_aload_n dX3_init_28 rfl ?_
  refine zt_bipush dX3_init_29 (by decide) ?_
  refine zi_int (N0 := 24) (a := 14) (m := 15) dX3_init_31 rfl (by decide) rfl rfl ?_
  have s31 : (zshn (zshn (zshn (zshn sh 11 (100, 6)) 12 (100, 24)) 13 (100, 24)) 14 (100, 24)) 10 = (3, 9) := (zshn_ne (by decide)).trans s23
  refine zt_putFr dX3_init_33 fl_X3_21 ⟨rfl, rfl⟩ s31 ?_
  refine zt_aload_n dX3_init_36 rfl ?_
  refine zt_bipush dX3_init_37 (by decide) ?_
  refine zi_int (N0 := 24) (a := 15) (m := 16) dX3_init_39 rfl (by decide) rfl rfl ?_
  have s39 : (zshn (zshn (zshn (zshn (zshn sh 11 (100, 6)) 12 (100, 24)) 13 (100, 24)) 14 (100, 24)) 15 (100, 24)) 10 = (3, 9) := (zshn_ne (by decide)).trans s31
  refine zt_putFr dX3_init_41 fl_X3_24 ⟨rfl, rfl⟩ s39 ?_
  refine zt_aload_n dX3_init_44 rfl ?_
  refine zt_bipush dX3_init_45 (by decide) ?_
  refine zi_int (N0 := 24) (a := 16) (m := 17) dX3_init_47 rfl (by decide) rfl rfl ?_
  have s47 : (zshn (zshn (zshn (zshn (zshn (zshn sh 11 (100, 6)) 12 (100, 24)) 13 (100, 24)) 14 (100, 24)) 15 (100, 24)) 16 (100, 24)) 10 = (3, 9) := (zshn_ne (by decide)).trans s39
  refine zt_putFr dX3_init_49 fl_X3_27 ⟨rfl, rfl⟩ s47 ?_
  refine zt_aload_n dX3_init_52 rfl ?_
  refine zt_sipush dX3_init_53 (by decide) ?_
  refine zi_int (N0 := 720) (a := 17) (m := 18) dX3_init_56 rfl (by decide) rfl rfl ?_
  have s56 : (zshn (zshn (zshn (zshn (zshn (zshn (zshn sh 11 (100, 6)) 12 (100, 24)) 13 (100, 24)) 14 (100, 24)) 15 (100, 24)) 16 (100, 24)) 17 (100, 720)) 10 = (3, 9) := (zshn_ne (by decide)).trans s47
  refine zt_putFr dX3_init_58 fl_X3_30 ⟨rfl, rfl⟩ s56 ?_
  exact zt_vret dX3_init_61 ⟨rfl, rfl, rfl, rfl⟩

def in1S (sh : zSh) : zSh := (zshn (zshn (zshn (zshn sh 19 (100, 45)) 20 (100, 12)) 21 (100, 12)) 22 (100, 12))
def in1H (h : zMem) : zMem := (zup (znew (zup (znew (zup (znew (zup (znew h 19 (fun _ => 0)) 18 2 19) 20 (fun _ => 0)) 18 3 20) 21 (fun _ => 0)) 18 4 21) 22 (fun _ => 0)) 18 5 22)
theorem in1S_lo {sh : zSh} {x : Int} (hx : x < 19) : in1S sh x = sh x := by
  unfold in1S
  (repeat first | rw [zshn_ne (by omega)])
set_option maxRecDepth 100000 in
set_option maxHeartbeats 4000000 in
theorem c_in1 {d : Nat} {sh : zSh} {h : zMem} (hs : sh 18 = (1, 7)) : zF yX1_init cX1_init 1 none (d + 1) 4 81 [(2, 18)] 19 sh h none 23 (in1S sh) (in1H h) := by
  refine zF.ofT (by decide +kernel) [some (2, 18)] rfl (Nat.le_of_ble_eq_true rfl) ?_
  have s0 : sh 18 = (1, 7) := hs
  refine zt_aload_n dX1_init_0 rfl ?_
  refine zt_objInit dX1_init_1 ml_X1_3 (by rw [s0]; decide) (Nat.le_of_ble_eq_true rfl) ?_
  refine zt_aload_n dX1_init_4 rfl ?_
  refine zt_bipush dX1_init_5 (by decide) ?_
  refine zi_int (N0 := 45) (a := 19) (m := 20) dX1_init_7 rfl (by decide) rfl rfl ?_
  have s7 : (zshn sh 19 (100, 45)) 18 = (1, 7) := (zshn_ne (by decide)).trans s0
  refine zt_putFr dX1_init_9 fl_X1_11 ⟨rfl, rfl⟩ s7 ?_
  refine zt_aload_n dX1_init_12 rfl ?_
  refine zt_bipush dX1_init_13 (by decide) ?_
  refine zi_int (N0 := 12) (a := 20) (m := 21) dX1_init_15 rfl (by decide) rfl rfl ?_
  have s15 : (zshn (zshn sh 19 (100, 45)) 20 (100, 12)) 18 = (1, 7) := (zshn_ne (by decide)).trans s7
  refine zt_putFr dX1_init_17 fl_X1_15 ⟨rfl, rfl⟩ s15 ?_
  refine zt_aload_n dX1_init_20 rfl ?_
  refine zt_bipush dX1_init_21 (by decide) ?_
  refine zi_int (N0 := 12) (a := 21) (m := 22) dX1_init_23 rfl (by decide) rfl rfl ?_
  have s23 : (zshn (zshn (zshn sh 19 (100, 45)) 20 (100, 12)) 21 (100, 12)) 18 = (1, 7) := (zshn_ne (by decide)).trans s15
  refine zt_putFr dX1_init_25 fl_X1_18 ⟨rfl, rfl⟩ s23 ?_
  refine zt_aload_n dX1_init_28 rfl ?_
  refine zt_bipush dX1_init_29 (by decide) ?_
  refine zi_int (N0 := 12) (a := 22) (m := 23) dX1_init_31 rfl (by decide) rfl rfl ?_
  have s31 : (zshn (zshn (zshn (zshn sh 19 (100, 45)) 20 (100, 12)) 21 (100, 12)) 22 (100, 12)) 18 = (1, 7) := (zshn_ne (by decide)).trans s23
  refine zt_putFr dX1_init_33 fl_X1_21 ⟨rfl, rfl⟩ s31 ?_
  exact zt_vret dX1_init_36 ⟨rfl, rfl, rfl, rfl⟩

def in5S (sh : zSh) : zSh := (zshn (zshn sh 24 (101, 5)) 25 (100, 31))
def in5H (h : zMem) : zMem := (zup (znew (zup (znew h 24 (fun _ => 0)) 23 0 24) 25 (fun _ => 0)) 23 1 25)
theorem in5S_lo {sh : zSh} {x : Int} (hx : x < 24) : in5S sh x = sh x := by
  unfold in5S
  (repeat first | rw [zshn_ne (by omega)])
set_option maxRecDepth 100000 in
set_option maxHeartbeats 4000000 in
theorem c_in5 {d : Nat} {sh : zSh} {h : zMem} (hs : sh 23 = (5, 2)) : zF yX5_init cX5_init 1 none (d + 1) 2 36 [(2, 23)] 24 sh h none 26 (in5S sh) (in5H h) := by
  refine zF.ofT (by decide +kernel) [some (2, 23)] rfl (Nat.le_of_ble_eq_true rfl) ?_
  have s0 : sh 23 = (5, 2) := hs
  refine zt_aload_n dX5_init_0 rfl ?_
  refine zt_objInit dX5_init_1 ml_X5_3 (by rw [s0]; decide) (Nat.le_of_ble_eq_true rfl) ?_
  refine zt_aload_n dX5_init_4 rfl ?_
  refine zt_iconst dX5_init_5 ?_
  refine zi_long (N0 := 5) (a := 24) (m := 25) dX5_init_6 rfl (by decide) rfl rfl ?_
  have s6 : (zshn sh 24 (101, 5)) 23 = (5, 2) := (zshn_ne (by decide)).trans s0
  refine zt_putFr dX5_init_8 fl_X5_11 ⟨rfl, rfl⟩ s6 ?_
  refine zt_aload_n dX5_init_11 rfl ?_
  refine zt_bipush dX5_init_12 (by decide) ?_
  refine zi_int (N0 := 31) (a := 25) (m := 26) dX5_init_14 rfl (by decide) rfl rfl ?_
  have s14 : (zshn (zshn sh 24 (101, 5)) 25 (100, 31)) 23 = (5, 2) := (zshn_ne (by decide)).trans s6
  refine zt_putFr dX5_init_16 fl_X5_17 ⟨rfl, rfl⟩ s14 ?_
  exact zt_vret dX5_init_19 ⟨rfl, rfl, rfl, rfl⟩

def in6S (sh : zSh) : zSh := (zshn (zshn (zshn (zshn (zshn sh 27 (100, 20)) 28 (100, 20)) 29 (100, 4)) 30 (100, 4)) 31 (101, 4))
def in6H (h : zMem) : zMem := (zup (znew (zup (znew (zup (znew (zup (znew (zup (znew h 27 (fun _ => 0)) 26 3 27) 28 (fun _ => 0)) 26 4 28) 29 (fun _ => 0)) 26 6 29) 30 (fun _ => 0)) 26 8 30) 31 (fun _ => 0)) 26 9 31)
theorem in6S_lo {sh : zSh} {x : Int} (hx : x < 27) : in6S sh x = sh x := by
  unfold in6S
  (repeat first | rw [zshn_ne (by omega)])
set_option maxRecDepth 100000 in
set_option maxHeartbeats 4000000 in
theorem c_in6 {d : Nat} {sh : zSh} {h : zMem} (hs : sh 26 = (6, 12)) : zF yX6_init cX6_init 1 none (d + 1) 5 52 [(2, 26)] 27 sh h none 32 (in6S sh) (in6H h) := by
  refine zF.ofT (by decide +kernel) [some (2, 26)] rfl (Nat.le_of_ble_eq_true rfl) ?_
  have s0 : sh 26 = (6, 12) := hs
  refine zt_aload_n dX6_init_0 rfl ?_
  refine zt_objInit dX6_init_1 ml_X6_3 (by rw [s0]; decide) (Nat.le_of_ble_eq_true rfl) ?_
  refine zt_aload_n dX6_init_4 rfl ?_
  refine zt_bipush dX6_init_5 (by decide) ?_
  refine zi_int (N0 := 20) (a := 27) (m := 28) dX6_init_7 rfl (by decide) rfl rfl ?_
  have s7 : (zshn sh 27 (100, 20)) 26 = (6, 12) := (zshn_ne (by decide)).trans s0
  refine zt_putFr dX6_init_9 fl_X6_11 ⟨rfl, rfl⟩ s7 ?_
  refine zt_aload_n dX6_init_12 rfl ?_
  refine zt_bipush dX6_init_13 (by decide) ?_
  refine zi_int (N0 := 20) (a := 28) (m := 29) dX6_init_15 rfl (by decide) rfl rfl ?_
  have s15 : (zshn (zshn sh 27 (100, 20)) 28 (100, 20)) 26 = (6, 12) := (zshn_ne (by decide)).trans s7
  refine zt_putFr dX6_init_17 fl_X6_15 ⟨rfl, rfl⟩ s15 ?_
  refine zt_aload_n dX6_init_20 rfl ?_
  refine zt_iconst dX6_init_21 ?_
  refine zi_int (N0 := 4) (a := 29) (m := 30) dX6_init_22 rfl (by decide) rfl rfl ?_
  have s22 : (zshn (zshn (zshn sh 27 (100, 20)) 28 (100, 20)) 29 (100, 4)) 26 = (6, 12) := (zshn_ne (by decide)).trans s15
  refine zt_putFr dX6_init_24 fl_X6_18 ⟨rfl, rfl⟩ s22 ?_
  refine zt_aload_n dX6_init_27 rfl ?_
  refine zt_iconst dX6_init_28 ?_
  refine zi_int (N0 := 4) (a := 30) (m := 31) dX6_init_29 rfl (by decide) rfl rfl ?_
  have s29 : (zshn (zshn (zshn (zshn sh 27 (100, 20)) 28 (100, 20)) 29 (100, 4)) 30 (100, 4)) 26 = (6, 12) := (zshn_ne (by decide)).trans s22
  refine zt_putFr dX6_init_31 fl_X6_21 ⟨rfl, rfl⟩ s29 ?_
  refine zt_aload_n dX6_init_34 rfl ?_
  refine zt_iconst dX6_init_35 ?_
  refine zi_long (N0 := 4) (a := 31) (m := 32) dX6_init_36 rfl (by decide) rfl rfl ?_
  have s36 : (zshn (zshn (zshn (zshn (zshn sh 27 (100, 20)) 28 (100, 20)) 29 (100, 4)) 30 (100, 4)) 31 (101, 4)) 26 = (6, 12) := (zshn_ne (by decide)).trans s29
  refine zt_putFr dX6_init_38 fl_X6_24 ⟨rfl, rfl⟩ s36 ?_
  exact zt_vret dX6_init_41 ⟨rfl, rfl, rfl, rfl⟩

def in2S (sh : zSh) : zSh := (zshn (zshn (zshn (zshn (zshn sh 33 (100, 40)) 34 (100, 40)) 35 (100, 40)) 36 (100, 40)) 37 (100, 40))
def in2H (h : zMem) : zMem := (zup (znew (zup (znew (zup (znew (zup (znew (zup (znew h 33 (fun _ => 0)) 32 1 33) 34 (fun _ => 0)) 32 2 34) 35 (fun _ => 0)) 32 3 35) 36 (fun _ => 0)) 32 4 36) 37 (fun _ => 0)) 32 5 37)
theorem in2S_lo {sh : zSh} {x : Int} (hx : x < 33) : in2S sh x = sh x := by
  unfold in2S
  (repeat first | rw [zshn_ne (by omega)])
set_option maxRecDepth 100000 in
set_option maxHeartbeats 4000000 in
theorem c_in2 {d : Nat} {sh : zSh} {h : zMem} (hs : sh 32 = (2, 6)) : zF yX2_init cX2_init 1 none (d + 1) 5 200 [(2, 32)] 33 sh h none 38 (in2S sh) (in2H h) := by
  refine zF.ofT (by decide +kernel) [some (2, 32)] rfl (Nat.le_of_ble_eq_true rfl) ?_
  have s0 : sh 32 = (2, 6) := hs
  refine zt_aload_n dX2_init_0 rfl ?_
  refine zt_objInit dX2_init_1 ml_X2_3 (by rw [s0]; decide) (Nat.le_of_ble_eq_true rfl) ?_
  refine zt_aload_n dX2_init_4 rfl ?_
  refine zt_bipush dX2_init_5 (by decide) ?_
  refine zi_int (N0 := 40) (a := 33) (m := 34) dX2_init_7 rfl (by decide) rfl rfl ?_
  have s7 : (zshn sh 33 (100, 40)) 32 = (2, 6) := (zshn_ne (by decide)).trans s0
  refine zt_putFr dX2_init_9 fl_X2_11 ⟨rfl, rfl⟩ s7 ?_
  refine zt_aload_n dX2_init_12 rfl ?_
  refine zt_bipush dX2_init_13 (by decide) ?_
  refine zi_int (N0 := 40) (a := 34) (m := 35) dX2_init_15 rfl (by decide) rfl rfl ?_
  have s15 : (zshn (zshn sh 33 (100, 40)) 34 (100, 40)) 32 = (2, 6) := (zshn_ne (by decide)).trans s7
  refine zt_putFr dX2_init_17 fl_X2_15 ⟨rfl, rfl⟩ s15 ?_
  refine zt_aload_n dX2_init_20 rfl ?_
  refine zt_bipush dX2_init_21 (by decide) ?_
  refine zi_int (N0 := 40) (a := 35) (m := 36) dX2_init_23 rfl (by decide) rfl rfl ?_
  have s23 : (zshn (zshn (zshn sh 33 (100, 40)) 34 (100, 40)) 35 (100, 40)) 32 = (2, 6) := (zshn_ne (by decide)).trans s15
  refine zt_putFr dX2_init_25 fl_X2_18 ⟨rfl, rfl⟩ s23 ?_
  refine zt_aload_n dX2_init_28 rfl ?_
  refine zt_bipush dX2_init_29 (by decide) ?_
  refine zi_int (N0 := 40) (a := 36) (m := 37) dX2_init_31 rfl (by decide) rfl rfl ?_
  have s31 : (zshn (zshn (zshn (zshn sh 33 (100, 40)) 34 (100, 40)) 35 (100, 40)) 36 (100, 40)) 32 = (2, 6) := (zshn_ne (by decide)).trans s23
  refine zt_putFr dX2_init_33 fl_X2_21 ⟨rfl, rfl⟩ s31 ?_
  refine zt_aload_n dX2_init_36 rfl ?_
  refine zt_bipush dX2_init_37 (by decide) ?_
  refine zi_int (N0 := 40) (a := 37) (m := 38) dX2_init_39 rfl (by decide) rfl rfl ?_
  have s39 : (zshn (zshn (zshn (zshn (zshn sh 33 (100, 40)) 34 (100, 40)) 35 (100, 40)) 36 (100, 40)) 37 (100, 40)) 32 = (2, 6) := (zshn_ne (by decide)).trans s31
  refine zt_putFr dX2_init_41 fl_X2_24 ⟨rfl, rfl⟩ s39 ?_
  exact zt_vret dX2_init_44 ⟨rfl, rfl, rfl, rfl⟩

def in10S (sh : zSh) : zSh := (in2S (zshn (in6S (zshn (in5S (zshn (in1S (zshn (in3S (zshn (zshn (zshn (in0S (zshn (in4S (zshn (in9S (zshn sh 1 (9, 2))) 3 (4, 7))) 5 (0, 3))) 8 (104, 10)) 9 (105, 5)) 10 (3, 9))) 18 (1, 7))) 23 (5, 2))) 26 (6, 12))) 32 (2, 6)))
def in10H (h : zMem) : zMem := (zup (zup (in2H (znew (zup (in6H (znew (zup (in5H (znew (zup (in1H (znew (zup (in3H (znew (zup (znew (zup (znew (zup (in0H (znew (zup (in4H (znew (zup (in9H (znew h 1 (zdf 9))) 0 0 1) 3 (zdf 4))) 0 1 3) 5 (zdf 0))) 0 2 5) 8 (fun _ => -1)) 0 3 8) 9 (fun _ => -1)) 0 4 9) 10 (zdf 3))) 0 5 10) 18 (zdf 1))) 0 6 18) 23 (zdf 5))) 0 7 23) 26 (zdf 6))) 0 8 26) 32 (zdf 2))) 0 9 32) 0 13 1000)
theorem in10S_lo {sh : zSh} {x : Int} (hx : x < 1) : in10S sh x = sh x := by
  unfold in10S
  (repeat first | rw [zshn_ne (by omega)] | rw [in2S_lo (by omega)] | rw [in6S_lo (by omega)] | rw [in5S_lo (by omega)] | rw [in1S_lo (by omega)] | rw [in3S_lo (by omega)] | rw [in0S_lo (by omega)] | rw [in4S_lo (by omega)] | rw [in9S_lo (by omega)])
set_option maxRecDepth 100000 in
set_option maxHeartbeats 4000000 in
theorem c_in10 {d : Nat} {sh : zSh} {h : zMem} (hs : sh 0 = (10, 14)) : zF yX10_init cX10_init 1 none (d + 2) 37 2206 [(2, 0)] 1 sh h none 38 (in10S sh) (in10H h) := by
  refine zF.ofT (by decide +kernel) [some (2, 0)] rfl (Nat.le_of_ble_eq_true rfl) ?_
  have s0 : sh 0 = (10, 14) := hs
  refine zt_aload_n dX10_init_0 rfl ?_
  refine zt_objInit dX10_init_1 ml_X10_1 (by rw [s0]; decide) (Nat.le_of_ble_eq_true rfl) ?_
  refine zt_aload_n dX10_init_4 rfl ?_
  refine zi_new (ci := 9) (N0 := 2) (a := 1) (m := 2) dX10_init_5 cl_X10_7 rfl rfl ?_
  have s5 : (zshn sh 1 (9, 2)) 0 = (10, 14) := (zshn_ne (by decide)).trans s0
  refine zt_dup dX10_init_8 (Nat.ne_of_beq_eq_false rfl) ?_
  refine zt_callIN0v dX10_init_9 ml_X10_9 (by rw [zshn_at]; decide) (Nat.le_of_ble_eq_true rfl) (c_in9 zshn_at) ?_
  have s9 : (in9S (zshn sh 1 (9, 2))) 0 = (10, 14) := (in9S_lo (by decide)).trans s5
  refine zt_putFr dX10_init_12 fl_X10_10 ⟨rfl, rfl⟩ s9 ?_
  refine zt_aload_n dX10_init_15 rfl ?_
  refine zi_new (ci := 4) (N0 := 7) (a := 3) (m := 4) dX10_init_16 cl_X10_16 rfl rfl ?_
  have s16 : (zshn (in9S (zshn sh 1 (9, 2))) 3 (4, 7)) 0 = (10, 14) := (zshn_ne (by decide)).trans s9
  refine zt_dup dX10_init_19 (Nat.ne_of_beq_eq_false rfl) ?_
  refine zt_aload_n dX10_init_20 rfl ?_
  refine zt_getv (v := 1) dX10_init_21 fl_X10_10 s16 (by (repeat first | exact zupE | rw [zupA (by decide)] | rw [znew_ne (by decide)])) ?_
  refine zt_callI1v dX10_init_24 ml_X10_18 (by rw [zshn_at]; decide) (Nat.le_of_ble_eq_true rfl) (c_in4 zshn_at) ?_
  have s24 : (in4S (zshn (in9S (zshn sh 1 (9, 2))) 3 (4, 7))) 0 = (10, 14) := (in4S_lo (by decide)).trans s16
  refine zt_putFr dX10_init_27 fl_X10_21 ⟨rfl, rfl⟩ s24 ?_
  refine zt_aload_n dX10_init_30 rfl ?_
  refine zi_new (ci := 0) (N0 := 3) (a := 5) (m := 6) dX10_init_31 cl_X10_25 rfl rfl ?_
  have s31 : (zshn (in4S (zshn (in9S (zshn sh 1 (9, 2))) 3 (4, 7))) 5 (0, 3)) 0 = (10, 14) := (zshn_ne (by decide)).trans s24
  refine zt_dup dX10_init_34 (Nat.ne_of_beq_eq_false rfl) ?_
  refine zt_callIN0v dX10_init_35 ml_X10_27 (by rw [zshn_at]; decide) (Nat.le_of_ble_eq_true rfl) (c_in0 zshn_at) ?_
  have s35 : (in0S (zshn (in4S (zshn (in9S (zshn sh 1 (9, 2))) 3 (4, 7))) 5 (0, 3))) 0 = (10, 14) := (in0S_lo (by decide)).trans s31
  refine zt_putFr dX10_init_38 fl_X10_28 ⟨rfl, rfl⟩ s35 ?_
  refine zt_aload_n dX10_init_41 rfl ?_
  refine zt_bipush dX10_init_42 (by decide) ?_
  refine zi_q (N0 := 10) (a := 8) (m := 9) (kd := 104) (ci := 7) dX10_init_44 (Or.inl ⟨rfl, rfl⟩) cl_X10_32.2.2.1 rfl (by decide) rfl rfl ?_
  have s44 : (zshn (in0S (zshn (in4S (zshn (in9S (zshn sh 1 (9, 2))) 3 (4, 7))) 5 (0, 3))) 8 (104, 10)) 0 = (10, 14) := (zshn_ne (by decide)).trans s35
  refine zt_putFr dX10_init_47 fl_X10_34 ⟨rfl, rfl⟩ s44 ?_
  refine zt_aload_n dX10_init_50 rfl ?_
  refine zt_iconst dX10_init_51 ?_
  refine zi_q (N0 := 5) (a := 9) (m := 10) (kd := 105) (ci := 8) dX10_init_52 (Or.inr ⟨rfl, rfl⟩) cl_X10_38.2.2.1 rfl (by decide) rfl rfl ?_
  have s52 : (zshn (zshn (in0S (zshn (in4S (zshn (in9S (zshn sh 1 (9, 2))) 3 (4, 7))) 5 (0, 3))) 8 (104, 10)) 9 (105, 5)) 0 = (10, 14) := (zshn_ne (by decide)).trans s44
  refine zt_putFr dX10_init_55 fl_X10_40 ⟨rfl, rfl⟩ s52 ?_
  refine zt_aload_n dX10_init_58 rfl ?_
  refine zi_new (ci := 3) (N0 := 9) (a := 10) (m := 11) dX10_init_59 cl_X10_44 rfl rfl ?_
  have s59 : (zshn (zshn (zshn (in0S (zshn (in4S (zshn (in9S (zshn sh 1 (9, 2))) 3 (4, 7))) 5 (0, 3))) 8 (104, 10)) 9 (105, 5)) 10 (3, 9)) 0 = (10, 14) := (zshn_ne (by decide)).trans s52
  refine zt_dup dX10_init_62 (Nat.ne_of_beq_eq_false rfl) ?_
  refine zt_callIN0v dX10_init_63 ml_X10_46 (by rw [zshn_at]; decide) (Nat.le_of_ble_eq_true rfl) (c_in3 zshn_at) ?_
  have s63 : (in3S (zshn (zshn (zshn (in0S (zshn (in4S (zshn (in9S (zshn sh 1 (9, 2))) 3 (4, 7))) 5 (0, 3))) 8 (104, 10)) 9 (105, 5)) 10 (3, 9))) 0 = (10, 14) := (in3S_lo (by decide)).trans s59
  refine zt_putFr dX10_init_66 fl_X10_47 ⟨rfl, rfl⟩ s63 ?_
  refine zt_aload_n dX10_init_69 rfl ?_
  refine zi_new (ci := 1) (N0 := 7) (a := 18) (m := 19) dX10_init_70 cl_X10_51 rfl rfl ?_
  have s70 : (zshn (in3S (zshn (zshn (zshn (in0S (zshn (in4S (zshn (in9S (zshn sh 1 (9, 2))) 3 (4, 7))) 5 (0, 3))) 8 (104, 10)) 9 (105, 5)) 10 (3, 9))) 18 (1, 7)) 0 = (10, 14) := (zshn_ne (by decide)).trans s63
  refine zt_dup dX10_init_73 (Nat.ne_of_beq_eq_false rfl) ?_
  refine zt_callIN0v dX10_init_74 ml_X10_53 (by rw [zshn_at]; decide) (Nat.le_of_ble_eq_true rfl) (c_in1 zshn_at) ?_
  have s74 : (in1S (zshn (in3S (zshn (zshn (zshn (in0S (zshn (in4S (zshn (in9S (zshn sh 1 (9, 2))) 3 (4, 7))) 5 (0, 3))) 8 (104, 10)) 9 (105, 5)) 10 (3, 9))) 18 (1, 7))) 0 = (10, 14) := (in1S_lo (by decide)).trans s70
  refine zt_putFr dX10_init_77 fl_X10_54 ⟨rfl, rfl⟩ s74 ?_
  refine zt_aload_n dX10_init_80 rfl ?_
  refine zi_new (ci := 5) (N0 := 2) (a := 23) (m := 24) dX10_init_81 cl_X10_58 rfl rfl ?_
  have s81 : (zshn (in1S (zshn (in3S (zshn (zshn (zshn (in0S (zshn (in4S (zshn (in9S (zshn sh 1 (9, 2))) 3 (4, 7))) 5 (0, 3))) 8 (104, 10)) 9 (105, 5)) 10 (3, 9))) 18 (1, 7))) 23 (5, 2)) 0 = (10, 14) := (zshn_ne (by decide)).trans s74
  refine zt_dup dX10_init_84 (Nat.ne_of_beq_eq_false rfl) ?_
  refine zt_callIN0v dX10_init_85 ml_X10_60 (by rw [zshn_at]; decide) (Nat.le_of_ble_eq_true rfl) (c_in5 zshn_at) ?_
  have s85 : (in5S (zshn (in1S (zshn (in3S (zshn (zshn (zshn (in0S (zshn (in4S (zshn (in9S (zshn sh 1 (9, 2))) 3 (4, 7))) 5 (0, 3))) 8 (104, 10)) 9 (105, 5)) 10 (3, 9))) 18 (1, 7))) 23 (5, 2))) 0 = (10, 14) := (in5S_lo (by decide)).trans s81
  refine zt_putFr dX10_init_88 fl_X10_61 ⟨rfl, rfl⟩ s85 ?_
  refine zt_aload_n dX10_init_91 rfl ?_
  refine zi_new (ci := 6) (N0 := 12) (a := 26) (m := 27) dX10_init_92 cl_X10_65 rfl rfl ?_
  have s92 : (zshn (in5S (zshn (in1S (zshn (in3S (zshn (zshn (zshn (in0S (zshn (in4S (zshn (in9S (zshn sh 1 (9, 2))) 3 (4, 7))) 5 (0, 3))) 8 (104, 10)) 9 (105, 5)) 10 (3, 9))) 18 (1, 7))) 23 (5, 2))) 26 (6, 12)) 0 = (10, 14) := (zshn_ne (by decide)).trans s85
  refine zt_dup dX10_init_95 (Nat.ne_of_beq_eq_false rfl) ?_
  refine zt_callIN0v dX10_init_96 ml_X10_67 (by rw [zshn_at]; decide) (Nat.le_of_ble_eq_true rfl) (c_in6 zshn_at) ?_
  have s96 : (in6S (zshn (in5S (zshn (in1S (zshn (in3S (zshn (zshn (zshn (in0S (zshn (in4S (zshn (in9S (zshn sh 1 (9, 2))) 3 (4, 7))) 5 (0, 3))) 8 (104, 10)) 9 (105, 5)) 10 (3, 9))) 18 (1, 7))) 23 (5, 2))) 26 (6, 12))) 0 = (10, 14) := (in6S_lo (by decide)).trans s92
  refine zt_putFr dX10_init_99 fl_X10_68 ⟨rfl, rfl⟩ s96 ?_
  refine zt_aload_n dX10_init_102 rfl ?_
  refine zi_new (ci := 2) (N0 := 6) (a := 32) (m := 33) dX10_init_103 cl_X10_72 rfl rfl ?_
  have s103 : (zshn (in6S (zshn (in5S (zshn (in1S (zshn (in3S (zshn (zshn (zshn (in0S (zshn (in4S (zshn (in9S (zshn sh 1 (9, 2))) 3 (4, 7))) 5 (0, 3))) 8 (104, 10)) 9 (105, 5)) 10 (3, 9))) 18 (1, 7))) 23 (5, 2))) 26 (6, 12))) 32 (2, 6)) 0 = (10, 14) := (zshn_ne (by decide)).trans s96
  refine zt_dup dX10_init_106 (Nat.ne_of_beq_eq_false rfl) ?_
  refine zt_callIN0v dX10_init_107 ml_X10_74 (by rw [zshn_at]; decide) (Nat.le_of_ble_eq_true rfl) (c_in2 zshn_at) ?_
  have s107 : (in2S (zshn (in6S (zshn (in5S (zshn (in1S (zshn (in3S (zshn (zshn (zshn (in0S (zshn (in4S (zshn (in9S (zshn sh 1 (9, 2))) 3 (4, 7))) 5 (0, 3))) 8 (104, 10)) 9 (105, 5)) 10 (3, 9))) 18 (1, 7))) 23 (5, 2))) 26 (6, 12))) 32 (2, 6))) 0 = (10, 14) := (in2S_lo (by decide)).trans s103
  refine zt_putFr dX10_init_110 fl_X10_75 ⟨rfl, rfl⟩ s107 ?_
  refine zt_aload_n dX10_init_113 rfl ?_
  refine zt_sipush dX10_init_114 (by decide) ?_
  refine zt_putFi dX10_init_117 fl_X10_79 ⟨rfl, rfl⟩ s107 (by decide) ?_
  exact zt_vret dX10_init_120 ⟨rfl, rfl, rfl, rfl⟩

def in11S (sh : zSh) : zSh := (zshn (zshn (zshn (zshn (zshn (zshn (zshn (zshn (zshn (zshn (zshn (zshn (zshn (zshn (zshn (zshn (zshn (zshn (zshn (zshn (zshn (zshn (zshn (zshn (zshn (zshn (zshn (zshn (zshn (zshn (zshn (zshn (zshn (zshn (zshn (zshn (zshn (zshn (zshn (zshn (zshn sh 39 (102, 200)) 40 (100, 800)) 41 (100, 200)) 42 (100, 200)) 43 (100, 2000)) 44 (100, 2000)) 45 (100, 10)) 46 (100, 5)) 47 (100, 150)) 48 (100, 24)) 49 (100, 24)) 50 (100, 24)) 51 (100, 150)) 52 (100, 150)) 53 (100, 150)) 54 (100, 150)) 55 (100, 150)) 56 (100, 150)) 57 (100, 150)) 58 (103, 5)) 59 (100, 5)) 60 (100, 5)) 61 (100, 150)) 62 (100, 40)) 63 (100, 40)) 64 (100, 40)) 65 (100, 40)) 66 (100, 150)) 67 (100, 45)) 68 (100, 12)) 69 (100, 12)) 70 (100, 12)) 71 (100, 20)) 72 (101, 200)) 73 (101, 200)) 74 (100, 6)) 75 (100, 31)) 76 (101, 5)) 77 (100, 4)) 78 (101, 4)) 79 (100, 5000))
def in11H (h : zMem) : zMem := (zup (znew (zup (znew (zup (znew (zup (znew (zup (znew (zup (znew (zup (znew (zup (znew (zup (znew (zup (znew (zup (znew (zup (znew (zup (znew (zup (znew (zup (znew (zup (znew (zup (znew (zup (znew (zup (znew (zup (znew (zup (znew (zup (zup (znew (zup (znew (zup (znew (zup (znew (zup (znew (zup (znew (zup (znew (zup (znew (zup (znew (zup (znew (zup (znew (zup (znew (zup (znew (zup (znew (zup (znew (zup (znew (zup (znew (zup (znew (zup (znew (zup (znew h 39 (fun _ => 0)) 38 0 39) 40 (fun _ => 0)) 38 6 40) 41 (fun _ => 0)) 38 9 41) 42 (fun _ => 0)) 38 10 42) 43 (fun _ => 0)) 38 13 43) 44 (fun _ => 0)) 38 14 44) 45 (fun _ => 0)) 38 15 45) 46 (fun _ => 0)) 38 18 46) 47 (fun _ => 0)) 38 19 47) 48 (fun _ => 0)) 38 22 48) 49 (fun _ => 0)) 38 23 49) 50 (fun _ => 0)) 38 24 50) 51 (fun _ => 0)) 38 25 51) 52 (fun _ => 0)) 38 26 52) 53 (fun _ => 0)) 38 27 53) 54 (fun _ => 0)) 38 28 54) 55 (fun _ => 0)) 38 29 55) 56 (fun _ => 0)) 38 30 56) 57 (fun _ => 0)) 38 31 57) 58 (fun _ => 0)) 38 32 58) 38 33 1000) 59 (fun _ => 0)) 38 34 59) 60 (fun _ => 0)) 38 35 60) 61 (fun _ => 0)) 38 36 61) 62 (fun _ => 0)) 38 38 62) 63 (fun _ => 0)) 38 39 63) 64 (fun _ => 0)) 38 40 64) 65 (fun _ => 0)) 38 41 65) 66 (fun _ => 0)) 38 42 66) 67 (fun _ => 0)) 38 43 67) 68 (fun _ => 0)) 38 47 68) 69 (fun _ => 0)) 38 48 69) 70 (fun _ => 0)) 38 49 70) 71 (fun _ => 0)) 38 51 71) 72 (fun _ => 0)) 38 52 72) 73 (fun _ => 0)) 38 53 73) 74 (fun _ => 0)) 38 55 74) 75 (fun _ => 0)) 38 56 75) 76 (fun _ => 0)) 38 57 76) 77 (fun _ => 0)) 38 58 77) 78 (fun _ => 0)) 38 59 78) 79 (fun _ => 0)) 38 60 79)
theorem in11S_lo {sh : zSh} {x : Int} (hx : x < 39) : in11S sh x = sh x := by
  unfold in11S
  (repeat first | rw [zshn_ne (by omega)])
set_option maxRecDepth 100000 in
set_option maxHeartbeats 4000000 in
theorem c_in11 {d : Nat} {sh : zSh} {h : zMem} (hs : sh 38 = (11, 64)) : zF yX11_init cX11_init 1 none (d + 1) 41 12713 [(2, 38)] 39 sh h none 80 (in11S sh) (in11H h) := by
  refine zF.ofT (by decide +kernel) [some (2, 38)] rfl (Nat.le_of_ble_eq_true rfl) ?_
  have s0 : sh 38 = (11, 64) := hs
  refine zt_aload_n dX11_init_0 rfl ?_
  refine zt_objInit dX11_init_1 ml_X11_1 (by rw [s0]; decide) (Nat.le_of_ble_eq_true rfl) ?_
  refine zt_aload_n dX11_init_4 rfl ?_
  refine zt_sipush dX11_init_5 (by decide) ?_
  refine zi_byte (N0 := 200) (a := 39) (m := 40) dX11_init_8 rfl (by decide) rfl rfl ?_
  have s8 : (zshn sh 39 (102, 200)) 38 = (11, 64) := (zshn_ne (by decide)).trans s0
  refine zt_putFr dX11_init_10 fl_X11_9 ⟨rfl, rfl⟩ s8 ?_
  refine zt_aload_n dX11_init_13 rfl ?_
  refine zt_sipush dX11_init_14 (by decide) ?_
  refine zi_int (N0 := 800) (a := 40) (m := 41) dX11_init_17 rfl (by decide) rfl rfl ?_
  have s17 : (zshn (zshn sh 39 (102, 200)) 40 (100, 800)) 38 = (11, 64) := (zshn_ne (by decide)).trans s8
  refine zt_putFr dX11_init_19 fl_X11_13 ⟨rfl, rfl⟩ s17 ?_
  refine zt_aload_n dX11_init_22 rfl ?_
  refine zt_sipush dX11_init_23 (by decide) ?_
  refine zi_int (N0 := 200) (a := 41) (m := 42) dX11_init_26 rfl (by decide) rfl rfl ?_
  have s26 : (zshn (zshn (zshn sh 39 (102, 200)) 40 (100, 800)) 41 (100, 200)) 38 = (11, 64) := (zshn_ne (by decide)).trans s17
  refine zt_putFr dX11_init_28 fl_X11_17 ⟨rfl, rfl⟩ s26 ?_
  refine zt_aload_n dX11_init_31 rfl ?_
  refine zt_sipush dX11_init_32 (by decide) ?_
  refine zi_int (N0 := 200) (a := 42) (m := 43) dX11_init_35 rfl (by decide) rfl rfl ?_
  have s35 : (zshn (zshn (zshn (zshn sh 39 (102, 200)) 40 (100, 800)) 41 (100, 200)) 42 (100, 200)) 38 = (11, 64) := (zshn_ne (by decide)).trans s26
  refine zt_putFr dX11_init_37 fl_X11_20 ⟨rfl, rfl⟩ s35 ?_
  refine zt_aload_n dX11_init_40 rfl ?_
  refine zt_sipush dX11_init_41 (by decide) ?_
  refine zi_int (N0 := 2000) (a := 43) (m := 44) dX11_init_44 rfl (by decide) rfl rfl ?_
  have s44 : (zshn (zshn (zshn (zshn (zshn sh 39 (102, 200)) 40 (100, 800)) 41 (100, 200)) 42 (100, 200)) 43 (100, 2000)) 38 = (11, 64) := (zshn_ne (by decide)).trans s35
  refine zt_putFr dX11_init_46 fl_X11_23 ⟨rfl, rfl⟩ s44 ?_
  refine zt_aload_n dX11_init_49 rfl ?_
  refine zt_sipush dX11_init_50 (by decide) ?_
  refine zi_int (N0 := 2000) (a := 44) (m := 45) dX11_init_53 rfl (by decide) rfl rfl ?_
  have s53 : (zshn (zshn (zshn (zshn (zshn (zshn sh 39 (102, 200)) 40 (100, 800)) 41 (100, 200)) 42 (100, 200)) 43 (100, 2000)) 44 (100, 2000)) 38 = (11, 64) := (zshn_ne (by decide)).trans s44
  refine zt_putFr dX11_init_55 fl_X11_26 ⟨rfl, rfl⟩ s53 ?_
  refine zt_aload_n dX11_init_58 rfl ?_
  refine zt_bipush dX11_init_59 (by decide) ?_
  refine zi_int (N0 := 10) (a := 45) (m := 46) dX11_init_61 rfl (by decide) rfl rfl ?_
  have s61 : (zshn (zshn (zshn (zshn (zshn (zshn (zshn sh 39 (102, 200)) 40 (100, 800)) 41 (100, 200)) 42 (100, 200)) 43 (100, 2000)) 44 (100, 2000)) 45 (100, 10)) 38 = (11, 64) := (zshn_ne (by decide)).trans s53
  refine zt_putFr dX11_init_63 fl_X11_29 ⟨rfl, rfl⟩ s61 ?_
  refine zt_aload_n dX11_init_66 rfl ?_
  refine zt_iconst dX11_init_67 ?_
  refine zi_int (N0 := 5) (a := 46) (m := 47) dX11_init_68 rfl (by decide) rfl rfl ?_
  have s68 : (zshn (zshn (zshn (zshn (zshn (zshn (zshn (zshn sh 39 (102, 200)) 40 (100, 800)) 41 (100, 200)) 42 (100, 200)) 43 (100, 2000)) 44 (100, 2000)) 45 (100, 10)) 46 (100, 5)) 38 = (11, 64) := (zshn_ne (by decide)).trans s61
  refine zt_putFr dX11_init_70 fl_X11_32 ⟨rfl, rfl⟩ s68 ?_
  refine zt_aload_n dX11_init_73 rfl ?_
  refine zt_sipush dX11_init_74 (by decide) ?_
  refine zi_int (N0 := 150) (a := 47) (m := 48) dX11_init_77 rfl (by decide) rfl rfl ?_
  have s77 : (zshn (zshn (zshn (zshn (zshn (zshn (zshn (zshn (zshn sh 39 (102, 200)) 40 (100, 800)) 41 (100, 200)) 42 (100, 200)) 43 (100, 2000)) 44 (100, 2000)) 45 (100, 10)) 46 (100, 5)) 47 (100, 150)) 38 = (11, 64) := (zshn_ne (by decide)).trans s68
  refine zt_putFr dX11_init_79 fl_X11_35 ⟨rfl, rfl⟩ s77 ?_
  refine zt_aload_n dX11_init_82 rfl ?_
  refine zt_bipush dX11_init_83 (by decide) ?_
  refine zi_int (N0 := 24) (a := 48) (m := 49) dX11_init_85 rfl (by decide) rfl rfl ?_
  have s85 : (zshn (zshn (zshn (zshn (zshn (zshn (zshn (zshn (zshn (zshn sh 39 (102, 200)) 40 (100, 800)) 41 (100, 200)) 42 (100, 200)) 43 (100, 2000)) 44 (100, 2000)) 45 (100, 10)) 46 (100, 5)) 47 (100, 150)) 48 (100, 24)) 38 = (11, 64) := (zshn_ne (by decide)).trans s77
  refine zt_putFr dX11_init_87 fl_X11_38 ⟨rfl, rfl⟩ s85 ?_
  refine zt_aload_n dX11_init_90 rfl ?_
  refine zt_bipush dX11_init_91 (by decide) ?_
  refine zi_int (N0 := 24) (a := 49) (m := 50) dX11_init_93 rfl (by decide) rfl rfl ?_
  have s93 : (zshn (zshn (zshn (zshn (zshn (zshn (zshn (zshn (zshn (zshn (zshn sh 39 (102, 200)) 40 (100, 800)) 41 (100, 200)) 42 (100, 200)) 43 (100, 2000)) 44 (100, 2000)) 45 (100, 10)) 46 (100, 5)) 47 (100, 150)) 48 (100, 24)) 49 (100, 24)) 38 = (11, 64) := (zshn_ne (by decide)).trans s85
  refine zt_putFr dX11_init_95 fl_X11_41 ⟨rfl, rfl⟩ s93 ?_
  refine zt_aload_n dX11_init_98 rfl ?_
  refine zt_bipush dX11_init_99 (by decide) ?_
  refine zi_int (N0 := 24) (a := 50) (m := 51) dX11_init_101 rfl (by decide) rfl rfl ?_
  have s101 : (zshn (zshn (zshn (zshn (zshn (zshn (zshn (zshn (zshn (zshn (zshn (zshn sh 39 (102, 200)) 40 (100, 800)) 41 (100, 200)) 42 (100, 200)) 43 (100, 2000)) 44 (100, 2000)) 45 (100, 10)) 46 (100, 5)) 47 (100, 150)) 48 (100, 24)) 49 (100, 24)) 50 (100, 24)) 38 = (11, 64) := (zshn_ne (by decide)).trans s93
  refine zt_putFr dX11_init_103 fl_X11_44 ⟨rfl, rfl⟩ s101 ?_
  refine zt_aload_n dX11_init_106 rfl ?_
  refine zt_sipush dX11_init_107 (by decide) ?_
  refine zi_int (N0 := 150) (a := 51) (m := 52) dX11_init_110 rfl (by decide) rfl rfl ?_
  have s110 : (zshn (zshn (zshn (zshn (zshn (zshn (zshn (zshn (zshn (zshn (zshn (zshn (zshn sh 39 (102, 200)) 40 (100, 800)) 41 (100, 200)) 42 (100, 200)) 43 (100, 2000)) 44 (100, 2000)) 45 (100, 10)) 46 (100, 5)) 47 (100, 150)) 48 (100, 24)) 49 (100, 24)) 50 (100, 24)) 51 (100, 150)) 38 = (11, 64) := (zshn_ne (by decide)).trans s101
  refine zt_putFr dX11_init_112 fl_X11_47 ⟨rfl, rfl⟩ s110 ?_
  refine zt_aload_n dX11_init_115 rfl ?_
  refine zt_sipush dX11_init_116 (by decide) ?_
  refine zi_int (N0 := 150) (a := 52) (m := 53) dX11_init_119 rfl (by decide) rfl rfl ?_
  have s119 : (zshn (zshn (zshn (zshn (zshn (zshn (zshn (zshn (zshn (zshn (zshn (zshn (zshn (zshn sh 39 (102, 200)) 40 (100, 800)) 41 (100, 200)) 42 (100, 200)) 43 (100, 2000)) 44 (100, 2000)) 45 (100, 10)) 46 (100, 5)) 47 (100, 150)) 48 (100, 24)) 49 (100, 24)) 50 (100, 24)) 51 (100, 150)) 52 (100, 150)) 38 = (11, 64) := (zshn_ne (by decide)).trans s110
  refine zt_putFr dX11_init_121 fl_X11_50 ⟨rfl, rfl⟩ s119 ?_
  refine zt_aload_n dX11_init_124 rfl ?_
  refine zt_sipush dX11_init_125 (by decide) ?_
  refine zi_int (N0 := 150) (a := 53) (m := 54) dX11_init_128 rfl (by decide) rfl rfl ?_
  have s128 : (zshn (zshn (zshn (zshn (zshn (zshn (zshn (zshn (zshn (zshn (zshn (zshn (zshn (zshn (zshn sh 39 (102, 200)) 40 (100, 800)) 41 (100, 200)) 42 (100, 200)) 43 (100, 2000)) 44 (100, 2000)) 45 (100, 10)) 46 (100, 5)) 47 (100, 150)) 48 (100, 24)) 49 (100, 24)) 50 (100, 24)) 51 (100, 150)) 52 (100, 150)) 53 (100, 150)) 38 = (11, 64) := (zshn_ne (by decide)).trans s119
  refine zt_putFr dX11_init_130 fl_X11_53 ⟨rfl, rfl⟩ s128 ?_
  refine zt_aload_n dX11_init_133 rfl ?_
  refine zt_sipush dX11_init_134 (by decide) ?_
  refine zi_int (N0 := 150) (a := 54) (m := 55) dX11_init_137 rfl (by decide) rfl rfl ?_
  have s137 : (zshn (zshn (zshn (zshn (zshn (zshn (zshn (zshn (zshn (zshn (zshn (zshn (zshn (zshn (zshn (zshn sh 39 (102, 200)) 40 (100, 800)) 41 (100, 200)) 42 (100, 200)) 43 (100, 2000)) 44 (100, 2000)) 45 (100, 10)) 46 (100, 5)) 47 (100, 150)) 48 (100, 24)) 49 (100, 24)) 50 (100, 24)) 51 (100, 150)) 52 (100, 150)) 53 (100, 150)) 54 (100, 150)) 38 = (11, 64) := (zshn_ne (by decide)).trans s128
  refine zt_putFr dX11_init_139 fl_X11_56 ⟨rfl, rfl⟩ s137 ?_
  refine zt_aload_n dX11_init_142 rfl ?_
  refine zt_sipush dX11_init_143 (by decide) ?_
  refine zi_int (N0 := 150) (a := 55) (m := 56) dX11_init_146 rfl (by decide) rfl rfl ?_
  have s146 : (zshn (zshn (zshn (zshn (zshn (zshn (zshn (zshn (zshn (zshn (zshn (zshn (zshn (zshn (zshn (zshn (zshn sh 39 (102, 200)) 40 (100, 800)) 41 (100, 200)) 42 (100, 200)) 43 (100, 2000)) 44 (100, 2000)) 45 (100, 10)) 46 (100, 5)) 47 (100, 150)) 48 (100, 24)) 49 (100, 24)) 50 (100, 24)) 51 (100, 150)) 52 (100, 150)) 53 (100, 150)) 54 (100, 150)) 55 (100, 150)) 38 = (11, 64) := (zshn_ne (by decide)).trans s137
  refine zt_putFr dX11_init_148 fl_X11_59 ⟨rfl, rfl⟩ s146 ?_
  refine zt_aload_n dX11_init_151 rfl ?_
  refine zt_sipush dX11_init_152 (by decide) ?_
  refine zi_int (N0 := 150) (a := 56) (m := 57) dX11_init_155 rfl (by decide) rfl rfl ?_
  have s155 : (zshn (zshn (zshn (zshn (zshn (zshn (zshn (zshn (zshn (zshn (zshn (zshn (zshn (zshn (zshn (zshn (zshn (zshn sh 39 (102, 200)) 40 (100, 800)) 41 (100, 200)) 42 (100, 200)) 43 (100, 2000)) 44 (100, 2000)) 45 (100, 10)) 46 (100, 5)) 47 (100, 150)) 48 (100, 24)) 49 (100, 24)) 50 (100, 24)) 51 (100, 150)) 52 (100, 150)) 53 (100, 150)) 54 (100, 150)) 55 (100, 150)) 56 (100, 150)) 38 = (11, 64) := (zshn_ne (by decide)).trans s146
  refine zt_putFr dX11_init_157 fl_X11_62 ⟨rfl, rfl⟩ s155 ?_
  refine zt_aload_n dX11_init_160 rfl ?_
  refine zt_sipush dX11_init_161 (by decide) ?_
  refine zi_int (N0 := 150) (a := 57) (m := 58) dX11_init_164 rfl (by decide) rfl rfl ?_
  have s164 : (zshn (zshn (zshn (zshn (zshn (zshn (zshn (zshn (zshn (zshn (zshn (zshn (zshn (zshn (zshn (zshn (zshn (zshn (zshn sh 39 (102, 200)) 40 (100, 800)) 41 (100, 200)) 42 (100, 200)) 43 (100, 2000)) 44 (100, 2000)) 45 (100, 10)) 46 (100, 5)) 47 (100, 150)) 48 (100, 24)) 49 (100, 24)) 50 (100, 24)) 51 (100, 150)) 52 (100, 150)) 53 (100, 150)) 54 (100, 150)) 55 (100, 150)) 56 (100, 150)) 57 (100, 150)) 38 = (11, 64) := (zshn_ne (by decide)).trans s155
  refine zt_putFr dX11_init_166 fl_X11_65 ⟨rfl, rfl⟩ s164 ?_
  refine zt_aload_n dX11_init_169 rfl ?_
  refine zt_iconst dX11_init_170 ?_
  refine zi_boolean (N0 := 5) (a := 58) (m := 59) dX11_init_171 rfl (by decide) rfl rfl ?_
  have s171 : (zshn (zshn (zshn (zshn (zshn (zshn (zshn (zshn (zshn (zshn (zshn (zshn (zshn (zshn (zshn (zshn (zshn (zshn (zshn (zshn sh 39 (102, 200)) 40 (100, 800)) 41 (100, 200)) 42 (100, 200)) 43 (100, 2000)) 44 (100, 2000)) 45 (100, 10)) 46 (100, 5)) 47 (100, 150)) 48 (100, 24)) 49 (100, 24)) 50 (100, 24)) 51 (100, 150)) 52 (100, 150)) 53 (100, 150)) 54 (100, 150)) 55 (100, 150)) 56 (100, 150)) 57 (100, 150)) 58 (103, 5)) 38 = (11, 64) := (zshn_ne (by decide)).trans s164
  refine zt_putFr dX11_init_173 fl_X11_68 ⟨rfl, rfl⟩ s171 ?_
  refine zt_aload_n dX11_init_176 rfl ?_
  refine zt_sipush dX11_init_177 (by decide) ?_
  refine zt_putFi dX11_init_180 fl_X11_72 ⟨rfl, rfl⟩ s171 (by decide) ?_
  refine zt_aload_n dX11_init_183 rfl ?_
  refine zt_iconst dX11_init_184 ?_
  refine zi_int (N0 := 5) (a := 59) (m := 60) dX11_init_185 rfl (by decide) rfl rfl ?_
  have s185 : (zshn (zshn (zshn (zshn (zshn (zshn (zshn (zshn (zshn (zshn (zshn (zshn (zshn (zshn (zshn (zshn (zshn (zshn (zshn (zshn (zshn sh 39 (102, 200)) 40 (100, 800)) 41 (100, 200)) 42 (100, 200)) 43 (100, 2000)) 44 (100, 2000)) 45 (100, 10)) 46 (100, 5)) 47 (100, 150)) 48 (100, 24)) 49 (100, 24)) 50 (100, 24)) 51 (100, 150)) 52 (100, 150)) 53 (100, 150)) 54 (100, 150)) 55 (100, 150)) 56 (100, 150)) 57 (100, 150)) 58 (103, 5)) 59 (100, 5)) 38 = (11, 64) := (zshn_ne (by decide)).trans s171
  refine zt_putFr dX11_init_187 fl_X11_76 ⟨rfl, rfl⟩ s185 ?_
  refine zt_aload_n dX11_init_190 rfl ?_
  refine zt_iconst dX11_init_191 ?_
  refine zi_int (N0 := 5) (a := 60) (m := 61) dX11_init_192 rfl (by decide) rfl rfl ?_
  have s192 : (zshn (zshn (zshn (zshn (zshn (zshn (zshn (zshn (zshn (zshn (zshn (zshn (zshn (zshn (zshn (zshn (zshn (zshn (zshn (zshn (zshn (zshn sh 39 (102, 200)) 40 (100, 800)) 41 (100, 200)) 42 (100, 200)) 43 (100, 2000)) 44 (100, 2000)) 45 (100, 10)) 46 (100, 5)) 47 (100, 150)) 48 (100, 24)) 49 (100, 24)) 50 (100, 24)) 51 (100, 150)) 52 (100, 150)) 53 (100, 150)) 54 (100, 150)) 55 (100, 150)) 56 (100, 150)) 57 (100, 150)) 58 (103, 5)) 59 (100, 5)) 60 (100, 5)) 38 = (11, 64) := (zshn_ne (by decide)).trans s185
  refine zt_putFr dX11_init_194 fl_X11_79 ⟨rfl, rfl⟩ s192 ?_
  refine zt_aload_n dX11_init_197 rfl ?_
  refine zt_sipush dX11_init_198 (by decide) ?_
  refine zi_int (N0 := 150) (a := 61) (m := 62) dX11_init_201 rfl (by decide) rfl rfl ?_
  have s201 : (zshn (zshn (zshn (zshn (zshn (zshn (zshn (zshn (zshn (zshn (zshn (zshn (zshn (zshn (zshn (zshn (zshn (zshn (zshn (zshn (zshn (zshn (zshn sh 39 (102, 200)) 40 (100, 800)) 41 (100, 200)) 42 (100, 200)) 43 (100, 2000)) 44 (100, 2000)) 45 (100, 10)) 46 (100, 5)) 47 (100, 150)) 48 (100, 24)) 49 (100, 24)) 50 (100, 24)) 51 (100, 150)) 52 (100, 150)) 53 (100, 150)) 54 (100, 150)) 55 (100, 150)) 56 (100, 150)) 57 (100, 150)) 58 (103, 5)) 59 (100, 5)) 60 (100, 5)) 61 (100, 150)) 38 = (11, 64) := (zshn_ne (by decide)).trans s192
  refine zt_putFr dX11_init_203 fl_X11_82 ⟨rfl, rfl⟩ s201 ?_
  refine zt_aload_n dX11_init_206 rfl ?_
  refine zt_bipush dX11_init_207 (by decide) ?_
  refine zi_int (N0 := 40) (a := 62) (m := 63) dX11_init_209 rfl (by decide) rfl rfl ?_
  have s209 : (zshn (zshn (zshn (zshn (zshn (zshn (zshn (zshn (zshn (zshn (zshn (zshn (zshn (zshn (zshn (zshn (zshn (zshn (zshn (zshn (zshn (zshn (zshn (zshn sh 39 (102, 200)) 40 (100, 800)) 41 (100, 200)) 42 (100, 200)) 43 (100, 2000)) 44 (100, 2000)) 45 (100, 10)) 46 (100, 5)) 47 (100, 150)) 48 (100, 24)) 49 (100, 24)) 50 (100, 24)) 51 (100, 150)) 52 (100, 150)) 53 (100, 150)) 54 (100, 150)) 55 (100, 150)) 56 (100, 150)) 57 (100, 150)) 58 (103, 5)) 59 (100, 5)) 60 (100, 5)) 61 (100, 150)) 62 (100, 40)) 38 = (11, 64) := (zshn_ne (by decide)).trans s201
  refine zt_putFr dX11_init_211 fl_X11_85 ⟨rfl, rfl⟩ s209 ?_
  refine zt_aload_n dX11_init_214 rfl ?_
  refine zt_bipush dX11_init_215 (by decide) ?_
  refine zi_int (N0 := 40) (a := 63) (m := 64) dX11_init_217 rfl (by decide) rfl rfl ?_
  have s217 : (zshn (zshn (zshn (zshn (zshn (zshn (zshn (zshn (zshn (zshn (zshn (zshn (zshn (zshn (zshn (zshn (zshn (zshn (zshn (zshn (zshn (zshn (zshn (zshn (zshn sh 39 (102, 200)) 40 (100, 800)) 41 (100, 200)) 42 (100, 200)) 43 (100, 2000)) 44 (100, 2000)) 45 (100, 10)) 46 (100, 5)) 47 (100, 150)) 48 (100, 24)) 49 (100, 24)) 50 (100, 24)) 51 (100, 150)) 52 (100, 150)) 53 (100, 150)) 54 (100, 150)) 55 (100, 150)) 56 (100, 150)) 57 (100, 150)) 58 (103, 5)) 59 (100, 5)) 60 (100, 5)) 61 (100, 150)) 62 (100, 40)) 63 (100, 40)) 38 = (11, 64) := (zshn_ne (by decide)).trans s209
  refine zt_putFr dX11_init_219 fl_X11_88 ⟨rfl, rfl⟩ s217 ?_
  refine zt_aload_n dX11_init_222 rfl ?_
  refine zt_bipush dX11_init_223 (by decide) ?_
  refine zi_int (N0 := 40) (a := 64) (m := 65) dX11_init_225 rfl (by decide) rfl rfl ?_
  have s225 : (zshn (zshn (zshn (zshn (zshn (zshn (zshn (zshn (zshn (zshn (zshn (zshn (zshn (zshn (zshn (zshn (zshn (zshn (zshn (zshn (zshn (zshn (zshn (zshn (zshn (zshn sh 39 (102, 200)) 40 (100, 800)) 41 (100, 200)) 42 (100, 200)) 43 (100, 2000)) 44 (100, 2000)) 45 (100, 10)) 46 (100, 5)) 47 (100, 150)) 48 (100, 24)) 49 (100, 24)) 50 (100, 24)) 51 (100, 150)) 52 (100, 150)) 53 (100, 150)) 54 (100, 150)) 55 (100, 150)) 56 (100, 150)) 57 (100, 150)) 58 (103, 5)) 59 (100, 5)) 60 (100, 5)) 61 (100, 150)) 62 (100, 40)) 63 (100, 40)) 64 (100, 40)) 38 = (11, 64) := (zshn_ne (by decide)).trans s217
  refine zt_putFr dX11_init_227 fl_X11_91 ⟨rfl, rfl⟩ s225 ?_
  refine zt_aload_n dX11_init_230 rfl ?_
  refine zt_bipush dX11_init_231 (by decide) ?_
  refine zi_int (N0 := 40) (a := 65) (m := 66) dX11_init_233 rfl (by decide) rfl rfl ?_
  have s233 : (zshn (zshn (zshn (zshn (zshn (zshn (zshn (zshn (zshn (zshn (zshn (zshn (zshn (zshn (zshn (zshn (zshn (zshn (zshn (zshn (zshn (zshn (zshn (zshn (zshn (zshn (zshn sh 39 (102, 200)) 40 (100, 800)) 41 (100, 200)) 42 (100, 200)) 43 (100, 2000)) 44 (100, 2000)) 45 (100, 10)) 46 (100, 5)) 47 (100, 150)) 48 (100, 24)) 49 (100, 24)) 50 (100, 24)) 51 (100, 150)) 52 (100, 150)) 53 (100, 150)) 54 (100, 150)) 55 (100, 150)) 56 (100, 150)) 57 (100, 150)) 58 (103, 5)) 59 (100, 5)) 60 (100, 5)) 61 (100, 150)) 62 (100, 40)) 63 (100, 40)) 64 (100, 40)) 65 (100, 40)) 38 = (11, 64) := (zshn_ne (by decide)).trans s225
  refine zt_putFr dX11_init_235 fl_X11_94 ⟨rfl, rfl⟩ s233 ?_
  refine zt_aload_n dX11_init_238 rfl ?_
  refine zt_sipush dX11_init_239 (by decide) ?_
  refine zi_int (N0 := 150) (a := 66) (m := 67) dX11_init_242 rfl (by decide) rfl rfl ?_
  have s242 : (zshn (zshn (zshn (zshn (zshn (zshn (zshn (zshn (zshn (zshn (zshn (zshn (zshn (zshn (zshn (zshn (zshn (zshn (zshn (zshn (zshn (zshn (zshn (zshn (zshn (zshn (zshn (zshn sh 39 (102, 200)) 40 (100, 800)) 41 (100, 200)) 42 (100, 200)) 43 (100, 2000)) 44 (100, 2000)) 45 (100, 10)) 46 (100, 5)) 47 (100, 150)) 48 (100, 24)) 49 (100, 24)) 50 (100, 24)) 51 (100, 150)) 52 (100, 150)) 53 (100, 150)) 54 (100, 150)) 55 (100, 150)) 56 (100, 150)) 57 (100, 150)) 58 (103, 5)) 59 (100, 5)) 60 (100, 5)) 61 (100, 150)) 62 (100, 40)) 63 (100, 40)) 64 (100, 40)) 65 (100, 40)) 66 (100, 150)) 38 = (11, 64) := (zshn_ne (by decide)).trans s233
  refine zt_putFr dX11_init_244 fl_X11_97 ⟨rfl, rfl⟩ s242 ?_
  refine zt_aload_n dX11_init_247 rfl ?_
  refine zt_bipush dX11_init_248 (by decide) ?_
  refine zi_int (N0 := 45) (a := 67) (m := 68) dX11_init_250 rfl (by decide) rfl rfl ?_
  have s250 : (zshn (zshn (zshn (zshn (zshn (zshn (zshn (zshn (zshn (zshn (zshn (zshn (zshn (zshn (zshn (zshn (zshn (zshn (zshn (zshn (zshn (zshn (zshn (zshn (zshn (zshn (zshn (zshn (zshn sh 39 (102, 200)) 40 (100, 800)) 41 (100, 200)) 42 (100, 200)) 43 (100, 2000)) 44 (100, 2000)) 45 (100, 10)) 46 (100, 5)) 47 (100, 150)) 48 (100, 24)) 49 (100, 24)) 50 (100, 24)) 51 (100, 150)) 52 (100, 150)) 53 (100, 150)) 54 (100, 150)) 55 (100, 150)) 56 (100, 150)) 57 (100, 150)) 58 (103, 5)) 59 (100, 5)) 60 (100, 5)) 61 (100, 150)) 62 (100, 40)) 63 (100, 40)) 64 (100, 40)) 65 (100, 40)) 66 (100, 150)) 67 (100, 45)) 38 = (11, 64) := (zshn_ne (by decide)).trans s242
  refine zt_putFr dX11_init_252 fl_X11_100 ⟨rfl, rfl⟩ s250 ?_
  refine zt_aload_n dX11_init_255 rfl ?_
  refine zt_bipush dX11_init_256 (by decide) ?_
  refine zi_int (N0 := 12) (a := 68) (m := 69) dX11_init_258 rfl (by decide) rfl rfl ?_
  have s258 : (zshn (zshn (zshn (zshn (zshn (zshn (zshn (zshn (zshn (zshn (zshn (zshn (zshn (zshn (zshn (zshn (zshn (zshn (zshn (zshn (zshn (zshn (zshn (zshn (zshn (zshn (zshn (zshn (zshn (zshn sh 39 (102, 200)) 40 (100, 800)) 41 (100, 200)) 42 (100, 200)) 43 (100, 2000)) 44 (100, 2000)) 45 (100, 10)) 46 (100, 5)) 47 (100, 150)) 48 (100, 24)) 49 (100, 24)) 50 (100, 24)) 51 (100, 150)) 52 (100, 150)) 53 (100, 150)) 54 (100, 150)) 55 (100, 150)) 56 (100, 150)) 57 (100, 150)) 58 (103, 5)) 59 (100, 5)) 60 (100, 5)) 61 (100, 150)) 62 (100, 40)) 63 (100, 40)) 64 (100, 40)) 65 (100, 40)) 66 (100, 150)) 67 (100, 45)) 68 (100, 12)) 38 = (11, 64) := (zshn_ne (by decide)).trans s250
  refine zt_putFr dX11_init_260 fl_X11_103 ⟨rfl, rfl⟩ s258 ?_
  refine zt_aload_n dX11_init_263 rfl ?_
  refine zt_bipush dX11_init_264 (by decide) ?_
  refine zi_int (N0 := 12) (a := 69) (m := 70) dX11_init_266 rfl (by decide) rfl rfl ?_
  have s266 : (zshn (zshn (zshn (zshn (zshn (zshn (zshn (zshn (zshn (zshn (zshn (zshn (zshn (zshn (zshn (zshn (zshn (zshn (zshn (zshn (zshn (zshn (zshn (zshn (zshn (zshn (zshn (zshn (zshn (zshn (zshn sh 39 (102, 200)) 40 (100, 800)) 41 (100, 200)) 42 (100, 200)) 43 (100, 2000)) 44 (100, 2000)) 45 (100, 10)) 46 (100, 5)) 47 (100, 150)) 48 (100, 24)) 49 (100, 24)) 50 (100, 24)) 51 (100, 150)) 52 (100, 150)) 53 (100, 150)) 54 (100, 150)) 55 (100, 150)) 56 (100, 150)) 57 (100, 150)) 58 (103, 5)) 59 (100, 5)) 60 (100, 5)) 61 (100, 150)) 62 (100, 40)) 63 (100, 40)) 64 (100, 40)) 65 (100, 40)) 66 (100, 150)) 67 (100, 45)) 68 (100, 12)) 69 (100, 12)) 38 = (11, 64) := (zshn_ne (by decide)).trans s258
  refine zt_putFr dX11_init_268 fl_X11_106 ⟨rfl, rfl⟩ s266 ?_
  refine zt_aload_n dX11_init_271 rfl ?_
  refine zt_bipush dX11_init_272 (by decide) ?_
  refine zi_int (N0 := 12) (a := 70) (m := 71) dX11_init_274 rfl (by decide) rfl rfl ?_
  have s274 : (zshn (zshn (zshn (zshn (zshn (zshn (zshn (zshn (zshn (zshn (zshn (zshn (zshn (zshn (zshn (zshn (zshn (zshn (zshn (zshn (zshn (zshn (zshn (zshn (zshn (zshn (zshn (zshn (zshn (zshn (zshn (zshn sh 39 (102, 200)) 40 (100, 800)) 41 (100, 200)) 42 (100, 200)) 43 (100, 2000)) 44 (100, 2000)) 45 (100, 10)) 46 (100, 5)) 47 (100, 150)) 48 (100, 24)) 49 (100, 24)) 50 (100, 24)) 51 (100, 150)) 52 (100, 150)) 53 (100, 150)) 54 (100, 150)) 55 (100, 150)) 56 (100, 150)) 57 (100, 150)) 58 (103, 5)) 59 (100, 5)) 60 (100, 5)) 61 (100, 150)) 62 (100, 40)) 63 (100, 40)) 64 (100, 40)) 65 (100, 40)) 66 (100, 150)) 67 (100, 45)) 68 (100, 12)) 69 (100, 12)) 70 (100, 12)) 38 = (11, 64) := (zshn_ne (by decide)).trans s266
  refine zt_putFr dX11_init_276 fl_X11_109 ⟨rfl, rfl⟩ s274 ?_
  refine zt_aload_n dX11_init_279 rfl ?_
  refine zt_bipush dX11_init_280 (by decide) ?_
  refine zi_int (N0 := 20) (a := 71) (m := 72) dX11_init_282 rfl (by decide) rfl rfl ?_
  have s282 : (zshn (zshn (zshn (zshn (zshn (zshn (zshn (zshn (zshn (zshn (zshn (zshn (zshn (zshn (zshn (zshn (zshn (zshn (zshn (zshn (zshn (zshn (zshn (zshn (zshn (zshn (zshn (zshn (zshn (zshn (zshn (zshn (zshn sh 39 (102, 200)) 40 (100, 800)) 41 (100, 200)) 42 (100, 200)) 43 (100, 2000)) 44 (100, 2000)) 45 (100, 10)) 46 (100, 5)) 47 (100, 150)) 48 (100, 24)) 49 (100, 24)) 50 (100, 24)) 51 (100, 150)) 52 (100, 150)) 53 (100, 150)) 54 (100, 150)) 55 (100, 150)) 56 (100, 150)) 57 (100, 150)) 58 (103, 5)) 59 (100, 5)) 60 (100, 5)) 61 (100, 150)) 62 (100, 40)) 63 (100, 40)) 64 (100, 40)) 65 (100, 40)) 66 (100, 150)) 67 (100, 45)) 68 (100, 12)) 69 (100, 12)) 70 (100, 12)) 71 (100, 20)) 38 = (11, 64) := (zshn_ne (by decide)).trans s274
  refine zt_putFr dX11_init_284 fl_X11_112 ⟨rfl, rfl⟩ s282 ?_
  refine zt_aload_n dX11_init_287 rfl ?_
  refine zt_sipush dX11_init_288 (by decide) ?_
  refine zi_long (N0 := 200) (a := 72) (m := 73) dX11_init_291 rfl (by decide) rfl rfl ?_
  have s291 : (zshn (zshn (zshn (zshn (zshn (zshn (zshn (zshn (zshn (zshn (zshn (zshn (zshn (zshn (zshn (zshn (zshn (zshn (zshn (zshn (zshn (zshn (zshn (zshn (zshn (zshn (zshn (zshn (zshn (zshn (zshn (zshn (zshn (zshn sh 39 (102, 200)) 40 (100, 800)) 41 (100, 200)) 42 (100, 200)) 43 (100, 2000)) 44 (100, 2000)) 45 (100, 10)) 46 (100, 5)) 47 (100, 150)) 48 (100, 24)) 49 (100, 24)) 50 (100, 24)) 51 (100, 150)) 52 (100, 150)) 53 (100, 150)) 54 (100, 150)) 55 (100, 150)) 56 (100, 150)) 57 (100, 150)) 58 (103, 5)) 59 (100, 5)) 60 (100, 5)) 61 (100, 150)) 62 (100, 40)) 63 (100, 40)) 64 (100, 40)) 65 (100, 40)) 66 (100, 150)) 67 (100, 45)) 68 (100, 12)) 69 (100, 12)) 70 (100, 12)) 71 (100, 20)) 72 (101, 200)) 38 = (11, 64) := (zshn_ne (by decide)).trans s282
  refine zt_putFr dX11_init_293 fl_X11_115 ⟨rfl, rfl⟩ s291 ?_
  refine zt_aload_n dX11_init_296 rfl ?_
  refine zt_sipush dX11_init_297 (by decide) ?_
  refine zi_long (N0 := 200) (a := 73) (m := 74) dX11_init_300 rfl (by decide) rfl rfl ?_
  have s300 : (zshn (zshn (zshn (zshn (zshn (zshn (zshn (zshn (zshn (zshn (zshn (zshn (zshn (zshn (zshn (zshn (zshn (zshn (zshn (zshn (zshn (zshn (zshn (zshn (zshn (zshn (zshn (zshn (zshn (zshn (zshn (zshn (zshn (zshn (zshn sh 39 (102, 200)) 40 (100, 800)) 41 (100, 200)) 42 (100, 200)) 43 (100, 2000)) 44 (100, 2000)) 45 (100, 10)) 46 (100, 5)) 47 (100, 150)) 48 (100, 24)) 49 (100, 24)) 50 (100, 24)) 51 (100, 150)) 52 (100, 150)) 53 (100, 150)) 54 (100, 150)) 55 (100, 150)) 56 (100, 150)) 57 (100, 150)) 58 (103, 5)) 59 (100, 5)) 60 (100, 5)) 61 (100, 150)) 62 (100, 40)) 63 (100, 40)) 64 (100, 40)) 65 (100, 40)) 66 (100, 150)) 67 (100, 45)) 68 (100, 12)) 69 (100, 12)) 70 (100, 12)) 71 (100, 20)) 72 (101, 200)) 73 (101, 200)) 38 = (11, 64) := (zshn_ne (by decide)).trans s291
  refine zt_putFr dX11_init_302 fl_X11_119 ⟨rfl, rfl⟩ s300 ?_
  refine zt_aload_n dX11_init_305 rfl ?_
  refine zt_bipush dX11_init_306 (by decide) ?_
  refine zi_int (N0 := 6) (a := 74) (m := 75) dX11_init_308 rfl (by decide) rfl rfl ?_
  have s308 : (zshn (zshn (zshn (zshn (zshn (zshn (zshn (zshn (zshn (zshn (zshn (zshn (zshn (zshn (zshn (zshn (zshn (zshn (zshn (zshn (zshn (zshn (zshn (zshn (zshn (zshn (zshn (zshn (zshn (zshn (zshn (zshn (zshn (zshn (zshn (zshn sh 39 (102, 200)) 40 (100, 800)) 41 (100, 200)) 42 (100, 200)) 43 (100, 2000)) 44 (100, 2000)) 45 (100, 10)) 46 (100, 5)) 47 (100, 150)) 48 (100, 24)) 49 (100, 24)) 50 (100, 24)) 51 (100, 150)) 52 (100, 150)) 53 (100, 150)) 54 (100, 150)) 55 (100, 150)) 56 (100, 150)) 57 (100, 150)) 58 (103, 5)) 59 (100, 5)) 60 (100, 5)) 61 (100, 150)) 62 (100, 40)) 63 (100, 40)) 64 (100, 40)) 65 (100, 40)) 66 (100, 150)) 67 (100, 45)) 68 (100, 12)) 69 (100, 12)) 70 (100, 12)) 71 (100, 20)) 72 (101, 200)) 73 (101, 200)) 74 (100, 6)) 38 = (11, 64) := (zshn_ne (by decide)).trans s300
  refine zt_putFr dX11_init_310 fl_X11_122 ⟨rfl, rfl⟩ s308 ?_
  refine zt_aload_n dX11_init_313 rfl ?_
  refine zt_bipush dX11_init_314 (by decide) ?_
  refine zi_int (N0 := 31) (a := 75) (m := 76) dX11_init_316 rfl (by decide) rfl rfl ?_
  have s316 : (zshn (zshn (zshn (zshn (zshn (zshn (zshn (zshn (zshn (zshn (zshn (zshn (zshn (zshn (zshn (zshn (zshn (zshn (zshn (zshn (zshn (zshn (zshn (zshn (zshn (zshn (zshn (zshn (zshn (zshn (zshn (zshn (zshn (zshn (zshn (zshn (zshn sh 39 (102, 200)) 40 (100, 800)) 41 (100, 200)) 42 (100, 200)) 43 (100, 2000)) 44 (100, 2000)) 45 (100, 10)) 46 (100, 5)) 47 (100, 150)) 48 (100, 24)) 49 (100, 24)) 50 (100, 24)) 51 (100, 150)) 52 (100, 150)) 53 (100, 150)) 54 (100, 150)) 55 (100, 150)) 56 (100, 150)) 57 (100, 150)) 58 (103, 5)) 59 (100, 5)) 60 (100, 5)) 61 (100, 150)) 62 (100, 40)) 63 (100, 40)) 64 (100, 40)) 65 (100, 40)) 66 (100, 150)) 67 (100, 45)) 68 (100, 12)) 69 (100, 12)) 70 (100, 12)) 71 (100, 20)) 72 (101, 200)) 73 (101, 200)) 74 (100, 6)) 75 (100, 31)) 38 = (11, 64) := (zshn_ne (by decide)).trans s308
  refine zt_putFr dX11_init_318 fl_X11_125 ⟨rfl, rfl⟩ s316 ?_
  refine zt_aload_n dX11_init_321 rfl ?_
  refine zt_iconst dX11_init_322 ?_
  refine zi_long (N0 := 5) (a := 76) (m := 77) dX11_init_323 rfl (by decide) rfl rfl ?_
  have s323 : (zshn (zshn (zshn (zshn (zshn (zshn (zshn (zshn (zshn (zshn (zshn (zshn (zshn (zshn (zshn (zshn (zshn (zshn (zshn (zshn (zshn (zshn (zshn (zshn (zshn (zshn (zshn (zshn (zshn (zshn (zshn (zshn (zshn (zshn (zshn (zshn (zshn (zshn sh 39 (102, 200)) 40 (100, 800)) 41 (100, 200)) 42 (100, 200)) 43 (100, 2000)) 44 (100, 2000)) 45 (100, 10)) 46 (100, 5)) 47 (100, 150)) 48 (100, 24)) 49 (100, 24)) 50 (100, 24)) 51 (100, 150)) 52 (100, 150)) 53 (100, 150)) 54 (100, 150)) 55 (100, 150)) 56 (100, 150)) 57 (100, 150)) 58 (103, 5)) 59 (100, 5)) 60 (100, 5)) 61 (100, 150)) 62 (100, 40)) 63 (100, 40)) 64 (100, 40)) 65 (100, 40)) 66 (100, 150)) 67 (100, 45)) 68 (100, 12)) 69 (100, 12)) 70 (100, 12)) 71 (100, 20)) 72 (101, 200)) 73 (101, 200)) 74 (100, 6)) 75 (100, 31)) 76 (101, 5)) 38 = (11, 64) := (zshn_ne (by decide)).trans s316
  refine zt_putFr dX11_init_325 fl_X11_128 ⟨rfl, rfl⟩ s323 ?_
  refine zt_aload_n dX11_init_328 rfl ?_
  refine zt_iconst dX11_init_329 ?_
  refine zi_int (N0 := 4) (a := 77) (m := 78) dX11_init_330 rfl (by decide) rfl rfl ?_
  have s330 : (zshn (zshn (zshn (zshn (zshn (zshn (zshn (zshn (zshn (zshn (zshn (zshn (zshn (zshn (zshn (zshn (zshn (zshn (zshn (zshn (zshn (zshn (zshn (zshn (zshn (zshn (zshn (zshn (zshn (zshn (zshn (zshn (zshn (zshn (zshn (zshn (zshn (zshn (zshn sh 39 (102, 200)) 40 (100, 800)) 41 (100, 200)) 42 (100, 200)) 43 (100, 2000)) 44 (100, 2000)) 45 (100, 10)) 46 (100, 5)) 47 (100, 150)) 48 (100, 24)) 49 (100, 24)) 50 (100, 24)) 51 (100, 150)) 52 (100, 150)) 53 (100, 150)) 54 (100, 150)) 55 (100, 150)) 56 (100, 150)) 57 (100, 150)) 58 (103, 5)) 59 (100, 5)) 60 (100, 5)) 61 (100, 150)) 62 (100, 40)) 63 (100, 40)) 64 (100, 40)) 65 (100, 40)) 66 (100, 150)) 67 (100, 45)) 68 (100, 12)) 69 (100, 12)) 70 (100, 12)) 71 (100, 20)) 72 (101, 200)) 73 (101, 200)) 74 (100, 6)) 75 (100, 31)) 76 (101, 5)) 77 (100, 4)) 38 = (11, 64) := (zshn_ne (by decide)).trans s323
  refine zt_putFr dX11_init_332 fl_X11_131 ⟨rfl, rfl⟩ s330 ?_
  refine zt_aload_n dX11_init_335 rfl ?_
  refine zt_iconst dX11_init_336 ?_
  refine zi_long (N0 := 4) (a := 78) (m := 79) dX11_init_337 rfl (by decide) rfl rfl ?_
  have s337 : (zshn (zshn (zshn (zshn (zshn (zshn (zshn (zshn (zshn (zshn (zshn (zshn (zshn (zshn (zshn (zshn (zshn (zshn (zshn (zshn (zshn (zshn (zshn (zshn (zshn (zshn (zshn (zshn (zshn (zshn (zshn (zshn (zshn (zshn (zshn (zshn (zshn (zshn (zshn (zshn sh 39 (102, 200)) 40 (100, 800)) 41 (100, 200)) 42 (100, 200)) 43 (100, 2000)) 44 (100, 2000)) 45 (100, 10)) 46 (100, 5)) 47 (100, 150)) 48 (100, 24)) 49 (100, 24)) 50 (100, 24)) 51 (100, 150)) 52 (100, 150)) 53 (100, 150)) 54 (100, 150)) 55 (100, 150)) 56 (100, 150)) 57 (100, 150)) 58 (103, 5)) 59 (100, 5)) 60 (100, 5)) 61 (100, 150)) 62 (100, 40)) 63 (100, 40)) 64 (100, 40)) 65 (100, 40)) 66 (100, 150)) 67 (100, 45)) 68 (100, 12)) 69 (100, 12)) 70 (100, 12)) 71 (100, 20)) 72 (101, 200)) 73 (101, 200)) 74 (100, 6)) 75 (100, 31)) 76 (101, 5)) 77 (100, 4)) 78 (101, 4)) 38 = (11, 64) := (zshn_ne (by decide)).trans s330
  refine zt_putFr dX11_init_339 fl_X11_134 ⟨rfl, rfl⟩ s337 ?_
  refine zt_aload_n dX11_init_342 rfl ?_
  refine zt_sipush dX11_init_343 (by decide) ?_
  refine zi_int (N0 := 5000) (a := 79) (m := 80) dX11_init_346 rfl (by decide) rfl rfl ?_
  have s346 : (zshn (zshn (zshn (zshn (zshn (zshn (zshn (zshn (zshn (zshn (zshn (zshn (zshn (zshn (zshn (zshn (zshn (zshn (zshn (zshn (zshn (zshn (zshn (zshn (zshn (zshn (zshn (zshn (zshn (zshn (zshn (zshn (zshn (zshn (zshn (zshn (zshn (zshn (zshn (zshn (zshn sh 39 (102, 200)) 40 (100, 800)) 41 (100, 200)) 42 (100, 200)) 43 (100, 2000)) 44 (100, 2000)) 45 (100, 10)) 46 (100, 5)) 47 (100, 150)) 48 (100, 24)) 49 (100, 24)) 50 (100, 24)) 51 (100, 150)) 52 (100, 150)) 53 (100, 150)) 54 (100, 150)) 55 (100, 150)) 56 (100, 150)) 57 (100, 150)) 58 (103, 5)) 59 (100, 5)) 60 (100, 5)) 61 (100, 150)) 62 (100, 40)) 63 (100, 40)) 64 (100, 40)) 65 (100, 40)) 66 (100, 150)) 67 (100, 45)) 68 (100, 12)) 69 (100, 12)) 70 (100, 12)) 71 (100, 20)) 72 (101, 200)) 73 (101, 200)) 74 (100, 6)) 75 (100, 31)) 76 (101, 5)) 77 (100, 4)) 78 (101, 4)) 79 (100, 5000)) 38 = (11, 64) := (zshn_ne (by decide)).trans s337
  refine zt_putFr dX11_init_348 fl_X11_137 ⟨rfl, rfl⟩ s346 ?_
  exact zt_vret dX11_init_351 ⟨rfl, rfl, rfl, rfl⟩

