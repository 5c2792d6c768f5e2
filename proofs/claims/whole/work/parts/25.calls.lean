section zRules8
variable {y : MethodName} {cc : ByteArray} {mL : Nat} {rt : Option FieldType} {d kc ks : Nat} {Q : Option zV → Nat → zSh → zMem → Prop} {pc : Nat} {ls : List (Option zV)} {st : List zV} {n : Nat} {sh : zSh} {h : zMem}
def zws (st : List zV) : Nat := (st.map fun v => if v.1 = 1 then 2 else 1).sum
theorem zws_cat (φ : Int → Nat) (st : List zV) : ((st.map (zrv φ)).map fun v => v.category) = st.map fun v => if v.1 = 1 then 2 else 1 := by
  rw [List.map_map]; congr 1; funext v; exact zrv_cat φ v
theorem zTb_good : ∀ w ∈ zTb, (w.onTables && w.keeps) = true ∨ ∃ ty, w = .arrayClass ty := fun w hw => good_of_word (List.mem_filter.mp hw).2
/-- a link of a class' pool to a method, whose words the tables have: its code, its arguments -/
def zML (own : String) (idx : Nat) (y' : MethodName) (cc' : ByteArray) (mL' : Nat) (rt' : Option FieldType) (na : Nat) : Prop :=
  Cond.methodLink own idx y' ∈ zTb ∧ Cond.code y' cc' mL' rt' ∈ zTb ∧ Cond.initialized y'.cls ∈ zTb ∧ (y'.cls ≠ "java/lang/invoke/MethodHandle" ∧ y'.cls ≠ "java/lang/invoke/VarHandle") ∧ (parseMethodDescriptor y'.desc).map (fun d => d.parameters.length) = some na ∧ mL' ≤ 45
def zMN (own : String) (idx : Nat) (y' : MethodName) (host : String) (cc' : ByteArray) (mL' : Nat) (rt' : Option FieldType) (na : Nat) : Prop :=
  (own, idx, y', host) ∈ zNest ∧ Cond.code y' cc' mL' rt' ∈ zTb ∧ Cond.initialized y'.cls ∈ zTb ∧ (y'.cls ≠ "java/lang/invoke/MethodHandle" ∧ y'.cls ≠ "java/lang/invoke/VarHandle") ∧ (parseMethodDescriptor y'.desc).map (fun d => d.parameters.length) = some na ∧ mL' ≤ 45
theorem zback {p : Program} {l : Launch} {e : Env} {s : State} {m : MethodId} {args : Array Value} {below : List Frame} {meth : Method} {c : Code} {D : va_G} {cA : Nat → ClassId} {φ : Int → Nat} {n0 : Nat} {K N : Nat} {H : Heap} {locs : List Loc} {cells slots kc' ks' : Nat} {ls0 : Array Slot} {st0 : List Value} {Q' : Option zV → Nat → zSh → zMem → Prop} {a : Array Value}
    (E : zEnv y cc mL rt D cA φ n0 p s m args meth c) (V : va_S (zA n0) s.heap H locs) (L : zLv φ ls0 mL ls) (c1 : cells + (kc + kc') ≤ K) (c2 : slots + (ks + ks') ≤ N)
    (hr : va_Run p l e (zRoom d K N) s m args below meth c H locs cells slots kc' ks' (F0 m pc ls0 st0) (st.map (zrv φ)) (zQ D cA φ n0 Q' a) (zA n0))
    (k : ∀ r n' sh' h', Q' r n' sh' h' → zT y cc mL rt d kc ks Q (pc + 3) ls (r.toList ++ st) n' sh' h') :
    W p l e (zRoom d K N) s m args below meth c H locs cells slots (MQ below (zQ D cA φ n0 Q) args s K N (zA n0)) (F0 m pc ls0 st0) := by
  intro T hT hX
  obtain ⟨v, st₀, t, T', L', h0, X', hL, e1, e2, ⟨⟨r, n', sh', h', q1, q2, q3, q4⟩, hz, hk⟩, hgo⟩ := hr T hT hX
  rw [h0] at hz hk
  have hv : v = r.map (zrv φ) := by cases q1; rfl
  have V' : va_S (zA n0) s.heap T'.heap (locs ++ L') := ⟨Nat.le_trans V.1 (by rw [e1]; exact hz), fun q h1 h2 => by rw [e1, hk q (Nat.lt_of_lt_of_le h1 V.1) h2]; exact V.2.1 q h1 h2, fun q hq => by
      rcases List.mem_append.mp hq with h | h
      · exact V.2.2 q h
      · exact hL q h⟩
  have hal : t.vm.Alike s.vm := by rw [← e2]; exact X'.warmed.alike.symm
  have k2 := k r n' sh' h' q2 l D cA φ n0 p e s m args below meth c K N T'.heap (locs ++ L') (cells + kc') (slots + ks') ls0 E (by rw [e1]; exact q3) (q4.moved hal (fun _ _ => by rw [e1])) V' L (by omega) (by omega)
  have e3 : (r.toList ++ st).map (zrv φ) = v.toList ++ st.map (zrv φ) := by rw [hv]; cases r <;> simp
  rw [e3] at k2
  obtain ⟨t2, a1, b1⟩ := k2 T' rfl X'
  exact ⟨t2, hgo t2 a1, b1⟩
theorem zpre {D : va_G} {cA : Nat → ClassId} {φ : Int → Nat} {n0 : Nat} {av : List zV} {s : State} {H : Heap} {locs : List Loc} (S : zSim D cA φ n0 n sh h H) (X : zX φ n0 sh h s H) (C : zC D cA φ n0 s) (V : va_S (zA n0) s.heap H locs) : PreS s H (fun v U => v = (av.map (zrv φ)).toArray ∧ zSim D cA φ n0 n sh h U.heap ∧ zX φ n0 sh h U U.heap ∧ zC D cA φ n0 U) (av.map (zrv φ)) := by
  refine ⟨fun a U g mk q => ?_, fun U hU hW => ?_⟩
  · obtain ⟨q1, q2, q3, q4⟩ := q
    exact ⟨q1, q2, q3.moved (U := U.calling g mk a) (Vm.Alike.refl U.vm) (fun _ _ => rfl), q4.same (U := U.calling g mk a) rfl rfl⟩
  · exact ⟨rfl, by rw [hU]; exact S, by rw [hU]; exact X.moved hW.alike (fun _ _ => rfl), C.warm hW (fun q h1 h2 => by rw [hU]; exact V.2.1 q h1 h2)⟩
theorem zcallB {own : String} {idx : Nat} {y' : MethodName} {cc' : ByteArray} {mL' : Nat} {rt' : Option FieldType} {na K N kc' ks' : Nat} {s : State} {args : Array Value} (hl : zML own idx y' cc' mL' rt' na) (hts : ∀ w ∈ zTb, w.before args s = true) : CallB (zRoom (d + 1) K N) s args own idx y' cc' mL' rt' (.code y' cc' mL' rt' :: zTb) (zRoom d kc' ks') kc' ks' na := by
  obtain ⟨h1, h2, h3, h4, h5, h6⟩ := hl
  refine ⟨rfl, rfl, Nat.le_refl _, by show 8 + (mL' + 11) + 64 * d ≤ 64 * (d + 1); omega, fun w hw a' U hW => ?_, List.mem_cons_self, hts _ h2, hts _ h3, h4, fun sig hs => ?_, hts _ h1⟩
  · have hw2 : w ∈ zTb := by rcases List.mem_cons.mp hw with rfl | hw; exact h2; exact hw
    exact word_at hW (zTb_good w hw2) (hts w hw2)
  · rw [hs] at h5; exact (Option.some.inj h5).symm
theorem zcallN {own host : String} {idx : Nat} {y' : MethodName} {cc' : ByteArray} {mL' : Nat} {rt' : Option FieldType} {na K N kc' ks' : Nat} {s : State} {args : Array Value} {D : va_G} {cA : Nat → ClassId} {φ : Int → Nat} {n0 : Nat} (hl : zMN own idx y' host cc' mL' rt' na) (hts : ∀ w ∈ zTb, w.before args s = true) (C : zC D cA φ n0 s) : va_CN (zRoom (d + 1) K N) s args own idx y' host cc' mL' rt' (.code y' cc' mL' rt' :: zTb) (zRoom d kc' ks') kc' ks' na := by
  obtain ⟨h1, h2, h3, h4, h5, h6⟩ := hl
  exact va_cnB na hts (fun w hw => by rcases List.mem_cons.mp hw with rfl | hw; exact ⟨h2, zTb_good _ h2⟩; exact ⟨hw, zTb_good w hw⟩) rfl rfl rfl (C.2.1 _ h1) (hts _ h3) ⟨h4.1, h4.2, h5⟩ ⟨Nat.le_refl _, by show 8 + (mL' + 11) + 64 * d ≤ 64 * (d + 1); omega⟩
theorem zg_callS {idx : Nat} {y' : MethodName} {cc' : ByteArray} {mL' : Nat} {rt' : Option FieldType} {na kc' ks' : Nat} {Q' : Option zV → Nat → zSh → zMem → Prop} {av : List zV} (hd : decode cc pc = .ok (.invokestatic idx, 3)) (hl : zML y.cls idx y' cc' mL' rt' na) (hst : Cond.static y' ∈ zTb) (ha : av.length = na) (hw : zws st ≤ 8) (M : zM y' cc' mL' rt' d kc' ks' av n sh h Q') (k : ∀ r n' sh' h', Q' r n' sh' h' → zT y cc mL rt (d + 1) kc ks Q (pc + 3) ls (r.toList ++ st) n' sh' h') : zT y cc mL rt (d + 1) (kc + kc') (ks + ks') Q pc ls (av.reverse ++ st) n sh h := by
  intro l D cA φ n0 p e s m args below meth c K N H locs cells slots ls0 E S X V L c1 c2
  have hts := E.2.2.2.2.1
  have C := E.2.2.2.2.2.2.2.2.1
  have hg : (av.reverse ++ st).map (zrv φ) = (av.map (zrv φ)).reverse ++ st.map (zrv φ) := by simp
  exact zback E V L c1 c2 (va_runS (As := av.map (zrv φ)) (rest := st.map (zrv φ)) ⟨E.1, E.2.1, E.2.2.1, E.2.2.2.1, hts⟩ (M l D cA φ n0 E.2.2.2.2.2.2.2.2.2) ⟨(zcallB hl hts), hts _ hst⟩ (zpre S X C V) rfl (by rw [List.length_map]; exact ha) L.1 hg (lv_room (by rw [zws_cat]; exact hw)) hd ⟨by show cells + kc' ≤ K; omega, by show slots + ks' ≤ N; omega⟩) k
theorem zg_callSN {idx : Nat} {y' : MethodName} {cc' : ByteArray} {mL' : Nat} {rt' : Option FieldType} {na kc' ks' : Nat} {Q' : Option zV → Nat → zSh → zMem → Prop} {host : String} {av : List zV} (hd : decode cc pc = .ok (.invokestatic idx, 3)) (hl : zMN y.cls idx y' host cc' mL' rt' na) (hst : Cond.static y' ∈ zTb) (ha : av.length = na) (hw : zws st ≤ 8) (M : zM y' cc' mL' rt' d kc' ks' av n sh h Q') (k : ∀ r n' sh' h', Q' r n' sh' h' → zT y cc mL rt (d + 1) kc ks Q (pc + 3) ls (r.toList ++ st) n' sh' h') : zT y cc mL rt (d + 1) (kc + kc') (ks + ks') Q pc ls (av.reverse ++ st) n sh h := by
  intro l D cA φ n0 p e s m args below meth c K N H locs cells slots ls0 E S X V L c1 c2
  have hts := E.2.2.2.2.1
  have C := E.2.2.2.2.2.2.2.2.1
  have hg : (av.reverse ++ st).map (zrv φ) = (av.map (zrv φ)).reverse ++ st.map (zrv φ) := by simp
  exact zback E V L c1 c2 (va_runSN (As := av.map (zrv φ)) (rest := st.map (zrv φ)) ⟨E.1, E.2.1, E.2.2.1, E.2.2.2.1, hts⟩ (M l D cA φ n0 E.2.2.2.2.2.2.2.2.2) ⟨(zcallN hl hts C), hts _ hst, trivial⟩ (zpre S X C V) rfl (by rw [List.length_map]; exact ha) L.1 hg (lv_room (by rw [zws_cat]; exact hw)) hd ⟨by show cells + kc' ≤ K; omega, by show slots + ks' ≤ N; omega⟩) k
theorem zg_callV {idx : Nat} {y' : MethodName} {cc' : ByteArray} {mL' : Nat} {rt' : Option FieldType} {na kc' ks' : Nat} {Q' : Option zV → Nat → zSh → zMem → Prop} {av : List zV} {b : Int} {ci N0 : Nat} (hd : decode cc pc = .ok (.invokevirtual idx, 3)) (hl : zML y.cls idx y' cc' mL' rt' na) (hin : Cond.instanceMethod y' ∈ zTb ∧ Cond.selects (zRR ci) y' y' ∈ zTb) (hs : sh b = (ci, N0)) (hci : ci < 12) (ha : av.length = na) (hw : zws st ≤ 8) (M : zM y' cc' mL' rt' d kc' ks' ((2, b) :: av) n sh h Q') (k : ∀ r n' sh' h', Q' r n' sh' h' → zT y cc mL rt (d + 1) kc ks Q (pc + 3) ls (r.toList ++ st) n' sh' h') : zT y cc mL rt (d + 1) (kc + kc') (ks + ks') Q pc ls (av.reverse ++ (2, b) :: st) n sh h := by
  intro l D cA φ n0 p e s m args below meth c K N H locs cells slots ls0 E S X V L c1 c2
  have hts := E.2.2.2.2.1
  have C := E.2.2.2.2.2.2.2.2.1
  obtain ⟨i, rfl, hi⟩ := S.adr (a := b) (by rw [hs]; show ci < 106; omega)
  have e1 : zrv φ (2, (i : Int)) = .ref (n0 + i) := zref E.2.2.2.2.2.2.2.2.2 i
  obtain ⟨-, -, b3⟩ := S.2.2 i hi
  rw [hs] at b3
  unfold zAt at b3
  rw [if_pos (show ci < 100 by omega)] at b3
  obtain ⟨cellV, g1, g2, g3, -⟩ := b3.2
  obtain ⟨hc, -⟩ := zcls ci hci
  have hcls := (C.1.1 ci _ hc).2
  have hg : (av.reverse ++ (2, (i : Int)) :: st).map (zrv φ) = (av.map (zrv φ)).reverse ++ .ref (n0 + i) :: st.map (zrv φ) := by rw [← e1]; simp
  have hp := zpre (av := (2, (i : Int)) :: av) S X C V
  have hp2 : PreV s H (zRR ci) (n0 + i) (fun v U => v = ((((2, (i : Int)) :: av)).map (zrv φ)).toArray ∧ zSim D cA φ n0 n sh h U.heap ∧ zX φ n0 sh h U U.heap ∧ zC D cA φ n0 U) (av.map (zrv φ)) := by
    refine ⟨hp.1, ⟨cellV, g1, by rw [g3]; rfl, by rw [g2]; exact hcls.1⟩, fun U hU hW => ?_⟩
    have h9 := hp.2 U hU hW
    exact ⟨by rw [List.map_cons, e1], h9.2⟩
  exact zback E V L c1 c2 (va_runV (As := av.map (zrv φ)) (rest := st.map (zrv φ)) ⟨E.1, E.2.1, E.2.2.1, E.2.2.2.1, hts⟩ (M l D cA φ n0 E.2.2.2.2.2.2.2.2.2) ⟨(zcallB hl hts), hts _ hin.1, hts _ hin.2⟩ hp2 rfl (by rw [List.length_map]; exact ha) L.1 hg (lv_room (by rw [zws_cat]; exact hw)) hd ⟨by show cells + kc' ≤ K; omega, by show slots + ks' ≤ N; omega⟩) k
theorem zg_callI {idx : Nat} {y' : MethodName} {cc' : ByteArray} {mL' : Nat} {na kc' ks' : Nat} {Q' : Option zV → Nat → zSh → zMem → Prop} {av : List zV} {b : Int} (hd : decode cc pc = .ok (.invokespecial idx, 3)) (hl : zML y.cls idx y' cc' mL' none na) (hin : y'.name = "<init>" ∧ Cond.instanceMethod y' ∈ zTb) (hs : (sh b).1 < 106) (ha : av.length = na) (hw : zws st ≤ 8) (M : zM y' cc' mL' none d kc' ks' ((2, b) :: av) n sh h Q') (k : ∀ r n' sh' h', Q' r n' sh' h' → zT y cc mL rt (d + 1) kc ks Q (pc + 3) ls (r.toList ++ st) n' sh' h') : zT y cc mL rt (d + 1) (kc + kc') (ks + ks') Q pc ls (av.reverse ++ (2, b) :: st) n sh h := by
  intro l D cA φ n0 p e s m args below meth c K N H locs cells slots ls0 E S X V L c1 c2
  have hts := E.2.2.2.2.1
  have C := E.2.2.2.2.2.2.2.2.1
  obtain ⟨i, rfl, hi⟩ := S.adr (a := b) hs
  have e1 : zrv φ (2, (i : Int)) = .ref (n0 + i) := zref E.2.2.2.2.2.2.2.2.2 i
  have hg : (av.reverse ++ (2, (i : Int)) :: st).map (zrv φ) = (av.map (zrv φ)).reverse ++ .ref (n0 + i) :: st.map (zrv φ) := by rw [← e1]; simp
  have hp := zpre (av := (2, (i : Int)) :: av) S X C V
  have hp2 : PreS s H (fun v U => v = ((((2, (i : Int)) :: av)).map (zrv φ)).toArray ∧ zSim D cA φ n0 n sh h U.heap ∧ zX φ n0 sh h U U.heap ∧ zC D cA φ n0 U) (.ref (n0 + i) :: av.map (zrv φ)) := by
    refine ⟨hp.1, fun U hU hW => ?_⟩
    have h9 := hp.2 U hU hW
    exact ⟨by rw [List.map_cons, e1], h9.2⟩
  exact zback E V L c1 c2 (va_runI (As := av.map (zrv φ)) (rest := st.map (zrv φ)) ⟨E.1, E.2.1, E.2.2.1, E.2.2.2.1, hts⟩ (M l D cA φ n0 E.2.2.2.2.2.2.2.2.2) ⟨(zcallB hl hts), hin.1, hts _ hin.2⟩ hp2 rfl (by rw [List.length_map]; exact ha) L.1 hg (lv_room (by rw [zws_cat]; exact hw)) hd ⟨by show cells + kc' ≤ K; omega, by show slots + ks' ≤ N; omega⟩) k
theorem zg_callIN {idx : Nat} {y' : MethodName} {cc' : ByteArray} {mL' : Nat} {na kc' ks' : Nat} {Q' : Option zV → Nat → zSh → zMem → Prop} {host : String} {av : List zV} {b : Int} (hd : decode cc pc = .ok (.invokespecial idx, 3)) (hl : zMN y.cls idx y' host cc' mL' none na) (hin : y'.name = "<init>" ∧ Cond.instanceMethod y' ∈ zTb) (hs : (sh b).1 < 106) (ha : av.length = na) (hw : zws st ≤ 8) (M : zM y' cc' mL' none d kc' ks' ((2, b) :: av) n sh h Q') (k : ∀ r n' sh' h', Q' r n' sh' h' → zT y cc mL rt (d + 1) kc ks Q (pc + 3) ls (r.toList ++ st) n' sh' h') : zT y cc mL rt (d + 1) (kc + kc') (ks + ks') Q pc ls (av.reverse ++ (2, b) :: st) n sh h := by
  intro l D cA φ n0 p e s m args below meth c K N H locs cells slots ls0 E S X V L c1 c2
  have hts := E.2.2.2.2.1
  have C := E.2.2.2.2.2.2.2.2.1
  obtain ⟨i, rfl, hi⟩ := S.adr (a := b) hs
  have e1 : zrv φ (2, (i : Int)) = .ref (n0 + i) := zref E.2.2.2.2.2.2.2.2.2 i
  have hg : (av.reverse ++ (2, (i : Int)) :: st).map (zrv φ) = (av.map (zrv φ)).reverse ++ .ref (n0 + i) :: st.map (zrv φ) := by rw [← e1]; simp
  have hp := zpre (av := (2, (i : Int)) :: av) S X C V
  have hp2 : PreS s H (fun v U => v = ((((2, (i : Int)) :: av)).map (zrv φ)).toArray ∧ zSim D cA φ n0 n sh h U.heap ∧ zX φ n0 sh h U U.heap ∧ zC D cA φ n0 U) (.ref (n0 + i) :: av.map (zrv φ)) := by
    refine ⟨hp.1, fun U hU hW => ?_⟩
    have h9 := hp.2 U hU hW
    exact ⟨by rw [List.map_cons, e1], h9.2⟩
  exact zback E V L c1 c2 (va_runIN (As := av.map (zrv φ)) (rest := st.map (zrv φ)) ⟨E.1, E.2.1, E.2.2.1, E.2.2.2.1, hts⟩ (M l D cA φ n0 E.2.2.2.2.2.2.2.2.2) ⟨(zcallN hl hts C), hin.1, hts _ hin.2⟩ hp2 rfl (by rw [List.length_map]; exact ha) L.1 hg (lv_room (by rw [zws_cat]; exact hw)) hd ⟨by show cells + kc' ≤ K; omega, by show slots + ks' ≤ N; omega⟩) k
end zRules8
