abbrev zMem : Type := Int → Int → Int
abbrev zSh : Type := Int → Nat × Nat
abbrev zV : Type := Nat × Int
/-- which kind of value a field of a class holds: 0 int, 1 long, 2 reference, 3 boolean -/
def zftT : List (List Nat) := [[2, 2, 0], [0, 0, 2, 2, 2, 2, 0], [0, 2, 2, 2, 2, 2], [0, 0, 2, 2, 2, 2, 2, 2, 2], [2, 0, 2, 0, 0, 0, 0], [2, 2], [0, 0, 0, 2, 2, 0, 2, 0, 2, 2, 1, 2], [2], [0, 2, 2, 2, 2, 2, 2, 2, 2, 2, 2, 3, 0, 0], [2, 0], [2, 2, 2, 2, 2, 2, 2, 2, 2, 2, 0, 0, 0, 0], [2, 0, 0, 0, 0, 0, 2, 0, 0, 2, 2, 0, 0, 2, 2, 2, 0, 0, 2, 2, 0, 0, 2, 2, 2, 2, 2, 2, 2, 2, 2, 2, 2, 0, 2, 2, 2, 0, 2, 2, 2, 2, 2, 2, 0, 0, 0, 2, 2, 2, 0, 2, 2, 2, 0, 2, 2, 2, 2, 2, 2, 0, 0, 0]]
def zft (c j : Nat) : Nat := (zftT.getD c []).getD j 0
/-- the String constants: class, place in its pool, text -/
def zStrs : List (String × Nat × String) := [("TableHouse$Parser", 108, "x"), ("TableHouse$Parser", 114, "root"), ("TableHouse$Parser", 116, "cut"), ("TableHouse$Parser", 118, "least"), ("TableHouse$Parser", 120, "most"), ("TableHouse$Parser", 122, "if"), ("TableHouse$Parser", 124, "then"), ("TableHouse$Parser", 126, "else"), ("TableHouse$Parser", 93, "+-*/(),<>="), ("TableHouseModel", 147, " x root cut least most if then else ")]
def zStrB : List (List Int32) := [[120], [114, 111, 111, 116], [99, 117, 116], [108, 101, 97, 115, 116], [109, 111, 115, 116], [105, 102], [116, 104, 101, 110], [101, 108, 115, 101], [43, 45, 42, 47, 40, 41, 44, 60, 62, 61], [32, 120, 32, 114, 111, 111, 116, 32, 99, 117, 116, 32, 108, 101, 97, 115, 116, 32, 109, 111, 115, 116, 32, 105, 102, 32, 116, 104, 101, 110, 32, 101, 108, 115, 101, 32]]
def zStrL : List Nat := [1, 4, 3, 5, 4, 2, 4, 4, 10, 36]
def zNest : List (String × Nat × MethodName × String) := [("TableHouse", 9, ⟨"TableHouse$Text", "<init>", "()V"⟩, "TableHouse"), ("TableHouse", 27, ⟨"TableHouse$Calculator", "<init>", "()V"⟩, "TableHouse"), ("TableHouse", 46, ⟨"TableHouse$Hands", "<init>", "()V"⟩, "TableHouse"), ("TableHouse", 53, ⟨"TableHouse$Engine", "<init>", "()V"⟩, "TableHouse"), ("TableHouse", 60, ⟨"TableHouse$Planner", "<init>", "()V"⟩, "TableHouse"), ("TableHouse", 67, ⟨"TableHouse$Row", "<init>", "()V"⟩, "TableHouse"), ("TableHouse", 74, ⟨"TableHouse$Errata", "<init>", "()V"⟩, "TableHouse"), ("TableHouse$Calculator", 54, ⟨"TableHouse", "tenTo", "(I)I"⟩, "TableHouse"), ("TableHouse$Calculator", 58, ⟨"TableHouse", "nearest", "(JJ)J"⟩, "TableHouse"), ("TableHouse$Hands", 40, ⟨"TableHouse", "tenTo", "(I)I"⟩, "TableHouse"), ("TableHouse$Planner", 53, ⟨"TableHouse", "shown", "(J)I"⟩, "TableHouse"), ("TableHouse$Row", 128, ⟨"TableHouse", "nearest", "(JJ)J"⟩, "TableHouse"), ("TableHouse$Table", 108, ⟨"TableHouse", "tenTo", "(I)I"⟩, "TableHouse")]
def zup (h : zMem) (a j z : Int) : zMem := fun x y => if x = a ∧ y = j then z else h x y
def zrv (φ : Int → Nat) : zV → Value
  | (0, z) => .int (Int32.ofInt z)
  | (1, z) => .long (Int64.ofInt z)
  | (_, z) => if z = -1 then .null else .ref (φ z)
/-- the kind of a value on the stack, of a field's kind -/
def zmt : Nat → Nat
  | 3 => 0
  | t => t
abbrev zi32 (z : Int) : Prop := -2147483648 ≤ z ∧ z ≤ 2147483647
abbrev zi64 (z : Int) : Prop := -9223372036854775808 ≤ z ∧ z ≤ 9223372036854775807
def zok : Nat → Int → Prop
  | 0, z => zi32 z
  | 1, z => zi64 z
  | 3, z => z = 0 ∨ z = 1
  | 4, z => -128 ≤ z ∧ z ≤ 127
  | _, _ => True
/-- an array's elements: the kind that zok speaks of -/
def zak : Nat → Nat
  | 100 => 0
  | 101 => 1
  | 102 => 4
  | 103 => 3
  | _ => 2
/-- an array's elements: the kind on the stack -/
def zat : Nat → Nat
  | 100 => 0
  | 101 => 1
  | 102 => 0
  | 103 => 0
  | _ => 2
def zRg (s : Nat × Nat) (g : Int → Int) : Prop := ∀ j : Nat, j < s.2 → if s.1 < 100 then zok (zft s.1 j) (g j) else zok (zak s.1) (g j)
def zAt (D : va_G) (cA : Nat → ClassId) (φ : Int → Nat) (s : Nat × Nat) (g : Int → Int) (q : Nat) (H : Heap) : Prop :=
  if s.1 < 100 then (∃ r : vw_C, vwCl[s.1]? = some r ∧ r.2.2 = s.2) ∧ t_OB q (D.1 s.1) s.2 (D.2 s.1) H (fun j => zrv φ (zmt (zft s.1 j), g j))
  else H[q]? = some (arrV (cA (s.1 - 100)) s.2 (fun j => zrv φ (zat s.1, g j)))
def zSim (D : va_G) (cA : Nat → ClassId) (φ : Int → Nat) (n0 n : Nat) (sh : zSh) (h : zMem) (H : Heap) : Prop :=
  H.size = n0 + n ∧ (∀ a : Int, a < 0 ∨ (n : Int) ≤ a → 150 ≤ (sh a).1) ∧ ∀ k : Nat, k < n → (sh k).1 < 106 ∧ zRg (sh k) (h k) ∧ zAt D cA φ (sh k) (h k) (n0 + k) H
def zA (n0 : Nat) : Nat → Prop := fun q => n0 ≤ q
/-- the script, read only -/
def zX (φ : Int → Nat) (n0 : Nat) (sh : zSh) (h : zMem) (U : State) (H : Heap) : Prop :=
  ∀ L : Nat, sh (-1000) = (160, L) → φ (-1000) < n0 ∧ (∀ k : Nat, k < L → zi32 (h (-1000) k)) ∧ va_X (φ (-1000)) L (fun k => Int32.ofInt (h (-1000) k)) U H
def zty (cA : Nat → ClassId) : List (ClassId × FieldType) := [(cA 0, .int), (cA 1, .long), (cA 2, .byte), (cA 3, .boolean), (cA 4, .object RX7), (cA 5, .object RX8)]
/-- what stays the same all the time: classes, links, String constants, statics -/
def zC (D : va_G) (cA : Nat → ClassId) (φ : Int → Nat) (n0 : Nat) (U : State) : Prop :=
  va_K D vwCl (zty cA) U ∧ (∀ q ∈ zNest, va_Nw (.methodLinkNest q.1 q.2.1 q.2.2.1 q.2.2.2) U) ∧ va_AO RX7 U ∧ va_AO RX8 U ∧
  vk_S 10 zStrL zStrB (fun i => φ (-(2 + 2 * (i : Int)))) (fun i => φ (-(3 + 2 * (i : Int)))) (zA n0) U U.heap ∧
  (∀ i : Nat, i < 10 → vk_R (zStrs.getD i ("", 0, "")).1 (zStrs.getD i ("", 0, "")).2.1 (zStrs.getD i ("", 0, "")).2.2 (φ (-(2 + 2 * (i : Int)))) U) ∧
  va_Z "java/lang/String" "COMPACT_STRINGS" "Z" (.int 1) (zA n0) U U.heap ∧
  ∃ z : Int, (z = -1 ∨ z = -900) ∧ va_Z "jdk/internal/util/Preconditions" "SIOOBE_FORMATTER" "Ljava/util/function/BiFunction;" (zrv φ (2, z)) (zA n0) U U.heap
def zTb : List Cond := lw_tbl.filter goodWord
def zRoom (d K N : Nat) : Room := { frames := d, cells := K, slots := N, locals := 64 * d }
def zQ (D : va_G) (cA : Nat → ClassId) (φ : Int → Nat) (n0 : Nat) (Q : Option zV → Nat → zSh → zMem → Prop) : Array Value → State → Outcome → State → Prop := fun _ st oc t =>
  (∃ (r : Option zV) (n : Nat) (sh : zSh) (h : zMem), oc = .returned (r.map (zrv φ)) ∧ Q r n sh h ∧ zSim D cA φ n0 n sh h t.heap ∧ zX φ n0 sh h t t.heap) ∧ va_F (zA n0) st t
def zLv (φ : Int → Nat) (ls0 : Array Slot) (mL : Nat) (ls : List (Option zV)) : Prop := ls0.size = mL ∧ lv_wf ls0 ∧ ∀ (i : Nat) (v : zV), ls[i]? = some (some v) → ls0[i]? = some (.val (zrv φ v))
def zEnv (y : MethodName) (cc : ByteArray) (mL : Nat) (rt : Option FieldType) (D : va_G) (cA : Nat → ClassId) (φ : Int → Nat) (n0 : Nat) (p : Program) (s : State) (m : MethodId) (args : Array Value) (meth : Method) (c : Code) : Prop :=
  p.tables.exec = Jvm.exec ∧ c.code = cc ∧ c.maxLocals = mL ∧ s.vm.findClass y.cls = some m.cls ∧ (∀ w ∈ zTb, w.before args s = true) ∧ meth.sig.returnType = rt ∧ meth.locks = false ∧ meth.name = y.name ∧ zC D cA φ n0 s ∧ ∀ k : Nat, φ (k : Int) = n0 + k
/-- THE JUDGEMENT: from pc with these locals, this stack and this memory the method returns, with Q of answer and memory; d frames, kc cells and ks slots are left -/
def zT (y : MethodName) (cc : ByteArray) (mL : Nat) (rt : Option FieldType) (d kc ks : Nat) (Q : Option zV → Nat → zSh → zMem → Prop) (pc : Nat) (ls : List (Option zV)) (st : List zV) (n : Nat) (sh : zSh) (h : zMem) : Prop :=
  ∀ (l : Launch) (D : va_G) (cA : Nat → ClassId) (φ : Int → Nat) (n0 : Nat) (p : Program) (e : Env) (s : State) (m : MethodId) (args : Array Value) (below : List Frame) (meth : Method) (c : Code) (K N : Nat) (H : Heap) (locs : List Loc) (cells slots : Nat) (ls0 : Array Slot),
    zEnv y cc mL rt D cA φ n0 p s m args meth c → zSim D cA φ n0 n sh h H → zX φ n0 sh h s H → va_S (zA n0) s.heap H locs → zLv φ ls0 mL ls → cells + kc ≤ K → slots + ks ≤ N →
    W p l e (zRoom d K N) s m args below meth c H locs cells slots (MQ below (zQ D cA φ n0 Q) args s K N (zA n0)) (F0 m pc ls0 (st.map (zrv φ)))
/-- a method's contract -/
def zM (y : MethodName) (cc : ByteArray) (mL : Nat) (rt : Option FieldType) (d kc ks : Nat) (av : List zV) (n : Nat) (sh : zSh) (h : zMem) (Q : Option zV → Nat → zSh → zMem → Prop) : Prop :=
  ∀ (l : Launch) (D : va_G) (cA : Nat → ClassId) (φ : Int → Nat) (n0 : Nat), (∀ k : Nat, φ (k : Int) = n0 + k) →
    Met l y (.code y cc mL rt :: zTb) (zRoom d kc ks) (fun v U => v = (av.map (zrv φ)).toArray ∧ zSim D cA φ n0 n sh h U.heap ∧ zX φ n0 sh h U U.heap ∧ zC D cA φ n0 U) (zQ D cA φ n0 Q) kc ks (zA n0)
/-- the locals at the entry -/
def zent : List zV → List (Option zV)
  | [] => []
  | v :: r => if v.1 = 1 then some v :: none :: zent r else some v :: zent r
theorem zTb_in {w : Cond} (h : w ∈ lw_tbl) (g : goodWord w = true) : w ∈ zTb := List.mem_filter.mpr ⟨h, g⟩
theorem zrv_cat (φ : Int → Nat) (v : zV) : (zrv φ v).category = if v.1 = 1 then 2 else 1 := by
  obtain ⟨t, z⟩ := v
  match t with
  | 0 => rfl
  | 1 => rfl
  | t + 2 =>
    show (if z = -1 then Value.null else .ref (φ z)).category = _
    split <;> rfl
theorem zlv_entry (φ : Int → Nat) : ∀ (av : List zV) (pre : List Slot) (i : Nat) (v : zV), (zent av)[i]? = some (some v) → (pre ++ lg_sl (av.map (zrv φ)))[pre.length + i]? = some (.val (zrv φ v))
  | [], _, _, _, h => by simp [zent] at h
  | w :: r, pre, i, v, h => by
    have hc := zrv_cat φ w
    unfold zent at h
    by_cases hw : w.1 = 1
    · rw [if_pos hw] at h hc
      have e1 : lg_sl ((w :: r).map (zrv φ)) = [.val (zrv φ w), .second] ++ lg_sl (r.map (zrv φ)) := by simp [lg_sl, hc]
      match i, h with
      | 0, h => cases h; simp [lg_sl, hc]
      | 1, h => simp at h
      | i + 2, h =>
        have := zlv_entry φ r (pre ++ [.val (zrv φ w), .second]) i v (by simpa using h)
        rw [e1, ← List.append_assoc, show pre.length + (i + 2) = (pre ++ [Slot.val (zrv φ w), .second]).length + i by simp; omega]
        exact this
    · rw [if_neg hw] at h hc
      have e1 : lg_sl ((w :: r).map (zrv φ)) = [.val (zrv φ w)] ++ lg_sl (r.map (zrv φ)) := by simp [lg_sl, hc]
      match i, h with
      | 0, h => cases h; simp [lg_sl, hc]
      | i + 1, h =>
        have := zlv_entry φ r (pre ++ [.val (zrv φ w)]) i v (by simpa using h)
        rw [e1, ← List.append_assoc, show pre.length + (i + 1) = (pre ++ [Slot.val (zrv φ w)]).length + i by simp; omega]
        exact this
theorem zC.warm {D : va_G} {cA : Nat → ClassId} {φ : Int → Nat} {n0 : Nat} {s U : State} (h : zC D cA φ n0 s) (hW : s.WarmedH U.vm) (hq : ∀ a : Nat, a < s.heap.size → ¬ zA n0 a → U.heap[a]? = s.heap[a]?) : zC D cA φ n0 U := by
  obtain ⟨h1, h2, h3, h4, h5, h6, h7, z, hz, h8⟩ := h
  exact ⟨h1.moved hW.alike, fun q hq => (h2 q hq).warmM hW, h3.moved hW.alike, h4.moved hW.alike, (h5.moved hW.alike).kept hq, fun i hi => (h6 i hi).warm hW, (h7.moved hW.alike).kept hq, z, hz, (h8.moved hW.alike).kept hq⟩
theorem zC.same {D : va_G} {cA : Nat → ClassId} {φ : Int → Nat} {n0 : Nat} {s U : State} (h : zC D cA φ n0 s) (hv : U.vm = s.vm) (hh : U.heap = s.heap) : zC D cA φ n0 U := by
  obtain ⟨h1, h2, h3, h4, h5, h6, h7, z, hz, h8⟩ := h
  have hA : s.vm.Alike U.vm := by rw [hv]; exact Vm.Alike.refl _
  refine ⟨h1.moved hA, fun q hq => (h2 q hq).same rfl hv.symm, h3.moved hA, h4.moved hA, ?_, fun i hi => (h6 i hi).same hv, ?_, z, hz, ?_⟩
  · rw [hh]; exact h5.moved hA
  · rw [hh]; exact h7.moved hA
  · rw [hh]; exact h8.moved hA
theorem zX.moved {φ : Int → Nat} {n0 : Nat} {sh : zSh} {h : zMem} {u U : State} {H H1 : Heap} (hx : zX φ n0 sh h u H) (hvm : u.vm.Alike U.vm) (hq : ∀ a : Nat, a < n0 → H1[a]? = H[a]?) : zX φ n0 sh h U H1 := fun L hL => by
  obtain ⟨a1, a2, a3⟩ := hx L hL
  exact ⟨a1, a2, (a3.moved hvm).kept (hq _ a1)⟩
theorem zM.ofT {y : MethodName} {cc : ByteArray} {mL : Nat} {rt : Option FieldType} {d kc ks : Nat} {av : List zV} {n : Nat} {sh : zSh} {h : zMem} {Q : Option zV → Nat → zSh → zMem → Prop}
    (hy : plainName y.cls = true) (ls : List (Option zV)) (hl : ls = zent av) (hn : (zent av).length ≤ mL) (k : zT y cc mL rt d kc ks Q 0 ls [] n sh h) : zM y cc mL rt d kc ks av n sh h Q := by
  intro l D cA φ n0 hφ
  refine Met.ofW (cc := cc) (maxL := mL) (ret := rt) hy rfl ?_
  intro p e s m args below meth c s₁ B hml hv
  obtain ⟨rfl, hS, hX, hC⟩ := hv
  have hts := atoms_spec (ws := .code y cc mL rt :: zTb) B.pre
  have hlen : ∀ av : List zV, (lg_sl (av.map (zrv φ))).length = (zent av).length := by
    intro av
    induction av with
    | nil => rfl
    | cons w r ih =>
      have hc := zrv_cat φ w
      have e0 : lg_sl ((w :: r).map (zrv φ)) = (if (zrv φ w).category = 2 then [.val (zrv φ w), .second] else [.val (zrv φ w)]) ++ lg_sl (r.map (zrv φ)) := by simp [lg_sl]
      rw [e0]
      unfold zent
      by_cases hw : w.1 = 1
      · rw [if_pos hw] at hc ⊢; rw [hc]; simp [ih]
      · rw [if_neg hw] at hc ⊢; rw [hc]; simp [ih]
  rw [lg_entry_eq]
  have hl0 := lv_entry (av.map (zrv φ)) (n := mL) (by rw [hlen]; exact hn)
  refine k l D cA φ n0 p e s m _ below meth c kc ks s.heap [] 0 0 _ ⟨B.exec, B.bytes, hml, findClass_of_methodNamed B.named, fun w hw => hts w (List.mem_cons_of_mem _ hw), B.returns, B.notSynchronized, (name_of_methodNamed B.named B.method).1, hC, hφ⟩ hS hX va_S.rf ⟨hl0.1, hl0.2.1, fun i v hi => ?_⟩ (by omega) (by omega)
  rw [hl] at hi
  have h2 := zlv_entry φ av [] i v hi
  simp only [List.nil_append, List.length_nil, Nat.zero_add] at h2
  rw [List.getElem?_toArray, List.getElem?_append_left (List.getElem?_eq_some_iff.mp h2).1]
  exact h2
section zRules
variable {y : MethodName} {cc : ByteArray} {mL : Nat} {rt : Option FieldType} {d kc ks : Nat} {Q : Option zV → Nat → zSh → zMem → Prop} {pc : Nat} {ls : List (Option zV)} {st : List zV} {n : Nat} {sh : zSh} {h : zMem}
/-- the ranges of what the memory holds -/
theorem zt_rng (k : (∀ (a : Int) (j : Nat), (sh a).1 < 106 → j < (sh a).2 → if (sh a).1 < 100 then zok (zft (sh a).1 j) (h a j) else zok (zak (sh a).1) (h a j)) → zT y cc mL rt d kc ks Q pc ls st n sh h) : zT y cc mL rt d kc ks Q pc ls st n sh h := by
  intro l D cA φ n0 p e s m args below meth c K N H locs cells slots ls0 E S X V L c1 c2
  refine k (fun a j ha hj => ?_) l D cA φ n0 p e s m args below meth c K N H locs cells slots ls0 E S X V L c1 c2
  have h1 : ¬ (a < 0 ∨ (n : Int) ≤ a) := fun q => by have := S.2.1 a q; omega
  obtain ⟨k, rfl⟩ : ∃ k : Nat, a = k := ⟨a.toNat, by omega⟩
  exact (S.2.2 k (by omega)).2.1 j hj
theorem zt_mono {Q' : Option zV → Nat → zSh → zMem → Prop} (hq : ∀ r n sh h, Q r n sh h → Q' r n sh h) (k : zT y cc mL rt d kc ks Q pc ls st n sh h) : zT y cc mL rt d kc ks Q' pc ls st n sh h := by
  intro l D cA φ n0 p e s m args below meth c K N H locs cells slots ls0 E S X V L c1 c2 T hT hX
  obtain ⟨t, a1, o, b1, b2, ⟨⟨r, n', sh', h', q1, q2, q3⟩, q4⟩, q5⟩ := k l D cA φ n0 p e s m args below meth c K N H locs cells slots ls0 E S X V L c1 c2 T hT hX
  exact ⟨t, a1, o, b1, b2, ⟨⟨r, n', sh', h', q1, hq _ _ _ _ q2, q3⟩, q4⟩, q5⟩
theorem zt_iconst {z : Int} (hd : decode cc pc = .ok (.iconst z, 1)) (k : zT y cc mL rt d kc ks Q (pc + 1) ls ((0, z) :: st) n sh h) : zT y cc mL rt d kc ks Q pc ls st n sh h := by
  intro l D cA φ n0 p e s m args below meth c K N H locs cells slots ls0 E S X V L c1 c2
  exact lv_iconst E.1 E.2.1 hd rfl (k l D cA φ n0 p e s m args below meth c K N H locs cells slots ls0 E S X V L c1 c2)
theorem zi8 {z : Int} (h : -128 ≤ z ∧ z ≤ 127) : (Int8.ofInt z).toInt32 = Int32.ofInt z := by
  apply Int32.toInt_inj.mp
  rw [Int8.toInt_toInt32, Int8.toInt_ofInt_of_le (by omega) (by omega), Int32.toInt_ofInt_of_le (by omega) (by omega)]
theorem zi16 {z : Int} (h : -32768 ≤ z ∧ z ≤ 32767) : (Int16.ofInt z).toInt32 = Int32.ofInt z := by
  apply Int32.toInt_inj.mp
  rw [Int16.toInt_toInt32, Int16.toInt_ofInt_of_le (by omega) (by omega), Int32.toInt_ofInt_of_le (by omega) (by omega)]
theorem zt_bipush {z : Int} (hd : decode cc pc = .ok (.bipush z, 2)) (hz : -128 ≤ z ∧ z ≤ 127) (k : zT y cc mL rt d kc ks Q (pc + 2) ls ((0, z) :: st) n sh h) : zT y cc mL rt d kc ks Q pc ls st n sh h := by
  intro l D cA φ n0 p e s m args below meth c K N H locs cells slots ls0 E S X V L c1 c2
  exact lv_bipush E.1 E.2.1 hd (zi8 hz) (k l D cA φ n0 p e s m args below meth c K N H locs cells slots ls0 E S X V L c1 c2)
theorem zt_sipush {z : Int} (hd : decode cc pc = .ok (.sipush z, 3)) (hz : -32768 ≤ z ∧ z ≤ 32767) (k : zT y cc mL rt d kc ks Q (pc + 3) ls ((0, z) :: st) n sh h) : zT y cc mL rt d kc ks Q pc ls st n sh h := by
  intro l D cA φ n0 p e s m args below meth c K N H locs cells slots ls0 E S X V L c1 c2
  exact lv_sipush E.1 E.2.1 hd (zi16 hz) (k l D cA φ n0 p e s m args below meth c K N H locs cells slots ls0 E S X V L c1 c2)
theorem zt_lconst {z : Fin 2} {v : Int} (hd : decode cc pc = .ok (.lconst z, 1)) (hv : (z : Nat) = v) (k : zT y cc mL rt d kc ks Q (pc + 1) ls ((1, v) :: st) n sh h) : zT y cc mL rt d kc ks Q pc ls st n sh h := by
  intro l D cA φ n0 p e s m args below meth c K N H locs cells slots ls0 E S X V L c1 c2
  exact lv_lconst E.1 E.2.1 hd (by rw [← hv]; rfl) (k l D cA φ n0 p e s m args below meth c K N H locs cells slots ls0 E S X V L c1 c2)
theorem zt_null (hd : decode cc pc = .ok (.aconst_null, 1)) (k : zT y cc mL rt d kc ks Q (pc + 1) ls ((2, -1) :: st) n sh h) : zT y cc mL rt d kc ks Q pc ls st n sh h := by
  intro l D cA φ n0 p e s m args below meth c K N H locs cells slots ls0 E S X V L c1 c2
  exact lv_null E.1 E.2.1 hd (k l D cA φ n0 p e s m args below meth c K N H locs cells slots ls0 E S X V L c1 c2)
theorem zt_ldc {idx : Nat} {z : Int} (hd : decode cc pc = .ok (.ldc idx, 2)) (hw : Cond.constant y.cls idx (Int32.ofInt z) ∈ zTb) (k : zT y cc mL rt d kc ks Q (pc + 2) ls ((0, z) :: st) n sh h) : zT y cc mL rt d kc ks Q pc ls st n sh h := by
  intro l D cA φ n0 p e s m args below meth c K N H locs cells slots ls0 E S X V L c1 c2
  exact lv_ldc E.1 E.2.1 E.2.2.2.1 (E.2.2.2.2.1 _ hw) hd (k l D cA φ n0 p e s m args below meth c K N H locs cells slots ls0 E S X V L c1 c2)
theorem zt_ldc_w {idx : Nat} {z : Int} (hd : decode cc pc = .ok (.ldc_w idx, 3)) (hw : Cond.constant y.cls idx (Int32.ofInt z) ∈ zTb) (k : zT y cc mL rt d kc ks Q (pc + 3) ls ((0, z) :: st) n sh h) : zT y cc mL rt d kc ks Q pc ls st n sh h := by
  intro l D cA φ n0 p e s m args below meth c K N H locs cells slots ls0 E S X V L c1 c2
  exact lv_ldcw E.1 E.2.1 E.2.2.2.1 (E.2.2.2.2.1 _ hw) hd (k l D cA φ n0 p e s m args below meth c K N H locs cells slots ls0 E S X V L c1 c2)
theorem zt_ldc2 {idx : Nat} {z : Int} (hd : decode cc pc = .ok (.ldc2_w idx, 3)) (hw : Cond.constantLong y.cls idx (Int64.ofInt z) ∈ zTb) (k : zT y cc mL rt d kc ks Q (pc + 3) ls ((1, z) :: st) n sh h) : zT y cc mL rt d kc ks Q pc ls st n sh h := by
  intro l D cA φ n0 p e s m args below meth c K N H locs cells slots ls0 E S X V L c1 c2
  exact lv_ldc2 E.1 E.2.1 E.2.2.2.1 (E.2.2.2.2.1 _ hw) hd (k l D cA φ n0 p e s m args below meth c K N H locs cells slots ls0 E S X V L c1 c2)
theorem zt_iload_n {i : Fin 4} {x : Int} (hd : decode cc pc = .ok (.iload_n i, 1)) (hl : ls[(i : Nat)]? = some (some (0, x))) (k : zT y cc mL rt d kc ks Q (pc + 1) ls ((0, x) :: st) n sh h) : zT y cc mL rt d kc ks Q pc ls st n sh h := by
  intro l D cA φ n0 p e s m args below meth c K N H locs cells slots ls0 E S X V L c1 c2
  exact lv_iload_n E.1 E.2.1 hd rfl (L.2.2 _ _ hl) (k l D cA φ n0 p e s m args below meth c K N H locs cells slots ls0 E S X V L c1 c2)
theorem zt_iload {i : Nat} {x : Int} (hd : decode cc pc = .ok (.iload i, 2)) (hl : ls[i]? = some (some (0, x))) (k : zT y cc mL rt d kc ks Q (pc + 2) ls ((0, x) :: st) n sh h) : zT y cc mL rt d kc ks Q pc ls st n sh h := by
  intro l D cA φ n0 p e s m args below meth c K N H locs cells slots ls0 E S X V L c1 c2
  exact lv_iload E.1 E.2.1 hd (L.2.2 _ _ hl) (k l D cA φ n0 p e s m args below meth c K N H locs cells slots ls0 E S X V L c1 c2)
theorem zt_lload_n {i : Fin 4} {x : Int} (hd : decode cc pc = .ok (.lload_n i, 1)) (hl : ls[(i : Nat)]? = some (some (1, x))) (k : zT y cc mL rt d kc ks Q (pc + 1) ls ((1, x) :: st) n sh h) : zT y cc mL rt d kc ks Q pc ls st n sh h := by
  intro l D cA φ n0 p e s m args below meth c K N H locs cells slots ls0 E S X V L c1 c2
  exact lv_lload_n E.1 E.2.1 hd rfl (L.2.2 _ _ hl) (k l D cA φ n0 p e s m args below meth c K N H locs cells slots ls0 E S X V L c1 c2)
theorem zt_lload {i : Nat} {x : Int} (hd : decode cc pc = .ok (.lload i, 2)) (hl : ls[i]? = some (some (1, x))) (k : zT y cc mL rt d kc ks Q (pc + 2) ls ((1, x) :: st) n sh h) : zT y cc mL rt d kc ks Q pc ls st n sh h := by
  intro l D cA φ n0 p e s m args below meth c K N H locs cells slots ls0 E S X V L c1 c2
  exact lv_lload E.1 E.2.1 hd (L.2.2 _ _ hl) (k l D cA φ n0 p e s m args below meth c K N H locs cells slots ls0 E S X V L c1 c2)
theorem zt_aload_n {i : Fin 4} {x : Int} (hd : decode cc pc = .ok (.aload_n i, 1)) (hl : ls[(i : Nat)]? = some (some (2, x))) (k : zT y cc mL rt d kc ks Q (pc + 1) ls ((2, x) :: st) n sh h) : zT y cc mL rt d kc ks Q pc ls st n sh h := by
  intro l D cA φ n0 p e s m args below meth c K N H locs cells slots ls0 E S X V L c1 c2
  have h1 := L.2.2 _ _ hl
  have h2 := k l D cA φ n0 p e s m args below meth c K N H locs cells slots ls0 E S X V L c1 c2
  by_cases hx : x = -1
  · subst hx; exact lv_aload_nN E.1 E.2.1 hd rfl h1 h2
  · have e0 : zrv φ (2, x) = .ref (φ x) := if_neg hx
    rw [e0] at h1
    refine lv_aload_n E.1 E.2.1 hd rfl h1 ?_
    rw [← e0]; exact h2
theorem zt_aload {i : Nat} {x : Int} (hd : decode cc pc = .ok (.aload i, 2)) (hl : ls[i]? = some (some (2, x))) (k : zT y cc mL rt d kc ks Q (pc + 2) ls ((2, x) :: st) n sh h) : zT y cc mL rt d kc ks Q pc ls st n sh h := by
  intro l D cA φ n0 p e s m args below meth c K N H locs cells slots ls0 E S X V L c1 c2
  have h1 := L.2.2 _ _ hl
  have h2 := k l D cA φ n0 p e s m args below meth c K N H locs cells slots ls0 E S X V L c1 c2
  by_cases hx : x = -1
  · subst hx; exact lv_aloadN E.1 E.2.1 hd h1 h2
  · have e0 : zrv φ (2, x) = .ref (φ x) := if_neg hx
    rw [e0] at h1
    refine lv_aload E.1 E.2.1 hd h1 ?_
    rw [← e0]; exact h2
def zpl (φ : Int → Nat) : Nat → List (Option zV) → List (Nat × Value)
  | _, [] => []
  | i, none :: r => zpl φ (i + 1) r
  | i, some v :: r => (i, zrv φ v) :: zpl φ (i + 1) r
theorem zpl_mem (φ : Int → Nat) (q : Nat × Value) : ∀ (ls : List (Option zV)) (i : Nat), q ∈ zpl φ i ls ↔ ∃ (j : Nat) (v : zV), ls[j]? = some (some v) ∧ q = (i + j, zrv φ v)
  | [], i => by simp [zpl]
  | none :: r, i => by
    rw [zpl, zpl_mem φ q r (i + 1)]
    constructor
    · rintro ⟨j, v, h1, h2⟩
      exact ⟨j + 1, v, by simpa using h1, by rw [h2]; congr 1; omega⟩
    · rintro ⟨j, v, h1, h2⟩
      match j, h1 with
      | 0, h1 => simp at h1
      | j + 1, h1 => exact ⟨j, v, by simpa using h1, by rw [h2]; congr 1; omega⟩
  | some w :: r, i => by
    rw [zpl, List.mem_cons, zpl_mem φ q r (i + 1)]
    constructor
    · rintro (h0 | ⟨j, v, h1, h2⟩)
      · exact ⟨0, w, rfl, h0⟩
      · exact ⟨j + 1, v, by simpa using h1, by rw [h2]; congr 1; omega⟩
    · rintro ⟨j, v, h1, h2⟩
      match j, h1 with
      | 0, h1 => left; simp at h1; rw [h1]; exact h2
      | j + 1, h1 => right; exact ⟨j, v, by simpa using h1, by rw [h2]; congr 1; omega⟩
theorem zLv.has {φ : Int → Nat} {ls0 : Array Slot} {mL : Nat} {ls : List (Option zV)} (h : zLv φ ls0 mL ls) : lv_has ls0 mL (zpl φ 0 ls) := ⟨h.1, h.2.1, fun q hq => by
  obtain ⟨j, v, h1, rfl⟩ := (zpl_mem φ q ls 0).mp hq
  simpa using h.2.2 j v h1⟩
theorem zLv.of {φ : Int → Nat} {ls0 : Array Slot} {mL : Nat} {ls : List (Option zV)} {l : List (Nat × Value)} (h : lv_has ls0 mL l) (hs : ∀ (i : Nat) (v : zV), ls[i]? = some (some v) → (i, zrv φ v) ∈ l) : zLv φ ls0 mL ls := ⟨h.1, h.2.1, fun i v hi => h.2.2 _ (hs i v hi)⟩
/-- no long stands there -/
def zn2 : Option (Option zV) → Bool
  | some (some (1, _)) => false
  | _ => true
theorem zLv.set1 {φ : Int → Nat} {ls0 ls1 : Array Slot} {mL i : Nat} {ls : List (Option zV)} {x : zV} (hn : i = 0 ∨ zn2 ls[i - 1]? = true) (h : lv_has ls1 mL ((i, zrv φ x) :: (zpl φ 0 ls).filter (fun q => !(q.1 == i) && !(q.1 + 1 == i && q.2.category == 2)))) : zLv φ ls1 mL (ls.set i (some x)) := by
  refine zLv.of h fun j v hj => ?_
  by_cases hji : j = i
  · subst hji
    have : v = x := by
      rw [List.getElem?_set_self'] at hj
      cases hl : ls[j]? with
      | none => rw [hl] at hj; simp at hj
      | some w => rw [hl] at hj; simp at hj; exact hj.symm
    subst this
    exact List.mem_cons_self
  · rw [List.getElem?_set_ne (fun q => hji q.symm)] at hj
    refine List.mem_cons_of_mem _ (List.mem_filter.mpr ⟨(zpl_mem φ _ ls 0).mpr ⟨j, v, hj, by simp⟩, ?_⟩)
    have h2 : ¬ (j + 1 = i ∧ (zrv φ v).category = 2) := by
      rintro ⟨h3, h4⟩
      rcases hn with h5 | h5
      · omega
      · rw [show i - 1 = j by omega, hj] at h5
        rw [zrv_cat] at h4
        obtain ⟨t, z⟩ := v
        by_cases ht : t = 1
        · subst ht; simp [zn2] at h5
        · simp [ht] at h4
    simp only [Bool.and_eq_true, Bool.not_eq_true', beq_eq_false_iff_ne, ne_eq, Bool.and_eq_false_iff]
    refine ⟨hji, ?_⟩
    by_cases h3 : j + 1 = i
    · exact Or.inr (fun h4 => h2 ⟨h3, h4⟩)
    · exact Or.inl h3
theorem zLv.set2 {φ : Int → Nat} {ls0 ls1 : Array Slot} {mL i : Nat} {ls : List (Option zV)} {x : zV} (hn : i = 0 ∨ zn2 ls[i - 1]? = true) (h : lv_has ls1 mL ((i, zrv φ x) :: (zpl φ 0 ls).filter (fun q => !(q.1 == i) && (!(q.1 == i + 1) && !(q.1 + 1 == i && q.2.category == 2))))) : zLv φ ls1 mL ((ls.set i (some x)).set (i + 1) none) := by
  refine zLv.of h fun j v hj => ?_
  by_cases hj1 : j = i + 1
  · subst hj1
    rw [List.getElem?_set_self'] at hj
    cases hl : (ls.set i (some x))[i + 1]? with
    | none => rw [hl] at hj; simp at hj
    | some w => rw [hl] at hj; simp at hj
  rw [List.getElem?_set_ne (fun q => hj1 q.symm)] at hj
  by_cases hji : j = i
  · subst hji
    have : v = x := by
      rw [List.getElem?_set_self'] at hj
      cases hl : ls[j]? with
      | none => rw [hl] at hj; simp at hj
      | some w => rw [hl] at hj; simp at hj; exact hj.symm
    subst this
    exact List.mem_cons_self
  · rw [List.getElem?_set_ne (fun q => hji q.symm)] at hj
    refine List.mem_cons_of_mem _ (List.mem_filter.mpr ⟨(zpl_mem φ _ ls 0).mpr ⟨j, v, hj, by simp⟩, ?_⟩)
    have h2 : ¬ (j + 1 = i ∧ (zrv φ v).category = 2) := by
      rintro ⟨h3, h4⟩
      rcases hn with h5 | h5
      · omega
      · rw [show i - 1 = j by omega, hj] at h5
        rw [zrv_cat] at h4
        obtain ⟨t, z⟩ := v
        by_cases ht : t = 1
        · subst ht; simp [zn2] at h5
        · simp [ht] at h4
    simp only [Bool.and_eq_true, Bool.not_eq_true', beq_eq_false_iff_ne, ne_eq, Bool.and_eq_false_iff]
    refine ⟨hji, hj1, ?_⟩
    by_cases h3 : j + 1 = i
    · exact Or.inr (fun h4 => h2 ⟨h3, h4⟩)
    · exact Or.inl h3
theorem zt_forget {ls2 : List (Option zV)} (hs : ∀ (j : Nat) (v : zV), ls2[j]? = some (some v) → ls[j]? = some (some v)) (k : zT y cc mL rt d kc ks Q pc ls2 st n sh h) : zT y cc mL rt d kc ks Q pc ls st n sh h := by
  intro l D cA φ n0 p e s m args below meth c K N H locs cells slots ls0 E S X V L c1 c2
  exact k l D cA φ n0 p e s m args below meth c K N H locs cells slots ls0 E S X V ⟨L.1, L.2.1, fun i v hi => L.2.2 i v (hs i v hi)⟩ c1 c2
theorem zg_istore_n {i : Fin 4} {x : Int} (hd : decode cc pc = .ok (.istore_n i, 1)) (hm : (i : Nat) < mL) (hn : (i : Nat) = 0 ∨ zn2 ls[(i : Nat) - 1]? = true) (k : zT y cc mL rt d kc ks Q (pc + 1) (ls.set (i : Nat) (some (0, x))) st n sh h) : zT y cc mL rt d kc ks Q pc ls ((0, x) :: st) n sh h := by
  intro l D cA φ n0 p e s m args below meth c K N H locs cells slots ls0 E S X V L c1 c2
  exact lv_istore_n E.1 E.2.1 hd rfl L.has hm rfl (fun ls1 h1 => k l D cA φ n0 p e s m args below meth c K N H locs cells slots ls1 E S X V (zLv.set1 (ls0 := ls0) hn h1) c1 c2)
theorem zg_istore {i : Nat} {x : Int} (hd : decode cc pc = .ok (.istore i, 2)) (hm : i < mL) (hn : i = 0 ∨ zn2 ls[i - 1]? = true) (k : zT y cc mL rt d kc ks Q (pc + 2) (ls.set i (some (0, x))) st n sh h) : zT y cc mL rt d kc ks Q pc ls ((0, x) :: st) n sh h := by
  intro l D cA φ n0 p e s m args below meth c K N H locs cells slots ls0 E S X V L c1 c2
  exact lv_istore E.1 E.2.1 hd L.has hm rfl (fun ls1 h1 => k l D cA φ n0 p e s m args below meth c K N H locs cells slots ls1 E S X V (zLv.set1 (ls0 := ls0) hn h1) c1 c2)
theorem zg_lstore_n {i : Fin 4} {x : Int} (hd : decode cc pc = .ok (.lstore_n i, 1)) (hm : (i : Nat) + 1 < mL) (hn : (i : Nat) = 0 ∨ zn2 ls[(i : Nat) - 1]? = true) (k : zT y cc mL rt d kc ks Q (pc + 1) ((ls.set (i : Nat) (some (1, x))).set ((i : Nat) + 1) none) st n sh h) : zT y cc mL rt d kc ks Q pc ls ((1, x) :: st) n sh h := by
  intro l D cA φ n0 p e s m args below meth c K N H locs cells slots ls0 E S X V L c1 c2
  exact lv_lstore_n E.1 E.2.1 hd rfl L.has hm rfl (fun ls1 h1 => k l D cA φ n0 p e s m args below meth c K N H locs cells slots ls1 E S X V (zLv.set2 (ls0 := ls0) hn h1) c1 c2)
theorem zg_lstore {i : Nat} {x : Int} (hd : decode cc pc = .ok (.lstore i, 2)) (hm : i + 1 < mL) (hn : i = 0 ∨ zn2 ls[i - 1]? = true) (k : zT y cc mL rt d kc ks Q (pc + 2) ((ls.set i (some (1, x))).set (i + 1) none) st n sh h) : zT y cc mL rt d kc ks Q pc ls ((1, x) :: st) n sh h := by
  intro l D cA φ n0 p e s m args below meth c K N H locs cells slots ls0 E S X V L c1 c2
  exact lv_lstore E.1 E.2.1 hd L.has hm rfl (fun ls1 h1 => k l D cA φ n0 p e s m args below meth c K N H locs cells slots ls1 E S X V (zLv.set2 (ls0 := ls0) hn h1) c1 c2)
theorem zg_astore_n {i : Fin 4} {x : Int} (hd : decode cc pc = .ok (.astore_n i, 1)) (hm : (i : Nat) < mL) (hn : (i : Nat) = 0 ∨ zn2 ls[(i : Nat) - 1]? = true) (k : zT y cc mL rt d kc ks Q (pc + 1) (ls.set (i : Nat) (some (2, x))) st n sh h) : zT y cc mL rt d kc ks Q pc ls ((2, x) :: st) n sh h := by
  intro l D cA φ n0 p e s m args below meth c K N H locs cells slots ls0 E S X V L c1 c2
  by_cases hx : x = -1
  · subst hx; exact lv_astore_nN E.1 E.2.1 hd rfl L.has hm rfl (fun ls1 h1 => k l D cA φ n0 p e s m args below meth c K N H locs cells slots ls1 E S X V (zLv.set1 (ls0 := ls0) hn h1) c1 c2)
  · have e0 : zrv φ (2, x) = .ref (φ x) := if_neg hx
    show W _ _ _ _ _ _ _ _ _ _ _ _ _ _ _ (F0 m pc ls0 (zrv φ (2, x) :: st.map (zrv φ)))
    rw [e0]
    exact lv_astore_n E.1 E.2.1 hd rfl L.has hm rfl (fun ls1 h1 => k l D cA φ n0 p e s m args below meth c K N H locs cells slots ls1 E S X V (zLv.set1 (ls0 := ls0) hn (by rw [e0]; exact h1)) c1 c2)
theorem zg_astore {i : Nat} {x : Int} (hd : decode cc pc = .ok (.astore i, 2)) (hm : i < mL) (hn : i = 0 ∨ zn2 ls[i - 1]? = true) (k : zT y cc mL rt d kc ks Q (pc + 2) (ls.set i (some (2, x))) st n sh h) : zT y cc mL rt d kc ks Q pc ls ((2, x) :: st) n sh h := by
  intro l D cA φ n0 p e s m args below meth c K N H locs cells slots ls0 E S X V L c1 c2
  by_cases hx : x = -1
  · subst hx; exact lv_astoreN E.1 E.2.1 hd L.has hm rfl (fun ls1 h1 => k l D cA φ n0 p e s m args below meth c K N H locs cells slots ls1 E S X V (zLv.set1 (ls0 := ls0) hn h1) c1 c2)
  · have e0 : zrv φ (2, x) = .ref (φ x) := if_neg hx
    show W _ _ _ _ _ _ _ _ _ _ _ _ _ _ _ (F0 m pc ls0 (zrv φ (2, x) :: st.map (zrv φ)))
    rw [e0]
    exact lv_astore E.1 E.2.1 hd L.has hm rfl (fun ls1 h1 => k l D cA φ n0 p e s m args below meth c K N H locs cells slots ls1 E S X V (zLv.set1 (ls0 := ls0) hn (by rw [e0]; exact h1)) c1 c2)
theorem zg_iinc {i : Nat} {x z : Int} (hd : decode cc pc = .ok (.iinc i z, 3)) (hm : i < mL) (hx : ls[i]? = some (some (0, x))) (hn : i = 0 ∨ zn2 ls[i - 1]? = true) (k : zT y cc mL rt d kc ks Q (pc + 3) (ls.set i (some (0, x + z))) st n sh h) : zT y cc mL rt d kc ks Q pc ls st n sh h := by
  intro l D cA φ n0 p e s m args below meth c K N H locs cells slots ls0 E S X V L c1 c2
  obtain ⟨q, hq⟩ := List.mem_iff_getElem?.mp ((zpl_mem φ (i, zrv φ (0, x)) ls 0).mpr ⟨i, _, hx, by simp⟩)
  exact lv_iinc (v := Int32.ofInt (x + z)) E.1 E.2.1 hd L.has hq (Int32.ofInt_add x z).symm hm rfl (fun ls1 h1 => k l D cA φ n0 p e s m args below meth c K N H locs cells slots ls1 E S X V (zLv.set1 (ls0 := ls0) hn h1) c1 c2)
theorem zt_istore_0 {a0 : Option zV} {r : List (Option zV)} {x : Int} (hd : decode cc pc = .ok (.istore 0, 2)) (hm : 0 < mL) (k : zT y cc mL rt d kc ks Q (pc + 2) (some (0, x) :: r) st n sh h) : zT y cc mL rt d kc ks Q pc (a0 :: r) ((0, x) :: st) n sh h := zg_istore (i := 0) hd hm (Or.inl rfl) k
theorem zt_istore_n_0 {a0 : Option zV} {r : List (Option zV)} {x : Int} (hd : decode cc pc = .ok (.istore_n 0, 1)) (hm : 0 < mL) (k : zT y cc mL rt d kc ks Q (pc + 1) (some (0, x) :: r) st n sh h) : zT y cc mL rt d kc ks Q pc (a0 :: r) ((0, x) :: st) n sh h := zg_istore_n (i := 0) hd hm (Or.inl rfl) k
theorem zt_astore_0 {a0 : Option zV} {r : List (Option zV)} {x : Int} (hd : decode cc pc = .ok (.astore 0, 2)) (hm : 0 < mL) (k : zT y cc mL rt d kc ks Q (pc + 2) (some (2, x) :: r) st n sh h) : zT y cc mL rt d kc ks Q pc (a0 :: r) ((2, x) :: st) n sh h := zg_astore (i := 0) hd hm (Or.inl rfl) k
theorem zt_astore_n_0 {a0 : Option zV} {r : List (Option zV)} {x : Int} (hd : decode cc pc = .ok (.astore_n 0, 1)) (hm : 0 < mL) (k : zT y cc mL rt d kc ks Q (pc + 1) (some (2, x) :: r) st n sh h) : zT y cc mL rt d kc ks Q pc (a0 :: r) ((2, x) :: st) n sh h := zg_astore_n (i := 0) hd hm (Or.inl rfl) k
theorem zt_lstore_0 {a0 b : Option zV} {r : List (Option zV)} {x : Int} (hd : decode cc pc = .ok (.lstore 0, 2)) (hm : 0 + 1 < mL) (k : zT y cc mL rt d kc ks Q (pc + 2) (some (1, x) :: none :: r) st n sh h) : zT y cc mL rt d kc ks Q pc (a0 :: b :: r) ((1, x) :: st) n sh h := zg_lstore (i := 0) hd hm (Or.inl rfl) k
theorem zt_lstore_n_0 {a0 b : Option zV} {r : List (Option zV)} {x : Int} (hd : decode cc pc = .ok (.lstore_n 0, 1)) (hm : 0 + 1 < mL) (k : zT y cc mL rt d kc ks Q (pc + 1) (some (1, x) :: none :: r) st n sh h) : zT y cc mL rt d kc ks Q pc (a0 :: b :: r) ((1, x) :: st) n sh h := zg_lstore_n (i := 0) hd hm (Or.inl rfl) k
theorem zt_iinc_0 {r : List (Option zV)} {x z : Int} (hd : decode cc pc = .ok (.iinc 0 z, 3)) (hm : 0 < mL) (k : zT y cc mL rt d kc ks Q (pc + 3) (some (0, x + z) :: r) st n sh h) : zT y cc mL rt d kc ks Q pc (some (0, x) :: r) st n sh h := zg_iinc (i := 0) hd hm rfl (Or.inl rfl) k
theorem zt_kill_0 {a0 : Option zV} {r : List (Option zV)} (k : zT y cc mL rt d kc ks Q pc (none :: r) st n sh h) : zT y cc mL rt d kc ks Q pc (a0 :: r) st n sh h := zt_forget (fun j v hj => by
  have e0 : (none :: r : List (Option zV)) = (a0 :: r).set 0 none := rfl
  rw [e0] at hj
  by_cases hji : 0 = j
  · subst hji; simp at hj
  · rwa [List.getElem?_set_ne hji] at hj) k
theorem zt_istore_1 {a0 a1 : Option zV} {r : List (Option zV)} {x : Int} (hd : decode cc pc = .ok (.istore 1, 2)) (hm : 1 < mL) (hn : zn2 (some a0) = true) (k : zT y cc mL rt d kc ks Q (pc + 2) (a0 :: some (0, x) :: r) st n sh h) : zT y cc mL rt d kc ks Q pc (a0 :: a1 :: r) ((0, x) :: st) n sh h := zg_istore (i := 1) hd hm (Or.inr hn) k
theorem zt_istore_n_1 {a0 a1 : Option zV} {r : List (Option zV)} {x : Int} (hd : decode cc pc = .ok (.istore_n 1, 1)) (hm : 1 < mL) (hn : zn2 (some a0) = true) (k : zT y cc mL rt d kc ks Q (pc + 1) (a0 :: some (0, x) :: r) st n sh h) : zT y cc mL rt d kc ks Q pc (a0 :: a1 :: r) ((0, x) :: st) n sh h := zg_istore_n (i := 1) hd hm (Or.inr hn) k
theorem zt_astore_1 {a0 a1 : Option zV} {r : List (Option zV)} {x : Int} (hd : decode cc pc = .ok (.astore 1, 2)) (hm : 1 < mL) (hn : zn2 (some a0) = true) (k : zT y cc mL rt d kc ks Q (pc + 2) (a0 :: some (2, x) :: r) st n sh h) : zT y cc mL rt d kc ks Q pc (a0 :: a1 :: r) ((2, x) :: st) n sh h := zg_astore (i := 1) hd hm (Or.inr hn) k
theorem zt_astore_n_1 {a0 a1 : Option zV} {r : List (Option zV)} {x : Int} (hd : decode cc pc = .ok (.astore_n 1, 1)) (hm : 1 < mL) (hn : zn2 (some a0) = true) (k : zT y cc mL rt d kc ks Q (pc + 1) (a0 :: some (2, x) :: r) st n sh h) : zT y cc mL rt d kc ks Q pc (a0 :: a1 :: r) ((2, x) :: st) n sh h := zg_astore_n (i := 1) hd hm (Or.inr hn) k
theorem zt_lstore_1 {a0 a1 b : Option zV} {r : List (Option zV)} {x : Int} (hd : decode cc pc = .ok (.lstore 1, 2)) (hm : 1 + 1 < mL) (hn : zn2 (some a0) = true) (k : zT y cc mL rt d kc ks Q (pc + 2) (a0 :: some (1, x) :: none :: r) st n sh h) : zT y cc mL rt d kc ks Q pc (a0 :: a1 :: b :: r) ((1, x) :: st) n sh h := zg_lstore (i := 1) hd hm (Or.inr hn) k
theorem zt_lstore_n_1 {a0 a1 b : Option zV} {r : List (Option zV)} {x : Int} (hd : decode cc pc = .ok (.lstore_n 1, 1)) (hm : 1 + 1 < mL) (hn : zn2 (some a0) = true) (k : zT y cc mL rt d kc ks Q (pc + 1) (a0 :: some (1, x) :: none :: r) st n sh h) : zT y cc mL rt d kc ks Q pc (a0 :: a1 :: b :: r) ((1, x) :: st) n sh h := zg_lstore_n (i := 1) hd hm (Or.inr hn) k
theorem zt_iinc_1 {a0 : Option zV} {r : List (Option zV)} {x z : Int} (hd : decode cc pc = .ok (.iinc 1 z, 3)) (hm : 1 < mL) (hn : zn2 (some a0) = true) (k : zT y cc mL rt d kc ks Q (pc + 3) (a0 :: some (0, x + z) :: r) st n sh h) : zT y cc mL rt d kc ks Q pc (a0 :: some (0, x) :: r) st n sh h := zg_iinc (i := 1) hd hm rfl (Or.inr hn) k
theorem zt_kill_1 {a0 a1 : Option zV} {r : List (Option zV)} (k : zT y cc mL rt d kc ks Q pc (a0 :: none :: r) st n sh h) : zT y cc mL rt d kc ks Q pc (a0 :: a1 :: r) st n sh h := zt_forget (fun j v hj => by
  have e0 : (a0 :: none :: r : List (Option zV)) = (a0 :: a1 :: r).set 1 none := rfl
  rw [e0] at hj
  by_cases hji : 1 = j
  · subst hji; simp at hj
  · rwa [List.getElem?_set_ne hji] at hj) k
theorem zt_istore_2 {a0 a1 a2 : Option zV} {r : List (Option zV)} {x : Int} (hd : decode cc pc = .ok (.istore 2, 2)) (hm : 2 < mL) (hn : zn2 (some a1) = true) (k : zT y cc mL rt d kc ks Q (pc + 2) (a0 :: a1 :: some (0, x) :: r) st n sh h) : zT y cc mL rt d kc ks Q pc (a0 :: a1 :: a2 :: r) ((0, x) :: st) n sh h := zg_istore (i := 2) hd hm (Or.inr hn) k
theorem zt_istore_n_2 {a0 a1 a2 : Option zV} {r : List (Option zV)} {x : Int} (hd : decode cc pc = .ok (.istore_n 2, 1)) (hm : 2 < mL) (hn : zn2 (some a1) = true) (k : zT y cc mL rt d kc ks Q (pc + 1) (a0 :: a1 :: some (0, x) :: r) st n sh h) : zT y cc mL rt d kc ks Q pc (a0 :: a1 :: a2 :: r) ((0, x) :: st) n sh h := zg_istore_n (i := 2) hd hm (Or.inr hn) k
theorem zt_astore_2 {a0 a1 a2 : Option zV} {r : List (Option zV)} {x : Int} (hd : decode cc pc = .ok (.astore 2, 2)) (hm : 2 < mL) (hn : zn2 (some a1) = true) (k : zT y cc mL rt d kc ks Q (pc + 2) (a0 :: a1 :: some (2, x) :: r) st n sh h) : zT y cc mL rt d kc ks Q pc (a0 :: a1 :: a2 :: r) ((2, x) :: st) n sh h := zg_astore (i := 2) hd hm (Or.inr hn) k
theorem zt_astore_n_2 {a0 a1 a2 : Option zV} {r : List (Option zV)} {x : Int} (hd : decode cc pc = .ok (.astore_n 2, 1)) (hm : 2 < mL) (hn : zn2 (some a1) = true) (k : zT y cc mL rt d kc ks Q (pc + 1) (a0 :: a1 :: some (2, x) :: r) st n sh h) : zT y cc mL rt d kc ks Q pc (a0 :: a1 :: a2 :: r) ((2, x) :: st) n sh h := zg_astore_n (i := 2) hd hm (Or.inr hn) k
theorem zt_lstore_2 {a0 a1 a2 b : Option zV} {r : List (Option zV)} {x : Int} (hd : decode cc pc = .ok (.lstore 2, 2)) (hm : 2 + 1 < mL) (hn : zn2 (some a1) = true) (k : zT y cc mL rt d kc ks Q (pc + 2) (a0 :: a1 :: some (1, x) :: none :: r) st n sh h) : zT y cc mL rt d kc ks Q pc (a0 :: a1 :: a2 :: b :: r) ((1, x) :: st) n sh h := zg_lstore (i := 2) hd hm (Or.inr hn) k
theorem zt_lstore_n_2 {a0 a1 a2 b : Option zV} {r : List (Option zV)} {x : Int} (hd : decode cc pc = .ok (.lstore_n 2, 1)) (hm : 2 + 1 < mL) (hn : zn2 (some a1) = true) (k : zT y cc mL rt d kc ks Q (pc + 1) (a0 :: a1 :: some (1, x) :: none :: r) st n sh h) : zT y cc mL rt d kc ks Q pc (a0 :: a1 :: a2 :: b :: r) ((1, x) :: st) n sh h := zg_lstore_n (i := 2) hd hm (Or.inr hn) k
theorem zt_iinc_2 {a0 a1 : Option zV} {r : List (Option zV)} {x z : Int} (hd : decode cc pc = .ok (.iinc 2 z, 3)) (hm : 2 < mL) (hn : zn2 (some a1) = true) (k : zT y cc mL rt d kc ks Q (pc + 3) (a0 :: a1 :: some (0, x + z) :: r) st n sh h) : zT y cc mL rt d kc ks Q pc (a0 :: a1 :: some (0, x) :: r) st n sh h := zg_iinc (i := 2) hd hm rfl (Or.inr hn) k
theorem zt_kill_2 {a0 a1 a2 : Option zV} {r : List (Option zV)} (k : zT y cc mL rt d kc ks Q pc (a0 :: a1 :: none :: r) st n sh h) : zT y cc mL rt d kc ks Q pc (a0 :: a1 :: a2 :: r) st n sh h := zt_forget (fun j v hj => by
  have e0 : (a0 :: a1 :: none :: r : List (Option zV)) = (a0 :: a1 :: a2 :: r).set 2 none := rfl
  rw [e0] at hj
  by_cases hji : 2 = j
  · subst hji; simp at hj
  · rwa [List.getElem?_set_ne hji] at hj) k
theorem zt_istore_3 {a0 a1 a2 a3 : Option zV} {r : List (Option zV)} {x : Int} (hd : decode cc pc = .ok (.istore 3, 2)) (hm : 3 < mL) (hn : zn2 (some a2) = true) (k : zT y cc mL rt d kc ks Q (pc + 2) (a0 :: a1 :: a2 :: some (0, x) :: r) st n sh h) : zT y cc mL rt d kc ks Q pc (a0 :: a1 :: a2 :: a3 :: r) ((0, x) :: st) n sh h := zg_istore (i := 3) hd hm (Or.inr hn) k
theorem zt_istore_n_3 {a0 a1 a2 a3 : Option zV} {r : List (Option zV)} {x : Int} (hd : decode cc pc = .ok (.istore_n 3, 1)) (hm : 3 < mL) (hn : zn2 (some a2) = true) (k : zT y cc mL rt d kc ks Q (pc + 1) (a0 :: a1 :: a2 :: some (0, x) :: r) st n sh h) : zT y cc mL rt d kc ks Q pc (a0 :: a1 :: a2 :: a3 :: r) ((0, x) :: st) n sh h := zg_istore_n (i := 3) hd hm (Or.inr hn) k
theorem zt_astore_3 {a0 a1 a2 a3 : Option zV} {r : List (Option zV)} {x : Int} (hd : decode cc pc = .ok (.astore 3, 2)) (hm : 3 < mL) (hn : zn2 (some a2) = true) (k : zT y cc mL rt d kc ks Q (pc + 2) (a0 :: a1 :: a2 :: some (2, x) :: r) st n sh h) : zT y cc mL rt d kc ks Q pc (a0 :: a1 :: a2 :: a3 :: r) ((2, x) :: st) n sh h := zg_astore (i := 3) hd hm (Or.inr hn) k
theorem zt_astore_n_3 {a0 a1 a2 a3 : Option zV} {r : List (Option zV)} {x : Int} (hd : decode cc pc = .ok (.astore_n 3, 1)) (hm : 3 < mL) (hn : zn2 (some a2) = true) (k : zT y cc mL rt d kc ks Q (pc + 1) (a0 :: a1 :: a2 :: some (2, x) :: r) st n sh h) : zT y cc mL rt d kc ks Q pc (a0 :: a1 :: a2 :: a3 :: r) ((2, x) :: st) n sh h := zg_astore_n (i := 3) hd hm (Or.inr hn) k
theorem zt_lstore_3 {a0 a1 a2 a3 b : Option zV} {r : List (Option zV)} {x : Int} (hd : decode cc pc = .ok (.lstore 3, 2)) (hm : 3 + 1 < mL) (hn : zn2 (some a2) = true) (k : zT y cc mL rt d kc ks Q (pc + 2) (a0 :: a1 :: a2 :: some (1, x) :: none :: r) st n sh h) : zT y cc mL rt d kc ks Q pc (a0 :: a1 :: a2 :: a3 :: b :: r) ((1, x) :: st) n sh h := zg_lstore (i := 3) hd hm (Or.inr hn) k
theorem zt_lstore_n_3 {a0 a1 a2 a3 b : Option zV} {r : List (Option zV)} {x : Int} (hd : decode cc pc = .ok (.lstore_n 3, 1)) (hm : 3 + 1 < mL) (hn : zn2 (some a2) = true) (k : zT y cc mL rt d kc ks Q (pc + 1) (a0 :: a1 :: a2 :: some (1, x) :: none :: r) st n sh h) : zT y cc mL rt d kc ks Q pc (a0 :: a1 :: a2 :: a3 :: b :: r) ((1, x) :: st) n sh h := zg_lstore_n (i := 3) hd hm (Or.inr hn) k
theorem zt_iinc_3 {a0 a1 a2 : Option zV} {r : List (Option zV)} {x z : Int} (hd : decode cc pc = .ok (.iinc 3 z, 3)) (hm : 3 < mL) (hn : zn2 (some a2) = true) (k : zT y cc mL rt d kc ks Q (pc + 3) (a0 :: a1 :: a2 :: some (0, x + z) :: r) st n sh h) : zT y cc mL rt d kc ks Q pc (a0 :: a1 :: a2 :: some (0, x) :: r) st n sh h := zg_iinc (i := 3) hd hm rfl (Or.inr hn) k
theorem zt_kill_3 {a0 a1 a2 a3 : Option zV} {r : List (Option zV)} (k : zT y cc mL rt d kc ks Q pc (a0 :: a1 :: a2 :: none :: r) st n sh h) : zT y cc mL rt d kc ks Q pc (a0 :: a1 :: a2 :: a3 :: r) st n sh h := zt_forget (fun j v hj => by
  have e0 : (a0 :: a1 :: a2 :: none :: r : List (Option zV)) = (a0 :: a1 :: a2 :: a3 :: r).set 3 none := rfl
  rw [e0] at hj
  by_cases hji : 3 = j
  · subst hji; simp at hj
  · rwa [List.getElem?_set_ne hji] at hj) k
theorem zt_istore_4 {a0 a1 a2 a3 a4 : Option zV} {r : List (Option zV)} {x : Int} (hd : decode cc pc = .ok (.istore 4, 2)) (hm : 4 < mL) (hn : zn2 (some a3) = true) (k : zT y cc mL rt d kc ks Q (pc + 2) (a0 :: a1 :: a2 :: a3 :: some (0, x) :: r) st n sh h) : zT y cc mL rt d kc ks Q pc (a0 :: a1 :: a2 :: a3 :: a4 :: r) ((0, x) :: st) n sh h := zg_istore (i := 4) hd hm (Or.inr hn) k
theorem zt_astore_4 {a0 a1 a2 a3 a4 : Option zV} {r : List (Option zV)} {x : Int} (hd : decode cc pc = .ok (.astore 4, 2)) (hm : 4 < mL) (hn : zn2 (some a3) = true) (k : zT y cc mL rt d kc ks Q (pc + 2) (a0 :: a1 :: a2 :: a3 :: some (2, x) :: r) st n sh h) : zT y cc mL rt d kc ks Q pc (a0 :: a1 :: a2 :: a3 :: a4 :: r) ((2, x) :: st) n sh h := zg_astore (i := 4) hd hm (Or.inr hn) k
theorem zt_lstore_4 {a0 a1 a2 a3 a4 b : Option zV} {r : List (Option zV)} {x : Int} (hd : decode cc pc = .ok (.lstore 4, 2)) (hm : 4 + 1 < mL) (hn : zn2 (some a3) = true) (k : zT y cc mL rt d kc ks Q (pc + 2) (a0 :: a1 :: a2 :: a3 :: some (1, x) :: none :: r) st n sh h) : zT y cc mL rt d kc ks Q pc (a0 :: a1 :: a2 :: a3 :: a4 :: b :: r) ((1, x) :: st) n sh h := zg_lstore (i := 4) hd hm (Or.inr hn) k
theorem zt_iinc_4 {a0 a1 a2 a3 : Option zV} {r : List (Option zV)} {x z : Int} (hd : decode cc pc = .ok (.iinc 4 z, 3)) (hm : 4 < mL) (hn : zn2 (some a3) = true) (k : zT y cc mL rt d kc ks Q (pc + 3) (a0 :: a1 :: a2 :: a3 :: some (0, x + z) :: r) st n sh h) : zT y cc mL rt d kc ks Q pc (a0 :: a1 :: a2 :: a3 :: some (0, x) :: r) st n sh h := zg_iinc (i := 4) hd hm rfl (Or.inr hn) k
theorem zt_kill_4 {a0 a1 a2 a3 a4 : Option zV} {r : List (Option zV)} (k : zT y cc mL rt d kc ks Q pc (a0 :: a1 :: a2 :: a3 :: none :: r) st n sh h) : zT y cc mL rt d kc ks Q pc (a0 :: a1 :: a2 :: a3 :: a4 :: r) st n sh h := zt_forget (fun j v hj => by
  have e0 : (a0 :: a1 :: a2 :: a3 :: none :: r : List (Option zV)) = (a0 :: a1 :: a2 :: a3 :: a4 :: r).set 4 none := rfl
  rw [e0] at hj
  by_cases hji : 4 = j
  · subst hji; simp at hj
  · rwa [List.getElem?_set_ne hji] at hj) k
theorem zt_istore_5 {a0 a1 a2 a3 a4 a5 : Option zV} {r : List (Option zV)} {x : Int} (hd : decode cc pc = .ok (.istore 5, 2)) (hm : 5 < mL) (hn : zn2 (some a4) = true) (k : zT y cc mL rt d kc ks Q (pc + 2) (a0 :: a1 :: a2 :: a3 :: a4 :: some (0, x) :: r) st n sh h) : zT y cc mL rt d kc ks Q pc (a0 :: a1 :: a2 :: a3 :: a4 :: a5 :: r) ((0, x) :: st) n sh h := zg_istore (i := 5) hd hm (Or.inr hn) k
theorem zt_astore_5 {a0 a1 a2 a3 a4 a5 : Option zV} {r : List (Option zV)} {x : Int} (hd : decode cc pc = .ok (.astore 5, 2)) (hm : 5 < mL) (hn : zn2 (some a4) = true) (k : zT y cc mL rt d kc ks Q (pc + 2) (a0 :: a1 :: a2 :: a3 :: a4 :: some (2, x) :: r) st n sh h) : zT y cc mL rt d kc ks Q pc (a0 :: a1 :: a2 :: a3 :: a4 :: a5 :: r) ((2, x) :: st) n sh h := zg_astore (i := 5) hd hm (Or.inr hn) k
theorem zt_lstore_5 {a0 a1 a2 a3 a4 a5 b : Option zV} {r : List (Option zV)} {x : Int} (hd : decode cc pc = .ok (.lstore 5, 2)) (hm : 5 + 1 < mL) (hn : zn2 (some a4) = true) (k : zT y cc mL rt d kc ks Q (pc + 2) (a0 :: a1 :: a2 :: a3 :: a4 :: some (1, x) :: none :: r) st n sh h) : zT y cc mL rt d kc ks Q pc (a0 :: a1 :: a2 :: a3 :: a4 :: a5 :: b :: r) ((1, x) :: st) n sh h := zg_lstore (i := 5) hd hm (Or.inr hn) k
theorem zt_iinc_5 {a0 a1 a2 a3 a4 : Option zV} {r : List (Option zV)} {x z : Int} (hd : decode cc pc = .ok (.iinc 5 z, 3)) (hm : 5 < mL) (hn : zn2 (some a4) = true) (k : zT y cc mL rt d kc ks Q (pc + 3) (a0 :: a1 :: a2 :: a3 :: a4 :: some (0, x + z) :: r) st n sh h) : zT y cc mL rt d kc ks Q pc (a0 :: a1 :: a2 :: a3 :: a4 :: some (0, x) :: r) st n sh h := zg_iinc (i := 5) hd hm rfl (Or.inr hn) k
theorem zt_kill_5 {a0 a1 a2 a3 a4 a5 : Option zV} {r : List (Option zV)} (k : zT y cc mL rt d kc ks Q pc (a0 :: a1 :: a2 :: a3 :: a4 :: none :: r) st n sh h) : zT y cc mL rt d kc ks Q pc (a0 :: a1 :: a2 :: a3 :: a4 :: a5 :: r) st n sh h := zt_forget (fun j v hj => by
  have e0 : (a0 :: a1 :: a2 :: a3 :: a4 :: none :: r : List (Option zV)) = (a0 :: a1 :: a2 :: a3 :: a4 :: a5 :: r).set 5 none := rfl
  rw [e0] at hj
  by_cases hji : 5 = j
  · subst hji; simp at hj
  · rwa [List.getElem?_set_ne hji] at hj) k
theorem zt_istore_6 {a0 a1 a2 a3 a4 a5 a6 : Option zV} {r : List (Option zV)} {x : Int} (hd : decode cc pc = .ok (.istore 6, 2)) (hm : 6 < mL) (hn : zn2 (some a5) = true) (k : zT y cc mL rt d kc ks Q (pc + 2) (a0 :: a1 :: a2 :: a3 :: a4 :: a5 :: some (0, x) :: r) st n sh h) : zT y cc mL rt d kc ks Q pc (a0 :: a1 :: a2 :: a3 :: a4 :: a5 :: a6 :: r) ((0, x) :: st) n sh h := zg_istore (i := 6) hd hm (Or.inr hn) k
theorem zt_astore_6 {a0 a1 a2 a3 a4 a5 a6 : Option zV} {r : List (Option zV)} {x : Int} (hd : decode cc pc = .ok (.astore 6, 2)) (hm : 6 < mL) (hn : zn2 (some a5) = true) (k : zT y cc mL rt d kc ks Q (pc + 2) (a0 :: a1 :: a2 :: a3 :: a4 :: a5 :: some (2, x) :: r) st n sh h) : zT y cc mL rt d kc ks Q pc (a0 :: a1 :: a2 :: a3 :: a4 :: a5 :: a6 :: r) ((2, x) :: st) n sh h := zg_astore (i := 6) hd hm (Or.inr hn) k
theorem zt_lstore_6 {a0 a1 a2 a3 a4 a5 a6 b : Option zV} {r : List (Option zV)} {x : Int} (hd : decode cc pc = .ok (.lstore 6, 2)) (hm : 6 + 1 < mL) (hn : zn2 (some a5) = true) (k : zT y cc mL rt d kc ks Q (pc + 2) (a0 :: a1 :: a2 :: a3 :: a4 :: a5 :: some (1, x) :: none :: r) st n sh h) : zT y cc mL rt d kc ks Q pc (a0 :: a1 :: a2 :: a3 :: a4 :: a5 :: a6 :: b :: r) ((1, x) :: st) n sh h := zg_lstore (i := 6) hd hm (Or.inr hn) k
theorem zt_iinc_6 {a0 a1 a2 a3 a4 a5 : Option zV} {r : List (Option zV)} {x z : Int} (hd : decode cc pc = .ok (.iinc 6 z, 3)) (hm : 6 < mL) (hn : zn2 (some a5) = true) (k : zT y cc mL rt d kc ks Q (pc + 3) (a0 :: a1 :: a2 :: a3 :: a4 :: a5 :: some (0, x + z) :: r) st n sh h) : zT y cc mL rt d kc ks Q pc (a0 :: a1 :: a2 :: a3 :: a4 :: a5 :: some (0, x) :: r) st n sh h := zg_iinc (i := 6) hd hm rfl (Or.inr hn) k
theorem zt_kill_6 {a0 a1 a2 a3 a4 a5 a6 : Option zV} {r : List (Option zV)} (k : zT y cc mL rt d kc ks Q pc (a0 :: a1 :: a2 :: a3 :: a4 :: a5 :: none :: r) st n sh h) : zT y cc mL rt d kc ks Q pc (a0 :: a1 :: a2 :: a3 :: a4 :: a5 :: a6 :: r) st n sh h := zt_forget (fun j v hj => by
  have e0 : (a0 :: a1 :: a2 :: a3 :: a4 :: a5 :: none :: r : List (Option zV)) = (a0 :: a1 :: a2 :: a3 :: a4 :: a5 :: a6 :: r).set 6 none := rfl
  rw [e0] at hj
  by_cases hji : 6 = j
  · subst hji; simp at hj
  · rwa [List.getElem?_set_ne hji] at hj) k
theorem zt_istore_7 {a0 a1 a2 a3 a4 a5 a6 a7 : Option zV} {r : List (Option zV)} {x : Int} (hd : decode cc pc = .ok (.istore 7, 2)) (hm : 7 < mL) (hn : zn2 (some a6) = true) (k : zT y cc mL rt d kc ks Q (pc + 2) (a0 :: a1 :: a2 :: a3 :: a4 :: a5 :: a6 :: some (0, x) :: r) st n sh h) : zT y cc mL rt d kc ks Q pc (a0 :: a1 :: a2 :: a3 :: a4 :: a5 :: a6 :: a7 :: r) ((0, x) :: st) n sh h := zg_istore (i := 7) hd hm (Or.inr hn) k
theorem zt_astore_7 {a0 a1 a2 a3 a4 a5 a6 a7 : Option zV} {r : List (Option zV)} {x : Int} (hd : decode cc pc = .ok (.astore 7, 2)) (hm : 7 < mL) (hn : zn2 (some a6) = true) (k : zT y cc mL rt d kc ks Q (pc + 2) (a0 :: a1 :: a2 :: a3 :: a4 :: a5 :: a6 :: some (2, x) :: r) st n sh h) : zT y cc mL rt d kc ks Q pc (a0 :: a1 :: a2 :: a3 :: a4 :: a5 :: a6 :: a7 :: r) ((2, x) :: st) n sh h := zg_astore (i := 7) hd hm (Or.inr hn) k
theorem zt_lstore_7 {a0 a1 a2 a3 a4 a5 a6 a7 b : Option zV} {r : List (Option zV)} {x : Int} (hd : decode cc pc = .ok (.lstore 7, 2)) (hm : 7 + 1 < mL) (hn : zn2 (some a6) = true) (k : zT y cc mL rt d kc ks Q (pc + 2) (a0 :: a1 :: a2 :: a3 :: a4 :: a5 :: a6 :: some (1, x) :: none :: r) st n sh h) : zT y cc mL rt d kc ks Q pc (a0 :: a1 :: a2 :: a3 :: a4 :: a5 :: a6 :: a7 :: b :: r) ((1, x) :: st) n sh h := zg_lstore (i := 7) hd hm (Or.inr hn) k
theorem zt_iinc_7 {a0 a1 a2 a3 a4 a5 a6 : Option zV} {r : List (Option zV)} {x z : Int} (hd : decode cc pc = .ok (.iinc 7 z, 3)) (hm : 7 < mL) (hn : zn2 (some a6) = true) (k : zT y cc mL rt d kc ks Q (pc + 3) (a0 :: a1 :: a2 :: a3 :: a4 :: a5 :: a6 :: some (0, x + z) :: r) st n sh h) : zT y cc mL rt d kc ks Q pc (a0 :: a1 :: a2 :: a3 :: a4 :: a5 :: a6 :: some (0, x) :: r) st n sh h := zg_iinc (i := 7) hd hm rfl (Or.inr hn) k
theorem zt_kill_7 {a0 a1 a2 a3 a4 a5 a6 a7 : Option zV} {r : List (Option zV)} (k : zT y cc mL rt d kc ks Q pc (a0 :: a1 :: a2 :: a3 :: a4 :: a5 :: a6 :: none :: r) st n sh h) : zT y cc mL rt d kc ks Q pc (a0 :: a1 :: a2 :: a3 :: a4 :: a5 :: a6 :: a7 :: r) st n sh h := zt_forget (fun j v hj => by
  have e0 : (a0 :: a1 :: a2 :: a3 :: a4 :: a5 :: a6 :: none :: r : List (Option zV)) = (a0 :: a1 :: a2 :: a3 :: a4 :: a5 :: a6 :: a7 :: r).set 7 none := rfl
  rw [e0] at hj
  by_cases hji : 7 = j
  · subst hji; simp at hj
  · rwa [List.getElem?_set_ne hji] at hj) k
theorem zt_istore_8 {a0 a1 a2 a3 a4 a5 a6 a7 a8 : Option zV} {r : List (Option zV)} {x : Int} (hd : decode cc pc = .ok (.istore 8, 2)) (hm : 8 < mL) (hn : zn2 (some a7) = true) (k : zT y cc mL rt d kc ks Q (pc + 2) (a0 :: a1 :: a2 :: a3 :: a4 :: a5 :: a6 :: a7 :: some (0, x) :: r) st n sh h) : zT y cc mL rt d kc ks Q pc (a0 :: a1 :: a2 :: a3 :: a4 :: a5 :: a6 :: a7 :: a8 :: r) ((0, x) :: st) n sh h := zg_istore (i := 8) hd hm (Or.inr hn) k
theorem zt_astore_8 {a0 a1 a2 a3 a4 a5 a6 a7 a8 : Option zV} {r : List (Option zV)} {x : Int} (hd : decode cc pc = .ok (.astore 8, 2)) (hm : 8 < mL) (hn : zn2 (some a7) = true) (k : zT y cc mL rt d kc ks Q (pc + 2) (a0 :: a1 :: a2 :: a3 :: a4 :: a5 :: a6 :: a7 :: some (2, x) :: r) st n sh h) : zT y cc mL rt d kc ks Q pc (a0 :: a1 :: a2 :: a3 :: a4 :: a5 :: a6 :: a7 :: a8 :: r) ((2, x) :: st) n sh h := zg_astore (i := 8) hd hm (Or.inr hn) k
theorem zt_lstore_8 {a0 a1 a2 a3 a4 a5 a6 a7 a8 b : Option zV} {r : List (Option zV)} {x : Int} (hd : decode cc pc = .ok (.lstore 8, 2)) (hm : 8 + 1 < mL) (hn : zn2 (some a7) = true) (k : zT y cc mL rt d kc ks Q (pc + 2) (a0 :: a1 :: a2 :: a3 :: a4 :: a5 :: a6 :: a7 :: some (1, x) :: none :: r) st n sh h) : zT y cc mL rt d kc ks Q pc (a0 :: a1 :: a2 :: a3 :: a4 :: a5 :: a6 :: a7 :: a8 :: b :: r) ((1, x) :: st) n sh h := zg_lstore (i := 8) hd hm (Or.inr hn) k
theorem zt_iinc_8 {a0 a1 a2 a3 a4 a5 a6 a7 : Option zV} {r : List (Option zV)} {x z : Int} (hd : decode cc pc = .ok (.iinc 8 z, 3)) (hm : 8 < mL) (hn : zn2 (some a7) = true) (k : zT y cc mL rt d kc ks Q (pc + 3) (a0 :: a1 :: a2 :: a3 :: a4 :: a5 :: a6 :: a7 :: some (0, x + z) :: r) st n sh h) : zT y cc mL rt d kc ks Q pc (a0 :: a1 :: a2 :: a3 :: a4 :: a5 :: a6 :: a7 :: some (0, x) :: r) st n sh h := zg_iinc (i := 8) hd hm rfl (Or.inr hn) k
theorem zt_kill_8 {a0 a1 a2 a3 a4 a5 a6 a7 a8 : Option zV} {r : List (Option zV)} (k : zT y cc mL rt d kc ks Q pc (a0 :: a1 :: a2 :: a3 :: a4 :: a5 :: a6 :: a7 :: none :: r) st n sh h) : zT y cc mL rt d kc ks Q pc (a0 :: a1 :: a2 :: a3 :: a4 :: a5 :: a6 :: a7 :: a8 :: r) st n sh h := zt_forget (fun j v hj => by
  have e0 : (a0 :: a1 :: a2 :: a3 :: a4 :: a5 :: a6 :: a7 :: none :: r : List (Option zV)) = (a0 :: a1 :: a2 :: a3 :: a4 :: a5 :: a6 :: a7 :: a8 :: r).set 8 none := rfl
  rw [e0] at hj
  by_cases hji : 8 = j
  · subst hji; simp at hj
  · rwa [List.getElem?_set_ne hji] at hj) k
theorem zt_istore_9 {a0 a1 a2 a3 a4 a5 a6 a7 a8 a9 : Option zV} {r : List (Option zV)} {x : Int} (hd : decode cc pc = .ok (.istore 9, 2)) (hm : 9 < mL) (hn : zn2 (some a8) = true) (k : zT y cc mL rt d kc ks Q (pc + 2) (a0 :: a1 :: a2 :: a3 :: a4 :: a5 :: a6 :: a7 :: a8 :: some (0, x) :: r) st n sh h) : zT y cc mL rt d kc ks Q pc (a0 :: a1 :: a2 :: a3 :: a4 :: a5 :: a6 :: a7 :: a8 :: a9 :: r) ((0, x) :: st) n sh h := zg_istore (i := 9) hd hm (Or.inr hn) k
theorem zt_astore_9 {a0 a1 a2 a3 a4 a5 a6 a7 a8 a9 : Option zV} {r : List (Option zV)} {x : Int} (hd : decode cc pc = .ok (.astore 9, 2)) (hm : 9 < mL) (hn : zn2 (some a8) = true) (k : zT y cc mL rt d kc ks Q (pc + 2) (a0 :: a1 :: a2 :: a3 :: a4 :: a5 :: a6 :: a7 :: a8 :: some (2, x) :: r) st n sh h) : zT y cc mL rt d kc ks Q pc (a0 :: a1 :: a2 :: a3 :: a4 :: a5 :: a6 :: a7 :: a8 :: a9 :: r) ((2, x) :: st) n sh h := zg_astore (i := 9) hd hm (Or.inr hn) k
theorem zt_lstore_9 {a0 a1 a2 a3 a4 a5 a6 a7 a8 a9 b : Option zV} {r : List (Option zV)} {x : Int} (hd : decode cc pc = .ok (.lstore 9, 2)) (hm : 9 + 1 < mL) (hn : zn2 (some a8) = true) (k : zT y cc mL rt d kc ks Q (pc + 2) (a0 :: a1 :: a2 :: a3 :: a4 :: a5 :: a6 :: a7 :: a8 :: some (1, x) :: none :: r) st n sh h) : zT y cc mL rt d kc ks Q pc (a0 :: a1 :: a2 :: a3 :: a4 :: a5 :: a6 :: a7 :: a8 :: a9 :: b :: r) ((1, x) :: st) n sh h := zg_lstore (i := 9) hd hm (Or.inr hn) k
theorem zt_iinc_9 {a0 a1 a2 a3 a4 a5 a6 a7 a8 : Option zV} {r : List (Option zV)} {x z : Int} (hd : decode cc pc = .ok (.iinc 9 z, 3)) (hm : 9 < mL) (hn : zn2 (some a8) = true) (k : zT y cc mL rt d kc ks Q (pc + 3) (a0 :: a1 :: a2 :: a3 :: a4 :: a5 :: a6 :: a7 :: a8 :: some (0, x + z) :: r) st n sh h) : zT y cc mL rt d kc ks Q pc (a0 :: a1 :: a2 :: a3 :: a4 :: a5 :: a6 :: a7 :: a8 :: some (0, x) :: r) st n sh h := zg_iinc (i := 9) hd hm rfl (Or.inr hn) k
theorem zt_kill_9 {a0 a1 a2 a3 a4 a5 a6 a7 a8 a9 : Option zV} {r : List (Option zV)} (k : zT y cc mL rt d kc ks Q pc (a0 :: a1 :: a2 :: a3 :: a4 :: a5 :: a6 :: a7 :: a8 :: none :: r) st n sh h) : zT y cc mL rt d kc ks Q pc (a0 :: a1 :: a2 :: a3 :: a4 :: a5 :: a6 :: a7 :: a8 :: a9 :: r) st n sh h := zt_forget (fun j v hj => by
  have e0 : (a0 :: a1 :: a2 :: a3 :: a4 :: a5 :: a6 :: a7 :: a8 :: none :: r : List (Option zV)) = (a0 :: a1 :: a2 :: a3 :: a4 :: a5 :: a6 :: a7 :: a8 :: a9 :: r).set 9 none := rfl
  rw [e0] at hj
  by_cases hji : 9 = j
  · subst hji; simp at hj
  · rwa [List.getElem?_set_ne hji] at hj) k
theorem zt_istore_10 {a0 a1 a2 a3 a4 a5 a6 a7 a8 a9 a10 : Option zV} {r : List (Option zV)} {x : Int} (hd : decode cc pc = .ok (.istore 10, 2)) (hm : 10 < mL) (hn : zn2 (some a9) = true) (k : zT y cc mL rt d kc ks Q (pc + 2) (a0 :: a1 :: a2 :: a3 :: a4 :: a5 :: a6 :: a7 :: a8 :: a9 :: some (0, x) :: r) st n sh h) : zT y cc mL rt d kc ks Q pc (a0 :: a1 :: a2 :: a3 :: a4 :: a5 :: a6 :: a7 :: a8 :: a9 :: a10 :: r) ((0, x) :: st) n sh h := zg_istore (i := 10) hd hm (Or.inr hn) k
theorem zt_astore_10 {a0 a1 a2 a3 a4 a5 a6 a7 a8 a9 a10 : Option zV} {r : List (Option zV)} {x : Int} (hd : decode cc pc = .ok (.astore 10, 2)) (hm : 10 < mL) (hn : zn2 (some a9) = true) (k : zT y cc mL rt d kc ks Q (pc + 2) (a0 :: a1 :: a2 :: a3 :: a4 :: a5 :: a6 :: a7 :: a8 :: a9 :: some (2, x) :: r) st n sh h) : zT y cc mL rt d kc ks Q pc (a0 :: a1 :: a2 :: a3 :: a4 :: a5 :: a6 :: a7 :: a8 :: a9 :: a10 :: r) ((2, x) :: st) n sh h := zg_astore (i := 10) hd hm (Or.inr hn) k
theorem zt_lstore_10 {a0 a1 a2 a3 a4 a5 a6 a7 a8 a9 a10 b : Option zV} {r : List (Option zV)} {x : Int} (hd : decode cc pc = .ok (.lstore 10, 2)) (hm : 10 + 1 < mL) (hn : zn2 (some a9) = true) (k : zT y cc mL rt d kc ks Q (pc + 2) (a0 :: a1 :: a2 :: a3 :: a4 :: a5 :: a6 :: a7 :: a8 :: a9 :: some (1, x) :: none :: r) st n sh h) : zT y cc mL rt d kc ks Q pc (a0 :: a1 :: a2 :: a3 :: a4 :: a5 :: a6 :: a7 :: a8 :: a9 :: a10 :: b :: r) ((1, x) :: st) n sh h := zg_lstore (i := 10) hd hm (Or.inr hn) k
theorem zt_iinc_10 {a0 a1 a2 a3 a4 a5 a6 a7 a8 a9 : Option zV} {r : List (Option zV)} {x z : Int} (hd : decode cc pc = .ok (.iinc 10 z, 3)) (hm : 10 < mL) (hn : zn2 (some a9) = true) (k : zT y cc mL rt d kc ks Q (pc + 3) (a0 :: a1 :: a2 :: a3 :: a4 :: a5 :: a6 :: a7 :: a8 :: a9 :: some (0, x + z) :: r) st n sh h) : zT y cc mL rt d kc ks Q pc (a0 :: a1 :: a2 :: a3 :: a4 :: a5 :: a6 :: a7 :: a8 :: a9 :: some (0, x) :: r) st n sh h := zg_iinc (i := 10) hd hm rfl (Or.inr hn) k
theorem zt_kill_10 {a0 a1 a2 a3 a4 a5 a6 a7 a8 a9 a10 : Option zV} {r : List (Option zV)} (k : zT y cc mL rt d kc ks Q pc (a0 :: a1 :: a2 :: a3 :: a4 :: a5 :: a6 :: a7 :: a8 :: a9 :: none :: r) st n sh h) : zT y cc mL rt d kc ks Q pc (a0 :: a1 :: a2 :: a3 :: a4 :: a5 :: a6 :: a7 :: a8 :: a9 :: a10 :: r) st n sh h := zt_forget (fun j v hj => by
  have e0 : (a0 :: a1 :: a2 :: a3 :: a4 :: a5 :: a6 :: a7 :: a8 :: a9 :: none :: r : List (Option zV)) = (a0 :: a1 :: a2 :: a3 :: a4 :: a5 :: a6 :: a7 :: a8 :: a9 :: a10 :: r).set 10 none := rfl
  rw [e0] at hj
  by_cases hji : 10 = j
  · subst hji; simp at hj
  · rwa [List.getElem?_set_ne hji] at hj) k
theorem zt_istore_11 {a0 a1 a2 a3 a4 a5 a6 a7 a8 a9 a10 a11 : Option zV} {r : List (Option zV)} {x : Int} (hd : decode cc pc = .ok (.istore 11, 2)) (hm : 11 < mL) (hn : zn2 (some a10) = true) (k : zT y cc mL rt d kc ks Q (pc + 2) (a0 :: a1 :: a2 :: a3 :: a4 :: a5 :: a6 :: a7 :: a8 :: a9 :: a10 :: some (0, x) :: r) st n sh h) : zT y cc mL rt d kc ks Q pc (a0 :: a1 :: a2 :: a3 :: a4 :: a5 :: a6 :: a7 :: a8 :: a9 :: a10 :: a11 :: r) ((0, x) :: st) n sh h := zg_istore (i := 11) hd hm (Or.inr hn) k
theorem zt_astore_11 {a0 a1 a2 a3 a4 a5 a6 a7 a8 a9 a10 a11 : Option zV} {r : List (Option zV)} {x : Int} (hd : decode cc pc = .ok (.astore 11, 2)) (hm : 11 < mL) (hn : zn2 (some a10) = true) (k : zT y cc mL rt d kc ks Q (pc + 2) (a0 :: a1 :: a2 :: a3 :: a4 :: a5 :: a6 :: a7 :: a8 :: a9 :: a10 :: some (2, x) :: r) st n sh h) : zT y cc mL rt d kc ks Q pc (a0 :: a1 :: a2 :: a3 :: a4 :: a5 :: a6 :: a7 :: a8 :: a9 :: a10 :: a11 :: r) ((2, x) :: st) n sh h := zg_astore (i := 11) hd hm (Or.inr hn) k
theorem zt_lstore_11 {a0 a1 a2 a3 a4 a5 a6 a7 a8 a9 a10 a11 b : Option zV} {r : List (Option zV)} {x : Int} (hd : decode cc pc = .ok (.lstore 11, 2)) (hm : 11 + 1 < mL) (hn : zn2 (some a10) = true) (k : zT y cc mL rt d kc ks Q (pc + 2) (a0 :: a1 :: a2 :: a3 :: a4 :: a5 :: a6 :: a7 :: a8 :: a9 :: a10 :: some (1, x) :: none :: r) st n sh h) : zT y cc mL rt d kc ks Q pc (a0 :: a1 :: a2 :: a3 :: a4 :: a5 :: a6 :: a7 :: a8 :: a9 :: a10 :: a11 :: b :: r) ((1, x) :: st) n sh h := zg_lstore (i := 11) hd hm (Or.inr hn) k
theorem zt_iinc_11 {a0 a1 a2 a3 a4 a5 a6 a7 a8 a9 a10 : Option zV} {r : List (Option zV)} {x z : Int} (hd : decode cc pc = .ok (.iinc 11 z, 3)) (hm : 11 < mL) (hn : zn2 (some a10) = true) (k : zT y cc mL rt d kc ks Q (pc + 3) (a0 :: a1 :: a2 :: a3 :: a4 :: a5 :: a6 :: a7 :: a8 :: a9 :: a10 :: some (0, x + z) :: r) st n sh h) : zT y cc mL rt d kc ks Q pc (a0 :: a1 :: a2 :: a3 :: a4 :: a5 :: a6 :: a7 :: a8 :: a9 :: a10 :: some (0, x) :: r) st n sh h := zg_iinc (i := 11) hd hm rfl (Or.inr hn) k
theorem zt_kill_11 {a0 a1 a2 a3 a4 a5 a6 a7 a8 a9 a10 a11 : Option zV} {r : List (Option zV)} (k : zT y cc mL rt d kc ks Q pc (a0 :: a1 :: a2 :: a3 :: a4 :: a5 :: a6 :: a7 :: a8 :: a9 :: a10 :: none :: r) st n sh h) : zT y cc mL rt d kc ks Q pc (a0 :: a1 :: a2 :: a3 :: a4 :: a5 :: a6 :: a7 :: a8 :: a9 :: a10 :: a11 :: r) st n sh h := zt_forget (fun j v hj => by
  have e0 : (a0 :: a1 :: a2 :: a3 :: a4 :: a5 :: a6 :: a7 :: a8 :: a9 :: a10 :: none :: r : List (Option zV)) = (a0 :: a1 :: a2 :: a3 :: a4 :: a5 :: a6 :: a7 :: a8 :: a9 :: a10 :: a11 :: r).set 11 none := rfl
  rw [e0] at hj
  by_cases hji : 11 = j
  · subst hji; simp at hj
  · rwa [List.getElem?_set_ne hji] at hj) k
theorem zt_istore_12 {a0 a1 a2 a3 a4 a5 a6 a7 a8 a9 a10 a11 a12 : Option zV} {r : List (Option zV)} {x : Int} (hd : decode cc pc = .ok (.istore 12, 2)) (hm : 12 < mL) (hn : zn2 (some a11) = true) (k : zT y cc mL rt d kc ks Q (pc + 2) (a0 :: a1 :: a2 :: a3 :: a4 :: a5 :: a6 :: a7 :: a8 :: a9 :: a10 :: a11 :: some (0, x) :: r) st n sh h) : zT y cc mL rt d kc ks Q pc (a0 :: a1 :: a2 :: a3 :: a4 :: a5 :: a6 :: a7 :: a8 :: a9 :: a10 :: a11 :: a12 :: r) ((0, x) :: st) n sh h := zg_istore (i := 12) hd hm (Or.inr hn) k
theorem zt_astore_12 {a0 a1 a2 a3 a4 a5 a6 a7 a8 a9 a10 a11 a12 : Option zV} {r : List (Option zV)} {x : Int} (hd : decode cc pc = .ok (.astore 12, 2)) (hm : 12 < mL) (hn : zn2 (some a11) = true) (k : zT y cc mL rt d kc ks Q (pc + 2) (a0 :: a1 :: a2 :: a3 :: a4 :: a5 :: a6 :: a7 :: a8 :: a9 :: a10 :: a11 :: some (2, x) :: r) st n sh h) : zT y cc mL rt d kc ks Q pc (a0 :: a1 :: a2 :: a3 :: a4 :: a5 :: a6 :: a7 :: a8 :: a9 :: a10 :: a11 :: a12 :: r) ((2, x) :: st) n sh h := zg_astore (i := 12) hd hm (Or.inr hn) k
theorem zt_lstore_12 {a0 a1 a2 a3 a4 a5 a6 a7 a8 a9 a10 a11 a12 b : Option zV} {r : List (Option zV)} {x : Int} (hd : decode cc pc = .ok (.lstore 12, 2)) (hm : 12 + 1 < mL) (hn : zn2 (some a11) = true) (k : zT y cc mL rt d kc ks Q (pc + 2) (a0 :: a1 :: a2 :: a3 :: a4 :: a5 :: a6 :: a7 :: a8 :: a9 :: a10 :: a11 :: some (1, x) :: none :: r) st n sh h) : zT y cc mL rt d kc ks Q pc (a0 :: a1 :: a2 :: a3 :: a4 :: a5 :: a6 :: a7 :: a8 :: a9 :: a10 :: a11 :: a12 :: b :: r) ((1, x) :: st) n sh h := zg_lstore (i := 12) hd hm (Or.inr hn) k
theorem zt_iinc_12 {a0 a1 a2 a3 a4 a5 a6 a7 a8 a9 a10 a11 : Option zV} {r : List (Option zV)} {x z : Int} (hd : decode cc pc = .ok (.iinc 12 z, 3)) (hm : 12 < mL) (hn : zn2 (some a11) = true) (k : zT y cc mL rt d kc ks Q (pc + 3) (a0 :: a1 :: a2 :: a3 :: a4 :: a5 :: a6 :: a7 :: a8 :: a9 :: a10 :: a11 :: some (0, x + z) :: r) st n sh h) : zT y cc mL rt d kc ks Q pc (a0 :: a1 :: a2 :: a3 :: a4 :: a5 :: a6 :: a7 :: a8 :: a9 :: a10 :: a11 :: some (0, x) :: r) st n sh h := zg_iinc (i := 12) hd hm rfl (Or.inr hn) k
theorem zt_kill_12 {a0 a1 a2 a3 a4 a5 a6 a7 a8 a9 a10 a11 a12 : Option zV} {r : List (Option zV)} (k : zT y cc mL rt d kc ks Q pc (a0 :: a1 :: a2 :: a3 :: a4 :: a5 :: a6 :: a7 :: a8 :: a9 :: a10 :: a11 :: none :: r) st n sh h) : zT y cc mL rt d kc ks Q pc (a0 :: a1 :: a2 :: a3 :: a4 :: a5 :: a6 :: a7 :: a8 :: a9 :: a10 :: a11 :: a12 :: r) st n sh h := zt_forget (fun j v hj => by
  have e0 : (a0 :: a1 :: a2 :: a3 :: a4 :: a5 :: a6 :: a7 :: a8 :: a9 :: a10 :: a11 :: none :: r : List (Option zV)) = (a0 :: a1 :: a2 :: a3 :: a4 :: a5 :: a6 :: a7 :: a8 :: a9 :: a10 :: a11 :: a12 :: r).set 12 none := rfl
  rw [e0] at hj
  by_cases hji : 12 = j
  · subst hji; simp at hj
  · rwa [List.getElem?_set_ne hji] at hj) k
theorem zt_istore_13 {a0 a1 a2 a3 a4 a5 a6 a7 a8 a9 a10 a11 a12 a13 : Option zV} {r : List (Option zV)} {x : Int} (hd : decode cc pc = .ok (.istore 13, 2)) (hm : 13 < mL) (hn : zn2 (some a12) = true) (k : zT y cc mL rt d kc ks Q (pc + 2) (a0 :: a1 :: a2 :: a3 :: a4 :: a5 :: a6 :: a7 :: a8 :: a9 :: a10 :: a11 :: a12 :: some (0, x) :: r) st n sh h) : zT y cc mL rt d kc ks Q pc (a0 :: a1 :: a2 :: a3 :: a4 :: a5 :: a6 :: a7 :: a8 :: a9 :: a10 :: a11 :: a12 :: a13 :: r) ((0, x) :: st) n sh h := zg_istore (i := 13) hd hm (Or.inr hn) k
theorem zt_astore_13 {a0 a1 a2 a3 a4 a5 a6 a7 a8 a9 a10 a11 a12 a13 : Option zV} {r : List (Option zV)} {x : Int} (hd : decode cc pc = .ok (.astore 13, 2)) (hm : 13 < mL) (hn : zn2 (some a12) = true) (k : zT y cc mL rt d kc ks Q (pc + 2) (a0 :: a1 :: a2 :: a3 :: a4 :: a5 :: a6 :: a7 :: a8 :: a9 :: a10 :: a11 :: a12 :: some (2, x) :: r) st n sh h) : zT y cc mL rt d kc ks Q pc (a0 :: a1 :: a2 :: a3 :: a4 :: a5 :: a6 :: a7 :: a8 :: a9 :: a10 :: a11 :: a12 :: a13 :: r) ((2, x) :: st) n sh h := zg_astore (i := 13) hd hm (Or.inr hn) k
theorem zt_lstore_13 {a0 a1 a2 a3 a4 a5 a6 a7 a8 a9 a10 a11 a12 a13 b : Option zV} {r : List (Option zV)} {x : Int} (hd : decode cc pc = .ok (.lstore 13, 2)) (hm : 13 + 1 < mL) (hn : zn2 (some a12) = true) (k : zT y cc mL rt d kc ks Q (pc + 2) (a0 :: a1 :: a2 :: a3 :: a4 :: a5 :: a6 :: a7 :: a8 :: a9 :: a10 :: a11 :: a12 :: some (1, x) :: none :: r) st n sh h) : zT y cc mL rt d kc ks Q pc (a0 :: a1 :: a2 :: a3 :: a4 :: a5 :: a6 :: a7 :: a8 :: a9 :: a10 :: a11 :: a12 :: a13 :: b :: r) ((1, x) :: st) n sh h := zg_lstore (i := 13) hd hm (Or.inr hn) k
theorem zt_iinc_13 {a0 a1 a2 a3 a4 a5 a6 a7 a8 a9 a10 a11 a12 : Option zV} {r : List (Option zV)} {x z : Int} (hd : decode cc pc = .ok (.iinc 13 z, 3)) (hm : 13 < mL) (hn : zn2 (some a12) = true) (k : zT y cc mL rt d kc ks Q (pc + 3) (a0 :: a1 :: a2 :: a3 :: a4 :: a5 :: a6 :: a7 :: a8 :: a9 :: a10 :: a11 :: a12 :: some (0, x + z) :: r) st n sh h) : zT y cc mL rt d kc ks Q pc (a0 :: a1 :: a2 :: a3 :: a4 :: a5 :: a6 :: a7 :: a8 :: a9 :: a10 :: a11 :: a12 :: some (0, x) :: r) st n sh h := zg_iinc (i := 13) hd hm rfl (Or.inr hn) k
theorem zt_kill_13 {a0 a1 a2 a3 a4 a5 a6 a7 a8 a9 a10 a11 a12 a13 : Option zV} {r : List (Option zV)} (k : zT y cc mL rt d kc ks Q pc (a0 :: a1 :: a2 :: a3 :: a4 :: a5 :: a6 :: a7 :: a8 :: a9 :: a10 :: a11 :: a12 :: none :: r) st n sh h) : zT y cc mL rt d kc ks Q pc (a0 :: a1 :: a2 :: a3 :: a4 :: a5 :: a6 :: a7 :: a8 :: a9 :: a10 :: a11 :: a12 :: a13 :: r) st n sh h := zt_forget (fun j v hj => by
  have e0 : (a0 :: a1 :: a2 :: a3 :: a4 :: a5 :: a6 :: a7 :: a8 :: a9 :: a10 :: a11 :: a12 :: none :: r : List (Option zV)) = (a0 :: a1 :: a2 :: a3 :: a4 :: a5 :: a6 :: a7 :: a8 :: a9 :: a10 :: a11 :: a12 :: a13 :: r).set 13 none := rfl
  rw [e0] at hj
  by_cases hji : 13 = j
  · subst hji; simp at hj
  · rwa [List.getElem?_set_ne hji] at hj) k
theorem zt_istore_14 {a0 a1 a2 a3 a4 a5 a6 a7 a8 a9 a10 a11 a12 a13 a14 : Option zV} {r : List (Option zV)} {x : Int} (hd : decode cc pc = .ok (.istore 14, 2)) (hm : 14 < mL) (hn : zn2 (some a13) = true) (k : zT y cc mL rt d kc ks Q (pc + 2) (a0 :: a1 :: a2 :: a3 :: a4 :: a5 :: a6 :: a7 :: a8 :: a9 :: a10 :: a11 :: a12 :: a13 :: some (0, x) :: r) st n sh h) : zT y cc mL rt d kc ks Q pc (a0 :: a1 :: a2 :: a3 :: a4 :: a5 :: a6 :: a7 :: a8 :: a9 :: a10 :: a11 :: a12 :: a13 :: a14 :: r) ((0, x) :: st) n sh h := zg_istore (i := 14) hd hm (Or.inr hn) k
theorem zt_astore_14 {a0 a1 a2 a3 a4 a5 a6 a7 a8 a9 a10 a11 a12 a13 a14 : Option zV} {r : List (Option zV)} {x : Int} (hd : decode cc pc = .ok (.astore 14, 2)) (hm : 14 < mL) (hn : zn2 (some a13) = true) (k : zT y cc mL rt d kc ks Q (pc + 2) (a0 :: a1 :: a2 :: a3 :: a4 :: a5 :: a6 :: a7 :: a8 :: a9 :: a10 :: a11 :: a12 :: a13 :: some (2, x) :: r) st n sh h) : zT y cc mL rt d kc ks Q pc (a0 :: a1 :: a2 :: a3 :: a4 :: a5 :: a6 :: a7 :: a8 :: a9 :: a10 :: a11 :: a12 :: a13 :: a14 :: r) ((2, x) :: st) n sh h := zg_astore (i := 14) hd hm (Or.inr hn) k
theorem zt_lstore_14 {a0 a1 a2 a3 a4 a5 a6 a7 a8 a9 a10 a11 a12 a13 a14 b : Option zV} {r : List (Option zV)} {x : Int} (hd : decode cc pc = .ok (.lstore 14, 2)) (hm : 14 + 1 < mL) (hn : zn2 (some a13) = true) (k : zT y cc mL rt d kc ks Q (pc + 2) (a0 :: a1 :: a2 :: a3 :: a4 :: a5 :: a6 :: a7 :: a8 :: a9 :: a10 :: a11 :: a12 :: a13 :: some (1, x) :: none :: r) st n sh h) : zT y cc mL rt d kc ks Q pc (a0 :: a1 :: a2 :: a3 :: a4 :: a5 :: a6 :: a7 :: a8 :: a9 :: a10 :: a11 :: a12 :: a13 :: a14 :: b :: r) ((1, x) :: st) n sh h := zg_lstore (i := 14) hd hm (Or.inr hn) k
theorem zt_iinc_14 {a0 a1 a2 a3 a4 a5 a6 a7 a8 a9 a10 a11 a12 a13 : Option zV} {r : List (Option zV)} {x z : Int} (hd : decode cc pc = .ok (.iinc 14 z, 3)) (hm : 14 < mL) (hn : zn2 (some a13) = true) (k : zT y cc mL rt d kc ks Q (pc + 3) (a0 :: a1 :: a2 :: a3 :: a4 :: a5 :: a6 :: a7 :: a8 :: a9 :: a10 :: a11 :: a12 :: a13 :: some (0, x + z) :: r) st n sh h) : zT y cc mL rt d kc ks Q pc (a0 :: a1 :: a2 :: a3 :: a4 :: a5 :: a6 :: a7 :: a8 :: a9 :: a10 :: a11 :: a12 :: a13 :: some (0, x) :: r) st n sh h := zg_iinc (i := 14) hd hm rfl (Or.inr hn) k
theorem zt_kill_14 {a0 a1 a2 a3 a4 a5 a6 a7 a8 a9 a10 a11 a12 a13 a14 : Option zV} {r : List (Option zV)} (k : zT y cc mL rt d kc ks Q pc (a0 :: a1 :: a2 :: a3 :: a4 :: a5 :: a6 :: a7 :: a8 :: a9 :: a10 :: a11 :: a12 :: a13 :: none :: r) st n sh h) : zT y cc mL rt d kc ks Q pc (a0 :: a1 :: a2 :: a3 :: a4 :: a5 :: a6 :: a7 :: a8 :: a9 :: a10 :: a11 :: a12 :: a13 :: a14 :: r) st n sh h := zt_forget (fun j v hj => by
  have e0 : (a0 :: a1 :: a2 :: a3 :: a4 :: a5 :: a6 :: a7 :: a8 :: a9 :: a10 :: a11 :: a12 :: a13 :: none :: r : List (Option zV)) = (a0 :: a1 :: a2 :: a3 :: a4 :: a5 :: a6 :: a7 :: a8 :: a9 :: a10 :: a11 :: a12 :: a13 :: a14 :: r).set 14 none := rfl
  rw [e0] at hj
  by_cases hji : 14 = j
  · subst hji; simp at hj
  · rwa [List.getElem?_set_ne hji] at hj) k
theorem zt_istore_15 {a0 a1 a2 a3 a4 a5 a6 a7 a8 a9 a10 a11 a12 a13 a14 a15 : Option zV} {r : List (Option zV)} {x : Int} (hd : decode cc pc = .ok (.istore 15, 2)) (hm : 15 < mL) (hn : zn2 (some a14) = true) (k : zT y cc mL rt d kc ks Q (pc + 2) (a0 :: a1 :: a2 :: a3 :: a4 :: a5 :: a6 :: a7 :: a8 :: a9 :: a10 :: a11 :: a12 :: a13 :: a14 :: some (0, x) :: r) st n sh h) : zT y cc mL rt d kc ks Q pc (a0 :: a1 :: a2 :: a3 :: a4 :: a5 :: a6 :: a7 :: a8 :: a9 :: a10 :: a11 :: a12 :: a13 :: a14 :: a15 :: r) ((0, x) :: st) n sh h := zg_istore (i := 15) hd hm (Or.inr hn) k
theorem zt_astore_15 {a0 a1 a2 a3 a4 a5 a6 a7 a8 a9 a10 a11 a12 a13 a14 a15 : Option zV} {r : List (Option zV)} {x : Int} (hd : decode cc pc = .ok (.astore 15, 2)) (hm : 15 < mL) (hn : zn2 (some a14) = true) (k : zT y cc mL rt d kc ks Q (pc + 2) (a0 :: a1 :: a2 :: a3 :: a4 :: a5 :: a6 :: a7 :: a8 :: a9 :: a10 :: a11 :: a12 :: a13 :: a14 :: some (2, x) :: r) st n sh h) : zT y cc mL rt d kc ks Q pc (a0 :: a1 :: a2 :: a3 :: a4 :: a5 :: a6 :: a7 :: a8 :: a9 :: a10 :: a11 :: a12 :: a13 :: a14 :: a15 :: r) ((2, x) :: st) n sh h := zg_astore (i := 15) hd hm (Or.inr hn) k
theorem zt_lstore_15 {a0 a1 a2 a3 a4 a5 a6 a7 a8 a9 a10 a11 a12 a13 a14 a15 b : Option zV} {r : List (Option zV)} {x : Int} (hd : decode cc pc = .ok (.lstore 15, 2)) (hm : 15 + 1 < mL) (hn : zn2 (some a14) = true) (k : zT y cc mL rt d kc ks Q (pc + 2) (a0 :: a1 :: a2 :: a3 :: a4 :: a5 :: a6 :: a7 :: a8 :: a9 :: a10 :: a11 :: a12 :: a13 :: a14 :: some (1, x) :: none :: r) st n sh h) : zT y cc mL rt d kc ks Q pc (a0 :: a1 :: a2 :: a3 :: a4 :: a5 :: a6 :: a7 :: a8 :: a9 :: a10 :: a11 :: a12 :: a13 :: a14 :: a15 :: b :: r) ((1, x) :: st) n sh h := zg_lstore (i := 15) hd hm (Or.inr hn) k
theorem zt_iinc_15 {a0 a1 a2 a3 a4 a5 a6 a7 a8 a9 a10 a11 a12 a13 a14 : Option zV} {r : List (Option zV)} {x z : Int} (hd : decode cc pc = .ok (.iinc 15 z, 3)) (hm : 15 < mL) (hn : zn2 (some a14) = true) (k : zT y cc mL rt d kc ks Q (pc + 3) (a0 :: a1 :: a2 :: a3 :: a4 :: a5 :: a6 :: a7 :: a8 :: a9 :: a10 :: a11 :: a12 :: a13 :: a14 :: some (0, x + z) :: r) st n sh h) : zT y cc mL rt d kc ks Q pc (a0 :: a1 :: a2 :: a3 :: a4 :: a5 :: a6 :: a7 :: a8 :: a9 :: a10 :: a11 :: a12 :: a13 :: a14 :: some (0, x) :: r) st n sh h := zg_iinc (i := 15) hd hm rfl (Or.inr hn) k
theorem zt_kill_15 {a0 a1 a2 a3 a4 a5 a6 a7 a8 a9 a10 a11 a12 a13 a14 a15 : Option zV} {r : List (Option zV)} (k : zT y cc mL rt d kc ks Q pc (a0 :: a1 :: a2 :: a3 :: a4 :: a5 :: a6 :: a7 :: a8 :: a9 :: a10 :: a11 :: a12 :: a13 :: a14 :: none :: r) st n sh h) : zT y cc mL rt d kc ks Q pc (a0 :: a1 :: a2 :: a3 :: a4 :: a5 :: a6 :: a7 :: a8 :: a9 :: a10 :: a11 :: a12 :: a13 :: a14 :: a15 :: r) st n sh h := zt_forget (fun j v hj => by
  have e0 : (a0 :: a1 :: a2 :: a3 :: a4 :: a5 :: a6 :: a7 :: a8 :: a9 :: a10 :: a11 :: a12 :: a13 :: a14 :: none :: r : List (Option zV)) = (a0 :: a1 :: a2 :: a3 :: a4 :: a5 :: a6 :: a7 :: a8 :: a9 :: a10 :: a11 :: a12 :: a13 :: a14 :: a15 :: r).set 15 none := rfl
  rw [e0] at hj
  by_cases hji : 15 = j
  · subst hji; simp at hj
  · rwa [List.getElem?_set_ne hji] at hj) k
theorem zt_istore_16 {a0 a1 a2 a3 a4 a5 a6 a7 a8 a9 a10 a11 a12 a13 a14 a15 a16 : Option zV} {r : List (Option zV)} {x : Int} (hd : decode cc pc = .ok (.istore 16, 2)) (hm : 16 < mL) (hn : zn2 (some a15) = true) (k : zT y cc mL rt d kc ks Q (pc + 2) (a0 :: a1 :: a2 :: a3 :: a4 :: a5 :: a6 :: a7 :: a8 :: a9 :: a10 :: a11 :: a12 :: a13 :: a14 :: a15 :: some (0, x) :: r) st n sh h) : zT y cc mL rt d kc ks Q pc (a0 :: a1 :: a2 :: a3 :: a4 :: a5 :: a6 :: a7 :: a8 :: a9 :: a10 :: a11 :: a12 :: a13 :: a14 :: a15 :: a16 :: r) ((0, x) :: st) n sh h := zg_istore (i := 16) hd hm (Or.inr hn) k
theorem zt_astore_16 {a0 a1 a2 a3 a4 a5 a6 a7 a8 a9 a10 a11 a12 a13 a14 a15 a16 : Option zV} {r : List (Option zV)} {x : Int} (hd : decode cc pc = .ok (.astore 16, 2)) (hm : 16 < mL) (hn : zn2 (some a15) = true) (k : zT y cc mL rt d kc ks Q (pc + 2) (a0 :: a1 :: a2 :: a3 :: a4 :: a5 :: a6 :: a7 :: a8 :: a9 :: a10 :: a11 :: a12 :: a13 :: a14 :: a15 :: some (2, x) :: r) st n sh h) : zT y cc mL rt d kc ks Q pc (a0 :: a1 :: a2 :: a3 :: a4 :: a5 :: a6 :: a7 :: a8 :: a9 :: a10 :: a11 :: a12 :: a13 :: a14 :: a15 :: a16 :: r) ((2, x) :: st) n sh h := zg_astore (i := 16) hd hm (Or.inr hn) k
theorem zt_lstore_16 {a0 a1 a2 a3 a4 a5 a6 a7 a8 a9 a10 a11 a12 a13 a14 a15 a16 b : Option zV} {r : List (Option zV)} {x : Int} (hd : decode cc pc = .ok (.lstore 16, 2)) (hm : 16 + 1 < mL) (hn : zn2 (some a15) = true) (k : zT y cc mL rt d kc ks Q (pc + 2) (a0 :: a1 :: a2 :: a3 :: a4 :: a5 :: a6 :: a7 :: a8 :: a9 :: a10 :: a11 :: a12 :: a13 :: a14 :: a15 :: some (1, x) :: none :: r) st n sh h) : zT y cc mL rt d kc ks Q pc (a0 :: a1 :: a2 :: a3 :: a4 :: a5 :: a6 :: a7 :: a8 :: a9 :: a10 :: a11 :: a12 :: a13 :: a14 :: a15 :: a16 :: b :: r) ((1, x) :: st) n sh h := zg_lstore (i := 16) hd hm (Or.inr hn) k
theorem zt_iinc_16 {a0 a1 a2 a3 a4 a5 a6 a7 a8 a9 a10 a11 a12 a13 a14 a15 : Option zV} {r : List (Option zV)} {x z : Int} (hd : decode cc pc = .ok (.iinc 16 z, 3)) (hm : 16 < mL) (hn : zn2 (some a15) = true) (k : zT y cc mL rt d kc ks Q (pc + 3) (a0 :: a1 :: a2 :: a3 :: a4 :: a5 :: a6 :: a7 :: a8 :: a9 :: a10 :: a11 :: a12 :: a13 :: a14 :: a15 :: some (0, x + z) :: r) st n sh h) : zT y cc mL rt d kc ks Q pc (a0 :: a1 :: a2 :: a3 :: a4 :: a5 :: a6 :: a7 :: a8 :: a9 :: a10 :: a11 :: a12 :: a13 :: a14 :: a15 :: some (0, x) :: r) st n sh h := zg_iinc (i := 16) hd hm rfl (Or.inr hn) k
theorem zt_kill_16 {a0 a1 a2 a3 a4 a5 a6 a7 a8 a9 a10 a11 a12 a13 a14 a15 a16 : Option zV} {r : List (Option zV)} (k : zT y cc mL rt d kc ks Q pc (a0 :: a1 :: a2 :: a3 :: a4 :: a5 :: a6 :: a7 :: a8 :: a9 :: a10 :: a11 :: a12 :: a13 :: a14 :: a15 :: none :: r) st n sh h) : zT y cc mL rt d kc ks Q pc (a0 :: a1 :: a2 :: a3 :: a4 :: a5 :: a6 :: a7 :: a8 :: a9 :: a10 :: a11 :: a12 :: a13 :: a14 :: a15 :: a16 :: r) st n sh h := zt_forget (fun j v hj => by
  have e0 : (a0 :: a1 :: a2 :: a3 :: a4 :: a5 :: a6 :: a7 :: a8 :: a9 :: a10 :: a11 :: a12 :: a13 :: a14 :: a15 :: none :: r : List (Option zV)) = (a0 :: a1 :: a2 :: a3 :: a4 :: a5 :: a6 :: a7 :: a8 :: a9 :: a10 :: a11 :: a12 :: a13 :: a14 :: a15 :: a16 :: r).set 16 none := rfl
  rw [e0] at hj
  by_cases hji : 16 = j
  · subst hji; simp at hj
  · rwa [List.getElem?_set_ne hji] at hj) k
theorem zt_istore_17 {a0 a1 a2 a3 a4 a5 a6 a7 a8 a9 a10 a11 a12 a13 a14 a15 a16 a17 : Option zV} {r : List (Option zV)} {x : Int} (hd : decode cc pc = .ok (.istore 17, 2)) (hm : 17 < mL) (hn : zn2 (some a16) = true) (k : zT y cc mL rt d kc ks Q (pc + 2) (a0 :: a1 :: a2 :: a3 :: a4 :: a5 :: a6 :: a7 :: a8 :: a9 :: a10 :: a11 :: a12 :: a13 :: a14 :: a15 :: a16 :: some (0, x) :: r) st n sh h) : zT y cc mL rt d kc ks Q pc (a0 :: a1 :: a2 :: a3 :: a4 :: a5 :: a6 :: a7 :: a8 :: a9 :: a10 :: a11 :: a12 :: a13 :: a14 :: a15 :: a16 :: a17 :: r) ((0, x) :: st) n sh h := zg_istore (i := 17) hd hm (Or.inr hn) k
theorem zt_astore_17 {a0 a1 a2 a3 a4 a5 a6 a7 a8 a9 a10 a11 a12 a13 a14 a15 a16 a17 : Option zV} {r : List (Option zV)} {x : Int} (hd : decode cc pc = .ok (.astore 17, 2)) (hm : 17 < mL) (hn : zn2 (some a16) = true) (k : zT y cc mL rt d kc ks Q (pc + 2) (a0 :: a1 :: a2 :: a3 :: a4 :: a5 :: a6 :: a7 :: a8 :: a9 :: a10 :: a11 :: a12 :: a13 :: a14 :: a15 :: a16 :: some (2, x) :: r) st n sh h) : zT y cc mL rt d kc ks Q pc (a0 :: a1 :: a2 :: a3 :: a4 :: a5 :: a6 :: a7 :: a8 :: a9 :: a10 :: a11 :: a12 :: a13 :: a14 :: a15 :: a16 :: a17 :: r) ((2, x) :: st) n sh h := zg_astore (i := 17) hd hm (Or.inr hn) k
theorem zt_lstore_17 {a0 a1 a2 a3 a4 a5 a6 a7 a8 a9 a10 a11 a12 a13 a14 a15 a16 a17 b : Option zV} {r : List (Option zV)} {x : Int} (hd : decode cc pc = .ok (.lstore 17, 2)) (hm : 17 + 1 < mL) (hn : zn2 (some a16) = true) (k : zT y cc mL rt d kc ks Q (pc + 2) (a0 :: a1 :: a2 :: a3 :: a4 :: a5 :: a6 :: a7 :: a8 :: a9 :: a10 :: a11 :: a12 :: a13 :: a14 :: a15 :: a16 :: some (1, x) :: none :: r) st n sh h) : zT y cc mL rt d kc ks Q pc (a0 :: a1 :: a2 :: a3 :: a4 :: a5 :: a6 :: a7 :: a8 :: a9 :: a10 :: a11 :: a12 :: a13 :: a14 :: a15 :: a16 :: a17 :: b :: r) ((1, x) :: st) n sh h := zg_lstore (i := 17) hd hm (Or.inr hn) k
theorem zt_iinc_17 {a0 a1 a2 a3 a4 a5 a6 a7 a8 a9 a10 a11 a12 a13 a14 a15 a16 : Option zV} {r : List (Option zV)} {x z : Int} (hd : decode cc pc = .ok (.iinc 17 z, 3)) (hm : 17 < mL) (hn : zn2 (some a16) = true) (k : zT y cc mL rt d kc ks Q (pc + 3) (a0 :: a1 :: a2 :: a3 :: a4 :: a5 :: a6 :: a7 :: a8 :: a9 :: a10 :: a11 :: a12 :: a13 :: a14 :: a15 :: a16 :: some (0, x + z) :: r) st n sh h) : zT y cc mL rt d kc ks Q pc (a0 :: a1 :: a2 :: a3 :: a4 :: a5 :: a6 :: a7 :: a8 :: a9 :: a10 :: a11 :: a12 :: a13 :: a14 :: a15 :: a16 :: some (0, x) :: r) st n sh h := zg_iinc (i := 17) hd hm rfl (Or.inr hn) k
theorem zt_kill_17 {a0 a1 a2 a3 a4 a5 a6 a7 a8 a9 a10 a11 a12 a13 a14 a15 a16 a17 : Option zV} {r : List (Option zV)} (k : zT y cc mL rt d kc ks Q pc (a0 :: a1 :: a2 :: a3 :: a4 :: a5 :: a6 :: a7 :: a8 :: a9 :: a10 :: a11 :: a12 :: a13 :: a14 :: a15 :: a16 :: none :: r) st n sh h) : zT y cc mL rt d kc ks Q pc (a0 :: a1 :: a2 :: a3 :: a4 :: a5 :: a6 :: a7 :: a8 :: a9 :: a10 :: a11 :: a12 :: a13 :: a14 :: a15 :: a16 :: a17 :: r) st n sh h := zt_forget (fun j v hj => by
  have e0 : (a0 :: a1 :: a2 :: a3 :: a4 :: a5 :: a6 :: a7 :: a8 :: a9 :: a10 :: a11 :: a12 :: a13 :: a14 :: a15 :: a16 :: none :: r : List (Option zV)) = (a0 :: a1 :: a2 :: a3 :: a4 :: a5 :: a6 :: a7 :: a8 :: a9 :: a10 :: a11 :: a12 :: a13 :: a14 :: a15 :: a16 :: a17 :: r).set 17 none := rfl
  rw [e0] at hj
  by_cases hji : 17 = j
  · subst hji; simp at hj
  · rwa [List.getElem?_set_ne hji] at hj) k
theorem zt_istore_18 {a0 a1 a2 a3 a4 a5 a6 a7 a8 a9 a10 a11 a12 a13 a14 a15 a16 a17 a18 : Option zV} {r : List (Option zV)} {x : Int} (hd : decode cc pc = .ok (.istore 18, 2)) (hm : 18 < mL) (hn : zn2 (some a17) = true) (k : zT y cc mL rt d kc ks Q (pc + 2) (a0 :: a1 :: a2 :: a3 :: a4 :: a5 :: a6 :: a7 :: a8 :: a9 :: a10 :: a11 :: a12 :: a13 :: a14 :: a15 :: a16 :: a17 :: some (0, x) :: r) st n sh h) : zT y cc mL rt d kc ks Q pc (a0 :: a1 :: a2 :: a3 :: a4 :: a5 :: a6 :: a7 :: a8 :: a9 :: a10 :: a11 :: a12 :: a13 :: a14 :: a15 :: a16 :: a17 :: a18 :: r) ((0, x) :: st) n sh h := zg_istore (i := 18) hd hm (Or.inr hn) k
theorem zt_astore_18 {a0 a1 a2 a3 a4 a5 a6 a7 a8 a9 a10 a11 a12 a13 a14 a15 a16 a17 a18 : Option zV} {r : List (Option zV)} {x : Int} (hd : decode cc pc = .ok (.astore 18, 2)) (hm : 18 < mL) (hn : zn2 (some a17) = true) (k : zT y cc mL rt d kc ks Q (pc + 2) (a0 :: a1 :: a2 :: a3 :: a4 :: a5 :: a6 :: a7 :: a8 :: a9 :: a10 :: a11 :: a12 :: a13 :: a14 :: a15 :: a16 :: a17 :: some (2, x) :: r) st n sh h) : zT y cc mL rt d kc ks Q pc (a0 :: a1 :: a2 :: a3 :: a4 :: a5 :: a6 :: a7 :: a8 :: a9 :: a10 :: a11 :: a12 :: a13 :: a14 :: a15 :: a16 :: a17 :: a18 :: r) ((2, x) :: st) n sh h := zg_astore (i := 18) hd hm (Or.inr hn) k
theorem zt_lstore_18 {a0 a1 a2 a3 a4 a5 a6 a7 a8 a9 a10 a11 a12 a13 a14 a15 a16 a17 a18 b : Option zV} {r : List (Option zV)} {x : Int} (hd : decode cc pc = .ok (.lstore 18, 2)) (hm : 18 + 1 < mL) (hn : zn2 (some a17) = true) (k : zT y cc mL rt d kc ks Q (pc + 2) (a0 :: a1 :: a2 :: a3 :: a4 :: a5 :: a6 :: a7 :: a8 :: a9 :: a10 :: a11 :: a12 :: a13 :: a14 :: a15 :: a16 :: a17 :: some (1, x) :: none :: r) st n sh h) : zT y cc mL rt d kc ks Q pc (a0 :: a1 :: a2 :: a3 :: a4 :: a5 :: a6 :: a7 :: a8 :: a9 :: a10 :: a11 :: a12 :: a13 :: a14 :: a15 :: a16 :: a17 :: a18 :: b :: r) ((1, x) :: st) n sh h := zg_lstore (i := 18) hd hm (Or.inr hn) k
theorem zt_iinc_18 {a0 a1 a2 a3 a4 a5 a6 a7 a8 a9 a10 a11 a12 a13 a14 a15 a16 a17 : Option zV} {r : List (Option zV)} {x z : Int} (hd : decode cc pc = .ok (.iinc 18 z, 3)) (hm : 18 < mL) (hn : zn2 (some a17) = true) (k : zT y cc mL rt d kc ks Q (pc + 3) (a0 :: a1 :: a2 :: a3 :: a4 :: a5 :: a6 :: a7 :: a8 :: a9 :: a10 :: a11 :: a12 :: a13 :: a14 :: a15 :: a16 :: a17 :: some (0, x + z) :: r) st n sh h) : zT y cc mL rt d kc ks Q pc (a0 :: a1 :: a2 :: a3 :: a4 :: a5 :: a6 :: a7 :: a8 :: a9 :: a10 :: a11 :: a12 :: a13 :: a14 :: a15 :: a16 :: a17 :: some (0, x) :: r) st n sh h := zg_iinc (i := 18) hd hm rfl (Or.inr hn) k
theorem zt_kill_18 {a0 a1 a2 a3 a4 a5 a6 a7 a8 a9 a10 a11 a12 a13 a14 a15 a16 a17 a18 : Option zV} {r : List (Option zV)} (k : zT y cc mL rt d kc ks Q pc (a0 :: a1 :: a2 :: a3 :: a4 :: a5 :: a6 :: a7 :: a8 :: a9 :: a10 :: a11 :: a12 :: a13 :: a14 :: a15 :: a16 :: a17 :: none :: r) st n sh h) : zT y cc mL rt d kc ks Q pc (a0 :: a1 :: a2 :: a3 :: a4 :: a5 :: a6 :: a7 :: a8 :: a9 :: a10 :: a11 :: a12 :: a13 :: a14 :: a15 :: a16 :: a17 :: a18 :: r) st n sh h := zt_forget (fun j v hj => by
  have e0 : (a0 :: a1 :: a2 :: a3 :: a4 :: a5 :: a6 :: a7 :: a8 :: a9 :: a10 :: a11 :: a12 :: a13 :: a14 :: a15 :: a16 :: a17 :: none :: r : List (Option zV)) = (a0 :: a1 :: a2 :: a3 :: a4 :: a5 :: a6 :: a7 :: a8 :: a9 :: a10 :: a11 :: a12 :: a13 :: a14 :: a15 :: a16 :: a17 :: a18 :: r).set 18 none := rfl
  rw [e0] at hj
  by_cases hji : 18 = j
  · subst hji; simp at hj
  · rwa [List.getElem?_set_ne hji] at hj) k
theorem zt_istore_19 {a0 a1 a2 a3 a4 a5 a6 a7 a8 a9 a10 a11 a12 a13 a14 a15 a16 a17 a18 a19 : Option zV} {r : List (Option zV)} {x : Int} (hd : decode cc pc = .ok (.istore 19, 2)) (hm : 19 < mL) (hn : zn2 (some a18) = true) (k : zT y cc mL rt d kc ks Q (pc + 2) (a0 :: a1 :: a2 :: a3 :: a4 :: a5 :: a6 :: a7 :: a8 :: a9 :: a10 :: a11 :: a12 :: a13 :: a14 :: a15 :: a16 :: a17 :: a18 :: some (0, x) :: r) st n sh h) : zT y cc mL rt d kc ks Q pc (a0 :: a1 :: a2 :: a3 :: a4 :: a5 :: a6 :: a7 :: a8 :: a9 :: a10 :: a11 :: a12 :: a13 :: a14 :: a15 :: a16 :: a17 :: a18 :: a19 :: r) ((0, x) :: st) n sh h := zg_istore (i := 19) hd hm (Or.inr hn) k
theorem zt_astore_19 {a0 a1 a2 a3 a4 a5 a6 a7 a8 a9 a10 a11 a12 a13 a14 a15 a16 a17 a18 a19 : Option zV} {r : List (Option zV)} {x : Int} (hd : decode cc pc = .ok (.astore 19, 2)) (hm : 19 < mL) (hn : zn2 (some a18) = true) (k : zT y cc mL rt d kc ks Q (pc + 2) (a0 :: a1 :: a2 :: a3 :: a4 :: a5 :: a6 :: a7 :: a8 :: a9 :: a10 :: a11 :: a12 :: a13 :: a14 :: a15 :: a16 :: a17 :: a18 :: some (2, x) :: r) st n sh h) : zT y cc mL rt d kc ks Q pc (a0 :: a1 :: a2 :: a3 :: a4 :: a5 :: a6 :: a7 :: a8 :: a9 :: a10 :: a11 :: a12 :: a13 :: a14 :: a15 :: a16 :: a17 :: a18 :: a19 :: r) ((2, x) :: st) n sh h := zg_astore (i := 19) hd hm (Or.inr hn) k
theorem zt_lstore_19 {a0 a1 a2 a3 a4 a5 a6 a7 a8 a9 a10 a11 a12 a13 a14 a15 a16 a17 a18 a19 b : Option zV} {r : List (Option zV)} {x : Int} (hd : decode cc pc = .ok (.lstore 19, 2)) (hm : 19 + 1 < mL) (hn : zn2 (some a18) = true) (k : zT y cc mL rt d kc ks Q (pc + 2) (a0 :: a1 :: a2 :: a3 :: a4 :: a5 :: a6 :: a7 :: a8 :: a9 :: a10 :: a11 :: a12 :: a13 :: a14 :: a15 :: a16 :: a17 :: a18 :: some (1, x) :: none :: r) st n sh h) : zT y cc mL rt d kc ks Q pc (a0 :: a1 :: a2 :: a3 :: a4 :: a5 :: a6 :: a7 :: a8 :: a9 :: a10 :: a11 :: a12 :: a13 :: a14 :: a15 :: a16 :: a17 :: a18 :: a19 :: b :: r) ((1, x) :: st) n sh h := zg_lstore (i := 19) hd hm (Or.inr hn) k
theorem zt_iinc_19 {a0 a1 a2 a3 a4 a5 a6 a7 a8 a9 a10 a11 a12 a13 a14 a15 a16 a17 a18 : Option zV} {r : List (Option zV)} {x z : Int} (hd : decode cc pc = .ok (.iinc 19 z, 3)) (hm : 19 < mL) (hn : zn2 (some a18) = true) (k : zT y cc mL rt d kc ks Q (pc + 3) (a0 :: a1 :: a2 :: a3 :: a4 :: a5 :: a6 :: a7 :: a8 :: a9 :: a10 :: a11 :: a12 :: a13 :: a14 :: a15 :: a16 :: a17 :: a18 :: some (0, x + z) :: r) st n sh h) : zT y cc mL rt d kc ks Q pc (a0 :: a1 :: a2 :: a3 :: a4 :: a5 :: a6 :: a7 :: a8 :: a9 :: a10 :: a11 :: a12 :: a13 :: a14 :: a15 :: a16 :: a17 :: a18 :: some (0, x) :: r) st n sh h := zg_iinc (i := 19) hd hm rfl (Or.inr hn) k
theorem zt_kill_19 {a0 a1 a2 a3 a4 a5 a6 a7 a8 a9 a10 a11 a12 a13 a14 a15 a16 a17 a18 a19 : Option zV} {r : List (Option zV)} (k : zT y cc mL rt d kc ks Q pc (a0 :: a1 :: a2 :: a3 :: a4 :: a5 :: a6 :: a7 :: a8 :: a9 :: a10 :: a11 :: a12 :: a13 :: a14 :: a15 :: a16 :: a17 :: a18 :: none :: r) st n sh h) : zT y cc mL rt d kc ks Q pc (a0 :: a1 :: a2 :: a3 :: a4 :: a5 :: a6 :: a7 :: a8 :: a9 :: a10 :: a11 :: a12 :: a13 :: a14 :: a15 :: a16 :: a17 :: a18 :: a19 :: r) st n sh h := zt_forget (fun j v hj => by
  have e0 : (a0 :: a1 :: a2 :: a3 :: a4 :: a5 :: a6 :: a7 :: a8 :: a9 :: a10 :: a11 :: a12 :: a13 :: a14 :: a15 :: a16 :: a17 :: a18 :: none :: r : List (Option zV)) = (a0 :: a1 :: a2 :: a3 :: a4 :: a5 :: a6 :: a7 :: a8 :: a9 :: a10 :: a11 :: a12 :: a13 :: a14 :: a15 :: a16 :: a17 :: a18 :: a19 :: r).set 19 none := rfl
  rw [e0] at hj
  by_cases hji : 19 = j
  · subst hji; simp at hj
  · rwa [List.getElem?_set_ne hji] at hj) k
theorem zt_istore_20 {a0 a1 a2 a3 a4 a5 a6 a7 a8 a9 a10 a11 a12 a13 a14 a15 a16 a17 a18 a19 a20 : Option zV} {r : List (Option zV)} {x : Int} (hd : decode cc pc = .ok (.istore 20, 2)) (hm : 20 < mL) (hn : zn2 (some a19) = true) (k : zT y cc mL rt d kc ks Q (pc + 2) (a0 :: a1 :: a2 :: a3 :: a4 :: a5 :: a6 :: a7 :: a8 :: a9 :: a10 :: a11 :: a12 :: a13 :: a14 :: a15 :: a16 :: a17 :: a18 :: a19 :: some (0, x) :: r) st n sh h) : zT y cc mL rt d kc ks Q pc (a0 :: a1 :: a2 :: a3 :: a4 :: a5 :: a6 :: a7 :: a8 :: a9 :: a10 :: a11 :: a12 :: a13 :: a14 :: a15 :: a16 :: a17 :: a18 :: a19 :: a20 :: r) ((0, x) :: st) n sh h := zg_istore (i := 20) hd hm (Or.inr hn) k
theorem zt_astore_20 {a0 a1 a2 a3 a4 a5 a6 a7 a8 a9 a10 a11 a12 a13 a14 a15 a16 a17 a18 a19 a20 : Option zV} {r : List (Option zV)} {x : Int} (hd : decode cc pc = .ok (.astore 20, 2)) (hm : 20 < mL) (hn : zn2 (some a19) = true) (k : zT y cc mL rt d kc ks Q (pc + 2) (a0 :: a1 :: a2 :: a3 :: a4 :: a5 :: a6 :: a7 :: a8 :: a9 :: a10 :: a11 :: a12 :: a13 :: a14 :: a15 :: a16 :: a17 :: a18 :: a19 :: some (2, x) :: r) st n sh h) : zT y cc mL rt d kc ks Q pc (a0 :: a1 :: a2 :: a3 :: a4 :: a5 :: a6 :: a7 :: a8 :: a9 :: a10 :: a11 :: a12 :: a13 :: a14 :: a15 :: a16 :: a17 :: a18 :: a19 :: a20 :: r) ((2, x) :: st) n sh h := zg_astore (i := 20) hd hm (Or.inr hn) k
theorem zt_lstore_20 {a0 a1 a2 a3 a4 a5 a6 a7 a8 a9 a10 a11 a12 a13 a14 a15 a16 a17 a18 a19 a20 b : Option zV} {r : List (Option zV)} {x : Int} (hd : decode cc pc = .ok (.lstore 20, 2)) (hm : 20 + 1 < mL) (hn : zn2 (some a19) = true) (k : zT y cc mL rt d kc ks Q (pc + 2) (a0 :: a1 :: a2 :: a3 :: a4 :: a5 :: a6 :: a7 :: a8 :: a9 :: a10 :: a11 :: a12 :: a13 :: a14 :: a15 :: a16 :: a17 :: a18 :: a19 :: some (1, x) :: none :: r) st n sh h) : zT y cc mL rt d kc ks Q pc (a0 :: a1 :: a2 :: a3 :: a4 :: a5 :: a6 :: a7 :: a8 :: a9 :: a10 :: a11 :: a12 :: a13 :: a14 :: a15 :: a16 :: a17 :: a18 :: a19 :: a20 :: b :: r) ((1, x) :: st) n sh h := zg_lstore (i := 20) hd hm (Or.inr hn) k
theorem zt_iinc_20 {a0 a1 a2 a3 a4 a5 a6 a7 a8 a9 a10 a11 a12 a13 a14 a15 a16 a17 a18 a19 : Option zV} {r : List (Option zV)} {x z : Int} (hd : decode cc pc = .ok (.iinc 20 z, 3)) (hm : 20 < mL) (hn : zn2 (some a19) = true) (k : zT y cc mL rt d kc ks Q (pc + 3) (a0 :: a1 :: a2 :: a3 :: a4 :: a5 :: a6 :: a7 :: a8 :: a9 :: a10 :: a11 :: a12 :: a13 :: a14 :: a15 :: a16 :: a17 :: a18 :: a19 :: some (0, x + z) :: r) st n sh h) : zT y cc mL rt d kc ks Q pc (a0 :: a1 :: a2 :: a3 :: a4 :: a5 :: a6 :: a7 :: a8 :: a9 :: a10 :: a11 :: a12 :: a13 :: a14 :: a15 :: a16 :: a17 :: a18 :: a19 :: some (0, x) :: r) st n sh h := zg_iinc (i := 20) hd hm rfl (Or.inr hn) k
theorem zt_kill_20 {a0 a1 a2 a3 a4 a5 a6 a7 a8 a9 a10 a11 a12 a13 a14 a15 a16 a17 a18 a19 a20 : Option zV} {r : List (Option zV)} (k : zT y cc mL rt d kc ks Q pc (a0 :: a1 :: a2 :: a3 :: a4 :: a5 :: a6 :: a7 :: a8 :: a9 :: a10 :: a11 :: a12 :: a13 :: a14 :: a15 :: a16 :: a17 :: a18 :: a19 :: none :: r) st n sh h) : zT y cc mL rt d kc ks Q pc (a0 :: a1 :: a2 :: a3 :: a4 :: a5 :: a6 :: a7 :: a8 :: a9 :: a10 :: a11 :: a12 :: a13 :: a14 :: a15 :: a16 :: a17 :: a18 :: a19 :: a20 :: r) st n sh h := zt_forget (fun j v hj => by
  have e0 : (a0 :: a1 :: a2 :: a3 :: a4 :: a5 :: a6 :: a7 :: a8 :: a9 :: a10 :: a11 :: a12 :: a13 :: a14 :: a15 :: a16 :: a17 :: a18 :: a19 :: none :: r : List (Option zV)) = (a0 :: a1 :: a2 :: a3 :: a4 :: a5 :: a6 :: a7 :: a8 :: a9 :: a10 :: a11 :: a12 :: a13 :: a14 :: a15 :: a16 :: a17 :: a18 :: a19 :: a20 :: r).set 20 none := rfl
  rw [e0] at hj
  by_cases hji : 20 = j
  · subst hji; simp at hj
  · rwa [List.getElem?_set_ne hji] at hj) k
theorem zt_istore_21 {a0 a1 a2 a3 a4 a5 a6 a7 a8 a9 a10 a11 a12 a13 a14 a15 a16 a17 a18 a19 a20 a21 : Option zV} {r : List (Option zV)} {x : Int} (hd : decode cc pc = .ok (.istore 21, 2)) (hm : 21 < mL) (hn : zn2 (some a20) = true) (k : zT y cc mL rt d kc ks Q (pc + 2) (a0 :: a1 :: a2 :: a3 :: a4 :: a5 :: a6 :: a7 :: a8 :: a9 :: a10 :: a11 :: a12 :: a13 :: a14 :: a15 :: a16 :: a17 :: a18 :: a19 :: a20 :: some (0, x) :: r) st n sh h) : zT y cc mL rt d kc ks Q pc (a0 :: a1 :: a2 :: a3 :: a4 :: a5 :: a6 :: a7 :: a8 :: a9 :: a10 :: a11 :: a12 :: a13 :: a14 :: a15 :: a16 :: a17 :: a18 :: a19 :: a20 :: a21 :: r) ((0, x) :: st) n sh h := zg_istore (i := 21) hd hm (Or.inr hn) k
theorem zt_astore_21 {a0 a1 a2 a3 a4 a5 a6 a7 a8 a9 a10 a11 a12 a13 a14 a15 a16 a17 a18 a19 a20 a21 : Option zV} {r : List (Option zV)} {x : Int} (hd : decode cc pc = .ok (.astore 21, 2)) (hm : 21 < mL) (hn : zn2 (some a20) = true) (k : zT y cc mL rt d kc ks Q (pc + 2) (a0 :: a1 :: a2 :: a3 :: a4 :: a5 :: a6 :: a7 :: a8 :: a9 :: a10 :: a11 :: a12 :: a13 :: a14 :: a15 :: a16 :: a17 :: a18 :: a19 :: a20 :: some (2, x) :: r) st n sh h) : zT y cc mL rt d kc ks Q pc (a0 :: a1 :: a2 :: a3 :: a4 :: a5 :: a6 :: a7 :: a8 :: a9 :: a10 :: a11 :: a12 :: a13 :: a14 :: a15 :: a16 :: a17 :: a18 :: a19 :: a20 :: a21 :: r) ((2, x) :: st) n sh h := zg_astore (i := 21) hd hm (Or.inr hn) k
theorem zt_lstore_21 {a0 a1 a2 a3 a4 a5 a6 a7 a8 a9 a10 a11 a12 a13 a14 a15 a16 a17 a18 a19 a20 a21 b : Option zV} {r : List (Option zV)} {x : Int} (hd : decode cc pc = .ok (.lstore 21, 2)) (hm : 21 + 1 < mL) (hn : zn2 (some a20) = true) (k : zT y cc mL rt d kc ks Q (pc + 2) (a0 :: a1 :: a2 :: a3 :: a4 :: a5 :: a6 :: a7 :: a8 :: a9 :: a10 :: a11 :: a12 :: a13 :: a14 :: a15 :: a16 :: a17 :: a18 :: a19 :: a20 :: some (1, x) :: none :: r) st n sh h) : zT y cc mL rt d kc ks Q pc (a0 :: a1 :: a2 :: a3 :: a4 :: a5 :: a6 :: a7 :: a8 :: a9 :: a10 :: a11 :: a12 :: a13 :: a14 :: a15 :: a16 :: a17 :: a18 :: a19 :: a20 :: a21 :: b :: r) ((1, x) :: st) n sh h := zg_lstore (i := 21) hd hm (Or.inr hn) k
theorem zt_iinc_21 {a0 a1 a2 a3 a4 a5 a6 a7 a8 a9 a10 a11 a12 a13 a14 a15 a16 a17 a18 a19 a20 : Option zV} {r : List (Option zV)} {x z : Int} (hd : decode cc pc = .ok (.iinc 21 z, 3)) (hm : 21 < mL) (hn : zn2 (some a20) = true) (k : zT y cc mL rt d kc ks Q (pc + 3) (a0 :: a1 :: a2 :: a3 :: a4 :: a5 :: a6 :: a7 :: a8 :: a9 :: a10 :: a11 :: a12 :: a13 :: a14 :: a15 :: a16 :: a17 :: a18 :: a19 :: a20 :: some (0, x + z) :: r) st n sh h) : zT y cc mL rt d kc ks Q pc (a0 :: a1 :: a2 :: a3 :: a4 :: a5 :: a6 :: a7 :: a8 :: a9 :: a10 :: a11 :: a12 :: a13 :: a14 :: a15 :: a16 :: a17 :: a18 :: a19 :: a20 :: some (0, x) :: r) st n sh h := zg_iinc (i := 21) hd hm rfl (Or.inr hn) k
theorem zt_kill_21 {a0 a1 a2 a3 a4 a5 a6 a7 a8 a9 a10 a11 a12 a13 a14 a15 a16 a17 a18 a19 a20 a21 : Option zV} {r : List (Option zV)} (k : zT y cc mL rt d kc ks Q pc (a0 :: a1 :: a2 :: a3 :: a4 :: a5 :: a6 :: a7 :: a8 :: a9 :: a10 :: a11 :: a12 :: a13 :: a14 :: a15 :: a16 :: a17 :: a18 :: a19 :: a20 :: none :: r) st n sh h) : zT y cc mL rt d kc ks Q pc (a0 :: a1 :: a2 :: a3 :: a4 :: a5 :: a6 :: a7 :: a8 :: a9 :: a10 :: a11 :: a12 :: a13 :: a14 :: a15 :: a16 :: a17 :: a18 :: a19 :: a20 :: a21 :: r) st n sh h := zt_forget (fun j v hj => by
  have e0 : (a0 :: a1 :: a2 :: a3 :: a4 :: a5 :: a6 :: a7 :: a8 :: a9 :: a10 :: a11 :: a12 :: a13 :: a14 :: a15 :: a16 :: a17 :: a18 :: a19 :: a20 :: none :: r : List (Option zV)) = (a0 :: a1 :: a2 :: a3 :: a4 :: a5 :: a6 :: a7 :: a8 :: a9 :: a10 :: a11 :: a12 :: a13 :: a14 :: a15 :: a16 :: a17 :: a18 :: a19 :: a20 :: a21 :: r).set 21 none := rfl
  rw [e0] at hj
  by_cases hji : 21 = j
  · subst hji; simp at hj
  · rwa [List.getElem?_set_ne hji] at hj) k
theorem zt_istore_22 {a0 a1 a2 a3 a4 a5 a6 a7 a8 a9 a10 a11 a12 a13 a14 a15 a16 a17 a18 a19 a20 a21 a22 : Option zV} {r : List (Option zV)} {x : Int} (hd : decode cc pc = .ok (.istore 22, 2)) (hm : 22 < mL) (hn : zn2 (some a21) = true) (k : zT y cc mL rt d kc ks Q (pc + 2) (a0 :: a1 :: a2 :: a3 :: a4 :: a5 :: a6 :: a7 :: a8 :: a9 :: a10 :: a11 :: a12 :: a13 :: a14 :: a15 :: a16 :: a17 :: a18 :: a19 :: a20 :: a21 :: some (0, x) :: r) st n sh h) : zT y cc mL rt d kc ks Q pc (a0 :: a1 :: a2 :: a3 :: a4 :: a5 :: a6 :: a7 :: a8 :: a9 :: a10 :: a11 :: a12 :: a13 :: a14 :: a15 :: a16 :: a17 :: a18 :: a19 :: a20 :: a21 :: a22 :: r) ((0, x) :: st) n sh h := zg_istore (i := 22) hd hm (Or.inr hn) k
theorem zt_astore_22 {a0 a1 a2 a3 a4 a5 a6 a7 a8 a9 a10 a11 a12 a13 a14 a15 a16 a17 a18 a19 a20 a21 a22 : Option zV} {r : List (Option zV)} {x : Int} (hd : decode cc pc = .ok (.astore 22, 2)) (hm : 22 < mL) (hn : zn2 (some a21) = true) (k : zT y cc mL rt d kc ks Q (pc + 2) (a0 :: a1 :: a2 :: a3 :: a4 :: a5 :: a6 :: a7 :: a8 :: a9 :: a10 :: a11 :: a12 :: a13 :: a14 :: a15 :: a16 :: a17 :: a18 :: a19 :: a20 :: a21 :: some (2, x) :: r) st n sh h) : zT y cc mL rt d kc ks Q pc (a0 :: a1 :: a2 :: a3 :: a4 :: a5 :: a6 :: a7 :: a8 :: a9 :: a10 :: a11 :: a12 :: a13 :: a14 :: a15 :: a16 :: a17 :: a18 :: a19 :: a20 :: a21 :: a22 :: r) ((2, x) :: st) n sh h := zg_astore (i := 22) hd hm (Or.inr hn) k
theorem zt_lstore_22 {a0 a1 a2 a3 a4 a5 a6 a7 a8 a9 a10 a11 a12 a13 a14 a15 a16 a17 a18 a19 a20 a21 a22 b : Option zV} {r : List (Option zV)} {x : Int} (hd : decode cc pc = .ok (.lstore 22, 2)) (hm : 22 + 1 < mL) (hn : zn2 (some a21) = true) (k : zT y cc mL rt d kc ks Q (pc + 2) (a0 :: a1 :: a2 :: a3 :: a4 :: a5 :: a6 :: a7 :: a8 :: a9 :: a10 :: a11 :: a12 :: a13 :: a14 :: a15 :: a16 :: a17 :: a18 :: a19 :: a20 :: a21 :: some (1, x) :: none :: r) st n sh h) : zT y cc mL rt d kc ks Q pc (a0 :: a1 :: a2 :: a3 :: a4 :: a5 :: a6 :: a7 :: a8 :: a9 :: a10 :: a11 :: a12 :: a13 :: a14 :: a15 :: a16 :: a17 :: a18 :: a19 :: a20 :: a21 :: a22 :: b :: r) ((1, x) :: st) n sh h := zg_lstore (i := 22) hd hm (Or.inr hn) k
theorem zt_iinc_22 {a0 a1 a2 a3 a4 a5 a6 a7 a8 a9 a10 a11 a12 a13 a14 a15 a16 a17 a18 a19 a20 a21 : Option zV} {r : List (Option zV)} {x z : Int} (hd : decode cc pc = .ok (.iinc 22 z, 3)) (hm : 22 < mL) (hn : zn2 (some a21) = true) (k : zT y cc mL rt d kc ks Q (pc + 3) (a0 :: a1 :: a2 :: a3 :: a4 :: a5 :: a6 :: a7 :: a8 :: a9 :: a10 :: a11 :: a12 :: a13 :: a14 :: a15 :: a16 :: a17 :: a18 :: a19 :: a20 :: a21 :: some (0, x + z) :: r) st n sh h) : zT y cc mL rt d kc ks Q pc (a0 :: a1 :: a2 :: a3 :: a4 :: a5 :: a6 :: a7 :: a8 :: a9 :: a10 :: a11 :: a12 :: a13 :: a14 :: a15 :: a16 :: a17 :: a18 :: a19 :: a20 :: a21 :: some (0, x) :: r) st n sh h := zg_iinc (i := 22) hd hm rfl (Or.inr hn) k
theorem zt_kill_22 {a0 a1 a2 a3 a4 a5 a6 a7 a8 a9 a10 a11 a12 a13 a14 a15 a16 a17 a18 a19 a20 a21 a22 : Option zV} {r : List (Option zV)} (k : zT y cc mL rt d kc ks Q pc (a0 :: a1 :: a2 :: a3 :: a4 :: a5 :: a6 :: a7 :: a8 :: a9 :: a10 :: a11 :: a12 :: a13 :: a14 :: a15 :: a16 :: a17 :: a18 :: a19 :: a20 :: a21 :: none :: r) st n sh h) : zT y cc mL rt d kc ks Q pc (a0 :: a1 :: a2 :: a3 :: a4 :: a5 :: a6 :: a7 :: a8 :: a9 :: a10 :: a11 :: a12 :: a13 :: a14 :: a15 :: a16 :: a17 :: a18 :: a19 :: a20 :: a21 :: a22 :: r) st n sh h := zt_forget (fun j v hj => by
  have e0 : (a0 :: a1 :: a2 :: a3 :: a4 :: a5 :: a6 :: a7 :: a8 :: a9 :: a10 :: a11 :: a12 :: a13 :: a14 :: a15 :: a16 :: a17 :: a18 :: a19 :: a20 :: a21 :: none :: r : List (Option zV)) = (a0 :: a1 :: a2 :: a3 :: a4 :: a5 :: a6 :: a7 :: a8 :: a9 :: a10 :: a11 :: a12 :: a13 :: a14 :: a15 :: a16 :: a17 :: a18 :: a19 :: a20 :: a21 :: a22 :: r).set 22 none := rfl
  rw [e0] at hj
  by_cases hji : 22 = j
  · subst hji; simp at hj
  · rwa [List.getElem?_set_ne hji] at hj) k
theorem zt_istore_23 {a0 a1 a2 a3 a4 a5 a6 a7 a8 a9 a10 a11 a12 a13 a14 a15 a16 a17 a18 a19 a20 a21 a22 a23 : Option zV} {r : List (Option zV)} {x : Int} (hd : decode cc pc = .ok (.istore 23, 2)) (hm : 23 < mL) (hn : zn2 (some a22) = true) (k : zT y cc mL rt d kc ks Q (pc + 2) (a0 :: a1 :: a2 :: a3 :: a4 :: a5 :: a6 :: a7 :: a8 :: a9 :: a10 :: a11 :: a12 :: a13 :: a14 :: a15 :: a16 :: a17 :: a18 :: a19 :: a20 :: a21 :: a22 :: some (0, x) :: r) st n sh h) : zT y cc mL rt d kc ks Q pc (a0 :: a1 :: a2 :: a3 :: a4 :: a5 :: a6 :: a7 :: a8 :: a9 :: a10 :: a11 :: a12 :: a13 :: a14 :: a15 :: a16 :: a17 :: a18 :: a19 :: a20 :: a21 :: a22 :: a23 :: r) ((0, x) :: st) n sh h := zg_istore (i := 23) hd hm (Or.inr hn) k
theorem zt_astore_23 {a0 a1 a2 a3 a4 a5 a6 a7 a8 a9 a10 a11 a12 a13 a14 a15 a16 a17 a18 a19 a20 a21 a22 a23 : Option zV} {r : List (Option zV)} {x : Int} (hd : decode cc pc = .ok (.astore 23, 2)) (hm : 23 < mL) (hn : zn2 (some a22) = true) (k : zT y cc mL rt d kc ks Q (pc + 2) (a0 :: a1 :: a2 :: a3 :: a4 :: a5 :: a6 :: a7 :: a8 :: a9 :: a10 :: a11 :: a12 :: a13 :: a14 :: a15 :: a16 :: a17 :: a18 :: a19 :: a20 :: a21 :: a22 :: some (2, x) :: r) st n sh h) : zT y cc mL rt d kc ks Q pc (a0 :: a1 :: a2 :: a3 :: a4 :: a5 :: a6 :: a7 :: a8 :: a9 :: a10 :: a11 :: a12 :: a13 :: a14 :: a15 :: a16 :: a17 :: a18 :: a19 :: a20 :: a21 :: a22 :: a23 :: r) ((2, x) :: st) n sh h := zg_astore (i := 23) hd hm (Or.inr hn) k
theorem zt_lstore_23 {a0 a1 a2 a3 a4 a5 a6 a7 a8 a9 a10 a11 a12 a13 a14 a15 a16 a17 a18 a19 a20 a21 a22 a23 b : Option zV} {r : List (Option zV)} {x : Int} (hd : decode cc pc = .ok (.lstore 23, 2)) (hm : 23 + 1 < mL) (hn : zn2 (some a22) = true) (k : zT y cc mL rt d kc ks Q (pc + 2) (a0 :: a1 :: a2 :: a3 :: a4 :: a5 :: a6 :: a7 :: a8 :: a9 :: a10 :: a11 :: a12 :: a13 :: a14 :: a15 :: a16 :: a17 :: a18 :: a19 :: a20 :: a21 :: a22 :: some (1, x) :: none :: r) st n sh h) : zT y cc mL rt d kc ks Q pc (a0 :: a1 :: a2 :: a3 :: a4 :: a5 :: a6 :: a7 :: a8 :: a9 :: a10 :: a11 :: a12 :: a13 :: a14 :: a15 :: a16 :: a17 :: a18 :: a19 :: a20 :: a21 :: a22 :: a23 :: b :: r) ((1, x) :: st) n sh h := zg_lstore (i := 23) hd hm (Or.inr hn) k
theorem zt_iinc_23 {a0 a1 a2 a3 a4 a5 a6 a7 a8 a9 a10 a11 a12 a13 a14 a15 a16 a17 a18 a19 a20 a21 a22 : Option zV} {r : List (Option zV)} {x z : Int} (hd : decode cc pc = .ok (.iinc 23 z, 3)) (hm : 23 < mL) (hn : zn2 (some a22) = true) (k : zT y cc mL rt d kc ks Q (pc + 3) (a0 :: a1 :: a2 :: a3 :: a4 :: a5 :: a6 :: a7 :: a8 :: a9 :: a10 :: a11 :: a12 :: a13 :: a14 :: a15 :: a16 :: a17 :: a18 :: a19 :: a20 :: a21 :: a22 :: some (0, x + z) :: r) st n sh h) : zT y cc mL rt d kc ks Q pc (a0 :: a1 :: a2 :: a3 :: a4 :: a5 :: a6 :: a7 :: a8 :: a9 :: a10 :: a11 :: a12 :: a13 :: a14 :: a15 :: a16 :: a17 :: a18 :: a19 :: a20 :: a21 :: a22 :: some (0, x) :: r) st n sh h := zg_iinc (i := 23) hd hm rfl (Or.inr hn) k
theorem zt_kill_23 {a0 a1 a2 a3 a4 a5 a6 a7 a8 a9 a10 a11 a12 a13 a14 a15 a16 a17 a18 a19 a20 a21 a22 a23 : Option zV} {r : List (Option zV)} (k : zT y cc mL rt d kc ks Q pc (a0 :: a1 :: a2 :: a3 :: a4 :: a5 :: a6 :: a7 :: a8 :: a9 :: a10 :: a11 :: a12 :: a13 :: a14 :: a15 :: a16 :: a17 :: a18 :: a19 :: a20 :: a21 :: a22 :: none :: r) st n sh h) : zT y cc mL rt d kc ks Q pc (a0 :: a1 :: a2 :: a3 :: a4 :: a5 :: a6 :: a7 :: a8 :: a9 :: a10 :: a11 :: a12 :: a13 :: a14 :: a15 :: a16 :: a17 :: a18 :: a19 :: a20 :: a21 :: a22 :: a23 :: r) st n sh h := zt_forget (fun j v hj => by
  have e0 : (a0 :: a1 :: a2 :: a3 :: a4 :: a5 :: a6 :: a7 :: a8 :: a9 :: a10 :: a11 :: a12 :: a13 :: a14 :: a15 :: a16 :: a17 :: a18 :: a19 :: a20 :: a21 :: a22 :: none :: r : List (Option zV)) = (a0 :: a1 :: a2 :: a3 :: a4 :: a5 :: a6 :: a7 :: a8 :: a9 :: a10 :: a11 :: a12 :: a13 :: a14 :: a15 :: a16 :: a17 :: a18 :: a19 :: a20 :: a21 :: a22 :: a23 :: r).set 23 none := rfl
  rw [e0] at hj
  by_cases hji : 23 = j
  · subst hji; simp at hj
  · rwa [List.getElem?_set_ne hji] at hj) k
theorem zt_istore_24 {a0 a1 a2 a3 a4 a5 a6 a7 a8 a9 a10 a11 a12 a13 a14 a15 a16 a17 a18 a19 a20 a21 a22 a23 a24 : Option zV} {r : List (Option zV)} {x : Int} (hd : decode cc pc = .ok (.istore 24, 2)) (hm : 24 < mL) (hn : zn2 (some a23) = true) (k : zT y cc mL rt d kc ks Q (pc + 2) (a0 :: a1 :: a2 :: a3 :: a4 :: a5 :: a6 :: a7 :: a8 :: a9 :: a10 :: a11 :: a12 :: a13 :: a14 :: a15 :: a16 :: a17 :: a18 :: a19 :: a20 :: a21 :: a22 :: a23 :: some (0, x) :: r) st n sh h) : zT y cc mL rt d kc ks Q pc (a0 :: a1 :: a2 :: a3 :: a4 :: a5 :: a6 :: a7 :: a8 :: a9 :: a10 :: a11 :: a12 :: a13 :: a14 :: a15 :: a16 :: a17 :: a18 :: a19 :: a20 :: a21 :: a22 :: a23 :: a24 :: r) ((0, x) :: st) n sh h := zg_istore (i := 24) hd hm (Or.inr hn) k
theorem zt_astore_24 {a0 a1 a2 a3 a4 a5 a6 a7 a8 a9 a10 a11 a12 a13 a14 a15 a16 a17 a18 a19 a20 a21 a22 a23 a24 : Option zV} {r : List (Option zV)} {x : Int} (hd : decode cc pc = .ok (.astore 24, 2)) (hm : 24 < mL) (hn : zn2 (some a23) = true) (k : zT y cc mL rt d kc ks Q (pc + 2) (a0 :: a1 :: a2 :: a3 :: a4 :: a5 :: a6 :: a7 :: a8 :: a9 :: a10 :: a11 :: a12 :: a13 :: a14 :: a15 :: a16 :: a17 :: a18 :: a19 :: a20 :: a21 :: a22 :: a23 :: some (2, x) :: r) st n sh h) : zT y cc mL rt d kc ks Q pc (a0 :: a1 :: a2 :: a3 :: a4 :: a5 :: a6 :: a7 :: a8 :: a9 :: a10 :: a11 :: a12 :: a13 :: a14 :: a15 :: a16 :: a17 :: a18 :: a19 :: a20 :: a21 :: a22 :: a23 :: a24 :: r) ((2, x) :: st) n sh h := zg_astore (i := 24) hd hm (Or.inr hn) k
theorem zt_lstore_24 {a0 a1 a2 a3 a4 a5 a6 a7 a8 a9 a10 a11 a12 a13 a14 a15 a16 a17 a18 a19 a20 a21 a22 a23 a24 b : Option zV} {r : List (Option zV)} {x : Int} (hd : decode cc pc = .ok (.lstore 24, 2)) (hm : 24 + 1 < mL) (hn : zn2 (some a23) = true) (k : zT y cc mL rt d kc ks Q (pc + 2) (a0 :: a1 :: a2 :: a3 :: a4 :: a5 :: a6 :: a7 :: a8 :: a9 :: a10 :: a11 :: a12 :: a13 :: a14 :: a15 :: a16 :: a17 :: a18 :: a19 :: a20 :: a21 :: a22 :: a23 :: some (1, x) :: none :: r) st n sh h) : zT y cc mL rt d kc ks Q pc (a0 :: a1 :: a2 :: a3 :: a4 :: a5 :: a6 :: a7 :: a8 :: a9 :: a10 :: a11 :: a12 :: a13 :: a14 :: a15 :: a16 :: a17 :: a18 :: a19 :: a20 :: a21 :: a22 :: a23 :: a24 :: b :: r) ((1, x) :: st) n sh h := zg_lstore (i := 24) hd hm (Or.inr hn) k
theorem zt_iinc_24 {a0 a1 a2 a3 a4 a5 a6 a7 a8 a9 a10 a11 a12 a13 a14 a15 a16 a17 a18 a19 a20 a21 a22 a23 : Option zV} {r : List (Option zV)} {x z : Int} (hd : decode cc pc = .ok (.iinc 24 z, 3)) (hm : 24 < mL) (hn : zn2 (some a23) = true) (k : zT y cc mL rt d kc ks Q (pc + 3) (a0 :: a1 :: a2 :: a3 :: a4 :: a5 :: a6 :: a7 :: a8 :: a9 :: a10 :: a11 :: a12 :: a13 :: a14 :: a15 :: a16 :: a17 :: a18 :: a19 :: a20 :: a21 :: a22 :: a23 :: some (0, x + z) :: r) st n sh h) : zT y cc mL rt d kc ks Q pc (a0 :: a1 :: a2 :: a3 :: a4 :: a5 :: a6 :: a7 :: a8 :: a9 :: a10 :: a11 :: a12 :: a13 :: a14 :: a15 :: a16 :: a17 :: a18 :: a19 :: a20 :: a21 :: a22 :: a23 :: some (0, x) :: r) st n sh h := zg_iinc (i := 24) hd hm rfl (Or.inr hn) k
theorem zt_kill_24 {a0 a1 a2 a3 a4 a5 a6 a7 a8 a9 a10 a11 a12 a13 a14 a15 a16 a17 a18 a19 a20 a21 a22 a23 a24 : Option zV} {r : List (Option zV)} (k : zT y cc mL rt d kc ks Q pc (a0 :: a1 :: a2 :: a3 :: a4 :: a5 :: a6 :: a7 :: a8 :: a9 :: a10 :: a11 :: a12 :: a13 :: a14 :: a15 :: a16 :: a17 :: a18 :: a19 :: a20 :: a21 :: a22 :: a23 :: none :: r) st n sh h) : zT y cc mL rt d kc ks Q pc (a0 :: a1 :: a2 :: a3 :: a4 :: a5 :: a6 :: a7 :: a8 :: a9 :: a10 :: a11 :: a12 :: a13 :: a14 :: a15 :: a16 :: a17 :: a18 :: a19 :: a20 :: a21 :: a22 :: a23 :: a24 :: r) st n sh h := zt_forget (fun j v hj => by
  have e0 : (a0 :: a1 :: a2 :: a3 :: a4 :: a5 :: a6 :: a7 :: a8 :: a9 :: a10 :: a11 :: a12 :: a13 :: a14 :: a15 :: a16 :: a17 :: a18 :: a19 :: a20 :: a21 :: a22 :: a23 :: none :: r : List (Option zV)) = (a0 :: a1 :: a2 :: a3 :: a4 :: a5 :: a6 :: a7 :: a8 :: a9 :: a10 :: a11 :: a12 :: a13 :: a14 :: a15 :: a16 :: a17 :: a18 :: a19 :: a20 :: a21 :: a22 :: a23 :: a24 :: r).set 24 none := rfl
  rw [e0] at hj
  by_cases hji : 24 = j
  · subst hji; simp at hj
  · rwa [List.getElem?_set_ne hji] at hj) k
theorem zt_istore_25 {a0 a1 a2 a3 a4 a5 a6 a7 a8 a9 a10 a11 a12 a13 a14 a15 a16 a17 a18 a19 a20 a21 a22 a23 a24 a25 : Option zV} {r : List (Option zV)} {x : Int} (hd : decode cc pc = .ok (.istore 25, 2)) (hm : 25 < mL) (hn : zn2 (some a24) = true) (k : zT y cc mL rt d kc ks Q (pc + 2) (a0 :: a1 :: a2 :: a3 :: a4 :: a5 :: a6 :: a7 :: a8 :: a9 :: a10 :: a11 :: a12 :: a13 :: a14 :: a15 :: a16 :: a17 :: a18 :: a19 :: a20 :: a21 :: a22 :: a23 :: a24 :: some (0, x) :: r) st n sh h) : zT y cc mL rt d kc ks Q pc (a0 :: a1 :: a2 :: a3 :: a4 :: a5 :: a6 :: a7 :: a8 :: a9 :: a10 :: a11 :: a12 :: a13 :: a14 :: a15 :: a16 :: a17 :: a18 :: a19 :: a20 :: a21 :: a22 :: a23 :: a24 :: a25 :: r) ((0, x) :: st) n sh h := zg_istore (i := 25) hd hm (Or.inr hn) k
theorem zt_astore_25 {a0 a1 a2 a3 a4 a5 a6 a7 a8 a9 a10 a11 a12 a13 a14 a15 a16 a17 a18 a19 a20 a21 a22 a23 a24 a25 : Option zV} {r : List (Option zV)} {x : Int} (hd : decode cc pc = .ok (.astore 25, 2)) (hm : 25 < mL) (hn : zn2 (some a24) = true) (k : zT y cc mL rt d kc ks Q (pc + 2) (a0 :: a1 :: a2 :: a3 :: a4 :: a5 :: a6 :: a7 :: a8 :: a9 :: a10 :: a11 :: a12 :: a13 :: a14 :: a15 :: a16 :: a17 :: a18 :: a19 :: a20 :: a21 :: a22 :: a23 :: a24 :: some (2, x) :: r) st n sh h) : zT y cc mL rt d kc ks Q pc (a0 :: a1 :: a2 :: a3 :: a4 :: a5 :: a6 :: a7 :: a8 :: a9 :: a10 :: a11 :: a12 :: a13 :: a14 :: a15 :: a16 :: a17 :: a18 :: a19 :: a20 :: a21 :: a22 :: a23 :: a24 :: a25 :: r) ((2, x) :: st) n sh h := zg_astore (i := 25) hd hm (Or.inr hn) k
theorem zt_lstore_25 {a0 a1 a2 a3 a4 a5 a6 a7 a8 a9 a10 a11 a12 a13 a14 a15 a16 a17 a18 a19 a20 a21 a22 a23 a24 a25 b : Option zV} {r : List (Option zV)} {x : Int} (hd : decode cc pc = .ok (.lstore 25, 2)) (hm : 25 + 1 < mL) (hn : zn2 (some a24) = true) (k : zT y cc mL rt d kc ks Q (pc + 2) (a0 :: a1 :: a2 :: a3 :: a4 :: a5 :: a6 :: a7 :: a8 :: a9 :: a10 :: a11 :: a12 :: a13 :: a14 :: a15 :: a16 :: a17 :: a18 :: a19 :: a20 :: a21 :: a22 :: a23 :: a24 :: some (1, x) :: none :: r) st n sh h) : zT y cc mL rt d kc ks Q pc (a0 :: a1 :: a2 :: a3 :: a4 :: a5 :: a6 :: a7 :: a8 :: a9 :: a10 :: a11 :: a12 :: a13 :: a14 :: a15 :: a16 :: a17 :: a18 :: a19 :: a20 :: a21 :: a22 :: a23 :: a24 :: a25 :: b :: r) ((1, x) :: st) n sh h := zg_lstore (i := 25) hd hm (Or.inr hn) k
theorem zt_iinc_25 {a0 a1 a2 a3 a4 a5 a6 a7 a8 a9 a10 a11 a12 a13 a14 a15 a16 a17 a18 a19 a20 a21 a22 a23 a24 : Option zV} {r : List (Option zV)} {x z : Int} (hd : decode cc pc = .ok (.iinc 25 z, 3)) (hm : 25 < mL) (hn : zn2 (some a24) = true) (k : zT y cc mL rt d kc ks Q (pc + 3) (a0 :: a1 :: a2 :: a3 :: a4 :: a5 :: a6 :: a7 :: a8 :: a9 :: a10 :: a11 :: a12 :: a13 :: a14 :: a15 :: a16 :: a17 :: a18 :: a19 :: a20 :: a21 :: a22 :: a23 :: a24 :: some (0, x + z) :: r) st n sh h) : zT y cc mL rt d kc ks Q pc (a0 :: a1 :: a2 :: a3 :: a4 :: a5 :: a6 :: a7 :: a8 :: a9 :: a10 :: a11 :: a12 :: a13 :: a14 :: a15 :: a16 :: a17 :: a18 :: a19 :: a20 :: a21 :: a22 :: a23 :: a24 :: some (0, x) :: r) st n sh h := zg_iinc (i := 25) hd hm rfl (Or.inr hn) k
theorem zt_kill_25 {a0 a1 a2 a3 a4 a5 a6 a7 a8 a9 a10 a11 a12 a13 a14 a15 a16 a17 a18 a19 a20 a21 a22 a23 a24 a25 : Option zV} {r : List (Option zV)} (k : zT y cc mL rt d kc ks Q pc (a0 :: a1 :: a2 :: a3 :: a4 :: a5 :: a6 :: a7 :: a8 :: a9 :: a10 :: a11 :: a12 :: a13 :: a14 :: a15 :: a16 :: a17 :: a18 :: a19 :: a20 :: a21 :: a22 :: a23 :: a24 :: none :: r) st n sh h) : zT y cc mL rt d kc ks Q pc (a0 :: a1 :: a2 :: a3 :: a4 :: a5 :: a6 :: a7 :: a8 :: a9 :: a10 :: a11 :: a12 :: a13 :: a14 :: a15 :: a16 :: a17 :: a18 :: a19 :: a20 :: a21 :: a22 :: a23 :: a24 :: a25 :: r) st n sh h := zt_forget (fun j v hj => by
  have e0 : (a0 :: a1 :: a2 :: a3 :: a4 :: a5 :: a6 :: a7 :: a8 :: a9 :: a10 :: a11 :: a12 :: a13 :: a14 :: a15 :: a16 :: a17 :: a18 :: a19 :: a20 :: a21 :: a22 :: a23 :: a24 :: none :: r : List (Option zV)) = (a0 :: a1 :: a2 :: a3 :: a4 :: a5 :: a6 :: a7 :: a8 :: a9 :: a10 :: a11 :: a12 :: a13 :: a14 :: a15 :: a16 :: a17 :: a18 :: a19 :: a20 :: a21 :: a22 :: a23 :: a24 :: a25 :: r).set 25 none := rfl
  rw [e0] at hj
  by_cases hji : 25 = j
  · subst hji; simp at hj
  · rwa [List.getElem?_set_ne hji] at hj) k
end zRules
