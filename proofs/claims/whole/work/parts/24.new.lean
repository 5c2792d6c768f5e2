section zRules7
variable {y : MethodName} {cc : ByteArray} {mL : Nat} {rt : Option FieldType} {d kc ks : Nat} {Q : Option zV → Nat → zSh → zMem → Prop} {pc : Nat} {ls : List (Option zV)} {st : List zV} {n : Nat} {sh : zSh} {h : zMem}
def zshn (sh : zSh) (a : Int) (s : Nat × Nat) : zSh := fun x => if x = a then s else sh x
def znew (h : zMem) (a : Int) (g : Int → Int) : zMem := fun x y => if x = a then g y else h x y
/-- what a new object's fields hold -/
def zdf (ci : Nat) : Int → Int := fun j => if zft ci j.toNat = 2 then -1 else 0
theorem zshn_ne {sh : zSh} {a x : Int} {s : Nat × Nat} (hx : x ≠ a) : zshn sh a s x = sh x := if_neg hx
theorem zshn_at {sh : zSh} {a : Int} {s : Nat × Nat} : zshn sh a s a = s := if_pos rfl
theorem znew_ne {h : zMem} {a x : Int} {g : Int → Int} (hx : x ≠ a) : znew h a g x = h x := by
  funext q
  show (if x = a then g q else h x q) = h x q
  rw [if_neg hx]
theorem znew_at {h : zMem} {a : Int} {g : Int → Int} : znew h a g a = g := by
  funext q
  show (if a = a then g q else h a q) = g q
  rw [if_pos rfl]
theorem zSim.grow {D : va_G} {cA : Nat → ClassId} {φ : Int → Nat} {n0 n : Nat} {sh : zSh} {h : zMem} {H H1 : Heap} (S : zSim D cA φ n0 n sh h H) {sp : Nat × Nat} {g : Int → Int} (hz : H1.size = H.size + 1) (oq : ∀ q : Nat, q < H.size → H1[q]? = H[q]?) (hk : sp.1 < 106) (hr : zRg sp g) (ha : zAt D cA φ sp g (n0 + n) H1) : zSim D cA φ n0 (n + 1) (zshn sh n sp) (znew h n g) H1 := by
  refine ⟨by rw [hz, S.1]; omega, fun a ha => ?_, fun i hi => ?_⟩
  · rw [zshn_ne (by omega)]
    exact S.2.1 a (by omega)
  · by_cases hin : i = n
    · subst hin
      rw [zshn_at, znew_at]
      exact ⟨hk, hr, ha⟩
    · rw [zshn_ne (by omega), znew_ne (by omega)]
      obtain ⟨b1, b2, b3⟩ := S.2.2 i (by omega)
      refine ⟨b1, b2, ?_⟩
      have e2 := oq (n0 + i) (by rw [S.1]; omega)
      unfold zAt at b3 ⊢
      split at b3
      · rename_i hc
        rw [if_pos hc]
        obtain ⟨cell, w1, w2⟩ := b3.2
        exact ⟨b3.1, cell, by rw [e2]; exact w1, w2⟩
      · rename_i hc
        rw [if_neg hc, e2]; exact b3
theorem zX.grow {φ : Int → Nat} {n0 n : Nat} {sh : zSh} {h : zMem} {U : State} {H H1 : Heap} {sp : Nat × Nat} {g : Int → Int} (X : zX φ n0 sh h U H) (hs : H.size = n0 + n) (oq : ∀ q : Nat, q < H.size → H1[q]? = H[q]?) : zX φ n0 (zshn sh n sp) (znew h n g) U H1 := by
  intro L hL
  rw [zshn_ne (by omega)] at hL
  obtain ⟨a1, a2, a3⟩ := X L hL
  rw [znew_ne (by omega)]
  exact ⟨a1, a2, a3.kept (oq _ (by omega))⟩
theorem va_S.grow {A : Nat → Prop} {H0 H H1 : Heap} {locs : List Loc} (h : va_S A H0 H locs) (hz : H1.size = H.size + 1) (oq : ∀ q : Nat, q < H.size → H1[q]? = H[q]?) : va_S A H0 H1 locs := ⟨Nat.le_trans h.1 (by omega), fun x h1 h2 => (oq x (Nat.lt_of_lt_of_le h1 h.1)).trans (h.2.1 x h1 h2), h.2.2⟩
/-- a link of a class' pool to a class of ours that can be made -/
def zNL (own : String) (idx ci N : Nat) : Prop := ci < 12 ∧ N = zNN ci ∧ Cond.classLink own idx (zRR ci) ∈ zTb ∧ Cond.instantiable (zRR ci) N ∈ zTb ∧ Cond.initialized (zRR ci) ∈ zTb
theorem zt_new {idx ci N0 : Nat} (hd : decode cc pc = .ok (.new idx, 3)) (hf : zNL y.cls idx ci N0) (k : zT y cc mL rt d kc ks Q (pc + 3) ls ((2, (n : Int)) :: st) (n + 1) (zshn sh n (ci, N0)) (znew h n (zdf ci))) : zT y cc mL rt d (kc + 1) (ks + N0) Q pc ls st n sh h := by
  intro l D cA φ n0 p e s m args below meth c K N H locs cells slots ls0 E S X V L c1 c2
  obtain ⟨f1, rfl, f3, f4, f5⟩ := hf
  obtain ⟨hc, hin, hty, hnm, htk, -⟩ := zcls ci f1
  have hts := E.2.2.2.2.1
  have hKn := E.2.2.2.2.2.2.2.2.1.1.1 ci _ hc
  have hKt := htk
  refine W.newcK E.1 E.2.1 E.2.2.2.1 (hts _ f3) (hts _ f4) (hts _ f5) rfl hd (by show cells + 1 ≤ K; omega) (by show slots + zNN ci ≤ N; omega) hKn.2.1 S.1 fun H1 kC hkC e1 z1 o1 => ?_
  have hz : H1.size = H.size + 1 := by rw [z1, S.1]
  have oq : ∀ q : Nat, q < H.size → H1[q]? = H[q]? := fun q hq => o1 q (by have := S.1; omega)
  have hb := u_born (zTy ci) hts hin hKn hkC e1 hty
  have hdv : ∀ j, j < zNN ci → defaultValue (zTy ci j) = zrv φ (zmt (zft ci j), zdf ci j) ∧ zok (zft ci j) (zdf ci j) := by
    intro j hj
    have h1 := htk j hj
    have e3 : zdf ci (j : Int) = if zft ci j = 2 then -1 else 0 := rfl
    rw [e3]
    generalize zft ci j = kd at h1 ⊢
    generalize zTy ci j = ty at h1 ⊢
    match kd, ty, h1 with
    | 0, .int, _ => exact ⟨rfl, by simp [zok, zi32]⟩
    | 1, .long, _ => exact ⟨rfl, by simp [zok, zi64]⟩
    | 2, .object _, _ => exact ⟨rfl, trivial⟩
    | 2, .array _, _ => exact ⟨rfl, trivial⟩
    | 3, .boolean, _ => exact ⟨rfl, by simp [zok]⟩
  have e4 : Value.ref (n0 + n) = zrv φ (2, (n : Int)) := (zref E.2.2.2.2.2.2.2.2.2 n).symm
  rw [e4]
  refine k l D cA φ n0 p e s m args below meth c K N H1 _ _ _ ls0 E (S.grow hz oq (by show ci < 106; omega) ?_ ?_) (X.grow S.1 oq) (V.grow hz oq) L (by omega) (by omega)
  · intro j hj
    rw [if_pos (show ci < 100 by omega)]
    exact (hdv j hj).2
  · unfold zAt
    rw [if_pos (show ci < 100 by omega)]
    exact ⟨⟨_, hc, rfl⟩, hb.to (fun j hj => (hdv j hj).1)⟩
theorem zt_newa_int {z : Int} {N0 : Nat} (hd : decode cc pc = .ok (.newarray .int, 2)) (hw : Cond.arrayClass .int ∈ zTb) (hz : z = (N0 : Int)) (hN : N0 ≤ 60000000) (k : zT y cc mL rt d kc ks Q (pc + 2) ls ((2, (n : Int)) :: st) (n + 1) (zshn sh n (100, N0)) (znew h n (fun _ => 0))) : zT y cc mL rt d (kc + 1) (ks + N0) Q pc ls ((0, z) :: st) n sh h := by
  intro l D cA φ n0 p e s m args below meth c K N H locs cells slots ls0 E S X V L c1 c2
  subst hz
  have hts := E.2.2.2.2.1
  have h3 : zi32 (N0 : Int) := by unfold zi32; omega
  have e0 : (Int32.ofInt (N0 : Int)).toNatClampNeg = N0 := by show (Int32.ofInt (N0 : Int)).toInt.toNat = _; rw [zi32_t h3]; omega
  refine va_newaK (atype := .int) E.1 E.2.1 (hts _ hw) rfl hd rfl (fun q => by have := (zi32_lt h3 zi32_0).mp q; omega) e0 (by show N0 * _ ≤ _; simp only [newarray.typeOf, componentBytes]; omega) (by show cells + 1 ≤ K; omega) (by show slots + N0 ≤ N; omega) S.1 fun H1 cB e1 z1 o1 hAr hNm => ?_
  have hz : H1.size = H.size + 1 := by rw [z1, S.1]
  have oq : ∀ q : Nat, q < H.size → H1[q]? = H[q]? := fun q hq => o1 q (by have := S.1; omega)
  have hcB : cB = cA 0 := Option.some.inj (hNm.symm.trans (E.2.2.2.2.2.2.2.2.1.1.2 0 _ rfl).2)
  subst hcB
  have e4 : Value.ref (n0 + n) = zrv φ (2, (n : Int)) := (zref E.2.2.2.2.2.2.2.2.2 n).symm
  rw [e4]
  refine k l D cA φ n0 p e s m args below meth c K N H1 _ _ _ ls0 E (S.grow hz oq (by show 100 < 106; omega) ?_ ?_) (X.grow S.1 oq) (V.grow hz oq) L (by omega) (by omega)
  · intro j hj
    rw [if_neg (show ¬ 100 < 100 by omega)]
    simp [zak, zok, zi32, zi64]
  · unfold zAt
    rw [if_neg (show ¬ 100 < 100 by omega), e1]
    rfl
theorem zt_newa_long {z : Int} {N0 : Nat} (hd : decode cc pc = .ok (.newarray .long, 2)) (hw : Cond.arrayClass .long ∈ zTb) (hz : z = (N0 : Int)) (hN : N0 ≤ 60000000) (k : zT y cc mL rt d kc ks Q (pc + 2) ls ((2, (n : Int)) :: st) (n + 1) (zshn sh n (101, N0)) (znew h n (fun _ => 0))) : zT y cc mL rt d (kc + 1) (ks + N0) Q pc ls ((0, z) :: st) n sh h := by
  intro l D cA φ n0 p e s m args below meth c K N H locs cells slots ls0 E S X V L c1 c2
  subst hz
  have hts := E.2.2.2.2.1
  have h3 : zi32 (N0 : Int) := by unfold zi32; omega
  have e0 : (Int32.ofInt (N0 : Int)).toNatClampNeg = N0 := by show (Int32.ofInt (N0 : Int)).toInt.toNat = _; rw [zi32_t h3]; omega
  refine va_newaK (atype := .long) E.1 E.2.1 (hts _ hw) rfl hd rfl (fun q => by have := (zi32_lt h3 zi32_0).mp q; omega) e0 (by show N0 * _ ≤ _; simp only [newarray.typeOf, componentBytes]; omega) (by show cells + 1 ≤ K; omega) (by show slots + N0 ≤ N; omega) S.1 fun H1 cB e1 z1 o1 hAr hNm => ?_
  have hz : H1.size = H.size + 1 := by rw [z1, S.1]
  have oq : ∀ q : Nat, q < H.size → H1[q]? = H[q]? := fun q hq => o1 q (by have := S.1; omega)
  have hcB : cB = cA 1 := Option.some.inj (hNm.symm.trans (E.2.2.2.2.2.2.2.2.1.1.2 1 _ rfl).2)
  subst hcB
  have e4 : Value.ref (n0 + n) = zrv φ (2, (n : Int)) := (zref E.2.2.2.2.2.2.2.2.2 n).symm
  rw [e4]
  refine k l D cA φ n0 p e s m args below meth c K N H1 _ _ _ ls0 E (S.grow hz oq (by show 101 < 106; omega) ?_ ?_) (X.grow S.1 oq) (V.grow hz oq) L (by omega) (by omega)
  · intro j hj
    rw [if_neg (show ¬ 101 < 100 by omega)]
    simp [zak, zok, zi32, zi64]
  · unfold zAt
    rw [if_neg (show ¬ 101 < 100 by omega), e1]
    rfl
theorem zt_newa_byte {z : Int} {N0 : Nat} (hd : decode cc pc = .ok (.newarray .byte, 2)) (hw : Cond.arrayClass .byte ∈ zTb) (hz : z = (N0 : Int)) (hN : N0 ≤ 60000000) (k : zT y cc mL rt d kc ks Q (pc + 2) ls ((2, (n : Int)) :: st) (n + 1) (zshn sh n (102, N0)) (znew h n (fun _ => 0))) : zT y cc mL rt d (kc + 1) (ks + N0) Q pc ls ((0, z) :: st) n sh h := by
  intro l D cA φ n0 p e s m args below meth c K N H locs cells slots ls0 E S X V L c1 c2
  subst hz
  have hts := E.2.2.2.2.1
  have h3 : zi32 (N0 : Int) := by unfold zi32; omega
  have e0 : (Int32.ofInt (N0 : Int)).toNatClampNeg = N0 := by show (Int32.ofInt (N0 : Int)).toInt.toNat = _; rw [zi32_t h3]; omega
  refine va_newaK (atype := .byte) E.1 E.2.1 (hts _ hw) rfl hd rfl (fun q => by have := (zi32_lt h3 zi32_0).mp q; omega) e0 (by show N0 * _ ≤ _; simp only [newarray.typeOf, componentBytes]; omega) (by show cells + 1 ≤ K; omega) (by show slots + N0 ≤ N; omega) S.1 fun H1 cB e1 z1 o1 hAr hNm => ?_
  have hz : H1.size = H.size + 1 := by rw [z1, S.1]
  have oq : ∀ q : Nat, q < H.size → H1[q]? = H[q]? := fun q hq => o1 q (by have := S.1; omega)
  have hcB : cB = cA 2 := Option.some.inj (hNm.symm.trans (E.2.2.2.2.2.2.2.2.1.1.2 2 _ rfl).2)
  subst hcB
  have e4 : Value.ref (n0 + n) = zrv φ (2, (n : Int)) := (zref E.2.2.2.2.2.2.2.2.2 n).symm
  rw [e4]
  refine k l D cA φ n0 p e s m args below meth c K N H1 _ _ _ ls0 E (S.grow hz oq (by show 102 < 106; omega) ?_ ?_) (X.grow S.1 oq) (V.grow hz oq) L (by omega) (by omega)
  · intro j hj
    rw [if_neg (show ¬ 102 < 100 by omega)]
    simp [zak, zok, zi32, zi64]
  · unfold zAt
    rw [if_neg (show ¬ 102 < 100 by omega), e1]
    rfl
theorem zt_newa_boolean {z : Int} {N0 : Nat} (hd : decode cc pc = .ok (.newarray .boolean, 2)) (hw : Cond.arrayClass .boolean ∈ zTb) (hz : z = (N0 : Int)) (hN : N0 ≤ 60000000) (k : zT y cc mL rt d kc ks Q (pc + 2) ls ((2, (n : Int)) :: st) (n + 1) (zshn sh n (103, N0)) (znew h n (fun _ => 0))) : zT y cc mL rt d (kc + 1) (ks + N0) Q pc ls ((0, z) :: st) n sh h := by
  intro l D cA φ n0 p e s m args below meth c K N H locs cells slots ls0 E S X V L c1 c2
  subst hz
  have hts := E.2.2.2.2.1
  have h3 : zi32 (N0 : Int) := by unfold zi32; omega
  have e0 : (Int32.ofInt (N0 : Int)).toNatClampNeg = N0 := by show (Int32.ofInt (N0 : Int)).toInt.toNat = _; rw [zi32_t h3]; omega
  refine va_newaK (atype := .boolean) E.1 E.2.1 (hts _ hw) rfl hd rfl (fun q => by have := (zi32_lt h3 zi32_0).mp q; omega) e0 (by show N0 * _ ≤ _; simp only [newarray.typeOf, componentBytes]; omega) (by show cells + 1 ≤ K; omega) (by show slots + N0 ≤ N; omega) S.1 fun H1 cB e1 z1 o1 hAr hNm => ?_
  have hz : H1.size = H.size + 1 := by rw [z1, S.1]
  have oq : ∀ q : Nat, q < H.size → H1[q]? = H[q]? := fun q hq => o1 q (by have := S.1; omega)
  have hcB : cB = cA 3 := Option.some.inj (hNm.symm.trans (E.2.2.2.2.2.2.2.2.1.1.2 3 _ rfl).2)
  subst hcB
  have e4 : Value.ref (n0 + n) = zrv φ (2, (n : Int)) := (zref E.2.2.2.2.2.2.2.2.2 n).symm
  rw [e4]
  refine k l D cA φ n0 p e s m args below meth c K N H1 _ _ _ ls0 E (S.grow hz oq (by show 103 < 106; omega) ?_ ?_) (X.grow S.1 oq) (V.grow hz oq) L (by omega) (by omega)
  · intro j hj
    rw [if_neg (show ¬ 103 < 100 by omega)]
    simp [zak, zok, zi32, zi64]
  · unfold zAt
    rw [if_neg (show ¬ 103 < 100 by omega), e1]
    rfl
theorem zt_newq {z : Int} {idx ci kd N0 : Nat} (hd : decode cc pc = .ok (.anewarray idx, 3)) (hkd : (kd = 104 ∧ ci = 7) ∨ (kd = 105 ∧ ci = 8)) (hw : Cond.classLink y.cls idx (zRR ci) ∈ zTb) (hz : z = (N0 : Int)) (hN : N0 ≤ 60000000) (k : zT y cc mL rt d kc ks Q (pc + 3) ls ((2, (n : Int)) :: st) (n + 1) (zshn sh n (kd, N0)) (znew h n (fun _ => -1))) : zT y cc mL rt d (kc + 1) (ks + N0) Q pc ls ((0, z) :: st) n sh h := by
  intro l D cA φ n0 p e s m args below meth c K N H locs cells slots ls0 E S X V L c1 c2
  subst hz
  have hts := E.2.2.2.2.1
  have hC := E.2.2.2.2.2.2.2.2.1
  have h3 : zi32 (N0 : Int) := by unfold zi32; omega
  have e0 : (Int32.ofInt (N0 : Int)).toNatClampNeg = N0 := by show (Int32.ofInt (N0 : Int)).toInt.toNat = _; rw [zi32_t h3]; omega
  have hO : va_AO (zRR ci) s ∧ (zty cA)[kd - 100]? = some (cA (kd - 100), .object (zRR ci)) := by
    rcases hkd with ⟨rfl, rfl⟩ | ⟨rfl, rfl⟩
    · exact ⟨hC.2.2.1, rfl⟩
    · exact ⟨hC.2.2.2.1, rfl⟩
  refine W.anew E.1 E.2.1 E.2.2.2.1 (hts _ hw) (va_AO.use hO.1) rfl hd rfl (fun q => by have := (zi32_lt h3 zi32_0).mp q; omega) (by rw [e0]; omega) (by show cells + 1 ≤ K; omega) (by show slots + (Int32.ofInt (N0 : Int)).toNatClampNeg ≤ N; rw [e0]; omega) fun cB kA comp f1 f2 f3 f4 => ?_
  rw [e0]
  generalize hH1 : H.push ({ cls := cB, slots := Array.replicate N0 .null, vm := .none } : Cell) = H1
  have hz : H1.size = H.size + 1 := by rw [← hH1, Array.size_push]
  have e1 : H1[H.size]? = some (arrV cB N0 (fun _ => .null)) := by rw [← hH1, Array.getElem?_push_size, ← arrV_new]
  have oq : ∀ q : Nat, q < H.size → H1[q]? = H[q]? := fun q hq => by rw [← hH1, Array.getElem?_push, if_neg (Nat.ne_of_lt hq)]
  have hcB : cB = cA (kd - 100) := by
    obtain ⟨_, _, _, _, _, h9⟩ := (hC.1.2 _ _ hO.2).2
    exact Option.some.inj (f1.symm.trans h9)
  subst hcB
  have e4 : Value.ref H.size = zrv φ (2, (n : Int)) := by rw [S.1]; exact (zref E.2.2.2.2.2.2.2.2.2 n).symm
  rw [e4]
  rw [S.1] at e1
  refine k l D cA φ n0 p e s m args below meth c K N H1 _ _ _ ls0 E (S.grow hz oq (by show kd < 106; omega) ?_ ?_) (X.grow S.1 oq) (V.grow hz oq) L (by omega) (by omega)
  · intro j hj
    rw [if_neg (show ¬ kd < 100 by omega)]
    rcases hkd with ⟨rfl, rfl⟩ | ⟨rfl, rfl⟩ <;> exact trivial
  · unfold zAt
    rw [if_neg (show ¬ kd < 100 by omega), e1]
    rcases hkd with ⟨rfl, rfl⟩ | ⟨rfl, rfl⟩ <;> rfl
theorem zt_vret (hd : decode cc pc = .ok (.return_, 1)) (k : Q none n sh h) : zT y cc mL none d kc ks Q pc ls [] n sh h := by
  intro l D cA φ n0 p e s m args below meth c K N H locs cells slots ls0 E S X V L c1 c2
  refine W.widen (k := K) (n := N) (by omega) (by omega) ?_
  exact W.vret E.1 E.2.1 E.2.2.2.2.2.1 (fun t ht hW => ⟨⟨none, n, sh, h, rfl, k, by rw [ht]; exact S, by rw [ht]; exact X.moved hW.alike (fun _ _ => rfl)⟩, V.F ht⟩) V.2.2 hd E.2.2.2.2.2.2.1
theorem zt_iret {z : Int} (hd : decode cc pc = .ok (.ireturn, 1)) (k : Q (some (0, z)) n sh h) : zT y cc mL (some .int) d kc ks Q pc ls [(0, z)] n sh h := by
  intro l D cA φ n0 p e s m args below meth c K N H locs cells slots ls0 E S X V L c1 c2
  refine W.widen (k := K) (n := N) (by omega) (by omega) ?_
  exact W.iret E.1 E.2.1 E.2.2.2.2.2.1 (fun t ht hW => ⟨⟨some (0, z), n, sh, h, rfl, k, by rw [ht]; exact S, by rw [ht]; exact X.moved hW.alike (fun _ _ => rfl)⟩, V.F ht⟩) V.2.2 hd E.2.2.2.2.2.2.1
theorem zt_lret {z : Int} (hd : decode cc pc = .ok (.lreturn, 1)) (k : Q (some (1, z)) n sh h) : zT y cc mL (some .long) d kc ks Q pc ls [(1, z)] n sh h := by
  intro l D cA φ n0 p e s m args below meth c K N H locs cells slots ls0 E S X V L c1 c2
  refine W.widen (k := K) (n := N) (by omega) (by omega) ?_
  exact W.lret E.1 E.2.1 E.2.2.2.2.2.1 (fun t ht hW => ⟨⟨some (1, z), n, sh, h, rfl, k, by rw [ht]; exact S, by rw [ht]; exact X.moved hW.alike (fun _ _ => rfl)⟩, V.F ht⟩) V.2.2 hd E.2.2.2.2.2.2.1
theorem zg_nret {z : Int} {ty : FieldType} (hn : narrow ty (.int (Int32.ofInt z)) = .int (Int32.ofInt z)) (hd : decode cc pc = .ok (.ireturn, 1)) (k : Q (some (0, z)) n sh h) : zT y cc mL (some ty) d kc ks Q pc ls [(0, z)] n sh h := by
  intro l D cA φ n0 p e s m args below meth c K N H locs cells slots ls0 E S X V L c1 c2
  refine W.widen (k := K) (n := N) (by omega) (by omega) ?_
  exact W.zret E.1 E.2.1 E.2.2.2.2.2.1 hn (fun t ht hW => ⟨⟨some (0, z), n, sh, h, rfl, k, by rw [ht]; exact S, by rw [ht]; exact X.moved hW.alike (fun _ _ => rfl)⟩, V.F ht⟩) V.2.2 hd E.2.2.2.2.2.2.1
theorem zt_zret {z : Int} (hd : decode cc pc = .ok (.ireturn, 1)) (hz : z = 0 ∨ z = 1) (k : Q (some (0, z)) n sh h) : zT y cc mL (some .boolean) d kc ks Q pc ls [(0, z)] n sh h := zg_nret (by rcases hz with rfl | rfl <;> rfl) hd k
theorem zt_bret {z : Int} (hd : decode cc pc = .ok (.ireturn, 1)) (hz : -128 ≤ z ∧ z ≤ 127) (k : Q (some (0, z)) n sh h) : zT y cc mL (some .byte) d kc ks Q pc ls [(0, z)] n sh h := zg_nret (zn8 (φ := fun _ => 0) hz) hd k
theorem zt_cret {z : Int} (hd : decode cc pc = .ok (.ireturn, 1)) (hz : 0 ≤ z ∧ z ≤ 65535) (k : Q (some (0, z)) n sh h) : zT y cc mL (some .char) d kc ks Q pc ls [(0, z)] n sh h := zg_nret (by
  obtain ⟨q, rfl⟩ : ∃ q : Nat, z = q := ⟨z.toNat, by omega⟩
  rw [Int32.ofInt_eq_ofNat]
  exact (pk_charN (q := q) (by omega)).1) hd k
theorem zt_aret {z : Int} {ty : FieldType} (hd : decode cc pc = .ok (.areturn, 1)) (hty : (∃ c, ty = .object c) ∨ ∃ t, ty = .array t) (k : Q (some (2, z)) n sh h) : zT y cc mL (some ty) d kc ks Q pc ls [(2, z)] n sh h := by
  intro l D cA φ n0 p e s m args below meth c K N H locs cells slots ls0 E S X V L c1 c2
  refine W.widen (k := K) (n := N) (by omega) (by omega) ?_
  exact W.aret (v := zrv φ (2, z)) E.1 E.2.1 E.2.2.2.2.2.1 hty (by by_cases hz : z = -1; exact Or.inl (if_pos hz); exact Or.inr ⟨φ z, if_neg hz⟩) (fun t ht hW => ⟨⟨some (2, z), n, sh, h, rfl, k, by rw [ht]; exact S, by rw [ht]; exact X.moved hW.alike (fun _ _ => rfl)⟩, V.F ht⟩) V.2.2 hd E.2.2.2.2.2.2.1
theorem zoi : Cond.instanceMethod objectInit ∈ zTb ∧ Cond.code objectInit ⟨#[0xb1]⟩ 1 none ∈ zTb := by decide +kernel
theorem zt_objInit {a : Int} {idx : Nat} (hd : decode cc pc = .ok (.invokespecial idx, 3)) (hw : Cond.methodLink y.cls idx objectInit ∈ zTb) (hs : (sh a).1 < 106) (hst : (st.map fun v => if v.1 = 1 then 2 else 1).sum ≤ 8) (k : zT y cc mL rt (d + 1) kc ks Q (pc + 3) ls st n sh h) : zT y cc mL rt (d + 1) kc ks Q pc ls ((2, a) :: st) n sh h := by
  intro l D cA φ n0 p e s m args below meth c K N H locs cells slots ls0 E S X V L c1 c2
  have k2 := (k l D cA φ n0 p e s m args below meth c K N H locs cells slots ls0 E S X V L c1 c2)
  obtain ⟨i, rfl, hi⟩ := S.adr (a := a) hs
  have e1 : zrv φ (2, (i : Int)) = .ref (n0 + i) := zref E.2.2.2.2.2.2.2.2.2 i
  show W _ _ _ _ _ _ _ _ _ _ _ _ _ _ _ (F0 m pc ls0 (zrv φ (2, (i : Int)) :: st.map (zrv φ)))
  rw [e1]
  have hts := E.2.2.2.2.1
  have e2 : ((st.map (zrv φ)).map fun v => v.category) = st.map fun v => if v.1 = 1 then 2 else 1 := by rw [List.map_map]; congr 1; funext v; exact zrv_cat φ v
  have h9 : 2 * (F0 m pc ls0 (.ref (n0 + i) :: st.map (zrv φ))).monitorRoom + ((st.map (zrv φ)).map fun v => v.category).sum ≤ 8 := lv_room (by rw [e2]; exact hst)
  exact W.objInit E.1 E.2.1 E.2.2.2.1 (hts _ hw) (hts _ zoi.1) (hts _ zoi.2) rfl (by rw [E.2.2.1]; exact L.1) rfl hd (by show 1 ≤ d + 1; omega) (by show _ + 12 ≤ 64 * (d + 1); omega) k2
end zRules7
