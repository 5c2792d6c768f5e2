section zHeap
def zTT (c : Nat) : u_T := match c with
  | 0 => TX0
  | 1 => TX1
  | 2 => TX2
  | 3 => TX3
  | 4 => TX4
  | 5 => TX5
  | 6 => TX6
  | 7 => TX7
  | 8 => TX8
  | 9 => TX9
  | 10 => TX10
  | _ => TX11
def zTy (c : Nat) : Nat → FieldType := match c with
  | 0 => tyX0
  | 1 => tyX1
  | 2 => tyX2
  | 3 => tyX3
  | 4 => tyX4
  | 5 => tyX5
  | 6 => tyX6
  | 7 => tyX7
  | 8 => tyX8
  | 9 => tyX9
  | 10 => tyX10
  | _ => tyX11
def zRR (c : Nat) : String := match c with
  | 0 => RX0
  | 1 => RX1
  | 2 => RX2
  | 3 => RX3
  | 4 => RX4
  | 5 => RX5
  | 6 => RX6
  | 7 => RX7
  | 8 => RX8
  | 9 => RX9
  | 10 => RX10
  | _ => RX11
def zNN (c : Nat) : Nat := match c with
  | 0 => 3 | 1 => 7 | 2 => 6 | 3 => 9 | 4 => 7 | 5 => 2 | 6 => 12 | 7 => 1 | 8 => 14 | 9 => 2 | 10 => 14
  | _ => 64
def ztk : Nat → FieldType → Bool
  | 0, .int => true
  | 1, .long => true
  | 2, .object _ => true
  | 2, .array _ => true
  | 3, .boolean => true
  | _, _ => false
/-- what is so of a class, by its number -/
def zclsP (c : Nat) : Prop := vwCl[c]? = some (zRR c, zTT c, zNN c) ∧ (∀ w ∈ u_ws (zRR c) (zTT c) (zNN c), w ∈ zTb) ∧ (∀ k, k < zNN c → parseFieldDescriptor (zTT c k).2.2.1 = some (zTy c k)) ∧ (∀ a, a < zNN c → ∀ b, b < zNN c → a ≠ b → (zTT c a).2.1 ≠ (zTT c b).2.1) ∧ (∀ k, k < zNN c → ztk (zft c k) (zTy c k) = true) ∧ ∀ k, k < zNN c → (zTT c k).1 = zRR c
theorem zcls_0 : zclsP 0 := ⟨rfl, by decide +kernel, by decide +kernel, nmX0, by decide +kernel, by decide +kernel⟩
theorem zcls_1 : zclsP 1 := ⟨rfl, by decide +kernel, by decide +kernel, nmX1, by decide +kernel, by decide +kernel⟩
theorem zcls_2 : zclsP 2 := ⟨rfl, by decide +kernel, by decide +kernel, nmX2, by decide +kernel, by decide +kernel⟩
theorem zcls_3 : zclsP 3 := ⟨rfl, by decide +kernel, by decide +kernel, nmX3, by decide +kernel, by decide +kernel⟩
theorem zcls_4 : zclsP 4 := ⟨rfl, by decide +kernel, by decide +kernel, nmX4, by decide +kernel, by decide +kernel⟩
theorem zcls_5 : zclsP 5 := ⟨rfl, by decide +kernel, by decide +kernel, nmX5, by decide +kernel, by decide +kernel⟩
theorem zcls_6 : zclsP 6 := ⟨rfl, by decide +kernel, by decide +kernel, nmX6, by decide +kernel, by decide +kernel⟩
theorem zcls_7 : zclsP 7 := ⟨rfl, by decide +kernel, by decide +kernel, nmX7, by decide +kernel, by decide +kernel⟩
theorem zcls_8 : zclsP 8 := ⟨rfl, by decide +kernel, by decide +kernel, nmX8, by decide +kernel, by decide +kernel⟩
theorem zcls_9 : zclsP 9 := ⟨rfl, by decide +kernel, by decide +kernel, nmX9, by decide +kernel, by decide +kernel⟩
theorem zcls_10 : zclsP 10 := ⟨rfl, by decide +kernel, by decide +kernel, nmX10, by decide +kernel, by decide +kernel⟩
theorem zcls_11 : zclsP 11 := ⟨rfl, by decide +kernel, by decide +kernel, nmX11, by decide +kernel, by decide +kernel⟩
theorem zcls : ∀ c, c < 12 → zclsP c
  | 0, _ => zcls_0
  | 1, _ => zcls_1
  | 2, _ => zcls_2
  | 3, _ => zcls_3
  | 4, _ => zcls_4
  | 5, _ => zcls_5
  | 6, _ => zcls_6
  | 7, _ => zcls_7
  | 8, _ => zcls_8
  | 9, _ => zcls_9
  | 10, _ => zcls_10
  | 11, _ => zcls_11
  | c + 12, h => absurd h (by omega)
/-- a link of a class' pool to a field: class ci of N fields, field j, of kind kd, on the stack tg -/
def zFL (own : String) (idx ci N : Nat) (j : Int) (kd tg : Nat) : Prop := 0 ≤ j ∧ j.toNat < N ∧ ci < 12 ∧ N = zNN ci ∧ zft ci j.toNat = kd ∧ zmt kd = tg ∧ Cond.fieldLink own idx (zTT ci j.toNat).1 (zTT ci j.toNat).2.1 (zTT ci j.toNat).2.2.1 ∈ zTb
theorem zup_ne {h : zMem} {a j z x : Int} (hx : x ≠ a) : zup h a j z x = h x := by
  funext q
  show (if x = a ∧ q = j then z else h x q) = h x q
  rw [if_neg (fun q => hx q.1)]
theorem zup_at {h : zMem} {a j z : Int} {q : Int} : zup h a j z a q = if q = j then z else h a q := by
  show (if a = a ∧ q = j then z else h a q) = _
  simp
theorem zSim.adr {D : va_G} {cA : Nat → ClassId} {φ : Int → Nat} {n0 n : Nat} {sh : zSh} {h : zMem} {H : Heap} (S : zSim D cA φ n0 n sh h H) {a : Int} (ha : (sh a).1 < 106) : ∃ k : Nat, a = k ∧ k < n := by
  have h1 : ¬ (a < 0 ∨ (n : Int) ≤ a) := fun q => by have := S.2.1 a q; omega
  exact ⟨a.toNat, by omega, by omega⟩
theorem zSim.up {D : va_G} {cA : Nat → ClassId} {φ : Int → Nat} {n0 n : Nat} {sh : zSh} {h : zMem} {H H1 : Heap} (S : zSim D cA φ n0 n sh h H) {k : Nat} {j z : Int} (hz : H1.size = H.size) (oq : ∀ q : Nat, q ≠ n0 + k → H1[q]? = H[q]?) (hk : k < n) (hr : zRg (sh k) (zup h k j z k)) (ha : zAt D cA φ (sh k) (zup h k j z k) (n0 + k) H1) : zSim D cA φ n0 n sh (zup h k j z) H1 := by
  refine ⟨by rw [hz]; exact S.1, S.2.1, fun i hi => ?_⟩
  by_cases hik : i = k
  · subst hik; exact ⟨(S.2.2 i hi).1, hr, ha⟩
  · have e1 : zup h k j z i = h i := zup_ne (by omega)
    rw [e1]
    obtain ⟨b1, b2, b3⟩ := S.2.2 i hi
    refine ⟨b1, b2, ?_⟩
    have e2 := oq (n0 + i) (by omega)
    unfold zAt at b3 ⊢
    split at b3
    · rename_i hc
      rw [if_pos hc]
      obtain ⟨cell, w1, w2⟩ := b3.2
      exact ⟨b3.1, cell, by rw [e2]; exact w1, w2⟩
    · rename_i hc
      rw [if_neg hc, e2]; exact b3
theorem zX.up {φ : Int → Nat} {n0 : Nat} {sh : zSh} {h : zMem} {U : State} {H H1 : Heap} {k : Nat} {j z : Int} (X : zX φ n0 sh h U H) (oq : ∀ q : Nat, q ≠ n0 + k → H1[q]? = H[q]?) : zX φ n0 sh (zup h k j z) U H1 := by
  intro L hL
  have e1 : zup h k j z (-1000) = h (-1000) := zup_ne (by omega)
  obtain ⟨a1, a2, a3⟩ := X L hL
  rw [e1]
  exact ⟨a1, a2, a3.kept (oq _ (by omega))⟩
theorem zref {φ : Int → Nat} {n0 : Nat} (hφ : ∀ k : Nat, φ (k : Int) = n0 + k) (k : Nat) : zrv φ (2, (k : Int)) = .ref (n0 + k) := by
  show (if (k : Int) = -1 then Value.null else .ref (φ k)) = _
  rw [if_neg (by omega), hφ]
theorem znar {φ : Int → Nat} {kd : Nat} {ty : FieldType} {z : Int} (ht : ztk kd ty = true) (hz : zok kd z) : narrow ty (zrv φ (zmt kd, z)) = zrv φ (zmt kd, z) ∧ fits ty (zrv φ (zmt kd, z)) = true := by
  match kd, ty, ht with
  | 0, .int, _ => exact ⟨rfl, rfl⟩
  | 1, .long, _ => exact ⟨rfl, rfl⟩
  | 2, .object _, _ =>
    show narrow _ (if z = -1 then Value.null else .ref (φ z)) = (if z = -1 then Value.null else .ref (φ z)) ∧ fits _ (if z = -1 then Value.null else .ref (φ z)) = true
    split <;> exact ⟨rfl, rfl⟩
  | 2, .array _, _ =>
    show narrow _ (if z = -1 then Value.null else .ref (φ z)) = (if z = -1 then Value.null else .ref (φ z)) ∧ fits _ (if z = -1 then Value.null else .ref (φ z)) = true
    split <;> exact ⟨rfl, rfl⟩
  | 3, .boolean, _ =>
    rcases (show z = 0 ∨ z = 1 from hz) with rfl | rfl
    · exact ⟨rfl, rfl⟩
    · exact ⟨rfl, rfl⟩
end zHeap
section zRules5
variable {y : MethodName} {cc : ByteArray} {mL : Nat} {rt : Option FieldType} {d kc ks : Nat} {Q : Option zV → Nat → zSh → zMem → Prop} {pc : Nat} {ls : List (Option zV)} {st : List zV} {n : Nat} {sh : zSh} {h : zMem}
theorem zt_get {a j : Int} {idx ci N0 kd tg : Nat} (hd : decode cc pc = .ok (.getfield idx, 3)) (hf : zFL y.cls idx ci N0 j kd tg) (hs : sh a = (ci, N0)) (k : zT y cc mL rt d kc ks Q (pc + 3) ls ((tg, h a j) :: st) n sh h) : zT y cc mL rt d kc ks Q pc ls ((2, a) :: st) n sh h := by
  intro l D cA φ n0 p e s m args below meth c K N H locs cells slots ls0 E S X V L c1 c2
  have k2 := k l D cA φ n0 p e s m args below meth c K N H locs cells slots ls0 E S X V L c1 c2
  obtain ⟨f1, f2, f3, rfl, rfl, rfl, f7⟩ := hf
  obtain ⟨hc, hin, hty, hnm, htk, -⟩ := zcls ci f3
  obtain ⟨i, rfl, hi⟩ := S.adr (a := a) (by rw [hs]; omega)
  obtain ⟨b1, b2, b3⟩ := S.2.2 i hi
  rw [hs] at b3
  have b4 : (∃ r : vw_C, vwCl[ci]? = some r ∧ r.2.2 = zNN ci) ∧ t_OB (n0 + i) (D.1 ci) (zNN ci) (D.2 ci) H (fun j => zrv φ (zmt (zft ci j), h i j)) := by
    unfold zAt at b3; rw [if_pos (show ci < 100 by omega)] at b3; exact b3
  have hP : va_P D vwCl [(n0 + i, .inr (ci, (List.range (zNN ci)).map fun j : Nat => zrv φ (zmt (zft ci j), h i j)))] H := by
    intro q0 q hq
    match q0, hq with
    | 0, hq =>
      cases hq
      refine ⟨_, hc, b4.2.to (fun j hj => ?_)⟩
      simp [vp_V, hj]
    | q0 + 1, hq => simp at hq
  have e1 : zrv φ (2, (i : Int)) = .ref (n0 + i) := zref E.2.2.2.2.2.2.2.2.2 i
  show W _ _ _ _ _ _ _ _ _ _ _ _ _ _ _ (F0 m pc ls0 (zrv φ (2, (i : Int)) :: st.map (zrv φ)))
  rw [e1]
  refine va_get (ci := ci) (C := zRR ci) (T := zTT ci) (N := zNN ci) E.1 E.2.1 E.2.2.2.2.1 hin E.2.2.2.1 E.2.2.2.2.2.2.2.2.1.1 hP 0 rfl hc j.toNat f2 (E.2.2.2.2.1 _ f7) (fun _ h9 => h9) (v := zrv φ (zmt (zft ci j.toNat), h i j)) ?_ hd k2
  rw [List.getElem?_map, List.getElem?_range f2]
  show some (zrv φ (zmt (zft ci j.toNat), h i (j.toNat : Int))) = _
  rw [Int.toNat_of_nonneg f1]
theorem zg_put {a j z : Int} {idx ci N0 kd tg : Nat} (hd : decode cc pc = .ok (.putfield idx, 3)) (hf : zFL y.cls idx ci N0 j kd tg) (hfin : (zTT ci j.toNat).2.2.2 = false ∨ (y.name = "<init>" ∧ zRR ci = y.cls)) (hs : sh a = (ci, N0)) (hz : zok kd z) (k : zT y cc mL rt d kc ks Q (pc + 3) ls st n sh (zup h a j z)) : zT y cc mL rt d kc ks Q pc ls ((tg, z) :: (2, a) :: st) n sh h := by
  intro l D cA φ n0 p e s m args below meth c K N H locs cells slots ls0 E S X V L c1 c2
  obtain ⟨f1, f2, f3, rfl, rfl, rfl, f7⟩ := hf
  obtain ⟨hc, hin, hty, hnm, htk, hdecl⟩ := zcls ci f3
  obtain ⟨i, rfl, hi⟩ := S.adr (a := a) (by rw [hs]; omega)
  obtain ⟨b1, b2, b3⟩ := S.2.2 i hi
  have hts := E.2.2.2.2.1
  have hK := E.2.2.2.2.2.2.2.2.1.1
  rw [hs] at b3
  have b4 : (∃ r : vw_C, vwCl[ci]? = some r ∧ r.2.2 = zNN ci) ∧ t_OB (n0 + i) (D.1 ci) (zNN ci) (D.2 ci) H (fun j => zrv φ (zmt (zft ci j), h i j)) := by
    unfold zAt at b3; rw [if_pos (show ci < 100 by omega)] at b3; exact b3
  have hap := va_apart (own := "") hts hin (zTy ci) hty hnm hK hc
  obtain ⟨cell, q1, q2, q3, q4⟩ := b4.2
  obtain ⟨hS, hfc, kC, hkC, hkind⟩ := hK.1 ci _ hc
  obtain ⟨cf, kf, fi, f, hfi, hsl⟩ := hS j.toNat f2
  have hlay := hts _ (hin _ (u_in_lay f2))
  have hst := (u_facts hfc hkC (u_lays hts hin f2) hfi).1
  have hnf := znar (φ := φ) (htk j.toNat f2) hz
  have e1 : zrv φ (2, (i : Int)) = .ref (n0 + i) := zref E.2.2.2.2.2.2.2.2.2 i
  show W _ _ _ _ _ _ _ _ _ _ _ _ _ _ _ (F0 m pc ls0 (zrv φ (zmt (zft ci j.toNat), z) :: zrv φ (2, (i : Int)) :: st.map (zrv φ)))
  rw [e1]
  have kk : ∀ H' : Heap, H'[n0 + i]? = some (cell.setSlot f.slot (zrv φ (zmt (zft ci j.toNat), z))) → H'.size = H.size → (∀ q, q ≠ n0 + i → H'[q]? = H[q]?) → W p l e (zRoom d K N) s m args below meth c H' (locs ++ [⟨n0 + i, f.slot⟩]) cells slots (MQ below (zQ D cA φ n0 Q) args s K N (zA n0)) (F0 m (pc + 3) ls0 (st.map (zrv φ))) := by
    intro H' w1 w2 w3
    refine k l D cA φ n0 p e s m args below meth c K N H' _ cells slots ls0 E (S.up w2 w3 hi ?_ ?_) (X.up w3) (V.put w2 w3 (Nat.le_add_right n0 i)) L c1 c2
    · intro j' hj'
      have b5 := b2 j' hj'
      rw [hs] at b5 ⊢
      rw [if_pos (show ci < 100 by omega)] at b5 ⊢
      rw [zup_at]
      by_cases hjj : (j' : Int) = j
      · rw [if_pos hjj]; subst hjj; exact hz
      · rw [if_neg hjj]; exact b5
    · rw [hs]
      unfold zAt
      rw [if_pos (show ci < 100 by omega)]
      refine ⟨b4.1, ?_⟩
      have q5 := t_set q4 hap f2 (zrv φ (zmt (zft ci j.toNat), z))
      rw [hsl] at w1
      refine t_OB.to (V := updV (fun j => zrv φ (zmt (zft ci j), h i j)) j.toNat (zrv φ (zmt (zft ci j.toNat), z))) ⟨_, w1, q2, q3, q5⟩ (fun j' hj' => ?_)
      show (if j' = j.toNat then _ else _) = zrv φ (zmt (zft ci j'), zup h i j z i j')
      rw [zup_at]
      by_cases hjj : j' = j.toNat
      · subst hjj
        rw [if_pos rfl, if_pos (Int.toNat_of_nonneg f1)]
      · rw [if_neg hjj, if_neg (by omega)]
  unfold u_lay at hlay
  by_cases hb : (zTT ci j.toNat).2.2.2 = false
  · rw [if_neg (by rw [hb]; decide)] at hlay
    have h6 := u_store hfc hkC hkind hlay hfi (hty _ f2) hnf.1 hnf.2
    exact W.putK E.1 E.2.1 (f := f) ⟨E.2.2.2.1, hts _ f7, ⟨_, _, _, hfi⟩, hst⟩ (by rw [q2]; exact h6) q1 q3 (by rw [hsl]; exact k2_hasslot (q4 _ f2)) rfl rfl hd kk
  · rcases hfin with hfin | ⟨hn1, hn2⟩
    · exact absurd hfin hb
    have hb2 : (zTT ci j.toNat).2.2.2 = true := by revert hb; cases (zTT ci j.toNat).2.2.2 <;> simp
    rw [if_pos hb2] at hlay
    have hcf : m.cls = cf := by
      obtain ⟨_, _, c', _, _, _, -, -, hf', -, -, -, hown2, -⟩ := Cond.laysFinal_spec hlay
      have e1 : c' = cf := by have := hfi.symm.trans hf'; simp at this; exact this.1.symm
      have hown := E.2.2.2.1
      rw [hdecl _ f2, hn2] at hown2
      rw [← e1]; exact Option.some.inj (hown.symm.trans hown2)
    have h6 := u_fits hfc hkC hkind (Or.inr hlay) hfi (hty _ f2) hnf.1 hnf.2
    exact W.putFinK E.1 E.2.1 E.2.2.2.1 (hts _ f7) hfi hst hcf (E.2.2.2.2.2.2.2.1.trans hn1) (by rw [q2]; exact h6) q1 q3 (by rw [hsl]; exact k2_hasslot (q4 _ f2)) rfl rfl hd kk
theorem zt_puti {a j z : Int} {idx ci N0 : Nat} (hd : decode cc pc = .ok (.putfield idx, 3)) (hf : zFL y.cls idx ci N0 j 0 0) (hfin : (zTT ci j.toNat).2.2.2 = false) (hs : sh a = (ci, N0)) (hz : zi32 z) (k : zT y cc mL rt d kc ks Q (pc + 3) ls st n sh (zup h a j z)) : zT y cc mL rt d kc ks Q pc ls ((0, z) :: (2, a) :: st) n sh h := zg_put hd hf (Or.inl hfin) hs hz k
theorem zt_putFi {a j z : Int} {idx ci N0 : Nat} (hd : decode cc pc = .ok (.putfield idx, 3)) (hf : zFL y.cls idx ci N0 j 0 0) (hfin : y.name = "<init>" ∧ zRR ci = y.cls) (hs : sh a = (ci, N0)) (hz : zi32 z) (k : zT y cc mL rt d kc ks Q (pc + 3) ls st n sh (zup h a j z)) : zT y cc mL rt d kc ks Q pc ls ((0, z) :: (2, a) :: st) n sh h := zg_put hd hf (Or.inr hfin) hs hz k
theorem zt_putl {a j z : Int} {idx ci N0 : Nat} (hd : decode cc pc = .ok (.putfield idx, 3)) (hf : zFL y.cls idx ci N0 j 1 1) (hfin : (zTT ci j.toNat).2.2.2 = false) (hs : sh a = (ci, N0)) (hz : zi64 z) (k : zT y cc mL rt d kc ks Q (pc + 3) ls st n sh (zup h a j z)) : zT y cc mL rt d kc ks Q pc ls ((1, z) :: (2, a) :: st) n sh h := zg_put hd hf (Or.inl hfin) hs hz k
theorem zt_putFl {a j z : Int} {idx ci N0 : Nat} (hd : decode cc pc = .ok (.putfield idx, 3)) (hf : zFL y.cls idx ci N0 j 1 1) (hfin : y.name = "<init>" ∧ zRR ci = y.cls) (hs : sh a = (ci, N0)) (hz : zi64 z) (k : zT y cc mL rt d kc ks Q (pc + 3) ls st n sh (zup h a j z)) : zT y cc mL rt d kc ks Q pc ls ((1, z) :: (2, a) :: st) n sh h := zg_put hd hf (Or.inr hfin) hs hz k
theorem zt_putr {a j z : Int} {idx ci N0 : Nat} (hd : decode cc pc = .ok (.putfield idx, 3)) (hf : zFL y.cls idx ci N0 j 2 2) (hfin : (zTT ci j.toNat).2.2.2 = false) (hs : sh a = (ci, N0))  (k : zT y cc mL rt d kc ks Q (pc + 3) ls st n sh (zup h a j z)) : zT y cc mL rt d kc ks Q pc ls ((2, z) :: (2, a) :: st) n sh h := zg_put hd hf (Or.inl hfin) hs trivial k
theorem zt_putFr {a j z : Int} {idx ci N0 : Nat} (hd : decode cc pc = .ok (.putfield idx, 3)) (hf : zFL y.cls idx ci N0 j 2 2) (hfin : y.name = "<init>" ∧ zRR ci = y.cls) (hs : sh a = (ci, N0))  (k : zT y cc mL rt d kc ks Q (pc + 3) ls st n sh (zup h a j z)) : zT y cc mL rt d kc ks Q pc ls ((2, z) :: (2, a) :: st) n sh h := zg_put hd hf (Or.inr hfin) hs trivial k
theorem zt_putz {a j z : Int} {idx ci N0 : Nat} (hd : decode cc pc = .ok (.putfield idx, 3)) (hf : zFL y.cls idx ci N0 j 3 0) (hfin : (zTT ci j.toNat).2.2.2 = false) (hs : sh a = (ci, N0)) (hz : z = 0 ∨ z = 1) (k : zT y cc mL rt d kc ks Q (pc + 3) ls st n sh (zup h a j z)) : zT y cc mL rt d kc ks Q pc ls ((0, z) :: (2, a) :: st) n sh h := zg_put hd hf (Or.inl hfin) hs hz k
theorem zt_putFz {a j z : Int} {idx ci N0 : Nat} (hd : decode cc pc = .ok (.putfield idx, 3)) (hf : zFL y.cls idx ci N0 j 3 0) (hfin : y.name = "<init>" ∧ zRR ci = y.cls) (hs : sh a = (ci, N0)) (hz : z = 0 ∨ z = 1) (k : zT y cc mL rt d kc ks Q (pc + 3) ls st n sh (zup h a j z)) : zT y cc mL rt d kc ks Q pc ls ((0, z) :: (2, a) :: st) n sh h := zg_put hd hf (Or.inr hfin) hs hz k
end zRules5
