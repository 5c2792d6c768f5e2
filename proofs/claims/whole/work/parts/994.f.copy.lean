theorem zac_ml : Cond.methodLink RJ7 150 arraycopyName ∈ zTb := (zTb_in (zin_3 (List.mem_of_getElem? (i := 42) rfl)) rfl)
theorem zac_st : Cond.static arraycopyName ∈ zTb := (zTb_in (zin_3 (List.mem_of_getElem? (i := 43) rfl)) rfl)
theorem zac_na : Cond.native arraycopyName ∈ zTb := (zTb_in (zin_3 (List.mem_of_getElem? (i := 44) rfl)) rfl)
theorem zac_in : Cond.initialized "java/lang/System" ∈ zTb := (zTb_in (zin_1 (List.mem_of_getElem? (i := 19) rfl)) rfl)
theorem zac_wd : nativeFrameWords "java/lang/System" "arraycopy" 5 ≤ 40 := by decide +kernel
section zCopy
variable {y : MethodName} {cc : ByteArray} {mL : Nat} {rt : Option FieldType} {d kc ks : Nat} {Q : Option zV → Nat → zSh → zMem → Prop} {pc : Nat} {ls : List (Option zV)} {st : List zV} {n : Nat} {sh : zSh} {h : zMem}
theorem zt_room {kc' ks' : Nat} (h1 : kc' ≤ kc) (h2 : ks' ≤ ks) (k : zT y cc mL rt d kc' ks' Q pc ls st n sh h) : zT y cc mL rt d kc ks Q pc ls st n sh h := by
  intro l D cA φ n0 p e s m args below meth c K N H locs cells slots ls0 E S X V L c1 c2
  exact k l D cA φ n0 p e s m args below meth c K N H locs cells slots ls0 E S X V L (by omega) (by omega)
/-- one row of the memory is another -/
theorem zSim.row {D : va_G} {cA : Nat → ClassId} {φ : Int → Nat} {n0 n : Nat} {sh : zSh} {h h' : zMem} {H H1 : Heap} (S : zSim D cA φ n0 n sh h H) {k : Nat} (he : ∀ x : Int, x ≠ k → h' x = h x) (hz : H1.size = H.size) (oq : ∀ q : Nat, q ≠ n0 + k → H1[q]? = H[q]?) (hr : zRg (sh k) (h' k)) (ha : zAt D cA φ (sh k) (h' k) (n0 + k) H1) : zSim D cA φ n0 n sh h' H1 := by
  refine ⟨by rw [hz]; exact S.1, S.2.1, fun i hi => ?_⟩
  obtain ⟨b1, b2, b3⟩ := S.2.2 i hi
  by_cases hik : i = k
  · subst hik; exact ⟨b1, hr, ha⟩
  · rw [he i (by omega)]
    have e2 := oq (n0 + i) (by omega)
    refine ⟨b1, b2, ?_⟩
    unfold zAt at b3 ⊢
    by_cases hc : (sh i).1 < 100
    · rw [if_pos hc] at b3 ⊢
      obtain ⟨cell, w1, w2⟩ := b3.2
      exact ⟨b3.1, cell, by rw [e2]; exact w1, w2⟩
    · rw [if_neg hc] at b3 ⊢
      rw [e2]; exact b3
/-- the first N of one row stand in another -/
def zcopy (h : zMem) (a b N : Int) : zMem := fun x z => if x = b ∧ 0 ≤ z ∧ z < N then h a z else h x z
theorem zt_acopy {a b N : Int} {N0 N1 idx : Nat} (hd : decode cc pc = .ok (.invokestatic idx, 3)) (hl : Cond.methodLink y.cls idx arraycopyName ∈ zTb) (ha : sh a = (100, N0)) (hb : sh b = (100, N1)) (h0 : 0 ≤ N) (h1 : N ≤ N0) (h2 : N ≤ N1) (hN : N ≤ 100000) (hw : zws st ≤ 8) (k : zT y cc mL rt (d + 1) kc ks Q (pc + 3) ls st n sh (zcopy h a b N)) : zT y cc mL rt (d + 1) kc ks Q pc ls ((0, N) :: (0, 0) :: (2, b) :: (0, 0) :: (2, a) :: st) n sh h := by
  intro l D cA φ n0 p e s m args below meth c K M H locs cells slots ls0 E S X V L c1 c2
  have hts := E.2.2.2.2.1
  have hK := E.2.2.2.2.2.2.2.2.1.1
  obtain ⟨i, rfl, hi0, hc0, hr0⟩ := S.arr ha (by omega) (by omega)
  obtain ⟨j, rfl, hj0, hc1, hr1⟩ := S.arr hb (by omega) (by omega)
  have e1 : zrv φ (2, (i : Int)) = .ref (n0 + i) := zref E.2.2.2.2.2.2.2.2.2 i
  have e2 : zrv φ (2, (j : Int)) = .ref (n0 + j) := zref E.2.2.2.2.2.2.2.2.2 j
  show W _ _ _ _ _ _ _ _ _ _ _ _ _ _ _ (F0 m pc ls0 (.int (Int32.ofInt N) :: .int (Int32.ofInt 0) :: zrv φ (2, (j : Int)) :: .int (Int32.ofInt 0) :: zrv φ (2, (i : Int)) :: st.map (zrv φ)))
  rw [e1, e2]
  have hN3 : zi32 N := by unfold zi32; omega
  have t0 : (Int32.ofInt N).toInt = N := zi32_t hN3
  have t1 : (Int32.ofInt N).toNatClampNeg = N.toNat := by show (Int32.ofInt N).toInt.toNat = _; rw [t0]
  have t2 : (Int32.ofInt 0).toInt = 0 := by decide
  have t3 : (Int32.ofInt 0).toNatClampNeg = 0 := by decide
  intro T hT X0
  obtain ⟨-, k0, hk0, cm0, hkk0⟩ := (hK.2 0 _ rfl).1 N0 (fun q => zrv φ (zat 100, h i q))
  obtain ⟨-, k1, hk1, cm1, hkk1⟩ := (hK.2 0 _ rfl).1 N1 (fun q => zrv φ (zat 100, h j q))
  obtain ⟨vm', X', step⟩ := X0.arraycopy E.1 E.2.2.2.1 (hts _ hl) (hts _ zac_na) (hts _ zac_st) (hts _ zac_in) (src := n0 + i) (dst := n0 + j) (cs := arrV (cA 0) N0 (fun q => zrv φ (zat 100, h i q))) (cd := arrV (cA 0) N1 (fun q => zrv φ (zat 100, h j q))) (srcPos := Int32.ofInt 0) (destPos := Int32.ofInt 0) (n := Int32.ofInt N) (by rw [hT]; exact hc0) (by rw [hT]; exact hc1)
    (fun _ q => by cases q) (fun _ q => by cases q) (fun q => by cases q) (fun q => by cases q) hk0 hk1 hkk0 hkk1 rfl (by decide) (by decide) (fun q => by have := (zi32_lt hN3 zi32_0).mp q; omega)
    (by rw [t0, t2, arrV_size]; omega) (by rw [t0, t2, arrV_size]; omega)
    (fun vm₁ _ q hq => by
      rw [t1] at hq
      have e3 : (arrV (cA 0) N0 (fun q => zrv φ (zat 100, h i q))).slots.getD ((Int32.ofInt 0).toNatClampNeg + q) .null = zrv φ (zat 100, h i ((0 + q : Nat) : Int)) := by
        rw [t3, Array.getD_eq_getD_getElem?, arrV_read _ _ (by omega)]
        rfl
      refine ⟨?_, ?_⟩
      · rw [e3]; rfl
      · rw [e3]; exact trivial)
    (g := F0 m pc ls0 (.int (Int32.ofInt N) :: .int (Int32.ofInt 0) :: .ref (n0 + j) :: .int (Int32.ofInt 0) :: .ref (n0 + i) :: st.map (zrv φ))) rfl (by rw [E.2.2.1]; exact L.1) (rest := st.map (zrv φ)) rfl (by rw [E.2.1]; exact hd) (by show 1 ≤ d + 1; omega)
    (by
      have q1 : (((st.map (zrv φ)).map fun v => v.category)).sum ≤ 8 := by rw [zws_cat]; exact hw
      have q2 := zac_wd
      show 2 * 0 + _ + _ ≤ 64 * (d + 1)
      omega)
  have e4 : copied (arrV (cA 0) N0 (fun q => zrv φ (zat 100, h i q))) (arrV (cA 0) N1 (fun q => zrv φ (zat 100, h j q))) (Int32.ofInt 0) (Int32.ofInt 0) (Int32.ofInt N) = arrV (cA 0) N1 (va_cpy (fun q => zrv φ (zat 100, h i q)) (fun q => zrv φ (zat 100, h j q)) (Int32.ofInt 0).toNatClampNeg (Int32.ofInt 0).toNatClampNeg (Int32.ofInt N).toNatClampNeg) := va_copied (fun z => z) (cA 0) (cA 0) _ _ (by rw [t1, t3]; omega)
  rw [e4] at X' step
  have hl2 : n0 + j < H.size := (Array.getElem?_eq_some_iff.mp hc1).1
  have oq : ∀ q : Nat, q ≠ n0 + j → (H.setIfInBounds (n0 + j) (arrV (cA 0) N1 (va_cpy (fun q => zrv φ (zat 100, h i q)) (fun q => zrv φ (zat 100, h j q)) (Int32.ofInt 0).toNatClampNeg (Int32.ofInt 0).toNatClampNeg (Int32.ofInt N).toNatClampNeg)))[q]? = H[q]? := fun q hq => by simp [Array.getElem?_setIfInBounds, Ne.symm hq]
  have hz : (H.setIfInBounds (n0 + j) (arrV (cA 0) N1 (va_cpy (fun q => zrv φ (zat 100, h i q)) (fun q => zrv φ (zat 100, h j q)) (Int32.ofInt 0).toNatClampNeg (Int32.ofInt 0).toNatClampNeg (Int32.ofInt N).toNatClampNeg))).size = H.size := by simp
  have hrow : ∀ q : Nat, zcopy h i j N j q = if (q : Int) < N then h i q else h j q := fun q => by
    show (if (j : Int) = (j : Int) ∧ 0 ≤ (q : Int) ∧ (q : Int) < N then h i q else h j q) = _
    by_cases c : (q : Int) < N
    · rw [if_pos ⟨rfl, by omega, c⟩, if_pos c]
    · rw [if_neg (fun z => c z.2.2), if_neg c]
  have S' : zSim D cA φ n0 n sh (zcopy h i j N) (H.setIfInBounds (n0 + j) (arrV (cA 0) N1 (va_cpy (fun q => zrv φ (zat 100, h i q)) (fun q => zrv φ (zat 100, h j q)) (Int32.ofInt 0).toNatClampNeg (Int32.ofInt 0).toNatClampNeg (Int32.ofInt N).toNatClampNeg))) := by
    refine S.row (k := j) (fun x hx => funext fun z => if_neg (fun q => hx q.1)) hz oq ?_ ?_
    · rw [hb]
      intro q hq
      have b5 := hr1 q hq
      rw [if_neg (show ¬ 100 < 100 by omega)] at b5 ⊢
      rw [hrow]
      split
      · rename_i c
        have b6 := hr0 q (by show q < N0; omega)
        rw [if_neg (show ¬ 100 < 100 by omega)] at b6
        exact b6
      · exact b5
    · rw [hb]
      unfold zAt
      rw [if_neg (show ¬ 100 < 100 by omega)]
      have e5 : (H.setIfInBounds (n0 + j) (arrV (cA 0) N1 (va_cpy (fun q => zrv φ (zat 100, h i q)) (fun q => zrv φ (zat 100, h j q)) (Int32.ofInt 0).toNatClampNeg (Int32.ofInt 0).toNatClampNeg (Int32.ofInt N).toNatClampNeg)))[n0 + j]? = some (arrV (cA 0) N1 (va_cpy (fun q => zrv φ (zat 100, h i q)) (fun q => zrv φ (zat 100, h j q)) (Int32.ofInt 0).toNatClampNeg (Int32.ofInt 0).toNatClampNeg (Int32.ofInt N).toNatClampNeg)) := by simp [Array.getElem?_setIfInBounds, hl2]
      rw [e5, t1, t3]
      congr 2
      funext q
      rw [hrow]
      unfold va_cpy
      by_cases c : (q : Int) < N
      · rw [if_pos (by omega), if_pos c, Nat.sub_zero, Nat.zero_add]
      · rw [if_neg (by omega), if_neg c]
  have hX' : zX φ n0 sh (zcopy h i j N) s (H.setIfInBounds (n0 + j) (arrV (cA 0) N1 (va_cpy (fun q => zrv φ (zat 100, h i q)) (fun q => zrv φ (zat 100, h j q)) (Int32.ofInt 0).toNatClampNeg (Int32.ofInt 0).toNatClampNeg (Int32.ofInt N).toNatClampNeg))) := by
    have e6 : zcopy h i j N (-1000) = h (-1000) := funext fun z => if_neg (fun q => by omega)
    have q := X.moved (U := s) (Vm.Alike.refl _) (fun q hq => oq q (by omega))
    unfold zX at q ⊢
    rw [e6]; exact q
  have hheap : ((T.setVm vm').setCell (n0 + j) (arrV (cA 0) N1 (va_cpy (fun q => zrv φ (zat 100, h i q)) (fun q => zrv φ (zat 100, h j q)) (Int32.ofInt 0).toNatClampNeg (Int32.ofInt 0).toNatClampNeg (Int32.ofInt N).toNatClampNeg))).heap = H.setIfInBounds (n0 + j) (arrV (cA 0) N1 (va_cpy (fun q => zrv φ (zat 100, h i q)) (fun q => zrv φ (zat 100, h j q)) (Int32.ofInt 0).toNatClampNeg (Int32.ofInt 0).toNatClampNeg (Int32.ofInt N).toNatClampNeg)) := by rw [← hT]; rfl
  obtain ⟨t, a1, b1⟩ := k l D cA φ n0 p e s m args below meth c K M _ _ cells slots ls0 E S' hX' ⟨by rw [hz]; exact V.1, fun q g1 g2 => by
      rw [oq q (fun e => g2 (by rw [e]; show n0 ≤ n0 + j; omega))]
      exact V.2.1 q g1 g2, fun q hq => by
      rcases List.mem_append.mp hq with w | w
      · exact V.2.2 q w
      · obtain ⟨z, -, hz⟩ := List.mem_map.mp w
        rw [← hz]
        show n0 ≤ n0 + j; omega⟩ L c1 c2 _ hheap X'
  exact ⟨t, step t a1, b1⟩
end zCopy

theorem zM.ofTF2 {y : MethodName} {cc : ByteArray} {mL : Nat} {rt : Option FieldType} {d kc ks : Nat} {n : Nat} {sh : zSh} {h : zMem} {av : List zV} {Q : Option zV → Nat → zSh → zMem → Prop} (hy : plainFor y = true) (ls : List (Option zV)) (hl : ls = zent av ++ List.replicate (mL - (zent av).length) none) (hn : (zent av).length ≤ mL) (k : zT y cc mL rt d kc ks Q 0 ls [] n sh h) : zM y cc mL rt d kc ks av n sh h Q := by
  refine zM.ofTF hy (zent av) rfl hn (zt_forget (ls2 := ls) (fun j v hj => ?_) k)
  rw [hl] at hj
  by_cases hlt : j < (zent av).length
  · rwa [List.getElem?_append_left hlt] at hj
  · rw [List.getElem?_append_right (by omega), List.getElem?_replicate] at hj
    split at hj <;> simp at hj

set_option maxRecDepth 100000 in
set_option maxHeartbeats 4000000 in
theorem c_copyOf {d n : Nat} {sh : zSh} {h : zMem} {N : Nat} (hS : zShp sh) (hn : 80 ≤ n) (hN : N ≤ 200) : zM yJ7_copyOf_59c91 cJ7_copyOf_59c91 3 (some (.array .int)) (d + 1) 1 200 [(2, 4), (0, (N : Int))] n sh h (fun r n1 sh1 h1 => r = some (2, (n : Int)) ∧ n1 = n + 1 ∧ sh1 = zshn sh n (100, N) ∧ h1 = znew h n (fun z => if 0 ≤ z ∧ z < (N : Int) then h 4 z else 0)) := by
  refine zM.ofTF2 (by decide +kernel) [some (2, 4), some (0, (N : Int)), none] rfl (Nat.le_of_ble_eq_true rfl) ?_
  refine zt_iload_n dJ7_copyOf_59c91_0 rfl ?_
  refine zt_aload_n dJ7_copyOf_59c91_1 rfl ?_
  refine zt_alenv (v := 600) dJ7_copyOf_59c91_2 (zs_4 hS) (by decide) (by decide) rfl ?_
  refine zt_icmp_ne (tgt := 14) dJ7_copyOf_59c91_3 (by decide) (by omega) (by decide) (fun c_3 => ?_) (fun c_3 => ?_)
  · refine zt_iload_n dJ7_copyOf_59c91_14 rfl ?_
    refine zt_room (kc' := 0 + 1) (ks' := 0 + N) (by omega) (by omega) ?_
    refine zt_newa_int (N0 := N) dJ7_copyOf_59c91_15 zac_int rfl (by omega) ?_
    refine zt_astore_n_2 dJ7_copyOf_59c91_17 (by decide) rfl ?_
    refine zt_aload_n dJ7_copyOf_59c91_18 rfl ?_
    refine zt_iconst dJ7_copyOf_59c91_19 ?_
    refine zt_aload_n dJ7_copyOf_59c91_20 rfl ?_
    refine zt_iconst dJ7_copyOf_59c91_21 ?_
    refine zt_aload_n dJ7_copyOf_59c91_22 rfl ?_
    refine zt_alenv (v := 600) dJ7_copyOf_59c91_23 ((zshn_ne (by omega)).trans (zs_4 hS)) (by decide) (by decide) rfl ?_
    refine zt_iload_n dJ7_copyOf_59c91_24 rfl ?_
    refine zt_callS2r dJ7_copyOf_59c91_25 ml_J7_304 (Nat.le_of_ble_eq_true rfl) (zF.of_eq (show some (0, zmi 600 (N : Int)) = some (0, (N : Int)) by congr 2; unfold zmi; split <;> omega) rfl rfl rfl (c_min (by decide) (by omega))) ?_
    refine zt_acopy (N0 := 600) (N1 := N) dJ7_copyOf_59c91_28 zac_ml ((zshn_ne (by omega)).trans (zs_4 hS)) zshn_at (by omega) (by omega) (by omega) (by omega) (Nat.le_of_ble_eq_true rfl) ?_
    refine zt_aload_n dJ7_copyOf_59c91_31 rfl ?_
    exact zt_aret dJ7_copyOf_59c91_32 (Or.inr ⟨_, rfl⟩) ⟨rfl, rfl, rfl, zmem_ext (fun x z => by have h4 : ¬ (4 : Int) = (n : Int) := (by omega); unfold zcopy znew; by_cases c : x = (n : Int) <;> by_cases c2 : 0 ≤ z ∧ z < (N : Int) <;> simp [c, c2, h4])⟩
  · exfalso
    omega

set_option maxRecDepth 100000 in
set_option maxHeartbeats 4000000 in
theorem c_shi {d n : Nat} {sh : zSh} {h : zMem} {a c : Int} (hs : sh a = (7, 1)) : zF yX7_init cX7_init 2 none (d + 1) 0 0 [(2, a), (2, c)] n sh h none n sh (zup h a 0 c) := by
  refine zF.ofT (by decide +kernel) [some (2, a), some (2, c)] rfl (Nat.le_of_ble_eq_true rfl) ?_
  refine zt_aload_n dX7_init_0 rfl ?_
  refine zt_objInit dX7_init_1 ml_X7_1 (by rw [hs]; decide) (Nat.le_of_ble_eq_true rfl) ?_
  refine zt_aload_n dX7_init_4 rfl ?_
  refine zt_aload_n dX7_init_5 rfl ?_
  refine zt_putFr dX7_init_6 fl_X7_7 ⟨rfl, rfl⟩ hs ?_
  exact zt_vret dX7_init_9 ⟨rfl, rfl, rfl, rfl⟩

