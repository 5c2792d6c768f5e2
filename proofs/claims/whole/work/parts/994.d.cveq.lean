theorem CL_sub : ∀ (xs : List Int) (K : Nat) (c : List Int), c ∈ CL xs K → c.length = K ∧ ∀ x ∈ c, x ∈ xs
  | [], 0, c, h => by
    have : c = [] := by simpa [CL] using h
    subst this; exact ⟨rfl, fun x hx => absurd hx List.not_mem_nil⟩
  | [], _ + 1, c, h => by simp [CL] at h
  | y :: xs, 0, c, h => by
    have : c = [] := by simpa [CL] using h
    subst this; exact ⟨rfl, fun x hx => absurd hx List.not_mem_nil⟩
  | y :: xs, K + 1, c, h => by
    have h' : c ∈ (CL xs K).map (y :: ·) ++ CL xs (K + 1) := h
    rcases List.mem_append.mp h' with q | q
    · obtain ⟨e, he, rfl⟩ := List.mem_map.mp q
      have ih := CL_sub xs K e he
      refine ⟨by rw [List.length_cons, ih.1], fun x hx => ?_⟩
      rcases List.mem_cons.mp hx with r | r
      · subst r; exact List.mem_cons_self
      · exact List.mem_cons_of_mem _ (ih.2 x r)
    · have ih := CL_sub xs (K + 1) c q
      exact ⟨ih.1, fun x hx => List.mem_cons_of_mem _ (ih.2 x hx)⟩
theorem iot_memb : ∀ (k : Nat) (a j : Int), j ∈ iot a k → a ≤ j ∧ j < a + k
  | 0, a, j, h => by cases h
  | k + 1, a, j, h => by
    rcases List.mem_cons.mp h with e | e
    · omega
    · have := iot_memb k (a + 1) j e; omega
theorem cvP_congr {y z : Int → Int} {x : Int} : ∀ {P : List Int}, (∀ p ∈ P, y p = z p) → cvP y x P = cvP z x P
  | [], _ => rfl
  | [p0], h => by
    show cP1 p0 (y p0) x = cP1 p0 (z p0) x
    rw [h p0 (by simp)]
  | [p0, p1], h => by
    show cP2 p0 p1 (y p0) (y p1) x = cP2 p0 p1 (z p0) (z p1) x
    rw [h p0 (by simp), h p1 (by simp)]
  | [p0, p1, p2], h => by
    show cP3 p0 p1 p2 (y p0) (y p1) (y p2) x = cP3 p0 p1 p2 (z p0) (z p1) (z p2) x
    rw [h p0 (by simp), h p1 (by simp), h p2 (by simp)]
  | [p0, p1, p2, p3], h => by
    show cP4 p0 p1 p2 p3 (y p0) (y p1) (y p2) (y p3) x = cP4 p0 p1 p2 p3 (z p0) (z p1) (z p2) (z p3) x
    rw [h p0 (by simp), h p1 (by simp), h p2 (by simp), h p3 (by simp)]
  | _ :: _ :: _ :: _ :: _ :: _, _ => rfl
theorem hpN_congr {q r : Int → Prop} {g f : Int → Int} : ∀ k : Nat, (∀ j : Int, 0 ≤ j → j < k → g j = f j ∧ (q j ↔ r j)) → hpN q g k = hpN r f k
  | 0, _ => rfl
  | k + 1, h => by
    show hpN q g k + zite (g k ≠ -2147483648 ∧ q k) (2 ^ k) 0 = hpN r f k + zite (f k ≠ -2147483648 ∧ r k) (2 ^ k) 0
    rw [hpN_congr k (fun j a b => h j a (by omega))]
    have hk := h k (by omega) (by omega)
    by_cases c : g k ≠ -2147483648 ∧ q k
    · rw [zite_t c, zite_t ⟨hk.1 ▸ c.1, hk.2.mp c.2⟩]
    · rw [zite_f c, zite_f (fun z => c ⟨hk.1 ▸ z.1, hk.2.mpr z.2⟩)]
theorem mAll_congr {y z : Int → Int} {e : Int} {L K : Nat} (h : ∀ j : Int, 0 ≤ j → j < L → y j = z j) : mAll y e L K = mAll z e L K := by
  unfold mAll
  have e1 : (CL (iot 0 L) K).filter (alp y) = (CL (iot 0 L) K).filter (alp z) := by
    refine List.filter_congr (fun c hc => ?_)
    have hs := (CL_sub _ _ c hc).2
    unfold alp
    rw [Bool.eq_iff_iff, List.all_eq_true, List.all_eq_true]
    constructor
    · intro q x hx
      have := iot_memb L 0 x (hs x hx)
      rw [← h x (by omega) (by omega)]; exact q x hx
    · intro q x hx
      have := iot_memb L 0 x (hs x hx)
      rw [h x (by omega) (by omega)]; exact q x hx
  rw [e1]
  refine List.map_congr_left (fun c hc => ?_)
  have hs := (CL_sub _ _ c (List.mem_filter.mp hc).1).2
  unfold mF
  refine hpN_congr L (fun j a b => ⟨h j a b, ?_⟩)
  unfold qm
  rw [cvP_congr (y := y) (z := z) (fun p hp => by have := iot_memb L 0 p (hs p hp); exact h p (by omega) (by omega)), h j a b]
theorem iot_sh {f : Int → Int} : ∀ (k : Nat) (a : Int), (iot (a + 1) k).map f = (iot a k).map (fun i => f (i + 1))
  | 0, _ => rfl
  | k + 1, a => by
    show f (a + 1) :: (iot (a + 1 + 1) k).map f = f (a + 1) :: (iot (a + 1) k).map (fun i => f (i + 1))
    rw [iot_sh k (a + 1)]
theorem iot_zgt : ∀ l : List Int, (iot 0 l.length).map (zgt l) = l
  | [] => rfl
  | x :: l => by
    have ih := iot_zgt l
    show zgt (x :: l) 0 :: (iot (0 + 1) l.length).map (zgt (x :: l)) = x :: l
    rw [iot_sh]
    congr 1
    refine Eq.trans (List.map_congr_left (fun i hi => ?_)) ih
    have := iot_memb l.length 0 i hi
    unfold zgt
    rw [show (i + 1).toNat = i.toNat + 1 by omega]; rfl
theorem mAll_cls {y : Int → Int} {e : Int} {L K : Nat} : mAll y e L K = (CL (iot 0 (rPn y L).length) K).map (hO y e (rPn y L)) := by
  unfold mAll
  rw [show alp y = fun c => c.all (fun x => decide (y x ≠ -2147483648)) from rfl, CL_filter, rPn_filter]
  conv => lhs; rw [← iot_zgt (rPn y L)]
  rw [CL_map, List.map_map]
  refine List.map_congr_left (fun c _ => ?_)
  show hpN (qm y e (c.map (zgt (rPn y L)))) y L = hpS (qm y e (c.map (zgt (rPn y L)))) (rPn y L)
  exact hpN_S L
theorem rPn_congr {y z : Int → Int} : ∀ k : Nat, (∀ j : Int, 0 ≤ j → j < k → y j = z j) → rPn y k = rPn z k
  | 0, _ => rfl
  | k + 1, h => by
    show (if y k ≠ -2147483648 then rPn y k ++ [(k : Int)] else rPn y k) = if z k ≠ -2147483648 then rPn z k ++ [(k : Int)] else rPn z k
    rw [rPn_congr k (fun j a b => h j a (by omega)), h k (by omega) (by omega)]
/-- the class' heaps and the reference's -/
theorem rv_eq {h g : zMem} {m e : Int} (hL : g 38 50 = h 26 0) (hr : ∀ i, 0 ≤ i → i < h 26 0 → g 71 i = h 27 i) : (cvOK g m e ↔ srOK h m e) ∧ (mAll (g 71) e (g 38 50).toNat (m + 1).toNat).reverse = sRR h m e := by
  have e1 : rPn (g 71) (g 38 50).toNat = rPl h := by
    rw [hL]; exact rPn_congr _ (fun j a b => hr j a (by omega))
  refine ⟨by unfold cvOK srOK; rw [e1], ?_⟩
  unfold sRR
  rw [hL, mAll_congr (z := h 27) (fun j a b => hr j a (by omega)), mAll_cls]
