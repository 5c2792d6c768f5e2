/-- rows R and slots S aside, nothing has changed -/
def zCh (R : List Int) (S : List (Int × Int)) (h h' : zMem) : Prop := ∀ x y, x ∉ R → (x, y) ∉ S → h' x y = h x y
theorem zCh.row {R : List Int} {S : List (Int × Int)} {h h' : zMem} {x : Int} (c : zCh R S h h') (hx : x ∉ R) (hs : ∀ p ∈ S, p.1 ≠ x) : h' x = h x := funext fun y => c x y hx (fun q => hs _ q rfl)
theorem zCh.refl {h : zMem} : zCh [] [] h h := fun _ _ _ _ => rfl
theorem zCh.trans {R R' : List Int} {S S' : List (Int × Int)} {h h1 h2 : zMem} (a : zCh R S h h1) (b : zCh R' S' h1 h2) : zCh (R ++ R') (S ++ S') h h2 := fun x y hx hy => (b x y (fun q => hx (List.mem_append_right _ q)) (fun q => hy (List.mem_append_right _ q))).trans (a x y (fun q => hx (List.mem_append_left _ q)) (fun q => hy (List.mem_append_left _ q)))
theorem zCh.up {h : zMem} {a j z : Int} : zCh [] [(a, j)] h (zup h a j z) := fun x y _ hy => if_neg (fun q => hy (by rw [q.1, q.2]; exact List.mem_cons_self))
theorem zCh.upA {h : zMem} {a j z : Int} : zCh [a] [] h (zup h a j z) := fun x y hx _ => zupA (fun q => hx (by rw [q]; exact List.mem_cons_self))
theorem zCh.new {h : zMem} {a : Int} {g : Int → Int} : zCh [a] [] h (znew h a g) := fun x y hx _ => by rw [znew_ne (fun q => hx (by rw [q]; exact List.mem_cons_self))]
theorem zCh.mono {R R' : List Int} {S S' : List (Int × Int)} {h h' : zMem} (a : zCh R S h h') (hR : ∀ x ∈ R, x ∈ R') (hS : ∀ p ∈ S, p ∈ S' ∨ p.1 ∈ R') : zCh R' S' h h' := fun x y hx hy => a x y (fun q => hx (hR x q)) (fun q => by
  rcases hS _ q with z | z
  · exact hy z
  · exact hx z)
theorem zCh.hi {R : List Int} {S : List (Int × Int)} {h h' : zMem} (c : zCh R S h h') (hR : ∀ z ∈ R, z < 80) (hS : ∀ p ∈ S, p.1 < 80) : ∀ x, 80 ≤ x → h' x = h x := fun x hx => c.row (fun q => by have := hR x q; omega) (fun p hp q => by have := hS p hp; omega)
/-- the same, of the rows below 80 alone -/
def zChL (R : List Int) (S : List (Int × Int)) (h h' : zMem) : Prop := ∀ x y, x < 80 → x ∉ R → (x, y) ∉ S → h' x y = h x y
theorem zCh.lo {R : List Int} {S : List (Int × Int)} {h h' : zMem} (c : zCh R S h h') : zChL R S h h' := fun x y _ a b => c x y a b
theorem zChL.refl {h : zMem} : zChL [] [] h h := fun _ _ _ _ _ => rfl
theorem zChL.trans {R R' : List Int} {S S' : List (Int × Int)} {h h1 h2 : zMem} (a : zChL R S h h1) (b : zChL R' S' h1 h2) : zChL (R ++ R') (S ++ S') h h2 := fun x y z hx hy => (b x y z (fun q => hx (List.mem_append_right _ q)) (fun q => hy (List.mem_append_right _ q))).trans (a x y z (fun q => hx (List.mem_append_left _ q)) (fun q => hy (List.mem_append_left _ q)))
theorem zChL.hup {h : zMem} {a j z : Int} (ha : 80 ≤ a) : zChL [] [] h (zup h a j z) := fun x y hx _ _ => zupA (by omega)
theorem zChL.hnew {h : zMem} {a : Int} {g : Int → Int} (ha : 80 ≤ a) : zChL [] [] h (znew h a g) := fun x y hx _ _ => by rw [znew_ne (by omega)]
abbrev zdis (R : List Int) (S : List (Int × Int)) (DR : List Int) (DS : List (Int × Int)) : Prop := (∀ x ∈ DR, x < 80 ∧ x ∉ R ∧ ∀ p ∈ S, p.1 ≠ x) ∧ ∀ p ∈ DS, p.1 < 80 ∧ p.1 ∉ R ∧ p ∉ S
theorem zChL.r {R DR : List Int} {S DS : List (Int × Int)} {h h' : zMem} {x : Int} (c : zChL R S h h') (d : zdis R S DR DS) (hx : x ∈ DR) : h' x = h x := funext fun y => c x y (d.1 x hx).1 (d.1 x hx).2.1 (fun q => (d.1 x hx).2.2 _ q rfl)
theorem zChL.s {R DR : List Int} {S DS : List (Int × Int)} {h h' : zMem} {a j : Int} (c : zChL R S h h') (d : zdis R S DR DS) (hp : (a, j) ∈ DS) : h' a j = h a j := c a j (d.2 _ hp).1 (d.2 _ hp).2.1 (d.2 _ hp).2.2
theorem zrf_80 : ∀ q ∈ zrf0, q.1 < 80 := by decide
theorem zRf_c {R : List Int} {S : List (Int × Int)} {h h' : zMem} (c : zChL R S h h') (d : ∀ q ∈ zrf0, q.1 ∉ R ∧ (q.1, q.2.1) ∉ S) (k : zRf h) : zRf h' := fun q hq => (c q.1 q.2.1 (zrf_80 q hq) (d q hq).1 (d q hq).2).trans (k q hq)
theorem mB_c {R : List Int} {S : List (Int × Int)} {h h' : zMem} (c : zChL R S h h') (d : zdis R S [46] [(38, 17), (38, 20), (38, 21), (38, 50), (38, 37), (38, 16), (38, 46), (38, 45), (38, 1), (38, 12)]) (k : mB h) : mB h' := by
  unfold mB
  rw [c.r d (x := 46) (by decide), c.s d (a := 38) (j := 17) (by decide), c.s d (a := 38) (j := 20) (by decide), c.s d (a := 38) (j := 21) (by decide), c.s d (a := 38) (j := 50) (by decide), c.s d (a := 38) (j := 37) (by decide), c.s d (a := 38) (j := 16) (by decide), c.s d (a := 38) (j := 46) (by decide), c.s d (a := 38) (j := 45) (by decide), c.s d (a := 38) (j := 1) (by decide), c.s d (a := 38) (j := 12) (by decide)]
  exact k
theorem mTx_c {R : List Int} {S : List (Int × Int)} {h h' : zMem} (c : zChL R S h h') (d : zdis R S [2, 39] [(1, 1), (38, 1)]) (k : mTx h) : mTx h' := by
  unfold mTx tOK at *
  rw [c.r d (x := 2) (by decide), c.r d (x := 39) (by decide), c.s d (a := 1) (j := 1) (by decide), c.s d (a := 38) (j := 1) (by decide)]
  exact k
theorem vHab_c {R : List Int} {S : List (Int × Int)} {h h' : zMem} (c : zChL R S h h') (d : zdis R S [12, 13, 14, 15, 16, 48, 49, 50] [(10, 0), (10, 1), (38, 20), (38, 21)]) (k : vHab h) : vHab h' := by
  unfold vHab hbOK at *
  rw [c.r d (x := 12) (by decide), c.r d (x := 13) (by decide), c.r d (x := 14) (by decide), c.r d (x := 15) (by decide), c.r d (x := 16) (by decide), c.r d (x := 48) (by decide), c.r d (x := 49) (by decide), c.r d (x := 50) (by decide), c.s d (a := 10) (j := 0) (by decide), c.s d (a := 10) (j := 1) (by decide), c.s d (a := 38) (j := 20) (by decide), c.s d (a := 38) (j := 21) (by decide)]
  exact k
/-- the engines are alike -/
def iE (q : Int) (h : zMem) : Prop := (h 38 44 = h 18 0 ∧ h 38 45 = h 18 1 ∧ h 38 46 = h 18 6) ∧ eOB h (240 * q) (60 * q) ∧ eDig (h 67) ∧ (∀ y, 0 ≤ y → y < 45 → h 67 y = h 19 y) ∧ ∀ i, 0 ≤ i → i < h 18 6 → h 68 i = h 20 i ∧ h 69 i = h 21 i ∧ h 70 i = h 22 i - 1
theorem iE_q {q : Int} {h : zMem} (k : iE q h) : iE (q + 1) h := ⟨k.1, ⟨k.2.1.1, ⟨k.2.1.2.1.1, by have := k.2.1.2.1.2; omega⟩, ⟨k.2.1.2.2.1.1, by have := k.2.1.2.2.1.2; omega⟩, k.2.1.2.2.2⟩, k.2.2⟩
theorem iE_c {R : List Int} {S : List (Int × Int)} {h h' : zMem} {q : Int} (c : zChL R S h h') (d : zdis R S [19, 20, 21, 22, 67, 68, 69, 70] [(18, 0), (18, 1), (18, 6), (38, 44), (38, 45), (38, 46)]) (k : iE q h) : iE q h' := by
  unfold iE eOB at *
  rw [c.r d (x := 19) (by decide), c.r d (x := 20) (by decide), c.r d (x := 21) (by decide), c.r d (x := 22) (by decide), c.r d (x := 67) (by decide), c.r d (x := 68) (by decide), c.r d (x := 69) (by decide), c.r d (x := 70) (by decide), c.s d (a := 18) (j := 0) (by decide), c.s d (a := 18) (j := 1) (by decide), c.s d (a := 18) (j := 6) (by decide), c.s d (a := 38) (j := 44) (by decide), c.s d (a := 38) (j := 45) (by decide), c.s d (a := 38) (j := 46) (by decide)]
  exact k
theorem vRow_c {R : List Int} {S : List (Int × Int)} {h h' : zMem} (c : zChL R S h h') (d : zdis R S [27, 71] [(26, 0), (38, 50)]) (k : vRow h) : vRow h' := by
  unfold vRow rOK at *
  rw [c.r d (x := 27) (by decide), c.r d (x := 71) (by decide), c.s d (a := 26) (j := 0) (by decide), c.s d (a := 38) (j := 50) (by decide)]
  exact k
def iN (sh : zSh) (h : zMem) : Prop := h 26 11 = -1 ∨ (80 ≤ h 26 11 ∧ sh (h 26 11) = (100, 8192))
theorem iN_c {R : List Int} {S : List (Int × Int)} {sh : zSh} {h h' : zMem} (c : zChL R S h h') (d : zdis R S [] [(26, 11)]) (k : iN sh h) : iN sh h' := by
  unfold iN at *
  rw [c.s d (a := 26) (j := 11) (by decide)]
  exact k
/-- the errata are alike -/
def iU (h : zMem) : Prop := h 38 37 = h 32 0 ∧ ∀ k, 0 ≤ k → k < h 32 0 → (h 62 k = 30 * h 33 k + h 34 k ∧ h 63 k = h 35 k ∧ h 64 k = h 36 k ∧ h 65 k = h 37 k) ∧ ((0 ≤ h 33 k ∧ h 33 k < h 38 17) ∧ (0 ≤ h 34 k ∧ h 34 k < h 46 (h 33 k)) ∧ h 57 (h 62 k) ≠ -1 ∧ h 65 k ≤ 999 ∧ (-999999999 ≤ h 64 k ∧ h 64 k ≤ 999999999))
theorem iU_c {R : List Int} {S : List (Int × Int)} {h h' : zMem} (c : zChL R S h h') (d : zdis R S [33, 34, 35, 36, 37, 62, 63, 64, 65, 46, 57] [(32, 0), (38, 37), (38, 17)]) (k : iU h) : iU h' := by
  unfold iU at *
  rw [c.r d (x := 33) (by decide), c.r d (x := 34) (by decide), c.r d (x := 35) (by decide), c.r d (x := 36) (by decide), c.r d (x := 37) (by decide), c.r d (x := 62) (by decide), c.r d (x := 63) (by decide), c.r d (x := 64) (by decide), c.r d (x := 65) (by decide), c.r d (x := 46) (by decide), c.r d (x := 57) (by decide), c.s d (a := 32) (j := 0) (by decide), c.s d (a := 38) (j := 37) (by decide), c.s d (a := 38) (j := 17) (by decide)]
  exact k
def iG (h : zMem) : Prop := h 38 16 = h 0 12 ∧ h 38 33 = h 0 13 ∧ 100 ≤ h 0 13 ∧ h 0 13 ≤ 5000
theorem iG_c {R : List Int} {S : List (Int × Int)} {h h' : zMem} (c : zChL R S h h') (d : zdis R S [] [(0, 12), (0, 13), (38, 16), (38, 33)]) (k : iG h) : iG h' := by
  unfold iG at *
  rw [c.s d (a := 0) (j := 12) (by decide), c.s d (a := 0) (j := 13) (by decide), c.s d (a := 38) (j := 16) (by decide), c.s d (a := 38) (j := 33) (by decide)]
  exact k
theorem vTok_c {R : List Int} {S : List (Int × Int)} {h h' : zMem} (c : zChL R S h h') (d : zdis R S [47] []) (k : vTok h) : vTok h' := by
  unfold vTok at *
  rw [c.r d (x := 47) (by decide)]
  exact k
/-- what is worn, and what no table has yet -/
def iW (h : zMem) : Prop := (∀ y, 0 ≤ y → y < 150 → 0 ≤ h 61 y ∧ h 61 y ≤ 60000) ∧ ∀ t, h 38 17 ≤ t → t < 5 → h 58 t = 0 ∧ h 59 t = 0 ∧ h 60 t = 0 ∧ ∀ i, 0 ≤ i → i < 30 → h 61 (30 * t + i) = 0
theorem iW_c {R : List Int} {S : List (Int × Int)} {h h' : zMem} (c : zChL R S h h') (d : zdis R S [58, 59, 60, 61] [(38, 17)]) (k : iW h) : iW h' := by
  unfold iW at *
  rw [c.r d (x := 58) (by decide), c.r d (x := 59) (by decide), c.r d (x := 60) (by decide), c.r d (x := 61) (by decide), c.s d (a := 38) (j := 17) (by decide)]
  exact k
/-- the sheets are alike -/
def iS (sh : zSh) (h : zMem) : Prop := h 38 12 = h 0 10 ∧ ∃ W : Int → zFr → zFr, xSs sh h W ∧ ∀ c, 0 ≤ c → c < h 0 10 → (0 ≤ h 45 c ∧ h 45 c ≤ 200) ∧ mseg (h 43) (h 44) (200 * c) (200 * c + h 45 c) (W c)
theorem iS_c {R : List Int} {S : List (Int × Int)} {sh : zSh} {h h' : zMem} (c : zChL R S h h') (d : zdis R S [8, 43, 44, 45] [(0, 10), (38, 12)]) (hx : ∀ a : Int, 80 ≤ a → sh a = (7, 1) → (∃ N : Nat, sh (a + 1) = (100, N) ∧ N ≤ 600) → h' a = h a ∧ h' (a + 1) = h (a + 1)) (k : iS sh h) : iS sh h' := by
  obtain ⟨k1, W, k2, k3⟩ := k
  refine ⟨by rw [c.s d (a := 38) (j := 12) (by decide), c.s d (a := 0) (j := 10) (by decide)]; exact k1, W, ⟨by rw [c.s d (a := 0) (j := 10) (by decide)]; exact k2.1, fun s a b => ?_⟩, ?_⟩
  · rw [c.s d (a := 0) (j := 10) (by decide)] at b
    rw [c.r d (x := 8) (by decide)]
    obtain ⟨⟨p1, p2, p3⟩, N, p4, p5, p6⟩ := k2.2 s a b
    have e := hx _ p1 p2 ⟨N, p4, p5⟩
    exact ⟨⟨p1, p2, by rw [e.1]; exact p3⟩, N, p4, p5, by rw [e.2]; exact p6⟩
  · rw [c.s d (a := 0) (j := 10) (by decide), c.r d (x := 43) (by decide), c.r d (x := 44) (by decide), c.r d (x := 45) (by decide)]
    exact k3
/-- one entry, e in the reference, i of the table at b in the class -/
def iEn (h : zMem) (b e i : Int) : Prop := (h (b + 1) i = h 47 e ∧ h (b + 2) i = h 51 e ∧ h (b + 5) i = h 54 e ∧ h (b + 8) i = h 57 e ∧ h (b + 9) i = h 61 e ∧ h (b + 10) i = h 66 e) ∧ (h 51 e ≠ -1 → h (b + 3) i = h 52 e ∧ h (b + 4) i = h 53 e ∧ -999999999 ≤ h 53 e ∧ h 53 e ≤ 999999999) ∧ (h 51 e = -1 → h (b + 3) i = -1 ∧ h 54 e = -1) ∧ (h 54 e ≠ -1 → h (b + 6) i = h 55 e ∧ h (b + 7) i = h 56 e) ∧ (h 54 e = -1 → h (b + 6) i = -1) ∧ (h 57 e ≠ -1 → h 51 e ≠ -1 ∧ h 47 e ≠ -2147483648)
/-- one table, t in the reference, at b in the class -/
def iTb (sh : zSh) (h : zMem) (t b : Int) : Prop := zTab sh h b ∧ (h 46 t = h b 0 ∧ h 58 t = h b 11 ∧ h 59 t = h b 12 ∧ h 60 t = h b 13) ∧ ((0 ≤ h b 12 ∧ h b 12 ≤ 60000) ∧ (0 ≤ h b 13 ∧ h b 13 ≤ 5000)) ∧ (∀ j, 0 ≤ j → j < 30 → 0 ≤ h (b + 9) j ∧ h (b + 9) j ≤ h b 12) ∧ ∀ i, 0 ≤ i → i < h b 0 → iEn h b (30 * t + i) i
def iT (sh : zSh) (h : zMem) : Prop := h 38 17 = h 0 11 ∧ (∀ t u, 0 ≤ t → t < h 0 11 → 0 ≤ u → u < h 0 11 → h 9 t = h 9 u → t = u) ∧ ∀ t, 0 ≤ t → t < h 0 11 → iTb sh h t (h 9 t)
theorem iTb_c {R : List Int} {S : List (Int × Int)} {sh : zSh} {h h' : zMem} {t b : Int} (c : zChL R S h h') (d : zdis R S [46, 47, 51, 52, 53, 54, 55, 56, 57, 58, 59, 60, 61, 66] []) (hx : ∀ k, 0 ≤ k → k ≤ 10 → h' (b + k) = h (b + k)) (k : iTb sh h t b) : iTb sh h' t b := by
  have e0 : h' b = h b := by have := hx 0 (by omega) (by omega); rw [Int.add_zero] at this; exact this
  have r := fun x hx => c.r (x := x) d hx
  unfold iTb iEn zTab at *
  rw [e0, hx 1 (by omega) (by omega), hx 2 (by omega) (by omega), hx 3 (by omega) (by omega), hx 4 (by omega) (by omega), hx 5 (by omega) (by omega), hx 6 (by omega) (by omega), hx 7 (by omega) (by omega), hx 8 (by omega) (by omega), hx 9 (by omega) (by omega), hx 10 (by omega) (by omega), r 46 (by decide), r 47 (by decide), r 51 (by decide), r 52 (by decide), r 53 (by decide), r 54 (by decide), r 55 (by decide), r 56 (by decide), r 57 (by decide), r 58 (by decide), r 59 (by decide), r 60 (by decide), r 61 (by decide), r 66 (by decide)]
  exact k
theorem iT_c {R : List Int} {S : List (Int × Int)} {sh : zSh} {h h' : zMem} (c : zChL R S h h') (d : zdis R S [9, 46, 47, 51, 52, 53, 54, 55, 56, 57, 58, 59, 60, 61, 66] [(0, 11), (38, 17)]) (hx : ∀ x : Int, 80 ≤ x → (sh x = (8, 14) ∨ sh x = (100, 30)) → h' x = h x) (k : iT sh h) : iT sh h' := by
  obtain ⟨k1, k2, k3⟩ := k
  have e11 := c.s d (a := 0) (j := 11) (by decide)
  have e9 := c.r d (x := 9) (by decide)
  refine ⟨by rw [c.s d (a := 38) (j := 17) (by decide), e11]; exact k1, by rw [e11, e9]; exact k2, fun t a b => ?_⟩
  rw [e11] at b
  rw [e9]
  have hT := (k3 t a b).1
  refine iTb_c c ⟨fun x hx => d.1 x (List.mem_cons_of_mem _ hx), fun p hp => absurd hp List.not_mem_nil⟩ (fun k a b => ?_) (k3 t a b)
  have h80 := hT.1
  by_cases q : k = 0
  · subst q; rw [Int.add_zero]; exact hx _ h80 (Or.inl hT.2.1)
  · exact hx _ (by omega) (Or.inr (hT.2.2.2 k (by omega) b).1)
/-- the invariant -/
def INV (q : Int) (n : Nat) (sh : zSh) (h : zMem) : Prop := (zShp sh ∧ zRf h ∧ (80 ≤ n ∧ ∀ a : Int, (sh a).1 < 106 → a < n) ∧ 0 ≤ q) ∧ mB h ∧ mTx h ∧ iS sh h ∧ iT sh h ∧ vHab h ∧ iE q h ∧ vRow h ∧ iN sh h ∧ iU h ∧ iG h ∧ lRg (h 75) ∧ vTok h ∧ iW h
theorem INV.xTb {q : Int} {n : Nat} {sh : zSh} {h : zMem} (hI : INV q n sh h) : xTb sh h := by
  obtain ⟨_, hB, _, _, ⟨t1, t2, t3⟩, _, _, _, _, _, _, _, hTk, _⟩ := hI
  refine ⟨by rw [← t1]; exact hB.1, fun p a b => ⟨(t3 p a b).1, fun i c d => ?_⟩⟩
  have e := ((t3 p a b).2.2.2.2 i c d).1.1
  have hE := (t3 p a b).1.2.2.1
  have h5 := hB.1
  rw [e]; exact hTk _ (by omega) (by omega)
/-- a call of the class, and the same call of the reference -/
def oOK (q : Int) (n : Nat) (sh : zSh) (h : zMem) (A : (Option zV → Nat → zSh → zMem → Prop) → Prop) (B : Nat → zSh → zMem → (Option zV → Nat → zSh → zMem → Prop) → Prop) : Prop :=
  ∃ Qc, A Qc ∧ ∀ r n1 sh1 h1, Qc r n1 sh1 h1 → ((sh1 (-1000), sh1 38) = (sh (-1000), sh 38) ∧ h1 (-1000) = h (-1000)) ∧ ∃ v, r = some (0, v) ∧ ∃ Qm, B n1 sh1 h1 Qm ∧ ∀ r2 n2 sh2 h2, Qm r2 n2 sh2 h2 → r2 = some (0, v) ∧ (sh2 (-1000) = sh (-1000) ∧ h2 (-1000) = h (-1000)) ∧ INV (q + 1) n2 sh2 h2
theorem oOK.FF {q : Int} {n : Nat} {sh : zSh} {h h1 h2 : zMem} {v v' : Int} {y y' : MethodName} {cc cc' : ByteArray} {mL mL' : Nat} {rt rt' : Option FieldType} {d d' kc ks : Nat} {av av' : List zV} {R R' : List Int} {S S' : List (Int × Int)}
    (a : zF y cc mL rt d kc ks av n sh h (some (0, v)) n sh h1) (b : zF y' cc' mL' rt' d' 0 0 av' n sh h1 (some (0, v')) n sh h2) (hv : v' = v) (c1 : zChL R S h h1) (c2 : zChL R' S' h1 h2) (e1 : zdis R S [-1000] []) (e2 : zdis R' S' [-1000] []) (i : INV (q + 1) n sh h2) :
    oOK q n sh h (fun Q => zM y cc mL rt d kc ks av n sh h Q) (fun n1 sh1 h1 Q => zM y' cc' mL' rt' d' 0 0 av' n1 sh1 h1 Q) := by
  have s1 := c1.r e1 (x := -1000) (by decide)
  have s2 := c2.r e2 (x := -1000) (by decide)
  refine ⟨_, a, ?_⟩
  rintro r n1 sh1 h1' ⟨rfl, rfl, rfl, rfl⟩
  refine ⟨⟨rfl, s1⟩, v, rfl, _, b, ?_⟩
  rintro r2 n2 sh2 h2' ⟨rfl, rfl, rfl, rfl⟩
  exact ⟨by rw [hv], ⟨rfl, s2.trans s1⟩, i⟩
/-- only what the invariant doesn't speak of has changed -/
theorem INV.keep {q : Int} {n : Nat} {sh : zSh} {h h' : zMem} {R : List Int} {S : List (Int × Int)} (hI : INV q n sh h) (c0 : zCh R S h h') (hR : ∀ z ∈ R, z < 80) (hS : ∀ p ∈ S, p.1 < 80) (hRf : zRf h')
    (d : zdis R S [46, 2, 39, 12, 13, 14, 15, 16, 48, 49, 50, 19, 20, 21, 22, 67, 68, 69, 70, 27, 71, 33, 34, 35, 36, 37, 62, 63, 64, 65, 57, 47, 58, 59, 60, 61, 8, 43, 44, 45, 9, 51, 52, 53, 54, 55, 56, 66] [(38, 17), (38, 20), (38, 21), (38, 50), (38, 37), (38, 16), (38, 46), (38, 45), (38, 1), (38, 12), (1, 1), (10, 0), (10, 1), (18, 0), (18, 1), (18, 6), (38, 44), (26, 0), (26, 11), (32, 0), (0, 12), (0, 13), (38, 33), (0, 10), (0, 11)]) (hL : lRg (h' 75)) : INV (q + 1) n sh h' := by
  obtain ⟨⟨a1, a2, a3, a4⟩, b1, b2, b3, b4, b5, b6, b7, b8, b9, b10, b11, b12, b13⟩ := hI
  have hi := c0.hi hR hS
  have c := c0.lo
  have sub : ∀ {DR : List Int} {DS : List (Int × Int)}, (∀ x ∈ DR, x ∈ [46, 2, 39, 12, 13, 14, 15, 16, 48, 49, 50, 19, 20, 21, 22, 67, 68, 69, 70, 27, 71, 33, 34, 35, 36, 37, 62, 63, 64, 65, 57, 47, 58, 59, 60, 61, 8, 43, 44, 45, 9, 51, 52, 53, 54, 55, 56, 66]) → (∀ p ∈ DS, p ∈ [(38, 17), (38, 20), (38, 21), (38, 50), (38, 37), (38, 16), (38, 46), (38, 45), (38, 1), (38, 12), (1, 1), (10, 0), (10, 1), (18, 0), (18, 1), (18, 6), (38, 44), (26, 0), (26, 11), (32, 0), (0, 12), (0, 13), (38, 33), (0, 10), (0, 11)]) → zdis R S DR DS := fun h1 h2 => ⟨fun x hx => d.1 x (h1 x hx), fun p hp => d.2 p (h2 p hp)⟩
  exact ⟨⟨a1, hRf, a3, by omega⟩, mB_c c (sub (by decide) (by decide)) b1, mTx_c c (sub (by decide) (by decide)) b2, iS_c c (sub (by decide) (by decide)) (fun a h1 _ _ => ⟨hi a h1, hi (a + 1) (by omega)⟩) b3, iT_c c (sub (by decide) (by decide)) (fun x h1 _ => hi x h1) b4, vHab_c c (sub (by decide) (by decide)) b5, iE_q (iE_c c (sub (by decide) (by decide)) b6), vRow_c c (sub (by decide) (by decide)) b7, iN_c c (sub (by decide) (by decide)) b8, iU_c c (sub (by decide) (by decide)) b9, iG_c c (sub (by decide) (by decide)) b10, hL, vTok_c c (sub (by decide) (by decide)) b12, iW_c c (sub (by decide) (by decide)) b13⟩
