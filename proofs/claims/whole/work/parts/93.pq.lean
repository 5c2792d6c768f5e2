theorem zFor_rel {f g : Int → (Int → Int) → (Int → Int)} {Rl : (Int → Int) → (Int → Int) → Prop} {N : Int} : ∀ (k : Nat) (i : Int) (s r : Int → Int), N - i ≤ k → (∀ j s r, i ≤ j → j < N → Rl s r → Rl (f j s) (g j r)) → Rl s r → Rl (zFor f i N s) (zFor g i N r) := by
  intro k
  induction k with
  | zero => intro i s r hk _ q; rw [zFor_e (by omega), zFor_e (by omega)]; exact q
  | succ k ih =>
    intro i s r hk hst q
    by_cases hi : i < N
    · rw [zFor_s hi, zFor_s hi]
      exact ih (i + 1) _ _ (by omega) (fun j s r a b => hst j s r (by omega) b) (hst i s r (by omega) hi q)
    · rw [zFor_e (by omega), zFor_e (by omega)]; exact q
theorem zFor_fst {f g : Int → (Int → Int) → (Int → Int)} {Rl Rk : (Int → Int) → (Int → Int) → Prop} {N i : Int} {s r : Int → Int} (hi : i < N) (h1 : Rl s r → Rk (f i s) (g i r)) (h2 : ∀ j s r, i < j → j < N → Rk s r → Rk (f j s) (g j r)) (q : Rl s r) : Rk (zFor f i N s) (zFor g i N r) := by
  rw [zFor_s hi, zFor_s hi]
  exact zFor_rel (N - i).toNat (i + 1) _ _ (by omega) (fun j s r a b => h2 j s r (by omega) b) (h1 q)
/-- class best and reference best: alike -/
def pqA (s r : Int → Int) : Prop := (∀ y, 0 ≤ y → y ≤ 5 → s y = r y) ∧ 0 ≤ s 4 ∧ s 4 ≤ 30
def pqR (s r : Int → Int) : Prop := (s 4 = 31 ∧ s 5 = 0 ∧ r 4 = -1) ∨ pqA s r
theorem pq_set {s r : Int → Int} {a w b u f g : Int} (hf : 0 ≤ f ∧ f ≤ 30) : pqA (bset s a w b u f g) (bset r a w b u f g) := by
  refine ⟨fun y h0 h1 => ?_, ?_⟩
  · rcases (show y = 0 ∨ y = 1 ∨ y = 2 ∨ y = 3 ∨ y = 4 ∨ y = 5 by omega) with rfl | rfl | rfl | rfl | rfl | rfl <;> rfl
  · show 0 ≤ f ∧ f ≤ 30
    exact hf
theorem pq_step {s r : Int → Int} {a w b u f g : Int} (hf : 0 ≤ f ∧ f ≤ 30) (q : pqR s r) : pqA (bst s a w b u f g) (jbst r a w b u f g) := by
  unfold bst jbst
  rcases q with q | q
  · rw [if_pos (by omega), if_neg (by omega)]; exact pq_set hf
  · have e4 := q.1 4 (by decide) (by decide)
    have e5 := q.1 5 (by decide) (by decide)
    have e6 := q.2
    by_cases c : f < s 4 ∨ (f = s 4 ∧ s 5 < g)
    · rw [if_pos c, if_neg (by omega)]; exact pq_set hf
    · rw [if_neg c, if_pos (by omega)]; exact q
/-- the two counts are alike for every pair -/
def pqE (h' h : zMem) (t' t H : Int) : Prop := ∀ a w b u, (0 ≤ a ∧ a < H) → (0 ≤ w ∧ w < 3) → (0 ≤ b ∧ b < H) → (0 ≤ u ∧ u < 3) → pAF h' t' a w b u = qAF h t a w b u ∧ pBT h' t' a w b u = qBT h t a w b u ∧ 0 ≤ qAF h t a w b u ∧ qAF h t a w b u ≤ 30
theorem pq_U {h' h : zMem} {t' t H a w b u : Int} {s r : Int → Int} (e : pqE h' h t' t H) (ha : 0 ≤ a ∧ a < H) (hw : 0 ≤ w ∧ w < 3) (hb : 0 ≤ b ∧ b < H) (hu : 0 ≤ u ∧ u < 3) : (pqA s r → pqA (pU h' t' a w b u s) (qU h t a w b u r)) ∧ (w ≠ u → pqR s r → pqA (pU h' t' a w b u s) (qU h t a w b u r)) := by
  have q := e a w b u ha hw hb hu
  unfold pU qU
  rw [q.1, q.2.1]
  refine ⟨fun z => ?_, fun z p => ?_⟩
  · by_cases c : w = u
    · rw [if_pos c, if_pos c]; exact z
    · rw [if_neg c, if_neg c]; exact pq_step q.2.2 (Or.inr z)
  · rw [if_neg z, if_neg z]; exact pq_step q.2.2 p
theorem pq_B {h' h : zMem} {t' t H a w b : Int} {s r : Int → Int} (e : pqE h' h t' t H) (ha : 0 ≤ a ∧ a < H) (hw : 0 ≤ w ∧ w < 3) (hb : 0 ≤ b ∧ b < H) : (pqA s r → pqA (pB h' t' a w b s) (qB h t a w b r)) ∧ (w = 0 → pqR s r → pqA (pB h' t' a w b s) (qB h t a w b r)) := by
  unfold pB qB
  refine ⟨fun z => zFor_rel 3 0 s r (by omega) (fun j s r h0 h1 q => (pq_U e ha hw hb ⟨h0, h1⟩).1 q) z, fun z p => ?_⟩
  subst z
  rw [zFor_s (f := pU h' t' a 0 b) (i := 0) (by decide), zFor_s (f := qU h t a 0 b) (i := 0) (by decide), show pU h' t' a 0 b 0 s = s from if_pos rfl, show qU h t a 0 b 0 r = r from if_pos rfl]
  exact zFor_fst (Rl := pqR) (by decide) (fun q => (pq_U e ha hw hb ⟨by decide, by decide⟩).2 (by decide) q) (fun j s r h0 h1 q => (pq_U e ha hw hb ⟨by omega, h1⟩).1 q) p
theorem pq_W {h' h : zMem} {t' t H a w : Int} {s r : Int → Int} (e : pqE h' h t' t H) (e1 : h' 10 0 = H) (e2 : h 38 20 = H) (hH : H ≤ 8) (ha : 0 ≤ a ∧ a < H) (hw : 0 ≤ w ∧ w < 3) : (pqA s r → pqA (pW h' t' a w s) (qW h t a w r)) ∧ (w = 0 → a + 1 < H → pqR s r → pqA (pW h' t' a w s) (qW h t a w r)) := by
  unfold pW qW
  rw [e1, e2]
  refine ⟨fun z => zFor_rel 8 _ s r (by omega) (fun j s r h0 h1 q => (pq_B e ha hw ⟨by omega, h1⟩).1 q) z, fun z h1 p => ?_⟩
  exact zFor_fst (Rl := pqR) h1 (fun q => (pq_B e ha hw ⟨by omega, h1⟩).2 z q) (fun j s r h0 h1 q => (pq_B e ha hw ⟨by omega, h1⟩).1 q) p
theorem pq_A {h' h : zMem} {t' t H a : Int} {s r : Int → Int} (e : pqE h' h t' t H) (e1 : h' 10 0 = H) (e2 : h 38 20 = H) (hH : H ≤ 8) (ha : 0 ≤ a ∧ a < H) : (pqA s r → pqA (pA h' t' a s) (qA h t a r)) ∧ (a + 1 < H → pqR s r → pqA (pA h' t' a s) (qA h t a r)) := by
  unfold pA qA
  refine ⟨fun z => zFor_rel 3 _ s r (by omega) (fun j s r h0 h1 q => (pq_W e e1 e2 hH ha ⟨h0, h1⟩).1 q) z, fun h1 p => ?_⟩
  exact zFor_fst (Rl := pqR) (by decide) (fun q => (pq_W e e1 e2 hH ha ⟨by decide, by decide⟩).2 rfl h1 q) (fun j s r h0 h1 q => (pq_W e e1 e2 hH ha ⟨by omega, h1⟩).1 q) p
theorem pq_all {h' h : zMem} {t' t H : Int} {s r : Int → Int} (e : pqE h' h t' t H) (e1 : h' 10 0 = H) (e2 : h 38 20 = H) (hH : 2 ≤ H ∧ H ≤ 8) (p : pqR s r) : pqA (pAll h' t' s) (qAll h t r) := by
  unfold pAll qAll
  rw [e1, e2]
  exact zFor_fst (Rl := pqR) (by omega) (fun q => (pq_A e e1 e2 hH.2 ⟨by decide, by omega⟩).2 (by omega) q) (fun j s r h0 h1 q => (pq_A e e1 e2 hH.2 ⟨by omega, h1⟩).1 q) p
