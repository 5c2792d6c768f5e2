/-- increasing, from a on, all below n -/
def chF (n : Int) : Int → List Int → Prop
  | a, [] => a ≤ n
  | a, c :: cs => a ≤ c ∧ chF n (c + 1) cs
theorem chF_w {n : Int} : ∀ (l : List Int) (a b : Int), b ≤ a → chF n a l → chF n b l
  | [], a, b, h, q => by show b ≤ n; have : a ≤ n := q; omega
  | c :: cs, a, b, h, q => ⟨Int.le_trans h q.1, q.2⟩
theorem chF_iot {n : Int} : ∀ (k : Nat) (a b : Int), a ≤ b → b + k ≤ n → chF n a (iot b k)
  | 0, a, b, h, q => by show a ≤ n; omega
  | k + 1, a, b, h, q => ⟨h, chF_iot k (b + 1) (b + 1) (Int.le_refl _) (by omega)⟩
theorem chF_nx {n : Int} : ∀ (l : List Int) (a : Int) (r : List Int), chF n a l → nx n l = some r → chF n a r
  | [], a, r, _, h => by cases h
  | c :: cs, a, r, q, h => by
    unfold nx at h
    split at h
    · rename_i r' e
      injection h with h; subst h
      exact ⟨q.1, chF_nx cs (c + 1) r' q.2 e⟩
    · split at h
      · injection h with h; subst h
        exact chF_iot _ _ _ (by have := q.1; omega) (by omega)
      · cases h
theorem chF_mem {n : Int} : ∀ (l : List Int) (a : Int), chF n a l → ∀ x ∈ l, a ≤ x ∧ x < n
  | [], _, _, x, h => by cases h
  | c :: cs, a, q, x, h => by
    have hl : ∀ (l : List Int) (a : Int), chF n a l → a ≤ n := fun l => by
      induction l with
      | nil => intro a q; exact q
      | cons c cs ih => intro a q; have := ih _ q.2; have := q.1; omega
    have h1 := hl _ _ q.2
    have h2 := q.1
    rcases List.mem_cons.mp h with e | e
    · subst e; omega
    · have := chF_mem cs (c + 1) q.2 x e; omega
theorem chF_snoc {n m : Int} : ∀ (l : List Int) (a x : Int), chF n a l → n ≤ x → x + 1 ≤ m → chF m a (l ++ [x])
  | [], a, x, q, h, g => ⟨by have : a ≤ n := q; omega, g⟩
  | c :: cs, a, x, q, h, g => ⟨q.1, chF_snoc cs (c + 1) x q.2 h g⟩
theorem chF_up {n m : Int} : ∀ (l : List Int) (a : Int), n ≤ m → chF n a l → chF m a l
  | [], a, h, q => by show a ≤ m; have : a ≤ n := q; omega
  | c :: cs, a, h, q => ⟨q.1, chF_up cs _ h q.2⟩
theorem rPn_ch (g : Int → Int) : ∀ k : Nat, chF k 0 (rPn g k)
  | 0 => Int.le_refl _
  | k + 1 => by
    have ih := rPn_ch g k
    unfold rPn
    split
    · exact chF_snoc _ _ _ ih (Int.le_refl _) (by omega)
    · exact chF_up _ _ (by omega) ih
theorem chF_lt {n : Int} : ∀ (l : List Int) (a : Int) (i j : Nat), chF n a l → i < j → j < l.length → l.getD i 0 < l.getD j 0
  | [], _, _, _, _, _, h => by simp at h
  | c :: cs, a, 0, j + 1, q, _, h => by
    show c < cs.getD j 0
    have h2 : j < cs.length := by simp at h; omega
    have := chF_mem cs (c + 1) q.2 (cs.getD j 0) (by rw [List.getD_eq_getElem?_getD, List.getElem?_eq_getElem h2]; exact List.getElem_mem _)
    omega
  | c :: cs, a, i + 1, j + 1, q, hij, h => by
    show cs.getD i 0 < cs.getD j 0
    exact chF_lt cs (c + 1) i j q.2 (by omega) (by simp at h; omega)
theorem chF_zgt {n a i j : Int} {l : List Int} (q : chF n a l) (h0 : 0 ≤ i) (hij : i < j) (hj : j < l.length) : zgt l i < zgt l j := chF_lt l a i.toNat j.toNat q (by omega) (by omega)
/-- points of a choice -/
theorem chF_map {n : Int} {PL : List Int} (hP : chF n 0 PL) : ∀ (l : List Int) (a : Int), 0 ≤ a → chF PL.length a l → chF n (if a < PL.length then zgt PL a else n) (l.map (zgt PL))
  | [], a, h0, q => by
    show (if a < PL.length then zgt PL a else n) ≤ n
    split
    · rename_i h; have := chF_mem PL 0 hP _ (zgt_mem h0 h); omega
    · exact Int.le_refl _
  | c :: cs, a, h0, q => by
    have hc := chF_mem (c :: cs) a q c List.mem_cons_self
    have ih := chF_map hP cs (c + 1) (by omega) q.2
    refine ⟨?_, ?_⟩
    · rw [if_pos (by omega)]
      by_cases e : a = c
      · rw [e]; exact Int.le_refl _
      · have := chF_zgt hP h0 (show a < c by omega) hc.2; omega
    · refine chF_w _ _ _ ?_ ih
      split
      · rename_i h; have := chF_zgt hP (show 0 ≤ c by omega) (show c < c + 1 by omega) h; omega
      · have := chF_mem PL 0 hP _ (zgt_mem (by omega) hc.2); omega
/-- the bits of a list's members that are missed -/
noncomputable def hpS (q : Int → Prop) : List Int → Int
  | [] => 0
  | x :: xs => zite (q x) (2 ^ x.toNat) 0 + hpS q xs
theorem zpw_pos (k : Nat) : (0 : Int) < 2 ^ k := Int.pow_pos (by decide)
theorem zpw_le {a b : Nat} (h : a ≤ b) : (2 : Int) ^ a ≤ 2 ^ b := by
  obtain ⟨c, rfl⟩ := Nat.exists_eq_add_of_le h
  rw [Int.pow_add]
  have h1 := zpw_pos a
  have h2 := zpw_pos c
  have : (2 : Int) ^ a * 1 ≤ 2 ^ a * 2 ^ c := Int.mul_le_mul_of_nonneg_left (by omega) (by omega)
  omega
theorem zpw_s (k : Nat) : (2 : Int) ^ (k + 1) = 2 ^ k + 2 ^ k := by rw [Int.pow_succ]; omega
/-- an accumulated part below the rest -/
theorem hpS_acc {q : Int → Prop} : ∀ (l : List Int) (a acc : Int), 0 ≤ a → chF 20 a l → 0 ≤ acc → acc < 2 ^ a.toNat → (0 ≤ acc + hpS q l ∧ acc + hpS q l < 2 ^ 20) ∧ bts acc ≤ bts (acc + hpS q l)
  | [], a, acc, h0, hc, h1, h2 => by
    show (0 ≤ acc + 0 ∧ acc + 0 < 2 ^ 20) ∧ bts acc ≤ bts (acc + 0)
    have hc' : a ≤ 20 := hc
    have := zpw_le (show a.toNat ≤ 20 by omega)
    rw [Int.add_zero]
    exact ⟨⟨h1, by omega⟩, Int.le_refl _⟩
  | x :: xs, a, acc, h0, hc, h1, h2 => by
    have hx := chF_mem (x :: xs) a hc x List.mem_cons_self
    have hp := zpw_le (show a.toNat ≤ x.toNat by omega)
    have hs := zpw_s x.toNat
    have e1 : (x + 1).toNat = x.toNat + 1 := by omega
    by_cases c : q x
    · have ih := hpS_acc (q := q) xs (x + 1) (acc + 2 ^ x.toNat) (by omega) hc.2 (by have := zpw_pos x.toNat; omega) (by rw [e1]; omega)
      have hb := bt_add 20 x.toNat acc (by omega) h1 (by omega)
      unfold hpS
      rw [zite_t c, ← Int.add_assoc]
      refine ⟨ih.1, ?_⟩
      have h3 : bt 20 (acc + 2 ^ x.toNat) ≤ bt 20 (acc + 2 ^ x.toNat + hpS q xs) := ih.2
      show bt 20 acc ≤ bt 20 (acc + 2 ^ x.toNat + hpS q xs)
      omega
    · have ih := hpS_acc (q := q) xs (x + 1) acc (by omega) hc.2 h1 (by rw [e1]; have := zpw_pos x.toNat; omega)
      unfold hpS
      rw [zite_f c, Int.zero_add]
      exact ih
theorem zdrop {l : List Int} {i : Int} (h0 : 0 ≤ i) (h1 : i < l.length) : l.drop i.toNat = zgt l i :: l.drop (i + 1).toNat := by
  rw [show (i + 1).toNat = i.toNat + 1 by omega]
  unfold zgt
  rw [List.getD_eq_getElem?_getD, List.getElem?_eq_getElem (by omega)]
  exact List.drop_eq_getElem_cons (by omega)
theorem chF_drop {n a : Int} {l : List Int} (h0 : 0 ≤ a) (hc : chF n a l) : ∀ k : Nat, ∃ b, a ≤ b ∧ chF n b (l.drop k) := by
  intro k
  induction k with
  | zero => exact ⟨a, Int.le_refl _, hc⟩
  | succ k ih =>
    obtain ⟨b, hb, hd⟩ := ih
    rw [← List.drop_drop (i := 1) (j := k)]
    cases e : l.drop k with
    | nil => rw [e] at hd; exact ⟨b, hb, hd⟩
    | cons x xs =>
      rw [e] at hd
      have := hd.1
      exact ⟨x + 1, by omega, hd.2⟩
/-- the curve through points: scaled value and scale -/
def cvV : List Int → Int
  | [p0] => cV1 p0
  | [p0, p1] => cV2 p0 p1
  | [p0, p1, p2] => cV3 p0 p1 p2
  | [p0, p1, p2, p3] => cV4 p0 p1 p2 p3
  | _ => 1
def cvP (y : Int → Int) (x : Int) : List Int → Int
  | [p0] => cP1 p0 (y p0) x
  | [p0, p1] => cP2 p0 p1 (y p0) (y p1) x
  | [p0, p1, p2] => cP3 p0 p1 p2 (y p0) (y p1) (y p2) x
  | [p0, p1, p2, p3] => cP4 p0 p1 p2 p3 (y p0) (y p1) (y p2) (y p3) x
  | _ => 0
def pOK (P : List Int) : Prop := chF 20 0 P ∧ 1 ≤ P.length ∧ P.length ≤ 4
def yOK (y : Int → Int) (P : List Int) : Prop := ∀ p ∈ P, -999999 ≤ y p ∧ y p ≤ 999999
theorem zvb1 : (0 : Int) < 1 ∧ (1 : Int) ≤ 1 := by decide
theorem cvV_b : ∀ {P : List Int}, pOK P → 0 < cvV P ∧ cvV P ≤ 47045881
  | [], h => by have := h.2.1; simp at this
  | [p0], h => by show (0 : Int) < 1 ∧ (1 : Int) ≤ 47045881; decide
  | [p0, p1], h => by
    have c : 0 ≤ p0 ∧ p0 + 1 ≤ p1 ∧ p1 + 1 ≤ 20 := h.1
    show 0 < 1 * (p1 - p0) ∧ 1 * (p1 - p0) ≤ 47045881
    omega
  | [p0, p1, p2], h => by
    have c : 0 ≤ p0 ∧ p0 + 1 ≤ p1 ∧ p1 + 1 ≤ p2 ∧ p2 + 1 ≤ 20 := h.1
    have := zvb (zvb (zvb zvb1 (show 0 < p1 - p0 ∧ p1 - p0 ≤ 19 by omega) rfl) (show 0 < p2 - p0 ∧ p2 - p0 ≤ 19 by omega) rfl) (show 0 < p2 - p1 ∧ p2 - p1 ≤ 19 by omega) rfl
    exact ⟨this.1, Int.le_trans this.2 (by decide)⟩
  | [p0, p1, p2, p3], h => by
    have c : 0 ≤ p0 ∧ p0 + 1 ≤ p1 ∧ p1 + 1 ≤ p2 ∧ p2 + 1 ≤ p3 ∧ p3 + 1 ≤ 20 := h.1
    have := zvb (zvb (zvb (zvb (zvb (zvb zvb1 (show 0 < p1 - p0 ∧ p1 - p0 ≤ 19 by omega) rfl) (show 0 < p2 - p0 ∧ p2 - p0 ≤ 19 by omega) rfl) (show 0 < p3 - p0 ∧ p3 - p0 ≤ 19 by omega) rfl) (show 0 < p2 - p1 ∧ p2 - p1 ≤ 19 by omega) rfl) (show 0 < p3 - p1 ∧ p3 - p1 ≤ 19 by omega) rfl) (show 0 < p3 - p2 ∧ p3 - p2 ≤ 19 by omega) rfl
    exact ⟨this.1, Int.le_trans this.2 (by decide)⟩
  | _ :: _ :: _ :: _ :: _ :: _, h => by have := h.2.2; simp at this; (try omega)
theorem zb19 {x p : Int} (hx : 0 ≤ x ∧ x < 20) (hp : 0 ≤ p ∧ p < 20) : -19 ≤ x - p ∧ x - p ≤ 19 := by omega
theorem znb {x B : Int} (h : -B ≤ x ∧ x ≤ B) : -B ≤ -x ∧ -x ≤ B := by omega
theorem zb11 : -(1 : Int) ≤ 1 ∧ (1 : Int) ≤ 1 := by decide
theorem cvP_b {y : Int → Int} {x : Int} (hx : 0 ≤ x ∧ x < 20) : ∀ {P : List Int}, pOK P → yOK y P → -200000000000000 ≤ cvP y x P ∧ cvP y x P ≤ 200000000000000
  | [], h, _ => by have := h.2.1; simp at this
  | [p0], h, g => by
    have g0 := g p0 (by simp)
    show -200000000000000 ≤ 0 + y p0 * 1 * 1 ∧ 0 + y p0 * 1 * 1 ≤ 200000000000000
    omega
  | [p0, p1], h, g => by
    have c : 0 ≤ p0 ∧ p0 + 1 ≤ p1 ∧ p1 + 1 ≤ 20 := h.1
    have g0 := g p0 (by simp)
    have g1 := g p1 (by simp)
    have b0 := zmb2 (zmb2 g0 (zmb2 zb11 (zb19 hx (p := p1) (by omega)) rfl) rfl) (znb zb11) rfl
    have b1 := zmb2 (zmb2 g1 (zmb2 zb11 (zb19 hx (p := p0) (by omega)) rfl) rfl) zb11 rfl
    show -200000000000000 ≤ 0 + y p0 * (1 * (x - p1)) * (-1) + y p1 * (1 * (x - p0)) * 1 ∧ 0 + y p0 * (1 * (x - p1)) * (-1) + y p1 * (1 * (x - p0)) * 1 ≤ 200000000000000
    omega
  | [p0, p1, p2], h, g => by
    have c : 0 ≤ p0 ∧ p0 + 1 ≤ p1 ∧ p1 + 1 ≤ p2 ∧ p2 + 1 ≤ 20 := h.1
    have g0 := g p0 (by simp)
    have g1 := g p1 (by simp)
    have g2 := g p2 (by simp)
    have x0 := zb19 hx (p := p0) (by omega)
    have x1 := zb19 hx (p := p1) (by omega)
    have x2 := zb19 hx (p := p2) (by omega)
    have a01 : -19 ≤ p1 - p0 ∧ p1 - p0 ≤ 19 := by omega
    have a02 : -19 ≤ p2 - p0 ∧ p2 - p0 ≤ 19 := by omega
    have a12 : -19 ≤ p2 - p1 ∧ p2 - p1 ≤ 19 := by omega
    have b0 := zmb2 (zmb2 g0 (zmb2 (zmb2 zb11 x1 rfl) x2 rfl) rfl) (zmb2 zb11 a12 rfl) rfl
    have b1 := zmb2 (zmb2 g1 (zmb2 (zmb2 zb11 x0 rfl) x2 rfl) rfl) (znb (zmb2 zb11 a02 rfl)) rfl
    have b2 := zmb2 (zmb2 g2 (zmb2 (zmb2 zb11 x0 rfl) x1 rfl) rfl) (zmb2 zb11 a01 rfl) rfl
    show -200000000000000 ≤ cP3 p0 p1 p2 (y p0) (y p1) (y p2) x ∧ cP3 p0 p1 p2 (y p0) (y p1) (y p2) x ≤ 200000000000000
    unfold cP3
    omega
  | [p0, p1, p2, p3], h, g => by
    have c : 0 ≤ p0 ∧ p0 + 1 ≤ p1 ∧ p1 + 1 ≤ p2 ∧ p2 + 1 ≤ p3 ∧ p3 + 1 ≤ 20 := h.1
    have g0 := g p0 (by simp)
    have g1 := g p1 (by simp)
    have g2 := g p2 (by simp)
    have g3 := g p3 (by simp)
    have x0 := zb19 hx (p := p0) (by omega)
    have x1 := zb19 hx (p := p1) (by omega)
    have x2 := zb19 hx (p := p2) (by omega)
    have x3 := zb19 hx (p := p3) (by omega)
    have a01 : -19 ≤ p1 - p0 ∧ p1 - p0 ≤ 19 := by omega
    have a02 : -19 ≤ p2 - p0 ∧ p2 - p0 ≤ 19 := by omega
    have a03 : -19 ≤ p3 - p0 ∧ p3 - p0 ≤ 19 := by omega
    have a12 : -19 ≤ p2 - p1 ∧ p2 - p1 ≤ 19 := by omega
    have a13 : -19 ≤ p3 - p1 ∧ p3 - p1 ≤ 19 := by omega
    have a23 : -19 ≤ p3 - p2 ∧ p3 - p2 ≤ 19 := by omega
    have b0 := zmb2 (zmb2 g0 (zmb2 (zmb2 (zmb2 zb11 x1 rfl) x2 rfl) x3 rfl) rfl) (znb (zmb2 (zmb2 (zmb2 zb11 a12 rfl) a13 rfl) a23 rfl)) rfl
    have b1 := zmb2 (zmb2 g1 (zmb2 (zmb2 (zmb2 zb11 x0 rfl) x2 rfl) x3 rfl) rfl) (zmb2 (zmb2 (zmb2 zb11 a02 rfl) a03 rfl) a23 rfl) rfl
    have b2 := zmb2 (zmb2 g2 (zmb2 (zmb2 (zmb2 zb11 x0 rfl) x1 rfl) x3 rfl) rfl) (znb (zmb2 (zmb2 (zmb2 zb11 a01 rfl) a03 rfl) a13 rfl)) rfl
    have b3 := zmb2 (zmb2 g3 (zmb2 (zmb2 (zmb2 zb11 x0 rfl) x1 rfl) x2 rfl) rfl) (zmb2 (zmb2 (zmb2 zb11 a01 rfl) a02 rfl) a12 rfl) rfl
    show -200000000000000 ≤ cP4 p0 p1 p2 p3 (y p0) (y p1) (y p2) (y p3) x ∧ cP4 p0 p1 p2 p3 (y p0) (y p1) (y p2) (y p3) x ≤ 200000000000000
    unfold cP4
    omega
  | _ :: _ :: _ :: _ :: _ :: _, h, _ => by have := h.2.2; simp at this; (try omega)
/-- which numbers a curve misses -/
def qm (y : Int → Int) (r : Int) (P : List Int) (x : Int) : Prop := r * cvV P < zabs (cvP y x P - y x * cvV P)
