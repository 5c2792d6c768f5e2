/-- a heap's first slot -/
def hsh (x : Int) : Int := (((Int32.ofInt (x * (-1640531527))).toUInt32 >>> ((Int32.ofInt 19).toUInt32 &&& Int32.toUInt32 31)).toInt32).toInt
theorem hsh_b (x : Int) : 0 ≤ hsh x ∧ hsh x < 8192 := by
  have e : ∀ u : UInt32, 0 ≤ ((u >>> ((Int32.ofInt 19).toUInt32 &&& Int32.toUInt32 31)).toInt32).toInt ∧ ((u >>> ((Int32.ofInt 19).toUInt32 &&& Int32.toUInt32 31)).toInt32).toInt < 8192 := by
    intro u
    have e1 : (u >>> ((Int32.ofInt 19).toUInt32 &&& Int32.toUInt32 31)).toNat = u.toNat / 2 ^ 19 := by
      rw [UInt32.toNat_shiftRight, show (((Int32.ofInt 19).toUInt32 &&& Int32.toUInt32 31).toNat % 32) = 19 by decide +kernel, Nat.shiftRight_eq_div_pow]
    have hu : u.toNat < 4294967296 := u.toNat_lt
    have e2 : ((u >>> ((Int32.ofInt 19).toUInt32 &&& Int32.toUInt32 31)).toInt32).toInt = ((u >>> ((Int32.ofInt 19).toUInt32 &&& Int32.toUInt32 31)).toNat : Int) := by
      show (u >>> ((Int32.ofInt 19).toUInt32 &&& Int32.toUInt32 31)).toBitVec.toInt = ((u >>> ((Int32.ofInt 19).toUInt32 &&& Int32.toUInt32 31)).toBitVec.toNat : Int)
      have h3 : (u >>> ((Int32.ofInt 19).toUInt32 &&& Int32.toUInt32 31)).toBitVec.toNat = u.toNat / 2 ^ 19 := e1
      exact BitVec.toInt_eq_toNat_of_lt (by omega)
    rw [e2, e1]
    omega
  exact e _
theorem zand8 {x : Int} (hx : 0 ≤ x ∧ x < 100000) : (Int32.ofInt x &&& Int32.ofInt 8191).toInt = x % 8192 := by
  obtain ⟨k, rfl⟩ : ∃ k : Nat, x = k := ⟨x.toNat, by omega⟩
  rw [show (8191 : Int) = ((8191 : Nat) : Int) from rfl, zlandN (by omega) (by decide), show (8191 : Nat) = 2 ^ 13 - 1 from rfl, Nat.and_two_pow_sub_one_eq_mod]
  omega
/-- the slots hold just the heaps of a list, each on its way -/
def tbI (g : Int → Int) (T : List Int) : Prop :=
  (∀ j, 0 ≤ j → j < 8192 → g j = 0 ∨ ∃ x ∈ T, g j = x + 1) ∧
  (∀ x ∈ T, 0 ≤ x ∧ ∃ i, (0 ≤ i ∧ i < 8192) ∧ g ((hsh x + i) % 8192) = x + 1 ∧ ∀ k, 0 ≤ k → k < i → g ((hsh x + k) % 8192) ≠ 0) ∧
  zS (fun j => zb (g j ≠ 0)) 0 8192 ≤ T.length
theorem tbI_0 {g : Int → Int} (h : ∀ j, 0 ≤ j → j < 8192 → g j = 0) : tbI g [] := by
  refine ⟨fun j a b => Or.inl (h j a b), (fun x hx => absurd hx List.not_mem_nil), ?_⟩
  have e : zS (fun j => zb (g j ≠ 0)) 0 8192 = zS (fun _ => 0) 0 8192 := zS_congr 8192 0 (by omega) (fun j a b => zb_f (by rw [h j a b]; simp))
  have e2 : ∀ (k : Nat) (i : Int), 8192 - i ≤ k → zS (fun _ => 0) i 8192 = 0 := by
    intro k
    induction k with
    | zero => intro i hi; exact zS_e (by omega)
    | succ k ih =>
      intro i hi
      by_cases c : i < 8192
      · rw [zS_s c, ih (i + 1) (by omega)]; rfl
      · exact zS_e (by omega)
  rw [e, e2 8192 0 (by omega)]; exact Int.le_refl _
theorem zS_pt {p p' : Int → Int} {a N : Int} (he : ∀ j, j ≠ a → p' j = p j) (ha : p' a ≤ p a + 1) : ∀ (k : Nat) (i : Int), N - i ≤ k → (a < i → zS p' i N = zS p i N) ∧ zS p' i N ≤ zS p i N + 1 := by
  intro k
  induction k with
  | zero => intro i hk; rw [zS_e (by omega), zS_e (by omega)]; exact ⟨fun _ => rfl, by omega⟩
  | succ k ih =>
    intro i hk
    by_cases c : i < N
    · rw [zS_s c, zS_s c]
      have q := ih (i + 1) (by omega)
      refine ⟨fun h => by rw [he i (by omega), q.1 (by omega)], ?_⟩
      by_cases e : i = a
      · have := q.1 (by omega)
        rw [e] at this ⊢
        omega
      · rw [he i e]; omega
    · rw [zS_e (by omega), zS_e (by omega)]; exact ⟨fun _ => rfl, by omega⟩
theorem tbI_in {g : Int → Int} {T : List Int} {x i : Int} (h : tbI g T) (hi : 0 ≤ i ∧ i < 8192) (he : g ((hsh x + i) % 8192) = x + 1) (hx : 0 ≤ x) : x ∈ T := by
  rcases h.1 ((hsh x + i) % 8192) (by omega) (by omega) with q | ⟨z, hz, q⟩
  · omega
  · rw [show x = z by omega]; exact hz
theorem tbI_out {g : Int → Int} {T : List Int} {x i : Int} (h : tbI g T) (hi : 0 ≤ i ∧ i < 8192) (he : g ((hsh x + i) % 8192) = 0) (hp : ∀ k, 0 ≤ k → k < i → g ((hsh x + k) % 8192) ≠ 0 ∧ g ((hsh x + k) % 8192) ≠ x + 1) : x ∉ T := by
  intro hx
  obtain ⟨h0, j, hj, h1, h2⟩ := h.2.1 x hx
  by_cases c : j < i
  · exact (hp j hj.1 c).2 h1
  · by_cases e : j = i
    · subst e; omega
    · exact h2 i hi.1 (by omega) he
theorem tbI_add {g : Int → Int} {T : List Int} {x i : Int} (h : tbI g T) (hi : 0 ≤ i ∧ i < 8192) (he : g ((hsh x + i) % 8192) = 0) (hp : ∀ k, 0 ≤ k → k < i → g ((hsh x + k) % 8192) ≠ 0 ∧ g ((hsh x + k) % 8192) ≠ x + 1) (hx : 0 ≤ x) : tbI (fun y => if y = (hsh x + i) % 8192 then x + 1 else g y) (x :: T) := by
  have hn : ∀ y, g y ≠ 0 → (if y = (hsh x + i) % 8192 then x + 1 else g y) = g y := fun y hy => if_neg (fun q => hy (by rw [q]; exact he))
  refine ⟨fun j a b => ?_, fun z hz => ?_, ?_⟩
  · show (if j = (hsh x + i) % 8192 then x + 1 else g j) = 0 ∨ _
    by_cases c : j = (hsh x + i) % 8192
    · right; exact ⟨x, List.mem_cons_self, if_pos c⟩
    · rcases h.1 j a b with q | ⟨w, hw, q⟩
      · left; rw [if_neg c]; exact q
      · right; exact ⟨w, List.mem_cons_of_mem _ hw, by show (if j = (hsh x + i) % 8192 then x + 1 else g j) = _; rw [if_neg c]; exact q⟩
  · rcases List.mem_cons.mp hz with e | e
    · subst e
      refine ⟨hx, i, hi, if_pos rfl, fun k a b => ?_⟩
      have := hp k a b
      show (if _ then _ else _) ≠ _
      rw [hn _ this.1]; exact this.1
    · obtain ⟨h0, j, hj, h1, h2⟩ := h.2.1 z e
      refine ⟨h0, j, hj, ?_, fun k a b => ?_⟩
      · show (if _ then _ else _) = _
        rw [hn _ (by rw [h1]; omega)]; exact h1
      · show (if _ then _ else _) ≠ _
        rw [hn _ (h2 k a b)]; exact h2 k a b
  · have := (zS_pt (p := fun j => zb (g j ≠ 0)) (p' := fun j => zb ((if j = (hsh x + i) % 8192 then x + 1 else g j) ≠ 0)) (a := (hsh x + i) % 8192) (N := 8192) (fun j hj => zb_eq (by rw [if_neg hj])) (by
      have q := zb_or (g ((hsh x + i) % 8192) ≠ 0)
      have q2 := zb_or ((if (hsh x + i) % 8192 = (hsh x + i) % 8192 then x + 1 else g ((hsh x + i) % 8192)) ≠ 0)
      show zb _ ≤ zb _ + 1
      omega) 8192 0 (by omega)).2
    have h3 := h.2.2
    show zS (fun j => zb ((if j = (hsh x + i) % 8192 then x + 1 else g j) ≠ 0)) 0 8192 ≤ ((x :: T).length : Nat)
    rw [List.length_cons]
    omega
theorem tbI_full {g : Int → Int} {T : List Int} {x : Int} (h : tbI g T) (hT : T.length ≤ 8191) (hp : ∀ k, 0 ≤ k → k < 8192 → g ((hsh x + k) % 8192) ≠ 0) : False := by
  have hb := hsh_b x
  have e : zS (fun j => zb (g j ≠ 0)) 0 8192 = zS (fun _ => 1) 0 8192 := zS_congr 8192 0 (by omega) (fun j a b => zb_t (by
    have := hp ((j - hsh x) % 8192) (by omega) (by omega)
    rw [show (hsh x + (j - hsh x) % 8192) % 8192 = j by omega] at this
    exact this))
  have e2 : ∀ (k : Nat) (i : Int), 8192 - i = k → zS (fun _ => 1) i 8192 = k := by
    intro k
    induction k with
    | zero => intro i hi; rw [zS_e (by omega)]; rfl
    | succ k ih => intro i hi; rw [zS_s (by omega), ih (i + 1) (by omega)]; omega
  have h3 := h.2.2
  rw [e, e2 8192 0 (by omega)] at h3
  omega
theorem zup_new {h : zMem} {a j z : Int} : zup h a j z = znew h a (fun y => if y = j then z else h a y) := by
  conv => lhs; rw [show h = znew h a (h a) from znew_self.symm]
  exact znew_up
