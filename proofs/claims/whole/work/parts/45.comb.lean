/-- choices of K of a list, in order -/
def CL : List Int → Nat → List (List Int)
  | [], 0 => [[]]
  | [], _ + 1 => []
  | _ :: _, 0 => [[]]
  | x :: xs, K + 1 => (CL xs K).map (x :: ·) ++ CL xs (K + 1)
theorem CL_0 : ∀ xs : List Int, CL xs 0 = [[]]
  | [] => rfl
  | _ :: _ => rfl
def iot : Int → Nat → List Int
  | _, 0 => []
  | a, k + 1 => a :: iot (a + 1) k
theorem iot_len : ∀ (k : Nat) (a : Int), (iot a k).length = k
  | 0, _ => rfl
  | k + 1, a => by rw [iot, List.length_cons, iot_len k]
theorem iot_snoc : ∀ (k : Nat) (a : Int), iot a (k + 1) = iot a k ++ [a + k]
  | 0, a => by simp [iot]
  | k + 1, a => by
    rw [iot, iot_snoc k (a + 1)]
    show a :: (iot (a + 1) k ++ [a + 1 + k]) = (a :: iot (a + 1) k) ++ [a + (k + 1 : Nat)]
    rw [List.cons_append]; congr 3; omega
def rem (n : Int) : List Int → List (List Int)
  | [] => [[]]
  | c :: cs => (rem n cs).map (c :: ·) ++ CL (iot (c + 1) (n - (c + 1)).toNat) (cs.length + 1)
def nx (n : Int) : List Int → Option (List Int)
  | [] => none
  | c :: cs => match nx n cs with
    | some r => some (c :: r)
    | none => if c + cs.length + 1 < n then some (iot (c + 1) (cs.length + 1)) else none
theorem CL_iot : ∀ (N : Nat) (a : Int) (K : Nat), CL (iot a N) K = if K ≤ N then rem (a + N) (iot a K) else []
  | 0, a, 0 => rfl
  | 0, a, K + 1 => rfl
  | N + 1, a, 0 => rfl
  | N + 1, a, K + 1 => by
    show (CL (iot (a + 1) N) K).map (a :: ·) ++ CL (iot (a + 1) N) (K + 1) = _
    have e : (a + (N + 1 : Nat) - (a + 1)).toNat = N := by omega
    have e2 : a + 1 + (N : Int) = a + (N + 1 : Nat) := by omega
    by_cases h : K ≤ N
    · rw [if_pos (by omega), CL_iot N (a + 1) K, if_pos h]
      show _ = (rem _ (iot (a + 1) K)).map (a :: ·) ++ CL (iot (a + 1) _) ((iot (a + 1) K).length + 1)
      rw [iot_len, e, e2]
    · rw [if_neg (by omega), CL_iot N (a + 1) K, if_neg h, CL_iot N (a + 1) (K + 1), if_neg (by omega)]; rfl
theorem nx_len (n : Int) : ∀ c r, nx n c = some r → r.length = c.length
  | [], r, h => by cases h
  | c :: cs, r, h => by
    unfold nx at h
    split at h
    · rename_i r' e
      injection h with h; subst h
      rw [List.length_cons, List.length_cons, nx_len n cs r' e]
    · split at h
      · injection h with h; subst h; rw [iot_len, List.length_cons]
      · cases h
theorem rem_nx (n : Int) : ∀ c, rem n c = c :: (match nx n c with | none => [] | some r => rem n r)
  | [] => rfl
  | c :: cs => by
    have ih := rem_nx n cs
    have hl := nx_len n cs
    cases e1 : nx n cs with
    | none =>
      rw [e1] at ih
      by_cases q : c + cs.length + 1 < n
      · have e : nx n (c :: cs) = some (iot (c + 1) (cs.length + 1)) := by rw [nx, e1]; exact if_pos q
        rw [e, rem, ih, CL_iot, if_pos (by omega), show c + 1 + ((n - (c + 1)).toNat : Int) = n by omega]; rfl
      · have e : nx n (c :: cs) = none := by rw [nx, e1]; exact if_neg q
        rw [e, rem, ih, CL_iot, if_neg (by omega)]; rfl
    | some r =>
      rw [e1] at ih
      have e : nx n (c :: cs) = some (c :: r) := by rw [nx, e1]
      rw [e, rem, ih]
      show _ = (c :: cs) :: rem n (c :: r)
      rw [rem, hl r e1]; rfl
theorem rem_all {n : Int} {K : Nat} (h : (K : Int) ≤ n) : rem n (iot 0 K) = CL (iot 0 n.toNat) K := by
  rw [CL_iot, if_pos (by omega), show (0 : Int) + (n.toNat : Int) = n by omega]
theorem CL_map (f : Int → Int) : ∀ (xs : List Int) (K : Nat), CL (xs.map f) K = (CL xs K).map (List.map f)
  | [], 0 => rfl
  | [], _ + 1 => rfl
  | _ :: _, 0 => rfl
  | x :: xs, K + 1 => by
    show (CL (xs.map f) K).map (f x :: ·) ++ CL (xs.map f) (K + 1) = ((CL xs K).map (x :: ·) ++ CL xs (K + 1)).map (List.map f)
    rw [CL_map f xs K, CL_map f xs (K + 1), List.map_append, List.map_map, List.map_map]; rfl
theorem CL_filter (p : Int → Bool) : ∀ (xs : List Int) (K : Nat), (CL xs K).filter (fun c => c.all p) = CL (xs.filter p) K
  | [], 0 => rfl
  | [], _ + 1 => rfl
  | x :: xs, 0 => by rw [CL_0, CL_0]; rfl
  | x :: xs, K + 1 => by
    show ((CL xs K).map (x :: ·) ++ CL xs (K + 1)).filter _ = _
    rw [List.filter_append, CL_filter p xs (K + 1), List.filter_map]
    by_cases h : p x = true
    · rw [List.filter_cons_of_pos h, CL, ← CL_filter p xs K]
      congr 3
      funext c; show ((x :: c).all p) = c.all p; rw [List.all_cons, h]; rfl
    · rw [List.filter_cons_of_neg h]
      have e : ((fun c : List Int => c.all p) ∘ (x :: ·)) = fun _ => false := by
        funext c; show ((x :: c).all p) = false; rw [List.all_cons]; simp [h]
      rw [e]; simp
def cnb : Nat → Nat → Nat
  | 0, 0 => 1
  | 0, _ + 1 => 0
  | _ + 1, 0 => 1
  | N + 1, K + 1 => cnb N K + cnb N (K + 1)
theorem CL_len : ∀ (xs : List Int) (K : Nat), (CL xs K).length = cnb xs.length K
  | [], 0 => rfl
  | [], _ + 1 => rfl
  | _ :: _, 0 => rfl
  | x :: xs, K + 1 => by
    show ((CL xs K).map (x :: ·) ++ CL xs (K + 1)).length = cnb xs.length K + cnb xs.length (K + 1)
    rw [List.length_append, List.length_map, CL_len xs K, CL_len xs (K + 1)]
theorem cnb_le : ∀ N : Nat, N < 21 → ∀ K : Nat, K < 5 → cnb N K ≤ 4845 := by decide +kernel
/-- bits -/
def bt : Nat → Int → Int
  | 0, _ => 0
  | k + 1, v => v % 2 + bt k (v / 2)
theorem bt_0 : ∀ N, bt N 0 = 0
  | 0 => rfl
  | N + 1 => by rw [bt, show (0 : Int) / 2 = 0 from rfl, bt_0 N]; rfl
theorem bt_b : ∀ N v, 0 ≤ bt N v ∧ bt N v ≤ N
  | 0, v => ⟨Int.le_refl _, Int.le_refl _⟩
  | N + 1, v => by have := bt_b N (v / 2); rw [bt]; omega
theorem bt_add : ∀ (N k : Nat) (m : Int), k < N → 0 ≤ m → m < 2 ^ k → bt N (m + 2 ^ k) = bt N m + 1
  | 0, k, m, h, _, _ => by omega
  | N + 1, 0, m, h, h0, h1 => by
    have : m = 0 := by have : (2 : Int) ^ 0 = 1 := rfl; omega
    subst this; rw [bt_0]; show (0 + 2 ^ 0) % 2 + bt N ((0 + 2 ^ 0) / 2) = _
    rw [show ((0 : Int) + 2 ^ 0) / 2 = 0 from rfl, bt_0]; rfl
  | N + 1, k + 1, m, h, h0, h1 => by
    have e : (2 : Int) ^ (k + 1) = 2 ^ k * 2 := Int.pow_succ 2 k
    have ih := bt_add N k (m / 2) (by omega) (by omega) (by omega)
    rw [bt, bt, show (m + 2 ^ (k + 1)) / 2 = m / 2 + 2 ^ k by omega, ih]; omega
theorem bt_s : ∀ (N : Nat) (v : Int), bt (N + 1) v = bt N v + v / 2 ^ N % 2
  | 0, v => by show v % 2 + 0 = 0 + v / 1 % 2; rw [Int.ediv_one]; omega
  | N + 1, v => by
    have ih := bt_s N (v / 2)
    rw [bt, ih, bt, Int.pow_succ, Int.mul_comm, ← Int.ediv_ediv_of_nonneg (by decide)]; omega
abbrev bts (v : Int) : Int := bt 20 v
/-- the fewest bits, and the first of so few; the last that came stands first -/
def sB : List Int → Int × Int
  | [] => (21, -1)
  | x :: R => if bts x < (sB R).1 then (bts x, x) else sB R
/-- how many different ones of so many bits -/
def dC : List Int → Int → Int
  | [], _ => 0
  | x :: R, b => dC R b + (if bts x = b ∧ x ∉ R then 1 else 0)
theorem sB_le : ∀ (R : List Int) (x : Int), x ∈ R → (sB R).1 ≤ bts x
  | y :: R, x, h => by
    have ih := sB_le R x
    unfold sB
    rcases List.mem_cons.mp h with e | e
    · subst e; split
      · exact Int.le_refl _
      · omega
    · have := ih e
      split
      · show bts y ≤ _; omega
      · exact this
theorem sB_mem : ∀ (R : List Int), R ≠ [] → (sB R).2 ∈ R ∧ bts (sB R).2 = (sB R).1
  | [x], _ => by
    unfold sB; rw [if_pos (by have := bt_b 20 x; show bt 20 x < 21; omega)]; exact ⟨List.mem_singleton.mpr rfl, rfl⟩
  | x :: y :: R, _ => by
    have ih := sB_mem (y :: R) (by simp)
    unfold sB; split
    · exact ⟨List.mem_cons_self, rfl⟩
    · exact ⟨List.mem_cons_of_mem _ ih.1, ih.2⟩
theorem sB_1 : ∀ R : List Int, (sB R).1 ≤ 21 ∧ 0 ≤ (sB R).1
  | [] => by decide
  | x :: R => by
    have := sB_1 R
    have := bt_b 20 x
    unfold sB; split
    · show bt 20 x ≤ 21 ∧ 0 ≤ bt 20 x; omega
    · exact sB_1 R
theorem dC_0 : ∀ (R : List Int) (b : Int), (∀ x ∈ R, bts x ≠ b) → dC R b = 0
  | [], _, _ => rfl
  | x :: R, b, h => by
    unfold dC; rw [dC_0 R b (fun y hy => h y (List.mem_cons_of_mem _ hy)), if_neg (fun q => h x List.mem_cons_self q.1)]; rfl
theorem dC_b : ∀ (R : List Int) (b : Int), 0 ≤ dC R b ∧ dC R b ≤ R.length
  | [], _ => ⟨Int.le_refl _, Int.le_refl _⟩
  | x :: R, b => by have := dC_b R b; unfold dC; rw [List.length_cons]; split <;> omega
