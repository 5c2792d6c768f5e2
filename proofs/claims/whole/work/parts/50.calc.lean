/-- fractions: n by d; d = 0 is none -/
abbrev zFr : Type := Int × Int
def zgcd (a b : Int) : Int := (Nat.gcd a.natAbs b.natAbs : Nat)
theorem zgcd_0 {x : Int} (h : 0 ≤ x) : zgcd x 0 = x := by unfold zgcd; rw [Int.natAbs_zero, Nat.gcd_zero_right]; omega
theorem zgcd_s {x y : Int} (hx : 0 ≤ x) (hy : 0 ≤ y) : zgcd y (Int.tmod x y) = zgcd x y := by
  unfold zgcd
  rw [Int.natAbs_tmod, Nat.gcd_comm x.natAbs, Nat.gcd_rec y.natAbs x.natAbs, Nat.gcd_comm]
theorem zabs_natAbs (x : Int) : (zabs x).natAbs = x.natAbs := by unfold zabs; split <;> omega
theorem zgcd_abs (x y : Int) : zgcd (zabs x) (zabs y) = zgcd x y := by unfold zgcd; rw [zabs_natAbs, zabs_natAbs]
theorem zgcd_pos {x y : Int} (hy : y ≠ 0) : 0 < zgcd x y := by
  unfold zgcd
  have := Nat.gcd_pos_of_pos_right x.natAbs (show 0 < y.natAbs by omega)
  omega
theorem zgcd_le {x y : Int} (hy : y ≠ 0) : zgcd x y ≤ zabs y := by
  unfold zgcd
  have := Nat.gcd_le_right x.natAbs (show 0 < y.natAbs by omega)
  unfold zabs; split <;> omega
theorem zgcd_0r {x y : Int} (h : zgcd x y = 0) : y = 0 := Classical.byContradiction fun q => by have := zgcd_pos (x := x) q; omega
/-- a measure that falls below 2 ^ k by k steps of Euclid -/
def gm (x y : Int) : Int := if y ≤ x then x * y + 1 else 2 * (x * y) + 2
theorem gm_pos {x y : Int} (hx : 0 ≤ x) (hy : 0 ≤ y) : 1 ≤ gm x y := by
  have := Int.mul_nonneg hx hy
  unfold gm; split <;> omega
theorem gm_s {x y : Int} {k : Nat} (hx : 0 ≤ x) (hy : 0 ≤ y) (h0 : y ≠ 0) (h : gm x y < 2 ^ (k + 1)) : gm y (Int.tmod x y) < 2 ^ k := by
  rw [Int.pow_succ] at h
  have e : Int.tmod x y = x % y := Int.tmod_eq_emod_of_nonneg hx
  have h1 := Int.emod_nonneg x h0
  have h2 := Int.emod_lt_of_pos x (show 0 < y by omega)
  rw [e]
  have h3 : gm y (x % y) = y * (x % y) + 1 := by unfold gm; rw [if_pos (by omega)]
  rw [h3]
  unfold gm at h
  by_cases q : y ≤ x
  · rw [if_pos q] at h
    have h4 : 2 * (x % y) + 1 ≤ x := by
      have := Int.mul_ediv_add_emod x y
      have h5 : 1 ≤ x / y := (Int.le_ediv_iff_mul_le (by omega)).mpr (by omega)
      have h6 : y * 1 ≤ y * (x / y) := Int.mul_le_mul_of_nonneg_left h5 (by omega)
      omega
    have h7 : y * (2 * (x % y) + 1) ≤ y * x := Int.mul_le_mul_of_nonneg_left h4 (by omega)
    have e7 : y * (2 * (x % y) + 1) = 2 * (y * (x % y)) + y := by rw [Int.mul_add, Int.mul_one, Int.mul_left_comm]
    rw [e7, Int.mul_comm y x] at h7
    omega
  · rw [if_neg q] at h
    rw [Int.emod_eq_of_lt hx (by omega), Int.mul_comm y x]; omega
theorem gm_le {x y : Int} (hx : 0 ≤ x ∧ x ≤ 2000000000000000000) (hy : 0 ≤ y ∧ y ≤ 2000000000000000000) : gm x y < 2 ^ 124 := by
  have := zmb (A := 2000000000000000000) (B := 2000000000000000000) (x := x) (y := y) (by omega) (by omega)
  have e : (2 : Int) ^ 124 = 21267647932558653966460912964485513216 := by decide
  rw [e]; unfold gm; split <;> omega
def frA (n d : Int) : Int := Int.tdiv (if d < 0 then -n else n) (zgcd n d)
def frB (n d : Int) : Int := Int.tdiv (zabs d) (zgcd n d)
/-- n by d as a fraction without a common divisor, within bounds -/
def fr (n d : Int) : zFr := if d ≠ 0 ∧ (-1000000000 ≤ frA n d ∧ frA n d ≤ 1000000000) ∧ frB n d ≤ 1000000000 then (frA n d, frB n d) else (0, 0)
theorem fr_p {n d : Int} (h : d ≠ 0 ∧ (-1000000000 ≤ frA n d ∧ frA n d ≤ 1000000000) ∧ frB n d ≤ 1000000000) : fr n d = (frA n d, frB n d) := if_pos h
theorem fr_n {n d : Int} (h : ¬ (d ≠ 0 ∧ (-1000000000 ≤ frA n d ∧ frA n d ≤ 1000000000) ∧ frB n d ≤ 1000000000)) : fr n d = (0, 0) := if_neg h
theorem tdiv_bd {a g B : Int} (ha : -B ≤ a ∧ a ≤ B) (hg : 0 < g) : -B ≤ Int.tdiv a g ∧ Int.tdiv a g ≤ B := by
  have h1 : (Int.tdiv a g).natAbs ≤ a.natAbs := by rw [Int.natAbs_tdiv]; exact Nat.div_le_self _ _
  omega
theorem frA_bd {n d B : Int} (hn : -B ≤ n ∧ n ≤ B) (hd : d ≠ 0) : -B ≤ frA n d ∧ frA n d ≤ B := tdiv_bd (by split <;> omega) (zgcd_pos hd)
theorem frB_bd {n d B : Int} (hn : -B ≤ d ∧ d ≤ B) (hd : d ≠ 0) : 0 ≤ frB n d ∧ frB n d ≤ B := by
  have h1 := zabs_le hn
  have h2 := tdiv_bd (a := zabs d) (g := zgcd n d) (B := B) (by omega) (zgcd_pos hd)
  exact ⟨Int.tdiv_nonneg h1.1 (Int.le_of_lt (zgcd_pos hd)), h2.2⟩
/-- what a fraction is -/
def fok (f : zFr) : Prop := (-1000000000 ≤ f.1 ∧ f.1 ≤ 1000000000) ∧ (0 ≤ f.2 ∧ f.2 ≤ 1000000000) ∧ (f.2 ≠ 0 → zgcd f.1 f.2 = 1)
theorem fok_0 : fok (0, 0) := ⟨by decide, by decide, fun q => absurd rfl q⟩
theorem natdvd_gcd {a b g : Nat} (hb : 0 < b) (hg : g = Nat.gcd a b) : Nat.gcd (a / g) (b / g) = 1 := by
  subst hg
  have h0 : 0 < Nat.gcd a b := Nat.gcd_pos_of_pos_right _ hb
  rw [Nat.gcd_div (Nat.gcd_dvd_left a b) (Nat.gcd_dvd_right a b)]
  exact Nat.div_self h0
theorem fr_ok (n d : Int) : fok (fr n d) := by
  by_cases h : d ≠ 0 ∧ (-1000000000 ≤ frA n d ∧ frA n d ≤ 1000000000) ∧ frB n d ≤ 1000000000
  · rw [fr_p h]
    have h2 : 0 ≤ frB n d := Int.tdiv_nonneg (by unfold zabs; split <;> omega) (Int.le_of_lt (zgcd_pos h.1))
    refine ⟨h.2.1, ⟨h2, h.2.2⟩, fun _ => ?_⟩
    show zgcd (frA n d) (frB n d) = 1
    unfold zgcd frA frB
    rw [Int.natAbs_tdiv, Int.natAbs_tdiv, zabs_natAbs]
    have e1 : (if d < 0 then -n else n).natAbs = n.natAbs := by split <;> omega
    have e2 : (zgcd n d).natAbs = Nat.gcd n.natAbs d.natAbs := rfl
    rw [e1, e2]
    show ((Nat.gcd (n.natAbs / Nat.gcd n.natAbs d.natAbs) (d.natAbs / Nat.gcd n.natAbs d.natAbs) : Nat) : Int) = 1
    rw [natdvd_gcd (a := n.natAbs) (b := d.natAbs) (by have := h.1; omega) rfl]; rfl
  · rw [fr_n h]; exact fok_0
theorem fr_self {n d : Int} (h : fok (n, d)) (h0 : d ≠ 0) : fr n d = (n, d) := by
  have h1 : zgcd n d = 1 := h.2.2 h0
  have hd : 0 < d := by have := h.2.1.1; have e : (n, d).2 = d := rfl; omega
  have hA : frA n d = n := by unfold frA; rw [h1, if_neg (by omega), Int.tdiv_one]
  have hB : frB n d = d := by unfold frB; rw [h1, Int.tdiv_one]; unfold zabs; rw [if_neg (by omega)]
  rw [fr_p (by rw [hA, hB]; exact ⟨h0, h.1, h.2.1.2⟩), hA, hB]
theorem fok_neg {f : zFr} (h : fok f) : fok (-f.1, f.2) := ⟨by have := h.1; show -1000000000 ≤ -f.1 ∧ -f.1 ≤ 1000000000; omega, h.2.1, fun q => by
  have e := h.2.2 q
  unfold zgcd at e ⊢
  rw [show (-f.1, f.2).1 = -f.1 from rfl, Int.natAbs_neg]; exact e⟩
theorem fok_int {z : Int} (h : 0 ≤ z ∧ z ≤ 1000000000) : fok (z, 1) := ⟨by show -1000000000 ≤ z ∧ z ≤ 1000000000; omega, by show (0 : Int) ≤ 1 ∧ (1 : Int) ≤ 1000000000; decide, fun _ => by
  unfold zgcd; rw [show (z, (1 : Int)).2 = 1 from rfl, Int.natAbs_one, Nat.gcd_one_right]; rfl⟩
theorem zsq_nn (x : Int) : 0 ≤ x * x := by
  rcases Int.le_total 0 x with h | h
  · exact Int.mul_nonneg h h
  · exact Int.mul_nonneg_of_nonpos_of_nonpos h h
/-- the greatest whole number whose square isn't above v -/
def isqN : Nat → Nat
  | 0 => 0
  | v + 1 => if (isqN v + 1) * (isqN v + 1) ≤ v + 1 then isqN v + 1 else isqN v
def isq (v : Int) : Int := (isqN v.toNat : Nat)
theorem isqN_ok : ∀ v, isqN v * isqN v ≤ v ∧ v < (isqN v + 1) * (isqN v + 1)
  | 0 => by decide
  | v + 1 => by
    have ih := isqN_ok v
    unfold isqN
    split
    · rename_i q
      refine ⟨q, ?_⟩
      have e : (isqN v + 1 + 1) * (isqN v + 1 + 1) = (isqN v + 1) * (isqN v + 1) + 2 * (isqN v + 1) + 1 := by grind
      omega
    · omega
theorem isq_eq {v r : Int} (hr : 0 ≤ r) (h1 : r * r ≤ v) (h2 : v < (r + 1) * (r + 1)) : isq v = r := by
  obtain ⟨a, rfl⟩ : ∃ a : Nat, r = a := ⟨r.toNat, by omega⟩
  obtain ⟨w, rfl⟩ : ∃ w : Nat, v = w := ⟨v.toNat, by have := zsq_nn (a : Int); omega⟩
  have h1' : a * a ≤ w := by exact_mod_cast h1
  have h2' : w < (a + 1) * (a + 1) := by exact_mod_cast h2
  have ih := isqN_ok w
  unfold isq
  rw [Int.toNat_natCast]
  congr 1
  rcases Nat.lt_trichotomy (isqN w) a with q | q | q
  · have := Nat.mul_le_mul (show isqN w + 1 ≤ a from q) (show isqN w + 1 ≤ a from q); omega
  · exact q
  · have := Nat.mul_le_mul (show a + 1 ≤ isqN w from q) (show a + 1 ≤ isqN w from q); omega
theorem isq_bd {v : Int} (h : v < 10000000000000000) (h0 : 0 ≤ v) : 0 ≤ isq v ∧ isq v ≤ 100000000 := by
  refine ⟨by unfold isq; omega, ?_⟩
  have ih := isqN_ok v.toNat
  unfold isq
  by_cases q : isqN v.toNat ≤ 100000000
  · omega
  · have := Nat.mul_le_mul (show 100000000 ≤ isqN v.toNat by omega) (show 100000000 ≤ isqN v.toNat by omega); omega
theorem zpw (k : Nat) : k = 0 ∨ ∃ q : Int, (2 : Int) ^ k = 2 * q := by
  cases k with
  | zero => left; rfl
  | succ k => right; exact ⟨2 ^ k, by rw [Int.pow_succ]; omega⟩
theorem zsq_lt {a b : Int} (h0 : 0 ≤ a) (h : a ≤ b) : a * a ≤ b * b := Int.mul_le_mul h h h0 (by omega)

set_option maxRecDepth 100000 in
set_option maxHeartbeats 4000000 in
theorem l_gcd {d n : Nat} {sh : zSh} {h : zMem} {a b : Int}  : ∀ (k : Nat) (x : Int) (y : Int) (i : Int), gm x y < 2 ^ k → (0 ≤ i ∧ i + k ≤ 199) → (0 ≤ x ∧ x ≤ 2000000000000000000) → (0 ≤ y ∧ y ≤ 2000000000000000000) → zgcd x y = zgcd a b → zT yX0_commonDivisor cX0_commonDivisor 11 (some .long) (d + 0) 0 0 (zq (some (1, zgcd a b)) n sh h) 9 [some (1, a), none, some (1, b), none, some (1, x), none, some (1, y), none, some (0, i), none, none] [] n sh h := by
  intro k
  induction k with
  | zero => intro x y i hk hi hx hy hg; have := gm_pos hx.1 hy.1; have e : (2 : Int) ^ 0 = 1 := rfl; omega
  | succ k ih =>
    intro x y i hk hi hx hy hg
    refine zt_iload dX0_commonDivisor_9 rfl ?_
    refine zt_sipush dX0_commonDivisor_11 (by decide) ?_
    refine zt_icmp_ge (tgt := 45) dX0_commonDivisor_14 (by decide) (by omega) (by decide) (fun c_14 => ?_) (fun c_14 => ?_)
    · exfalso
      omega
    · refine zt_lload dX0_commonDivisor_17 rfl ?_
      refine zt_lconst (v := 0) dX0_commonDivisor_19 rfl ?_
      refine zt_lc_eq (tgt := 45) dX0_commonDivisor_20 dX0_commonDivisor_21 (by decide) (by omega) (by decide) (fun c_20 => ?_) (fun c_20 => ?_)
      · refine zt_lload dX0_commonDivisor_45 rfl ?_
        exact zt_lret dX0_commonDivisor_47 ⟨by rw [← hg, show y = 0 from c_20, zgcd_0 hx.1], rfl, rfl, rfl⟩
      · refine zt_lload dX0_commonDivisor_24 rfl ?_
        refine zt_lload dX0_commonDivisor_26 rfl ?_
        refine zt_lrem dX0_commonDivisor_28 (by omega) (by omega) (by omega) ?_
        refine zt_lstore_9 dX0_commonDivisor_29 (by decide) rfl ?_
        refine zt_lload dX0_commonDivisor_31 rfl ?_
        refine zt_lstore_4 dX0_commonDivisor_33 (by decide) rfl ?_
        refine zt_lload dX0_commonDivisor_35 rfl ?_
        refine zt_lstore_6 dX0_commonDivisor_37 (by decide) rfl ?_
        refine zt_iinc_8 dX0_commonDivisor_39 (by decide) rfl ?_
        refine zt_goto (tgt := 9) dX0_commonDivisor_42 (by decide) ?_
        refine zt_kill_9 ?_
        exact ih y (Int.tmod x y) (i + 1) (gm_s hx.1 hy.1 c_20 hk) (by omega) hy (by have e : Int.tmod x y = x % y := Int.tmod_eq_emod_of_nonneg hx.1; have h1 := Int.emod_nonneg x c_20; have h2 := Int.emod_lt_of_pos x (show 0 < y by omega); omega) ((zgcd_s hx.1 hy.1).trans hg)

set_option maxRecDepth 100000 in
set_option maxHeartbeats 4000000 in
theorem c_gcd {d n : Nat} {sh : zSh} {h : zMem} {a b : Int} (ha : 0 ≤ a ∧ a ≤ 2000000000000000000) (hb : 0 ≤ b ∧ b ≤ 2000000000000000000) : zF yX0_commonDivisor cX0_commonDivisor 11 (some .long) (d + 0) 0 0 [(1, a), (1, b)] n sh h (some (1, zgcd a b)) n sh h := by
  refine zF.ofT (by decide +kernel) [some (1, a), none, some (1, b), none, none, none, none, none, none, none, none] rfl (Nat.le_of_ble_eq_true rfl) ?_
  refine zt_lload_n dX0_commonDivisor_0 rfl ?_
  refine zt_lstore_4 dX0_commonDivisor_1 (by decide) rfl ?_
  refine zt_lload_n dX0_commonDivisor_3 rfl ?_
  refine zt_lstore_6 dX0_commonDivisor_4 (by decide) rfl ?_
  refine zt_iconst dX0_commonDivisor_6 ?_
  refine zt_istore_8 dX0_commonDivisor_7 (by decide) rfl ?_
  exact l_gcd 124 a b 0 (gm_le ha hb) (by decide) ha hb rfl

/-- a fraction more on the stack -/
def cPush (h : zMem) (x y : Int) : zMem := zup (zup (zup h 6 (h 5 2) x) 7 (h 5 2) y) 5 2 (h 5 2 + 1)
def cDrop (h : zMem) : zMem := zup h 5 2 (h 5 2 - 1)
theorem cPush_rf {h : zMem} {x y : Int} (hR : zRf h) : zRf (cPush h x y) := ((hR.upA (by decide)).upA (by decide)).up (by decide)
theorem cDrop_rf {h : zMem} (hR : zRf h) : zRf (cDrop h) := hR.up (by decide)
theorem cPush_t {h : zMem} {x y : Int} : cPush h x y 5 2 = h 5 2 + 1 := zupE
theorem cDrop_t {h : zMem} : cDrop h 5 2 = h 5 2 - 1 := zupE
theorem cPush_n {h : zMem} {x y a b : Int} (h1 : a ≠ 5 ∧ a ≠ 6 ∧ a ≠ 7) : cPush h x y a b = h a b := by
  unfold cPush; rw [zupA h1.1, zupA h1.2.2, zupA h1.2.1]
theorem cDrop_n {h : zMem} {a b : Int} (h1 : a ≠ 5) : cDrop h a b = h a b := zupA h1
theorem cPush_6 {h : zMem} {x y b : Int} : cPush h x y 6 b = if b = h 5 2 then x else h 6 b := by
  unfold cPush; rw [zupA (by decide), zupA (by decide), zup_at]
theorem cPush_7 {h : zMem} {x y b : Int} : cPush h x y 7 b = if b = h 5 2 then y else h 7 b := by
  unfold cPush; rw [zupA (by decide), zup_at, zupA (by decide)]

set_option maxRecDepth 100000 in
set_option maxHeartbeats 4000000 in
theorem c_cpush {d n : Nat} {sh : zSh} {h : zMem} {x y : Int} (hS : zShp sh) (hR : zRf h) (ht : 0 ≤ h 5 2 ∧ h 5 2 < 64) (hx : zi64 x) (hy : zi64 y) : zF yX0_push cX0_push 5 none (d + 0) 0 0 [(2, 5), (1, x), (1, y)] n sh h none n sh (cPush h x y) := by
  refine zF.ofT (by decide +kernel) [some (2, 5), some (1, x), none, some (1, y), none] rfl (Nat.le_of_ble_eq_true rfl) ?_
  refine zt_rg (fun hm => ?_)
  refine zt_aload_n dX0_push_0 rfl ?_
  refine zt_get dX0_push_1 fl_X0_18 (zs_5 hS) ?_
  refine zt_if_lt (tgt := 46) dX0_push_4 (by decide) (hm.fld (j := 2) (zs_5 hS) (by decide) (by decide) (by decide)) (fun c_4 => ?_) (fun c_4 => ?_)
  · exfalso
    omega
  · refine zt_aload_n dX0_push_7 rfl ?_
    refine zt_get dX0_push_8 fl_X0_18 (zs_5 hS) ?_
    refine zt_bipush dX0_push_11 (by decide) ?_
    refine zt_icmp_ge (tgt := 46) dX0_push_13 (by decide) (hm.fld (j := 2) (zs_5 hS) (by decide) (by decide) (by decide)) (by decide) (fun c_13 => ?_) (fun c_13 => ?_)
    · exfalso
      omega
    · refine zt_aload_n dX0_push_16 rfl ?_
      refine zt_getv dX0_push_17 fl_X0_11 (zs_5 hS) (rf_5_0 hR) ?_
      refine zt_aload_n dX0_push_20 rfl ?_
      refine zt_get dX0_push_21 fl_X0_18 (zs_5 hS) ?_
      refine zt_lload_n dX0_push_24 rfl ?_
      refine zt_lastore dX0_push_25 (zs_6 hS) (by decide) (by omega) (by omega) (by omega) ?_
      refine zt_aload_n dX0_push_26 rfl ?_
      refine zt_getv dX0_push_27 fl_X0_15 (zs_5 hS) (rf_5_1 (hR.upA (by decide))) ?_
      refine zt_aload_n dX0_push_30 rfl ?_
      refine zt_getv (v := h 5 2) dX0_push_31 fl_X0_18 (zs_5 hS) ((zupA (by decide)).trans rfl) ?_
      refine zt_lload_n dX0_push_34 rfl ?_
      refine zt_lastore dX0_push_35 (zs_7 hS) (by decide) (by omega) (by omega) (by omega) ?_
      refine zt_aload_n dX0_push_36 rfl ?_
      refine zt_dup dX0_push_37 (Nat.ne_of_beq_eq_false rfl) ?_
      refine zt_getv (v := h 5 2) dX0_push_38 fl_X0_18 (zs_5 hS) ((zupA (by decide)).trans ((zupA (by decide)).trans rfl)) ?_
      refine zt_iconst dX0_push_41 ?_
      refine zt_iadd dX0_push_42 ?_
      refine zt_puti dX0_push_43 fl_X0_18 rfl (zs_5 hS) (by omega) ?_
      exact zt_vret dX0_push_46 ⟨rfl, rfl, rfl, rfl⟩

set_option maxRecDepth 100000 in
set_option maxHeartbeats 4000000 in
theorem c_cdrop {d n : Nat} {sh : zSh} {h : zMem} (hS : zShp sh) (hR : zRf h) (ht : 0 < h 5 2 ∧ h 5 2 ≤ 64) : zF yX0_drop cX0_drop 1 none (d + 0) 0 0 [(2, 5)] n sh h none n sh (cDrop h) := by
  refine zF.ofT (by decide +kernel) [some (2, 5)] rfl (Nat.le_of_ble_eq_true rfl) ?_
  refine zt_rg (fun hm => ?_)
  refine zt_aload_n dX0_drop_0 rfl ?_
  refine zt_get dX0_drop_1 fl_X0_18 (zs_5 hS) ?_
  refine zt_if_le (tgt := 17) dX0_drop_4 (by decide) (hm.fld (j := 2) (zs_5 hS) (by decide) (by decide) (by decide)) (fun c_4 => ?_) (fun c_4 => ?_)
  · exfalso
    omega
  · refine zt_aload_n dX0_drop_7 rfl ?_
    refine zt_dup dX0_drop_8 (Nat.ne_of_beq_eq_false rfl) ?_
    refine zt_get dX0_drop_9 fl_X0_18 (zs_5 hS) ?_
    refine zt_iconst dX0_drop_12 ?_
    refine zt_isub dX0_drop_13 ?_
    refine zt_puti dX0_drop_14 fl_X0_18 rfl (zs_5 hS) (by omega) ?_
    exact zt_vret dX0_drop_17 ⟨rfl, rfl, rfl, rfl⟩

set_option maxRecDepth 100000 in
set_option maxHeartbeats 4000000 in
theorem c_cnum {d n : Nat} {sh : zSh} {h : zMem} (hS : zShp sh) (hR : zRf h) (ht : 0 < h 5 2 ∧ h 5 2 ≤ 64) : zF yX0_numerator cX0_numerator 1 (some .long) (d + 0) 0 0 [(2, 5)] n sh h (some (1, h 6 (h 5 2 - 1))) n sh h := by
  refine zF.ofT (by decide +kernel) [some (2, 5)] rfl (Nat.le_of_ble_eq_true rfl) ?_
  refine zt_rg (fun hm => ?_)
  refine zt_aload_n dX0_numerator_0 rfl ?_
  refine zt_get dX0_numerator_1 fl_X0_18 (zs_5 hS) ?_
  refine zt_iconst dX0_numerator_4 ?_
  refine zt_icmp_lt (tgt := 17) dX0_numerator_5 (by decide) (hm.fld (j := 2) (zs_5 hS) (by decide) (by decide) (by decide)) (by decide) (fun c_5 => ?_) (fun c_5 => ?_)
  · exfalso
    omega
  · refine zt_aload_n dX0_numerator_8 rfl ?_
    refine zt_get dX0_numerator_9 fl_X0_18 (zs_5 hS) ?_
    refine zt_bipush dX0_numerator_12 (by decide) ?_
    refine zt_icmp_le (tgt := 21) dX0_numerator_14 (by decide) (hm.fld (j := 2) (zs_5 hS) (by decide) (by decide) (by decide)) (by decide) (fun c_14 => ?_) (fun c_14 => ?_)
    · refine zt_aload_n dX0_numerator_21 rfl ?_
      refine zt_getv dX0_numerator_22 fl_X0_11 (zs_5 hS) (rf_5_0 hR) ?_
      refine zt_aload_n dX0_numerator_25 rfl ?_
      refine zt_get dX0_numerator_26 fl_X0_18 (zs_5 hS) ?_
      refine zt_iconst dX0_numerator_29 ?_
      refine zt_isub dX0_numerator_30 ?_
      refine zt_laload dX0_numerator_31 (zs_6 hS) (by decide) (by omega) (by omega) ?_
      exact zt_lret dX0_numerator_32 ⟨rfl, rfl, rfl, rfl⟩
    · exfalso
      omega

set_option maxRecDepth 100000 in
set_option maxHeartbeats 4000000 in
theorem c_cden {d n : Nat} {sh : zSh} {h : zMem} (hS : zShp sh) (hR : zRf h) (ht : 0 < h 5 2 ∧ h 5 2 ≤ 64) : zF yX0_denominator cX0_denominator 1 (some .long) (d + 0) 0 0 [(2, 5)] n sh h (some (1, h 7 (h 5 2 - 1))) n sh h := by
  refine zF.ofT (by decide +kernel) [some (2, 5)] rfl (Nat.le_of_ble_eq_true rfl) ?_
  refine zt_rg (fun hm => ?_)
  refine zt_aload_n dX0_denominator_0 rfl ?_
  refine zt_get dX0_denominator_1 fl_X0_18 (zs_5 hS) ?_
  refine zt_iconst dX0_denominator_4 ?_
  refine zt_icmp_lt (tgt := 17) dX0_denominator_5 (by decide) (hm.fld (j := 2) (zs_5 hS) (by decide) (by decide) (by decide)) (by decide) (fun c_5 => ?_) (fun c_5 => ?_)
  · exfalso
    omega
  · refine zt_aload_n dX0_denominator_8 rfl ?_
    refine zt_get dX0_denominator_9 fl_X0_18 (zs_5 hS) ?_
    refine zt_bipush dX0_denominator_12 (by decide) ?_
    refine zt_icmp_le (tgt := 21) dX0_denominator_14 (by decide) (hm.fld (j := 2) (zs_5 hS) (by decide) (by decide) (by decide)) (by decide) (fun c_14 => ?_) (fun c_14 => ?_)
    · refine zt_aload_n dX0_denominator_21 rfl ?_
      refine zt_getv dX0_denominator_22 fl_X0_15 (zs_5 hS) (rf_5_1 hR) ?_
      refine zt_aload_n dX0_denominator_25 rfl ?_
      refine zt_get dX0_denominator_26 fl_X0_18 (zs_5 hS) ?_
      refine zt_iconst dX0_denominator_29 ?_
      refine zt_isub dX0_denominator_30 ?_
      refine zt_laload dX0_denominator_31 (zs_7 hS) (by decide) (by omega) (by omega) ?_
      exact zt_lret dX0_denominator_32 ⟨rfl, rfl, rfl, rfl⟩
    · exfalso
      omega

set_option maxRecDepth 100000 in
set_option maxHeartbeats 4000000 in
theorem c_cnone {d n : Nat} {sh : zSh} {h : zMem} (hS : zShp sh) (hR : zRf h) (ht : 0 < h 5 2 ∧ h 5 2 ≤ 64) : zF yX0_isNone cX0_isNone 1 (some .boolean) (d + 1) 0 0 [(2, 5)] n sh h (some (0, zb (h 7 (h 5 2 - 1) = 0))) n sh h := by
  refine zF.ofT (by decide +kernel) [some (2, 5)] rfl (Nat.le_of_ble_eq_true rfl) ?_
  refine zt_rg (fun hm => ?_)
  refine zt_aload_n dX0_isNone_0 rfl ?_
  refine zt_callV0r dX0_isNone_1 ml_X0_30 (zs_5 hS) (Nat.le_of_ble_eq_true rfl) (c_cden hS hR (by omega)) ?_
  refine zt_lconst (v := 0) dX0_isNone_4 rfl ?_
  refine zt_lc_ne (tgt := 13) dX0_isNone_5 dX0_isNone_6 (by decide) (hm.long (zs_7 hS) (by omega) (by omega)) (by decide) (fun c_5 => ?_) (fun c_5 => ?_)
  · refine zt_iconst dX0_isNone_13 ?_
    exact zt_zret dX0_isNone_14 (by decide) ⟨zb0 c_5, rfl, rfl, rfl⟩
  · refine zt_iconst dX0_isNone_9 ?_
    refine zt_goto (tgt := 14) dX0_isNone_10 (by decide) ?_
    exact zt_zret dX0_isNone_14 (by decide) ⟨zb1 c_5, rfl, rfl, rfl⟩

set_option maxRecDepth 100000 in
set_option maxHeartbeats 4000000 in
theorem c_plin {d n : Nat} {sh : zSh} {h : zMem} {c i : Int} {N : Nat} (hc : sh c = (100, N)) (hN : N ≤ 600) (hi : 0 ≤ i ∧ i < N) : zF yX0_placeIn cX0_placeIn 2 (some .int) (d + 0) 0 0 [(2, c), (0, i)] n sh h (some (0, h c i)) n sh h := by
  refine zF.ofT (by decide +kernel) [some (2, c), some (0, i)] rfl (Nat.le_of_ble_eq_true rfl) ?_
  refine zt_iload_n dX0_placeIn_0 rfl ?_
  refine zt_if_lt (tgt := 10) dX0_placeIn_1 (by decide) (by omega) (fun c_1 => ?_) (fun c_1 => ?_)
  · exfalso
    omega
  · refine zt_iload_n dX0_placeIn_4 rfl ?_
    refine zt_aload_n dX0_placeIn_5 rfl ?_
    refine zt_alenv (v := (N : Int)) dX0_placeIn_6 hc (by decide) (by decide) rfl ?_
    refine zt_icmp_lt (tgt := 15) dX0_placeIn_7 (by decide) (by omega) (by omega) (fun c_7 => ?_) (fun c_7 => ?_)
    · refine zt_aload_n dX0_placeIn_15 rfl ?_
      refine zt_iload_n dX0_placeIn_16 rfl ?_
      refine zt_iaload dX0_placeIn_17 hc (by omega) (by omega) (by omega) ?_
      exact zt_iret dX0_placeIn_18 ⟨rfl, rfl, rfl, rfl⟩
    · exfalso
      omega

set_option maxRecDepth 100000 in
set_option maxHeartbeats 4000000 in
theorem c_cpr {d n : Nat} {sh : zSh} {h : zMem} {x y : Int} (hS : zShp sh) (hR : zRf h) (ht : 0 ≤ h 5 2 ∧ h 5 2 < 64) (hx : -2000000000000000000 ≤ x ∧ x ≤ 2000000000000000000) (hy : -2000000000000000000 ≤ y ∧ y ≤ 2000000000000000000)  : zF yX0_pushReduced cX0_pushReduced 12 none (d + 1) 0 0 [(2, 5), (1, x), (1, y)] n sh h none n sh (cPush h (fr x y).1 (fr x y).2) := by
  refine zF.ofT (by decide +kernel) [some (2, 5), some (1, x), none, some (1, y), none, none, none, none, none, none, none, none] rfl (Nat.le_of_ble_eq_true rfl) ?_
  refine zt_rg (fun hm => ?_)
  refine zt_lload_n dX0_pushReduced_0 rfl ?_
  refine zt_callS1r dX0_pushReduced_1 ml_X0_99 (Nat.le_of_ble_eq_true rfl) (c_labs (by omega)) ?_
  refine zt_lload_n dX0_pushReduced_4 rfl ?_
  refine zt_callS1r dX0_pushReduced_5 ml_X0_99 (Nat.le_of_ble_eq_true rfl) (c_labs (by omega)) ?_
  have ax := zabs_le hx
  have ay := zabs_le hy
  refine zt_callS2r dX0_pushReduced_8 ml_X0_103 (Nat.le_of_ble_eq_true rfl) (zF.of_eq (by rw [zgcd_abs]) rfl rfl rfl (c_gcd (a := zabs x) (b := zabs y) (by omega) (by omega))) ?_
  refine zt_lstore_5 dX0_pushReduced_11 (by decide) rfl ?_
  have hgr : zgcd x y = 0 ∨ (0 < zgcd x y ∧ zgcd x y ≤ 2000000000000000000) := by
    by_cases q : y = 0
    · by_cases q2 : x = 0
      · left; subst q; subst q2; rfl
      · right; subst q; rw [← zgcd_abs, show zabs 0 = 0 from rfl, zgcd_0 ax.1]; unfold zabs at ax ⊢; split <;> omega
    · right; have := zgcd_pos (x := x) q; have := zgcd_le (x := x) q; omega
  refine zt_lload_n dX0_pushReduced_13 rfl ?_
  refine zt_lconst (v := 0) dX0_pushReduced_14 rfl ?_
  refine zt_lc_eq (tgt := 26) dX0_pushReduced_15 dX0_pushReduced_16 (by decide) (by omega) (by decide) (fun c_15 => ?_) (fun c_15 => ?_)
  · refine zt_aload_n dX0_pushReduced_26 rfl ?_
    refine zt_lconst (v := 0) dX0_pushReduced_27 rfl ?_
    refine zt_lconst (v := 0) dX0_pushReduced_28 rfl ?_
    refine zt_callV2v dX0_pushReduced_29 ml_X0_33 (zs_5 hS) (Nat.le_of_ble_eq_true rfl) (c_cpush hS hR (by omega) (by decide) (by decide)) ?_
    exact zt_vret dX0_pushReduced_32 ⟨rfl, rfl, rfl, by first | rw [fr_n (by omega)] | rw [fr_n (fun q => q.1 (zgcd_0r (by omega)))]⟩
  · refine zt_lload dX0_pushReduced_19 rfl ?_
    refine zt_lconst (v := 0) dX0_pushReduced_21 rfl ?_
    refine zt_lc_ne (tgt := 33) dX0_pushReduced_22 dX0_pushReduced_23 (by decide) (by omega) (by decide) (fun c_22 => ?_) (fun c_22 => ?_)
    · refine zt_lload_n dX0_pushReduced_33 rfl ?_
      refine zt_lconst (v := 0) dX0_pushReduced_34 rfl ?_
      refine zt_lc_ge (tgt := 44) dX0_pushReduced_35 dX0_pushReduced_36 (by decide) (by omega) (by decide) (fun c_35 => ?_) (fun c_35 => ?_)
      · refine zt_lload_n dX0_pushReduced_44 rfl ?_
        have hA := frA_bd (n := x) (d := y) (B := 2000000000000000000) hx (by omega)
        have hB := frB_bd (n := x) (d := y) (B := 2000000000000000000) hy (by omega)
        have hg := zgcd_pos (x := x) (y := y) (by omega)
        have hg2 := zgcd_le (x := x) (y := y) (by omega)
        refine zt_topv (v := (if y < 0 then -x else x)) (by first | rw [if_pos (by omega)] | rw [if_neg (by omega)]) ?_
        refine zt_lload dX0_pushReduced_45 rfl ?_
        refine zt_ldiv dX0_pushReduced_47 (by split <;> omega) (by omega) (by omega) ?_
        refine zt_topv (v := frA x y) rfl ?_
        refine zt_lstore_7 dX0_pushReduced_48 (by decide) rfl ?_
        refine zt_lload_n dX0_pushReduced_50 rfl ?_
        refine zt_callS1r dX0_pushReduced_51 ml_X0_99 (Nat.le_of_ble_eq_true rfl) (c_labs (by omega)) ?_
        refine zt_lload dX0_pushReduced_54 rfl ?_
        refine zt_ldiv dX0_pushReduced_56 (by omega) (by omega) (by omega) ?_
        refine zt_topv (v := frB x y) rfl ?_
        refine zt_lstore_9 dX0_pushReduced_57 (by decide) rfl ?_
        refine zt_lload dX0_pushReduced_59 rfl ?_
        refine zt_ldc2 dX0_pushReduced_61 kc_X0_106 ?_
        refine zt_lc_lt (tgt := 90) dX0_pushReduced_64 dX0_pushReduced_65 (by decide) (by omega) (by decide) (fun c_64 => ?_) (fun c_64 => ?_)
        · refine zt_iconst dX0_pushReduced_90 ?_
          refine zt_istore_11 dX0_pushReduced_91 (by decide) rfl ?_
          refine zt_aload_n dX0_pushReduced_93 rfl ?_
          refine zt_iload dX0_pushReduced_94 rfl ?_
          refine zt_if_eq (tgt := 104) dX0_pushReduced_96 (by decide) (by decide) (fun c_96 => ?_) (fun q => absurd q (by decide))
          refine zt_lconst (v := 0) dX0_pushReduced_104 rfl ?_
          refine zt_iload dX0_pushReduced_105 rfl ?_
          refine zt_if_eq (tgt := 115) dX0_pushReduced_107 (by decide) (by decide) (fun c_107 => ?_) (fun q => absurd q (by decide))
          refine zt_lconst (v := 0) dX0_pushReduced_115 rfl ?_
          refine zt_callV2v dX0_pushReduced_116 ml_X0_33 (zs_5 hS) (Nat.le_of_ble_eq_true rfl) (c_cpush hS hR (by omega) (by decide) (by decide)) ?_
          exact zt_vret dX0_pushReduced_119 ⟨rfl, rfl, rfl, by first | rw [fr_p (by omega)] | rw [fr_n (by omega)]⟩
        · refine zt_lload dX0_pushReduced_68 rfl ?_
          refine zt_ldc2 dX0_pushReduced_70 kc_X0_108 ?_
          refine zt_lc_gt (tgt := 90) dX0_pushReduced_73 dX0_pushReduced_74 (by decide) (by omega) (by decide) (fun c_73 => ?_) (fun c_73 => ?_)
          · refine zt_iconst dX0_pushReduced_90 ?_
            refine zt_istore_11 dX0_pushReduced_91 (by decide) rfl ?_
            refine zt_aload_n dX0_pushReduced_93 rfl ?_
            refine zt_iload dX0_pushReduced_94 rfl ?_
            refine zt_if_eq (tgt := 104) dX0_pushReduced_96 (by decide) (by decide) (fun c_96 => ?_) (fun q => absurd q (by decide))
            refine zt_lconst (v := 0) dX0_pushReduced_104 rfl ?_
            refine zt_iload dX0_pushReduced_105 rfl ?_
            refine zt_if_eq (tgt := 115) dX0_pushReduced_107 (by decide) (by decide) (fun c_107 => ?_) (fun q => absurd q (by decide))
            refine zt_lconst (v := 0) dX0_pushReduced_115 rfl ?_
            refine zt_callV2v dX0_pushReduced_116 ml_X0_33 (zs_5 hS) (Nat.le_of_ble_eq_true rfl) (c_cpush hS hR (by omega) (by decide) (by decide)) ?_
            exact zt_vret dX0_pushReduced_119 ⟨rfl, rfl, rfl, by first | rw [fr_p (by omega)] | rw [fr_n (by omega)]⟩
          · refine zt_lload dX0_pushReduced_77 rfl ?_
            refine zt_ldc2 dX0_pushReduced_79 kc_X0_108 ?_
            refine zt_lc_gt (tgt := 90) dX0_pushReduced_82 dX0_pushReduced_83 (by decide) (by omega) (by decide) (fun c_82 => ?_) (fun c_82 => ?_)
            · refine zt_iconst dX0_pushReduced_90 ?_
              refine zt_istore_11 dX0_pushReduced_91 (by decide) rfl ?_
              refine zt_aload_n dX0_pushReduced_93 rfl ?_
              refine zt_iload dX0_pushReduced_94 rfl ?_
              refine zt_if_eq (tgt := 104) dX0_pushReduced_96 (by decide) (by decide) (fun c_96 => ?_) (fun q => absurd q (by decide))
              refine zt_lconst (v := 0) dX0_pushReduced_104 rfl ?_
              refine zt_iload dX0_pushReduced_105 rfl ?_
              refine zt_if_eq (tgt := 115) dX0_pushReduced_107 (by decide) (by decide) (fun c_107 => ?_) (fun q => absurd q (by decide))
              refine zt_lconst (v := 0) dX0_pushReduced_115 rfl ?_
              refine zt_callV2v dX0_pushReduced_116 ml_X0_33 (zs_5 hS) (Nat.le_of_ble_eq_true rfl) (c_cpush hS hR (by omega) (by decide) (by decide)) ?_
              exact zt_vret dX0_pushReduced_119 ⟨rfl, rfl, rfl, by first | rw [fr_p (by omega)] | rw [fr_n (by omega)]⟩
            · refine zt_iconst dX0_pushReduced_86 ?_
              refine zt_goto (tgt := 91) dX0_pushReduced_87 (by decide) ?_
              refine zt_istore_11 dX0_pushReduced_91 (by decide) rfl ?_
              refine zt_aload_n dX0_pushReduced_93 rfl ?_
              refine zt_iload dX0_pushReduced_94 rfl ?_
              refine zt_if_eq (tgt := 104) dX0_pushReduced_96 (by decide) (by decide) (fun q => absurd q (by decide)) (fun c_96 => ?_)
              refine zt_lload dX0_pushReduced_99 rfl ?_
              refine zt_goto (tgt := 105) dX0_pushReduced_101 (by decide) ?_
              refine zt_iload dX0_pushReduced_105 rfl ?_
              refine zt_if_eq (tgt := 115) dX0_pushReduced_107 (by decide) (by decide) (fun q => absurd q (by decide)) (fun c_107 => ?_)
              refine zt_lload dX0_pushReduced_110 rfl ?_
              refine zt_goto (tgt := 116) dX0_pushReduced_112 (by decide) ?_
              refine zt_callV2v dX0_pushReduced_116 ml_X0_33 (zs_5 hS) (Nat.le_of_ble_eq_true rfl) (c_cpush hS hR (by omega) (by omega) (by omega)) ?_
              exact zt_vret dX0_pushReduced_119 ⟨rfl, rfl, rfl, by first | rw [fr_p (by omega)] | rw [fr_n (by omega)]⟩
      · refine zt_lload_n dX0_pushReduced_39 rfl ?_
        refine zt_lneg dX0_pushReduced_40 ?_
        refine zt_goto (tgt := 45) dX0_pushReduced_41 (by decide) ?_
        have hA := frA_bd (n := x) (d := y) (B := 2000000000000000000) hx (by omega)
        have hB := frB_bd (n := x) (d := y) (B := 2000000000000000000) hy (by omega)
        have hg := zgcd_pos (x := x) (y := y) (by omega)
        have hg2 := zgcd_le (x := x) (y := y) (by omega)
        refine zt_topv (v := (if y < 0 then -x else x)) (by first | rw [if_pos (by omega)] | rw [if_neg (by omega)]) ?_
        refine zt_lload dX0_pushReduced_45 rfl ?_
        refine zt_ldiv dX0_pushReduced_47 (by split <;> omega) (by omega) (by omega) ?_
        refine zt_topv (v := frA x y) rfl ?_
        refine zt_lstore_7 dX0_pushReduced_48 (by decide) rfl ?_
        refine zt_lload_n dX0_pushReduced_50 rfl ?_
        refine zt_callS1r dX0_pushReduced_51 ml_X0_99 (Nat.le_of_ble_eq_true rfl) (c_labs (by omega)) ?_
        refine zt_lload dX0_pushReduced_54 rfl ?_
        refine zt_ldiv dX0_pushReduced_56 (by omega) (by omega) (by omega) ?_
        refine zt_topv (v := frB x y) rfl ?_
        refine zt_lstore_9 dX0_pushReduced_57 (by decide) rfl ?_
        refine zt_lload dX0_pushReduced_59 rfl ?_
        refine zt_ldc2 dX0_pushReduced_61 kc_X0_106 ?_
        refine zt_lc_lt (tgt := 90) dX0_pushReduced_64 dX0_pushReduced_65 (by decide) (by omega) (by decide) (fun c_64 => ?_) (fun c_64 => ?_)
        · refine zt_iconst dX0_pushReduced_90 ?_
          refine zt_istore_11 dX0_pushReduced_91 (by decide) rfl ?_
          refine zt_aload_n dX0_pushReduced_93 rfl ?_
          refine zt_iload dX0_pushReduced_94 rfl ?_
          refine zt_if_eq (tgt := 104) dX0_pushReduced_96 (by decide) (by decide) (fun c_96 => ?_) (fun q => absurd q (by decide))
          refine zt_lconst (v := 0) dX0_pushReduced_104 rfl ?_
          refine zt_iload dX0_pushReduced_105 rfl ?_
          refine zt_if_eq (tgt := 115) dX0_pushReduced_107 (by decide) (by decide) (fun c_107 => ?_) (fun q => absurd q (by decide))
          refine zt_lconst (v := 0) dX0_pushReduced_115 rfl ?_
          refine zt_callV2v dX0_pushReduced_116 ml_X0_33 (zs_5 hS) (Nat.le_of_ble_eq_true rfl) (c_cpush hS hR (by omega) (by decide) (by decide)) ?_
          exact zt_vret dX0_pushReduced_119 ⟨rfl, rfl, rfl, by first | rw [fr_p (by omega)] | rw [fr_n (by omega)]⟩
        · refine zt_lload dX0_pushReduced_68 rfl ?_
          refine zt_ldc2 dX0_pushReduced_70 kc_X0_108 ?_
          refine zt_lc_gt (tgt := 90) dX0_pushReduced_73 dX0_pushReduced_74 (by decide) (by omega) (by decide) (fun c_73 => ?_) (fun c_73 => ?_)
          · refine zt_iconst dX0_pushReduced_90 ?_
            refine zt_istore_11 dX0_pushReduced_91 (by decide) rfl ?_
            refine zt_aload_n dX0_pushReduced_93 rfl ?_
            refine zt_iload dX0_pushReduced_94 rfl ?_
            refine zt_if_eq (tgt := 104) dX0_pushReduced_96 (by decide) (by decide) (fun c_96 => ?_) (fun q => absurd q (by decide))
            refine zt_lconst (v := 0) dX0_pushReduced_104 rfl ?_
            refine zt_iload dX0_pushReduced_105 rfl ?_
            refine zt_if_eq (tgt := 115) dX0_pushReduced_107 (by decide) (by decide) (fun c_107 => ?_) (fun q => absurd q (by decide))
            refine zt_lconst (v := 0) dX0_pushReduced_115 rfl ?_
            refine zt_callV2v dX0_pushReduced_116 ml_X0_33 (zs_5 hS) (Nat.le_of_ble_eq_true rfl) (c_cpush hS hR (by omega) (by decide) (by decide)) ?_
            exact zt_vret dX0_pushReduced_119 ⟨rfl, rfl, rfl, by first | rw [fr_p (by omega)] | rw [fr_n (by omega)]⟩
          · refine zt_lload dX0_pushReduced_77 rfl ?_
            refine zt_ldc2 dX0_pushReduced_79 kc_X0_108 ?_
            refine zt_lc_gt (tgt := 90) dX0_pushReduced_82 dX0_pushReduced_83 (by decide) (by omega) (by decide) (fun c_82 => ?_) (fun c_82 => ?_)
            · refine zt_iconst dX0_pushReduced_90 ?_
              refine zt_istore_11 dX0_pushReduced_91 (by decide) rfl ?_
              refine zt_aload_n dX0_pushReduced_93 rfl ?_
              refine zt_iload dX0_pushReduced_94 rfl ?_
              refine zt_if_eq (tgt := 104) dX0_pushReduced_96 (by decide) (by decide) (fun c_96 => ?_) (fun q => absurd q (by decide))
              refine zt_lconst (v := 0) dX0_pushReduced_104 rfl ?_
              refine zt_iload dX0_pushReduced_105 rfl ?_
              refine zt_if_eq (tgt := 115) dX0_pushReduced_107 (by decide) (by decide) (fun c_107 => ?_) (fun q => absurd q (by decide))
              refine zt_lconst (v := 0) dX0_pushReduced_115 rfl ?_
              refine zt_callV2v dX0_pushReduced_116 ml_X0_33 (zs_5 hS) (Nat.le_of_ble_eq_true rfl) (c_cpush hS hR (by omega) (by decide) (by decide)) ?_
              exact zt_vret dX0_pushReduced_119 ⟨rfl, rfl, rfl, by first | rw [fr_p (by omega)] | rw [fr_n (by omega)]⟩
            · refine zt_iconst dX0_pushReduced_86 ?_
              refine zt_goto (tgt := 91) dX0_pushReduced_87 (by decide) ?_
              refine zt_istore_11 dX0_pushReduced_91 (by decide) rfl ?_
              refine zt_aload_n dX0_pushReduced_93 rfl ?_
              refine zt_iload dX0_pushReduced_94 rfl ?_
              refine zt_if_eq (tgt := 104) dX0_pushReduced_96 (by decide) (by decide) (fun q => absurd q (by decide)) (fun c_96 => ?_)
              refine zt_lload dX0_pushReduced_99 rfl ?_
              refine zt_goto (tgt := 105) dX0_pushReduced_101 (by decide) ?_
              refine zt_iload dX0_pushReduced_105 rfl ?_
              refine zt_if_eq (tgt := 115) dX0_pushReduced_107 (by decide) (by decide) (fun q => absurd q (by decide)) (fun c_107 => ?_)
              refine zt_lload dX0_pushReduced_110 rfl ?_
              refine zt_goto (tgt := 116) dX0_pushReduced_112 (by decide) ?_
              refine zt_callV2v dX0_pushReduced_116 ml_X0_33 (zs_5 hS) (Nat.le_of_ble_eq_true rfl) (c_cpush hS hR (by omega) (by omega) (by omega)) ?_
              exact zt_vret dX0_pushReduced_119 ⟨rfl, rfl, rfl, by first | rw [fr_p (by omega)] | rw [fr_n (by omega)]⟩
    · refine zt_aload_n dX0_pushReduced_26 rfl ?_
      refine zt_lconst (v := 0) dX0_pushReduced_27 rfl ?_
      refine zt_lconst (v := 0) dX0_pushReduced_28 rfl ?_
      refine zt_callV2v dX0_pushReduced_29 ml_X0_33 (zs_5 hS) (Nat.le_of_ble_eq_true rfl) (c_cpush hS hR (by omega) (by decide) (by decide)) ?_
      exact zt_vret dX0_pushReduced_32 ⟨rfl, rfl, rfl, by first | rw [fr_n (by omega)] | rw [fr_n (fun q => q.1 (zgcd_0r (by omega)))]⟩

def frt (x y : Int) : zFr := if x < 0 ∨ y ≤ 0 then (0, 0) else fr (isq (x * 10000 / y)) 100

set_option maxRecDepth 100000 in
set_option maxHeartbeats 4000000 in
theorem l_rt {d n : Nat} {sh : zSh} {h : zMem} {x y s : Int} (hS : zShp sh) (hR : zRf h) (ht : 0 ≤ h 5 2 ∧ h 5 2 < 64) (hs : 0 ≤ s ∧ s ≤ 10000000000000)  : ∀ (k : Nat) (u : Int) (v : Int) (i : Int), 2 * (v - u) + 1 < 2 ^ k → (0 ≤ i ∧ i + k ≤ 63) → ((0 ≤ u ∧ u ≤ v) ∧ v ≤ 4000000) → u * u ≤ s → s < (v + 1) * (v + 1) → zT yX0_pushRoot cX0_pushRoot 14 none (d + 2) 0 0 (zq none n sh (cPush h (fr (isq s) 100).1 (fr (isq s) 100).2)) 39 [some (2, 5), some (1, x), none, some (1, y), none, some (1, s), none, some (1, u), none, some (1, v), none, some (0, i), none, none] [] n sh h := by
  intro k
  induction k with
  | zero => intro u v i hk hi huv hlo hhi; have e : (2 : Int) ^ 0 = 1 := rfl; omega
  | succ k ih =>
    intro u v i hk hi huv hlo hhi
    rw [Int.pow_succ] at hk
    have e0 : (2 : Int) ^ 0 = 1 := rfl
    refine zt_iload dX0_pushRoot_39 rfl ?_
    refine zt_bipush dX0_pushRoot_41 (by decide) ?_
    refine zt_icmp_ge (tgt := 97) dX0_pushRoot_43 (by decide) (by omega) (by decide) (fun c_43 => ?_) (fun c_43 => ?_)
    · exfalso
      omega
    · refine zt_lload dX0_pushRoot_46 rfl ?_
      refine zt_lload dX0_pushRoot_48 rfl ?_
      refine zt_lc_ge (tgt := 97) dX0_pushRoot_50 dX0_pushRoot_51 (by decide) (by omega) (by omega) (fun c_50 => ?_) (fun c_50 => ?_)
      · have hz : isq s = u := isq_eq (by omega) hlo (by rw [show u = v by omega]; exact hhi)
        refine zt_aload_n dX0_pushRoot_97 rfl ?_
        refine zt_lload dX0_pushRoot_98 rfl ?_
        refine zt_ldc2 dX0_pushRoot_100 kc_X0_97 ?_
        refine zt_callV2v dX0_pushRoot_103 ml_X0_22 (zs_5 hS) (Nat.le_of_ble_eq_true rfl) (c_cpr (x := u) (y := 100) hS hR (by omega) (by omega) (by omega)) ?_
        exact zt_vret dX0_pushRoot_106 ⟨rfl, rfl, rfl, by rw [hz]⟩
      · refine zt_lload dX0_pushRoot_54 rfl ?_
        refine zt_lload dX0_pushRoot_56 rfl ?_
        refine zt_ladd dX0_pushRoot_58 ?_
        refine zt_lconst (v := 1) dX0_pushRoot_59 rfl ?_
        refine zt_ladd dX0_pushRoot_60 ?_
        refine zt_ldc2 dX0_pushRoot_61 kc_X0_95 ?_
        refine zt_ldiv dX0_pushRoot_64 (by omega) (by decide) (by decide) ?_
        obtain ⟨m, hm0⟩ : ∃ m : Int, m = (u + v + 1) / 2 := ⟨_, rfl⟩
        have hmm := zmb (A := 4000001) (B := 4000001) (x := m) (y := m) (by omega) (by omega)
        refine zt_topv (v := m) (by rw [Int.tdiv_eq_ediv_of_nonneg (by omega), hm0]) ?_
        refine zt_lstore_12 dX0_pushRoot_65 (by decide) rfl ?_
        refine zt_lload dX0_pushRoot_67 rfl ?_
        refine zt_lload dX0_pushRoot_69 rfl ?_
        refine zt_lmul dX0_pushRoot_71 ?_
        refine zt_lload dX0_pushRoot_72 rfl ?_
        refine zt_lc_gt (tgt := 85) dX0_pushRoot_74 dX0_pushRoot_75 (by decide) (by omega) (by omega) (fun c_74 => ?_) (fun c_74 => ?_)
        · refine zt_lload dX0_pushRoot_85 rfl ?_
          refine zt_lconst (v := 1) dX0_pushRoot_87 rfl ?_
          refine zt_lsub dX0_pushRoot_88 ?_
          refine zt_lstore_9 dX0_pushRoot_89 (by decide) rfl ?_
          refine zt_iinc_11 dX0_pushRoot_91 (by decide) rfl ?_
          refine zt_goto (tgt := 39) dX0_pushRoot_94 (by decide) ?_
          refine zt_kill_12 ?_
          exact ih u (m - 1) (i + 1) (by rcases zpw k with rfl | ⟨q, hq⟩ <;> omega) (by omega) (by omega) hlo (by rw [Int.sub_add_cancel]; omega)
        · refine zt_lload dX0_pushRoot_78 rfl ?_
          refine zt_lstore_7 dX0_pushRoot_80 (by decide) rfl ?_
          refine zt_goto (tgt := 91) dX0_pushRoot_82 (by decide) ?_
          refine zt_iinc_11 dX0_pushRoot_91 (by decide) rfl ?_
          refine zt_goto (tgt := 39) dX0_pushRoot_94 (by decide) ?_
          refine zt_kill_12 ?_
          exact ih m v (i + 1) (by rcases zpw k with rfl | ⟨q, hq⟩ <;> omega) (by omega) (by omega) c_74 hhi

set_option maxRecDepth 100000 in
set_option maxHeartbeats 4000000 in
theorem c_crt {d n : Nat} {sh : zSh} {h : zMem} {x y : Int} (hS : zShp sh) (hR : zRf h) (ht : 0 ≤ h 5 2 ∧ h 5 2 < 64) (hx : -1000000000 ≤ x ∧ x ≤ 1000000000) (hy : 0 ≤ y ∧ y ≤ 1000000000)  : zF yX0_pushRoot cX0_pushRoot 14 none (d + 2) 0 0 [(2, 5), (1, x), (1, y)] n sh h none n sh (cPush h (frt x y).1 (frt x y).2) := by
  refine zF.ofT (by decide +kernel) [some (2, 5), some (1, x), none, some (1, y), none, none, none, none, none, none, none, none, none, none] rfl (Nat.le_of_ble_eq_true rfl) ?_
  refine zt_rg (fun hm => ?_)
  refine zt_lload_n dX0_pushRoot_0 rfl ?_
  refine zt_lconst (v := 0) dX0_pushRoot_1 rfl ?_
  refine zt_lc_lt (tgt := 12) dX0_pushRoot_2 dX0_pushRoot_3 (by decide) (by omega) (by decide) (fun c_2 => ?_) (fun c_2 => ?_)
  · refine zt_aload_n dX0_pushRoot_12 rfl ?_
    refine zt_lconst (v := 0) dX0_pushRoot_13 rfl ?_
    refine zt_lconst (v := 0) dX0_pushRoot_14 rfl ?_
    refine zt_callV2v dX0_pushRoot_15 ml_X0_33 (zs_5 hS) (Nat.le_of_ble_eq_true rfl) (c_cpush hS hR (by omega) (by omega) (by omega)) ?_
    exact zt_vret dX0_pushRoot_18 ⟨rfl, rfl, rfl, by rw [show frt x y = (0, 0) from if_pos (by omega)]⟩
  · refine zt_lload_n dX0_pushRoot_6 rfl ?_
    refine zt_lconst (v := 0) dX0_pushRoot_7 rfl ?_
    refine zt_lc_gt (tgt := 19) dX0_pushRoot_8 dX0_pushRoot_9 (by decide) (by omega) (by decide) (fun c_8 => ?_) (fun c_8 => ?_)
    · refine zt_lload_n dX0_pushRoot_19 rfl ?_
      refine zt_ldc2 dX0_pushRoot_20 kc_X0_91 ?_
      refine zt_lmul dX0_pushRoot_23 ?_
      refine zt_lload_n dX0_pushRoot_24 rfl ?_
      refine zt_ldiv dX0_pushRoot_25 (by omega) (by omega) (by omega) ?_
      have hq0 : 0 ≤ x * 10000 / y := Int.ediv_nonneg (by omega) (by omega)
      have hq1 : x * 10000 / y ≤ x * 10000 := Int.ediv_le_self _ (by omega)
      refine zt_topv (v := x * 10000 / y) (Int.tdiv_eq_ediv_of_nonneg (by omega)) ?_
      refine zt_lstore_5 dX0_pushRoot_26 (by decide) rfl ?_
      refine zt_lconst (v := 0) dX0_pushRoot_28 rfl ?_
      refine zt_lstore_7 dX0_pushRoot_29 (by decide) rfl ?_
      refine zt_ldc2 dX0_pushRoot_31 kc_X0_93 ?_
      refine zt_lstore_9 dX0_pushRoot_34 (by decide) rfl ?_
      refine zt_iconst dX0_pushRoot_36 ?_
      refine zt_istore_11 dX0_pushRoot_37 (by decide) rfl ?_
      refine zt_mono (fun r n1 sh1 h1 q => ?_) (l_rt hS hR ht (by omega) 24 0 4000000 0 (by decide) (by decide) (by decide) (by omega) (by omega))
      rw [show frt x y = fr (isq (x * 10000 / y)) 100 from if_neg (by omega)]; exact q
    · refine zt_aload_n dX0_pushRoot_12 rfl ?_
      refine zt_lconst (v := 0) dX0_pushRoot_13 rfl ?_
      refine zt_lconst (v := 0) dX0_pushRoot_14 rfl ?_
      refine zt_callV2v dX0_pushRoot_15 ml_X0_33 (zs_5 hS) (Nat.le_of_ble_eq_true rfl) (c_cpush hS hR (by omega) (by omega) (by omega)) ?_
      exact zt_vret dX0_pushRoot_18 ⟨rfl, rfl, rfl, by rw [show frt x y = (0, 0) from if_pos (by omega)]⟩

def fon (b : Int) (f g : zFr) : zFr := if f.2 = 0 ∨ g.2 = 0 then (0, 0) else if b ≠ 0 then f else g

set_option maxRecDepth 100000 in
set_option maxHeartbeats 4000000 in
theorem c_cone {d n : Nat} {sh : zSh} {h : zMem} {b x y u v : Int} (hS : zShp sh) (hR : zRf h) (ht : 0 ≤ h 5 2 ∧ h 5 2 < 64) (hb : zi32 b) (hx : zi64 x) (hy : zi64 y) (hu : zi64 u) (hv : zi64 v) : zF yX0_pushOne cX0_pushOne 10 none (d + 1) 0 0 [(2, 5), (0, b), (1, x), (1, y), (1, u), (1, v)] n sh h none n sh (cPush h (fon b (x, y) (u, v)).1 (fon b (x, y) (u, v)).2) := by
  refine zF.ofT (by decide +kernel) [some (2, 5), some (0, b), some (1, x), none, some (1, y), none, some (1, u), none, some (1, v), none] rfl (Nat.le_of_ble_eq_true rfl) ?_
  refine zt_rg (fun hm => ?_)
  refine zt_lload dX0_pushOne_0 rfl ?_
  refine zt_lconst (v := 0) dX0_pushOne_2 rfl ?_
  refine zt_lc_eq (tgt := 14) dX0_pushOne_3 dX0_pushOne_4 (by decide) (by omega) (by decide) (fun c_3 => ?_) (fun c_3 => ?_)
  · refine zt_aload_n dX0_pushOne_14 rfl ?_
    refine zt_lconst (v := 0) dX0_pushOne_15 rfl ?_
    refine zt_lconst (v := 0) dX0_pushOne_16 rfl ?_
    refine zt_callV2v dX0_pushOne_17 ml_X0_33 (zs_5 hS) (Nat.le_of_ble_eq_true rfl) (c_cpush hS hR (by omega) (by omega) (by omega)) ?_
    refine zt_goto (tgt := 45) dX0_pushOne_20 (by decide) ?_
    exact zt_vret dX0_pushOne_45 ⟨rfl, rfl, rfl, by unfold fon; first | (rw [if_pos (show (x, y).2 = 0 ∨ (u, v).2 = 0 by show y = 0 ∨ v = 0; omega)]) | (rw [if_neg (show ¬ ((x, y).2 = 0 ∨ (u, v).2 = 0) by show ¬ (y = 0 ∨ v = 0); omega)]; first | (rw [if_pos (by omega)]) | (rw [if_neg (by omega)]))⟩
  · refine zt_lload dX0_pushOne_7 rfl ?_
    refine zt_lconst (v := 0) dX0_pushOne_9 rfl ?_
    refine zt_lc_ne (tgt := 23) dX0_pushOne_10 dX0_pushOne_11 (by decide) (by omega) (by decide) (fun c_10 => ?_) (fun c_10 => ?_)
    · refine zt_iload_n dX0_pushOne_23 rfl ?_
      refine zt_if_eq (tgt := 37) dX0_pushOne_24 (by decide) (by omega) (fun c_24 => ?_) (fun c_24 => ?_)
      · refine zt_aload_n dX0_pushOne_37 rfl ?_
        refine zt_lload dX0_pushOne_38 rfl ?_
        refine zt_lload dX0_pushOne_40 rfl ?_
        refine zt_callV2v dX0_pushOne_42 ml_X0_33 (zs_5 hS) (Nat.le_of_ble_eq_true rfl) (c_cpush hS hR (by omega) (by omega) (by omega)) ?_
        exact zt_vret dX0_pushOne_45 ⟨rfl, rfl, rfl, by unfold fon; first | (rw [if_pos (show (x, y).2 = 0 ∨ (u, v).2 = 0 by show y = 0 ∨ v = 0; omega)]) | (rw [if_neg (show ¬ ((x, y).2 = 0 ∨ (u, v).2 = 0) by show ¬ (y = 0 ∨ v = 0); omega)]; first | (rw [if_pos (by omega)]) | (rw [if_neg (by omega)]))⟩
      · refine zt_aload_n dX0_pushOne_27 rfl ?_
        refine zt_lload_n dX0_pushOne_28 rfl ?_
        refine zt_lload dX0_pushOne_29 rfl ?_
        refine zt_callV2v dX0_pushOne_31 ml_X0_33 (zs_5 hS) (Nat.le_of_ble_eq_true rfl) (c_cpush hS hR (by omega) (by omega) (by omega)) ?_
        refine zt_goto (tgt := 45) dX0_pushOne_34 (by decide) ?_
        exact zt_vret dX0_pushOne_45 ⟨rfl, rfl, rfl, by unfold fon; first | (rw [if_pos (show (x, y).2 = 0 ∨ (u, v).2 = 0 by show y = 0 ∨ v = 0; omega)]) | (rw [if_neg (show ¬ ((x, y).2 = 0 ∨ (u, v).2 = 0) by show ¬ (y = 0 ∨ v = 0); omega)]; first | (rw [if_pos (by omega)]) | (rw [if_neg (by omega)]))⟩
    · refine zt_aload_n dX0_pushOne_14 rfl ?_
      refine zt_lconst (v := 0) dX0_pushOne_15 rfl ?_
      refine zt_lconst (v := 0) dX0_pushOne_16 rfl ?_
      refine zt_callV2v dX0_pushOne_17 ml_X0_33 (zs_5 hS) (Nat.le_of_ble_eq_true rfl) (c_cpush hS hR (by omega) (by omega) (by omega)) ?_
      refine zt_goto (tgt := 45) dX0_pushOne_20 (by decide) ?_
      exact zt_vret dX0_pushOne_45 ⟨rfl, rfl, rfl, by unfold fon; first | (rw [if_pos (show (x, y).2 = 0 ∨ (u, v).2 = 0 by show y = 0 ∨ v = 0; omega)]) | (rw [if_neg (show ¬ ((x, y).2 = 0 ∨ (u, v).2 = 0) by show ¬ (y = 0 ∨ v = 0); omega)]; first | (rw [if_pos (by omega)]) | (rw [if_neg (by omega)]))⟩

def f2 (p : Int) (a b : zFr) : zFr :=
  if p = -2 then fr (a.1 * b.2 + b.1 * a.2) (a.2 * b.2) else if p = -3 then fr (a.1 * b.2 - b.1 * a.2) (a.2 * b.2) else if p = -4 then fr (a.1 * b.1) (a.2 * b.2)
  else if p = -5 then fr (a.1 * b.2) (a.2 * b.1) else if p = -9 then fon (zb (a.1 * b.2 ≤ b.1 * a.2)) a b else fon (zb (b.1 * a.2 ≤ a.1 * b.2)) a b
/-- top and second of the stack -/
def cT (h : zMem) : zFr := (h 6 (h 5 2 - 1), h 7 (h 5 2 - 1))

set_option maxRecDepth 100000 in
set_option maxHeartbeats 4000000 in
theorem c_two {d n : Nat} {sh : zSh} {h : zMem} {p x y : Int} (hS : zShp sh) (hR : zRf h) (ht : 0 < h 5 2 ∧ h 5 2 ≤ 64) (hp : zi32 p) (hx : -1000000000 ≤ x ∧ x ≤ 1000000000) (hy : 0 ≤ y ∧ y ≤ 1000000000) (hf : fok (cT h)) : zF yX0_applyToTwo cX0_applyToTwo 10 none (d + 2) 0 0 [(2, 5), (0, p), (1, x), (1, y)] n sh h none n sh (cPush (cDrop h) (f2 p (cT h) (x, y)).1 (f2 p (cT h) (x, y)).2) := by
  refine zF.ofT (by decide +kernel) [some (2, 5), some (0, p), some (1, x), none, some (1, y), none, none, none, none, none] rfl (Nat.le_of_ble_eq_true rfl) ?_
  refine zt_rg (fun hm => ?_)
  refine zt_aload_n dX0_applyToTwo_0 rfl ?_
  refine zt_callV0r dX0_applyToTwo_1 ml_X0_26 (zs_5 hS) (Nat.le_of_ble_eq_true rfl) (c_cnum hS hR (by omega)) ?_
  obtain ⟨n1, hn1⟩ : ∃ n1, n1 = h 6 (h 5 2 - 1) := ⟨_, rfl⟩
  refine zt_topv (v := n1) hn1.symm ?_
  refine zt_lstore_6 dX0_applyToTwo_4 (by decide) rfl ?_
  refine zt_aload_n dX0_applyToTwo_6 rfl ?_
  refine zt_callV0r dX0_applyToTwo_7 ml_X0_30 (zs_5 hS) (Nat.le_of_ble_eq_true rfl) (c_cden hS hR (by omega)) ?_
  obtain ⟨d1, hd1⟩ : ∃ d1, d1 = h 7 (h 5 2 - 1) := ⟨_, rfl⟩
  refine zt_topv (v := d1) hd1.symm ?_
  refine zt_lstore_8 dX0_applyToTwo_10 (by decide) rfl ?_
  refine zt_aload_n dX0_applyToTwo_12 rfl ?_
  refine zt_callV0v dX0_applyToTwo_13 ml_X0_66 (zs_5 hS) (Nat.le_of_ble_eq_true rfl) (c_cdrop hS hR (by omega)) ?_
  have ho1 : (-1000000000 ≤ n1 ∧ n1 ≤ 1000000000) ∧ (0 ≤ d1 ∧ d1 ≤ 1000000000) := by rw [hn1, hd1]; exact ⟨hf.1, hf.2.1⟩
  have m1 := zmb (A := 1000000000) (B := 1000000000) (x := n1) (y := y) (by omega) (by omega)
  have m2 := zmb (A := 1000000000) (B := 1000000000) (x := x) (y := d1) (by omega) (by omega)
  have m3 := zmb (A := 1000000000) (B := 1000000000) (x := d1) (y := y) (by omega) (by omega)
  have m4 := zmb (A := 1000000000) (B := 1000000000) (x := n1) (y := x) (by omega) (by omega)
  have m5 := zmb (A := 1000000000) (B := 1000000000) (x := d1) (y := x) (by omega) (by omega)
  refine zt_iload_n dX0_applyToTwo_16 rfl ?_
  rcases (show p = -9 ∨ p = -8 ∨ p = -7 ∨ p = -6 ∨ p = -5 ∨ p = -4 ∨ p = -3 ∨ p = -2 ∨ (p < -9 ∨ -2 < p) by omega) with e_17 | e_17 | e_17 | e_17 | e_17 | e_17 | e_17 | e_17 | e_17
  · refine zt_tableIn (off := 123) (tgt := 140) dX0_applyToTwo_17 (by omega) (by omega) (by omega) (by rw [e_17]; rfl) (by decide) ?_
    refine zt_aload_n dX0_applyToTwo_140 rfl ?_
    refine zt_lload dX0_applyToTwo_141 rfl ?_
    refine zt_lload dX0_applyToTwo_143 rfl ?_
    refine zt_lmul dX0_applyToTwo_145 ?_
    refine zt_lload_n dX0_applyToTwo_146 rfl ?_
    refine zt_lload dX0_applyToTwo_147 rfl ?_
    refine zt_lmul dX0_applyToTwo_149 ?_
    refine zt_lc_gt (tgt := 158) dX0_applyToTwo_150 dX0_applyToTwo_151 (by decide) (by omega) (by omega) (fun c_150 => ?_) (fun c_150 => ?_)
    · refine zt_iconst dX0_applyToTwo_158 ?_
      refine zt_lload dX0_applyToTwo_159 rfl ?_
      refine zt_lload dX0_applyToTwo_161 rfl ?_
      refine zt_lload_n dX0_applyToTwo_163 rfl ?_
      refine zt_lload dX0_applyToTwo_164 rfl ?_
      refine zt_callV5v dX0_applyToTwo_166 ml_X0_87 (zs_5 hS) (Nat.le_of_ble_eq_true rfl) (c_cone hS (cDrop_rf hR) (by rw [cDrop_t]; omega) (by decide) (by omega) (by omega) (by omega) (by omega)) ?_
      refine zt_goto (tgt := 201) dX0_applyToTwo_169 (by decide) ?_
      exact zt_vret dX0_applyToTwo_201 ⟨rfl, rfl, rfl, by       rw [show cT h = (n1, d1) by unfold cT; rw [hn1, hd1]];       unfold f2;       first         | (rw [if_pos (by omega)]; done)         | (rw [if_neg (by omega), if_pos (by omega)]; done)         | (rw [if_neg (by omega), if_neg (by omega), if_pos (by omega)]; done)         | (rw [if_neg (by omega), if_neg (by omega), if_neg (by omega), if_pos (by omega)]; done)         | (rw [if_neg (by omega), if_neg (by omega), if_neg (by omega), if_neg (by omega), if_pos (by omega), zb_t (by show n1 * y ≤ x * d1; omega)]; done)         | (rw [if_neg (by omega), if_neg (by omega), if_neg (by omega), if_neg (by omega), if_pos (by omega), zb_f (by show ¬ n1 * y ≤ x * d1; omega)]; done)         | (rw [if_neg (by omega), if_neg (by omega), if_neg (by omega), if_neg (by omega), if_neg (by omega), zb_t (by show x * d1 ≤ n1 * y; omega)]; done)         | (rw [if_neg (by omega), if_neg (by omega), if_neg (by omega), if_neg (by omega), if_neg (by omega), zb_f (by show ¬ x * d1 ≤ n1 * y; omega)]; done)⟩
    · refine zt_iconst dX0_applyToTwo_154 ?_
      refine zt_goto (tgt := 159) dX0_applyToTwo_155 (by decide) ?_
      refine zt_lload dX0_applyToTwo_159 rfl ?_
      refine zt_lload dX0_applyToTwo_161 rfl ?_
      refine zt_lload_n dX0_applyToTwo_163 rfl ?_
      refine zt_lload dX0_applyToTwo_164 rfl ?_
      refine zt_callV5v dX0_applyToTwo_166 ml_X0_87 (zs_5 hS) (Nat.le_of_ble_eq_true rfl) (c_cone hS (cDrop_rf hR) (by rw [cDrop_t]; omega) (by decide) (by omega) (by omega) (by omega) (by omega)) ?_
      refine zt_goto (tgt := 201) dX0_applyToTwo_169 (by decide) ?_
      exact zt_vret dX0_applyToTwo_201 ⟨rfl, rfl, rfl, by       rw [show cT h = (n1, d1) by unfold cT; rw [hn1, hd1]];       unfold f2;       first         | (rw [if_pos (by omega)]; done)         | (rw [if_neg (by omega), if_pos (by omega)]; done)         | (rw [if_neg (by omega), if_neg (by omega), if_pos (by omega)]; done)         | (rw [if_neg (by omega), if_neg (by omega), if_neg (by omega), if_pos (by omega)]; done)         | (rw [if_neg (by omega), if_neg (by omega), if_neg (by omega), if_neg (by omega), if_pos (by omega), zb_t (by show n1 * y ≤ x * d1; omega)]; done)         | (rw [if_neg (by omega), if_neg (by omega), if_neg (by omega), if_neg (by omega), if_pos (by omega), zb_f (by show ¬ n1 * y ≤ x * d1; omega)]; done)         | (rw [if_neg (by omega), if_neg (by omega), if_neg (by omega), if_neg (by omega), if_neg (by omega), zb_t (by show x * d1 ≤ n1 * y; omega)]; done)         | (rw [if_neg (by omega), if_neg (by omega), if_neg (by omega), if_neg (by omega), if_neg (by omega), zb_f (by show ¬ x * d1 ≤ n1 * y; omega)]; done)⟩
  · refine zt_tableIn (off := 155) (tgt := 172) dX0_applyToTwo_17 (by omega) (by omega) (by omega) (by rw [e_17]; rfl) (by decide) ?_
    refine zt_aload_n dX0_applyToTwo_172 rfl ?_
    refine zt_lload dX0_applyToTwo_173 rfl ?_
    refine zt_lload dX0_applyToTwo_175 rfl ?_
    refine zt_lmul dX0_applyToTwo_177 ?_
    refine zt_lload_n dX0_applyToTwo_178 rfl ?_
    refine zt_lload dX0_applyToTwo_179 rfl ?_
    refine zt_lmul dX0_applyToTwo_181 ?_
    refine zt_lc_lt (tgt := 190) dX0_applyToTwo_182 dX0_applyToTwo_183 (by decide) (by omega) (by omega) (fun c_182 => ?_) (fun c_182 => ?_)
    · refine zt_iconst dX0_applyToTwo_190 ?_
      refine zt_lload dX0_applyToTwo_191 rfl ?_
      refine zt_lload dX0_applyToTwo_193 rfl ?_
      refine zt_lload_n dX0_applyToTwo_195 rfl ?_
      refine zt_lload dX0_applyToTwo_196 rfl ?_
      refine zt_callV5v dX0_applyToTwo_198 ml_X0_87 (zs_5 hS) (Nat.le_of_ble_eq_true rfl) (c_cone hS (cDrop_rf hR) (by rw [cDrop_t]; omega) (by decide) (by omega) (by omega) (by omega) (by omega)) ?_
      exact zt_vret dX0_applyToTwo_201 ⟨rfl, rfl, rfl, by       rw [show cT h = (n1, d1) by unfold cT; rw [hn1, hd1]];       unfold f2;       first         | (rw [if_pos (by omega)]; done)         | (rw [if_neg (by omega), if_pos (by omega)]; done)         | (rw [if_neg (by omega), if_neg (by omega), if_pos (by omega)]; done)         | (rw [if_neg (by omega), if_neg (by omega), if_neg (by omega), if_pos (by omega)]; done)         | (rw [if_neg (by omega), if_neg (by omega), if_neg (by omega), if_neg (by omega), if_pos (by omega), zb_t (by show n1 * y ≤ x * d1; omega)]; done)         | (rw [if_neg (by omega), if_neg (by omega), if_neg (by omega), if_neg (by omega), if_pos (by omega), zb_f (by show ¬ n1 * y ≤ x * d1; omega)]; done)         | (rw [if_neg (by omega), if_neg (by omega), if_neg (by omega), if_neg (by omega), if_neg (by omega), zb_t (by show x * d1 ≤ n1 * y; omega)]; done)         | (rw [if_neg (by omega), if_neg (by omega), if_neg (by omega), if_neg (by omega), if_neg (by omega), zb_f (by show ¬ x * d1 ≤ n1 * y; omega)]; done)⟩
    · refine zt_iconst dX0_applyToTwo_186 ?_
      refine zt_goto (tgt := 191) dX0_applyToTwo_187 (by decide) ?_
      refine zt_lload dX0_applyToTwo_191 rfl ?_
      refine zt_lload dX0_applyToTwo_193 rfl ?_
      refine zt_lload_n dX0_applyToTwo_195 rfl ?_
      refine zt_lload dX0_applyToTwo_196 rfl ?_
      refine zt_callV5v dX0_applyToTwo_198 ml_X0_87 (zs_5 hS) (Nat.le_of_ble_eq_true rfl) (c_cone hS (cDrop_rf hR) (by rw [cDrop_t]; omega) (by decide) (by omega) (by omega) (by omega) (by omega)) ?_
      exact zt_vret dX0_applyToTwo_201 ⟨rfl, rfl, rfl, by       rw [show cT h = (n1, d1) by unfold cT; rw [hn1, hd1]];       unfold f2;       first         | (rw [if_pos (by omega)]; done)         | (rw [if_neg (by omega), if_pos (by omega)]; done)         | (rw [if_neg (by omega), if_neg (by omega), if_pos (by omega)]; done)         | (rw [if_neg (by omega), if_neg (by omega), if_neg (by omega), if_pos (by omega)]; done)         | (rw [if_neg (by omega), if_neg (by omega), if_neg (by omega), if_neg (by omega), if_pos (by omega), zb_t (by show n1 * y ≤ x * d1; omega)]; done)         | (rw [if_neg (by omega), if_neg (by omega), if_neg (by omega), if_neg (by omega), if_pos (by omega), zb_f (by show ¬ n1 * y ≤ x * d1; omega)]; done)         | (rw [if_neg (by omega), if_neg (by omega), if_neg (by omega), if_neg (by omega), if_neg (by omega), zb_t (by show x * d1 ≤ n1 * y; omega)]; done)         | (rw [if_neg (by omega), if_neg (by omega), if_neg (by omega), if_neg (by omega), if_neg (by omega), zb_f (by show ¬ x * d1 ≤ n1 * y; omega)]; done)⟩
  · refine zt_tableIn (off := 155) (tgt := 172) dX0_applyToTwo_17 (by omega) (by omega) (by omega) (by rw [e_17]; rfl) (by decide) ?_
    refine zt_aload_n dX0_applyToTwo_172 rfl ?_
    refine zt_lload dX0_applyToTwo_173 rfl ?_
    refine zt_lload dX0_applyToTwo_175 rfl ?_
    refine zt_lmul dX0_applyToTwo_177 ?_
    refine zt_lload_n dX0_applyToTwo_178 rfl ?_
    refine zt_lload dX0_applyToTwo_179 rfl ?_
    refine zt_lmul dX0_applyToTwo_181 ?_
    refine zt_lc_lt (tgt := 190) dX0_applyToTwo_182 dX0_applyToTwo_183 (by decide) (by omega) (by omega) (fun c_182 => ?_) (fun c_182 => ?_)
    · refine zt_iconst dX0_applyToTwo_190 ?_
      refine zt_lload dX0_applyToTwo_191 rfl ?_
      refine zt_lload dX0_applyToTwo_193 rfl ?_
      refine zt_lload_n dX0_applyToTwo_195 rfl ?_
      refine zt_lload dX0_applyToTwo_196 rfl ?_
      refine zt_callV5v dX0_applyToTwo_198 ml_X0_87 (zs_5 hS) (Nat.le_of_ble_eq_true rfl) (c_cone hS (cDrop_rf hR) (by rw [cDrop_t]; omega) (by decide) (by omega) (by omega) (by omega) (by omega)) ?_
      exact zt_vret dX0_applyToTwo_201 ⟨rfl, rfl, rfl, by       rw [show cT h = (n1, d1) by unfold cT; rw [hn1, hd1]];       unfold f2;       first         | (rw [if_pos (by omega)]; done)         | (rw [if_neg (by omega), if_pos (by omega)]; done)         | (rw [if_neg (by omega), if_neg (by omega), if_pos (by omega)]; done)         | (rw [if_neg (by omega), if_neg (by omega), if_neg (by omega), if_pos (by omega)]; done)         | (rw [if_neg (by omega), if_neg (by omega), if_neg (by omega), if_neg (by omega), if_pos (by omega), zb_t (by show n1 * y ≤ x * d1; omega)]; done)         | (rw [if_neg (by omega), if_neg (by omega), if_neg (by omega), if_neg (by omega), if_pos (by omega), zb_f (by show ¬ n1 * y ≤ x * d1; omega)]; done)         | (rw [if_neg (by omega), if_neg (by omega), if_neg (by omega), if_neg (by omega), if_neg (by omega), zb_t (by show x * d1 ≤ n1 * y; omega)]; done)         | (rw [if_neg (by omega), if_neg (by omega), if_neg (by omega), if_neg (by omega), if_neg (by omega), zb_f (by show ¬ x * d1 ≤ n1 * y; omega)]; done)⟩
    · refine zt_iconst dX0_applyToTwo_186 ?_
      refine zt_goto (tgt := 191) dX0_applyToTwo_187 (by decide) ?_
      refine zt_lload dX0_applyToTwo_191 rfl ?_
      refine zt_lload dX0_applyToTwo_193 rfl ?_
      refine zt_lload_n dX0_applyToTwo_195 rfl ?_
      refine zt_lload dX0_applyToTwo_196 rfl ?_
      refine zt_callV5v dX0_applyToTwo_198 ml_X0_87 (zs_5 hS) (Nat.le_of_ble_eq_true rfl) (c_cone hS (cDrop_rf hR) (by rw [cDrop_t]; omega) (by decide) (by omega) (by omega) (by omega) (by omega)) ?_
      exact zt_vret dX0_applyToTwo_201 ⟨rfl, rfl, rfl, by       rw [show cT h = (n1, d1) by unfold cT; rw [hn1, hd1]];       unfold f2;       first         | (rw [if_pos (by omega)]; done)         | (rw [if_neg (by omega), if_pos (by omega)]; done)         | (rw [if_neg (by omega), if_neg (by omega), if_pos (by omega)]; done)         | (rw [if_neg (by omega), if_neg (by omega), if_neg (by omega), if_pos (by omega)]; done)         | (rw [if_neg (by omega), if_neg (by omega), if_neg (by omega), if_neg (by omega), if_pos (by omega), zb_t (by show n1 * y ≤ x * d1; omega)]; done)         | (rw [if_neg (by omega), if_neg (by omega), if_neg (by omega), if_neg (by omega), if_pos (by omega), zb_f (by show ¬ n1 * y ≤ x * d1; omega)]; done)         | (rw [if_neg (by omega), if_neg (by omega), if_neg (by omega), if_neg (by omega), if_neg (by omega), zb_t (by show x * d1 ≤ n1 * y; omega)]; done)         | (rw [if_neg (by omega), if_neg (by omega), if_neg (by omega), if_neg (by omega), if_neg (by omega), zb_f (by show ¬ x * d1 ≤ n1 * y; omega)]; done)⟩
  · refine zt_tableIn (off := 155) (tgt := 172) dX0_applyToTwo_17 (by omega) (by omega) (by omega) (by rw [e_17]; rfl) (by decide) ?_
    refine zt_aload_n dX0_applyToTwo_172 rfl ?_
    refine zt_lload dX0_applyToTwo_173 rfl ?_
    refine zt_lload dX0_applyToTwo_175 rfl ?_
    refine zt_lmul dX0_applyToTwo_177 ?_
    refine zt_lload_n dX0_applyToTwo_178 rfl ?_
    refine zt_lload dX0_applyToTwo_179 rfl ?_
    refine zt_lmul dX0_applyToTwo_181 ?_
    refine zt_lc_lt (tgt := 190) dX0_applyToTwo_182 dX0_applyToTwo_183 (by decide) (by omega) (by omega) (fun c_182 => ?_) (fun c_182 => ?_)
    · refine zt_iconst dX0_applyToTwo_190 ?_
      refine zt_lload dX0_applyToTwo_191 rfl ?_
      refine zt_lload dX0_applyToTwo_193 rfl ?_
      refine zt_lload_n dX0_applyToTwo_195 rfl ?_
      refine zt_lload dX0_applyToTwo_196 rfl ?_
      refine zt_callV5v dX0_applyToTwo_198 ml_X0_87 (zs_5 hS) (Nat.le_of_ble_eq_true rfl) (c_cone hS (cDrop_rf hR) (by rw [cDrop_t]; omega) (by decide) (by omega) (by omega) (by omega) (by omega)) ?_
      exact zt_vret dX0_applyToTwo_201 ⟨rfl, rfl, rfl, by       rw [show cT h = (n1, d1) by unfold cT; rw [hn1, hd1]];       unfold f2;       first         | (rw [if_pos (by omega)]; done)         | (rw [if_neg (by omega), if_pos (by omega)]; done)         | (rw [if_neg (by omega), if_neg (by omega), if_pos (by omega)]; done)         | (rw [if_neg (by omega), if_neg (by omega), if_neg (by omega), if_pos (by omega)]; done)         | (rw [if_neg (by omega), if_neg (by omega), if_neg (by omega), if_neg (by omega), if_pos (by omega), zb_t (by show n1 * y ≤ x * d1; omega)]; done)         | (rw [if_neg (by omega), if_neg (by omega), if_neg (by omega), if_neg (by omega), if_pos (by omega), zb_f (by show ¬ n1 * y ≤ x * d1; omega)]; done)         | (rw [if_neg (by omega), if_neg (by omega), if_neg (by omega), if_neg (by omega), if_neg (by omega), zb_t (by show x * d1 ≤ n1 * y; omega)]; done)         | (rw [if_neg (by omega), if_neg (by omega), if_neg (by omega), if_neg (by omega), if_neg (by omega), zb_f (by show ¬ x * d1 ≤ n1 * y; omega)]; done)⟩
    · refine zt_iconst dX0_applyToTwo_186 ?_
      refine zt_goto (tgt := 191) dX0_applyToTwo_187 (by decide) ?_
      refine zt_lload dX0_applyToTwo_191 rfl ?_
      refine zt_lload dX0_applyToTwo_193 rfl ?_
      refine zt_lload_n dX0_applyToTwo_195 rfl ?_
      refine zt_lload dX0_applyToTwo_196 rfl ?_
      refine zt_callV5v dX0_applyToTwo_198 ml_X0_87 (zs_5 hS) (Nat.le_of_ble_eq_true rfl) (c_cone hS (cDrop_rf hR) (by rw [cDrop_t]; omega) (by decide) (by omega) (by omega) (by omega) (by omega)) ?_
      exact zt_vret dX0_applyToTwo_201 ⟨rfl, rfl, rfl, by       rw [show cT h = (n1, d1) by unfold cT; rw [hn1, hd1]];       unfold f2;       first         | (rw [if_pos (by omega)]; done)         | (rw [if_neg (by omega), if_pos (by omega)]; done)         | (rw [if_neg (by omega), if_neg (by omega), if_pos (by omega)]; done)         | (rw [if_neg (by omega), if_neg (by omega), if_neg (by omega), if_pos (by omega)]; done)         | (rw [if_neg (by omega), if_neg (by omega), if_neg (by omega), if_neg (by omega), if_pos (by omega), zb_t (by show n1 * y ≤ x * d1; omega)]; done)         | (rw [if_neg (by omega), if_neg (by omega), if_neg (by omega), if_neg (by omega), if_pos (by omega), zb_f (by show ¬ n1 * y ≤ x * d1; omega)]; done)         | (rw [if_neg (by omega), if_neg (by omega), if_neg (by omega), if_neg (by omega), if_neg (by omega), zb_t (by show x * d1 ≤ n1 * y; omega)]; done)         | (rw [if_neg (by omega), if_neg (by omega), if_neg (by omega), if_neg (by omega), if_neg (by omega), zb_f (by show ¬ x * d1 ≤ n1 * y; omega)]; done)⟩
  · refine zt_tableIn (off := 107) (tgt := 124) dX0_applyToTwo_17 (by omega) (by omega) (by omega) (by rw [e_17]; rfl) (by decide) ?_
    refine zt_aload_n dX0_applyToTwo_124 rfl ?_
    refine zt_lload dX0_applyToTwo_125 rfl ?_
    refine zt_lload dX0_applyToTwo_127 rfl ?_
    refine zt_lmul dX0_applyToTwo_129 ?_
    refine zt_lload dX0_applyToTwo_130 rfl ?_
    refine zt_lload_n dX0_applyToTwo_132 rfl ?_
    refine zt_lmul dX0_applyToTwo_133 ?_
    refine zt_callV2v dX0_applyToTwo_134 ml_X0_22 (zs_5 hS) (Nat.le_of_ble_eq_true rfl) (c_cpr (x := n1 * y) (y := d1 * x) hS (cDrop_rf hR) (by rw [cDrop_t]; omega) (by omega) (by omega)) ?_
    refine zt_goto (tgt := 201) dX0_applyToTwo_137 (by decide) ?_
    exact zt_vret dX0_applyToTwo_201 ⟨rfl, rfl, rfl, by       rw [show cT h = (n1, d1) by unfold cT; rw [hn1, hd1]];       unfold f2;       first         | (rw [if_pos (by omega)]; done)         | (rw [if_neg (by omega), if_pos (by omega)]; done)         | (rw [if_neg (by omega), if_neg (by omega), if_pos (by omega)]; done)         | (rw [if_neg (by omega), if_neg (by omega), if_neg (by omega), if_pos (by omega)]; done)         | (rw [if_neg (by omega), if_neg (by omega), if_neg (by omega), if_neg (by omega), if_pos (by omega), zb_t (by show n1 * y ≤ x * d1; omega)]; done)         | (rw [if_neg (by omega), if_neg (by omega), if_neg (by omega), if_neg (by omega), if_pos (by omega), zb_f (by show ¬ n1 * y ≤ x * d1; omega)]; done)         | (rw [if_neg (by omega), if_neg (by omega), if_neg (by omega), if_neg (by omega), if_neg (by omega), zb_t (by show x * d1 ≤ n1 * y; omega)]; done)         | (rw [if_neg (by omega), if_neg (by omega), if_neg (by omega), if_neg (by omega), if_neg (by omega), zb_f (by show ¬ x * d1 ≤ n1 * y; omega)]; done)⟩
  · refine zt_tableIn (off := 91) (tgt := 108) dX0_applyToTwo_17 (by omega) (by omega) (by omega) (by rw [e_17]; rfl) (by decide) ?_
    refine zt_aload_n dX0_applyToTwo_108 rfl ?_
    refine zt_lload dX0_applyToTwo_109 rfl ?_
    refine zt_lload_n dX0_applyToTwo_111 rfl ?_
    refine zt_lmul dX0_applyToTwo_112 ?_
    refine zt_lload dX0_applyToTwo_113 rfl ?_
    refine zt_lload dX0_applyToTwo_115 rfl ?_
    refine zt_lmul dX0_applyToTwo_117 ?_
    refine zt_callV2v dX0_applyToTwo_118 ml_X0_22 (zs_5 hS) (Nat.le_of_ble_eq_true rfl) (c_cpr (x := n1 * x) (y := d1 * y) hS (cDrop_rf hR) (by rw [cDrop_t]; omega) (by omega) (by omega)) ?_
    refine zt_goto (tgt := 201) dX0_applyToTwo_121 (by decide) ?_
    exact zt_vret dX0_applyToTwo_201 ⟨rfl, rfl, rfl, by       rw [show cT h = (n1, d1) by unfold cT; rw [hn1, hd1]];       unfold f2;       first         | (rw [if_pos (by omega)]; done)         | (rw [if_neg (by omega), if_pos (by omega)]; done)         | (rw [if_neg (by omega), if_neg (by omega), if_pos (by omega)]; done)         | (rw [if_neg (by omega), if_neg (by omega), if_neg (by omega), if_pos (by omega)]; done)         | (rw [if_neg (by omega), if_neg (by omega), if_neg (by omega), if_neg (by omega), if_pos (by omega), zb_t (by show n1 * y ≤ x * d1; omega)]; done)         | (rw [if_neg (by omega), if_neg (by omega), if_neg (by omega), if_neg (by omega), if_pos (by omega), zb_f (by show ¬ n1 * y ≤ x * d1; omega)]; done)         | (rw [if_neg (by omega), if_neg (by omega), if_neg (by omega), if_neg (by omega), if_neg (by omega), zb_t (by show x * d1 ≤ n1 * y; omega)]; done)         | (rw [if_neg (by omega), if_neg (by omega), if_neg (by omega), if_neg (by omega), if_neg (by omega), zb_f (by show ¬ x * d1 ≤ n1 * y; omega)]; done)⟩
  · refine zt_tableIn (off := 69) (tgt := 86) dX0_applyToTwo_17 (by omega) (by omega) (by omega) (by rw [e_17]; rfl) (by decide) ?_
    refine zt_aload_n dX0_applyToTwo_86 rfl ?_
    refine zt_lload dX0_applyToTwo_87 rfl ?_
    refine zt_lload dX0_applyToTwo_89 rfl ?_
    refine zt_lmul dX0_applyToTwo_91 ?_
    refine zt_lload_n dX0_applyToTwo_92 rfl ?_
    refine zt_lload dX0_applyToTwo_93 rfl ?_
    refine zt_lmul dX0_applyToTwo_95 ?_
    refine zt_lsub dX0_applyToTwo_96 ?_
    refine zt_lload dX0_applyToTwo_97 rfl ?_
    refine zt_lload dX0_applyToTwo_99 rfl ?_
    refine zt_lmul dX0_applyToTwo_101 ?_
    refine zt_callV2v dX0_applyToTwo_102 ml_X0_22 (zs_5 hS) (Nat.le_of_ble_eq_true rfl) (c_cpr (x := (n1 * y) - (x * d1)) (y := d1 * y) hS (cDrop_rf hR) (by rw [cDrop_t]; omega) (by omega) (by omega)) ?_
    refine zt_goto (tgt := 201) dX0_applyToTwo_105 (by decide) ?_
    exact zt_vret dX0_applyToTwo_201 ⟨rfl, rfl, rfl, by       rw [show cT h = (n1, d1) by unfold cT; rw [hn1, hd1]];       unfold f2;       first         | (rw [if_pos (by omega)]; done)         | (rw [if_neg (by omega), if_pos (by omega)]; done)         | (rw [if_neg (by omega), if_neg (by omega), if_pos (by omega)]; done)         | (rw [if_neg (by omega), if_neg (by omega), if_neg (by omega), if_pos (by omega)]; done)         | (rw [if_neg (by omega), if_neg (by omega), if_neg (by omega), if_neg (by omega), if_pos (by omega), zb_t (by show n1 * y ≤ x * d1; omega)]; done)         | (rw [if_neg (by omega), if_neg (by omega), if_neg (by omega), if_neg (by omega), if_pos (by omega), zb_f (by show ¬ n1 * y ≤ x * d1; omega)]; done)         | (rw [if_neg (by omega), if_neg (by omega), if_neg (by omega), if_neg (by omega), if_neg (by omega), zb_t (by show x * d1 ≤ n1 * y; omega)]; done)         | (rw [if_neg (by omega), if_neg (by omega), if_neg (by omega), if_neg (by omega), if_neg (by omega), zb_f (by show ¬ x * d1 ≤ n1 * y; omega)]; done)⟩
  · refine zt_tableIn (off := 47) (tgt := 64) dX0_applyToTwo_17 (by omega) (by omega) (by omega) (by rw [e_17]; rfl) (by decide) ?_
    refine zt_aload_n dX0_applyToTwo_64 rfl ?_
    refine zt_lload dX0_applyToTwo_65 rfl ?_
    refine zt_lload dX0_applyToTwo_67 rfl ?_
    refine zt_lmul dX0_applyToTwo_69 ?_
    refine zt_lload_n dX0_applyToTwo_70 rfl ?_
    refine zt_lload dX0_applyToTwo_71 rfl ?_
    refine zt_lmul dX0_applyToTwo_73 ?_
    refine zt_ladd dX0_applyToTwo_74 ?_
    refine zt_lload dX0_applyToTwo_75 rfl ?_
    refine zt_lload dX0_applyToTwo_77 rfl ?_
    refine zt_lmul dX0_applyToTwo_79 ?_
    refine zt_callV2v dX0_applyToTwo_80 ml_X0_22 (zs_5 hS) (Nat.le_of_ble_eq_true rfl) (c_cpr (x := (n1 * y) + (x * d1)) (y := d1 * y) hS (cDrop_rf hR) (by rw [cDrop_t]; omega) (by omega) (by omega)) ?_
    refine zt_goto (tgt := 201) dX0_applyToTwo_83 (by decide) ?_
    exact zt_vret dX0_applyToTwo_201 ⟨rfl, rfl, rfl, by       rw [show cT h = (n1, d1) by unfold cT; rw [hn1, hd1]];       unfold f2;       first         | (rw [if_pos (by omega)]; done)         | (rw [if_neg (by omega), if_pos (by omega)]; done)         | (rw [if_neg (by omega), if_neg (by omega), if_pos (by omega)]; done)         | (rw [if_neg (by omega), if_neg (by omega), if_neg (by omega), if_pos (by omega)]; done)         | (rw [if_neg (by omega), if_neg (by omega), if_neg (by omega), if_neg (by omega), if_pos (by omega), zb_t (by show n1 * y ≤ x * d1; omega)]; done)         | (rw [if_neg (by omega), if_neg (by omega), if_neg (by omega), if_neg (by omega), if_pos (by omega), zb_f (by show ¬ n1 * y ≤ x * d1; omega)]; done)         | (rw [if_neg (by omega), if_neg (by omega), if_neg (by omega), if_neg (by omega), if_neg (by omega), zb_t (by show x * d1 ≤ n1 * y; omega)]; done)         | (rw [if_neg (by omega), if_neg (by omega), if_neg (by omega), if_neg (by omega), if_neg (by omega), zb_f (by show ¬ x * d1 ≤ n1 * y; omega)]; done)⟩
  · refine zt_tableOut (tgt := 172) dX0_applyToTwo_17 (by omega) e_17 (by decide) ?_
    refine zt_aload_n dX0_applyToTwo_172 rfl ?_
    refine zt_lload dX0_applyToTwo_173 rfl ?_
    refine zt_lload dX0_applyToTwo_175 rfl ?_
    refine zt_lmul dX0_applyToTwo_177 ?_
    refine zt_lload_n dX0_applyToTwo_178 rfl ?_
    refine zt_lload dX0_applyToTwo_179 rfl ?_
    refine zt_lmul dX0_applyToTwo_181 ?_
    refine zt_lc_lt (tgt := 190) dX0_applyToTwo_182 dX0_applyToTwo_183 (by decide) (by omega) (by omega) (fun c_182 => ?_) (fun c_182 => ?_)
    · refine zt_iconst dX0_applyToTwo_190 ?_
      refine zt_lload dX0_applyToTwo_191 rfl ?_
      refine zt_lload dX0_applyToTwo_193 rfl ?_
      refine zt_lload_n dX0_applyToTwo_195 rfl ?_
      refine zt_lload dX0_applyToTwo_196 rfl ?_
      refine zt_callV5v dX0_applyToTwo_198 ml_X0_87 (zs_5 hS) (Nat.le_of_ble_eq_true rfl) (c_cone hS (cDrop_rf hR) (by rw [cDrop_t]; omega) (by decide) (by omega) (by omega) (by omega) (by omega)) ?_
      exact zt_vret dX0_applyToTwo_201 ⟨rfl, rfl, rfl, by       rw [show cT h = (n1, d1) by unfold cT; rw [hn1, hd1]];       unfold f2;       first         | (rw [if_pos (by omega)]; done)         | (rw [if_neg (by omega), if_pos (by omega)]; done)         | (rw [if_neg (by omega), if_neg (by omega), if_pos (by omega)]; done)         | (rw [if_neg (by omega), if_neg (by omega), if_neg (by omega), if_pos (by omega)]; done)         | (rw [if_neg (by omega), if_neg (by omega), if_neg (by omega), if_neg (by omega), if_pos (by omega), zb_t (by show n1 * y ≤ x * d1; omega)]; done)         | (rw [if_neg (by omega), if_neg (by omega), if_neg (by omega), if_neg (by omega), if_pos (by omega), zb_f (by show ¬ n1 * y ≤ x * d1; omega)]; done)         | (rw [if_neg (by omega), if_neg (by omega), if_neg (by omega), if_neg (by omega), if_neg (by omega), zb_t (by show x * d1 ≤ n1 * y; omega)]; done)         | (rw [if_neg (by omega), if_neg (by omega), if_neg (by omega), if_neg (by omega), if_neg (by omega), zb_f (by show ¬ x * d1 ≤ n1 * y; omega)]; done)⟩
    · refine zt_iconst dX0_applyToTwo_186 ?_
      refine zt_goto (tgt := 191) dX0_applyToTwo_187 (by decide) ?_
      refine zt_lload dX0_applyToTwo_191 rfl ?_
      refine zt_lload dX0_applyToTwo_193 rfl ?_
      refine zt_lload_n dX0_applyToTwo_195 rfl ?_
      refine zt_lload dX0_applyToTwo_196 rfl ?_
      refine zt_callV5v dX0_applyToTwo_198 ml_X0_87 (zs_5 hS) (Nat.le_of_ble_eq_true rfl) (c_cone hS (cDrop_rf hR) (by rw [cDrop_t]; omega) (by decide) (by omega) (by omega) (by omega) (by omega)) ?_
      exact zt_vret dX0_applyToTwo_201 ⟨rfl, rfl, rfl, by       rw [show cT h = (n1, d1) by unfold cT; rw [hn1, hd1]];       unfold f2;       first         | (rw [if_pos (by omega)]; done)         | (rw [if_neg (by omega), if_pos (by omega)]; done)         | (rw [if_neg (by omega), if_neg (by omega), if_pos (by omega)]; done)         | (rw [if_neg (by omega), if_neg (by omega), if_neg (by omega), if_pos (by omega)]; done)         | (rw [if_neg (by omega), if_neg (by omega), if_neg (by omega), if_neg (by omega), if_pos (by omega), zb_t (by show n1 * y ≤ x * d1; omega)]; done)         | (rw [if_neg (by omega), if_neg (by omega), if_neg (by omega), if_neg (by omega), if_pos (by omega), zb_f (by show ¬ n1 * y ≤ x * d1; omega)]; done)         | (rw [if_neg (by omega), if_neg (by omega), if_neg (by omega), if_neg (by omega), if_neg (by omega), zb_t (by show x * d1 ≤ n1 * y; omega)]; done)         | (rw [if_neg (by omega), if_neg (by omega), if_neg (by omega), if_neg (by omega), if_neg (by omega), zb_f (by show ¬ x * d1 ≤ n1 * y; omega)]; done)⟩
