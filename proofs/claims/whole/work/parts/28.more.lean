section zMore
variable {y : MethodName} {cc : ByteArray} {mL : Nat} {rt : Option FieldType} {d kc ks : Nat} {Q : Option zV → Nat → zSh → zMem → Prop} {pc : Nat} {ls : List (Option zV)} {st : List zV} {n : Nat} {sh : zSh} {h : zMem}
def zb (P : Prop) [Decidable P] : Int := if P then 1 else 0
theorem zb_or (P : Prop) [Decidable P] : zb P = 0 ∨ zb P = 1 := by unfold zb; split <;> simp
theorem zb_in (P : Prop) [Decidable P] : zi32 (zb P) := by rcases zb_or P with e | e <;> rw [e] <;> decide
theorem zb_t {P : Prop} [Decidable P] (hp : P) : zb P = 1 := if_pos hp
theorem zb_f {P : Prop} [Decidable P] (hp : ¬ P) : zb P = 0 := if_neg hp
theorem zb1 {P : Prop} [Decidable P] {t : Nat} (hp : P) : (some (t, (1 : Int)) : Option zV) = some (t, zb P) := by rw [zb_t hp]
theorem zb0 {P : Prop} [Decidable P] {t : Nat} (hp : ¬ P) : (some (t, (0 : Int)) : Option zV) = some (t, zb P) := by rw [zb_f hp]
theorem zb_eq {P R : Prop} [Decidable P] [Decidable R] (e : P ↔ R) : zb P = zb R := by
  by_cases hp : P
  · rw [zb_t hp, zb_t (e.mp hp)]
  · rw [zb_f hp, zb_f (fun q => hp (e.mpr q))]
theorem zt_ifb_eq {P : Prop} [Decidable P] {off : Int} {tgt : Nat} (hd : decode cc pc = .ok (.ifCond .eq off, 3)) (ht : (pc : Int) + off = (tgt : Int)) (k1 : ¬ P → zT y cc mL rt d kc ks Q tgt ls st n sh h) (k2 : P → zT y cc mL rt d kc ks Q (pc + 3) ls st n sh h) : zT y cc mL rt d kc ks Q pc ls ((0, zb P) :: st) n sh h :=
  zt_if_eq hd ht (zb_in P) (fun e => k1 (fun hp => by rw [zb_t hp] at e; exact absurd e (by decide))) (fun e => k2 (Classical.byContradiction fun hp => e (zb_f hp)))
theorem zt_ifb_ne {P : Prop} [Decidable P] {off : Int} {tgt : Nat} (hd : decode cc pc = .ok (.ifCond .ne off, 3)) (ht : (pc : Int) + off = (tgt : Int)) (k1 : P → zT y cc mL rt d kc ks Q tgt ls st n sh h) (k2 : ¬ P → zT y cc mL rt d kc ks Q (pc + 3) ls st n sh h) : zT y cc mL rt d kc ks Q pc ls ((0, zb P) :: st) n sh h :=
  zt_if_ne hd ht (zb_in P) (fun e => k1 (Classical.byContradiction fun hp => e (zb_f hp))) (fun e => k2 (fun hp => by rw [zb_t hp] at e; exact absurd e (by decide)))
theorem zt_alenv {a v : Int} {kd N0 : Nat} (hd : decode cc pc = .ok (.arraylength, 1)) (hs : sh a = (kd, N0)) (h1 : 100 ≤ kd) (h2 : kd < 106) (hv : (N0 : Int) = v) (k : zT y cc mL rt d kc ks Q (pc + 1) ls ((0, v) :: st) n sh h) : zT y cc mL rt d kc ks Q pc ls ((2, a) :: st) n sh h := zt_alen hd hs h1 h2 (by rw [hv]; exact k)
theorem zt_baloadv {a i v : Int} {N0 : Nat} (hd : decode cc pc = .ok (.baload, 1)) (hs : sh a = (102, N0)) (hN : N0 < 2147483648) (h0 : 0 ≤ i) (h1 : i < N0) (hv : h a i = v) (k : zT y cc mL rt d kc ks Q (pc + 1) ls ((0, v) :: st) n sh h) : zT y cc mL rt d kc ks Q pc ls ((0, i) :: (2, a) :: st) n sh h := zt_baload hd hs hN h0 h1 (by rw [hv]; exact k)
theorem zt_zaloadv {a i v : Int} {N0 : Nat} (hd : decode cc pc = .ok (.baload, 1)) (hs : sh a = (103, N0)) (hN : N0 < 2147483648) (h0 : 0 ≤ i) (h1 : i < N0) (hv : h a i = v) (k : zT y cc mL rt d kc ks Q (pc + 1) ls ((0, v) :: st) n sh h) : zT y cc mL rt d kc ks Q pc ls ((0, i) :: (2, a) :: st) n sh h := zt_zaload hd hs hN h0 h1 (by rw [hv]; exact k)
/-- the memory's ranges, as facts of the place -/
def zMok (sh : zSh) (h : zMem) : Prop := ∀ (a : Int) (j : Nat), (sh a).1 < 106 → j < (sh a).2 → if (sh a).1 < 100 then zok (zft (sh a).1 j) (h a j) else zok (zak (sh a).1) (h a j)
theorem zt_rg (k : zMok sh h → zT y cc mL rt d kc ks Q pc ls st n sh h) : zT y cc mL rt d kc ks Q pc ls st n sh h := zt_rng k
theorem zMok.int {a j : Int} {N : Nat} (hm : zMok sh h) (hs : sh a = (100, N)) (h0 : 0 ≤ j) (h1 : j < N) : zi32 (h a j) := by
  have := hm a j.toNat (by rw [hs]; show 100 < 106; decide) (by rw [hs]; show j.toNat < N; omega)
  rw [hs, if_neg (show ¬ (100, N).1 < 100 by show ¬ 100 < 100; decide), Int.toNat_of_nonneg h0] at this
  exact this
theorem zMok.long {a j : Int} {N : Nat} (hm : zMok sh h) (hs : sh a = (101, N)) (h0 : 0 ≤ j) (h1 : j < N) : zi64 (h a j) := by
  have := hm a j.toNat (by rw [hs]; show 101 < 106; decide) (by rw [hs]; show j.toNat < N; omega)
  rw [hs, if_neg (show ¬ (101, N).1 < 100 by show ¬ 101 < 100; decide), Int.toNat_of_nonneg h0] at this
  exact this
theorem zMok.byte {a j : Int} {N : Nat} (hm : zMok sh h) (hs : sh a = (102, N)) (h0 : 0 ≤ j) (h1 : j < N) : -128 ≤ h a j ∧ h a j ≤ 127 := by
  have := hm a j.toNat (by rw [hs]; show 102 < 106; decide) (by rw [hs]; show j.toNat < N; omega)
  rw [hs, if_neg (show ¬ (102, N).1 < 100 by show ¬ 102 < 100; decide), Int.toNat_of_nonneg h0] at this
  exact this
theorem zMok.bool {a j : Int} {N : Nat} (hm : zMok sh h) (hs : sh a = (103, N)) (h0 : 0 ≤ j) (h1 : j < N) : h a j = 0 ∨ h a j = 1 := by
  have := hm a j.toNat (by rw [hs]; show 103 < 106; decide) (by rw [hs]; show j.toNat < N; omega)
  rw [hs, if_neg (show ¬ (103, N).1 < 100 by show ¬ 103 < 100; decide), Int.toNat_of_nonneg h0] at this
  exact this
theorem zMok.fld {a j : Int} {c N : Nat} (hm : zMok sh h) (hs : sh a = (c, N)) (hc : c < 100) (h0 : 0 ≤ j) (h1 : j < N) : zok (zft c j.toNat) (h a j) := by
  have := hm a j.toNat (by rw [hs]; show c < 106; omega) (by rw [hs]; show j.toNat < N; omega)
  rw [hs, if_pos hc, Int.toNat_of_nonneg h0] at this
  exact this
end zMore
section zMore2
variable {y : MethodName} {cc : ByteArray} {mL : Nat} {rt : Option FieldType} {d kc ks : Nat} {Q : Option zV → Nat → zSh → zMem → Prop} {pc : Nat} {st : List zV} {n : Nat} {sh : zSh} {h : zMem}
theorem zt_iincv_0 {r : List (Option zV)} {x z v : Int} (hd : decode cc pc = .ok (.iinc 0 z, 3)) (hm : 0 < mL) (hv : x + z = v) (k : zT y cc mL rt d kc ks Q (pc + 3) (some (0, v) :: r) st n sh h) : zT y cc mL rt d kc ks Q pc (some (0, x) :: r) st n sh h := zt_iinc_0 hd hm (by rw [hv]; exact k)
theorem zt_iincv_1 {a0 : Option zV} {r : List (Option zV)} {x z v : Int} (hd : decode cc pc = .ok (.iinc 1 z, 3)) (hm : 1 < mL) (hn : zn2 (some a0) = true) (hv : x + z = v) (k : zT y cc mL rt d kc ks Q (pc + 3) (a0 :: some (0, v) :: r) st n sh h) : zT y cc mL rt d kc ks Q pc (a0 :: some (0, x) :: r) st n sh h := zt_iinc_1 hd hm hn (by rw [hv]; exact k)
theorem zt_iincv_2 {a0 a1 : Option zV} {r : List (Option zV)} {x z v : Int} (hd : decode cc pc = .ok (.iinc 2 z, 3)) (hm : 2 < mL) (hn : zn2 (some a1) = true) (hv : x + z = v) (k : zT y cc mL rt d kc ks Q (pc + 3) (a0 :: a1 :: some (0, v) :: r) st n sh h) : zT y cc mL rt d kc ks Q pc (a0 :: a1 :: some (0, x) :: r) st n sh h := zt_iinc_2 hd hm hn (by rw [hv]; exact k)
theorem zt_iincv_3 {a0 a1 a2 : Option zV} {r : List (Option zV)} {x z v : Int} (hd : decode cc pc = .ok (.iinc 3 z, 3)) (hm : 3 < mL) (hn : zn2 (some a2) = true) (hv : x + z = v) (k : zT y cc mL rt d kc ks Q (pc + 3) (a0 :: a1 :: a2 :: some (0, v) :: r) st n sh h) : zT y cc mL rt d kc ks Q pc (a0 :: a1 :: a2 :: some (0, x) :: r) st n sh h := zt_iinc_3 hd hm hn (by rw [hv]; exact k)
theorem zt_iincv_4 {a0 a1 a2 a3 : Option zV} {r : List (Option zV)} {x z v : Int} (hd : decode cc pc = .ok (.iinc 4 z, 3)) (hm : 4 < mL) (hn : zn2 (some a3) = true) (hv : x + z = v) (k : zT y cc mL rt d kc ks Q (pc + 3) (a0 :: a1 :: a2 :: a3 :: some (0, v) :: r) st n sh h) : zT y cc mL rt d kc ks Q pc (a0 :: a1 :: a2 :: a3 :: some (0, x) :: r) st n sh h := zt_iinc_4 hd hm hn (by rw [hv]; exact k)
theorem zt_iincv_5 {a0 a1 a2 a3 a4 : Option zV} {r : List (Option zV)} {x z v : Int} (hd : decode cc pc = .ok (.iinc 5 z, 3)) (hm : 5 < mL) (hn : zn2 (some a4) = true) (hv : x + z = v) (k : zT y cc mL rt d kc ks Q (pc + 3) (a0 :: a1 :: a2 :: a3 :: a4 :: some (0, v) :: r) st n sh h) : zT y cc mL rt d kc ks Q pc (a0 :: a1 :: a2 :: a3 :: a4 :: some (0, x) :: r) st n sh h := zt_iinc_5 hd hm hn (by rw [hv]; exact k)
theorem zt_iincv_6 {a0 a1 a2 a3 a4 a5 : Option zV} {r : List (Option zV)} {x z v : Int} (hd : decode cc pc = .ok (.iinc 6 z, 3)) (hm : 6 < mL) (hn : zn2 (some a5) = true) (hv : x + z = v) (k : zT y cc mL rt d kc ks Q (pc + 3) (a0 :: a1 :: a2 :: a3 :: a4 :: a5 :: some (0, v) :: r) st n sh h) : zT y cc mL rt d kc ks Q pc (a0 :: a1 :: a2 :: a3 :: a4 :: a5 :: some (0, x) :: r) st n sh h := zt_iinc_6 hd hm hn (by rw [hv]; exact k)
theorem zt_iincv_7 {a0 a1 a2 a3 a4 a5 a6 : Option zV} {r : List (Option zV)} {x z v : Int} (hd : decode cc pc = .ok (.iinc 7 z, 3)) (hm : 7 < mL) (hn : zn2 (some a6) = true) (hv : x + z = v) (k : zT y cc mL rt d kc ks Q (pc + 3) (a0 :: a1 :: a2 :: a3 :: a4 :: a5 :: a6 :: some (0, v) :: r) st n sh h) : zT y cc mL rt d kc ks Q pc (a0 :: a1 :: a2 :: a3 :: a4 :: a5 :: a6 :: some (0, x) :: r) st n sh h := zt_iinc_7 hd hm hn (by rw [hv]; exact k)
theorem zt_iincv_8 {a0 a1 a2 a3 a4 a5 a6 a7 : Option zV} {r : List (Option zV)} {x z v : Int} (hd : decode cc pc = .ok (.iinc 8 z, 3)) (hm : 8 < mL) (hn : zn2 (some a7) = true) (hv : x + z = v) (k : zT y cc mL rt d kc ks Q (pc + 3) (a0 :: a1 :: a2 :: a3 :: a4 :: a5 :: a6 :: a7 :: some (0, v) :: r) st n sh h) : zT y cc mL rt d kc ks Q pc (a0 :: a1 :: a2 :: a3 :: a4 :: a5 :: a6 :: a7 :: some (0, x) :: r) st n sh h := zt_iinc_8 hd hm hn (by rw [hv]; exact k)
theorem zt_iincv_9 {a0 a1 a2 a3 a4 a5 a6 a7 a8 : Option zV} {r : List (Option zV)} {x z v : Int} (hd : decode cc pc = .ok (.iinc 9 z, 3)) (hm : 9 < mL) (hn : zn2 (some a8) = true) (hv : x + z = v) (k : zT y cc mL rt d kc ks Q (pc + 3) (a0 :: a1 :: a2 :: a3 :: a4 :: a5 :: a6 :: a7 :: a8 :: some (0, v) :: r) st n sh h) : zT y cc mL rt d kc ks Q pc (a0 :: a1 :: a2 :: a3 :: a4 :: a5 :: a6 :: a7 :: a8 :: some (0, x) :: r) st n sh h := zt_iinc_9 hd hm hn (by rw [hv]; exact k)
theorem zt_iincv_10 {a0 a1 a2 a3 a4 a5 a6 a7 a8 a9 : Option zV} {r : List (Option zV)} {x z v : Int} (hd : decode cc pc = .ok (.iinc 10 z, 3)) (hm : 10 < mL) (hn : zn2 (some a9) = true) (hv : x + z = v) (k : zT y cc mL rt d kc ks Q (pc + 3) (a0 :: a1 :: a2 :: a3 :: a4 :: a5 :: a6 :: a7 :: a8 :: a9 :: some (0, v) :: r) st n sh h) : zT y cc mL rt d kc ks Q pc (a0 :: a1 :: a2 :: a3 :: a4 :: a5 :: a6 :: a7 :: a8 :: a9 :: some (0, x) :: r) st n sh h := zt_iinc_10 hd hm hn (by rw [hv]; exact k)
theorem zt_iincv_11 {a0 a1 a2 a3 a4 a5 a6 a7 a8 a9 a10 : Option zV} {r : List (Option zV)} {x z v : Int} (hd : decode cc pc = .ok (.iinc 11 z, 3)) (hm : 11 < mL) (hn : zn2 (some a10) = true) (hv : x + z = v) (k : zT y cc mL rt d kc ks Q (pc + 3) (a0 :: a1 :: a2 :: a3 :: a4 :: a5 :: a6 :: a7 :: a8 :: a9 :: a10 :: some (0, v) :: r) st n sh h) : zT y cc mL rt d kc ks Q pc (a0 :: a1 :: a2 :: a3 :: a4 :: a5 :: a6 :: a7 :: a8 :: a9 :: a10 :: some (0, x) :: r) st n sh h := zt_iinc_11 hd hm hn (by rw [hv]; exact k)
theorem zt_iincv_12 {a0 a1 a2 a3 a4 a5 a6 a7 a8 a9 a10 a11 : Option zV} {r : List (Option zV)} {x z v : Int} (hd : decode cc pc = .ok (.iinc 12 z, 3)) (hm : 12 < mL) (hn : zn2 (some a11) = true) (hv : x + z = v) (k : zT y cc mL rt d kc ks Q (pc + 3) (a0 :: a1 :: a2 :: a3 :: a4 :: a5 :: a6 :: a7 :: a8 :: a9 :: a10 :: a11 :: some (0, v) :: r) st n sh h) : zT y cc mL rt d kc ks Q pc (a0 :: a1 :: a2 :: a3 :: a4 :: a5 :: a6 :: a7 :: a8 :: a9 :: a10 :: a11 :: some (0, x) :: r) st n sh h := zt_iinc_12 hd hm hn (by rw [hv]; exact k)
theorem zt_iincv_13 {a0 a1 a2 a3 a4 a5 a6 a7 a8 a9 a10 a11 a12 : Option zV} {r : List (Option zV)} {x z v : Int} (hd : decode cc pc = .ok (.iinc 13 z, 3)) (hm : 13 < mL) (hn : zn2 (some a12) = true) (hv : x + z = v) (k : zT y cc mL rt d kc ks Q (pc + 3) (a0 :: a1 :: a2 :: a3 :: a4 :: a5 :: a6 :: a7 :: a8 :: a9 :: a10 :: a11 :: a12 :: some (0, v) :: r) st n sh h) : zT y cc mL rt d kc ks Q pc (a0 :: a1 :: a2 :: a3 :: a4 :: a5 :: a6 :: a7 :: a8 :: a9 :: a10 :: a11 :: a12 :: some (0, x) :: r) st n sh h := zt_iinc_13 hd hm hn (by rw [hv]; exact k)
theorem zt_iincv_14 {a0 a1 a2 a3 a4 a5 a6 a7 a8 a9 a10 a11 a12 a13 : Option zV} {r : List (Option zV)} {x z v : Int} (hd : decode cc pc = .ok (.iinc 14 z, 3)) (hm : 14 < mL) (hn : zn2 (some a13) = true) (hv : x + z = v) (k : zT y cc mL rt d kc ks Q (pc + 3) (a0 :: a1 :: a2 :: a3 :: a4 :: a5 :: a6 :: a7 :: a8 :: a9 :: a10 :: a11 :: a12 :: a13 :: some (0, v) :: r) st n sh h) : zT y cc mL rt d kc ks Q pc (a0 :: a1 :: a2 :: a3 :: a4 :: a5 :: a6 :: a7 :: a8 :: a9 :: a10 :: a11 :: a12 :: a13 :: some (0, x) :: r) st n sh h := zt_iinc_14 hd hm hn (by rw [hv]; exact k)
theorem zt_iincv_15 {a0 a1 a2 a3 a4 a5 a6 a7 a8 a9 a10 a11 a12 a13 a14 : Option zV} {r : List (Option zV)} {x z v : Int} (hd : decode cc pc = .ok (.iinc 15 z, 3)) (hm : 15 < mL) (hn : zn2 (some a14) = true) (hv : x + z = v) (k : zT y cc mL rt d kc ks Q (pc + 3) (a0 :: a1 :: a2 :: a3 :: a4 :: a5 :: a6 :: a7 :: a8 :: a9 :: a10 :: a11 :: a12 :: a13 :: a14 :: some (0, v) :: r) st n sh h) : zT y cc mL rt d kc ks Q pc (a0 :: a1 :: a2 :: a3 :: a4 :: a5 :: a6 :: a7 :: a8 :: a9 :: a10 :: a11 :: a12 :: a13 :: a14 :: some (0, x) :: r) st n sh h := zt_iinc_15 hd hm hn (by rw [hv]; exact k)
theorem zt_iincv_16 {a0 a1 a2 a3 a4 a5 a6 a7 a8 a9 a10 a11 a12 a13 a14 a15 : Option zV} {r : List (Option zV)} {x z v : Int} (hd : decode cc pc = .ok (.iinc 16 z, 3)) (hm : 16 < mL) (hn : zn2 (some a15) = true) (hv : x + z = v) (k : zT y cc mL rt d kc ks Q (pc + 3) (a0 :: a1 :: a2 :: a3 :: a4 :: a5 :: a6 :: a7 :: a8 :: a9 :: a10 :: a11 :: a12 :: a13 :: a14 :: a15 :: some (0, v) :: r) st n sh h) : zT y cc mL rt d kc ks Q pc (a0 :: a1 :: a2 :: a3 :: a4 :: a5 :: a6 :: a7 :: a8 :: a9 :: a10 :: a11 :: a12 :: a13 :: a14 :: a15 :: some (0, x) :: r) st n sh h := zt_iinc_16 hd hm hn (by rw [hv]; exact k)
theorem zt_iincv_17 {a0 a1 a2 a3 a4 a5 a6 a7 a8 a9 a10 a11 a12 a13 a14 a15 a16 : Option zV} {r : List (Option zV)} {x z v : Int} (hd : decode cc pc = .ok (.iinc 17 z, 3)) (hm : 17 < mL) (hn : zn2 (some a16) = true) (hv : x + z = v) (k : zT y cc mL rt d kc ks Q (pc + 3) (a0 :: a1 :: a2 :: a3 :: a4 :: a5 :: a6 :: a7 :: a8 :: a9 :: a10 :: a11 :: a12 :: a13 :: a14 :: a15 :: a16 :: some (0, v) :: r) st n sh h) : zT y cc mL rt d kc ks Q pc (a0 :: a1 :: a2 :: a3 :: a4 :: a5 :: a6 :: a7 :: a8 :: a9 :: a10 :: a11 :: a12 :: a13 :: a14 :: a15 :: a16 :: some (0, x) :: r) st n sh h := zt_iinc_17 hd hm hn (by rw [hv]; exact k)
theorem zt_iincv_18 {a0 a1 a2 a3 a4 a5 a6 a7 a8 a9 a10 a11 a12 a13 a14 a15 a16 a17 : Option zV} {r : List (Option zV)} {x z v : Int} (hd : decode cc pc = .ok (.iinc 18 z, 3)) (hm : 18 < mL) (hn : zn2 (some a17) = true) (hv : x + z = v) (k : zT y cc mL rt d kc ks Q (pc + 3) (a0 :: a1 :: a2 :: a3 :: a4 :: a5 :: a6 :: a7 :: a8 :: a9 :: a10 :: a11 :: a12 :: a13 :: a14 :: a15 :: a16 :: a17 :: some (0, v) :: r) st n sh h) : zT y cc mL rt d kc ks Q pc (a0 :: a1 :: a2 :: a3 :: a4 :: a5 :: a6 :: a7 :: a8 :: a9 :: a10 :: a11 :: a12 :: a13 :: a14 :: a15 :: a16 :: a17 :: some (0, x) :: r) st n sh h := zt_iinc_18 hd hm hn (by rw [hv]; exact k)
theorem zt_iincv_19 {a0 a1 a2 a3 a4 a5 a6 a7 a8 a9 a10 a11 a12 a13 a14 a15 a16 a17 a18 : Option zV} {r : List (Option zV)} {x z v : Int} (hd : decode cc pc = .ok (.iinc 19 z, 3)) (hm : 19 < mL) (hn : zn2 (some a18) = true) (hv : x + z = v) (k : zT y cc mL rt d kc ks Q (pc + 3) (a0 :: a1 :: a2 :: a3 :: a4 :: a5 :: a6 :: a7 :: a8 :: a9 :: a10 :: a11 :: a12 :: a13 :: a14 :: a15 :: a16 :: a17 :: a18 :: some (0, v) :: r) st n sh h) : zT y cc mL rt d kc ks Q pc (a0 :: a1 :: a2 :: a3 :: a4 :: a5 :: a6 :: a7 :: a8 :: a9 :: a10 :: a11 :: a12 :: a13 :: a14 :: a15 :: a16 :: a17 :: a18 :: some (0, x) :: r) st n sh h := zt_iinc_19 hd hm hn (by rw [hv]; exact k)
theorem zt_iincv_20 {a0 a1 a2 a3 a4 a5 a6 a7 a8 a9 a10 a11 a12 a13 a14 a15 a16 a17 a18 a19 : Option zV} {r : List (Option zV)} {x z v : Int} (hd : decode cc pc = .ok (.iinc 20 z, 3)) (hm : 20 < mL) (hn : zn2 (some a19) = true) (hv : x + z = v) (k : zT y cc mL rt d kc ks Q (pc + 3) (a0 :: a1 :: a2 :: a3 :: a4 :: a5 :: a6 :: a7 :: a8 :: a9 :: a10 :: a11 :: a12 :: a13 :: a14 :: a15 :: a16 :: a17 :: a18 :: a19 :: some (0, v) :: r) st n sh h) : zT y cc mL rt d kc ks Q pc (a0 :: a1 :: a2 :: a3 :: a4 :: a5 :: a6 :: a7 :: a8 :: a9 :: a10 :: a11 :: a12 :: a13 :: a14 :: a15 :: a16 :: a17 :: a18 :: a19 :: some (0, x) :: r) st n sh h := zt_iinc_20 hd hm hn (by rw [hv]; exact k)
theorem zt_iincv_21 {a0 a1 a2 a3 a4 a5 a6 a7 a8 a9 a10 a11 a12 a13 a14 a15 a16 a17 a18 a19 a20 : Option zV} {r : List (Option zV)} {x z v : Int} (hd : decode cc pc = .ok (.iinc 21 z, 3)) (hm : 21 < mL) (hn : zn2 (some a20) = true) (hv : x + z = v) (k : zT y cc mL rt d kc ks Q (pc + 3) (a0 :: a1 :: a2 :: a3 :: a4 :: a5 :: a6 :: a7 :: a8 :: a9 :: a10 :: a11 :: a12 :: a13 :: a14 :: a15 :: a16 :: a17 :: a18 :: a19 :: a20 :: some (0, v) :: r) st n sh h) : zT y cc mL rt d kc ks Q pc (a0 :: a1 :: a2 :: a3 :: a4 :: a5 :: a6 :: a7 :: a8 :: a9 :: a10 :: a11 :: a12 :: a13 :: a14 :: a15 :: a16 :: a17 :: a18 :: a19 :: a20 :: some (0, x) :: r) st n sh h := zt_iinc_21 hd hm hn (by rw [hv]; exact k)
theorem zt_iincv_22 {a0 a1 a2 a3 a4 a5 a6 a7 a8 a9 a10 a11 a12 a13 a14 a15 a16 a17 a18 a19 a20 a21 : Option zV} {r : List (Option zV)} {x z v : Int} (hd : decode cc pc = .ok (.iinc 22 z, 3)) (hm : 22 < mL) (hn : zn2 (some a21) = true) (hv : x + z = v) (k : zT y cc mL rt d kc ks Q (pc + 3) (a0 :: a1 :: a2 :: a3 :: a4 :: a5 :: a6 :: a7 :: a8 :: a9 :: a10 :: a11 :: a12 :: a13 :: a14 :: a15 :: a16 :: a17 :: a18 :: a19 :: a20 :: a21 :: some (0, v) :: r) st n sh h) : zT y cc mL rt d kc ks Q pc (a0 :: a1 :: a2 :: a3 :: a4 :: a5 :: a6 :: a7 :: a8 :: a9 :: a10 :: a11 :: a12 :: a13 :: a14 :: a15 :: a16 :: a17 :: a18 :: a19 :: a20 :: a21 :: some (0, x) :: r) st n sh h := zt_iinc_22 hd hm hn (by rw [hv]; exact k)
theorem zt_iincv_23 {a0 a1 a2 a3 a4 a5 a6 a7 a8 a9 a10 a11 a12 a13 a14 a15 a16 a17 a18 a19 a20 a21 a22 : Option zV} {r : List (Option zV)} {x z v : Int} (hd : decode cc pc = .ok (.iinc 23 z, 3)) (hm : 23 < mL) (hn : zn2 (some a22) = true) (hv : x + z = v) (k : zT y cc mL rt d kc ks Q (pc + 3) (a0 :: a1 :: a2 :: a3 :: a4 :: a5 :: a6 :: a7 :: a8 :: a9 :: a10 :: a11 :: a12 :: a13 :: a14 :: a15 :: a16 :: a17 :: a18 :: a19 :: a20 :: a21 :: a22 :: some (0, v) :: r) st n sh h) : zT y cc mL rt d kc ks Q pc (a0 :: a1 :: a2 :: a3 :: a4 :: a5 :: a6 :: a7 :: a8 :: a9 :: a10 :: a11 :: a12 :: a13 :: a14 :: a15 :: a16 :: a17 :: a18 :: a19 :: a20 :: a21 :: a22 :: some (0, x) :: r) st n sh h := zt_iinc_23 hd hm hn (by rw [hv]; exact k)
theorem zt_iincv_24 {a0 a1 a2 a3 a4 a5 a6 a7 a8 a9 a10 a11 a12 a13 a14 a15 a16 a17 a18 a19 a20 a21 a22 a23 : Option zV} {r : List (Option zV)} {x z v : Int} (hd : decode cc pc = .ok (.iinc 24 z, 3)) (hm : 24 < mL) (hn : zn2 (some a23) = true) (hv : x + z = v) (k : zT y cc mL rt d kc ks Q (pc + 3) (a0 :: a1 :: a2 :: a3 :: a4 :: a5 :: a6 :: a7 :: a8 :: a9 :: a10 :: a11 :: a12 :: a13 :: a14 :: a15 :: a16 :: a17 :: a18 :: a19 :: a20 :: a21 :: a22 :: a23 :: some (0, v) :: r) st n sh h) : zT y cc mL rt d kc ks Q pc (a0 :: a1 :: a2 :: a3 :: a4 :: a5 :: a6 :: a7 :: a8 :: a9 :: a10 :: a11 :: a12 :: a13 :: a14 :: a15 :: a16 :: a17 :: a18 :: a19 :: a20 :: a21 :: a22 :: a23 :: some (0, x) :: r) st n sh h := zt_iinc_24 hd hm hn (by rw [hv]; exact k)
theorem zt_iincv_25 {a0 a1 a2 a3 a4 a5 a6 a7 a8 a9 a10 a11 a12 a13 a14 a15 a16 a17 a18 a19 a20 a21 a22 a23 a24 : Option zV} {r : List (Option zV)} {x z v : Int} (hd : decode cc pc = .ok (.iinc 25 z, 3)) (hm : 25 < mL) (hn : zn2 (some a24) = true) (hv : x + z = v) (k : zT y cc mL rt d kc ks Q (pc + 3) (a0 :: a1 :: a2 :: a3 :: a4 :: a5 :: a6 :: a7 :: a8 :: a9 :: a10 :: a11 :: a12 :: a13 :: a14 :: a15 :: a16 :: a17 :: a18 :: a19 :: a20 :: a21 :: a22 :: a23 :: a24 :: some (0, v) :: r) st n sh h) : zT y cc mL rt d kc ks Q pc (a0 :: a1 :: a2 :: a3 :: a4 :: a5 :: a6 :: a7 :: a8 :: a9 :: a10 :: a11 :: a12 :: a13 :: a14 :: a15 :: a16 :: a17 :: a18 :: a19 :: a20 :: a21 :: a22 :: a23 :: a24 :: some (0, x) :: r) st n sh h := zt_iinc_25 hd hm hn (by rw [hv]; exact k)
/-- a memory that is said otherwise -/
theorem zmem_ext {h1 h2 : zMem} (e : ∀ x y, h1 x y = h2 x y) : h1 = h2 := funext fun x => funext fun y => e x y
end zMore2
theorem zM.ofTF {y : MethodName} {cc : ByteArray} {mL : Nat} {rt : Option FieldType} {d kc ks : Nat} {av : List zV} {n : Nat} {sh : zSh} {h : zMem} {Q : Option zV → Nat → zSh → zMem → Prop}
    (hy : plainFor y = true) (ls : List (Option zV)) (hl : ls = zent av) (hn : (zent av).length ≤ mL) (k : zT y cc mL rt d kc ks Q 0 ls [] n sh h) : zM y cc mL rt d kc ks av n sh h Q := by
  intro l D cA φ n0 hφ
  refine va_MetF (cc := cc) (maxL := mL) (ret := rt) hy rfl ?_
  intro p e s m args below meth c s₁ B hml hv
  obtain ⟨rfl, hS, hX, hC⟩ := hv
  have hts := atoms_spec (ws := .code y cc mL rt :: zTb) B.pre
  have hlen : ∀ av : List zV, (lg_sl (av.map (zrv φ))).length = (zent av).length := by
    intro av
    induction av with
    | nil => rfl
    | cons w r ih =>
      have hc := zrv_cat φ w
      have e0 : lg_sl ((w :: r).map (zrv φ)) = (if (zrv φ w).category = 2 then [.val (zrv φ w), .second] else [.val (zrv φ w)]) ++ lg_sl (r.map (zrv φ)) := by simp [lg_sl]
      rw [e0]
      unfold zent
      by_cases hw : w.1 = 1
      · rw [if_pos hw] at hc ⊢; rw [hc]; simp [ih]
      · rw [if_neg hw] at hc ⊢; rw [hc]; simp [ih]
  rw [lg_entry_eq]
  have hl0 := lv_entry (av.map (zrv φ)) (n := mL) (by rw [hlen]; exact hn)
  refine k l D cA φ n0 p e s m _ below meth c kc ks s.heap [] 0 0 _ ⟨B.exec, B.bytes, hml, findClass_of_methodNamed B.named, fun w hw => hts w (List.mem_cons_of_mem _ hw), B.returns, B.notSynchronized, (name_of_methodNamed B.named B.method).1, hC, hφ⟩ hS hX va_S.rf ⟨hl0.1, hl0.2.1, fun i v hi => ?_⟩ (by omega) (by omega)
  rw [hl] at hi
  have h2 := zlv_entry φ av [] i v hi
  simp only [List.nil_append, List.length_nil, Nat.zero_add] at h2
  rw [List.getElem?_toArray, List.getElem?_append_left (List.getElem?_eq_some_iff.mp h2).1]
  exact h2
theorem zF.ofTF {y : MethodName} {cc : ByteArray} {mL : Nat} {rt : Option FieldType} {d kc ks : Nat} {n : Nat} {sh : zSh} {h : zMem} {av : List zV} {r : Option zV} {n1 : Nat} {sh1 : zSh} {h1 : zMem} (hy : plainFor y = true) (ls : List (Option zV)) (hl : ls = zent av ++ List.replicate (mL - (zent av).length) none) (hn : (zent av).length ≤ mL) (k : zT y cc mL rt d kc ks (zq r n1 sh1 h1) 0 ls [] n sh h) : zF y cc mL rt d kc ks av n sh h r n1 sh1 h1 := by
  refine zM.ofTF hy (zent av) rfl hn (zt_forget (ls2 := ls) (fun j v hj => ?_) k)
  rw [hl] at hj
  by_cases hlt : j < (zent av).length
  · rwa [List.getElem?_append_left hlt] at hj
  · rw [List.getElem?_append_right (by omega), List.getElem?_replicate] at hj
    split at hj <;> simp at hj
theorem zbool {z : Int} (h : z = 0 ∨ z = 1) : zi32 z := by omega
theorem zbyte {z : Int} (h : -128 ≤ z ∧ z ≤ 127) : zi32 z := by omega
/-- a sum over i, i + 1, .. below N -/
def zsum (p : Int → Int) (i : Int) : Nat → Int
  | 0 => 0
  | k + 1 => p i + zsum p (i + 1) k
def zS (p : Int → Int) (i N : Int) : Int := zsum p i (N - i).toNat
theorem zS_e {p : Int → Int} {i N : Int} (h : N ≤ i) : zS p i N = 0 := by
  unfold zS; rw [show (N - i).toNat = 0 by omega]; rfl
theorem zS_s {p : Int → Int} {i N : Int} (h : i < N) : zS p i N = p i + zS p (i + 1) N := by
  unfold zS; rw [show (N - i).toNat = (N - (i + 1)).toNat + 1 by omega]; rfl
theorem zS_congr {p q : Int → Int} {N : Int} : ∀ (k : Nat) (i : Int), N - i ≤ k → (∀ j, i ≤ j → j < N → p j = q j) → zS p i N = zS q i N := by
  intro k
  induction k with
  | zero => intro i hk h; rw [zS_e (by omega), zS_e (by omega)]
  | succ k ih =>
    intro i hk h
    by_cases hi : i < N
    · rw [zS_s hi, zS_s hi, h i (by omega) hi, ih (i + 1) (by omega) (fun j h1 h2 => h j (by omega) h2)]
    · rw [zS_e (by omega), zS_e (by omega)]
theorem zS_le {p : Int → Int} {N : Int} : ∀ (k : Nat) (i : Int), N - i ≤ k → (∀ j, i ≤ j → j < N → 0 ≤ p j ∧ p j ≤ 1) → i ≤ N → 0 ≤ zS p i N ∧ zS p i N ≤ N - i := by
  intro k
  induction k with
  | zero => intro i hk h hi; rw [zS_e (by omega)]; omega
  | succ k ih =>
    intro i hk h hi
    by_cases hi2 : i < N
    · rw [zS_s hi2]
      have h1 := h i (by omega) hi2
      have h2 := ih (i + 1) (by omega) (fun j h1 h2 => h j (by omega) h2) (by omega)
      omega
    · rw [zS_e (by omega)]; omega
