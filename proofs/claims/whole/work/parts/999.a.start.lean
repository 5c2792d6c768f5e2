/-- the String constants, as the Statement's words name them -/
def zSt (i : Nat) : Term := .string (zStrs.getD i ("", 0, "")).1 (zStrs.getD i ("", 0, "")).2.1
theorem zs_inst : ∀ c, c < 12 → Cond.instantiable (zRR c) (zNN c) ∈ lw_tbl := by decide +kernel
theorem zs_nest : ∀ q ∈ zNest, Cond.methodLinkNest q.1 q.2.1 q.2.2.1 q.2.2.2 ∈ lw_tbl := by decide +kernel
theorem zs_strr : ∀ i, i < 10 → Cond.stringRef (zStrs.getD i ("", 0, "")).1 (zStrs.getD i ("", 0, "")).2.1 (zStrs.getD i ("", 0, "")).2.2 ∈ lw_tbl := by decide +kernel
theorem zs_ao : Cond.arrayOver (.object RX7) ∈ lw_tbl ∧ Cond.arrayOver (.object RX8) ∈ lw_tbl := by decide +kernel
theorem zs_ac : Cond.arrayClass .int ∈ lw_tbl ∧ Cond.arrayClass .long ∈ lw_tbl ∧ Cond.arrayClass .byte ∈ lw_tbl ∧ Cond.arrayClass .boolean ∈ lw_tbl := by decide +kernel
theorem zs_stc : Cond.laysStatic "java/lang/String" "COMPACT_STRINGS" "Z" ∈ lw_tbl ∧ Cond.initialized "java/lang/String" ∈ lw_tbl ∧ Cond.laysStatic "jdk/internal/util/Preconditions" "SIOOBE_FORMATTER" "Ljava/util/function/BiFunction;" ∈ lw_tbl ∧ Cond.initialized "jdk/internal/util/Preconditions" ∈ lw_tbl := by decide +kernel
theorem zs_giv : Cond.eq (.static "java/lang/String" "COMPACT_STRINGS" "Z") (.int 1) ∈ flatC (Jvm.Cond.and given_1 narrow_1) ∧ Cond.isRef (.static "jdk/internal/util/Preconditions" "SIOOBE_FORMATTER" "Ljava/util/function/BiFunction;") ∈ flatC (Jvm.Cond.and given_1 narrow_1) := by decide +kernel
theorem zs_ln : ∀ i : Nat, i < 10 → zStrL.getD i 0 < 2 ^ 31 := by decide +kernel
theorem zs_ex : ∀ i, i < 10 → Cond.exactly (zSt i) "java/lang/String" ∈ flatC (Jvm.Cond.and given_1 narrow_1) := by decide +kernel
theorem zs_co : ∀ i, i < 10 → Cond.eq (.field (zSt i) "java/lang/String" "coder" "B") (.int 0) ∈ flatC (Jvm.Cond.and given_1 narrow_1) := by decide +kernel
theorem zs_ar : ∀ i, i < 10 → Cond.arrayOf (.field (zSt i) "java/lang/String" "value" "[B") .byte ∈ flatC (Jvm.Cond.and given_1 narrow_1) := by decide +kernel
theorem zs_le : ∀ i, i < 10 → Cond.eq (.length (.field (zSt i) "java/lang/String" "value" "[B")) (.int (Int32.ofNat (zStrL.getD i 0))) ∈ flatC (Jvm.Cond.and given_1 narrow_1) := by decide +kernel
theorem zs_el : ∀ i, i < 10 → ∀ j, j < zStrL.getD i 0 → Cond.eq (.elem (.field (zSt i) "java/lang/String" "value" "[B") (.int (Int32.ofNat j))) (.int ((zStrB.getD i []).getD j 0)) ∈ flatC (Jvm.Cond.and given_1 narrow_1) := by decide +kernel
theorem zs_ne : ∀ i, i < 10 → ∀ j, j < 10 → i ≠ j → Cond.not (Cond.eq (zSt i) (zSt j)) ∈ flatC (Jvm.Cond.and given_1 narrow_1) ∨ Cond.not (Cond.eq (zSt j) (zSt i)) ∈ flatC (Jvm.Cond.and given_1 narrow_1) := by decide +kernel
/-- where the cells of the plain memory lie -/
def zph (n0 b t : Nat) (adK adV : Nat → Nat) (z : Int) : Nat := if 0 ≤ z then n0 + z.toNat else if z = -1000 then b else if z = -900 then t else if z % 2 = 0 then adK ((-z - 2) / 2).toNat else adV ((-z - 3) / 2).toNat
section zPh
variable {n0 b t : Nat} {adK adV : Nat → Nat}
theorem zph_n (k : Nat) : zph n0 b t adK adV (k : Int) = n0 + k := by
  unfold zph
  rw [if_pos (by omega)]
  omega
theorem zph_b : zph n0 b t adK adV (-1000) = b := rfl
theorem zph_t : zph n0 b t adK adV (-900) = t := rfl
theorem zph_K {i : Nat} (hi : i < 10) : zph n0 b t adK adV (-(2 + 2 * (i : Int))) = adK i := by
  unfold zph
  rw [if_neg (by omega), if_neg (by omega), if_neg (by omega), if_pos (by omega)]
  exact congrArg adK (by omega)
theorem zph_V {i : Nat} (hi : i < 10) : zph n0 b t adK adV (-(3 + 2 * (i : Int))) = adV i := by
  unfold zph
  rw [if_neg (by omega), if_neg (by omega), if_neg (by omega), if_neg (by omega)]
  exact congrArg adV (by omega)
end zPh
theorem vk_Sc {N : Nat} {len : List Nat} {byt : List (List Int32)} {adK adV f g : Nat → Nat} {A : Nat → Prop} {U : State} {H : Heap} (hf : ∀ i, i < N → f i = adK i) (hg : ∀ i, i < N → g i = adV i) (h : vk_S N len byt adK adV A U H) : vk_S N len byt f g A U H := by
  refine ⟨fun i hi => ?_, fun i j hi hj e => h.2 i j hi hj (by rw [← hf i hi, ← hf j hj]; exact e)⟩
  rw [hf i hi, hg i hi]
  exact h.1 i hi
/-- what holds of the start: classes, links, constants, statics -/
theorem zs_start {s : State} {args : Array Value} (b : Nat) (hts : ∀ w ∈ lw_tbl, w.before args s = true) (hgv : (Jvm.Cond.and given_1 narrow_1).before args s = true) : ∃ (D : va_G) (cA : Nat → ClassId) (φ : Int → Nat), φ (-1000) = b ∧ (∀ k : Nat, φ (k : Int) = s.heap.size + k) ∧ zC D cA φ s.heap.size s := by
  have hs := flat_of_before _ hgv
  have hA : ∀ a : Nat, a < s.heap.size → ¬ zA s.heap.size a := fun a h1 h2 => Nat.not_lt.mpr h2 h1
  obtain ⟨adK, adV, hS, hE⟩ := vk_Sof (args := args) (s := s) (N := 10) (tm := zSt) (len := zStrL) (byt := zStrB) (A := zA s.heap.size) zs_ln (fun i hi => hs _ (zs_ex i hi)) (fun i hi => hs _ (zs_co i hi)) (fun i hi => hs _ (zs_ar i hi)) (fun i hi => hs _ (zs_le i hi)) (fun i hi j hj => hs _ (zs_el i hi j hj)) (fun i j hi hj hij => (zs_ne i hi j hj hij).imp (hs _) (hs _)) hA
  have hD0 : ∀ c : Nat, ∃ q : ClassId × (Nat → Nat), c < 12 → u_Kn s (zRR c) (zTT c) (zNN c) q.1 q.2 := by
    intro c
    by_cases hc : c < 12
    · obtain ⟨cC, iS, h⟩ := u_known (C := zRR c) (T := zTT c) (N := zNN c) (n := zNN c) hts (fun w hw => (List.mem_filter.mp ((zcls c hc).2.1 w hw)).1) (hts _ (zs_inst c hc))
      exact ⟨(cC, iS), fun _ => h⟩
    · exact ⟨(0, fun _ => 0), fun h => absurd h hc⟩
  obtain ⟨dd, hdd⟩ := Classical.axiomOfChoice hD0
  obtain ⟨a0, k0, m0, p0, q0, r0⟩ := Cond.arrayClass_spec (hts _ zs_ac.1)
  obtain ⟨a1, k1, m1, p1, q1, r1⟩ := Cond.arrayClass_spec (hts _ zs_ac.2.1)
  obtain ⟨a2, k2, m2, p2, q2, r2⟩ := Cond.arrayClass_spec (hts _ zs_ac.2.2.1)
  obtain ⟨a3, k3, m3, p3, q3, r3⟩ := Cond.arrayClass_spec (hts _ zs_ac.2.2.2)
  obtain ⟨m4, a4, k4, o4, -, q4, r4, p4⟩ := Cond.arrayOver_spec (hts _ zs_ao.1)
  obtain ⟨m5, a5, k5, o5, -, q5, r5, p5⟩ := Cond.arrayOver_spec (hts _ zs_ao.2)
  have hZ := va_Zqof (A := zA s.heap.size) (hts _ zs_stc.2.2.1) (hts _ zs_stc.2.2.2) (hs _ zs_giv.2) hA
  obtain ⟨t, z, hz, hZ2⟩ : ∃ (t : Nat) (z : Int), (z = -1 ∨ z = -900) ∧ va_Z "jdk/internal/util/Preconditions" "SIOOBE_FORMATTER" "Ljava/util/function/BiFunction;" (if z = -1 then .null else .ref t) (zA s.heap.size) s s.heap := by
    rcases hZ with h | ⟨t, h⟩
    · exact ⟨0, -1, Or.inl rfl, h⟩
    · exact ⟨t, -900, Or.inr rfl, h⟩
  refine ⟨(fun c => (dd c).1, fun c => (dd c).2), fun k => if k = 0 then a0 else if k = 1 then a1 else if k = 2 then a2 else if k = 3 then a3 else if k = 4 then a4 else a5, zph s.heap.size b t adK adV, zph_b, fun k => zph_n k, ⟨fun c q hq => ?_, fun k q hq => ?_⟩, fun q hq => va_Nw.of rfl (hts _ (zs_nest q hq)), va_AO.of (hts _ zs_ao.1), va_AO.of (hts _ zs_ao.2), vk_Sc (fun i hi => zph_K hi) (fun i hi => zph_V hi) hS, fun i hi => ?_, va_Zof (hts _ zs_stc.1) (hts _ zs_stc.2.1) (va_eqi (hs _ zs_giv.1)) hA, z, hz, ?_⟩
  · have hc : c < 12 := (List.getElem?_eq_some_iff.mp hq).1
    have e0 : q = (zRR c, zTT c, zNN c) := Option.some.inj (hq.symm.trans (zcls c hc).1)
    subst e0
    exact hdd c hc
  · match k, hq with
    | 0, hq => cases hq; exact ⟨fun n z => ⟨fun k h => (by cases h), k0, q0, m0, r0⟩, p0⟩
    | 1, hq => cases hq; exact ⟨fun n z => ⟨fun k h => (by cases h), k1, q1, m1, r1⟩, p1⟩
    | 2, hq => cases hq; exact ⟨fun n z => ⟨fun k h => (by cases h), k2, q2, m2, r2⟩, p2⟩
    | 3, hq => cases hq; exact ⟨fun n z => ⟨fun k h => (by cases h), k3, q3, m3, r3⟩, p3⟩
    | 4, hq => cases hq; exact ⟨fun n z => ⟨fun k h => (by cases h), k4, q4, m4, r4⟩, k4, m4, q4, r4, o4, p4⟩
    | 5, hq => cases hq; exact ⟨fun n z => ⟨fun k h => (by cases h), k5, q5, m5, r5⟩, k5, m5, q5, r5, o5, p5⟩
    | k + 6, hq => exact absurd (List.getElem?_eq_some_iff.mp hq).1 (by simp [zty])
  · rw [zph_K hi]
    exact vk_R.of (hts _ (zs_strr i hi)) (hE i hi)
  · rcases hz with rfl | rfl
    · exact hZ2
    · exact hZ2
