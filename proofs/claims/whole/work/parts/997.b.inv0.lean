def h80 (h : zMem) : zMem := (in11H (znew (in10H (znew h 0 (zdf 10))) 38 (zdf 11)))
def s80 (sh : zSh) : zSh := (in11S (zshn (in10S (zshn sh 0 (10, 14))) 38 (11, 64)))
set_option maxRecDepth 100000 in
theorem h80_1_1 {h : zMem} : h80 h 1 1 = 0 := rfl
set_option maxRecDepth 100000 in
theorem h80_38_1 {h : zMem} : h80 h 38 1 = 0 := rfl
set_option maxRecDepth 100000 in
theorem h80_0_10 {h : zMem} : h80 h 0 10 = 0 := rfl
set_option maxRecDepth 100000 in
theorem h80_38_12 {h : zMem} : h80 h 38 12 = 0 := rfl
set_option maxRecDepth 100000 in
theorem h80_0_11 {h : zMem} : h80 h 0 11 = 0 := rfl
set_option maxRecDepth 100000 in
theorem h80_38_17 {h : zMem} : h80 h 38 17 = 0 := rfl
set_option maxRecDepth 100000 in
theorem h80_10_0 {h : zMem} : h80 h 10 0 = 0 := rfl
set_option maxRecDepth 100000 in
theorem h80_10_1 {h : zMem} : h80 h 10 1 = 0 := rfl
set_option maxRecDepth 100000 in
theorem h80_38_20 {h : zMem} : h80 h 38 20 = 0 := rfl
set_option maxRecDepth 100000 in
theorem h80_38_21 {h : zMem} : h80 h 38 21 = 0 := rfl
set_option maxRecDepth 100000 in
theorem h80_18_0 {h : zMem} : h80 h 18 0 = 0 := rfl
set_option maxRecDepth 100000 in
theorem h80_18_1 {h : zMem} : h80 h 18 1 = 0 := rfl
set_option maxRecDepth 100000 in
theorem h80_18_6 {h : zMem} : h80 h 18 6 = 0 := rfl
set_option maxRecDepth 100000 in
theorem h80_38_44 {h : zMem} : h80 h 38 44 = 0 := rfl
set_option maxRecDepth 100000 in
theorem h80_38_45 {h : zMem} : h80 h 38 45 = 0 := rfl
set_option maxRecDepth 100000 in
theorem h80_38_46 {h : zMem} : h80 h 38 46 = 0 := rfl
set_option maxRecDepth 100000 in
theorem h80_26_0 {h : zMem} : h80 h 26 0 = 0 := rfl
set_option maxRecDepth 100000 in
theorem h80_38_50 {h : zMem} : h80 h 38 50 = 0 := rfl
set_option maxRecDepth 100000 in
theorem h80_26_11 {h : zMem} : h80 h 26 11 = -1 := rfl
set_option maxRecDepth 100000 in
theorem h80_32_0 {h : zMem} : h80 h 32 0 = 0 := rfl
set_option maxRecDepth 100000 in
theorem h80_38_37 {h : zMem} : h80 h 38 37 = 0 := rfl
set_option maxRecDepth 100000 in
theorem h80_0_12 {h : zMem} : h80 h 0 12 = 0 := rfl
set_option maxRecDepth 100000 in
theorem h80_38_16 {h : zMem} : h80 h 38 16 = 0 := rfl
set_option maxRecDepth 100000 in
theorem h80_0_13 {h : zMem} : h80 h 0 13 = 1000 := rfl
set_option maxRecDepth 100000 in
theorem h80_38_33 {h : zMem} : h80 h 38 33 = 1000 := rfl
set_option maxRecDepth 100000 in
theorem h80_r19 {h : zMem} : h80 h 19 = fun _ => 0 := rfl
set_option maxRecDepth 100000 in
theorem h80_r67 {h : zMem} : h80 h 67 = fun _ => 0 := rfl
set_option maxRecDepth 100000 in
theorem h80_r75 {h : zMem} : h80 h 75 = fun _ => 0 := rfl
set_option maxRecDepth 100000 in
theorem h80_r47 {h : zMem} : h80 h 47 = fun _ => 0 := rfl
set_option maxRecDepth 100000 in
theorem h80_r58 {h : zMem} : h80 h 58 = fun _ => 0 := rfl
set_option maxRecDepth 100000 in
theorem h80_r59 {h : zMem} : h80 h 59 = fun _ => 0 := rfl
set_option maxRecDepth 100000 in
theorem h80_r60 {h : zMem} : h80 h 60 = fun _ => 0 := rfl
set_option maxRecDepth 100000 in
theorem h80_r61 {h : zMem} : h80 h 61 = fun _ => 0 := rfl
set_option maxRecDepth 100000 in
theorem h80_rf {h : zMem} : zRf (h80 h) := by
  have k : zrf0.all (fun q => decide (h80 h q.1 q.2.1 = q.2.2)) = true := rfl
  intro q hq
  exact of_decide_eq_true (List.all_eq_true.mp k q hq)
set_option maxRecDepth 100000 in
theorem s80_shp {sh : zSh} : zShp (s80 sh) := by
  have k : (List.range 80).all (fun k => decide (s80 sh (k : Int) = zsh0.getD k (999, 0))) = true := rfl
  intro i hi
  exact of_decide_eq_true (List.all_eq_true.mp k i (List.mem_range.mpr hi))
set_option maxRecDepth 100000 in
theorem h80_x {h : zMem} : h80 h (-1000) = h (-1000) := rfl
set_option maxRecDepth 100000 in
theorem s80_x {sh : zSh} : s80 sh (-1000) = sh (-1000) := rfl
theorem s80_lo {sh : zSh} {a : Int} (ha : a < 0 ∨ 80 ≤ a) : s80 sh a = sh a := by
  unfold s80 in11S in10S in9S in4S in0S in3S in1S in5S in6S in2S
  (repeat rw [zshn_ne (by omega)])
theorem inv80 {sh : zSh} {h : zMem} (hs : ∀ a : Int, 106 ≤ (sh a).1) : INV 0 80 (s80 sh) (h80 h) := by
  have z0 : ∀ y : Int, (fun _ : Int => (0 : Int)) y = 0 := fun _ => rfl
  refine ⟨⟨s80_shp, h80_rf, ⟨by decide, fun a ha => ?_⟩, by decide⟩, ?_, ?_, ?_, ?_, ?_, ?_, ?_, Or.inl h80_26_11, ?_, ?_, ?_, ?_, ?_⟩
  · by_cases c : a < 0 ∨ 80 ≤ a
    · rw [s80_lo c] at ha; have := hs a; omega
    · show a < ((80 : Nat) : Int); omega
  · unfold mB
    rw [h80_38_17, h80_38_20, h80_38_21, h80_38_50, h80_38_37, h80_38_16, h80_38_46, h80_38_45, h80_38_1, h80_38_12]
    exact ⟨by decide, fun t a b => by omega, by decide, by decide, by decide, by decide, by decide, by decide, by decide, by decide, by decide⟩
  · unfold mTx tOK
    rw [h80_1_1, h80_38_1]
    exact ⟨⟨by decide, fun p a b => by omega⟩, rfl, fun p a b => by omega⟩
  · refine ⟨by rw [h80_38_12, h80_0_10], fun _ x => x, ⟨by rw [h80_0_10]; decide, fun c a b => by rw [h80_0_10] at b; omega⟩, fun c a b => by rw [h80_0_10] at b; omega⟩
  · exact ⟨by rw [h80_38_17, h80_0_11], fun t u a b => by rw [h80_0_11] at b; omega, fun t a b => by rw [h80_0_11] at b; omega⟩
  · exact ⟨by rw [h80_38_20, h80_10_0], by rw [h80_38_21, h80_10_1], ⟨by rw [h80_10_0]; decide, by rw [h80_10_1]; decide, fun i a b => by rw [h80_10_1] at b; omega⟩, fun i a b => by rw [h80_10_1] at b; omega⟩
  · refine ⟨⟨by rw [h80_38_44, h80_18_0], by rw [h80_38_45, h80_18_1], by rw [h80_38_46, h80_18_6]⟩, ⟨by rw [h80_18_6]; decide, by rw [h80_18_1]; decide, by rw [h80_18_0]; decide, fun y _ _ => by rw [h80_r19]; exact (show (0 : Int) ≤ 0 ∧ (0 : Int) ≤ 9 by decide), fun i a b => by rw [h80_18_6] at b; omega⟩, fun y _ _ => by rw [h80_r67]; exact (show (0 : Int) ≤ 0 ∧ (0 : Int) ≤ 9 by decide), fun y _ _ => by rw [h80_r67, h80_r19], fun i a b => by rw [h80_18_6] at b; omega⟩
  · exact ⟨by rw [h80_38_50, h80_26_0], ⟨by rw [h80_26_0]; decide, fun i a b => by rw [h80_26_0] at b; omega⟩, fun i a b => by rw [h80_26_0] at b; omega⟩
  · exact ⟨by rw [h80_38_37, h80_32_0], fun k a b => by rw [h80_32_0] at b; omega⟩
  · exact ⟨by rw [h80_38_16, h80_0_12], by rw [h80_38_33, h80_0_13], by rw [h80_0_13]; decide, by rw [h80_0_13]; decide⟩
  · intro y _ _; rw [h80_r75]; exact (show (0 : Int) ≤ 0 ∧ (0 : Int) ≤ 900 by decide)
  · intro e _ _; rw [h80_r47]; right; exact (show (-999999999 : Int) ≤ 0 ∧ (0 : Int) ≤ 999999999 by decide)
  · unfold iW; rw [h80_r58, h80_r59, h80_r60, h80_r61]
    exact ⟨fun y _ _ => (show (0 : Int) ≤ 0 ∧ (0 : Int) ≤ 60000 by decide), fun t _ _ => ⟨rfl, rfl, rfl, fun i _ _ => rfl⟩⟩

