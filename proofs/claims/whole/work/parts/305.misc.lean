def ztenN : Nat → Int
  | 0 => 1
  | k + 1 => ztenN k * 10
def zten (p : Int) : Int := ztenN p.toNat
theorem zten_s {p : Int} (h : 0 ≤ p) : zten (p + 1) = zten p * 10 := by
  unfold zten; rw [show (p + 1).toNat = p.toNat + 1 by omega]; rfl
theorem zten_pos (p : Int) : 0 < zten p := by
  have : ∀ k, 0 < ztenN k := by
    intro k
    induction k with
    | zero => decide
    | succ k ih => show 0 < ztenN k * 10; omega
  exact this _
theorem zten_le {p : Int} (h : p ≤ 9) : zten p ≤ 1000000000 := by
  unfold zten
  have : ∀ k, k < 10 → ztenN k ≤ 1000000000 := by decide
  exact this _ (by omega)
theorem zten_le8 {p : Int} (h : p ≤ 8) : zten p ≤ 100000000 := by
  unfold zten
  have : ∀ k, k < 9 → ztenN k ≤ 100000000 := by decide
  exact this _ (by omega)
theorem zten_le4 {p : Int} (h : p ≤ 4) : zten p ≤ 10000 := by
  unfold zten
  have : ∀ k, k < 5 → ztenN k ≤ 10000 := by decide
  exact this _ (by omega)

set_option maxRecDepth 100000 in
set_option maxHeartbeats 4000000 in
theorem l_tenTo {d n : Nat} {sh : zSh} {h : zMem} {p : Int} (hp : 0 ≤ p ∧ p ≤ 9) : ∀ (k : Nat) (i : Int) (v : Int), p - i < (k : Int) → 0 ≤ i → i ≤ p → v = zten i → zT yX10_tenTo cX10_tenTo 3 (some .int) (d + 0) 0 0 (zq (some (0, zten p)) n sh h) 4 [some (0, p), some (0, v), some (0, i)] [] n sh h := by
  intro k
  induction k with
  | zero => intros; exfalso; omega
  | succ k ih =>
    intro i v hk h0 h1 hv
    refine zt_iload_n dX10_tenTo_4 rfl ?_
    refine zt_iload_n dX10_tenTo_5 rfl ?_
    refine zt_icmp_ge (tgt := 26) dX10_tenTo_6 (by decide) (by omega) (by omega) (fun c_6 => ?_) (fun c_6 => ?_)
    · refine zt_iload_n dX10_tenTo_26 rfl ?_
      exact zt_iret dX10_tenTo_27 ⟨by rw [hv, show i = p by omega], rfl, rfl, rfl⟩
    · refine zt_iload_n dX10_tenTo_9 rfl ?_
      refine zt_bipush dX10_tenTo_10 (by decide) ?_
      refine zt_icmp_ge (tgt := 26) dX10_tenTo_12 (by decide) (by omega) (by decide) (fun c_12 => ?_) (fun c_12 => ?_)
      · refine zt_iload_n dX10_tenTo_26 rfl ?_
        exact zt_iret dX10_tenTo_27 ⟨by rw [hv, show i = p by omega], rfl, rfl, rfl⟩
      · refine zt_iload_n dX10_tenTo_15 rfl ?_
        refine zt_bipush dX10_tenTo_16 (by decide) ?_
        refine zt_imul dX10_tenTo_18 ?_
        refine zt_istore_n_1 dX10_tenTo_19 (by decide) rfl ?_
        refine zt_iinc_2 dX10_tenTo_20 (by decide) rfl ?_
        refine zt_goto (tgt := 4) dX10_tenTo_23 (by decide) ?_
        exact ih (i + 1) _ (by omega) (by omega) (by omega) (by rw [hv, zten_s h0])

set_option maxRecDepth 100000 in
set_option maxHeartbeats 4000000 in
theorem c_tenTo {d n : Nat} {sh : zSh} {h : zMem} {p : Int} (hp : 0 ≤ p ∧ p ≤ 9) : zF yX10_tenTo cX10_tenTo 3 (some .int) (d + 0) 0 0 [(0, p)] n sh h (some (0, zten p)) n sh h := by
  refine zF.ofT (by decide +kernel) [some (0, p), none, none] rfl (Nat.le_of_ble_eq_true rfl) ?_
  refine zt_iconst dX10_tenTo_0 ?_
  refine zt_istore_n_1 dX10_tenTo_1 (by decide) rfl ?_
  refine zt_iconst dX10_tenTo_2 ?_
  refine zt_istore_n_2 dX10_tenTo_3 (by decide) rfl ?_
  exact l_tenTo hp 10 0 1 (by omega) (by omega) (by omega) rfl

/-- the whole number nearest to n by d, of two the one farther from 0 -/
def zne (n d : Int) : Int := if n < 0 then -((2 * zabs n + d) / (2 * d)) else (2 * zabs n + d) / (2 * d)
theorem zabs_le {n B : Int} (h : -B ≤ n ∧ n ≤ B) : 0 ≤ zabs n ∧ zabs n ≤ B := by unfold zabs; split <;> omega
theorem zne_q {n d : Int} (hn : -2000000000000000000 ≤ n ∧ n ≤ 2000000000000000000) (hd : 0 < d ∧ d ≤ 1000000000000000000) : Int.tdiv (2 * zabs n + d) (2 * d) = (2 * zabs n + d) / (2 * d) := Int.tdiv_eq_ediv_of_nonneg (by have := zabs_le hn; omega)
theorem zne_qr {n d : Int} (hn : -2000000000000000000 ≤ n ∧ n ≤ 2000000000000000000) (hd : 0 < d ∧ d ≤ 1000000000000000000) : 0 ≤ (2 * zabs n + d) / (2 * d) ∧ (2 * zabs n + d) / (2 * d) ≤ 2 * zabs n + d := by
  have := zabs_le hn
  refine ⟨Int.ediv_nonneg (by omega) (by omega), Int.ediv_le_self _ (by omega)⟩

set_option maxRecDepth 100000 in
set_option maxHeartbeats 4000000 in
theorem c_near {d n : Nat} {sh : zSh} {h : zMem} {x y : Int} (hn : -2000000000000000000 ≤ x ∧ x ≤ 2000000000000000000) (hd : 0 < y ∧ y ≤ 1000000000000000000) : zF yX10_nearest cX10_nearest 6 (some .long) (d + 1) 0 0 [(1, x), (1, y)] n sh h (some (1, zne x y)) n sh h := by
  refine zF.ofT (by decide +kernel) [some (1, x), none, some (1, y), none, none, none] rfl (Nat.le_of_ble_eq_true rfl) ?_
  refine zt_lload_n dX10_nearest_0 rfl ?_
  refine zt_lconst (v := 0) dX10_nearest_1 rfl ?_
  refine zt_lc_gt (tgt := 8) dX10_nearest_2 dX10_nearest_3 (by decide) (by omega) (by decide) (fun c_2 => ?_) (fun c_2 => ?_)
  · refine zt_ldc2 dX10_nearest_8 kc_X10_355 ?_
    refine zt_lload_n dX10_nearest_11 rfl ?_
    refine zt_callS1r dX10_nearest_12 ml_X10_357 (Nat.le_of_ble_eq_true rfl) (c_labs (by omega)) ?_
    refine zt_lmul dX10_nearest_15 ?_
    have ha := zabs_le hn
    refine zt_lload_n dX10_nearest_16 rfl ?_
    refine zt_ladd dX10_nearest_17 ?_
    refine zt_ldc2 dX10_nearest_18 kc_X10_355 ?_
    refine zt_lload_n dX10_nearest_21 rfl ?_
    refine zt_lmul dX10_nearest_22 ?_
    refine zt_ldiv dX10_nearest_23 (by omega) (by omega) (by omega) ?_
    refine zt_lstore_4 dX10_nearest_24 (by decide) rfl ?_
    refine zt_lload_n dX10_nearest_26 rfl ?_
    refine zt_lconst (v := 0) dX10_nearest_27 rfl ?_
    refine zt_lc_ge (tgt := 38) dX10_nearest_28 dX10_nearest_29 (by decide) (by omega) (by decide) (fun c_28 => ?_) (fun c_28 => ?_)
    · refine zt_lload dX10_nearest_38 rfl ?_
      exact zt_lret dX10_nearest_40 ⟨by rw [zne_q hn hd]; congr 2; unfold zne; first | (rw [if_pos (by omega)]) | (rw [if_neg (by omega)]), rfl, rfl, rfl⟩
    · refine zt_lload dX10_nearest_32 rfl ?_
      refine zt_lneg dX10_nearest_34 ?_
      refine zt_goto (tgt := 40) dX10_nearest_35 (by decide) ?_
      exact zt_lret dX10_nearest_40 ⟨by rw [zne_q hn hd]; congr 2; unfold zne; first | (rw [if_pos (by omega)]) | (rw [if_neg (by omega)]), rfl, rfl, rfl⟩
  · exfalso
    omega

set_option maxRecDepth 100000 in
set_option maxHeartbeats 4000000 in
theorem c_mnear {d n : Nat} {sh : zSh} {h : zMem} {x y : Int} (hn : -2000000000000000000 ≤ x ∧ x ≤ 2000000000000000000) (hd : 0 < y ∧ y ≤ 1000000000000000000) : zF yX11_nearest cX11_nearest 6 (some .long) (d + 0) 0 0 [(1, x), (1, y)] n sh h (some (1, zne x y)) n sh h := by
  refine zF.ofT (by decide +kernel) [some (1, x), none, some (1, y), none, none, none] rfl (Nat.le_of_ble_eq_true rfl) ?_
  refine zt_lload_n dX11_nearest_0 rfl ?_
  refine zt_lconst (v := 0) dX11_nearest_1 rfl ?_
  refine zt_lc_ge (tgt := 11) dX11_nearest_2 dX11_nearest_3 (by decide) (by omega) (by decide) (fun c_2 => ?_) (fun c_2 => ?_)
  · refine zt_lload_n dX11_nearest_11 rfl ?_
    refine zt_ldc2 dX11_nearest_12 kc_X11_252 ?_
    refine zt_lmul dX11_nearest_15 ?_
    refine zt_lload_n dX11_nearest_16 rfl ?_
    refine zt_ladd dX11_nearest_17 ?_
    refine zt_ldc2 dX11_nearest_18 kc_X11_252 ?_
    refine zt_lload_n dX11_nearest_21 rfl ?_
    refine zt_lmul dX11_nearest_22 ?_
    refine zt_ldiv dX11_nearest_23 (by omega) (by omega) (by omega) ?_
    refine zt_lstore_4 dX11_nearest_24 (by decide) rfl ?_
    refine zt_lload_n dX11_nearest_26 rfl ?_
    refine zt_lconst (v := 0) dX11_nearest_27 rfl ?_
    refine zt_lc_ge (tgt := 38) dX11_nearest_28 dX11_nearest_29 (by decide) (by omega) (by decide) (fun c_28 => ?_) (fun c_28 => ?_)
    · refine zt_lload dX11_nearest_38 rfl ?_
      exact zt_lret dX11_nearest_40 ⟨by congr 2; unfold zne zabs; first | (rw [if_pos (by omega), if_pos (by omega)]; congr 1; rw [Int.tdiv_eq_ediv_of_nonneg (by omega)]; congr 1; omega) | (rw [if_neg (by omega), if_neg (by omega)]; rw [Int.tdiv_eq_ediv_of_nonneg (by omega)]; congr 1; omega), rfl, rfl, rfl⟩
    · refine zt_lload dX11_nearest_32 rfl ?_
      refine zt_lneg dX11_nearest_34 ?_
      refine zt_goto (tgt := 40) dX11_nearest_35 (by decide) ?_
      exact zt_lret dX11_nearest_40 ⟨by congr 2; unfold zne zabs; first | (rw [if_pos (by omega), if_pos (by omega)]; congr 1; rw [Int.tdiv_eq_ediv_of_nonneg (by omega)]; congr 1; omega) | (rw [if_neg (by omega), if_neg (by omega)]; rw [Int.tdiv_eq_ediv_of_nonneg (by omega)]; congr 1; omega), rfl, rfl, rfl⟩
  · refine zt_lload_n dX11_nearest_6 rfl ?_
    refine zt_lneg dX11_nearest_7 ?_
    refine zt_goto (tgt := 12) dX11_nearest_8 (by decide) ?_
    refine zt_ldc2 dX11_nearest_12 kc_X11_252 ?_
    refine zt_lmul dX11_nearest_15 ?_
    refine zt_lload_n dX11_nearest_16 rfl ?_
    refine zt_ladd dX11_nearest_17 ?_
    refine zt_ldc2 dX11_nearest_18 kc_X11_252 ?_
    refine zt_lload_n dX11_nearest_21 rfl ?_
    refine zt_lmul dX11_nearest_22 ?_
    refine zt_ldiv dX11_nearest_23 (by omega) (by omega) (by omega) ?_
    refine zt_lstore_4 dX11_nearest_24 (by decide) rfl ?_
    refine zt_lload_n dX11_nearest_26 rfl ?_
    refine zt_lconst (v := 0) dX11_nearest_27 rfl ?_
    refine zt_lc_ge (tgt := 38) dX11_nearest_28 dX11_nearest_29 (by decide) (by omega) (by decide) (fun c_28 => ?_) (fun c_28 => ?_)
    · refine zt_lload dX11_nearest_38 rfl ?_
      exact zt_lret dX11_nearest_40 ⟨by congr 2; unfold zne zabs; first | (rw [if_pos (by omega), if_pos (by omega)]; congr 1; rw [Int.tdiv_eq_ediv_of_nonneg (by omega)]; congr 1; omega) | (rw [if_neg (by omega), if_neg (by omega)]; rw [Int.tdiv_eq_ediv_of_nonneg (by omega)]; congr 1; omega), rfl, rfl, rfl⟩
    · refine zt_lload dX11_nearest_32 rfl ?_
      refine zt_lneg dX11_nearest_34 ?_
      refine zt_goto (tgt := 40) dX11_nearest_35 (by decide) ?_
      exact zt_lret dX11_nearest_40 ⟨by congr 2; unfold zne zabs; first | (rw [if_pos (by omega), if_pos (by omega)]; congr 1; rw [Int.tdiv_eq_ediv_of_nonneg (by omega)]; congr 1; omega) | (rw [if_neg (by omega), if_neg (by omega)]; rw [Int.tdiv_eq_ediv_of_nonneg (by omega)]; congr 1; omega), rfl, rfl, rfl⟩

def zsho (x : Int) : Int := if 499999999 < x then x - 1000000000 else x

set_option maxRecDepth 100000 in
set_option maxHeartbeats 4000000 in
theorem c_shown {d n : Nat} {sh : zSh} {h : zMem} {x : Int} (hx : zi64 x) : zF yX10_shown cX10_shown 2 (some .int) (d + 0) 0 0 [(1, x)] n sh h (some (0, zsho x)) n sh h := by
  refine zF.ofT (by decide +kernel) [some (1, x), none] rfl (Nat.le_of_ble_eq_true rfl) ?_
  refine zt_lload_n dX10_shown_0 rfl ?_
  refine zt_ldc2 dX10_shown_1 kc_X10_351 ?_
  refine zt_lc_le (tgt := 16) dX10_shown_4 dX10_shown_5 (by decide) (by omega) (by decide) (fun c_4 => ?_) (fun c_4 => ?_)
  · refine zt_lload_n dX10_shown_16 rfl ?_
    refine zt_l2i dX10_shown_17 ?_
    exact zt_iret dX10_shown_18 ⟨by congr 2; unfold zsho; (repeat' split) <;> omega, rfl, rfl, rfl⟩
  · refine zt_lload_n dX10_shown_8 rfl ?_
    refine zt_ldc2 dX10_shown_9 kc_X10_353 ?_
    refine zt_lsub dX10_shown_12 ?_
    refine zt_goto (tgt := 17) dX10_shown_13 (by decide) ?_
    refine zt_l2i dX10_shown_17 ?_
    exact zt_iret dX10_shown_18 ⟨by congr 2; unfold zsho; (repeat' split) <;> omega, rfl, rfl, rfl⟩

set_option maxRecDepth 100000 in
set_option maxHeartbeats 4000000 in
theorem c_mshown {d n : Nat} {sh : zSh} {h : zMem} {x : Int} (hx : zi64 x) : zF yX11_shown cX11_shown 2 (some .int) (d + 0) 0 0 [(1, x)] n sh h (some (0, zsho x)) n sh h := by
  refine zF.ofT (by decide +kernel) [some (1, x), none] rfl (Nat.le_of_ble_eq_true rfl) ?_
  refine zt_lload_n dX11_shown_0 rfl ?_
  refine zt_ldc2 dX11_shown_1 kc_X11_361 ?_
  refine zt_lc_le (tgt := 16) dX11_shown_4 dX11_shown_5 (by decide) (by omega) (by decide) (fun c_4 => ?_) (fun c_4 => ?_)
  · refine zt_lload_n dX11_shown_16 rfl ?_
    refine zt_l2i dX11_shown_17 ?_
    exact zt_iret dX11_shown_18 ⟨by congr 2; unfold zsho; (repeat' split) <;> omega, rfl, rfl, rfl⟩
  · refine zt_lload_n dX11_shown_8 rfl ?_
    refine zt_ldc2 dX11_shown_9 kc_X11_248 ?_
    refine zt_lsub dX11_shown_12 ?_
    refine zt_goto (tgt := 17) dX11_shown_13 (by decide) ?_
    refine zt_l2i dX11_shown_17 ?_
    exact zt_iret dX11_shown_18 ⟨by congr 2; unfold zsho; (repeat' split) <;> omega, rfl, rfl, rfl⟩

set_option maxRecDepth 100000 in
set_option maxHeartbeats 4000000 in
theorem c_writable {d n : Nat} {sh : zSh} {h : zMem} {x : Int} (hx : zi32 x) : zF yX10_isWritable cX10_isWritable 1 (some .boolean) (d + 0) 0 0 [(0, x)] n sh h (some (0, zb (-999999999 ≤ x ∧ x ≤ 999999999))) n sh h := by
  refine zF.ofT (by decide +kernel) [some (0, x)] rfl (Nat.le_of_ble_eq_true rfl) ?_
  refine zt_iload_n dX10_isWritable_0 rfl ?_
  refine zt_ldc_w dX10_isWritable_1 kc_X10_349 ?_
  refine zt_icmp_lt (tgt := 18) dX10_isWritable_4 (by decide) (by omega) (by decide) (fun c_4 => ?_) (fun c_4 => ?_)
  · refine zt_iconst dX10_isWritable_18 ?_
    exact zt_zret dX10_isWritable_19 (by decide) ⟨zb0 (by omega), rfl, rfl, rfl⟩
  · refine zt_iload_n dX10_isWritable_7 rfl ?_
    refine zt_ldc_w dX10_isWritable_8 kc_X10_350 ?_
    refine zt_icmp_gt (tgt := 18) dX10_isWritable_11 (by decide) (by omega) (by decide) (fun c_11 => ?_) (fun c_11 => ?_)
    · refine zt_iconst dX10_isWritable_18 ?_
      exact zt_zret dX10_isWritable_19 (by decide) ⟨zb0 (by omega), rfl, rfl, rfl⟩
    · refine zt_iconst dX10_isWritable_14 ?_
      refine zt_goto (tgt := 19) dX10_isWritable_15 (by decide) ?_
      exact zt_zret dX10_isWritable_19 (by decide) ⟨zb1 (by omega), rfl, rfl, rfl⟩

set_option maxRecDepth 100000 in
set_option maxHeartbeats 4000000 in
theorem c_place {d n : Nat} {sh : zSh} {h : zMem} {x y : Int}  : zF yX11_place cX11_place 2 (some .int) (d + 0) 0 0 [(0, x), (0, y)] n sh h (some (0, 30 * x + y)) n sh h := by
  refine zF.ofT (by decide +kernel) [some (0, x), some (0, y)] rfl (Nat.le_of_ble_eq_true rfl) ?_
  refine zt_bipush dX11_place_0 (by decide) ?_
  refine zt_iload_n dX11_place_2 rfl ?_
  refine zt_imul dX11_place_3 ?_
  refine zt_iload_n dX11_place_4 rfl ?_
  refine zt_iadd dX11_place_5 ?_
  exact zt_iret dX11_place_6 ⟨rfl, rfl, rfl, rfl⟩

set_option maxRecDepth 100000 in
set_option maxHeartbeats 4000000 in
theorem c_min_ {d n : Nat} {sh : zSh} {h : zMem} {x y z : Int} (hx : zi64 x) (hy : zi64 y) (hz : zi64 z) : zF yX11_in cX11_in 6 (some .boolean) (d + 0) 0 0 [(1, x), (1, y), (1, z)] n sh h (some (0, zb (y ≤ x ∧ x ≤ z))) n sh h := by
  refine zF.ofT (by decide +kernel) [some (1, x), none, some (1, y), none, some (1, z), none] rfl (Nat.le_of_ble_eq_true rfl) ?_
  refine zt_lload_n dX11_in_0 rfl ?_
  refine zt_lload_n dX11_in_1 rfl ?_
  refine zt_lc_lt (tgt := 17) dX11_in_2 dX11_in_3 (by decide) (by omega) (by omega) (fun c_2 => ?_) (fun c_2 => ?_)
  · refine zt_iconst dX11_in_17 ?_
    exact zt_zret dX11_in_18 (by decide) ⟨zb0 (by omega), rfl, rfl, rfl⟩
  · refine zt_lload_n dX11_in_6 rfl ?_
    refine zt_lload dX11_in_7 rfl ?_
    refine zt_lc_gt (tgt := 17) dX11_in_9 dX11_in_10 (by decide) (by omega) (by omega) (fun c_9 => ?_) (fun c_9 => ?_)
    · refine zt_iconst dX11_in_17 ?_
      exact zt_zret dX11_in_18 (by decide) ⟨zb0 (by omega), rfl, rfl, rfl⟩
    · refine zt_iconst dX11_in_13 ?_
      refine zt_goto (tgt := 18) dX11_in_14 (by decide) ?_
      exact zt_zret dX11_in_18 (by decide) ⟨zb1 (by omega), rfl, rfl, rfl⟩

set_option maxRecDepth 100000 in
set_option maxHeartbeats 4000000 in
theorem c_mlet {d n : Nat} {sh : zSh} {h : zMem} {x : Int} (hx : zi32 x) : zF yX11_isLetter cX11_isLetter 1 (some .boolean) (d + 0) 0 0 [(0, x)] n sh h (some (0, zb (97 ≤ x ∧ x ≤ 122))) n sh h := by
  refine zF.ofT (by decide +kernel) [some (0, x)] rfl (Nat.le_of_ble_eq_true rfl) ?_
  refine zt_iload_n dX11_isLetter_0 rfl ?_
  refine zt_bipush dX11_isLetter_1 (by decide) ?_
  refine zt_icmp_lt (tgt := 16) dX11_isLetter_3 (by decide) (by omega) (by decide) (fun c_3 => ?_) (fun c_3 => ?_)
  · refine zt_iconst dX11_isLetter_16 ?_
    exact zt_zret dX11_isLetter_17 (by decide) ⟨zb0 (by omega), rfl, rfl, rfl⟩
  · refine zt_iload_n dX11_isLetter_6 rfl ?_
    refine zt_bipush dX11_isLetter_7 (by decide) ?_
    refine zt_icmp_gt (tgt := 16) dX11_isLetter_9 (by decide) (by omega) (by decide) (fun c_9 => ?_) (fun c_9 => ?_)
    · refine zt_iconst dX11_isLetter_16 ?_
      exact zt_zret dX11_isLetter_17 (by decide) ⟨zb0 (by omega), rfl, rfl, rfl⟩
    · refine zt_iconst dX11_isLetter_12 ?_
      refine zt_goto (tgt := 17) dX11_isLetter_13 (by decide) ?_
      exact zt_zret dX11_isLetter_17 (by decide) ⟨zb1 (by omega), rfl, rfl, rfl⟩

set_option maxRecDepth 100000 in
set_option maxHeartbeats 4000000 in
theorem c_mdig {d n : Nat} {sh : zSh} {h : zMem} {x : Int} (hx : zi32 x) : zF yX11_isDigit cX11_isDigit 1 (some .boolean) (d + 0) 0 0 [(0, x)] n sh h (some (0, zb (48 ≤ x ∧ x ≤ 57))) n sh h := by
  refine zF.ofT (by decide +kernel) [some (0, x)] rfl (Nat.le_of_ble_eq_true rfl) ?_
  refine zt_iload_n dX11_isDigit_0 rfl ?_
  refine zt_bipush dX11_isDigit_1 (by decide) ?_
  refine zt_icmp_lt (tgt := 16) dX11_isDigit_3 (by decide) (by omega) (by decide) (fun c_3 => ?_) (fun c_3 => ?_)
  · refine zt_iconst dX11_isDigit_16 ?_
    exact zt_zret dX11_isDigit_17 (by decide) ⟨zb0 (by omega), rfl, rfl, rfl⟩
  · refine zt_iload_n dX11_isDigit_6 rfl ?_
    refine zt_bipush dX11_isDigit_7 (by decide) ?_
    refine zt_icmp_gt (tgt := 16) dX11_isDigit_9 (by decide) (by omega) (by decide) (fun c_9 => ?_) (fun c_9 => ?_)
    · refine zt_iconst dX11_isDigit_16 ?_
      exact zt_zret dX11_isDigit_17 (by decide) ⟨zb0 (by omega), rfl, rfl, rfl⟩
    · refine zt_iconst dX11_isDigit_12 ?_
      refine zt_goto (tgt := 17) dX11_isDigit_13 (by decide) ?_
      exact zt_zret dX11_isDigit_17 (by decide) ⟨zb1 (by omega), rfl, rfl, rfl⟩

set_option maxRecDepth 100000 in
set_option maxHeartbeats 4000000 in
theorem c_clet {d n : Nat} {sh : zSh} {h : zMem} {x : Int} (hx : zi32 x) : zF yX4_isLetter cX4_isLetter 1 (some .boolean) (d + 0) 0 0 [(0, x)] n sh h (some (0, zb (97 ≤ x ∧ x ≤ 122))) n sh h := by
  refine zF.ofT (by decide +kernel) [some (0, x)] rfl (Nat.le_of_ble_eq_true rfl) ?_
  refine zt_iload_n dX4_isLetter_0 rfl ?_
  refine zt_bipush dX4_isLetter_1 (by decide) ?_
  refine zt_icmp_lt (tgt := 16) dX4_isLetter_3 (by decide) (by omega) (by decide) (fun c_3 => ?_) (fun c_3 => ?_)
  · refine zt_iconst dX4_isLetter_16 ?_
    exact zt_zret dX4_isLetter_17 (by decide) ⟨zb0 (by omega), rfl, rfl, rfl⟩
  · refine zt_iload_n dX4_isLetter_6 rfl ?_
    refine zt_bipush dX4_isLetter_7 (by decide) ?_
    refine zt_icmp_gt (tgt := 16) dX4_isLetter_9 (by decide) (by omega) (by decide) (fun c_9 => ?_) (fun c_9 => ?_)
    · refine zt_iconst dX4_isLetter_16 ?_
      exact zt_zret dX4_isLetter_17 (by decide) ⟨zb0 (by omega), rfl, rfl, rfl⟩
    · refine zt_iconst dX4_isLetter_12 ?_
      refine zt_goto (tgt := 17) dX4_isLetter_13 (by decide) ?_
      exact zt_zret dX4_isLetter_17 (by decide) ⟨zb1 (by omega), rfl, rfl, rfl⟩

set_option maxRecDepth 100000 in
set_option maxHeartbeats 4000000 in
theorem c_cdig {d n : Nat} {sh : zSh} {h : zMem} {x : Int} (hx : zi32 x) : zF yX4_isDigit cX4_isDigit 1 (some .boolean) (d + 0) 0 0 [(0, x)] n sh h (some (0, zb (48 ≤ x ∧ x ≤ 57))) n sh h := by
  refine zF.ofT (by decide +kernel) [some (0, x)] rfl (Nat.le_of_ble_eq_true rfl) ?_
  refine zt_iload_n dX4_isDigit_0 rfl ?_
  refine zt_bipush dX4_isDigit_1 (by decide) ?_
  refine zt_icmp_lt (tgt := 16) dX4_isDigit_3 (by decide) (by omega) (by decide) (fun c_3 => ?_) (fun c_3 => ?_)
  · refine zt_iconst dX4_isDigit_16 ?_
    exact zt_zret dX4_isDigit_17 (by decide) ⟨zb0 (by omega), rfl, rfl, rfl⟩
  · refine zt_iload_n dX4_isDigit_6 rfl ?_
    refine zt_bipush dX4_isDigit_7 (by decide) ?_
    refine zt_icmp_gt (tgt := 16) dX4_isDigit_9 (by decide) (by omega) (by decide) (fun c_9 => ?_) (fun c_9 => ?_)
    · refine zt_iconst dX4_isDigit_16 ?_
      exact zt_zret dX4_isDigit_17 (by decide) ⟨zb0 (by omega), rfl, rfl, rfl⟩
    · refine zt_iconst dX4_isDigit_12 ?_
      refine zt_goto (tgt := 17) dX4_isDigit_13 (by decide) ?_
      exact zt_zret dX4_isDigit_17 (by decide) ⟨zb1 (by omega), rfl, rfl, rfl⟩

theorem zflo {x y : Int} (hx : x < 0) (hy : 0 < y) : -(Int.tdiv (-x + y - 1) y) = x / y := by
  rw [Int.tdiv_eq_ediv_of_nonneg (by omega)]
  have h1 := Int.mul_ediv_add_emod x y
  have h2 := Int.emod_nonneg x (by omega : y ≠ 0)
  have h3 := Int.emod_lt_of_pos x hy
  have e : -x + y - 1 = (y - 1 - x % y) + y * -(x / y) := by rw [Int.mul_neg]; omega
  rw [e, Int.add_mul_ediv_left _ _ (by omega), Int.ediv_eq_zero_of_lt (by omega) (by omega)]
  omega

set_option maxRecDepth 100000 in
set_option maxHeartbeats 4000000 in
theorem c_floor {d n : Nat} {sh : zSh} {h : zMem} {x y : Int} (hn : -2000000000000000000 ≤ x ∧ x ≤ 2000000000000000000) (hd : 0 < y ∧ y ≤ 1000000000000000000) : zF yX11_floor cX11_floor 4 (some .long) (d + 0) 0 0 [(1, x), (1, y)] n sh h (some (1, x / y)) n sh h := by
  refine zF.ofT (by decide +kernel) [some (1, x), none, some (1, y), none] rfl (Nat.le_of_ble_eq_true rfl) ?_
  refine zt_lload_n dX11_floor_0 rfl ?_
  refine zt_lconst (v := 0) dX11_floor_1 rfl ?_
  refine zt_lc_lt (tgt := 12) dX11_floor_2 dX11_floor_3 (by decide) (by omega) (by decide) (fun c_2 => ?_) (fun c_2 => ?_)
  · refine zt_lload_n dX11_floor_12 rfl ?_
    refine zt_lneg dX11_floor_13 ?_
    refine zt_lload_n dX11_floor_14 rfl ?_
    refine zt_ladd dX11_floor_15 ?_
    refine zt_lconst (v := 1) dX11_floor_16 rfl ?_
    refine zt_lsub dX11_floor_17 ?_
    refine zt_lload_n dX11_floor_18 rfl ?_
    refine zt_ldiv dX11_floor_19 (by omega) (by omega) (by omega) ?_
    refine zt_lneg dX11_floor_20 ?_
    exact zt_lret dX11_floor_21 ⟨by congr 2; first | exact Int.tdiv_eq_ediv_of_nonneg (by omega) | exact zflo (by omega) (by omega), rfl, rfl, rfl⟩
  · refine zt_lload_n dX11_floor_6 rfl ?_
    refine zt_lload_n dX11_floor_7 rfl ?_
    refine zt_ldiv dX11_floor_8 (by omega) (by omega) (by omega) ?_
    refine zt_goto (tgt := 21) dX11_floor_9 (by decide) ?_
    exact zt_lret dX11_floor_21 ⟨by congr 2; first | exact Int.tdiv_eq_ediv_of_nonneg (by omega) | exact zflo (by omega) (by omega), rfl, rfl, rfl⟩
