def zabs (x : Int) : Int := if x < 0 then -x else x
theorem zabs_n {x : Int} (h : x < 0) : zabs x = -x := if_pos h
theorem zabs_p {x : Int} (h : 0 ≤ x) : zabs x = x := if_neg (by omega)
def zmx (x y : Int) : Int := if x < y then y else x
def zmi (x y : Int) : Int := if y < x then y else x

set_option maxRecDepth 100000 in
set_option maxHeartbeats 4000000 in
theorem c_abs {d n : Nat} {sh : zSh} {h : zMem} {x : Int} (hx : zi32 x) : zF yJ9_abs_0f7a4 cJ9_abs_0f7a4 1 (some .int) (d + 0) 0 0 [(0, x)] n sh h (some (0, zabs x)) n sh h := by
  refine zF.ofTF (by decide +kernel) [some (0, x)] rfl (Nat.le_of_ble_eq_true rfl) ?_
  refine zt_iload_n dJ9_abs_0f7a4_0 rfl ?_
  refine zt_if_ge (tgt := 9) dJ9_abs_0f7a4_1 (by decide) (by omega) (fun c_1 => ?_) (fun c_1 => ?_)
  · refine zt_iload_n dJ9_abs_0f7a4_9 rfl ?_
    exact zt_iret dJ9_abs_0f7a4_10 ⟨by congr 2; unfold zabs; split <;> omega, rfl, rfl, rfl⟩
  · refine zt_iload_n dJ9_abs_0f7a4_4 rfl ?_
    refine zt_ineg dJ9_abs_0f7a4_5 ?_
    refine zt_goto (tgt := 10) dJ9_abs_0f7a4_6 (by decide) ?_
    exact zt_iret dJ9_abs_0f7a4_10 ⟨by congr 2; unfold zabs; split <;> omega, rfl, rfl, rfl⟩

set_option maxRecDepth 100000 in
set_option maxHeartbeats 4000000 in
theorem c_labs {d n : Nat} {sh : zSh} {h : zMem} {x : Int} (hx : zi64 x) : zF yJ9_abs_067f4 cJ9_abs_067f4 2 (some .long) (d + 0) 0 0 [(1, x)] n sh h (some (1, zabs x)) n sh h := by
  refine zF.ofTF (by decide +kernel) [some (1, x), none] rfl (Nat.le_of_ble_eq_true rfl) ?_
  refine zt_lload_n dJ9_abs_067f4_0 rfl ?_
  refine zt_lconst (v := 0) dJ9_abs_067f4_1 rfl ?_
  refine zt_lc_ge (tgt := 11) dJ9_abs_067f4_2 dJ9_abs_067f4_3 (by decide) (by omega) (by decide) (fun c_2 => ?_) (fun c_2 => ?_)
  · refine zt_lload_n dJ9_abs_067f4_11 rfl ?_
    exact zt_lret dJ9_abs_067f4_12 ⟨by congr 2; unfold zabs; split <;> omega, rfl, rfl, rfl⟩
  · refine zt_lload_n dJ9_abs_067f4_6 rfl ?_
    refine zt_lneg dJ9_abs_067f4_7 ?_
    refine zt_goto (tgt := 12) dJ9_abs_067f4_8 (by decide) ?_
    exact zt_lret dJ9_abs_067f4_12 ⟨by congr 2; unfold zabs; split <;> omega, rfl, rfl, rfl⟩

set_option maxRecDepth 100000 in
set_option maxHeartbeats 4000000 in
theorem c_max {d n : Nat} {sh : zSh} {h : zMem} {x y : Int} (hx : zi32 x) (hy : zi32 y) : zF yJ9_max_7cf53 cJ9_max_7cf53 2 (some .int) (d + 0) 0 0 [(0, x), (0, y)] n sh h (some (0, zmx x y)) n sh h := by
  refine zF.ofTF (by decide +kernel) [some (0, x), some (0, y)] rfl (Nat.le_of_ble_eq_true rfl) ?_
  refine zt_iload_n dJ9_max_7cf53_0 rfl ?_
  refine zt_iload_n dJ9_max_7cf53_1 rfl ?_
  refine zt_icmp_lt (tgt := 9) dJ9_max_7cf53_2 (by decide) (by omega) (by omega) (fun c_2 => ?_) (fun c_2 => ?_)
  · refine zt_iload_n dJ9_max_7cf53_9 rfl ?_
    exact zt_iret dJ9_max_7cf53_10 ⟨by congr 2; unfold zmx; split <;> omega, rfl, rfl, rfl⟩
  · refine zt_iload_n dJ9_max_7cf53_5 rfl ?_
    refine zt_goto (tgt := 10) dJ9_max_7cf53_6 (by decide) ?_
    exact zt_iret dJ9_max_7cf53_10 ⟨by congr 2; unfold zmx; split <;> omega, rfl, rfl, rfl⟩

set_option maxRecDepth 100000 in
set_option maxHeartbeats 4000000 in
theorem c_min {d n : Nat} {sh : zSh} {h : zMem} {x y : Int} (hx : zi32 x) (hy : zi32 y) : zF yJ9_min_7cf53 cJ9_min_7cf53 2 (some .int) (d + 0) 0 0 [(0, x), (0, y)] n sh h (some (0, zmi x y)) n sh h := by
  refine zF.ofTF (by decide +kernel) [some (0, x), some (0, y)] rfl (Nat.le_of_ble_eq_true rfl) ?_
  refine zt_iload_n dJ9_min_7cf53_0 rfl ?_
  refine zt_iload_n dJ9_min_7cf53_1 rfl ?_
  refine zt_icmp_gt (tgt := 9) dJ9_min_7cf53_2 (by decide) (by omega) (by omega) (fun c_2 => ?_) (fun c_2 => ?_)
  · refine zt_iload_n dJ9_min_7cf53_9 rfl ?_
    exact zt_iret dJ9_min_7cf53_10 ⟨by congr 2; unfold zmi; split <;> omega, rfl, rfl, rfl⟩
  · refine zt_iload_n dJ9_min_7cf53_5 rfl ?_
    refine zt_goto (tgt := 10) dJ9_min_7cf53_6 (by decide) ?_
    exact zt_iret dJ9_min_7cf53_10 ⟨by congr 2; unfold zmi; split <;> omega, rfl, rfl, rfl⟩

set_option maxRecDepth 100000 in
set_option maxHeartbeats 4000000 in
theorem c_lcompare {d n : Nat} {sh : zSh} {h : zMem} {x y : Int} (hx : zi64 x) (hy : zi64 y) : zF yJ13_compare_74951 cJ13_compare_74951 4 (some .int) (d + 0) 0 0 [(1, x), (1, y)] n sh h (some (0, zcmp x y)) n sh h := by
  refine zF.ofTF (by decide +kernel) [some (1, x), none, some (1, y), none] rfl (Nat.le_of_ble_eq_true rfl) ?_
  refine zt_lload_n dJ13_compare_74951_0 rfl ?_
  refine zt_lload_n dJ13_compare_74951_1 rfl ?_
  refine zt_lc_ge (tgt := 10) dJ13_compare_74951_2 dJ13_compare_74951_3 (by decide) (by omega) (by omega) (fun c_2 => ?_) (fun c_2 => ?_)
  · refine zt_lload_n dJ13_compare_74951_10 rfl ?_
    refine zt_lload_n dJ13_compare_74951_11 rfl ?_
    refine zt_lc_ne (tgt := 20) dJ13_compare_74951_12 dJ13_compare_74951_13 (by decide) (by omega) (by omega) (fun c_12 => ?_) (fun c_12 => ?_)
    · refine zt_iconst dJ13_compare_74951_20 ?_
      exact zt_iret dJ13_compare_74951_21 ⟨by congr 2; unfold zcmp; split <;> (try split) <;> omega, rfl, rfl, rfl⟩
    · refine zt_iconst dJ13_compare_74951_16 ?_
      refine zt_goto (tgt := 21) dJ13_compare_74951_17 (by decide) ?_
      exact zt_iret dJ13_compare_74951_21 ⟨by congr 2; unfold zcmp; split <;> (try split) <;> omega, rfl, rfl, rfl⟩
  · refine zt_iconst dJ13_compare_74951_6 ?_
    refine zt_goto (tgt := 21) dJ13_compare_74951_7 (by decide) ?_
    exact zt_iret dJ13_compare_74951_21 ⟨by congr 2; unfold zcmp; split <;> (try split) <;> omega, rfl, rfl, rfl⟩

def zfil (h : zMem) (a N v : Int) : zMem := fun x y => if x = a ∧ 0 ≤ y ∧ y < N then v else h x y
theorem zfil_0 {h : zMem} {a v : Int} : zfil h a 0 v = h := zmem_ext (fun x y => by unfold zfil; rw [if_neg (by omega)])
theorem zfil_s {h : zMem} {a i v : Int} (h0 : 0 ≤ i) : zup (zfil h a i v) a i v = zfil h a (i + 1) v := zmem_ext (fun x y => by
  unfold zup zfil
  by_cases h1 : x = a ∧ y = i
  · rw [if_pos h1, if_pos (by omega)]
  · rw [if_neg h1]
    by_cases h2 : x = a ∧ 0 ≤ y ∧ y < i
    · rw [if_pos h2, if_pos (by omega)]
    · rw [if_neg h2, if_neg (by omega)])
theorem zfil_in {h : zMem} {a N v y : Int} (h1 : 0 ≤ y ∧ y < N) : zfil h a N v a y = v := if_pos ⟨rfl, h1⟩
theorem zfil_ne {h : zMem} {a N v x : Int} (h1 : x ≠ a) : zfil h a N v x = h x := by
  funext y; exact if_neg (fun q => h1 q.1)

set_option maxRecDepth 100000 in
set_option maxHeartbeats 4000000 in
theorem l_fillI {d n : Nat} {sh : zSh} {h : zMem} {a v : Int} {N0 : Nat} (hs : sh a = (100, N0)) (hN : N0 ≤ 100000) (hv : zi32 v) : ∀ (k : Nat) (i : Int), N0 - i < (k : Int) → 0 ≤ i → i ≤ N0 → zT yJ7_fill_53178 cJ7_fill_53178 4 none (d + 0) 0 0 (zq none n sh (zfil h a N0 v)) 5 [some (2, a), some (0, v), some (0, i), some (0, (N0 : Int))] [] n sh (zfil h a i v) := by
  intro k
  induction k with
  | zero => intros; exfalso; omega
  | succ k ih =>
    intro i hk h0 h1
    refine zt_iload_n dJ7_fill_53178_5 rfl ?_
    refine zt_iload_n dJ7_fill_53178_6 rfl ?_
    refine zt_icmp_ge (tgt := 20) dJ7_fill_53178_7 (by decide) (by omega) (by omega) (fun c_7 => ?_) (fun c_7 => ?_)
    · exact zt_vret dJ7_fill_53178_20 ⟨rfl, rfl, rfl, by rw [show i = (N0 : Int) by omega]⟩
    · refine zt_aload_n dJ7_fill_53178_10 rfl ?_
      refine zt_iload_n dJ7_fill_53178_11 rfl ?_
      refine zt_iload_n dJ7_fill_53178_12 rfl ?_
      refine zt_iastore dJ7_fill_53178_13 hs (by omega) (by omega) (by omega) (by omega) ?_
      refine zt_iinc_2 dJ7_fill_53178_14 (by decide) rfl ?_
      refine zt_goto (tgt := 5) dJ7_fill_53178_17 (by decide) ?_
      rw [zfil_s (by omega)]
      exact ih (i + 1) (by omega) (by omega) (by omega)

set_option maxRecDepth 100000 in
set_option maxHeartbeats 4000000 in
theorem c_fillI {d n : Nat} {sh : zSh} {h : zMem} {a v : Int} {N0 : Nat} (hs : sh a = (100, N0)) (hN : N0 ≤ 100000) (hv : zi32 v) : zF yJ7_fill_53178 cJ7_fill_53178 4 none (d + 0) 0 0 [(2, a), (0, v)] n sh h none n sh (zfil h a N0 v) := by
  refine zF.ofTF (by decide +kernel) [some (2, a), some (0, v), none, none] rfl (Nat.le_of_ble_eq_true rfl) ?_
  refine zt_iconst dJ7_fill_53178_0 ?_
  refine zt_istore_n_2 dJ7_fill_53178_1 (by decide) rfl ?_
  refine zt_aload_n dJ7_fill_53178_2 rfl ?_
  refine zt_alenv (v := (N0 : Int)) dJ7_fill_53178_3 hs (by decide) (by decide) rfl ?_
  refine zt_istore_n_3 dJ7_fill_53178_4 (by decide) rfl ?_
  have e := l_fillI (d := d) (n := n) (h := h) hs hN hv (N0 + 1) 0 (by omega) (by omega) (by omega)
  rw [zfil_0] at e
  exact e

set_option maxRecDepth 100000 in
set_option maxHeartbeats 4000000 in
theorem l_fillJ {d n : Nat} {sh : zSh} {h : zMem} {a v : Int} {N0 : Nat} (hs : sh a = (101, N0)) (hN : N0 ≤ 100000) (hv : zi64 v) : ∀ (k : Nat) (i : Int), N0 - i < (k : Int) → 0 ≤ i → i ≤ N0 → zT yJ7_fill_d0a16 cJ7_fill_d0a16 5 none (d + 0) 0 0 (zq none n sh (zfil h a N0 v)) 6 [some (2, a), some (1, v), none, some (0, i), some (0, (N0 : Int))] [] n sh (zfil h a i v) := by
  intro k
  induction k with
  | zero => intros; exfalso; omega
  | succ k ih =>
    intro i hk h0 h1
    refine zt_iload_n dJ7_fill_d0a16_6 rfl ?_
    refine zt_iload dJ7_fill_d0a16_7 rfl ?_
    refine zt_icmp_ge (tgt := 22) dJ7_fill_d0a16_9 (by decide) (by omega) (by omega) (fun c_9 => ?_) (fun c_9 => ?_)
    · exact zt_vret dJ7_fill_d0a16_22 ⟨rfl, rfl, rfl, by rw [show i = (N0 : Int) by omega]⟩
    · refine zt_aload_n dJ7_fill_d0a16_12 rfl ?_
      refine zt_iload_n dJ7_fill_d0a16_13 rfl ?_
      refine zt_lload_n dJ7_fill_d0a16_14 rfl ?_
      refine zt_lastore dJ7_fill_d0a16_15 hs (by omega) (by omega) (by omega) (by omega) ?_
      refine zt_iinc_3 dJ7_fill_d0a16_16 (by decide) rfl ?_
      refine zt_goto (tgt := 6) dJ7_fill_d0a16_19 (by decide) ?_
      rw [zfil_s (by omega)]
      exact ih (i + 1) (by omega) (by omega) (by omega)

set_option maxRecDepth 100000 in
set_option maxHeartbeats 4000000 in
theorem c_fillJ {d n : Nat} {sh : zSh} {h : zMem} {a v : Int} {N0 : Nat} (hs : sh a = (101, N0)) (hN : N0 ≤ 100000) (hv : zi64 v) : zF yJ7_fill_d0a16 cJ7_fill_d0a16 5 none (d + 0) 0 0 [(2, a), (1, v)] n sh h none n sh (zfil h a N0 v) := by
  refine zF.ofTF (by decide +kernel) [some (2, a), some (1, v), none, none, none] rfl (Nat.le_of_ble_eq_true rfl) ?_
  refine zt_iconst dJ7_fill_d0a16_0 ?_
  refine zt_istore_n_3 dJ7_fill_d0a16_1 (by decide) rfl ?_
  refine zt_aload_n dJ7_fill_d0a16_2 rfl ?_
  refine zt_alenv (v := (N0 : Int)) dJ7_fill_d0a16_3 hs (by decide) (by decide) rfl ?_
  refine zt_istore_4 dJ7_fill_d0a16_4 (by decide) rfl ?_
  have e := l_fillJ (d := d) (n := n) (h := h) hs hN hv (N0 + 1) 0 (by omega) (by omega) (by omega)
  rw [zfil_0] at e
  exact e

theorem zmsb {x : Int} (hx : zi64 x) : (Int64.ofInt x).toBitVec.msb = decide (x < 0) := by
  rw [BitVec.msb_eq_toInt]
  show decide ((Int64.ofInt x).toInt < 0) = _
  rw [zi64_t hx]
theorem zxor_s {x y : Int} (hx : zi64 x) (hy : zi64 y) (h0 : 0 < y) : (Int64.ofInt x ^^^ Int64.ofInt y).toInt < 0 ↔ x < 0 := by
  have h1 : (Int64.ofInt x ^^^ Int64.ofInt y).toBitVec.msb = decide ((Int64.ofInt x ^^^ Int64.ofInt y).toInt < 0) := BitVec.msb_eq_toInt
  rw [Int64.toBitVec_xor, BitVec.msb_xor, zmsb hx, zmsb hy] at h1
  have h2 : decide (y < 0) = false := by simp; omega
  rw [h2] at h1
  simp only [Bool.xor_false] at h1
  constructor
  · intro q; have : decide ((Int64.ofInt x ^^^ Int64.ofInt y).toInt < 0) = true := decide_eq_true q
    rw [← h1] at this; exact of_decide_eq_true this
  · intro q; have : decide (x < 0) = true := decide_eq_true q
    rw [h1] at this; exact of_decide_eq_true this
theorem ztdm {x y : Int} (h0 : 0 < y) : y * Int.tdiv x y + Int.tmod x y = x := Int.mul_tdiv_add_tmod x y
theorem ztm_p {x y : Int} (h0 : 0 < y) (hx : 0 ≤ x) : Int.tmod x y = x % y ∧ Int.tdiv x y = x / y := ⟨Int.tmod_eq_emod_of_nonneg hx, Int.tdiv_eq_ediv_of_nonneg hx⟩
theorem ztm_n {x y : Int} (h0 : 0 < y) (hx : x < 0) : (Int.tmod x y = 0 ∧ x % y = 0 ∧ Int.tdiv x y = x / y) ∨ (Int.tmod x y ≠ 0 ∧ x % y = Int.tmod x y + y ∧ x / y = Int.tdiv x y - 1) := by
  have h1 : Int.tmod x y = -(-x % y) := by rw [← Int.tmod_eq_emod_of_nonneg (by omega : 0 ≤ -x), Int.neg_tmod, Int.neg_neg]
  have h2 := Int.mul_tdiv_add_tmod x y
  have h3 := Int.mul_ediv_add_emod x y
  have h4 := Int.emod_nonneg (-x) (by omega : y ≠ 0)
  have h5 := Int.emod_lt_of_pos (-x) h0
  have h6 := Int.emod_nonneg x (by omega : y ≠ 0)
  have h7 := Int.emod_lt_of_pos x h0
  generalize Int.tmod x y = tm at *
  generalize Int.tdiv x y = td at *
  generalize x / y = q at *
  generalize x % y = r at *
  generalize -x % y = r' at *
  have h8 : y * (td - q) = r - tm := by rw [Int.mul_sub]; omega
  have h9 : td - q = 0 ∨ td - q = 1 := by
    have : td - q < 2 := Int.lt_of_mul_lt_mul_left (by rw [h8]; omega) (Int.le_of_lt h0)
    have : -1 < td - q := Int.lt_of_mul_lt_mul_left (by rw [h8]; omega) (Int.le_of_lt h0)
    omega
  rcases h9 with h9 | h9
  · rw [h9] at h8; left; omega
  · rw [h9] at h8; right; omega

theorem zem_le {x y : Int} (hx : 0 ≤ x) (hy : 0 < y) : x % y ≤ x := by
  have h1 := Int.mul_ediv_add_emod x y
  have h2 : 0 ≤ y * (x / y) := Int.mul_nonneg (Int.le_of_lt hy) (Int.ediv_nonneg hx (Int.le_of_lt hy))
  omega
theorem ztm_r {x y : Int} (hx : zi64 x) (h0 : 0 < y) : zi64 (Int.tmod x y) := by
  rcases (show 0 ≤ x ∨ x < 0 by omega) with h1 | h1
  · have := (ztm_p h0 h1).1; have := Int.emod_nonneg x (by omega : y ≠ 0); have := zem_le h1 h0; omega
  · have := ztm_n h0 h1
    have h2 := Int.mul_tdiv_add_tmod x y
    have h3 : Int.tmod x y = -((-x) % y) := by rw [← Int.tmod_eq_emod_of_nonneg (by omega : 0 ≤ -x), Int.neg_tmod, Int.neg_neg]
    have h4 := Int.emod_nonneg (-x) (by omega : y ≠ 0)
    have h5 : -x % y ≤ -x := zem_le (by omega) h0
    omega
theorem zxor_ge {x y : Int} (hx : zi64 x) (hy : zi64 y) (h0 : 0 < y) : 0 ≤ (Int64.ofInt x ^^^ Int64.ofInt y).toInt ↔ 0 ≤ x := by
  have := zxor_s hx hy h0; omega

set_option maxRecDepth 100000 in
set_option maxHeartbeats 4000000 in
theorem c_fmod {d n : Nat} {sh : zSh} {h : zMem} {x y : Int} (hx : zi64 x) (hy : zi64 y) (h0 : 0 < y) : zF yJ9_floorMod_f86c9 cJ9_floorMod_f86c9 6 (some .long) (d + 0) 0 0 [(1, x), (1, y)] n sh h (some (1, x % y)) n sh h := by
  refine zF.ofTF (by decide +kernel) [some (1, x), none, some (1, y), none, none, none] rfl (Nat.le_of_ble_eq_true rfl) ?_
  refine zt_lload_n dJ9_floorMod_f86c9_0 rfl ?_
  refine zt_lload_n dJ9_floorMod_f86c9_1 rfl ?_
  refine zt_lrem dJ9_floorMod_f86c9_2 hx hy (by omega) ?_
  refine zt_lstore_4 dJ9_floorMod_f86c9_3 (by decide) rfl ?_
  refine zt_lload_n dJ9_floorMod_f86c9_5 rfl ?_
  refine zt_lload_n dJ9_floorMod_f86c9_6 rfl ?_
  refine zt_lxor dJ9_floorMod_f86c9_7 ?_
  refine zt_lconst (v := 0) dJ9_floorMod_f86c9_8 rfl ?_
  refine zt_lc_ge (tgt := 25) dJ9_floorMod_f86c9_9 dJ9_floorMod_f86c9_10 (by decide) (zi64_in _) (by decide) (fun c_9 => ?_) (fun c_9 => ?_)
  · refine zt_lload dJ9_floorMod_f86c9_25 rfl ?_
    exact zt_lret dJ9_floorMod_f86c9_27 ⟨by congr 2; first | exact (ztm_p h0 ((zxor_ge hx hy h0).mp c_9)).1 | (have q := ztm_n h0 ((zxor_s hx hy h0).mp c_9); omega), rfl, rfl, rfl⟩
  · refine zt_lload dJ9_floorMod_f86c9_13 rfl ?_
    refine zt_lconst (v := 0) dJ9_floorMod_f86c9_15 rfl ?_
    refine zt_lc_eq (tgt := 25) dJ9_floorMod_f86c9_16 dJ9_floorMod_f86c9_17 (by decide) (ztm_r hx h0) (by decide) (fun c_16 => ?_) (fun c_16 => ?_)
    · refine zt_lload dJ9_floorMod_f86c9_25 rfl ?_
      exact zt_lret dJ9_floorMod_f86c9_27 ⟨by congr 2; first | exact (ztm_p h0 ((zxor_ge hx hy h0).mp c_9)).1 | (have q := ztm_n h0 ((zxor_s hx hy h0).mp c_9); omega), rfl, rfl, rfl⟩
    · refine zt_lload dJ9_floorMod_f86c9_20 rfl ?_
      refine zt_lload_n dJ9_floorMod_f86c9_22 rfl ?_
      refine zt_ladd dJ9_floorMod_f86c9_23 ?_
      exact zt_lret dJ9_floorMod_f86c9_24 ⟨by congr 2; first | exact (ztm_p h0 ((zxor_ge hx hy h0).mp c_9)).1 | (have q := ztm_n h0 ((zxor_s hx hy h0).mp c_9); omega), rfl, rfl, rfl⟩
