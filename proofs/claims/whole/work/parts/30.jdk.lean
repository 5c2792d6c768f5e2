def zabs (x : Int) : Int := if x < 0 then -x else x
theorem zabs_n {x : Int} (h : x < 0) : zabs x = -x := if_pos h
theorem zabs_p {x : Int} (h : 0 ≤ x) : zabs x = x := if_neg (by omega)
def zmx (x y : Int) : Int := if x < y then y else x
def zmi (x y : Int) : Int := if y < x then y else x

set_option maxRecDepth 100000 in
set_option maxHeartbeats 4000000 in
theorem c_abs {d n : Nat} {sh : zSh} {h : zMem} {x : Int} (hx : zi32 x) : zF yJ9_abs_0f7a4 cJ9_abs_0f7a4 1 (some .int) (d + 0) 0 0 [(0, x)] n sh h (some (0, zabs x)) n sh h := by
  refine zF.ofTF (by decide +kernel) [some (0, x)] rfl (Nat.le_of_ble_eq_true rfl) ?_
  refine zt_iload_n dJ9_abs_0f7a4_0 rfl ?_
  refine zt_if_ge (tgt := 9) dJ9_abs_0f7a4_1 (by decide) (by omega) (fun c_1 => ?_) (fun c_1 => ?_)
  · refine zt_iload_n dJ9_abs_0f7a4_9 rfl ?_
    exact zt_iret dJ9_abs_0f7a4_10 ⟨by congr 2; unfold zabs; split <;> omega, rfl, rfl, rfl⟩
  · refine zt_iload_n dJ9_abs_0f7a4_4 rfl ?_
    refine zt_ineg dJ9_abs_0f7a4_5 ?_
    refine zt_goto (tgt := 10) dJ9_abs_0f7a4_6 (by decide) ?_
    exact zt_iret dJ9_abs_0f7a4_10 ⟨by congr 2; unfold zabs; split <;> omega, rfl, rfl, rfl⟩

set_option maxRecDepth 100000 in
set_option maxHeartbeats 4000000 in
theorem c_labs {d n : Nat} {sh : zSh} {h : zMem} {x : Int} (hx : zi64 x) : zF yJ9_abs_067f4 cJ9_abs_067f4 2 (some .long) (d + 0) 0 0 [(1, x)] n sh h (some (1, zabs x)) n sh h := by
  refine zF.ofTF (by decide +kernel) [some (1, x), none] rfl (Nat.le_of_ble_eq_true rfl) ?_
  refine zt_lload_n dJ9_abs_067f4_0 rfl ?_
  refine zt_lconst (v := 0) dJ9_abs_067f4_1 rfl ?_
  refine zt_lc_ge (tgt := 11) dJ9_abs_067f4_2 dJ9_abs_067f4_3 (by decide) (by omega) (by decide) (fun c_2 => ?_) (fun c_2 => ?_)
  · refine zt_lload_n dJ9_abs_067f4_11 rfl ?_
    exact zt_lret dJ9_abs_067f4_12 ⟨by congr 2; unfold zabs; split <;> omega, rfl, rfl, rfl⟩
  · refine zt_lload_n dJ9_abs_067f4_6 rfl ?_
    refine zt_lneg dJ9_abs_067f4_7 ?_
    refine zt_goto (tgt := 12) dJ9_abs_067f4_8 (by decide) ?_
    exact zt_lret dJ9_abs_067f4_12 ⟨by congr 2; unfold zabs; split <;> omega, rfl, rfl, rfl⟩

set_option maxRecDepth 100000 in
set_option maxHeartbeats 4000000 in
theorem c_max {d n : Nat} {sh : zSh} {h : zMem} {x y : Int} (hx : zi32 x) (hy : zi32 y) : zF yJ9_max_7cf53 cJ9_max_7cf53 2 (some .int) (d + 0) 0 0 [(0, x), (0, y)] n sh h (some (0, zmx x y)) n sh h := by
  refine zF.ofTF (by decide +kernel) [some (0, x), some (0, y)] rfl (Nat.le_of_ble_eq_true rfl) ?_
  refine zt_iload_n dJ9_max_7cf53_0 rfl ?_
  refine zt_iload_n dJ9_max_7cf53_1 rfl ?_
  refine zt_icmp_lt (tgt := 9) dJ9_max_7cf53_2 (by decide) (by omega) (by omega) (fun c_2 => ?_) (fun c_2 => ?_)
  · refine zt_iload_n dJ9_max_7cf53_9 rfl ?_
    exact zt_iret dJ9_max_7cf53_10 ⟨by congr 2; unfold zmx; split <;> omega, rfl, rfl, rfl⟩
  · refine zt_iload_n dJ9_max_7cf53_5 rfl ?_
    refine zt_goto (tgt := 10) dJ9_max_7cf53_6 (by decide) ?_
    exact zt_iret dJ9_max_7cf53_10 ⟨by congr 2; unfold zmx; split <;> omega, rfl, rfl, rfl⟩

set_option maxRecDepth 100000 in
set_option maxHeartbeats 4000000 in
theorem c_min {d n : Nat} {sh : zSh} {h : zMem} {x y : Int} (hx : zi32 x) (hy : zi32 y) : zF yJ9_min_7cf53 cJ9_min_7cf53 2 (some .int) (d + 0) 0 0 [(0, x), (0, y)] n sh h (some (0, zmi x y)) n sh h := by
  refine zF.ofTF (by decide +kernel) [some (0, x), some (0, y)] rfl (Nat.le_of_ble_eq_true rfl) ?_
  refine zt_iload_n dJ9_min_7cf53_0 rfl ?_
  refine zt_iload_n dJ9_min_7cf53_1 rfl ?_
  refine zt_icmp_gt (tgt := 9) dJ9_min_7cf53_2 (by decide) (by omega) (by omega) (fun c_2 => ?_) (fun c_2 => ?_)
  · refine zt_iload_n dJ9_min_7cf53_9 rfl ?_
    exact zt_iret dJ9_min_7cf53_10 ⟨by congr 2; unfold zmi; split <;> omega, rfl, rfl, rfl⟩
  · refine zt_iload_n dJ9_min_7cf53_5 rfl ?_
    refine zt_goto (tgt := 10) dJ9_min_7cf53_6 (by decide) ?_
    exact zt_iret dJ9_min_7cf53_10 ⟨by congr 2; unfold zmi; split <;> omega, rfl, rfl, rfl⟩

set_option maxRecDepth 100000 in
set_option maxHeartbeats 4000000 in
theorem c_lcompare {d n : Nat} {sh : zSh} {h : zMem} {x y : Int} (hx : zi64 x) (hy : zi64 y) : zF yJ13_compare_74951 cJ13_compare_74951 4 (some .int) (d + 0) 0 0 [(1, x), (1, y)] n sh h (some (0, zcmp x y)) n sh h := by
  refine zF.ofTF (by decide +kernel) [some (1, x), none, some (1, y), none] rfl (Nat.le_of_ble_eq_true rfl) ?_
  refine zt_lload_n dJ13_compare_74951_0 rfl ?_
  refine zt_lload_n dJ13_compare_74951_1 rfl ?_
  refine zt_lc_ge (tgt := 10) dJ13_compare_74951_2 dJ13_compare_74951_3 (by decide) (by omega) (by omega) (fun c_2 => ?_) (fun c_2 => ?_)
  · refine zt_lload_n dJ13_compare_74951_10 rfl ?_
    refine zt_lload_n dJ13_compare_74951_11 rfl ?_
    refine zt_lc_ne (tgt := 20) dJ13_compare_74951_12 dJ13_compare_74951_13 (by decide) (by omega) (by omega) (fun c_12 => ?_) (fun c_12 => ?_)
    · refine zt_iconst dJ13_compare_74951_20 ?_
      exact zt_iret dJ13_compare_74951_21 ⟨by congr 2; unfold zcmp; split <;> (try split) <;> omega, rfl, rfl, rfl⟩
    · refine zt_iconst dJ13_compare_74951_16 ?_
      refine zt_goto (tgt := 21) dJ13_compare_74951_17 (by decide) ?_
      exact zt_iret dJ13_compare_74951_21 ⟨by congr 2; unfold zcmp; split <;> (try split) <;> omega, rfl, rfl, rfl⟩
  · refine zt_iconst dJ13_compare_74951_6 ?_
    refine zt_goto (tgt := 21) dJ13_compare_74951_7 (by decide) ?_
    exact zt_iret dJ13_compare_74951_21 ⟨by congr 2; unfold zcmp; split <;> (try split) <;> omega, rfl, rfl, rfl⟩
