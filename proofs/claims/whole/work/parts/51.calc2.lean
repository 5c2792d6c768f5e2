def f1 (p : Int) (a : zFr) : zFr := if p = -6 then (-a.1, a.2) else if p = -7 then frt a.1 a.2 else (if 0 < a.2 then fr (a.1 / a.2) 1 else (0, 0))
theorem fr_x0 (x : Int) : fr x 0 = (0, 0) := fr_n (fun q => q.1 rfl)
theorem ediv_bd {a g B : Int} (ha : -B ≤ a ∧ a ≤ B) (hg : 0 < g) : -B ≤ a / g ∧ a / g ≤ B := by
  constructor
  · exact (Int.le_ediv_iff_mul_le hg).mpr (by have : B * 1 ≤ B * g := Int.mul_le_mul_of_nonneg_left (by omega) (by omega); rw [Int.neg_mul]; omega)
  · exact Int.ediv_le_of_le_mul hg (by have : B * 1 ≤ B * g := Int.mul_le_mul_of_nonneg_left (by omega) (by omega); omega)
theorem tmod_np {x y : Int} (h : x < 0) (h0 : 0 < y) : Int.tmod x y ≤ 0 ∧ x ≤ Int.tmod x y := by
  have h3 : Int.tmod x y = -((-x) % y) := by rw [← Int.tmod_eq_emod_of_nonneg (by omega : 0 ≤ -x), Int.neg_tmod, Int.neg_neg]
  have h4 := Int.emod_nonneg (-x) (by omega : y ≠ 0)
  have h5 : -x % y ≤ -x := zem_le (by omega) h0
  omega
theorem tdm_c {x y : Int} : Int.tdiv x y * y = x - Int.tmod x y := by have := Int.mul_tdiv_add_tmod x y; rw [Int.mul_comm]; omega

set_option maxRecDepth 100000 in
set_option maxHeartbeats 4000000 in
theorem c_fdiv {d n : Nat} {sh : zSh} {h : zMem} {x y : Int} (hx : zi64 x) (hy : zi64 y) (h0 : 0 < y) : zF yJ9_floorDiv_f86c9 cJ9_floorDiv_f86c9 6 (some .long) (d + 0) 0 0 [(1, x), (1, y)] n sh h (some (1, x / y)) n sh h := by
  refine zF.ofTF (by decide +kernel) [some (1, x), none, some (1, y), none, none, none] rfl (Nat.le_of_ble_eq_true rfl) ?_
  refine zt_lload_n dJ9_floorDiv_f86c9_0 rfl ?_
  refine zt_lload_n dJ9_floorDiv_f86c9_1 rfl ?_
  refine zt_ldiv dJ9_floorDiv_f86c9_2 hx hy (by omega) ?_
  refine zt_lstore_4 dJ9_floorDiv_f86c9_3 (by decide) rfl ?_
  refine zt_lload_n dJ9_floorDiv_f86c9_5 rfl ?_
  refine zt_lload_n dJ9_floorDiv_f86c9_6 rfl ?_
  refine zt_lxor dJ9_floorDiv_f86c9_7 ?_
  refine zt_lconst (v := 0) dJ9_floorDiv_f86c9_8 rfl ?_
  refine zt_lc_ge (tgt := 27) dJ9_floorDiv_f86c9_9 dJ9_floorDiv_f86c9_10 (by decide) (zi64_in _) (by decide) (fun c_9 => ?_) (fun c_9 => ?_)
  · refine zt_lload dJ9_floorDiv_f86c9_27 rfl ?_
    exact zt_lret dJ9_floorDiv_f86c9_29 ⟨by congr 2; first | exact (ztm_p h0 ((zxor_ge hx hy h0).mp c_9)).2 | omega, rfl, rfl, rfl⟩
  · refine zt_lload dJ9_floorDiv_f86c9_13 rfl ?_
    refine zt_lload_n dJ9_floorDiv_f86c9_15 rfl ?_
    refine zt_lmul dJ9_floorDiv_f86c9_16 ?_
    have hq := tdm_c (x := x) (y := y)
    have ht0 := tmod_np ((zxor_s hx hy h0).mp (by omega)) h0
    have hn0 := ztm_n h0 ((zxor_s hx hy h0).mp (by omega))
    refine zt_lload_n dJ9_floorDiv_f86c9_17 rfl ?_
    refine zt_lc_eq (tgt := 27) dJ9_floorDiv_f86c9_18 dJ9_floorDiv_f86c9_19 (by decide) (by have := (zxor_s hx hy h0).mp (by omega); omega) hx (fun c_18 => ?_) (fun c_18 => ?_)
    · refine zt_lload dJ9_floorDiv_f86c9_27 rfl ?_
      exact zt_lret dJ9_floorDiv_f86c9_29 ⟨by congr 2; first | exact (ztm_p h0 ((zxor_ge hx hy h0).mp c_9)).2 | omega, rfl, rfl, rfl⟩
    · refine zt_lload dJ9_floorDiv_f86c9_22 rfl ?_
      refine zt_lconst (v := 1) dJ9_floorDiv_f86c9_24 rfl ?_
      refine zt_lsub dJ9_floorDiv_f86c9_25 ?_
      exact zt_lret dJ9_floorDiv_f86c9_26 ⟨by congr 2; first | exact (ztm_p h0 ((zxor_ge hx hy h0).mp c_9)).2 | omega, rfl, rfl, rfl⟩

set_option maxRecDepth 100000 in
set_option maxHeartbeats 4000000 in
theorem c_ap1 {d n : Nat} {sh : zSh} {h : zMem} {p : Int} (hS : zShp sh) (hR : zRf h) (ht : 0 < h 5 2 ∧ h 5 2 ≤ 64) (hf : fok (cT h)) (hp : p = -6 ∨ p = -7 ∨ p = -8) : zF yX0_apply cX0_apply 6 none (d + 3) 0 0 [(2, 5), (0, p)] n sh h none n sh (cPush (cDrop h) (f1 p (cT h)).1 (f1 p (cT h)).2) := by
  refine zF.ofT (by decide +kernel) [some (2, 5), some (0, p), none, none, none, none] rfl (Nat.le_of_ble_eq_true rfl) ?_
  refine zt_rg (fun hm => ?_)
  refine zt_aload_n dX0_apply_0 rfl ?_
  refine zt_callV0r dX0_apply_1 ml_X0_26 (zs_5 hS) (Nat.le_of_ble_eq_true rfl) (c_cnum hS hR (by omega)) ?_
  obtain ⟨n1, hn1⟩ : ∃ n1, n1 = h 6 (h 5 2 - 1) := ⟨_, rfl⟩
  refine zt_topv (v := n1) hn1.symm ?_
  refine zt_lstore_n_2 dX0_apply_4 (by decide) rfl ?_
  refine zt_aload_n dX0_apply_5 rfl ?_
  refine zt_callV0r dX0_apply_6 ml_X0_30 (zs_5 hS) (Nat.le_of_ble_eq_true rfl) (c_cden hS hR (by omega)) ?_
  obtain ⟨d1, hd1⟩ : ∃ d1, d1 = h 7 (h 5 2 - 1) := ⟨_, rfl⟩
  refine zt_topv (v := d1) hd1.symm ?_
  refine zt_lstore_4 dX0_apply_9 (by decide) rfl ?_
  refine zt_aload_n dX0_apply_11 rfl ?_
  refine zt_callV0v dX0_apply_12 ml_X0_66 (zs_5 hS) (Nat.le_of_ble_eq_true rfl) (c_cdrop hS hR (by omega)) ?_
  have ho1 : (-1000000000 ≤ n1 ∧ n1 ≤ 1000000000) ∧ (0 ≤ d1 ∧ d1 ≤ 1000000000) := by rw [hn1, hd1]; exact ⟨hf.1, hf.2.1⟩
  refine zt_iload_n dX0_apply_15 rfl ?_
  rcases (show p = -8 ∨ p = -7 ∨ p = -6 ∨ (p < -8 ∨ -6 < p) by omega) with e_16 | e_16 | e_16 | e_16
  · refine zt_tableIn (off := 49) (tgt := 65) dX0_apply_16 (by omega) (by omega) (by omega) (by rw [e_16]; rfl) (by decide) ?_
    refine zt_aload_n dX0_apply_65 rfl ?_
    refine zt_lload dX0_apply_66 rfl ?_
    refine zt_lconst (v := 0) dX0_apply_68 rfl ?_
    refine zt_lc_le (tgt := 82) dX0_apply_69 dX0_apply_70 (by decide) (by omega) (by decide) (fun c_69 => ?_) (fun c_69 => ?_)
    · refine zt_lconst (v := 0) dX0_apply_82 rfl ?_
      refine zt_lload dX0_apply_83 rfl ?_
      refine zt_lconst (v := 0) dX0_apply_85 rfl ?_
      refine zt_lc_le (tgt := 94) dX0_apply_86 dX0_apply_87 (by decide) (by omega) (by decide) (fun c_86 => ?_) (fun c_86 => ?_)
      · refine zt_lconst (v := 0) dX0_apply_94 rfl ?_
        refine zt_callV2v dX0_apply_95 ml_X0_22 (zs_5 hS) (Nat.le_of_ble_eq_true rfl) (c_cpr (x := 0) (y := 0) hS (cDrop_rf hR) (by rw [cDrop_t]; omega) (by omega) (by omega)) ?_
        refine zt_goto (tgt := 109) dX0_apply_98 (by decide) ?_
        exact zt_vret dX0_apply_109 ⟨rfl, rfl, rfl, by rw [show cT h = (n1, d1) by unfold cT; rw [hn1, hd1]]; unfold f1; first | (exfalso; omega) | (rw [if_pos (by omega)]; done) | (rw [if_neg (by omega), if_pos (by omega)]; done) | (rw [if_neg (by omega), if_neg (by omega), if_pos (show 0 < (n1, d1).2 by show 0 < d1; omega)]; done) | (rw [if_neg (by omega), if_neg (by omega), if_neg (show ¬ 0 < (n1, d1).2 by show ¬ 0 < d1; omega)]; rw [fr_x0])⟩
      · refine zt_lconst (v := 1) dX0_apply_90 rfl ?_
        refine zt_goto (tgt := 95) dX0_apply_91 (by decide) ?_
        refine zt_callV2v dX0_apply_95 ml_X0_22 (zs_5 hS) (Nat.le_of_ble_eq_true rfl) (c_cpr (x := 0) (y := 1) hS (cDrop_rf hR) (by rw [cDrop_t]; omega) (by omega) (by omega)) ?_
        refine zt_goto (tgt := 109) dX0_apply_98 (by decide) ?_
        exact zt_vret dX0_apply_109 ⟨rfl, rfl, rfl, by rw [show cT h = (n1, d1) by unfold cT; rw [hn1, hd1]]; unfold f1; first | (exfalso; omega) | (rw [if_pos (by omega)]; done) | (rw [if_neg (by omega), if_pos (by omega)]; done) | (rw [if_neg (by omega), if_neg (by omega), if_pos (show 0 < (n1, d1).2 by show 0 < d1; omega)]; done) | (rw [if_neg (by omega), if_neg (by omega), if_neg (show ¬ 0 < (n1, d1).2 by show ¬ 0 < d1; omega)]; rw [fr_x0])⟩
    · refine zt_lload_n dX0_apply_73 rfl ?_
      refine zt_lload dX0_apply_74 rfl ?_
      refine zt_callS2r dX0_apply_76 ml_X0_78 (Nat.le_of_ble_eq_true rfl) (c_fdiv (by omega) (by omega) (by omega)) ?_
      have hfd := ediv_bd (a := n1) (g := d1) (B := 1000000000) (by omega) (by omega)
      refine zt_goto (tgt := 83) dX0_apply_79 (by decide) ?_
      refine zt_lload dX0_apply_83 rfl ?_
      refine zt_lconst (v := 0) dX0_apply_85 rfl ?_
      refine zt_lc_le (tgt := 94) dX0_apply_86 dX0_apply_87 (by decide) (by omega) (by decide) (fun c_86 => ?_) (fun c_86 => ?_)
      · refine zt_lconst (v := 0) dX0_apply_94 rfl ?_
        refine zt_callV2v dX0_apply_95 ml_X0_22 (zs_5 hS) (Nat.le_of_ble_eq_true rfl) (c_cpr (x := n1 / d1) (y := 0) hS (cDrop_rf hR) (by rw [cDrop_t]; omega) (by omega) (by omega)) ?_
        refine zt_goto (tgt := 109) dX0_apply_98 (by decide) ?_
        exact zt_vret dX0_apply_109 ⟨rfl, rfl, rfl, by rw [show cT h = (n1, d1) by unfold cT; rw [hn1, hd1]]; unfold f1; first | (exfalso; omega) | (rw [if_pos (by omega)]; done) | (rw [if_neg (by omega), if_pos (by omega)]; done) | (rw [if_neg (by omega), if_neg (by omega), if_pos (show 0 < (n1, d1).2 by show 0 < d1; omega)]; done) | (rw [if_neg (by omega), if_neg (by omega), if_neg (show ¬ 0 < (n1, d1).2 by show ¬ 0 < d1; omega)]; rw [fr_x0])⟩
      · refine zt_lconst (v := 1) dX0_apply_90 rfl ?_
        refine zt_goto (tgt := 95) dX0_apply_91 (by decide) ?_
        refine zt_callV2v dX0_apply_95 ml_X0_22 (zs_5 hS) (Nat.le_of_ble_eq_true rfl) (c_cpr (x := n1 / d1) (y := 1) hS (cDrop_rf hR) (by rw [cDrop_t]; omega) (by omega) (by omega)) ?_
        refine zt_goto (tgt := 109) dX0_apply_98 (by decide) ?_
        exact zt_vret dX0_apply_109 ⟨rfl, rfl, rfl, by rw [show cT h = (n1, d1) by unfold cT; rw [hn1, hd1]]; unfold f1; first | (exfalso; omega) | (rw [if_pos (by omega)]; done) | (rw [if_neg (by omega), if_pos (by omega)]; done) | (rw [if_neg (by omega), if_neg (by omega), if_pos (show 0 < (n1, d1).2 by show 0 < d1; omega)]; done) | (rw [if_neg (by omega), if_neg (by omega), if_neg (show ¬ 0 < (n1, d1).2 by show ¬ 0 < d1; omega)]; rw [fr_x0])⟩
  · refine zt_tableIn (off := 39) (tgt := 55) dX0_apply_16 (by omega) (by omega) (by omega) (by rw [e_16]; rfl) (by decide) ?_
    refine zt_aload_n dX0_apply_55 rfl ?_
    refine zt_lload_n dX0_apply_56 rfl ?_
    refine zt_lload dX0_apply_57 rfl ?_
    refine zt_callV2v dX0_apply_59 ml_X0_75 (zs_5 hS) (Nat.le_of_ble_eq_true rfl) (c_crt hS (cDrop_rf hR) (by rw [cDrop_t]; omega) (by omega) (by omega)) ?_
    refine zt_goto (tgt := 109) dX0_apply_62 (by decide) ?_
    exact zt_vret dX0_apply_109 ⟨rfl, rfl, rfl, by rw [show cT h = (n1, d1) by unfold cT; rw [hn1, hd1]]; unfold f1; first | (exfalso; omega) | (rw [if_pos (by omega)]; done) | (rw [if_neg (by omega), if_pos (by omega)]; done) | (rw [if_neg (by omega), if_neg (by omega), if_pos (show 0 < (n1, d1).2 by show 0 < d1; omega)]; done) | (rw [if_neg (by omega), if_neg (by omega), if_neg (show ¬ 0 < (n1, d1).2 by show ¬ 0 < d1; omega)]; rw [fr_x0])⟩
  · refine zt_tableIn (off := 28) (tgt := 44) dX0_apply_16 (by omega) (by omega) (by omega) (by rw [e_16]; rfl) (by decide) ?_
    refine zt_aload_n dX0_apply_44 rfl ?_
    refine zt_lload_n dX0_apply_45 rfl ?_
    refine zt_lneg dX0_apply_46 ?_
    refine zt_lload dX0_apply_47 rfl ?_
    refine zt_callV2v dX0_apply_49 ml_X0_33 (zs_5 hS) (Nat.le_of_ble_eq_true rfl) (c_cpush hS (cDrop_rf hR) (by rw [cDrop_t]; omega) (by omega) (by omega)) ?_
    refine zt_goto (tgt := 109) dX0_apply_52 (by decide) ?_
    exact zt_vret dX0_apply_109 ⟨rfl, rfl, rfl, by rw [show cT h = (n1, d1) by unfold cT; rw [hn1, hd1]]; unfold f1; first | (exfalso; omega) | (rw [if_pos (by omega)]; done) | (rw [if_neg (by omega), if_pos (by omega)]; done) | (rw [if_neg (by omega), if_neg (by omega), if_pos (show 0 < (n1, d1).2 by show 0 < d1; omega)]; done) | (rw [if_neg (by omega), if_neg (by omega), if_neg (show ¬ 0 < (n1, d1).2 by show ¬ 0 < d1; omega)]; rw [fr_x0])⟩
  · exfalso; omega

set_option maxRecDepth 100000 in
set_option maxHeartbeats 4000000 in
theorem c_ap2 {d n : Nat} {sh : zSh} {h : zMem} {p : Int} (hS : zShp sh) (hR : zRf h) (ht : 1 < h 5 2 ∧ h 5 2 ≤ 64) (hf : fok (cT h)) (hf2 : fok (cT (cDrop h))) (hp : zi32 p) (hp2 : p ≠ -6 ∧ p ≠ -7 ∧ p ≠ -8) : zF yX0_apply cX0_apply 6 none (d + 3) 0 0 [(2, 5), (0, p)] n sh h none n sh (cPush (cDrop (cDrop h)) (f2 p (cT (cDrop h)) (cT h)).1 (f2 p (cT (cDrop h)) (cT h)).2) := by
  refine zF.ofT (by decide +kernel) [some (2, 5), some (0, p), none, none, none, none] rfl (Nat.le_of_ble_eq_true rfl) ?_
  refine zt_rg (fun hm => ?_)
  refine zt_aload_n dX0_apply_0 rfl ?_
  refine zt_callV0r dX0_apply_1 ml_X0_26 (zs_5 hS) (Nat.le_of_ble_eq_true rfl) (c_cnum hS hR (by omega)) ?_
  obtain ⟨n1, hn1⟩ : ∃ n1, n1 = h 6 (h 5 2 - 1) := ⟨_, rfl⟩
  refine zt_topv (v := n1) hn1.symm ?_
  refine zt_lstore_n_2 dX0_apply_4 (by decide) rfl ?_
  refine zt_aload_n dX0_apply_5 rfl ?_
  refine zt_callV0r dX0_apply_6 ml_X0_30 (zs_5 hS) (Nat.le_of_ble_eq_true rfl) (c_cden hS hR (by omega)) ?_
  obtain ⟨d1, hd1⟩ : ∃ d1, d1 = h 7 (h 5 2 - 1) := ⟨_, rfl⟩
  refine zt_topv (v := d1) hd1.symm ?_
  refine zt_lstore_4 dX0_apply_9 (by decide) rfl ?_
  refine zt_aload_n dX0_apply_11 rfl ?_
  refine zt_callV0v dX0_apply_12 ml_X0_66 (zs_5 hS) (Nat.le_of_ble_eq_true rfl) (c_cdrop hS hR (by omega)) ?_
  have ho1 : (-1000000000 ≤ n1 ∧ n1 ≤ 1000000000) ∧ (0 ≤ d1 ∧ d1 ≤ 1000000000) := by rw [hn1, hd1]; exact ⟨hf.1, hf.2.1⟩
  refine zt_iload_n dX0_apply_15 rfl ?_
  rcases (show p = -8 ∨ p = -7 ∨ p = -6 ∨ (p < -8 ∨ -6 < p) by omega) with e_16 | e_16 | e_16 | e_16
  · exfalso; omega
  · exfalso; omega
  · exfalso; omega
  · refine zt_tableOut (tgt := 101) dX0_apply_16 (by omega) e_16 (by decide) ?_
    refine zt_aload_n dX0_apply_101 rfl ?_
    refine zt_iload_n dX0_apply_102 rfl ?_
    refine zt_lload_n dX0_apply_103 rfl ?_
    refine zt_lload dX0_apply_104 rfl ?_
    refine zt_callV3v dX0_apply_106 ml_X0_83 (zs_5 hS) (Nat.le_of_ble_eq_true rfl) (c_two hS (cDrop_rf hR) (by rw [cDrop_t]; omega) hp (by omega) (by omega) hf2) ?_
    exact zt_vret dX0_apply_109 ⟨rfl, rfl, rfl, by rw [show cT h = (n1, d1) by unfold cT; rw [hn1, hd1]]⟩

theorem zcmp_lt {x y : Int} : zcmp x y < 0 ↔ x < y := by unfold zcmp; split <;> (try split) <;> omega
theorem zcmp_gt {x y : Int} : 0 < zcmp x y ↔ y < x := by unfold zcmp; split <;> (try split) <;> omega
/-- whether a comparison holds -/
def fhd (p : Int) (a b : zFr) : Prop := if p = -11 then a.1 * b.2 < b.1 * a.2 else if p = -12 then b.1 * a.2 < a.1 * b.2 else a.1 * b.2 = b.1 * a.2
theorem fhd_iff {p : Int} {a b : zFr} : fhd p a b ↔ (p = -11 ∧ a.1 * b.2 < b.1 * a.2) ∨ (p ≠ -11 ∧ p = -12 ∧ b.1 * a.2 < a.1 * b.2) ∨ (p ≠ -11 ∧ p ≠ -12 ∧ a.1 * b.2 = b.1 * a.2) := by
  unfold fhd; split <;> (try split) <;> omega

noncomputable def chA (h : zMem) (c i : Int) (a b : zFr) : Int := @ite Int (a.2 = 0 ∨ b.2 = 0) inferInstance (h c (i + 2)) (@ite Int (fhd (h c i) a b) (Classical.propDecidable _) (i + 3) (h c (i + 1)))

set_option maxRecDepth 100000 in
set_option maxHeartbeats 4000000 in
theorem c_choo {d n : Nat} {sh : zSh} {h : zMem} {c i : Int} {N : Nat} (hS : zShp sh) (hR : zRf h) (hc : sh c = (100, N)) (hc8 : 80 ≤ c) (hN : N ≤ 600) (ht : 1 < h 5 2 ∧ h 5 2 ≤ 64) (hf : fok (cT h)) (hf2 : fok (cT (cDrop h))) (hi : 0 ≤ i ∧ i + 2 < N)  : zF yX0_choose cX0_choose 14 (some .int) (d + 1) 0 0 [(2, 5), (2, c), (0, i)] n sh h (some (0, chA h c i (cT (cDrop h)) (cT h))) n sh (if (cT (cDrop h)).2 = 0 ∨ (cT h).2 = 0 then cPush (cDrop (cDrop h)) 0 0 else cDrop (cDrop h)) := by
  refine zF.ofT (by decide +kernel) [some (2, 5), some (2, c), some (0, i), none, none, none, none, none, none, none, none, none, none, none] rfl (Nat.le_of_ble_eq_true rfl) ?_
  refine zt_rg (fun hm => ?_)
  refine zt_aload_n dX0_choose_0 rfl ?_
  refine zt_callV0r dX0_choose_1 ml_X0_26 (zs_5 hS) (Nat.le_of_ble_eq_true rfl) (c_cnum hS hR (by omega)) ?_
  obtain ⟨n1, hn1⟩ : ∃ n1, n1 = h 6 (h 5 2 - 1) := ⟨_, rfl⟩
  refine zt_topv (v := n1) hn1.symm ?_
  refine zt_lstore_n_3 dX0_choose_4 (by decide) rfl ?_
  refine zt_aload_n dX0_choose_5 rfl ?_
  refine zt_callV0r dX0_choose_6 ml_X0_30 (zs_5 hS) (Nat.le_of_ble_eq_true rfl) (c_cden hS hR (by omega)) ?_
  obtain ⟨d1, hd1⟩ : ∃ d1, d1 = h 7 (h 5 2 - 1) := ⟨_, rfl⟩
  refine zt_topv (v := d1) hd1.symm ?_
  refine zt_lstore_5 dX0_choose_9 (by decide) rfl ?_
  refine zt_aload_n dX0_choose_11 rfl ?_
  refine zt_callV0v dX0_choose_12 ml_X0_66 (zs_5 hS) (Nat.le_of_ble_eq_true rfl) (c_cdrop hS hR (by omega)) ?_
  refine zt_aload_n dX0_choose_15 rfl ?_
  refine zt_callV0r dX0_choose_16 ml_X0_26 (zs_5 hS) (Nat.le_of_ble_eq_true rfl) (c_cnum hS (cDrop_rf hR) (by rw [cDrop_t]; omega)) ?_
  obtain ⟨n2, hn2⟩ : ∃ n2, n2 = (cDrop h) 6 ((cDrop h) 5 2 - 1) := ⟨_, rfl⟩
  refine zt_topv (v := n2) hn2.symm ?_
  refine zt_lstore_7 dX0_choose_19 (by decide) rfl ?_
  refine zt_aload_n dX0_choose_21 rfl ?_
  refine zt_callV0r dX0_choose_22 ml_X0_30 (zs_5 hS) (Nat.le_of_ble_eq_true rfl) (c_cden hS (cDrop_rf hR) (by rw [cDrop_t]; omega)) ?_
  obtain ⟨d2, hd2⟩ : ∃ d2, d2 = (cDrop h) 7 ((cDrop h) 5 2 - 1) := ⟨_, rfl⟩
  refine zt_topv (v := d2) hd2.symm ?_
  refine zt_lstore_9 dX0_choose_25 (by decide) rfl ?_
  refine zt_aload_n dX0_choose_27 rfl ?_
  refine zt_callV0v dX0_choose_28 ml_X0_66 (zs_5 hS) (Nat.le_of_ble_eq_true rfl) (c_cdrop hS (cDrop_rf hR) (by rw [cDrop_t]; omega)) ?_
  have ho1 : (-1000000000 ≤ n1 ∧ n1 ≤ 1000000000) ∧ (0 ≤ d1 ∧ d1 ≤ 1000000000) := by rw [hn1, hd1]; exact ⟨hf.1, hf.2.1⟩
  have ho2 : (-1000000000 ≤ n2 ∧ n2 ≤ 1000000000) ∧ (0 ≤ d2 ∧ d2 ≤ 1000000000) := by rw [hn2, hd2]; exact ⟨hf2.1, hf2.2.1⟩
  have m1 := zmb (A := 1000000000) (B := 1000000000) (x := n2) (y := d1) (by omega) (by omega)
  have m2 := zmb (A := 1000000000) (B := 1000000000) (x := n1) (y := d2) (by omega) (by omega)
  have eT : cT h = (n1, d1) := by unfold cT; rw [hn1, hd1]
  have eT2 : cT (cDrop h) = (n2, d2) := by unfold cT; rw [hn2, hd2]
  rw [eT, eT2]
  have hF := fhd_iff (p := h c i) (a := (n2, d2)) (b := (n1, d1))
  simp only [] at hF
  refine zt_lload dX0_choose_31 rfl ?_
  refine zt_lconst (v := 0) dX0_choose_33 rfl ?_
  refine zt_lc_eq (tgt := 45) dX0_choose_34 dX0_choose_35 (by decide) (by omega) (by decide) (fun c_34 => ?_) (fun c_34 => ?_)
  · refine zt_aload_n dX0_choose_45 rfl ?_
    refine zt_lconst (v := 0) dX0_choose_46 rfl ?_
    refine zt_lconst (v := 0) dX0_choose_47 rfl ?_
    refine zt_callV2v dX0_choose_48 ml_X0_33 (zs_5 hS) (Nat.le_of_ble_eq_true rfl) (c_cpush hS (cDrop_rf (cDrop_rf hR)) (by rw [cDrop_t, cDrop_t]; omega) (by decide) (by decide)) ?_
    refine zt_aload_n dX0_choose_51 rfl ?_
    refine zt_iload_n dX0_choose_52 rfl ?_
    refine zt_iconst dX0_choose_53 ?_
    refine zt_iadd dX0_choose_54 ?_
    refine zt_callS2r dX0_choose_55 ml_X0_38 (Nat.le_of_ble_eq_true rfl) (zF.of_eq (by rw [cPush_n (by omega), cDrop_n (by omega), cDrop_n (by omega)]) rfl rfl rfl (c_plin hc hN (by omega))) ?_
    exact zt_iret dX0_choose_58 ⟨by unfold chA; rw [if_pos (show ((n2, d2) : zFr).2 = 0 ∨ ((n1, d1) : zFr).2 = 0 by show d2 = 0 ∨ d1 = 0; omega)], rfl, rfl, by rw [if_pos (show ((n2, d2) : zFr).2 = 0 ∨ ((n1, d1) : zFr).2 = 0 by show d2 = 0 ∨ d1 = 0; omega)]⟩
  · refine zt_lload dX0_choose_38 rfl ?_
    refine zt_lconst (v := 0) dX0_choose_40 rfl ?_
    refine zt_lc_ne (tgt := 59) dX0_choose_41 dX0_choose_42 (by decide) (by omega) (by decide) (fun c_41 => ?_) (fun c_41 => ?_)
    · refine zt_lload dX0_choose_59 rfl ?_
      refine zt_lload dX0_choose_61 rfl ?_
      refine zt_lmul dX0_choose_63 ?_
      refine zt_lload_n dX0_choose_64 rfl ?_
      refine zt_lload dX0_choose_65 rfl ?_
      refine zt_lmul dX0_choose_67 ?_
      refine zt_callS2r dX0_choose_68 ml_X0_69 (Nat.le_of_ble_eq_true rfl) (c_lcompare (by omega) (by omega)) ?_
      have z1 := zcmp_lt (x := n2 * d1) (y := n1 * d2)
      have z2 := zcmp_gt (x := n2 * d1) (y := n1 * d2)
      obtain ⟨z, hz⟩ : ∃ z, z = zcmp (n2 * d1) (n1 * d2) := ⟨_, rfl⟩
      have hzr := zcmp_in (n2 * d1) (n1 * d2)
      rw [← hz] at z1 z2 hzr
      refine zt_topv (v := z) hz.symm ?_
      refine zt_istore_11 dX0_choose_71 (by decide) rfl ?_
      refine zt_aload_n dX0_choose_73 rfl ?_
      refine zt_alenv (v := (N : Int)) dX0_choose_74 hc (by decide) (by decide) rfl ?_
      refine zt_iload_n dX0_choose_75 rfl ?_
      refine zt_icmp_le (tgt := 89) dX0_choose_76 (by decide) (by omega) (by omega) (fun c_76 => ?_) (fun c_76 => ?_)
      · exfalso
        omega
      · refine zt_iload_n dX0_choose_79 rfl ?_
        refine zt_if_lt (tgt := 89) dX0_choose_80 (by decide) (by omega) (fun c_80 => ?_) (fun c_80 => ?_)
        · exfalso
          omega
        · refine zt_aload_n dX0_choose_83 rfl ?_
          refine zt_iload_n dX0_choose_84 rfl ?_
          refine zt_ialoadv (v := h c i) dX0_choose_85 hc (by omega) (by omega) (by omega) (by rw [cDrop_n (by omega), cDrop_n (by omega)]) ?_
          refine zt_goto (tgt := 90) dX0_choose_86 (by decide) ?_
          refine zt_istore_12 dX0_choose_90 (by decide) rfl ?_
          refine zt_iload dX0_choose_92 rfl ?_
          refine zt_bipush dX0_choose_94 (by decide) ?_
          refine zt_icmp_ne (tgt := 112) dX0_choose_96 (by decide) (hm.int hc (by omega) (by omega)) (by decide) (fun c_96 => ?_) (fun c_96 => ?_)
          · refine zt_iload dX0_choose_112 rfl ?_
            refine zt_bipush dX0_choose_114 (by decide) ?_
            refine zt_icmp_ne (tgt := 132) dX0_choose_116 (by decide) (hm.int hc (by omega) (by omega)) (by decide) (fun c_116 => ?_) (fun c_116 => ?_)
            · refine zt_iload dX0_choose_132 rfl ?_
              refine zt_if_ne (tgt := 141) dX0_choose_134 (by decide) hzr (fun c_134 => ?_) (fun c_134 => ?_)
              · refine zt_iconst dX0_choose_141 ?_
                refine zt_istore_13 dX0_choose_142 (by decide) rfl ?_
                refine zt_iload dX0_choose_144 rfl ?_
                refine zt_if_eq (tgt := 155) dX0_choose_146 (by decide) (by decide) (fun c_146 => ?_) (fun q => absurd q (by decide))
                refine zt_aload_n dX0_choose_155 rfl ?_
                refine zt_iload_n dX0_choose_156 rfl ?_
                refine zt_iconst dX0_choose_157 ?_
                refine zt_iadd dX0_choose_158 ?_
                refine zt_callS2r dX0_choose_159 ml_X0_38 (Nat.le_of_ble_eq_true rfl) (zF.of_eq (by rw [cDrop_n (by omega), cDrop_n (by omega)]) rfl rfl rfl (c_plin hc hN (by omega))) ?_
                exact zt_iret dX0_choose_162 ⟨by unfold chA; rw [if_neg (show ¬ (((n2, d2) : zFr).2 = 0 ∨ ((n1, d1) : zFr).2 = 0) by show ¬ (d2 = 0 ∨ d1 = 0); omega)]; congr 2; first | exact (if_pos (hF.mpr (by omega))).symm | exact (if_neg (fun q => by have := hF.mp q; omega)).symm, rfl, rfl, by rw [if_neg (show ¬ (((n2, d2) : zFr).2 = 0 ∨ ((n1, d1) : zFr).2 = 0) by show ¬ (d2 = 0 ∨ d1 = 0); omega)]⟩
              · refine zt_iconst dX0_choose_137 ?_
                refine zt_goto (tgt := 142) dX0_choose_138 (by decide) ?_
                refine zt_istore_13 dX0_choose_142 (by decide) rfl ?_
                refine zt_iload dX0_choose_144 rfl ?_
                refine zt_if_eq (tgt := 155) dX0_choose_146 (by decide) (by decide) (fun q => absurd q (by decide)) (fun c_146 => ?_)
                refine zt_iload_n dX0_choose_149 rfl ?_
                refine zt_iconst dX0_choose_150 ?_
                refine zt_iadd dX0_choose_151 ?_
                refine zt_goto (tgt := 162) dX0_choose_152 (by decide) ?_
                exact zt_iret dX0_choose_162 ⟨by unfold chA; rw [if_neg (show ¬ (((n2, d2) : zFr).2 = 0 ∨ ((n1, d1) : zFr).2 = 0) by show ¬ (d2 = 0 ∨ d1 = 0); omega)]; congr 2; first | exact (if_pos (hF.mpr (by omega))).symm | exact (if_neg (fun q => by have := hF.mp q; omega)).symm, rfl, rfl, by rw [if_neg (show ¬ (((n2, d2) : zFr).2 = 0 ∨ ((n1, d1) : zFr).2 = 0) by show ¬ (d2 = 0 ∨ d1 = 0); omega)]⟩
            · refine zt_iload dX0_choose_119 rfl ?_
              refine zt_if_le (tgt := 128) dX0_choose_121 (by decide) hzr (fun c_121 => ?_) (fun c_121 => ?_)
              · refine zt_iconst dX0_choose_128 ?_
                refine zt_goto (tgt := 142) dX0_choose_129 (by decide) ?_
                refine zt_istore_13 dX0_choose_142 (by decide) rfl ?_
                refine zt_iload dX0_choose_144 rfl ?_
                refine zt_if_eq (tgt := 155) dX0_choose_146 (by decide) (by decide) (fun c_146 => ?_) (fun q => absurd q (by decide))
                refine zt_aload_n dX0_choose_155 rfl ?_
                refine zt_iload_n dX0_choose_156 rfl ?_
                refine zt_iconst dX0_choose_157 ?_
                refine zt_iadd dX0_choose_158 ?_
                refine zt_callS2r dX0_choose_159 ml_X0_38 (Nat.le_of_ble_eq_true rfl) (zF.of_eq (by rw [cDrop_n (by omega), cDrop_n (by omega)]) rfl rfl rfl (c_plin hc hN (by omega))) ?_
                exact zt_iret dX0_choose_162 ⟨by unfold chA; rw [if_neg (show ¬ (((n2, d2) : zFr).2 = 0 ∨ ((n1, d1) : zFr).2 = 0) by show ¬ (d2 = 0 ∨ d1 = 0); omega)]; congr 2; first | exact (if_pos (hF.mpr (by omega))).symm | exact (if_neg (fun q => by have := hF.mp q; omega)).symm, rfl, rfl, by rw [if_neg (show ¬ (((n2, d2) : zFr).2 = 0 ∨ ((n1, d1) : zFr).2 = 0) by show ¬ (d2 = 0 ∨ d1 = 0); omega)]⟩
              · refine zt_iconst dX0_choose_124 ?_
                refine zt_goto (tgt := 142) dX0_choose_125 (by decide) ?_
                refine zt_istore_13 dX0_choose_142 (by decide) rfl ?_
                refine zt_iload dX0_choose_144 rfl ?_
                refine zt_if_eq (tgt := 155) dX0_choose_146 (by decide) (by decide) (fun q => absurd q (by decide)) (fun c_146 => ?_)
                refine zt_iload_n dX0_choose_149 rfl ?_
                refine zt_iconst dX0_choose_150 ?_
                refine zt_iadd dX0_choose_151 ?_
                refine zt_goto (tgt := 162) dX0_choose_152 (by decide) ?_
                exact zt_iret dX0_choose_162 ⟨by unfold chA; rw [if_neg (show ¬ (((n2, d2) : zFr).2 = 0 ∨ ((n1, d1) : zFr).2 = 0) by show ¬ (d2 = 0 ∨ d1 = 0); omega)]; congr 2; first | exact (if_pos (hF.mpr (by omega))).symm | exact (if_neg (fun q => by have := hF.mp q; omega)).symm, rfl, rfl, by rw [if_neg (show ¬ (((n2, d2) : zFr).2 = 0 ∨ ((n1, d1) : zFr).2 = 0) by show ¬ (d2 = 0 ∨ d1 = 0); omega)]⟩
          · refine zt_iload dX0_choose_99 rfl ?_
            refine zt_if_ge (tgt := 108) dX0_choose_101 (by decide) hzr (fun c_101 => ?_) (fun c_101 => ?_)
            · refine zt_iconst dX0_choose_108 ?_
              refine zt_goto (tgt := 142) dX0_choose_109 (by decide) ?_
              refine zt_istore_13 dX0_choose_142 (by decide) rfl ?_
              refine zt_iload dX0_choose_144 rfl ?_
              refine zt_if_eq (tgt := 155) dX0_choose_146 (by decide) (by decide) (fun c_146 => ?_) (fun q => absurd q (by decide))
              refine zt_aload_n dX0_choose_155 rfl ?_
              refine zt_iload_n dX0_choose_156 rfl ?_
              refine zt_iconst dX0_choose_157 ?_
              refine zt_iadd dX0_choose_158 ?_
              refine zt_callS2r dX0_choose_159 ml_X0_38 (Nat.le_of_ble_eq_true rfl) (zF.of_eq (by rw [cDrop_n (by omega), cDrop_n (by omega)]) rfl rfl rfl (c_plin hc hN (by omega))) ?_
              exact zt_iret dX0_choose_162 ⟨by unfold chA; rw [if_neg (show ¬ (((n2, d2) : zFr).2 = 0 ∨ ((n1, d1) : zFr).2 = 0) by show ¬ (d2 = 0 ∨ d1 = 0); omega)]; congr 2; first | exact (if_pos (hF.mpr (by omega))).symm | exact (if_neg (fun q => by have := hF.mp q; omega)).symm, rfl, rfl, by rw [if_neg (show ¬ (((n2, d2) : zFr).2 = 0 ∨ ((n1, d1) : zFr).2 = 0) by show ¬ (d2 = 0 ∨ d1 = 0); omega)]⟩
            · refine zt_iconst dX0_choose_104 ?_
              refine zt_goto (tgt := 142) dX0_choose_105 (by decide) ?_
              refine zt_istore_13 dX0_choose_142 (by decide) rfl ?_
              refine zt_iload dX0_choose_144 rfl ?_
              refine zt_if_eq (tgt := 155) dX0_choose_146 (by decide) (by decide) (fun q => absurd q (by decide)) (fun c_146 => ?_)
              refine zt_iload_n dX0_choose_149 rfl ?_
              refine zt_iconst dX0_choose_150 ?_
              refine zt_iadd dX0_choose_151 ?_
              refine zt_goto (tgt := 162) dX0_choose_152 (by decide) ?_
              exact zt_iret dX0_choose_162 ⟨by unfold chA; rw [if_neg (show ¬ (((n2, d2) : zFr).2 = 0 ∨ ((n1, d1) : zFr).2 = 0) by show ¬ (d2 = 0 ∨ d1 = 0); omega)]; congr 2; first | exact (if_pos (hF.mpr (by omega))).symm | exact (if_neg (fun q => by have := hF.mp q; omega)).symm, rfl, rfl, by rw [if_neg (show ¬ (((n2, d2) : zFr).2 = 0 ∨ ((n1, d1) : zFr).2 = 0) by show ¬ (d2 = 0 ∨ d1 = 0); omega)]⟩
    · refine zt_aload_n dX0_choose_45 rfl ?_
      refine zt_lconst (v := 0) dX0_choose_46 rfl ?_
      refine zt_lconst (v := 0) dX0_choose_47 rfl ?_
      refine zt_callV2v dX0_choose_48 ml_X0_33 (zs_5 hS) (Nat.le_of_ble_eq_true rfl) (c_cpush hS (cDrop_rf (cDrop_rf hR)) (by rw [cDrop_t, cDrop_t]; omega) (by decide) (by decide)) ?_
      refine zt_aload_n dX0_choose_51 rfl ?_
      refine zt_iload_n dX0_choose_52 rfl ?_
      refine zt_iconst dX0_choose_53 ?_
      refine zt_iadd dX0_choose_54 ?_
      refine zt_callS2r dX0_choose_55 ml_X0_38 (Nat.le_of_ble_eq_true rfl) (zF.of_eq (by rw [cPush_n (by omega), cDrop_n (by omega), cDrop_n (by omega)]) rfl rfl rfl (c_plin hc hN (by omega))) ?_
      exact zt_iret dX0_choose_58 ⟨by unfold chA; rw [if_pos (show ((n2, d2) : zFr).2 = 0 ∨ ((n1, d1) : zFr).2 = 0 by show d2 = 0 ∨ d1 = 0; omega)], rfl, rfl, by rw [if_pos (show ((n2, d2) : zFr).2 = 0 ∨ ((n1, d1) : zFr).2 = 0 by show d2 = 0 ∨ d1 = 0; omega)]⟩

def frd (f : zFr) (p : Int) : Int := if f.2 = 0 then -2147483648 else if zne (f.1 * zten p) f.2 < -999999999 ∨ 999999999 < zne (f.1 * zten p) f.2 then -2147483648 else zne (f.1 * zten p) f.2

set_option maxRecDepth 100000 in
set_option maxHeartbeats 4000000 in
theorem c_crd {d n : Nat} {sh : zSh} {h : zMem} {p : Int} (hS : zShp sh) (hR : zRf h) (ht : 0 < h 5 2 ∧ h 5 2 ≤ 64) (hf : fok (cT h)) (hp : 0 ≤ p ∧ p ≤ 4) : zF yX0_rounded cX0_rounded 4 (some .int) (d + 2) 0 0 [(2, 5), (0, p)] n sh h (some (0, frd (cT h) p)) n sh h := by
  refine zF.ofT (by decide +kernel) [some (2, 5), some (0, p), none, none] rfl (Nat.le_of_ble_eq_true rfl) ?_
  refine zt_rg (fun hm => ?_)
  refine zt_aload_n dX0_rounded_0 rfl ?_
  refine zt_callV0r dX0_rounded_1 ml_X0_49 (zs_5 hS) (Nat.le_of_ble_eq_true rfl) (c_cnone hS hR (by omega)) ?_
  refine zt_ifb_eq (tgt := 10) dX0_rounded_4 (by decide) (fun c_4 => ?_) (fun c_4 => ?_)
  · refine zt_aload_n dX0_rounded_10 rfl ?_
    refine zt_callV0r dX0_rounded_11 ml_X0_26 (zs_5 hS) (Nat.le_of_ble_eq_true rfl) (c_cnum hS hR (by omega)) ?_
    obtain ⟨n1, hn1⟩ : ∃ n1, n1 = h 6 (h 5 2 - 1) := ⟨_, rfl⟩
    refine zt_topv (v := n1) hn1.symm ?_
    refine zt_iload_n dX0_rounded_14 rfl ?_
    refine zt_callSN1r dX0_rounded_15 ml_X0_54 (Nat.le_of_ble_eq_true rfl) (c_tenTo (by omega)) ?_
    have ht1 := zten_pos p
    have ht2 := zten_le4 (p := p) (by omega)
    refine zt_i2l dX0_rounded_18 (by omega) ?_
    refine zt_lmul dX0_rounded_19 ?_
    refine zt_aload_n dX0_rounded_20 rfl ?_
    refine zt_callV0r dX0_rounded_21 ml_X0_30 (zs_5 hS) (Nat.le_of_ble_eq_true rfl) (c_cden hS hR (by omega)) ?_
    obtain ⟨d1, hd1⟩ : ∃ d1, d1 = h 7 (h 5 2 - 1) := ⟨_, rfl⟩
    refine zt_topv (v := d1) hd1.symm ?_
    have ho1 : (-1000000000 ≤ n1 ∧ n1 ≤ 1000000000) ∧ (0 ≤ d1 ∧ d1 ≤ 1000000000) := by rw [hn1, hd1]; exact ⟨hf.1, hf.2.1⟩
    have m1 := zmb (A := 1000000000) (B := 10000) (x := n1) (y := zten p) (by omega) (by omega)
    have hd0 : d1 ≠ 0 := by rw [hd1]; exact c_4
    refine zt_callSN2r dX0_rounded_24 ml_X0_58 (Nat.le_of_ble_eq_true rfl) (c_near (by omega) (by omega)) ?_
    obtain ⟨z, hz⟩ : ∃ z, z = zne (n1 * zten p) d1 := ⟨_, rfl⟩
    have hzr : zi64 z := by have hq := zne_qr (n := n1 * zten p) (d := d1) (by omega) (by omega); have hq2 := zabs_le (n := n1 * zten p) (B := 10000000000000) (by omega); rw [hz]; unfold zne; split <;> omega
    refine zt_topv (v := z) hz.symm ?_
    refine zt_lstore_n_2 dX0_rounded_27 (by decide) rfl ?_
    refine zt_lload_n dX0_rounded_28 rfl ?_
    refine zt_ldc2 dX0_rounded_29 kc_X0_62 ?_
    refine zt_lc_lt (tgt := 44) dX0_rounded_32 dX0_rounded_33 (by decide) hzr (by decide) (fun c_32 => ?_) (fun c_32 => ?_)
    · refine zt_ldc dX0_rounded_44 kc_X0_53 ?_
      refine zt_goto (tgt := 51) dX0_rounded_46 (by decide) ?_
      exact zt_iret dX0_rounded_51 ⟨by congr 2; rw [show cT h = (n1, d1) by unfold cT; rw [hn1, hd1]]; unfold frd; rw [if_neg (show ¬ ((n1, d1) : zFr).2 = 0 from hd0)]; show _ = (if zne (n1 * zten p) d1 < -999999999 ∨ 999999999 < zne (n1 * zten p) d1 then _ else zne (n1 * zten p) d1); rw [← hz]; first | rw [if_pos (by omega)] | rw [if_neg (by omega)], rfl, rfl, rfl⟩
    · refine zt_lload_n dX0_rounded_36 rfl ?_
      refine zt_ldc2 dX0_rounded_37 kc_X0_64 ?_
      refine zt_lc_le (tgt := 49) dX0_rounded_40 dX0_rounded_41 (by decide) hzr (by decide) (fun c_40 => ?_) (fun c_40 => ?_)
      · refine zt_lload_n dX0_rounded_49 rfl ?_
        refine zt_l2i dX0_rounded_50 ?_
        exact zt_iret dX0_rounded_51 ⟨by congr 2; rw [show cT h = (n1, d1) by unfold cT; rw [hn1, hd1]]; unfold frd; rw [if_neg (show ¬ ((n1, d1) : zFr).2 = 0 from hd0)]; show _ = (if zne (n1 * zten p) d1 < -999999999 ∨ 999999999 < zne (n1 * zten p) d1 then _ else zne (n1 * zten p) d1); rw [← hz]; first | rw [if_pos (by omega)] | rw [if_neg (by omega)], rfl, rfl, rfl⟩
      · refine zt_ldc dX0_rounded_44 kc_X0_53 ?_
        refine zt_goto (tgt := 51) dX0_rounded_46 (by decide) ?_
        exact zt_iret dX0_rounded_51 ⟨by congr 2; rw [show cT h = (n1, d1) by unfold cT; rw [hn1, hd1]]; unfold frd; rw [if_neg (show ¬ ((n1, d1) : zFr).2 = 0 from hd0)]; show _ = (if zne (n1 * zten p) d1 < -999999999 ∨ 999999999 < zne (n1 * zten p) d1 then _ else zne (n1 * zten p) d1); rw [← hz]; first | rw [if_pos (by omega)] | rw [if_neg (by omega)], rfl, rfl, rfl⟩
  · refine zt_ldc dX0_rounded_7 kc_X0_53 ?_
    exact zt_iret dX0_rounded_9 ⟨by congr 2; unfold frd cT; rw [if_pos c_4], rfl, rfl, rfl⟩
