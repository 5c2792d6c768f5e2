/-- the k-th difference of a column from e on -/
def jD (c : Int → Int) (e k : Int) : Int :=
  if k = 0 then c (e + 0)
  else if k = 1 then c (e + 1) - c (e + 0)
  else if k = 2 then c (e + 2) - 2 * c (e + 1) + c (e + 0)
  else if k = 3 then c (e + 3) - 3 * c (e + 2) + 3 * c (e + 1) - c (e + 0)
  else c (e + 4) - 4 * c (e + 3) + 6 * c (e + 2) - 4 * c (e + 1) + c (e + 0)
def jDc (c : Int → Int) (e g k : Int) : Int := if k ≤ g then jD c e k % 1000000000 else 0
abbrev jCs (h : zMem) (t e g : Int) : Prop := (((0 ≤ t ∧ t < h 38 17) ∧ 0 ≤ e ∧ e < h 46 t) ∧ 1 ≤ g ∧ g ≤ 4 ∧ e + g < h 46 t) ∧ h 47 (30 * t + (e + 0)) ≠ -2147483648 ∧ h 47 (30 * t + (e + 1)) ≠ -2147483648 ∧ (2 ≤ g → h 47 (30 * t + (e + 2)) ≠ -2147483648) ∧ (3 ≤ g → h 47 (30 * t + (e + 3)) ≠ -2147483648) ∧ (4 ≤ g → h 47 (30 * t + (e + 4)) ≠ -2147483648)
theorem zfm2 {x : Int} : zi64 (Int.tmod x 1000000000 + 1000000000) := by
  have h1 : Int.tmod x 1000000000 = x % 1000000000 ∨ Int.tmod x 1000000000 = x % 1000000000 - 1000000000 := by
    rw [Int.tmod_eq_emod]
    split
    · exact Or.inl (by omega)
    · exact Or.inr (by omega)
  omega
theorem zfmm {x : Int} : Int.tmod (Int.tmod x 1000000000 + 1000000000) 1000000000 = x % 1000000000 := by
  have h1 : Int.tmod x 1000000000 = x % 1000000000 ∨ Int.tmod x 1000000000 = x % 1000000000 - 1000000000 := by
    rw [Int.tmod_eq_emod]
    split
    · exact Or.inl (by omega)
    · exact Or.inr (by omega)
  rw [Int.tmod_eq_emod_of_nonneg (by omega)]
  omega
theorem jDc_in {c : Int → Int} {e g k : Int} : 0 ≤ jDc c e g k ∧ jDc c e g k < 1000000000 := by
  unfold jDc; split
  · exact ⟨Int.emod_nonneg _ (by decide), Int.emod_lt_of_pos _ (by decide)⟩
  · exact ⟨Int.le_refl _, by decide⟩

set_option maxRecDepth 100000 in
set_option maxHeartbeats 4000000 in
theorem c_jdf0 {d n : Nat} {sh : zSh} {h : zMem} {e : Int} (hS : zShp sh) (hR : zRf h) (he : 0 ≤ e ∧ e + 0 < 150) : zF yX11_difference cX11_difference 8 (some .long) (d + 0) 0 0 [(2, 38), (0, e), (0, 0)] n sh h (some (1, jD (h 47) e 0 % 1000000000)) n sh h := by
  refine zF.ofT (by decide +kernel) [some (2, 38), some (0, e), some (0, 0), none, none, none, none, none] rfl (Nat.le_of_ble_eq_true rfl) ?_
  refine zt_rg (fun hm => ?_)
  have r0 := hm.int (zs_47 hS) (j := e + 0) (by omega) (by omega)
  refine zt_lconst (v := 0) dX11_difference_0 rfl ?_
  refine zt_lstore_n_3 dX11_difference_1 (by decide) rfl ?_
  refine zt_lconst (v := 1) dX11_difference_2 rfl ?_
  refine zt_lstore_5 dX11_difference_3 (by decide) rfl ?_
  refine zt_iconst dX11_difference_5 ?_
  refine zt_istore_7 dX11_difference_6 (by decide) rfl ?_
  refine zt_iload dX11_difference_8 rfl ?_
  refine zt_iload_n dX11_difference_10 rfl ?_
  refine zt_icmp_gt (tgt := 67) dX11_difference_11 (by decide) (by decide) (by decide) (fun q => absurd q (by decide)) (fun c_11 => ?_)
  refine zt_lload_n dX11_difference_14 rfl ?_
  refine zt_iload_n dX11_difference_15 rfl ?_
  refine zt_iload dX11_difference_16 rfl ?_
  refine zt_isub dX11_difference_18 ?_
  refine zt_topv (v := 0) (by decide) ?_
  refine zt_iconst dX11_difference_19 ?_
  refine zt_irem dX11_difference_20 (by decide) (by decide) (by decide) ?_
  refine zt_topv (v := 0) (by decide) ?_
  refine zt_if_ne (tgt := 29) dX11_difference_21 (by decide) (by decide) (fun q => absurd q (by decide)) (fun c_21 => ?_)
  refine zt_lload dX11_difference_24 rfl ?_
  refine zt_goto (tgt := 32) dX11_difference_26 (by decide) ?_
  refine zt_aload_n dX11_difference_32 rfl ?_
  refine zt_getv dX11_difference_33 fl_X11_35 (zs_38 hS) (rf_38_19 hR) ?_
  refine zt_iload_n dX11_difference_36 rfl ?_
  refine zt_iload dX11_difference_37 rfl ?_
  refine zt_iadd dX11_difference_39 ?_
  refine zt_iaload dX11_difference_40 (zs_47 hS) (by decide) (by omega) (by omega) ?_
  refine zt_i2l dX11_difference_41 (by omega) ?_
  refine zt_lmul dX11_difference_42 ?_
  refine zt_ladd dX11_difference_43 ?_
  refine zt_lstore_n_3 dX11_difference_44 (by decide) rfl ?_
  refine zt_lload dX11_difference_45 rfl ?_
  refine zt_iload_n dX11_difference_47 rfl ?_
  refine zt_iload dX11_difference_48 rfl ?_
  refine zt_isub dX11_difference_50 ?_
  refine zt_topv (v := 0) (by decide) ?_
  refine zt_i2l dX11_difference_51 (by decide) ?_
  refine zt_lmul dX11_difference_52 ?_
  refine zt_topv (v := 0) (by decide) ?_
  refine zt_iload dX11_difference_53 rfl ?_
  refine zt_iconst dX11_difference_55 ?_
  refine zt_iadd dX11_difference_56 ?_
  refine zt_topv (v := 1) (by decide) ?_
  refine zt_i2l dX11_difference_57 (by decide) ?_
  refine zt_ldiv dX11_difference_58 (by decide) (by decide) (by decide) ?_
  refine zt_topv (v := 0) (by decide) ?_
  refine zt_lstore_5 dX11_difference_59 (by decide) rfl ?_
  refine zt_iincv_7 (v := 1) dX11_difference_61 (by decide) rfl (by decide) ?_
  refine zt_goto (tgt := 8) dX11_difference_64 (by decide) ?_
  refine zt_iload dX11_difference_8 rfl ?_
  refine zt_iload_n dX11_difference_10 rfl ?_
  refine zt_icmp_gt (tgt := 67) dX11_difference_11 (by decide) (by decide) (by decide) (fun c_11 => ?_) (fun q => absurd q (by decide))
  refine zt_lload_n dX11_difference_67 rfl ?_
  refine zt_ldc2 dX11_difference_68 kc_X11_248 ?_
  refine zt_lrem dX11_difference_71 (by omega) (by decide) (by decide) ?_
  refine zt_ldc2 dX11_difference_72 kc_X11_248 ?_
  refine zt_ladd dX11_difference_75 ?_
  refine zt_ldc2 dX11_difference_76 kc_X11_248 ?_
  refine zt_lrem dX11_difference_79 zfm2 (by decide) (by decide) ?_
  exact zt_lret dX11_difference_80 ⟨by congr 2; rw [zfmm]; unfold jD; simp only [reduceIte, Int.reduceEq]; first | done | (congr 1; omega), rfl, rfl, rfl⟩

set_option maxRecDepth 100000 in
set_option maxHeartbeats 4000000 in
theorem c_jdf1 {d n : Nat} {sh : zSh} {h : zMem} {e : Int} (hS : zShp sh) (hR : zRf h) (he : 0 ≤ e ∧ e + 1 < 150) : zF yX11_difference cX11_difference 8 (some .long) (d + 0) 0 0 [(2, 38), (0, e), (0, 1)] n sh h (some (1, jD (h 47) e 1 % 1000000000)) n sh h := by
  refine zF.ofT (by decide +kernel) [some (2, 38), some (0, e), some (0, 1), none, none, none, none, none] rfl (Nat.le_of_ble_eq_true rfl) ?_
  refine zt_rg (fun hm => ?_)
  have r0 := hm.int (zs_47 hS) (j := e + 0) (by omega) (by omega)
  have r1 := hm.int (zs_47 hS) (j := e + 1) (by omega) (by omega)
  refine zt_lconst (v := 0) dX11_difference_0 rfl ?_
  refine zt_lstore_n_3 dX11_difference_1 (by decide) rfl ?_
  refine zt_lconst (v := 1) dX11_difference_2 rfl ?_
  refine zt_lstore_5 dX11_difference_3 (by decide) rfl ?_
  refine zt_iconst dX11_difference_5 ?_
  refine zt_istore_7 dX11_difference_6 (by decide) rfl ?_
  refine zt_iload dX11_difference_8 rfl ?_
  refine zt_iload_n dX11_difference_10 rfl ?_
  refine zt_icmp_gt (tgt := 67) dX11_difference_11 (by decide) (by decide) (by decide) (fun q => absurd q (by decide)) (fun c_11 => ?_)
  refine zt_lload_n dX11_difference_14 rfl ?_
  refine zt_iload_n dX11_difference_15 rfl ?_
  refine zt_iload dX11_difference_16 rfl ?_
  refine zt_isub dX11_difference_18 ?_
  refine zt_topv (v := 1) (by decide) ?_
  refine zt_iconst dX11_difference_19 ?_
  refine zt_irem dX11_difference_20 (by decide) (by decide) (by decide) ?_
  refine zt_topv (v := 1) (by decide) ?_
  refine zt_if_ne (tgt := 29) dX11_difference_21 (by decide) (by decide) (fun c_21 => ?_) (fun q => absurd q (by decide))
  refine zt_lload dX11_difference_29 rfl ?_
  refine zt_lneg dX11_difference_31 ?_
  refine zt_aload_n dX11_difference_32 rfl ?_
  refine zt_getv dX11_difference_33 fl_X11_35 (zs_38 hS) (rf_38_19 hR) ?_
  refine zt_iload_n dX11_difference_36 rfl ?_
  refine zt_iload dX11_difference_37 rfl ?_
  refine zt_iadd dX11_difference_39 ?_
  refine zt_iaload dX11_difference_40 (zs_47 hS) (by decide) (by omega) (by omega) ?_
  refine zt_i2l dX11_difference_41 (by omega) ?_
  refine zt_lmul dX11_difference_42 ?_
  refine zt_ladd dX11_difference_43 ?_
  refine zt_lstore_n_3 dX11_difference_44 (by decide) rfl ?_
  refine zt_lload dX11_difference_45 rfl ?_
  refine zt_iload_n dX11_difference_47 rfl ?_
  refine zt_iload dX11_difference_48 rfl ?_
  refine zt_isub dX11_difference_50 ?_
  refine zt_topv (v := 1) (by decide) ?_
  refine zt_i2l dX11_difference_51 (by decide) ?_
  refine zt_lmul dX11_difference_52 ?_
  refine zt_topv (v := 1) (by decide) ?_
  refine zt_iload dX11_difference_53 rfl ?_
  refine zt_iconst dX11_difference_55 ?_
  refine zt_iadd dX11_difference_56 ?_
  refine zt_topv (v := 1) (by decide) ?_
  refine zt_i2l dX11_difference_57 (by decide) ?_
  refine zt_ldiv dX11_difference_58 (by decide) (by decide) (by decide) ?_
  refine zt_topv (v := 1) (by decide) ?_
  refine zt_lstore_5 dX11_difference_59 (by decide) rfl ?_
  refine zt_iincv_7 (v := 1) dX11_difference_61 (by decide) rfl (by decide) ?_
  refine zt_goto (tgt := 8) dX11_difference_64 (by decide) ?_
  refine zt_iload dX11_difference_8 rfl ?_
  refine zt_iload_n dX11_difference_10 rfl ?_
  refine zt_icmp_gt (tgt := 67) dX11_difference_11 (by decide) (by decide) (by decide) (fun q => absurd q (by decide)) (fun c_11 => ?_)
  refine zt_lload_n dX11_difference_14 rfl ?_
  refine zt_iload_n dX11_difference_15 rfl ?_
  refine zt_iload dX11_difference_16 rfl ?_
  refine zt_isub dX11_difference_18 ?_
  refine zt_topv (v := 0) (by decide) ?_
  refine zt_iconst dX11_difference_19 ?_
  refine zt_irem dX11_difference_20 (by decide) (by decide) (by decide) ?_
  refine zt_topv (v := 0) (by decide) ?_
  refine zt_if_ne (tgt := 29) dX11_difference_21 (by decide) (by decide) (fun q => absurd q (by decide)) (fun c_21 => ?_)
  refine zt_lload dX11_difference_24 rfl ?_
  refine zt_goto (tgt := 32) dX11_difference_26 (by decide) ?_
  refine zt_aload_n dX11_difference_32 rfl ?_
  refine zt_getv dX11_difference_33 fl_X11_35 (zs_38 hS) (rf_38_19 hR) ?_
  refine zt_iload_n dX11_difference_36 rfl ?_
  refine zt_iload dX11_difference_37 rfl ?_
  refine zt_iadd dX11_difference_39 ?_
  refine zt_iaload dX11_difference_40 (zs_47 hS) (by decide) (by omega) (by omega) ?_
  refine zt_i2l dX11_difference_41 (by omega) ?_
  refine zt_lmul dX11_difference_42 ?_
  refine zt_ladd dX11_difference_43 ?_
  refine zt_lstore_n_3 dX11_difference_44 (by decide) rfl ?_
  refine zt_lload dX11_difference_45 rfl ?_
  refine zt_iload_n dX11_difference_47 rfl ?_
  refine zt_iload dX11_difference_48 rfl ?_
  refine zt_isub dX11_difference_50 ?_
  refine zt_topv (v := 0) (by decide) ?_
  refine zt_i2l dX11_difference_51 (by decide) ?_
  refine zt_lmul dX11_difference_52 ?_
  refine zt_topv (v := 0) (by decide) ?_
  refine zt_iload dX11_difference_53 rfl ?_
  refine zt_iconst dX11_difference_55 ?_
  refine zt_iadd dX11_difference_56 ?_
  refine zt_topv (v := 2) (by decide) ?_
  refine zt_i2l dX11_difference_57 (by decide) ?_
  refine zt_ldiv dX11_difference_58 (by decide) (by decide) (by decide) ?_
  refine zt_topv (v := 0) (by decide) ?_
  refine zt_lstore_5 dX11_difference_59 (by decide) rfl ?_
  refine zt_iincv_7 (v := 2) dX11_difference_61 (by decide) rfl (by decide) ?_
  refine zt_goto (tgt := 8) dX11_difference_64 (by decide) ?_
  refine zt_iload dX11_difference_8 rfl ?_
  refine zt_iload_n dX11_difference_10 rfl ?_
  refine zt_icmp_gt (tgt := 67) dX11_difference_11 (by decide) (by decide) (by decide) (fun c_11 => ?_) (fun q => absurd q (by decide))
  refine zt_lload_n dX11_difference_67 rfl ?_
  refine zt_ldc2 dX11_difference_68 kc_X11_248 ?_
  refine zt_lrem dX11_difference_71 (by omega) (by decide) (by decide) ?_
  refine zt_ldc2 dX11_difference_72 kc_X11_248 ?_
  refine zt_ladd dX11_difference_75 ?_
  refine zt_ldc2 dX11_difference_76 kc_X11_248 ?_
  refine zt_lrem dX11_difference_79 zfm2 (by decide) (by decide) ?_
  exact zt_lret dX11_difference_80 ⟨by congr 2; rw [zfmm]; unfold jD; simp only [reduceIte, Int.reduceEq]; first | done | (congr 1; omega), rfl, rfl, rfl⟩

set_option maxRecDepth 100000 in
set_option maxHeartbeats 4000000 in
theorem c_jdf2 {d n : Nat} {sh : zSh} {h : zMem} {e : Int} (hS : zShp sh) (hR : zRf h) (he : 0 ≤ e ∧ e + 2 < 150) : zF yX11_difference cX11_difference 8 (some .long) (d + 0) 0 0 [(2, 38), (0, e), (0, 2)] n sh h (some (1, jD (h 47) e 2 % 1000000000)) n sh h := by
  refine zF.ofT (by decide +kernel) [some (2, 38), some (0, e), some (0, 2), none, none, none, none, none] rfl (Nat.le_of_ble_eq_true rfl) ?_
  refine zt_rg (fun hm => ?_)
  have r0 := hm.int (zs_47 hS) (j := e + 0) (by omega) (by omega)
  have r1 := hm.int (zs_47 hS) (j := e + 1) (by omega) (by omega)
  have r2 := hm.int (zs_47 hS) (j := e + 2) (by omega) (by omega)
  refine zt_lconst (v := 0) dX11_difference_0 rfl ?_
  refine zt_lstore_n_3 dX11_difference_1 (by decide) rfl ?_
  refine zt_lconst (v := 1) dX11_difference_2 rfl ?_
  refine zt_lstore_5 dX11_difference_3 (by decide) rfl ?_
  refine zt_iconst dX11_difference_5 ?_
  refine zt_istore_7 dX11_difference_6 (by decide) rfl ?_
  refine zt_iload dX11_difference_8 rfl ?_
  refine zt_iload_n dX11_difference_10 rfl ?_
  refine zt_icmp_gt (tgt := 67) dX11_difference_11 (by decide) (by decide) (by decide) (fun q => absurd q (by decide)) (fun c_11 => ?_)
  refine zt_lload_n dX11_difference_14 rfl ?_
  refine zt_iload_n dX11_difference_15 rfl ?_
  refine zt_iload dX11_difference_16 rfl ?_
  refine zt_isub dX11_difference_18 ?_
  refine zt_topv (v := 2) (by decide) ?_
  refine zt_iconst dX11_difference_19 ?_
  refine zt_irem dX11_difference_20 (by decide) (by decide) (by decide) ?_
  refine zt_topv (v := 0) (by decide) ?_
  refine zt_if_ne (tgt := 29) dX11_difference_21 (by decide) (by decide) (fun q => absurd q (by decide)) (fun c_21 => ?_)
  refine zt_lload dX11_difference_24 rfl ?_
  refine zt_goto (tgt := 32) dX11_difference_26 (by decide) ?_
  refine zt_aload_n dX11_difference_32 rfl ?_
  refine zt_getv dX11_difference_33 fl_X11_35 (zs_38 hS) (rf_38_19 hR) ?_
  refine zt_iload_n dX11_difference_36 rfl ?_
  refine zt_iload dX11_difference_37 rfl ?_
  refine zt_iadd dX11_difference_39 ?_
  refine zt_iaload dX11_difference_40 (zs_47 hS) (by decide) (by omega) (by omega) ?_
  refine zt_i2l dX11_difference_41 (by omega) ?_
  refine zt_lmul dX11_difference_42 ?_
  refine zt_ladd dX11_difference_43 ?_
  refine zt_lstore_n_3 dX11_difference_44 (by decide) rfl ?_
  refine zt_lload dX11_difference_45 rfl ?_
  refine zt_iload_n dX11_difference_47 rfl ?_
  refine zt_iload dX11_difference_48 rfl ?_
  refine zt_isub dX11_difference_50 ?_
  refine zt_topv (v := 2) (by decide) ?_
  refine zt_i2l dX11_difference_51 (by decide) ?_
  refine zt_lmul dX11_difference_52 ?_
  refine zt_topv (v := 2) (by decide) ?_
  refine zt_iload dX11_difference_53 rfl ?_
  refine zt_iconst dX11_difference_55 ?_
  refine zt_iadd dX11_difference_56 ?_
  refine zt_topv (v := 1) (by decide) ?_
  refine zt_i2l dX11_difference_57 (by decide) ?_
  refine zt_ldiv dX11_difference_58 (by decide) (by decide) (by decide) ?_
  refine zt_topv (v := 2) (by decide) ?_
  refine zt_lstore_5 dX11_difference_59 (by decide) rfl ?_
  refine zt_iincv_7 (v := 1) dX11_difference_61 (by decide) rfl (by decide) ?_
  refine zt_goto (tgt := 8) dX11_difference_64 (by decide) ?_
  refine zt_iload dX11_difference_8 rfl ?_
  refine zt_iload_n dX11_difference_10 rfl ?_
  refine zt_icmp_gt (tgt := 67) dX11_difference_11 (by decide) (by decide) (by decide) (fun q => absurd q (by decide)) (fun c_11 => ?_)
  refine zt_lload_n dX11_difference_14 rfl ?_
  refine zt_iload_n dX11_difference_15 rfl ?_
  refine zt_iload dX11_difference_16 rfl ?_
  refine zt_isub dX11_difference_18 ?_
  refine zt_topv (v := 1) (by decide) ?_
  refine zt_iconst dX11_difference_19 ?_
  refine zt_irem dX11_difference_20 (by decide) (by decide) (by decide) ?_
  refine zt_topv (v := 1) (by decide) ?_
  refine zt_if_ne (tgt := 29) dX11_difference_21 (by decide) (by decide) (fun c_21 => ?_) (fun q => absurd q (by decide))
  refine zt_lload dX11_difference_29 rfl ?_
  refine zt_lneg dX11_difference_31 ?_
  refine zt_aload_n dX11_difference_32 rfl ?_
  refine zt_getv dX11_difference_33 fl_X11_35 (zs_38 hS) (rf_38_19 hR) ?_
  refine zt_iload_n dX11_difference_36 rfl ?_
  refine zt_iload dX11_difference_37 rfl ?_
  refine zt_iadd dX11_difference_39 ?_
  refine zt_iaload dX11_difference_40 (zs_47 hS) (by decide) (by omega) (by omega) ?_
  refine zt_i2l dX11_difference_41 (by omega) ?_
  refine zt_lmul dX11_difference_42 ?_
  refine zt_ladd dX11_difference_43 ?_
  refine zt_lstore_n_3 dX11_difference_44 (by decide) rfl ?_
  refine zt_lload dX11_difference_45 rfl ?_
  refine zt_iload_n dX11_difference_47 rfl ?_
  refine zt_iload dX11_difference_48 rfl ?_
  refine zt_isub dX11_difference_50 ?_
  refine zt_topv (v := 1) (by decide) ?_
  refine zt_i2l dX11_difference_51 (by decide) ?_
  refine zt_lmul dX11_difference_52 ?_
  refine zt_topv (v := 2) (by decide) ?_
  refine zt_iload dX11_difference_53 rfl ?_
  refine zt_iconst dX11_difference_55 ?_
  refine zt_iadd dX11_difference_56 ?_
  refine zt_topv (v := 2) (by decide) ?_
  refine zt_i2l dX11_difference_57 (by decide) ?_
  refine zt_ldiv dX11_difference_58 (by decide) (by decide) (by decide) ?_
  refine zt_topv (v := 1) (by decide) ?_
  refine zt_lstore_5 dX11_difference_59 (by decide) rfl ?_
  refine zt_iincv_7 (v := 2) dX11_difference_61 (by decide) rfl (by decide) ?_
  refine zt_goto (tgt := 8) dX11_difference_64 (by decide) ?_
  refine zt_iload dX11_difference_8 rfl ?_
  refine zt_iload_n dX11_difference_10 rfl ?_
  refine zt_icmp_gt (tgt := 67) dX11_difference_11 (by decide) (by decide) (by decide) (fun q => absurd q (by decide)) (fun c_11 => ?_)
  refine zt_lload_n dX11_difference_14 rfl ?_
  refine zt_iload_n dX11_difference_15 rfl ?_
  refine zt_iload dX11_difference_16 rfl ?_
  refine zt_isub dX11_difference_18 ?_
  refine zt_topv (v := 0) (by decide) ?_
  refine zt_iconst dX11_difference_19 ?_
  refine zt_irem dX11_difference_20 (by decide) (by decide) (by decide) ?_
  refine zt_topv (v := 0) (by decide) ?_
  refine zt_if_ne (tgt := 29) dX11_difference_21 (by decide) (by decide) (fun q => absurd q (by decide)) (fun c_21 => ?_)
  refine zt_lload dX11_difference_24 rfl ?_
  refine zt_goto (tgt := 32) dX11_difference_26 (by decide) ?_
  refine zt_aload_n dX11_difference_32 rfl ?_
  refine zt_getv dX11_difference_33 fl_X11_35 (zs_38 hS) (rf_38_19 hR) ?_
  refine zt_iload_n dX11_difference_36 rfl ?_
  refine zt_iload dX11_difference_37 rfl ?_
  refine zt_iadd dX11_difference_39 ?_
  refine zt_iaload dX11_difference_40 (zs_47 hS) (by decide) (by omega) (by omega) ?_
  refine zt_i2l dX11_difference_41 (by omega) ?_
  refine zt_lmul dX11_difference_42 ?_
  refine zt_ladd dX11_difference_43 ?_
  refine zt_lstore_n_3 dX11_difference_44 (by decide) rfl ?_
  refine zt_lload dX11_difference_45 rfl ?_
  refine zt_iload_n dX11_difference_47 rfl ?_
  refine zt_iload dX11_difference_48 rfl ?_
  refine zt_isub dX11_difference_50 ?_
  refine zt_topv (v := 0) (by decide) ?_
  refine zt_i2l dX11_difference_51 (by decide) ?_
  refine zt_lmul dX11_difference_52 ?_
  refine zt_topv (v := 0) (by decide) ?_
  refine zt_iload dX11_difference_53 rfl ?_
  refine zt_iconst dX11_difference_55 ?_
  refine zt_iadd dX11_difference_56 ?_
  refine zt_topv (v := 3) (by decide) ?_
  refine zt_i2l dX11_difference_57 (by decide) ?_
  refine zt_ldiv dX11_difference_58 (by decide) (by decide) (by decide) ?_
  refine zt_topv (v := 0) (by decide) ?_
  refine zt_lstore_5 dX11_difference_59 (by decide) rfl ?_
  refine zt_iincv_7 (v := 3) dX11_difference_61 (by decide) rfl (by decide) ?_
  refine zt_goto (tgt := 8) dX11_difference_64 (by decide) ?_
  refine zt_iload dX11_difference_8 rfl ?_
  refine zt_iload_n dX11_difference_10 rfl ?_
  refine zt_icmp_gt (tgt := 67) dX11_difference_11 (by decide) (by decide) (by decide) (fun c_11 => ?_) (fun q => absurd q (by decide))
  refine zt_lload_n dX11_difference_67 rfl ?_
  refine zt_ldc2 dX11_difference_68 kc_X11_248 ?_
  refine zt_lrem dX11_difference_71 (by omega) (by decide) (by decide) ?_
  refine zt_ldc2 dX11_difference_72 kc_X11_248 ?_
  refine zt_ladd dX11_difference_75 ?_
  refine zt_ldc2 dX11_difference_76 kc_X11_248 ?_
  refine zt_lrem dX11_difference_79 zfm2 (by decide) (by decide) ?_
  exact zt_lret dX11_difference_80 ⟨by congr 2; rw [zfmm]; unfold jD; simp only [reduceIte, Int.reduceEq]; first | done | (congr 1; omega), rfl, rfl, rfl⟩

set_option maxRecDepth 100000 in
set_option maxHeartbeats 4000000 in
theorem c_jdf3 {d n : Nat} {sh : zSh} {h : zMem} {e : Int} (hS : zShp sh) (hR : zRf h) (he : 0 ≤ e ∧ e + 3 < 150) : zF yX11_difference cX11_difference 8 (some .long) (d + 0) 0 0 [(2, 38), (0, e), (0, 3)] n sh h (some (1, jD (h 47) e 3 % 1000000000)) n sh h := by
  refine zF.ofT (by decide +kernel) [some (2, 38), some (0, e), some (0, 3), none, none, none, none, none] rfl (Nat.le_of_ble_eq_true rfl) ?_
  refine zt_rg (fun hm => ?_)
  have r0 := hm.int (zs_47 hS) (j := e + 0) (by omega) (by omega)
  have r1 := hm.int (zs_47 hS) (j := e + 1) (by omega) (by omega)
  have r2 := hm.int (zs_47 hS) (j := e + 2) (by omega) (by omega)
  have r3 := hm.int (zs_47 hS) (j := e + 3) (by omega) (by omega)
  refine zt_lconst (v := 0) dX11_difference_0 rfl ?_
  refine zt_lstore_n_3 dX11_difference_1 (by decide) rfl ?_
  refine zt_lconst (v := 1) dX11_difference_2 rfl ?_
  refine zt_lstore_5 dX11_difference_3 (by decide) rfl ?_
  refine zt_iconst dX11_difference_5 ?_
  refine zt_istore_7 dX11_difference_6 (by decide) rfl ?_
  refine zt_iload dX11_difference_8 rfl ?_
  refine zt_iload_n dX11_difference_10 rfl ?_
  refine zt_icmp_gt (tgt := 67) dX11_difference_11 (by decide) (by decide) (by decide) (fun q => absurd q (by decide)) (fun c_11 => ?_)
  refine zt_lload_n dX11_difference_14 rfl ?_
  refine zt_iload_n dX11_difference_15 rfl ?_
  refine zt_iload dX11_difference_16 rfl ?_
  refine zt_isub dX11_difference_18 ?_
  refine zt_topv (v := 3) (by decide) ?_
  refine zt_iconst dX11_difference_19 ?_
  refine zt_irem dX11_difference_20 (by decide) (by decide) (by decide) ?_
  refine zt_topv (v := 1) (by decide) ?_
  refine zt_if_ne (tgt := 29) dX11_difference_21 (by decide) (by decide) (fun c_21 => ?_) (fun q => absurd q (by decide))
  refine zt_lload dX11_difference_29 rfl ?_
  refine zt_lneg dX11_difference_31 ?_
  refine zt_aload_n dX11_difference_32 rfl ?_
  refine zt_getv dX11_difference_33 fl_X11_35 (zs_38 hS) (rf_38_19 hR) ?_
  refine zt_iload_n dX11_difference_36 rfl ?_
  refine zt_iload dX11_difference_37 rfl ?_
  refine zt_iadd dX11_difference_39 ?_
  refine zt_iaload dX11_difference_40 (zs_47 hS) (by decide) (by omega) (by omega) ?_
  refine zt_i2l dX11_difference_41 (by omega) ?_
  refine zt_lmul dX11_difference_42 ?_
  refine zt_ladd dX11_difference_43 ?_
  refine zt_lstore_n_3 dX11_difference_44 (by decide) rfl ?_
  refine zt_lload dX11_difference_45 rfl ?_
  refine zt_iload_n dX11_difference_47 rfl ?_
  refine zt_iload dX11_difference_48 rfl ?_
  refine zt_isub dX11_difference_50 ?_
  refine zt_topv (v := 3) (by decide) ?_
  refine zt_i2l dX11_difference_51 (by decide) ?_
  refine zt_lmul dX11_difference_52 ?_
  refine zt_topv (v := 3) (by decide) ?_
  refine zt_iload dX11_difference_53 rfl ?_
  refine zt_iconst dX11_difference_55 ?_
  refine zt_iadd dX11_difference_56 ?_
  refine zt_topv (v := 1) (by decide) ?_
  refine zt_i2l dX11_difference_57 (by decide) ?_
  refine zt_ldiv dX11_difference_58 (by decide) (by decide) (by decide) ?_
  refine zt_topv (v := 3) (by decide) ?_
  refine zt_lstore_5 dX11_difference_59 (by decide) rfl ?_
  refine zt_iincv_7 (v := 1) dX11_difference_61 (by decide) rfl (by decide) ?_
  refine zt_goto (tgt := 8) dX11_difference_64 (by decide) ?_
  refine zt_iload dX11_difference_8 rfl ?_
  refine zt_iload_n dX11_difference_10 rfl ?_
  refine zt_icmp_gt (tgt := 67) dX11_difference_11 (by decide) (by decide) (by decide) (fun q => absurd q (by decide)) (fun c_11 => ?_)
  refine zt_lload_n dX11_difference_14 rfl ?_
  refine zt_iload_n dX11_difference_15 rfl ?_
  refine zt_iload dX11_difference_16 rfl ?_
  refine zt_isub dX11_difference_18 ?_
  refine zt_topv (v := 2) (by decide) ?_
  refine zt_iconst dX11_difference_19 ?_
  refine zt_irem dX11_difference_20 (by decide) (by decide) (by decide) ?_
  refine zt_topv (v := 0) (by decide) ?_
  refine zt_if_ne (tgt := 29) dX11_difference_21 (by decide) (by decide) (fun q => absurd q (by decide)) (fun c_21 => ?_)
  refine zt_lload dX11_difference_24 rfl ?_
  refine zt_goto (tgt := 32) dX11_difference_26 (by decide) ?_
  refine zt_aload_n dX11_difference_32 rfl ?_
  refine zt_getv dX11_difference_33 fl_X11_35 (zs_38 hS) (rf_38_19 hR) ?_
  refine zt_iload_n dX11_difference_36 rfl ?_
  refine zt_iload dX11_difference_37 rfl ?_
  refine zt_iadd dX11_difference_39 ?_
  refine zt_iaload dX11_difference_40 (zs_47 hS) (by decide) (by omega) (by omega) ?_
  refine zt_i2l dX11_difference_41 (by omega) ?_
  refine zt_lmul dX11_difference_42 ?_
  refine zt_ladd dX11_difference_43 ?_
  refine zt_lstore_n_3 dX11_difference_44 (by decide) rfl ?_
  refine zt_lload dX11_difference_45 rfl ?_
  refine zt_iload_n dX11_difference_47 rfl ?_
  refine zt_iload dX11_difference_48 rfl ?_
  refine zt_isub dX11_difference_50 ?_
  refine zt_topv (v := 2) (by decide) ?_
  refine zt_i2l dX11_difference_51 (by decide) ?_
  refine zt_lmul dX11_difference_52 ?_
  refine zt_topv (v := 6) (by decide) ?_
  refine zt_iload dX11_difference_53 rfl ?_
  refine zt_iconst dX11_difference_55 ?_
  refine zt_iadd dX11_difference_56 ?_
  refine zt_topv (v := 2) (by decide) ?_
  refine zt_i2l dX11_difference_57 (by decide) ?_
  refine zt_ldiv dX11_difference_58 (by decide) (by decide) (by decide) ?_
  refine zt_topv (v := 3) (by decide) ?_
  refine zt_lstore_5 dX11_difference_59 (by decide) rfl ?_
  refine zt_iincv_7 (v := 2) dX11_difference_61 (by decide) rfl (by decide) ?_
  refine zt_goto (tgt := 8) dX11_difference_64 (by decide) ?_
  refine zt_iload dX11_difference_8 rfl ?_
  refine zt_iload_n dX11_difference_10 rfl ?_
  refine zt_icmp_gt (tgt := 67) dX11_difference_11 (by decide) (by decide) (by decide) (fun q => absurd q (by decide)) (fun c_11 => ?_)
  refine zt_lload_n dX11_difference_14 rfl ?_
  refine zt_iload_n dX11_difference_15 rfl ?_
  refine zt_iload dX11_difference_16 rfl ?_
  refine zt_isub dX11_difference_18 ?_
  refine zt_topv (v := 1) (by decide) ?_
  refine zt_iconst dX11_difference_19 ?_
  refine zt_irem dX11_difference_20 (by decide) (by decide) (by decide) ?_
  refine zt_topv (v := 1) (by decide) ?_
  refine zt_if_ne (tgt := 29) dX11_difference_21 (by decide) (by decide) (fun c_21 => ?_) (fun q => absurd q (by decide))
  refine zt_lload dX11_difference_29 rfl ?_
  refine zt_lneg dX11_difference_31 ?_
  refine zt_aload_n dX11_difference_32 rfl ?_
  refine zt_getv dX11_difference_33 fl_X11_35 (zs_38 hS) (rf_38_19 hR) ?_
  refine zt_iload_n dX11_difference_36 rfl ?_
  refine zt_iload dX11_difference_37 rfl ?_
  refine zt_iadd dX11_difference_39 ?_
  refine zt_iaload dX11_difference_40 (zs_47 hS) (by decide) (by omega) (by omega) ?_
  refine zt_i2l dX11_difference_41 (by omega) ?_
  refine zt_lmul dX11_difference_42 ?_
  refine zt_ladd dX11_difference_43 ?_
  refine zt_lstore_n_3 dX11_difference_44 (by decide) rfl ?_
  refine zt_lload dX11_difference_45 rfl ?_
  refine zt_iload_n dX11_difference_47 rfl ?_
  refine zt_iload dX11_difference_48 rfl ?_
  refine zt_isub dX11_difference_50 ?_
  refine zt_topv (v := 1) (by decide) ?_
  refine zt_i2l dX11_difference_51 (by decide) ?_
  refine zt_lmul dX11_difference_52 ?_
  refine zt_topv (v := 3) (by decide) ?_
  refine zt_iload dX11_difference_53 rfl ?_
  refine zt_iconst dX11_difference_55 ?_
  refine zt_iadd dX11_difference_56 ?_
  refine zt_topv (v := 3) (by decide) ?_
  refine zt_i2l dX11_difference_57 (by decide) ?_
  refine zt_ldiv dX11_difference_58 (by decide) (by decide) (by decide) ?_
  refine zt_topv (v := 1) (by decide) ?_
  refine zt_lstore_5 dX11_difference_59 (by decide) rfl ?_
  refine zt_iincv_7 (v := 3) dX11_difference_61 (by decide) rfl (by decide) ?_
  refine zt_goto (tgt := 8) dX11_difference_64 (by decide) ?_
  refine zt_iload dX11_difference_8 rfl ?_
  refine zt_iload_n dX11_difference_10 rfl ?_
  refine zt_icmp_gt (tgt := 67) dX11_difference_11 (by decide) (by decide) (by decide) (fun q => absurd q (by decide)) (fun c_11 => ?_)
  refine zt_lload_n dX11_difference_14 rfl ?_
  refine zt_iload_n dX11_difference_15 rfl ?_
  refine zt_iload dX11_difference_16 rfl ?_
  refine zt_isub dX11_difference_18 ?_
  refine zt_topv (v := 0) (by decide) ?_
  refine zt_iconst dX11_difference_19 ?_
  refine zt_irem dX11_difference_20 (by decide) (by decide) (by decide) ?_
  refine zt_topv (v := 0) (by decide) ?_
  refine zt_if_ne (tgt := 29) dX11_difference_21 (by decide) (by decide) (fun q => absurd q (by decide)) (fun c_21 => ?_)
  refine zt_lload dX11_difference_24 rfl ?_
  refine zt_goto (tgt := 32) dX11_difference_26 (by decide) ?_
  refine zt_aload_n dX11_difference_32 rfl ?_
  refine zt_getv dX11_difference_33 fl_X11_35 (zs_38 hS) (rf_38_19 hR) ?_
  refine zt_iload_n dX11_difference_36 rfl ?_
  refine zt_iload dX11_difference_37 rfl ?_
  refine zt_iadd dX11_difference_39 ?_
  refine zt_iaload dX11_difference_40 (zs_47 hS) (by decide) (by omega) (by omega) ?_
  refine zt_i2l dX11_difference_41 (by omega) ?_
  refine zt_lmul dX11_difference_42 ?_
  refine zt_ladd dX11_difference_43 ?_
  refine zt_lstore_n_3 dX11_difference_44 (by decide) rfl ?_
  refine zt_lload dX11_difference_45 rfl ?_
  refine zt_iload_n dX11_difference_47 rfl ?_
  refine zt_iload dX11_difference_48 rfl ?_
  refine zt_isub dX11_difference_50 ?_
  refine zt_topv (v := 0) (by decide) ?_
  refine zt_i2l dX11_difference_51 (by decide) ?_
  refine zt_lmul dX11_difference_52 ?_
  refine zt_topv (v := 0) (by decide) ?_
  refine zt_iload dX11_difference_53 rfl ?_
  refine zt_iconst dX11_difference_55 ?_
  refine zt_iadd dX11_difference_56 ?_
  refine zt_topv (v := 4) (by decide) ?_
  refine zt_i2l dX11_difference_57 (by decide) ?_
  refine zt_ldiv dX11_difference_58 (by decide) (by decide) (by decide) ?_
  refine zt_topv (v := 0) (by decide) ?_
  refine zt_lstore_5 dX11_difference_59 (by decide) rfl ?_
  refine zt_iincv_7 (v := 4) dX11_difference_61 (by decide) rfl (by decide) ?_
  refine zt_goto (tgt := 8) dX11_difference_64 (by decide) ?_
  refine zt_iload dX11_difference_8 rfl ?_
  refine zt_iload_n dX11_difference_10 rfl ?_
  refine zt_icmp_gt (tgt := 67) dX11_difference_11 (by decide) (by decide) (by decide) (fun c_11 => ?_) (fun q => absurd q (by decide))
  refine zt_lload_n dX11_difference_67 rfl ?_
  refine zt_ldc2 dX11_difference_68 kc_X11_248 ?_
  refine zt_lrem dX11_difference_71 (by omega) (by decide) (by decide) ?_
  refine zt_ldc2 dX11_difference_72 kc_X11_248 ?_
  refine zt_ladd dX11_difference_75 ?_
  refine zt_ldc2 dX11_difference_76 kc_X11_248 ?_
  refine zt_lrem dX11_difference_79 zfm2 (by decide) (by decide) ?_
  exact zt_lret dX11_difference_80 ⟨by congr 2; rw [zfmm]; unfold jD; simp only [reduceIte, Int.reduceEq]; first | done | (congr 1; omega), rfl, rfl, rfl⟩

set_option maxRecDepth 100000 in
set_option maxHeartbeats 4000000 in
theorem c_jdf4 {d n : Nat} {sh : zSh} {h : zMem} {e : Int} (hS : zShp sh) (hR : zRf h) (he : 0 ≤ e ∧ e + 4 < 150) : zF yX11_difference cX11_difference 8 (some .long) (d + 0) 0 0 [(2, 38), (0, e), (0, 4)] n sh h (some (1, jD (h 47) e 4 % 1000000000)) n sh h := by
  refine zF.ofT (by decide +kernel) [some (2, 38), some (0, e), some (0, 4), none, none, none, none, none] rfl (Nat.le_of_ble_eq_true rfl) ?_
  refine zt_rg (fun hm => ?_)
  have r0 := hm.int (zs_47 hS) (j := e + 0) (by omega) (by omega)
  have r1 := hm.int (zs_47 hS) (j := e + 1) (by omega) (by omega)
  have r2 := hm.int (zs_47 hS) (j := e + 2) (by omega) (by omega)
  have r3 := hm.int (zs_47 hS) (j := e + 3) (by omega) (by omega)
  have r4 := hm.int (zs_47 hS) (j := e + 4) (by omega) (by omega)
  refine zt_lconst (v := 0) dX11_difference_0 rfl ?_
  refine zt_lstore_n_3 dX11_difference_1 (by decide) rfl ?_
  refine zt_lconst (v := 1) dX11_difference_2 rfl ?_
  refine zt_lstore_5 dX11_difference_3 (by decide) rfl ?_
  refine zt_iconst dX11_difference_5 ?_
  refine zt_istore_7 dX11_difference_6 (by decide) rfl ?_
  refine zt_iload dX11_difference_8 rfl ?_
  refine zt_iload_n dX11_difference_10 rfl ?_
  refine zt_icmp_gt (tgt := 67) dX11_difference_11 (by decide) (by decide) (by decide) (fun q => absurd q (by decide)) (fun c_11 => ?_)
  refine zt_lload_n dX11_difference_14 rfl ?_
  refine zt_iload_n dX11_difference_15 rfl ?_
  refine zt_iload dX11_difference_16 rfl ?_
  refine zt_isub dX11_difference_18 ?_
  refine zt_topv (v := 4) (by decide) ?_
  refine zt_iconst dX11_difference_19 ?_
  refine zt_irem dX11_difference_20 (by decide) (by decide) (by decide) ?_
  refine zt_topv (v := 0) (by decide) ?_
  refine zt_if_ne (tgt := 29) dX11_difference_21 (by decide) (by decide) (fun q => absurd q (by decide)) (fun c_21 => ?_)
  refine zt_lload dX11_difference_24 rfl ?_
  refine zt_goto (tgt := 32) dX11_difference_26 (by decide) ?_
  refine zt_aload_n dX11_difference_32 rfl ?_
  refine zt_getv dX11_difference_33 fl_X11_35 (zs_38 hS) (rf_38_19 hR) ?_
  refine zt_iload_n dX11_difference_36 rfl ?_
  refine zt_iload dX11_difference_37 rfl ?_
  refine zt_iadd dX11_difference_39 ?_
  refine zt_iaload dX11_difference_40 (zs_47 hS) (by decide) (by omega) (by omega) ?_
  refine zt_i2l dX11_difference_41 (by omega) ?_
  refine zt_lmul dX11_difference_42 ?_
  refine zt_ladd dX11_difference_43 ?_
  refine zt_lstore_n_3 dX11_difference_44 (by decide) rfl ?_
  refine zt_lload dX11_difference_45 rfl ?_
  refine zt_iload_n dX11_difference_47 rfl ?_
  refine zt_iload dX11_difference_48 rfl ?_
  refine zt_isub dX11_difference_50 ?_
  refine zt_topv (v := 4) (by decide) ?_
  refine zt_i2l dX11_difference_51 (by decide) ?_
  refine zt_lmul dX11_difference_52 ?_
  refine zt_topv (v := 4) (by decide) ?_
  refine zt_iload dX11_difference_53 rfl ?_
  refine zt_iconst dX11_difference_55 ?_
  refine zt_iadd dX11_difference_56 ?_
  refine zt_topv (v := 1) (by decide) ?_
  refine zt_i2l dX11_difference_57 (by decide) ?_
  refine zt_ldiv dX11_difference_58 (by decide) (by decide) (by decide) ?_
  refine zt_topv (v := 4) (by decide) ?_
  refine zt_lstore_5 dX11_difference_59 (by decide) rfl ?_
  refine zt_iincv_7 (v := 1) dX11_difference_61 (by decide) rfl (by decide) ?_
  refine zt_goto (tgt := 8) dX11_difference_64 (by decide) ?_
  refine zt_iload dX11_difference_8 rfl ?_
  refine zt_iload_n dX11_difference_10 rfl ?_
  refine zt_icmp_gt (tgt := 67) dX11_difference_11 (by decide) (by decide) (by decide) (fun q => absurd q (by decide)) (fun c_11 => ?_)
  refine zt_lload_n dX11_difference_14 rfl ?_
  refine zt_iload_n dX11_difference_15 rfl ?_
  refine zt_iload dX11_difference_16 rfl ?_
  refine zt_isub dX11_difference_18 ?_
  refine zt_topv (v := 3) (by decide) ?_
  refine zt_iconst dX11_difference_19 ?_
  refine zt_irem dX11_difference_20 (by decide) (by decide) (by decide) ?_
  refine zt_topv (v := 1) (by decide) ?_
  refine zt_if_ne (tgt := 29) dX11_difference_21 (by decide) (by decide) (fun c_21 => ?_) (fun q => absurd q (by decide))
  refine zt_lload dX11_difference_29 rfl ?_
  refine zt_lneg dX11_difference_31 ?_
  refine zt_aload_n dX11_difference_32 rfl ?_
  refine zt_getv dX11_difference_33 fl_X11_35 (zs_38 hS) (rf_38_19 hR) ?_
  refine zt_iload_n dX11_difference_36 rfl ?_
  refine zt_iload dX11_difference_37 rfl ?_
  refine zt_iadd dX11_difference_39 ?_
  refine zt_iaload dX11_difference_40 (zs_47 hS) (by decide) (by omega) (by omega) ?_
  refine zt_i2l dX11_difference_41 (by omega) ?_
  refine zt_lmul dX11_difference_42 ?_
  refine zt_ladd dX11_difference_43 ?_
  refine zt_lstore_n_3 dX11_difference_44 (by decide) rfl ?_
  refine zt_lload dX11_difference_45 rfl ?_
  refine zt_iload_n dX11_difference_47 rfl ?_
  refine zt_iload dX11_difference_48 rfl ?_
  refine zt_isub dX11_difference_50 ?_
  refine zt_topv (v := 3) (by decide) ?_
  refine zt_i2l dX11_difference_51 (by decide) ?_
  refine zt_lmul dX11_difference_52 ?_
  refine zt_topv (v := 12) (by decide) ?_
  refine zt_iload dX11_difference_53 rfl ?_
  refine zt_iconst dX11_difference_55 ?_
  refine zt_iadd dX11_difference_56 ?_
  refine zt_topv (v := 2) (by decide) ?_
  refine zt_i2l dX11_difference_57 (by decide) ?_
  refine zt_ldiv dX11_difference_58 (by decide) (by decide) (by decide) ?_
  refine zt_topv (v := 6) (by decide) ?_
  refine zt_lstore_5 dX11_difference_59 (by decide) rfl ?_
  refine zt_iincv_7 (v := 2) dX11_difference_61 (by decide) rfl (by decide) ?_
  refine zt_goto (tgt := 8) dX11_difference_64 (by decide) ?_
  refine zt_iload dX11_difference_8 rfl ?_
  refine zt_iload_n dX11_difference_10 rfl ?_
  refine zt_icmp_gt (tgt := 67) dX11_difference_11 (by decide) (by decide) (by decide) (fun q => absurd q (by decide)) (fun c_11 => ?_)
  refine zt_lload_n dX11_difference_14 rfl ?_
  refine zt_iload_n dX11_difference_15 rfl ?_
  refine zt_iload dX11_difference_16 rfl ?_
  refine zt_isub dX11_difference_18 ?_
  refine zt_topv (v := 2) (by decide) ?_
  refine zt_iconst dX11_difference_19 ?_
  refine zt_irem dX11_difference_20 (by decide) (by decide) (by decide) ?_
  refine zt_topv (v := 0) (by decide) ?_
  refine zt_if_ne (tgt := 29) dX11_difference_21 (by decide) (by decide) (fun q => absurd q (by decide)) (fun c_21 => ?_)
  refine zt_lload dX11_difference_24 rfl ?_
  refine zt_goto (tgt := 32) dX11_difference_26 (by decide) ?_
  refine zt_aload_n dX11_difference_32 rfl ?_
  refine zt_getv dX11_difference_33 fl_X11_35 (zs_38 hS) (rf_38_19 hR) ?_
  refine zt_iload_n dX11_difference_36 rfl ?_
  refine zt_iload dX11_difference_37 rfl ?_
  refine zt_iadd dX11_difference_39 ?_
  refine zt_iaload dX11_difference_40 (zs_47 hS) (by decide) (by omega) (by omega) ?_
  refine zt_i2l dX11_difference_41 (by omega) ?_
  refine zt_lmul dX11_difference_42 ?_
  refine zt_ladd dX11_difference_43 ?_
  refine zt_lstore_n_3 dX11_difference_44 (by decide) rfl ?_
  refine zt_lload dX11_difference_45 rfl ?_
  refine zt_iload_n dX11_difference_47 rfl ?_
  refine zt_iload dX11_difference_48 rfl ?_
  refine zt_isub dX11_difference_50 ?_
  refine zt_topv (v := 2) (by decide) ?_
  refine zt_i2l dX11_difference_51 (by decide) ?_
  refine zt_lmul dX11_difference_52 ?_
  refine zt_topv (v := 12) (by decide) ?_
  refine zt_iload dX11_difference_53 rfl ?_
  refine zt_iconst dX11_difference_55 ?_
  refine zt_iadd dX11_difference_56 ?_
  refine zt_topv (v := 3) (by decide) ?_
  refine zt_i2l dX11_difference_57 (by decide) ?_
  refine zt_ldiv dX11_difference_58 (by decide) (by decide) (by decide) ?_
  refine zt_topv (v := 4) (by decide) ?_
  refine zt_lstore_5 dX11_difference_59 (by decide) rfl ?_
  refine zt_iincv_7 (v := 3) dX11_difference_61 (by decide) rfl (by decide) ?_
  refine zt_goto (tgt := 8) dX11_difference_64 (by decide) ?_
  refine zt_iload dX11_difference_8 rfl ?_
  refine zt_iload_n dX11_difference_10 rfl ?_
  refine zt_icmp_gt (tgt := 67) dX11_difference_11 (by decide) (by decide) (by decide) (fun q => absurd q (by decide)) (fun c_11 => ?_)
  refine zt_lload_n dX11_difference_14 rfl ?_
  refine zt_iload_n dX11_difference_15 rfl ?_
  refine zt_iload dX11_difference_16 rfl ?_
  refine zt_isub dX11_difference_18 ?_
  refine zt_topv (v := 1) (by decide) ?_
  refine zt_iconst dX11_difference_19 ?_
  refine zt_irem dX11_difference_20 (by decide) (by decide) (by decide) ?_
  refine zt_topv (v := 1) (by decide) ?_
  refine zt_if_ne (tgt := 29) dX11_difference_21 (by decide) (by decide) (fun c_21 => ?_) (fun q => absurd q (by decide))
  refine zt_lload dX11_difference_29 rfl ?_
  refine zt_lneg dX11_difference_31 ?_
  refine zt_aload_n dX11_difference_32 rfl ?_
  refine zt_getv dX11_difference_33 fl_X11_35 (zs_38 hS) (rf_38_19 hR) ?_
  refine zt_iload_n dX11_difference_36 rfl ?_
  refine zt_iload dX11_difference_37 rfl ?_
  refine zt_iadd dX11_difference_39 ?_
  refine zt_iaload dX11_difference_40 (zs_47 hS) (by decide) (by omega) (by omega) ?_
  refine zt_i2l dX11_difference_41 (by omega) ?_
  refine zt_lmul dX11_difference_42 ?_
  refine zt_ladd dX11_difference_43 ?_
  refine zt_lstore_n_3 dX11_difference_44 (by decide) rfl ?_
  refine zt_lload dX11_difference_45 rfl ?_
  refine zt_iload_n dX11_difference_47 rfl ?_
  refine zt_iload dX11_difference_48 rfl ?_
  refine zt_isub dX11_difference_50 ?_
  refine zt_topv (v := 1) (by decide) ?_
  refine zt_i2l dX11_difference_51 (by decide) ?_
  refine zt_lmul dX11_difference_52 ?_
  refine zt_topv (v := 4) (by decide) ?_
  refine zt_iload dX11_difference_53 rfl ?_
  refine zt_iconst dX11_difference_55 ?_
  refine zt_iadd dX11_difference_56 ?_
  refine zt_topv (v := 4) (by decide) ?_
  refine zt_i2l dX11_difference_57 (by decide) ?_
  refine zt_ldiv dX11_difference_58 (by decide) (by decide) (by decide) ?_
  refine zt_topv (v := 1) (by decide) ?_
  refine zt_lstore_5 dX11_difference_59 (by decide) rfl ?_
  refine zt_iincv_7 (v := 4) dX11_difference_61 (by decide) rfl (by decide) ?_
  refine zt_goto (tgt := 8) dX11_difference_64 (by decide) ?_
  refine zt_iload dX11_difference_8 rfl ?_
  refine zt_iload_n dX11_difference_10 rfl ?_
  refine zt_icmp_gt (tgt := 67) dX11_difference_11 (by decide) (by decide) (by decide) (fun q => absurd q (by decide)) (fun c_11 => ?_)
  refine zt_lload_n dX11_difference_14 rfl ?_
  refine zt_iload_n dX11_difference_15 rfl ?_
  refine zt_iload dX11_difference_16 rfl ?_
  refine zt_isub dX11_difference_18 ?_
  refine zt_topv (v := 0) (by decide) ?_
  refine zt_iconst dX11_difference_19 ?_
  refine zt_irem dX11_difference_20 (by decide) (by decide) (by decide) ?_
  refine zt_topv (v := 0) (by decide) ?_
  refine zt_if_ne (tgt := 29) dX11_difference_21 (by decide) (by decide) (fun q => absurd q (by decide)) (fun c_21 => ?_)
  refine zt_lload dX11_difference_24 rfl ?_
  refine zt_goto (tgt := 32) dX11_difference_26 (by decide) ?_
  refine zt_aload_n dX11_difference_32 rfl ?_
  refine zt_getv dX11_difference_33 fl_X11_35 (zs_38 hS) (rf_38_19 hR) ?_
  refine zt_iload_n dX11_difference_36 rfl ?_
  refine zt_iload dX11_difference_37 rfl ?_
  refine zt_iadd dX11_difference_39 ?_
  refine zt_iaload dX11_difference_40 (zs_47 hS) (by decide) (by omega) (by omega) ?_
  refine zt_i2l dX11_difference_41 (by omega) ?_
  refine zt_lmul dX11_difference_42 ?_
  refine zt_ladd dX11_difference_43 ?_
  refine zt_lstore_n_3 dX11_difference_44 (by decide) rfl ?_
  refine zt_lload dX11_difference_45 rfl ?_
  refine zt_iload_n dX11_difference_47 rfl ?_
  refine zt_iload dX11_difference_48 rfl ?_
  refine zt_isub dX11_difference_50 ?_
  refine zt_topv (v := 0) (by decide) ?_
  refine zt_i2l dX11_difference_51 (by decide) ?_
  refine zt_lmul dX11_difference_52 ?_
  refine zt_topv (v := 0) (by decide) ?_
  refine zt_iload dX11_difference_53 rfl ?_
  refine zt_iconst dX11_difference_55 ?_
  refine zt_iadd dX11_difference_56 ?_
  refine zt_topv (v := 5) (by decide) ?_
  refine zt_i2l dX11_difference_57 (by decide) ?_
  refine zt_ldiv dX11_difference_58 (by decide) (by decide) (by decide) ?_
  refine zt_topv (v := 0) (by decide) ?_
  refine zt_lstore_5 dX11_difference_59 (by decide) rfl ?_
  refine zt_iincv_7 (v := 5) dX11_difference_61 (by decide) rfl (by decide) ?_
  refine zt_goto (tgt := 8) dX11_difference_64 (by decide) ?_
  refine zt_iload dX11_difference_8 rfl ?_
  refine zt_iload_n dX11_difference_10 rfl ?_
  refine zt_icmp_gt (tgt := 67) dX11_difference_11 (by decide) (by decide) (by decide) (fun c_11 => ?_) (fun q => absurd q (by decide))
  refine zt_lload_n dX11_difference_67 rfl ?_
  refine zt_ldc2 dX11_difference_68 kc_X11_248 ?_
  refine zt_lrem dX11_difference_71 (by omega) (by decide) (by decide) ?_
  refine zt_ldc2 dX11_difference_72 kc_X11_248 ?_
  refine zt_ladd dX11_difference_75 ?_
  refine zt_ldc2 dX11_difference_76 kc_X11_248 ?_
  refine zt_lrem dX11_difference_79 zfm2 (by decide) (by decide) ?_
  exact zt_lret dX11_difference_80 ⟨by congr 2; rw [zfmm]; unfold jD; simp only [reduceIte, Int.reduceEq]; first | done | (congr 1; omega), rfl, rfl, rfl⟩

theorem c_jdf {d n : Nat} {sh : zSh} {h : zMem} {e k v : Int} (hS : zShp sh) (hR : zRf h) (he : 0 ≤ e ∧ e + k < 150) (hk : 0 ≤ k ∧ k ≤ 4) (hv : jD (h 47) e k % 1000000000 = v) : zF yX11_difference cX11_difference 8 (some .long) (d + 0) 0 0 [(2, 38), (0, e), (0, k)] n sh h (some (1, v)) n sh h := by
  subst hv
  rcases (show k = 0 ∨ k = 1 ∨ k = 2 ∨ k = 3 ∨ k = 4 by omega) with rfl | rfl | rfl | rfl | rfl
  · exact c_jdf0 hS hR he
  · exact c_jdf1 hS hR he
  · exact c_jdf2 hS hR he
  · exact c_jdf3 hS hR he
  · exact c_jdf4 hS hR he

set_option maxRecDepth 100000 in
set_option maxHeartbeats 4000000 in
theorem c_jcs {d n : Nat} {sh : zSh} {h : zMem} {t e g : Int} (hS : zShp sh) (hR : zRf h) (hB : mB h) (ht : zi32 t) (he : zi32 e) (hg : zi32 g) : zF yX11_canSet cX11_canSet 5 (some .boolean) (d + 3) 0 0 [(2, 38), (0, t), (0, e), (0, g)] n sh h (some (0, zb (jCs h t e g))) n sh h := by
  refine zF.ofT (by decide +kernel) [some (2, 38), some (0, t), some (0, e), some (0, g), none] rfl (Nat.le_of_ble_eq_true rfl) ?_
  refine zt_rg (fun hm => ?_)
  have b1 := hB.1
  have b3 := hB.2.2.1
  have b4 := hB.2.2.2.1
  have b5 := hB.2.2.2.2.1
  have b6 := hB.2.2.2.2.2.1
  have b7 := hB.2.2.2.2.2.2.1
  have b8 := hB.2.2.2.2.2.2.2.1
  have b9 := hB.2.2.2.2.2.2.2.2.1
  have b10 := hB.2.2.2.2.2.2.2.2.2.1
  have b11 := hB.2.2.2.2.2.2.2.2.2.2
  refine zt_aload_n dX11_canSet_0 rfl ?_
  refine zt_iload_n dX11_canSet_1 rfl ?_
  refine zt_iload_n dX11_canSet_2 rfl ?_
  refine zt_callV2r dX11_canSet_3 ml_X11_313 (zs_38 hS) (Nat.le_of_ble_eq_true rfl) (c_jE hS hR hB (by omega) (by omega)) ?_
  refine zt_ifb_eq (tgt := 33) dX11_canSet_6 (by decide) (fun c_6 => ?_) (fun c_6 => ?_)
  · refine zt_iconst dX11_canSet_33 ?_
    exact zt_zret dX11_canSet_34 (by decide) ⟨zb0 (by omega), rfl, rfl, rfl⟩
  · have hb := hB.2.1 t c_6.1.1 c_6.1.2
    refine zt_iload_n dX11_canSet_9 rfl ?_
    refine zt_i2l dX11_canSet_10 (by omega) ?_
    refine zt_lconst (v := 1) dX11_canSet_11 rfl ?_
    refine zt_ldc2 dX11_canSet_12 kc_X11_294 ?_
    refine zt_callS3r dX11_canSet_15 ml_X11_143 (Nat.le_of_ble_eq_true rfl) (c_min_ (x := g) (y := 1) (z := 4) (by omega) (by decide) (by decide)) ?_
    refine zt_ifb_eq (tgt := 33) dX11_canSet_18 (by decide) (fun c_18 => ?_) (fun c_18 => ?_)
    · refine zt_iconst dX11_canSet_33 ?_
      exact zt_zret dX11_canSet_34 (by decide) ⟨zb0 (by omega), rfl, rfl, rfl⟩
    · refine zt_iload_n dX11_canSet_21 rfl ?_
      refine zt_iload_n dX11_canSet_22 rfl ?_
      refine zt_iadd dX11_canSet_23 ?_
      refine zt_aload_n dX11_canSet_24 rfl ?_
      refine zt_getv dX11_canSet_25 fl_X11_32 (zs_38 hS) (rf_38_18 hR) ?_
      refine zt_iload_n dX11_canSet_28 rfl ?_
      refine zt_iaload dX11_canSet_29 (zs_46 hS) (by decide) (by omega) (by omega) ?_
      refine zt_icmp_lt (tgt := 35) dX11_canSet_30 (by decide) (by omega) (hm.int (zs_46 hS) (by omega) (by omega)) (fun c_30 => ?_) (fun c_30 => ?_)
      · refine zt_iconst dX11_canSet_35 ?_
        refine zt_istore_4 dX11_canSet_36 (by decide) rfl ?_
        refine zt_iload dX11_canSet_38 rfl ?_
        refine zt_iload_n dX11_canSet_40 rfl ?_
        refine zt_icmp_gt (tgt := 71) dX11_canSet_41 (by decide) (by decide) (by omega) (fun c_41 => ?_) (fun c_41 => ?_)
        · exfalso
          omega
        · refine zt_aload_n dX11_canSet_44 rfl ?_
          refine zt_getv dX11_canSet_45 fl_X11_35 (zs_38 hS) (rf_38_19 hR) ?_
          refine zt_iload_n dX11_canSet_48 rfl ?_
          refine zt_iload_n dX11_canSet_49 rfl ?_
          refine zt_iload dX11_canSet_50 rfl ?_
          refine zt_iadd dX11_canSet_52 ?_
          refine zt_callS2r dX11_canSet_53 ml_X11_316 (Nat.le_of_ble_eq_true rfl) (c_place) ?_
          refine zt_iaload dX11_canSet_56 (zs_47 hS) (by decide) (by omega) (by omega) ?_
          refine zt_ldc_w dX11_canSet_57 kc_X11_283 ?_
          refine zt_icmp_ne (tgt := 65) dX11_canSet_60 (by decide) (hm.int (zs_47 hS) (by omega) (by omega)) (by decide) (fun c_60 => ?_) (fun c_60 => ?_)
          · refine zt_iincv_4 (v := 1) dX11_canSet_65 (by decide) rfl (by decide) ?_
            refine zt_goto (tgt := 38) dX11_canSet_68 (by decide) ?_
            refine zt_iload dX11_canSet_38 rfl ?_
            refine zt_iload_n dX11_canSet_40 rfl ?_
            refine zt_icmp_gt (tgt := 71) dX11_canSet_41 (by decide) (by decide) (by omega) (fun c_41 => ?_) (fun c_41 => ?_)
            · exfalso
              omega
            · refine zt_aload_n dX11_canSet_44 rfl ?_
              refine zt_getv dX11_canSet_45 fl_X11_35 (zs_38 hS) (rf_38_19 hR) ?_
              refine zt_iload_n dX11_canSet_48 rfl ?_
              refine zt_iload_n dX11_canSet_49 rfl ?_
              refine zt_iload dX11_canSet_50 rfl ?_
              refine zt_iadd dX11_canSet_52 ?_
              refine zt_callS2r dX11_canSet_53 ml_X11_316 (Nat.le_of_ble_eq_true rfl) (c_place) ?_
              refine zt_iaload dX11_canSet_56 (zs_47 hS) (by decide) (by omega) (by omega) ?_
              refine zt_ldc_w dX11_canSet_57 kc_X11_283 ?_
              refine zt_icmp_ne (tgt := 65) dX11_canSet_60 (by decide) (hm.int (zs_47 hS) (by omega) (by omega)) (by decide) (fun c_60 => ?_) (fun c_60 => ?_)
              · refine zt_iincv_4 (v := 2) dX11_canSet_65 (by decide) rfl (by decide) ?_
                refine zt_goto (tgt := 38) dX11_canSet_68 (by decide) ?_
                refine zt_iload dX11_canSet_38 rfl ?_
                refine zt_iload_n dX11_canSet_40 rfl ?_
                refine zt_icmp_gt (tgt := 71) dX11_canSet_41 (by decide) (by decide) (by omega) (fun c_41 => ?_) (fun c_41 => ?_)
                · refine zt_iconst dX11_canSet_71 ?_
                  exact zt_zret dX11_canSet_72 (by decide) ⟨zb1 (by omega), rfl, rfl, rfl⟩
                · refine zt_aload_n dX11_canSet_44 rfl ?_
                  refine zt_getv dX11_canSet_45 fl_X11_35 (zs_38 hS) (rf_38_19 hR) ?_
                  refine zt_iload_n dX11_canSet_48 rfl ?_
                  refine zt_iload_n dX11_canSet_49 rfl ?_
                  refine zt_iload dX11_canSet_50 rfl ?_
                  refine zt_iadd dX11_canSet_52 ?_
                  refine zt_callS2r dX11_canSet_53 ml_X11_316 (Nat.le_of_ble_eq_true rfl) (c_place) ?_
                  refine zt_iaload dX11_canSet_56 (zs_47 hS) (by decide) (by omega) (by omega) ?_
                  refine zt_ldc_w dX11_canSet_57 kc_X11_283 ?_
                  refine zt_icmp_ne (tgt := 65) dX11_canSet_60 (by decide) (hm.int (zs_47 hS) (by omega) (by omega)) (by decide) (fun c_60 => ?_) (fun c_60 => ?_)
                  · refine zt_iincv_4 (v := 3) dX11_canSet_65 (by decide) rfl (by decide) ?_
                    refine zt_goto (tgt := 38) dX11_canSet_68 (by decide) ?_
                    refine zt_iload dX11_canSet_38 rfl ?_
                    refine zt_iload_n dX11_canSet_40 rfl ?_
                    refine zt_icmp_gt (tgt := 71) dX11_canSet_41 (by decide) (by decide) (by omega) (fun c_41 => ?_) (fun c_41 => ?_)
                    · refine zt_iconst dX11_canSet_71 ?_
                      exact zt_zret dX11_canSet_72 (by decide) ⟨zb1 (by omega), rfl, rfl, rfl⟩
                    · refine zt_aload_n dX11_canSet_44 rfl ?_
                      refine zt_getv dX11_canSet_45 fl_X11_35 (zs_38 hS) (rf_38_19 hR) ?_
                      refine zt_iload_n dX11_canSet_48 rfl ?_
                      refine zt_iload_n dX11_canSet_49 rfl ?_
                      refine zt_iload dX11_canSet_50 rfl ?_
                      refine zt_iadd dX11_canSet_52 ?_
                      refine zt_callS2r dX11_canSet_53 ml_X11_316 (Nat.le_of_ble_eq_true rfl) (c_place) ?_
                      refine zt_iaload dX11_canSet_56 (zs_47 hS) (by decide) (by omega) (by omega) ?_
                      refine zt_ldc_w dX11_canSet_57 kc_X11_283 ?_
                      refine zt_icmp_ne (tgt := 65) dX11_canSet_60 (by decide) (hm.int (zs_47 hS) (by omega) (by omega)) (by decide) (fun c_60 => ?_) (fun c_60 => ?_)
                      · refine zt_iincv_4 (v := 4) dX11_canSet_65 (by decide) rfl (by decide) ?_
                        refine zt_goto (tgt := 38) dX11_canSet_68 (by decide) ?_
                        refine zt_iload dX11_canSet_38 rfl ?_
                        refine zt_iload_n dX11_canSet_40 rfl ?_
                        refine zt_icmp_gt (tgt := 71) dX11_canSet_41 (by decide) (by decide) (by omega) (fun c_41 => ?_) (fun c_41 => ?_)
                        · refine zt_iconst dX11_canSet_71 ?_
                          exact zt_zret dX11_canSet_72 (by decide) ⟨zb1 (by omega), rfl, rfl, rfl⟩
                        · refine zt_aload_n dX11_canSet_44 rfl ?_
                          refine zt_getv dX11_canSet_45 fl_X11_35 (zs_38 hS) (rf_38_19 hR) ?_
                          refine zt_iload_n dX11_canSet_48 rfl ?_
                          refine zt_iload_n dX11_canSet_49 rfl ?_
                          refine zt_iload dX11_canSet_50 rfl ?_
                          refine zt_iadd dX11_canSet_52 ?_
                          refine zt_callS2r dX11_canSet_53 ml_X11_316 (Nat.le_of_ble_eq_true rfl) (c_place) ?_
                          refine zt_iaload dX11_canSet_56 (zs_47 hS) (by decide) (by omega) (by omega) ?_
                          refine zt_ldc_w dX11_canSet_57 kc_X11_283 ?_
                          refine zt_icmp_ne (tgt := 65) dX11_canSet_60 (by decide) (hm.int (zs_47 hS) (by omega) (by omega)) (by decide) (fun c_60 => ?_) (fun c_60 => ?_)
                          · refine zt_iincv_4 (v := 5) dX11_canSet_65 (by decide) rfl (by decide) ?_
                            refine zt_goto (tgt := 38) dX11_canSet_68 (by decide) ?_
                            refine zt_iload dX11_canSet_38 rfl ?_
                            refine zt_iload_n dX11_canSet_40 rfl ?_
                            refine zt_icmp_gt (tgt := 71) dX11_canSet_41 (by decide) (by decide) (by omega) (fun c_41 => ?_) (fun c_41 => ?_)
                            · refine zt_iconst dX11_canSet_71 ?_
                              exact zt_zret dX11_canSet_72 (by decide) ⟨zb1 (by omega), rfl, rfl, rfl⟩
                            · exfalso
                              omega
                          · refine zt_iconst dX11_canSet_63 ?_
                            exact zt_zret dX11_canSet_64 (by decide) ⟨zb0 (by omega), rfl, rfl, rfl⟩
                      · refine zt_iconst dX11_canSet_63 ?_
                        exact zt_zret dX11_canSet_64 (by decide) ⟨zb0 (by omega), rfl, rfl, rfl⟩
                  · refine zt_iconst dX11_canSet_63 ?_
                    exact zt_zret dX11_canSet_64 (by decide) ⟨zb0 (by omega), rfl, rfl, rfl⟩
              · refine zt_iconst dX11_canSet_63 ?_
                exact zt_zret dX11_canSet_64 (by decide) ⟨zb0 (by omega), rfl, rfl, rfl⟩
          · refine zt_iconst dX11_canSet_63 ?_
            exact zt_zret dX11_canSet_64 (by decide) ⟨zb0 (by omega), rfl, rfl, rfl⟩
      · refine zt_iconst dX11_canSet_33 ?_
        exact zt_zret dX11_canSet_34 (by decide) ⟨zb0 (by omega), rfl, rfl, rfl⟩

set_option maxRecDepth 100000 in
set_option maxHeartbeats 4000000 in
theorem l_jen1 {d n : Nat} {sh : zSh} {h : zMem} {t e g i : Int} {c : Int → Int} {Q : Option zV → Nat → zSh → zMem → Prop} (hS : zShp sh) (hR : zRf h) (hi0 : 0 ≤ i ∧ i ≤ 4) (hc : ∀ k, 0 ≤ c k ∧ c k < 1000000000) (hK : ∀ g1 : Int → Int, (∀ y, 0 ≤ y → y < (i + 1) * 9 → g1 y = eSd c y) → zT yX11_engine cX11_engine 8 (some .int) (d + 0) 0 0 Q 88 [some (2, 38), some (0, t), some (0, e), some (0, g), some (0, i), none, none, none] [] n sh (znew h 67 g1))  : ∀ (k : Nat) (w : Int) (q : Int → Int), 9 - w < (k : Int) → 0 ≤ w → w ≤ 9 → (∀ y, 0 ≤ y → y < 9 * i + w → q y = eSd c y) → zT yX11_engine cX11_engine 8 (some .int) (d + 0) 0 0 Q 47 [some (2, 38), some (0, t), some (0, e), some (0, g), some (0, i), some (1, c i / zten w), none, some (0, w)] [] n sh (znew h 67 q) := by
  intro k
  induction k with
  | zero => intros; exfalso; omega
  | succ k ih =>
    intro w q hk h0 h1 hg
    have hi := hc i
    have hq : 0 ≤ c i / zten w ∧ c i / zten w ≤ c i := ⟨Int.ediv_nonneg (by omega) (Int.le_of_lt (zten_pos w)), Int.ediv_le_self _ (by omega)⟩
    refine zt_iload dX11_engine_47 rfl ?_
    refine zt_bipush dX11_engine_49 (by decide) ?_
    refine zt_icmp_ge (tgt := 88) dX11_engine_51 (by decide) (by omega) (by decide) (fun c_51 => ?_) (fun c_51 => ?_)
    · refine zt_kill_7 ?_
      refine zt_kill_5 ?_
      exact hK q (fun y a b => hg y a (by omega))
    · refine zt_aload_n dX11_engine_54 rfl ?_
      refine zt_getv dX11_engine_55 fl_X11_100 (zs_38 hS) (rf_38_43 (hR.new (by decide))) ?_
      refine zt_bipush dX11_engine_58 (by decide) ?_
      refine zt_iload dX11_engine_60 rfl ?_
      refine zt_imul dX11_engine_62 ?_
      refine zt_iload dX11_engine_63 rfl ?_
      refine zt_iadd dX11_engine_65 ?_
      refine zt_lload dX11_engine_66 rfl ?_
      refine zt_ldc2 dX11_engine_68 kc_X11_301 ?_
      refine zt_lrem dX11_engine_71 (by omega) (by decide) (by decide) ?_
      refine zt_topv (ztm_p (by decide) (by omega)).1 ?_
      refine zt_l2i dX11_engine_72 ?_
      refine zt_iastore dX11_engine_73 (zs_67 hS) (by decide) (by omega) (by omega) (by omega) ?_
      refine zt_lload dX11_engine_74 rfl ?_
      refine zt_ldc2 dX11_engine_76 kc_X11_301 ?_
      refine zt_ldiv dX11_engine_79 (by omega) (by decide) (by decide) ?_
      refine zt_topv ((ztm_p (by decide) (by omega)).2.trans (zten_div (by omega) h0)) ?_
      refine zt_lstore_5 dX11_engine_80 (by decide) rfl ?_
      refine zt_iinc_7 dX11_engine_82 (by decide) rfl ?_
      refine zt_goto (tgt := 47) dX11_engine_85 (by decide) ?_
      rw [znew_up]
      exact ih (w + 1) _ (by omega) (by omega) (by omega) (fun y a b => by show (if y = 9 * i + w then _ else _) = _; by_cases q : y = 9 * i + w; (rw [if_pos q]; unfold eSd; rw [show y / 9 = i by omega, show y % 9 = w by omega]); (rw [if_neg q]; exact hg y a (by omega)))

set_option maxRecDepth 100000 in
set_option maxHeartbeats 4000000 in
theorem l_jen2 {d n : Nat} {sh : zSh} {h : zMem} {t e g : Int} (hS : zShp sh) (hR : zRf h) (hcs : jCs h t e g) (hb : h 38 17 ≤ 5 ∧ h 46 t ≤ 30)  : ∀ (k : Nat) (i : Int) (q : Int → Int), 5 - i < (k : Int) → 0 ≤ i → i ≤ 5 → (∀ y, 0 ≤ y → y < i * 9 → q y = eSd (jDc (h 47) (30 * t + e) g) y) → zT yX11_engine cX11_engine 8 (some .int) (d + 4) 0 0 (fun r n1 sh1 h1 => n1 = n ∧ sh1 = sh ∧ ((jCs h t e g ∧ r = some (0, 14 + 4 * g) ∧ ∃ q : Int → Int, (∀ y, 0 ≤ y → y < 45 → q y = eSd (jDc (h 47) (30 * t + e) g) y) ∧ h1 = zup (zup (zup (znew h 67 q) 38 44 0) 38 45 0) 38 46 0) ∨ (¬ jCs h t e g ∧ r = some (0, -1) ∧ h1 = h))) 15 [some (2, 38), some (0, t), some (0, e), some (0, g), some (0, i), none, none, none] [] n sh (znew h 67 q) := by
  intro k
  induction k with
  | zero => intros; exfalso; omega
  | succ k ih =>
    intro i q hk h0 h1 hg
    refine zt_iload dX11_engine_15 rfl ?_
    refine zt_iconst dX11_engine_17 ?_
    refine zt_icmp_ge (tgt := 94) dX11_engine_18 (by decide) (by omega) (by decide) (fun c_18 => ?_) (fun c_18 => ?_)
    · refine zt_aload_n dX11_engine_94 rfl ?_
      refine zt_iconst dX11_engine_95 ?_
      refine zt_puti dX11_engine_96 fl_X11_347 rfl (zs_38 hS) (by decide) ?_
      refine zt_aload_n dX11_engine_99 rfl ?_
      refine zt_iconst dX11_engine_100 ?_
      refine zt_puti dX11_engine_101 fl_X11_350 rfl (zs_38 hS) (by decide) ?_
      refine zt_aload_n dX11_engine_104 rfl ?_
      refine zt_iconst dX11_engine_105 ?_
      refine zt_puti dX11_engine_106 fl_X11_353 rfl (zs_38 hS) (by decide) ?_
      refine zt_bipush dX11_engine_109 (by decide) ?_
      refine zt_iconst dX11_engine_111 ?_
      refine zt_iload_n dX11_engine_112 rfl ?_
      refine zt_imul dX11_engine_113 ?_
      refine zt_iadd dX11_engine_114 ?_
      exact zt_iret dX11_engine_115 ⟨rfl, rfl, Or.inl ⟨hcs, rfl, q, fun y a b => hg y a (by omega), rfl⟩⟩
    · refine zt_iload dX11_engine_21 rfl ?_
      refine zt_iload_n dX11_engine_23 rfl ?_
      refine zt_icmp_gt (tgt := 41) dX11_engine_24 (by decide) (by omega) (by omega) (fun c_24 => ?_) (fun c_24 => ?_)
      · refine zt_lconst (v := 0) dX11_engine_41 rfl ?_
        refine zt_topv (v := jDc (h 47) (30 * t + e) g i / zten 0) (by rw [show zten 0 = 1 from rfl, Int.ediv_one]; exact (if_neg (by omega)).symm) ?_
        refine zt_lstore_5 dX11_engine_42 (by decide) rfl ?_
        refine zt_iconst dX11_engine_44 ?_
        refine zt_istore_7 dX11_engine_45 (by decide) rfl ?_
        refine l_jen1 (c := jDc (h 47) (30 * t + e) g) (i := i) hS hR (by omega) (fun k => jDc_in) (fun g1 hg1 => ?_) 10 0 q (by omega) (by omega) (by omega) (fun y a b => hg y a (by omega))
        refine zt_iinc_4 dX11_engine_88 (by decide) rfl ?_
        refine zt_goto (tgt := 15) dX11_engine_91 (by decide) ?_
        exact ih (i + 1) g1 (by omega) (by omega) (by omega) (fun y a b => hg1 y a (by omega))
      · refine zt_aload_n dX11_engine_27 rfl ?_
        refine zt_iload_n dX11_engine_28 rfl ?_
        refine zt_iload_n dX11_engine_29 rfl ?_
        refine zt_callS2r dX11_engine_30 ml_X11_316 (Nat.le_of_ble_eq_true rfl) (c_place) ?_
        refine zt_iload dX11_engine_33 rfl ?_
        refine zt_callV2r dX11_engine_35 ml_X11_343 (zs_38 hS) (Nat.le_of_ble_eq_true rfl) (c_jdf (h := znew h 67 q) (v := jD (h 47) (30 * t + e) i % 1000000000) hS (hR.new (by decide)) (by omega) (by omega) (by rw [znew_ne (by decide)])) ?_
        refine zt_goto (tgt := 42) dX11_engine_38 (by decide) ?_
        refine zt_topv (v := jDc (h 47) (30 * t + e) g i / zten 0) (by rw [show zten 0 = 1 from rfl, Int.ediv_one]; exact (if_pos (by omega)).symm) ?_
        refine zt_lstore_5 dX11_engine_42 (by decide) rfl ?_
        refine zt_iconst dX11_engine_44 ?_
        refine zt_istore_7 dX11_engine_45 (by decide) rfl ?_
        refine l_jen1 (c := jDc (h 47) (30 * t + e) g) (i := i) hS hR (by omega) (fun k => jDc_in) (fun g1 hg1 => ?_) 10 0 q (by omega) (by omega) (by omega) (fun y a b => hg y a (by omega))
        refine zt_iinc_4 dX11_engine_88 (by decide) rfl ?_
        refine zt_goto (tgt := 15) dX11_engine_91 (by decide) ?_
        exact ih (i + 1) g1 (by omega) (by omega) (by omega) (fun y a b => hg1 y a (by omega))

set_option maxRecDepth 100000 in
set_option maxHeartbeats 4000000 in
theorem c_jen {d n : Nat} {sh : zSh} {h : zMem} {t e g : Int} (hS : zShp sh) (hR : zRf h) (hB : mB h) (ht : zi32 t) (he : zi32 e) (hg : zi32 g) : zM yX11_engine cX11_engine 8 (some .int) (d + 4) 0 0 [(2, 38), (0, t), (0, e), (0, g)] n sh h (fun r n1 sh1 h1 => n1 = n ∧ sh1 = sh ∧ ((jCs h t e g ∧ r = some (0, 14 + 4 * g) ∧ ∃ q : Int → Int, (∀ y, 0 ≤ y → y < 45 → q y = eSd (jDc (h 47) (30 * t + e) g) y) ∧ h1 = zup (zup (zup (znew h 67 q) 38 44 0) 38 45 0) 38 46 0) ∨ (¬ jCs h t e g ∧ r = some (0, -1) ∧ h1 = h))) := by
  refine zM.ofT2 (by decide +kernel) [some (2, 38), some (0, t), some (0, e), some (0, g), none, none, none, none] rfl (Nat.le_of_ble_eq_true rfl) ?_
  refine zt_rg (fun hm => ?_)
  have b1 := hB.1
  have b3 := hB.2.2.1
  have b4 := hB.2.2.2.1
  have b5 := hB.2.2.2.2.1
  have b6 := hB.2.2.2.2.2.1
  have b7 := hB.2.2.2.2.2.2.1
  have b8 := hB.2.2.2.2.2.2.2.1
  have b9 := hB.2.2.2.2.2.2.2.2.1
  have b10 := hB.2.2.2.2.2.2.2.2.2.1
  have b11 := hB.2.2.2.2.2.2.2.2.2.2
  refine zt_aload_n dX11_engine_0 rfl ?_
  refine zt_iload_n dX11_engine_1 rfl ?_
  refine zt_iload_n dX11_engine_2 rfl ?_
  refine zt_iload_n dX11_engine_3 rfl ?_
  refine zt_callV3r dX11_engine_4 ml_X11_339 (zs_38 hS) (Nat.le_of_ble_eq_true rfl) (c_jcs hS hR hB (by omega) (by omega) (by omega)) ?_
  refine zt_ifb_ne (tgt := 12) dX11_engine_7 (by decide) (fun c_7 => ?_) (fun c_7 => ?_)
  · refine zt_iconst dX11_engine_12 ?_
    refine zt_istore_4 dX11_engine_13 (by decide) rfl ?_
    have hb := hB.2.1 t c_7.1.1.1.1 c_7.1.1.1.2
    have e1 := l_jen2 (d := d) (n := n) hS hR c_7 (by omega) 6 0 (h 67) (by omega) (by omega) (by omega) (fun y a b => by omega)
    rw [znew_self] at e1
    exact e1
  · refine zt_iconst dX11_engine_10 ?_
    exact zt_iret dX11_engine_11 ⟨rfl, rfl, Or.inr ⟨c_7, rfl, rfl⟩⟩
