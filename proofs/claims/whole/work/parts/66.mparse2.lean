set_option maxRecDepth 100000 in
set_option maxHeartbeats 4000000 in
theorem c_dpO {d n : Nat} {sh : zSh} {h : zMem} {h0 : zMem} {p d0 m : Int} {w : List Int} {cf : Int → Int × Int} (hS : zShp sh) (hX : mTg h0) (hs : mS h0 h p w d0 m cf) (hp : 0 ≤ p ∧ p ≤ h0 (-2001) 1) (hw : w.length ≤ 700) (hmm : 0 ≤ m ∧ m ≤ 200) (hd : 0 ≤ d0 ∧ d0 < 10) : zM yX11_deeper cX11_deeper 1 (some .boolean) (d + 1) 0 0 [(2, 38)] n sh h (fun r n1 sh1 h1 => r = some (0, 1) ∧ n1 = n ∧ sh1 = sh ∧ mS h0 h1 (p) (6 :: w) (d0 + 1) (m) cf) := by
  refine zM.ofT2 (by decide +kernel) [some (2, 38)] rfl (Nat.le_of_ble_eq_true rfl) ?_
  refine zt_rg (fun hm => ?_)
  refine zt_aload_n dX11_deeper_0 rfl ?_
  refine zt_getv (v := d0) dX11_deeper_1 fl_X11_192 (zs_38 hS) hs.2.2.2.1 ?_
  refine zt_bipush dX11_deeper_4 (by decide) ?_
  refine zt_icmp_ne (tgt := 11) dX11_deeper_6 (by decide) (by omega) (by decide) (fun c_6 => ?_) (fun c_6 => ?_)
  · refine zt_aload_n dX11_deeper_11 rfl ?_
    refine zt_dup dX11_deeper_12 (Nat.ne_of_beq_eq_false rfl) ?_
    refine zt_getv (v := d0) dX11_deeper_13 fl_X11_192 (zs_38 hS) hs.2.2.2.1 ?_
    refine zt_iconst dX11_deeper_16 ?_
    refine zt_iadd dX11_deeper_17 ?_
    refine zt_puti dX11_deeper_18 fl_X11_192 rfl (zs_38 hS) (by omega) ?_
    obtain ⟨g1, hg1⟩ : ∃ g, g = zup h 38 8 (d0 + 1) := ⟨_, rfl⟩
    refine zt_mem hg1.symm ?_
    have s1 : mS h0 g1 p w (d0 + 1) m cf := hg1 ▸ hs.deep
    refine zt_aload_n dX11_deeper_21 rfl ?_
    refine zt_bipush dX11_deeper_22 (by decide) ?_
    refine zt_callV1v dX11_deeper_24 ml_X11_195 (zs_38 hS) (Nat.le_of_ble_eq_true rfl) (c_mpu hS s1.1.2.1 (by have e := s1.2.2.1.1; (try simp only [List.length_cons] at e); omega) (by decide)) ?_
    obtain ⟨g2, hg2⟩ : ∃ g, g = mPu g1 6 := ⟨_, rfl⟩
    refine zt_mem hg2.symm ?_
    have s2 : mS h0 g2 (p) (6 :: w) (d0 + 1) (m) (cf) := hg2 ▸ s1.push
    refine zt_iconst dX11_deeper_27 ?_
    exact zt_zret dX11_deeper_28 (by decide) ⟨rfl, rfl, rfl, s2⟩
  · exfalso
    omega

set_option maxRecDepth 100000 in
set_option maxHeartbeats 4000000 in
theorem c_dpF {d n : Nat} {sh : zSh} {h : zMem} {h0 : zMem} {p d0 m : Int} {w : List Int} {cf : Int → Int × Int} (hS : zShp sh) (hX : mTg h0) (hs : mS h0 h p w d0 m cf) (hp : 0 ≤ p ∧ p ≤ h0 (-2001) 1) (hw : w.length ≤ 700) (hmm : 0 ≤ m ∧ m ≤ 200) (hd : d0 = 10) : zM yX11_deeper cX11_deeper 1 (some .boolean) (d + 1) 0 0 [(2, 38)] n sh h (fun r n1 sh1 h1 => r = some (0, 0) ∧ n1 = n ∧ sh1 = sh ∧ h1 = h) := by
  refine zM.ofT2 (by decide +kernel) [some (2, 38)] rfl (Nat.le_of_ble_eq_true rfl) ?_
  refine zt_rg (fun hm => ?_)
  refine zt_aload_n dX11_deeper_0 rfl ?_
  refine zt_getv (v := d0) dX11_deeper_1 fl_X11_192 (zs_38 hS) hs.2.2.2.1 ?_
  refine zt_bipush dX11_deeper_4 (by decide) ?_
  refine zt_icmp_ne (tgt := 11) dX11_deeper_6 (by decide) (by omega) (by decide) (fun c_6 => ?_) (fun c_6 => ?_)
  · exfalso
    omega
  · refine zt_iconst dX11_deeper_9 ?_
    exact zt_zret dX11_deeper_10 (by decide) ⟨rfl, rfl, rfl, rfl⟩

set_option maxRecDepth 100000 in
set_option maxHeartbeats 4000000 in
theorem c_bothE {d n : Nat} {sh : zSh} {h : zMem} {h0 : zMem} {p d0 m : Int} {w : List Int} {cf : Int → Int × Int} (hS : zShp sh) (hX : mTg h0) (hs : mS h0 h p w d0 m cf) (hp : 0 ≤ p ∧ p ≤ h0 (-2001) 1) (hw : w.length ≤ 700) (hmm : 0 ≤ m ∧ m ≤ 200) : zM yX11_both cX11_both 3 (some .boolean) (d + 1) 0 0 [(2, 38), (0, 2), (0, 3)] n sh h (fun r n1 sh1 h1 => r = some (0, 1) ∧ n1 = n ∧ sh1 = sh ∧ mS h0 h1 (p) (3 :: 2 :: w) (d0) (m) cf) := by
  refine zM.ofT2 (by decide +kernel) [some (2, 38), some (0, 2), some (0, 3)] rfl (Nat.le_of_ble_eq_true rfl) ?_
  refine zt_rg (fun hm => ?_)
  refine zt_aload_n dX11_both_0 rfl ?_
  refine zt_iload_n dX11_both_1 rfl ?_
  refine zt_callV1v dX11_both_2 ml_X11_195 (zs_38 hS) (Nat.le_of_ble_eq_true rfl) (c_mpu hS hs.1.2.1 (by have e := hs.2.2.1.1; (try simp only [List.length_cons] at e); omega) (by decide)) ?_
  obtain ⟨g1, hg1⟩ : ∃ g, g = mPu h 2 := ⟨_, rfl⟩
  refine zt_mem hg1.symm ?_
  have s1 : mS h0 g1 (p) (2 :: w) (d0) (m) (cf) := hg1 ▸ hs.push
  refine zt_aload_n dX11_both_5 rfl ?_
  refine zt_iload_n dX11_both_6 rfl ?_
  refine zt_callV1v dX11_both_7 ml_X11_195 (zs_38 hS) (Nat.le_of_ble_eq_true rfl) (c_mpu hS s1.1.2.1 (by have e := s1.2.2.1.1; (try simp only [List.length_cons] at e); omega) (by decide)) ?_
  obtain ⟨g2, hg2⟩ : ∃ g, g = mPu g1 3 := ⟨_, rfl⟩
  refine zt_mem hg2.symm ?_
  have s2 : mS h0 g2 (p) (3 :: 2 :: w) (d0) (m) (cf) := hg2 ▸ s1.push
  refine zt_iconst dX11_both_10 ?_
  exact zt_zret dX11_both_11 (by decide) ⟨rfl, rfl, rfl, s2⟩

set_option maxRecDepth 100000 in
set_option maxHeartbeats 4000000 in
theorem c_bothT {d n : Nat} {sh : zSh} {h : zMem} {h0 : zMem} {p d0 m : Int} {w : List Int} {cf : Int → Int × Int} (hS : zShp sh) (hX : mTg h0) (hs : mS h0 h p w d0 m cf) (hp : 0 ≤ p ∧ p ≤ h0 (-2001) 1) (hw : w.length ≤ 700) (hmm : 0 ≤ m ∧ m ≤ 200) : zM yX11_both cX11_both 3 (some .boolean) (d + 1) 0 0 [(2, 38), (0, 4), (0, 5)] n sh h (fun r n1 sh1 h1 => r = some (0, 1) ∧ n1 = n ∧ sh1 = sh ∧ mS h0 h1 (p) (5 :: 4 :: w) (d0) (m) cf) := by
  refine zM.ofT2 (by decide +kernel) [some (2, 38), some (0, 4), some (0, 5)] rfl (Nat.le_of_ble_eq_true rfl) ?_
  refine zt_rg (fun hm => ?_)
  refine zt_aload_n dX11_both_0 rfl ?_
  refine zt_iload_n dX11_both_1 rfl ?_
  refine zt_callV1v dX11_both_2 ml_X11_195 (zs_38 hS) (Nat.le_of_ble_eq_true rfl) (c_mpu hS hs.1.2.1 (by have e := hs.2.2.1.1; (try simp only [List.length_cons] at e); omega) (by decide)) ?_
  obtain ⟨g1, hg1⟩ : ∃ g, g = mPu h 4 := ⟨_, rfl⟩
  refine zt_mem hg1.symm ?_
  have s1 : mS h0 g1 (p) (4 :: w) (d0) (m) (cf) := hg1 ▸ hs.push
  refine zt_aload_n dX11_both_5 rfl ?_
  refine zt_iload_n dX11_both_6 rfl ?_
  refine zt_callV1v dX11_both_7 ml_X11_195 (zs_38 hS) (Nat.le_of_ble_eq_true rfl) (c_mpu hS s1.1.2.1 (by have e := s1.2.2.1.1; (try simp only [List.length_cons] at e); omega) (by decide)) ?_
  obtain ⟨g2, hg2⟩ : ∃ g, g = mPu g1 5 := ⟨_, rfl⟩
  refine zt_mem hg2.symm ?_
  have s2 : mS h0 g2 (p) (5 :: 4 :: w) (d0) (m) (cf) := hg2 ▸ s1.push
  refine zt_iconst dX11_both_10 ?_
  exact zt_zret dX11_both_11 (by decide) ⟨rfl, rfl, rfl, s2⟩

set_option maxRecDepth 100000 in
set_option maxHeartbeats 4000000 in
theorem c_moE1 {d n : Nat} {sh : zSh} {h : zMem} {h0 : zMem} {p d0 m : Int} {w : List Int} {cf : Int → Int × Int} (hS : zShp sh) (hX : mTg h0) (hs : mS h0 h p w d0 m cf) (hp : 0 ≤ p ∧ p ≤ h0 (-2001) 1) (hw : w.length ≤ 700) (hmm : 0 ≤ m ∧ m ≤ 200) (hk : kK (h0 (-2002)) (h0 (-2001) 1) p = 43) : zM yX11_more cX11_more 8 (some .boolean) (d + 6) 0 0 [(2, 38), (0, 43), (0, 2), (0, 45), (0, 3), (0, 2), (0, 3)] n sh h (fun r n1 sh1 h1 => r = some (0, 1) ∧ n1 = n ∧ sh1 = sh ∧ mS h0 h1 (kE (h0 (-2002)) (h0 (-2001) 1) p) (3 :: 1002 :: 2 :: w) (d0) (m) cf) := by
  refine zM.ofT2 (by decide +kernel) [some (2, 38), some (0, 43), some (0, 2), some (0, 45), some (0, 3), some (0, 2), some (0, 3), none] rfl (Nat.le_of_ble_eq_true rfl) ?_
  refine zt_rg (fun hm => ?_)
  refine zt_aload_n dX11_more_0 rfl ?_
  refine zt_iload_n dX11_more_1 rfl ?_
  refine zt_callV1r dX11_more_2 ml_X11_210 (zs_38 hS) (Nat.le_of_ble_eq_true rfl) (zF.of_eq (r' := some (0, 1)) (congrArg (fun z => some (0, z)) (zb_t (by have hz := hs.2.1.2.2; unfold mtk at hz; omega))) rfl rfl rfl (c_msg hS hs.1.2.1 (by decide))) ?_
  refine zt_istore_7 dX11_more_5 (by decide) rfl ?_
  refine zt_iload dX11_more_7 rfl ?_
  refine zt_if_ne (tgt := 22) dX11_more_9 (by decide) (by decide) (fun c_9 => ?_) (fun q => absurd q (by decide))
  refine zt_aload_n dX11_more_22 rfl ?_
  refine zt_callV0q dX11_more_23 ml_X11_189 (zs_38 hS) (Nat.le_of_ble_eq_true rfl) (c_next2 hS hX hs (by omega)) ?_
  rintro r n1 sh1 g1 ⟨rfl, rfl, rfl, s1⟩
  simp only [Option.toList, List.nil_append]
  refine zt_aload_n dX11_more_26 rfl ?_
  refine zt_iload dX11_more_27 rfl ?_
  refine zt_callV1v dX11_more_29 ml_X11_195 (zs_38 hS) (Nat.le_of_ble_eq_true rfl) (c_mpu hS s1.1.2.1 (by have e := s1.2.2.1.1; (try simp only [List.length_cons] at e); omega) (by decide)) ?_
  obtain ⟨g2, hg2⟩ : ∃ g, g = mPu g1 2 := ⟨_, rfl⟩
  refine zt_mem hg2.symm ?_
  have s2 : mS h0 g2 (kE (h0 (-2002)) (h0 (-2001) 1) p) (2 :: w) (d0) (m) (cf) := hg2 ▸ s1.push
  refine zt_aload_n dX11_more_32 rfl ?_
  refine zt_sipush dX11_more_33 (by decide) ?_
  refine zt_iload dX11_more_36 rfl ?_
  refine zt_if_eq (tgt := 45) dX11_more_38 (by decide) (by decide) (fun q => absurd q (by decide)) (fun c_38 => ?_)
  refine zt_iload_n dX11_more_41 rfl ?_
  refine zt_goto (tgt := 47) dX11_more_42 (by decide) ?_
  refine zt_iadd dX11_more_47 ?_
  refine zt_topv (v := 1002) (by decide) ?_
  refine zt_callV1v dX11_more_48 ml_X11_195 (zs_38 hS) (Nat.le_of_ble_eq_true rfl) (c_mpu hS s2.1.2.1 (by have e := s2.2.2.1.1; (try simp only [List.length_cons] at e); omega) (by decide)) ?_
  obtain ⟨g3, hg3⟩ : ∃ g, g = mPu g2 1002 := ⟨_, rfl⟩
  refine zt_mem hg3.symm ?_
  have s3 : mS h0 g3 (kE (h0 (-2002)) (h0 (-2001) 1) p) (1002 :: 2 :: w) (d0) (m) (cf) := hg3 ▸ s2.push
  refine zt_aload_n dX11_more_51 rfl ?_
  refine zt_iload dX11_more_52 rfl ?_
  refine zt_callV1v dX11_more_54 ml_X11_195 (zs_38 hS) (Nat.le_of_ble_eq_true rfl) (c_mpu hS s3.1.2.1 (by have e := s3.2.2.1.1; (try simp only [List.length_cons] at e); omega) (by decide)) ?_
  obtain ⟨g4, hg4⟩ : ∃ g, g = mPu g3 3 := ⟨_, rfl⟩
  refine zt_mem hg4.symm ?_
  have s4 : mS h0 g4 (kE (h0 (-2002)) (h0 (-2001) 1) p) (3 :: 1002 :: 2 :: w) (d0) (m) (cf) := hg4 ▸ s3.push
  refine zt_iconst dX11_more_57 ?_
  exact zt_zret dX11_more_58 (by decide) ⟨rfl, rfl, rfl, s4⟩

set_option maxRecDepth 100000 in
set_option maxHeartbeats 4000000 in
theorem c_moE2 {d n : Nat} {sh : zSh} {h : zMem} {h0 : zMem} {p d0 m : Int} {w : List Int} {cf : Int → Int × Int} (hS : zShp sh) (hX : mTg h0) (hs : mS h0 h p w d0 m cf) (hp : 0 ≤ p ∧ p ≤ h0 (-2001) 1) (hw : w.length ≤ 700) (hmm : 0 ≤ m ∧ m ≤ 200) (hk : kK (h0 (-2002)) (h0 (-2001) 1) p = 45) : zM yX11_more cX11_more 8 (some .boolean) (d + 6) 0 0 [(2, 38), (0, 43), (0, 2), (0, 45), (0, 3), (0, 2), (0, 3)] n sh h (fun r n1 sh1 h1 => r = some (0, 1) ∧ n1 = n ∧ sh1 = sh ∧ mS h0 h1 (kE (h0 (-2002)) (h0 (-2001) 1) p) (3 :: 1003 :: 2 :: w) (d0) (m) cf) := by
  refine zM.ofT2 (by decide +kernel) [some (2, 38), some (0, 43), some (0, 2), some (0, 45), some (0, 3), some (0, 2), some (0, 3), none] rfl (Nat.le_of_ble_eq_true rfl) ?_
  refine zt_rg (fun hm => ?_)
  refine zt_aload_n dX11_more_0 rfl ?_
  refine zt_iload_n dX11_more_1 rfl ?_
  refine zt_callV1r dX11_more_2 ml_X11_210 (zs_38 hS) (Nat.le_of_ble_eq_true rfl) (zF.of_eq (r' := some (0, 0)) (congrArg (fun z => some (0, z)) (zb_f (by have hz := hs.2.1.2.2; unfold mtk at hz; omega))) rfl rfl rfl (c_msg hS hs.1.2.1 (by decide))) ?_
  refine zt_istore_7 dX11_more_5 (by decide) rfl ?_
  refine zt_iload dX11_more_7 rfl ?_
  refine zt_if_ne (tgt := 22) dX11_more_9 (by decide) (by decide) (fun q => absurd q (by decide)) (fun c_9 => ?_)
  refine zt_aload_n dX11_more_12 rfl ?_
  refine zt_iload_n dX11_more_13 rfl ?_
  refine zt_callV1r dX11_more_14 ml_X11_210 (zs_38 hS) (Nat.le_of_ble_eq_true rfl) (zF.of_eq (r' := some (0, 1)) (congrArg (fun z => some (0, z)) (zb_t (by have hz := hs.2.1.2.2; unfold mtk at hz; omega))) rfl rfl rfl (c_msg hS hs.1.2.1 (by decide))) ?_
  refine zt_if_ne (tgt := 22) dX11_more_17 (by decide) (by decide) (fun c_17 => ?_) (fun q => absurd q (by decide))
  refine zt_aload_n dX11_more_22 rfl ?_
  refine zt_callV0q dX11_more_23 ml_X11_189 (zs_38 hS) (Nat.le_of_ble_eq_true rfl) (c_next2 hS hX hs (by omega)) ?_
  rintro r n1 sh1 g1 ⟨rfl, rfl, rfl, s1⟩
  simp only [Option.toList, List.nil_append]
  refine zt_aload_n dX11_more_26 rfl ?_
  refine zt_iload dX11_more_27 rfl ?_
  refine zt_callV1v dX11_more_29 ml_X11_195 (zs_38 hS) (Nat.le_of_ble_eq_true rfl) (c_mpu hS s1.1.2.1 (by have e := s1.2.2.1.1; (try simp only [List.length_cons] at e); omega) (by decide)) ?_
  obtain ⟨g2, hg2⟩ : ∃ g, g = mPu g1 2 := ⟨_, rfl⟩
  refine zt_mem hg2.symm ?_
  have s2 : mS h0 g2 (kE (h0 (-2002)) (h0 (-2001) 1) p) (2 :: w) (d0) (m) (cf) := hg2 ▸ s1.push
  refine zt_aload_n dX11_more_32 rfl ?_
  refine zt_sipush dX11_more_33 (by decide) ?_
  refine zt_iload dX11_more_36 rfl ?_
  refine zt_if_eq (tgt := 45) dX11_more_38 (by decide) (by decide) (fun c_38 => ?_) (fun q => absurd q (by decide))
  refine zt_iload dX11_more_45 rfl ?_
  refine zt_iadd dX11_more_47 ?_
  refine zt_topv (v := 1003) (by decide) ?_
  refine zt_callV1v dX11_more_48 ml_X11_195 (zs_38 hS) (Nat.le_of_ble_eq_true rfl) (c_mpu hS s2.1.2.1 (by have e := s2.2.2.1.1; (try simp only [List.length_cons] at e); omega) (by decide)) ?_
  obtain ⟨g3, hg3⟩ : ∃ g, g = mPu g2 1003 := ⟨_, rfl⟩
  refine zt_mem hg3.symm ?_
  have s3 : mS h0 g3 (kE (h0 (-2002)) (h0 (-2001) 1) p) (1003 :: 2 :: w) (d0) (m) (cf) := hg3 ▸ s2.push
  refine zt_aload_n dX11_more_51 rfl ?_
  refine zt_iload dX11_more_52 rfl ?_
  refine zt_callV1v dX11_more_54 ml_X11_195 (zs_38 hS) (Nat.le_of_ble_eq_true rfl) (c_mpu hS s3.1.2.1 (by have e := s3.2.2.1.1; (try simp only [List.length_cons] at e); omega) (by decide)) ?_
  obtain ⟨g4, hg4⟩ : ∃ g, g = mPu g3 3 := ⟨_, rfl⟩
  refine zt_mem hg4.symm ?_
  have s4 : mS h0 g4 (kE (h0 (-2002)) (h0 (-2001) 1) p) (3 :: 1003 :: 2 :: w) (d0) (m) (cf) := hg4 ▸ s3.push
  refine zt_iconst dX11_more_57 ?_
  exact zt_zret dX11_more_58 (by decide) ⟨rfl, rfl, rfl, s4⟩

set_option maxRecDepth 100000 in
set_option maxHeartbeats 4000000 in
theorem c_moE0 {d n : Nat} {sh : zSh} {h : zMem} {h0 : zMem} {p d0 m : Int} {w : List Int} {cf : Int → Int × Int} (hS : zShp sh) (hX : mTg h0) (hs : mS h0 h p w d0 m cf) (hp : 0 ≤ p ∧ p ≤ h0 (-2001) 1) (hw : w.length ≤ 700) (hmm : 0 ≤ m ∧ m ≤ 200) (hk : kK (h0 (-2002)) (h0 (-2001) 1) p ≠ 43 ∧ kK (h0 (-2002)) (h0 (-2001) 1) p ≠ 45) : zM yX11_more cX11_more 8 (some .boolean) (d + 6) 0 0 [(2, 38), (0, 43), (0, 2), (0, 45), (0, 3), (0, 2), (0, 3)] n sh h (fun r n1 sh1 h1 => r = some (0, 1) ∧ n1 = n ∧ sh1 = sh ∧ mS h0 h1 (p) (w) (d0) (m) cf) := by
  refine zM.ofT2 (by decide +kernel) [some (2, 38), some (0, 43), some (0, 2), some (0, 45), some (0, 3), some (0, 2), some (0, 3), none] rfl (Nat.le_of_ble_eq_true rfl) ?_
  refine zt_rg (fun hm => ?_)
  refine zt_aload_n dX11_more_0 rfl ?_
  refine zt_iload_n dX11_more_1 rfl ?_
  refine zt_callV1r dX11_more_2 ml_X11_210 (zs_38 hS) (Nat.le_of_ble_eq_true rfl) (zF.of_eq (r' := some (0, 0)) (congrArg (fun z => some (0, z)) (zb_f (by have hz := hs.2.1.2.2; unfold mtk at hz; omega))) rfl rfl rfl (c_msg hS hs.1.2.1 (by decide))) ?_
  refine zt_istore_7 dX11_more_5 (by decide) rfl ?_
  refine zt_iload dX11_more_7 rfl ?_
  refine zt_if_ne (tgt := 22) dX11_more_9 (by decide) (by decide) (fun q => absurd q (by decide)) (fun c_9 => ?_)
  refine zt_aload_n dX11_more_12 rfl ?_
  refine zt_iload_n dX11_more_13 rfl ?_
  refine zt_callV1r dX11_more_14 ml_X11_210 (zs_38 hS) (Nat.le_of_ble_eq_true rfl) (zF.of_eq (r' := some (0, 0)) (congrArg (fun z => some (0, z)) (zb_f (by have hz := hs.2.1.2.2; unfold mtk at hz; omega))) rfl rfl rfl (c_msg hS hs.1.2.1 (by decide))) ?_
  refine zt_if_ne (tgt := 22) dX11_more_17 (by decide) (by decide) (fun q => absurd q (by decide)) (fun c_17 => ?_)
  refine zt_iconst dX11_more_20 ?_
  exact zt_zret dX11_more_21 (by decide) ⟨rfl, rfl, rfl, hs⟩

set_option maxRecDepth 100000 in
set_option maxHeartbeats 4000000 in
theorem c_moT1 {d n : Nat} {sh : zSh} {h : zMem} {h0 : zMem} {p d0 m : Int} {w : List Int} {cf : Int → Int × Int} (hS : zShp sh) (hX : mTg h0) (hs : mS h0 h p w d0 m cf) (hp : 0 ≤ p ∧ p ≤ h0 (-2001) 1) (hw : w.length ≤ 700) (hmm : 0 ≤ m ∧ m ≤ 200) (hk : kK (h0 (-2002)) (h0 (-2001) 1) p = 42) : zM yX11_more cX11_more 8 (some .boolean) (d + 6) 0 0 [(2, 38), (0, 42), (0, 4), (0, 47), (0, 5), (0, 4), (0, 5)] n sh h (fun r n1 sh1 h1 => r = some (0, 1) ∧ n1 = n ∧ sh1 = sh ∧ mS h0 h1 (kE (h0 (-2002)) (h0 (-2001) 1) p) (5 :: 1004 :: 4 :: w) (d0) (m) cf) := by
  refine zM.ofT2 (by decide +kernel) [some (2, 38), some (0, 42), some (0, 4), some (0, 47), some (0, 5), some (0, 4), some (0, 5), none] rfl (Nat.le_of_ble_eq_true rfl) ?_
  refine zt_rg (fun hm => ?_)
  refine zt_aload_n dX11_more_0 rfl ?_
  refine zt_iload_n dX11_more_1 rfl ?_
  refine zt_callV1r dX11_more_2 ml_X11_210 (zs_38 hS) (Nat.le_of_ble_eq_true rfl) (zF.of_eq (r' := some (0, 1)) (congrArg (fun z => some (0, z)) (zb_t (by have hz := hs.2.1.2.2; unfold mtk at hz; omega))) rfl rfl rfl (c_msg hS hs.1.2.1 (by decide))) ?_
  refine zt_istore_7 dX11_more_5 (by decide) rfl ?_
  refine zt_iload dX11_more_7 rfl ?_
  refine zt_if_ne (tgt := 22) dX11_more_9 (by decide) (by decide) (fun c_9 => ?_) (fun q => absurd q (by decide))
  refine zt_aload_n dX11_more_22 rfl ?_
  refine zt_callV0q dX11_more_23 ml_X11_189 (zs_38 hS) (Nat.le_of_ble_eq_true rfl) (c_next2 hS hX hs (by omega)) ?_
  rintro r n1 sh1 g1 ⟨rfl, rfl, rfl, s1⟩
  simp only [Option.toList, List.nil_append]
  refine zt_aload_n dX11_more_26 rfl ?_
  refine zt_iload dX11_more_27 rfl ?_
  refine zt_callV1v dX11_more_29 ml_X11_195 (zs_38 hS) (Nat.le_of_ble_eq_true rfl) (c_mpu hS s1.1.2.1 (by have e := s1.2.2.1.1; (try simp only [List.length_cons] at e); omega) (by decide)) ?_
  obtain ⟨g2, hg2⟩ : ∃ g, g = mPu g1 4 := ⟨_, rfl⟩
  refine zt_mem hg2.symm ?_
  have s2 : mS h0 g2 (kE (h0 (-2002)) (h0 (-2001) 1) p) (4 :: w) (d0) (m) (cf) := hg2 ▸ s1.push
  refine zt_aload_n dX11_more_32 rfl ?_
  refine zt_sipush dX11_more_33 (by decide) ?_
  refine zt_iload dX11_more_36 rfl ?_
  refine zt_if_eq (tgt := 45) dX11_more_38 (by decide) (by decide) (fun q => absurd q (by decide)) (fun c_38 => ?_)
  refine zt_iload_n dX11_more_41 rfl ?_
  refine zt_goto (tgt := 47) dX11_more_42 (by decide) ?_
  refine zt_iadd dX11_more_47 ?_
  refine zt_topv (v := 1004) (by decide) ?_
  refine zt_callV1v dX11_more_48 ml_X11_195 (zs_38 hS) (Nat.le_of_ble_eq_true rfl) (c_mpu hS s2.1.2.1 (by have e := s2.2.2.1.1; (try simp only [List.length_cons] at e); omega) (by decide)) ?_
  obtain ⟨g3, hg3⟩ : ∃ g, g = mPu g2 1004 := ⟨_, rfl⟩
  refine zt_mem hg3.symm ?_
  have s3 : mS h0 g3 (kE (h0 (-2002)) (h0 (-2001) 1) p) (1004 :: 4 :: w) (d0) (m) (cf) := hg3 ▸ s2.push
  refine zt_aload_n dX11_more_51 rfl ?_
  refine zt_iload dX11_more_52 rfl ?_
  refine zt_callV1v dX11_more_54 ml_X11_195 (zs_38 hS) (Nat.le_of_ble_eq_true rfl) (c_mpu hS s3.1.2.1 (by have e := s3.2.2.1.1; (try simp only [List.length_cons] at e); omega) (by decide)) ?_
  obtain ⟨g4, hg4⟩ : ∃ g, g = mPu g3 5 := ⟨_, rfl⟩
  refine zt_mem hg4.symm ?_
  have s4 : mS h0 g4 (kE (h0 (-2002)) (h0 (-2001) 1) p) (5 :: 1004 :: 4 :: w) (d0) (m) (cf) := hg4 ▸ s3.push
  refine zt_iconst dX11_more_57 ?_
  exact zt_zret dX11_more_58 (by decide) ⟨rfl, rfl, rfl, s4⟩

set_option maxRecDepth 100000 in
set_option maxHeartbeats 4000000 in
theorem c_moT2 {d n : Nat} {sh : zSh} {h : zMem} {h0 : zMem} {p d0 m : Int} {w : List Int} {cf : Int → Int × Int} (hS : zShp sh) (hX : mTg h0) (hs : mS h0 h p w d0 m cf) (hp : 0 ≤ p ∧ p ≤ h0 (-2001) 1) (hw : w.length ≤ 700) (hmm : 0 ≤ m ∧ m ≤ 200) (hk : kK (h0 (-2002)) (h0 (-2001) 1) p = 47) : zM yX11_more cX11_more 8 (some .boolean) (d + 6) 0 0 [(2, 38), (0, 42), (0, 4), (0, 47), (0, 5), (0, 4), (0, 5)] n sh h (fun r n1 sh1 h1 => r = some (0, 1) ∧ n1 = n ∧ sh1 = sh ∧ mS h0 h1 (kE (h0 (-2002)) (h0 (-2001) 1) p) (5 :: 1005 :: 4 :: w) (d0) (m) cf) := by
  refine zM.ofT2 (by decide +kernel) [some (2, 38), some (0, 42), some (0, 4), some (0, 47), some (0, 5), some (0, 4), some (0, 5), none] rfl (Nat.le_of_ble_eq_true rfl) ?_
  refine zt_rg (fun hm => ?_)
  refine zt_aload_n dX11_more_0 rfl ?_
  refine zt_iload_n dX11_more_1 rfl ?_
  refine zt_callV1r dX11_more_2 ml_X11_210 (zs_38 hS) (Nat.le_of_ble_eq_true rfl) (zF.of_eq (r' := some (0, 0)) (congrArg (fun z => some (0, z)) (zb_f (by have hz := hs.2.1.2.2; unfold mtk at hz; omega))) rfl rfl rfl (c_msg hS hs.1.2.1 (by decide))) ?_
  refine zt_istore_7 dX11_more_5 (by decide) rfl ?_
  refine zt_iload dX11_more_7 rfl ?_
  refine zt_if_ne (tgt := 22) dX11_more_9 (by decide) (by decide) (fun q => absurd q (by decide)) (fun c_9 => ?_)
  refine zt_aload_n dX11_more_12 rfl ?_
  refine zt_iload_n dX11_more_13 rfl ?_
  refine zt_callV1r dX11_more_14 ml_X11_210 (zs_38 hS) (Nat.le_of_ble_eq_true rfl) (zF.of_eq (r' := some (0, 1)) (congrArg (fun z => some (0, z)) (zb_t (by have hz := hs.2.1.2.2; unfold mtk at hz; omega))) rfl rfl rfl (c_msg hS hs.1.2.1 (by decide))) ?_
  refine zt_if_ne (tgt := 22) dX11_more_17 (by decide) (by decide) (fun c_17 => ?_) (fun q => absurd q (by decide))
  refine zt_aload_n dX11_more_22 rfl ?_
  refine zt_callV0q dX11_more_23 ml_X11_189 (zs_38 hS) (Nat.le_of_ble_eq_true rfl) (c_next2 hS hX hs (by omega)) ?_
  rintro r n1 sh1 g1 ⟨rfl, rfl, rfl, s1⟩
  simp only [Option.toList, List.nil_append]
  refine zt_aload_n dX11_more_26 rfl ?_
  refine zt_iload dX11_more_27 rfl ?_
  refine zt_callV1v dX11_more_29 ml_X11_195 (zs_38 hS) (Nat.le_of_ble_eq_true rfl) (c_mpu hS s1.1.2.1 (by have e := s1.2.2.1.1; (try simp only [List.length_cons] at e); omega) (by decide)) ?_
  obtain ⟨g2, hg2⟩ : ∃ g, g = mPu g1 4 := ⟨_, rfl⟩
  refine zt_mem hg2.symm ?_
  have s2 : mS h0 g2 (kE (h0 (-2002)) (h0 (-2001) 1) p) (4 :: w) (d0) (m) (cf) := hg2 ▸ s1.push
  refine zt_aload_n dX11_more_32 rfl ?_
  refine zt_sipush dX11_more_33 (by decide) ?_
  refine zt_iload dX11_more_36 rfl ?_
  refine zt_if_eq (tgt := 45) dX11_more_38 (by decide) (by decide) (fun c_38 => ?_) (fun q => absurd q (by decide))
  refine zt_iload dX11_more_45 rfl ?_
  refine zt_iadd dX11_more_47 ?_
  refine zt_topv (v := 1005) (by decide) ?_
  refine zt_callV1v dX11_more_48 ml_X11_195 (zs_38 hS) (Nat.le_of_ble_eq_true rfl) (c_mpu hS s2.1.2.1 (by have e := s2.2.2.1.1; (try simp only [List.length_cons] at e); omega) (by decide)) ?_
  obtain ⟨g3, hg3⟩ : ∃ g, g = mPu g2 1005 := ⟨_, rfl⟩
  refine zt_mem hg3.symm ?_
  have s3 : mS h0 g3 (kE (h0 (-2002)) (h0 (-2001) 1) p) (1005 :: 4 :: w) (d0) (m) (cf) := hg3 ▸ s2.push
  refine zt_aload_n dX11_more_51 rfl ?_
  refine zt_iload dX11_more_52 rfl ?_
  refine zt_callV1v dX11_more_54 ml_X11_195 (zs_38 hS) (Nat.le_of_ble_eq_true rfl) (c_mpu hS s3.1.2.1 (by have e := s3.2.2.1.1; (try simp only [List.length_cons] at e); omega) (by decide)) ?_
  obtain ⟨g4, hg4⟩ : ∃ g, g = mPu g3 5 := ⟨_, rfl⟩
  refine zt_mem hg4.symm ?_
  have s4 : mS h0 g4 (kE (h0 (-2002)) (h0 (-2001) 1) p) (5 :: 1005 :: 4 :: w) (d0) (m) (cf) := hg4 ▸ s3.push
  refine zt_iconst dX11_more_57 ?_
  exact zt_zret dX11_more_58 (by decide) ⟨rfl, rfl, rfl, s4⟩

set_option maxRecDepth 100000 in
set_option maxHeartbeats 4000000 in
theorem c_moT0 {d n : Nat} {sh : zSh} {h : zMem} {h0 : zMem} {p d0 m : Int} {w : List Int} {cf : Int → Int × Int} (hS : zShp sh) (hX : mTg h0) (hs : mS h0 h p w d0 m cf) (hp : 0 ≤ p ∧ p ≤ h0 (-2001) 1) (hw : w.length ≤ 700) (hmm : 0 ≤ m ∧ m ≤ 200) (hk : kK (h0 (-2002)) (h0 (-2001) 1) p ≠ 42 ∧ kK (h0 (-2002)) (h0 (-2001) 1) p ≠ 47) : zM yX11_more cX11_more 8 (some .boolean) (d + 6) 0 0 [(2, 38), (0, 42), (0, 4), (0, 47), (0, 5), (0, 4), (0, 5)] n sh h (fun r n1 sh1 h1 => r = some (0, 1) ∧ n1 = n ∧ sh1 = sh ∧ mS h0 h1 (p) (w) (d0) (m) cf) := by
  refine zM.ofT2 (by decide +kernel) [some (2, 38), some (0, 42), some (0, 4), some (0, 47), some (0, 5), some (0, 4), some (0, 5), none] rfl (Nat.le_of_ble_eq_true rfl) ?_
  refine zt_rg (fun hm => ?_)
  refine zt_aload_n dX11_more_0 rfl ?_
  refine zt_iload_n dX11_more_1 rfl ?_
  refine zt_callV1r dX11_more_2 ml_X11_210 (zs_38 hS) (Nat.le_of_ble_eq_true rfl) (zF.of_eq (r' := some (0, 0)) (congrArg (fun z => some (0, z)) (zb_f (by have hz := hs.2.1.2.2; unfold mtk at hz; omega))) rfl rfl rfl (c_msg hS hs.1.2.1 (by decide))) ?_
  refine zt_istore_7 dX11_more_5 (by decide) rfl ?_
  refine zt_iload dX11_more_7 rfl ?_
  refine zt_if_ne (tgt := 22) dX11_more_9 (by decide) (by decide) (fun q => absurd q (by decide)) (fun c_9 => ?_)
  refine zt_aload_n dX11_more_12 rfl ?_
  refine zt_iload_n dX11_more_13 rfl ?_
  refine zt_callV1r dX11_more_14 ml_X11_210 (zs_38 hS) (Nat.le_of_ble_eq_true rfl) (zF.of_eq (r' := some (0, 0)) (congrArg (fun z => some (0, z)) (zb_f (by have hz := hs.2.1.2.2; unfold mtk at hz; omega))) rfl rfl rfl (c_msg hS hs.1.2.1 (by decide))) ?_
  refine zt_if_ne (tgt := 22) dX11_more_17 (by decide) (by decide) (fun q => absurd q (by decide)) (fun c_17 => ?_)
  refine zt_iconst dX11_more_20 ?_
  exact zt_zret dX11_more_21 (by decide) ⟨rfl, rfl, rfl, hs⟩

set_option maxRecDepth 100000 in
set_option maxHeartbeats 4000000 in
theorem c_rl1 {d n : Nat} {sh : zSh} {h : zMem} {h0 : zMem} {p d0 m : Int} {w : List Int} {cf : Int → Int × Int} (hS : zShp sh) (hX : mTg h0) (hs : mS h0 h p w d0 m cf) (hp : 0 ≤ p ∧ p ≤ h0 (-2001) 1) (hw : w.length ≤ 700) (hmm : 0 ≤ m ∧ m ≤ 200) (hk : kK (h0 (-2002)) (h0 (-2001) 1) p = 60) : zM yX11_compares cX11_compares 1 (some .boolean) (d + 7) 0 0 [(2, 38)] n sh h (fun r n1 sh1 h1 => r = some (0, 1) ∧ n1 = n ∧ sh1 = sh ∧ mS h0 h1 (kE (h0 (-2002)) (h0 (-2001) 1) p) (1 :: 306 :: 1 :: 307 :: 1 :: 1011 :: w) (d0) (m) cf) := by
  refine zM.ofT2 (by decide +kernel) [some (2, 38)] rfl (Nat.le_of_ble_eq_true rfl) ?_
  refine zt_rg (fun hm => ?_)
  refine zt_aload_n dX11_compares_0 rfl ?_
  refine zt_bipush dX11_compares_1 (by decide) ?_
  refine zt_callV1r dX11_compares_3 ml_X11_210 (zs_38 hS) (Nat.le_of_ble_eq_true rfl) (zF.of_eq (r' := some (0, 1)) (congrArg (fun z => some (0, z)) (zb_t (by have hz := hs.2.1.2.2; unfold mtk at hz; omega))) rfl rfl rfl (c_msg hS hs.1.2.1 (by decide))) ?_
  refine zt_if_ne (tgt := 29) dX11_compares_6 (by decide) (by decide) (fun c_6 => ?_) (fun q => absurd q (by decide))
  refine zt_aload_n dX11_compares_29 rfl ?_
  refine zt_sipush dX11_compares_30 (by decide) ?_
  refine zt_aload_n dX11_compares_33 rfl ?_
  refine zt_bipush dX11_compares_34 (by decide) ?_
  refine zt_callV1r dX11_compares_36 ml_X11_210 (zs_38 hS) (Nat.le_of_ble_eq_true rfl) (zF.of_eq (r' := some (0, 1)) (congrArg (fun z => some (0, z)) (zb_t (by have hz := hs.2.1.2.2; unfold mtk at hz; omega))) rfl rfl rfl (c_msg hS hs.1.2.1 (by decide))) ?_
  refine zt_if_eq (tgt := 47) dX11_compares_39 (by decide) (by decide) (fun q => absurd q (by decide)) (fun c_39 => ?_)
  refine zt_bipush dX11_compares_42 (by decide) ?_
  refine zt_goto (tgt := 63) dX11_compares_44 (by decide) ?_
  refine zt_iadd dX11_compares_63 ?_
  refine zt_topv (v := 1011) (by decide) ?_
  refine zt_callV1v dX11_compares_64 ml_X11_195 (zs_38 hS) (Nat.le_of_ble_eq_true rfl) (c_mpu hS hs.1.2.1 (by have e := hs.2.2.1.1; (try simp only [List.length_cons] at e); omega) (by decide)) ?_
  obtain ⟨g1, hg1⟩ : ∃ g, g = mPu h 1011 := ⟨_, rfl⟩
  refine zt_mem hg1.symm ?_
  have s1 : mS h0 g1 (p) (1011 :: w) (d0) (m) (cf) := hg1 ▸ hs.push
  refine zt_aload_n dX11_compares_67 rfl ?_
  refine zt_iconst dX11_compares_68 ?_
  refine zt_callV1v dX11_compares_69 ml_X11_195 (zs_38 hS) (Nat.le_of_ble_eq_true rfl) (c_mpu hS s1.1.2.1 (by have e := s1.2.2.1.1; (try simp only [List.length_cons] at e); omega) (by decide)) ?_
  obtain ⟨g2, hg2⟩ : ∃ g, g = mPu g1 1 := ⟨_, rfl⟩
  refine zt_mem hg2.symm ?_
  have s2 : mS h0 g2 (p) (1 :: 1011 :: w) (d0) (m) (cf) := hg2 ▸ s1.push
  refine zt_aload_n dX11_compares_72 rfl ?_
  refine zt_sipush dX11_compares_73 (by decide) ?_
  refine zt_callV1v dX11_compares_76 ml_X11_195 (zs_38 hS) (Nat.le_of_ble_eq_true rfl) (c_mpu hS s2.1.2.1 (by have e := s2.2.2.1.1; (try simp only [List.length_cons] at e); omega) (by decide)) ?_
  obtain ⟨g3, hg3⟩ : ∃ g, g = mPu g2 307 := ⟨_, rfl⟩
  refine zt_mem hg3.symm ?_
  have s3 : mS h0 g3 (p) (307 :: 1 :: 1011 :: w) (d0) (m) (cf) := hg3 ▸ s2.push
  refine zt_aload_n dX11_compares_79 rfl ?_
  refine zt_iconst dX11_compares_80 ?_
  refine zt_callV1v dX11_compares_81 ml_X11_195 (zs_38 hS) (Nat.le_of_ble_eq_true rfl) (c_mpu hS s3.1.2.1 (by have e := s3.2.2.1.1; (try simp only [List.length_cons] at e); omega) (by decide)) ?_
  obtain ⟨g4, hg4⟩ : ∃ g, g = mPu g3 1 := ⟨_, rfl⟩
  refine zt_mem hg4.symm ?_
  have s4 : mS h0 g4 (p) (1 :: 307 :: 1 :: 1011 :: w) (d0) (m) (cf) := hg4 ▸ s3.push
  refine zt_aload_n dX11_compares_84 rfl ?_
  refine zt_sipush dX11_compares_85 (by decide) ?_
  refine zt_callV1v dX11_compares_88 ml_X11_195 (zs_38 hS) (Nat.le_of_ble_eq_true rfl) (c_mpu hS s4.1.2.1 (by have e := s4.2.2.1.1; (try simp only [List.length_cons] at e); omega) (by decide)) ?_
  obtain ⟨g5, hg5⟩ : ∃ g, g = mPu g4 306 := ⟨_, rfl⟩
  refine zt_mem hg5.symm ?_
  have s5 : mS h0 g5 (p) (306 :: 1 :: 307 :: 1 :: 1011 :: w) (d0) (m) (cf) := hg5 ▸ s4.push
  refine zt_aload_n dX11_compares_91 rfl ?_
  refine zt_iconst dX11_compares_92 ?_
  refine zt_callV1v dX11_compares_93 ml_X11_195 (zs_38 hS) (Nat.le_of_ble_eq_true rfl) (c_mpu hS s5.1.2.1 (by have e := s5.2.2.1.1; (try simp only [List.length_cons] at e); omega) (by decide)) ?_
  obtain ⟨g6, hg6⟩ : ∃ g, g = mPu g5 1 := ⟨_, rfl⟩
  refine zt_mem hg6.symm ?_
  have s6 : mS h0 g6 (p) (1 :: 306 :: 1 :: 307 :: 1 :: 1011 :: w) (d0) (m) (cf) := hg6 ▸ s5.push
  refine zt_aload_n dX11_compares_96 rfl ?_
  refine zt_callV0q dX11_compares_97 ml_X11_206 (zs_38 hS) (Nat.le_of_ble_eq_true rfl) (c_mtk hS hX s6 (by omega)) ?_
  rintro r n1 sh1 g7 ⟨rfl, rfl, rfl, s7⟩
  simp only [Option.toList, List.cons_append, List.nil_append]
  exact zt_zret dX11_compares_100 (by decide) ⟨rfl, rfl, rfl, s7⟩

set_option maxRecDepth 100000 in
set_option maxHeartbeats 4000000 in
theorem c_rl2 {d n : Nat} {sh : zSh} {h : zMem} {h0 : zMem} {p d0 m : Int} {w : List Int} {cf : Int → Int × Int} (hS : zShp sh) (hX : mTg h0) (hs : mS h0 h p w d0 m cf) (hp : 0 ≤ p ∧ p ≤ h0 (-2001) 1) (hw : w.length ≤ 700) (hmm : 0 ≤ m ∧ m ≤ 200) (hk : kK (h0 (-2002)) (h0 (-2001) 1) p = 62) : zM yX11_compares cX11_compares 1 (some .boolean) (d + 7) 0 0 [(2, 38)] n sh h (fun r n1 sh1 h1 => r = some (0, 1) ∧ n1 = n ∧ sh1 = sh ∧ mS h0 h1 (kE (h0 (-2002)) (h0 (-2001) 1) p) (1 :: 306 :: 1 :: 307 :: 1 :: 1012 :: w) (d0) (m) cf) := by
  refine zM.ofT2 (by decide +kernel) [some (2, 38)] rfl (Nat.le_of_ble_eq_true rfl) ?_
  refine zt_rg (fun hm => ?_)
  refine zt_aload_n dX11_compares_0 rfl ?_
  refine zt_bipush dX11_compares_1 (by decide) ?_
  refine zt_callV1r dX11_compares_3 ml_X11_210 (zs_38 hS) (Nat.le_of_ble_eq_true rfl) (zF.of_eq (r' := some (0, 0)) (congrArg (fun z => some (0, z)) (zb_f (by have hz := hs.2.1.2.2; unfold mtk at hz; omega))) rfl rfl rfl (c_msg hS hs.1.2.1 (by decide))) ?_
  refine zt_if_ne (tgt := 29) dX11_compares_6 (by decide) (by decide) (fun q => absurd q (by decide)) (fun c_6 => ?_)
  refine zt_aload_n dX11_compares_9 rfl ?_
  refine zt_bipush dX11_compares_10 (by decide) ?_
  refine zt_callV1r dX11_compares_12 ml_X11_210 (zs_38 hS) (Nat.le_of_ble_eq_true rfl) (zF.of_eq (r' := some (0, 1)) (congrArg (fun z => some (0, z)) (zb_t (by have hz := hs.2.1.2.2; unfold mtk at hz; omega))) rfl rfl rfl (c_msg hS hs.1.2.1 (by decide))) ?_
  refine zt_if_ne (tgt := 29) dX11_compares_15 (by decide) (by decide) (fun c_15 => ?_) (fun q => absurd q (by decide))
  refine zt_aload_n dX11_compares_29 rfl ?_
  refine zt_sipush dX11_compares_30 (by decide) ?_
  refine zt_aload_n dX11_compares_33 rfl ?_
  refine zt_bipush dX11_compares_34 (by decide) ?_
  refine zt_callV1r dX11_compares_36 ml_X11_210 (zs_38 hS) (Nat.le_of_ble_eq_true rfl) (zF.of_eq (r' := some (0, 0)) (congrArg (fun z => some (0, z)) (zb_f (by have hz := hs.2.1.2.2; unfold mtk at hz; omega))) rfl rfl rfl (c_msg hS hs.1.2.1 (by decide))) ?_
  refine zt_if_eq (tgt := 47) dX11_compares_39 (by decide) (by decide) (fun c_39 => ?_) (fun q => absurd q (by decide))
  refine zt_aload_n dX11_compares_47 rfl ?_
  refine zt_bipush dX11_compares_48 (by decide) ?_
  refine zt_callV1r dX11_compares_50 ml_X11_210 (zs_38 hS) (Nat.le_of_ble_eq_true rfl) (zF.of_eq (r' := some (0, 1)) (congrArg (fun z => some (0, z)) (zb_t (by have hz := hs.2.1.2.2; unfold mtk at hz; omega))) rfl rfl rfl (c_msg hS hs.1.2.1 (by decide))) ?_
  refine zt_if_eq (tgt := 61) dX11_compares_53 (by decide) (by decide) (fun q => absurd q (by decide)) (fun c_53 => ?_)
  refine zt_bipush dX11_compares_56 (by decide) ?_
  refine zt_goto (tgt := 63) dX11_compares_58 (by decide) ?_
  refine zt_iadd dX11_compares_63 ?_
  refine zt_topv (v := 1012) (by decide) ?_
  refine zt_callV1v dX11_compares_64 ml_X11_195 (zs_38 hS) (Nat.le_of_ble_eq_true rfl) (c_mpu hS hs.1.2.1 (by have e := hs.2.2.1.1; (try simp only [List.length_cons] at e); omega) (by decide)) ?_
  obtain ⟨g1, hg1⟩ : ∃ g, g = mPu h 1012 := ⟨_, rfl⟩
  refine zt_mem hg1.symm ?_
  have s1 : mS h0 g1 (p) (1012 :: w) (d0) (m) (cf) := hg1 ▸ hs.push
  refine zt_aload_n dX11_compares_67 rfl ?_
  refine zt_iconst dX11_compares_68 ?_
  refine zt_callV1v dX11_compares_69 ml_X11_195 (zs_38 hS) (Nat.le_of_ble_eq_true rfl) (c_mpu hS s1.1.2.1 (by have e := s1.2.2.1.1; (try simp only [List.length_cons] at e); omega) (by decide)) ?_
  obtain ⟨g2, hg2⟩ : ∃ g, g = mPu g1 1 := ⟨_, rfl⟩
  refine zt_mem hg2.symm ?_
  have s2 : mS h0 g2 (p) (1 :: 1012 :: w) (d0) (m) (cf) := hg2 ▸ s1.push
  refine zt_aload_n dX11_compares_72 rfl ?_
  refine zt_sipush dX11_compares_73 (by decide) ?_
  refine zt_callV1v dX11_compares_76 ml_X11_195 (zs_38 hS) (Nat.le_of_ble_eq_true rfl) (c_mpu hS s2.1.2.1 (by have e := s2.2.2.1.1; (try simp only [List.length_cons] at e); omega) (by decide)) ?_
  obtain ⟨g3, hg3⟩ : ∃ g, g = mPu g2 307 := ⟨_, rfl⟩
  refine zt_mem hg3.symm ?_
  have s3 : mS h0 g3 (p) (307 :: 1 :: 1012 :: w) (d0) (m) (cf) := hg3 ▸ s2.push
  refine zt_aload_n dX11_compares_79 rfl ?_
  refine zt_iconst dX11_compares_80 ?_
  refine zt_callV1v dX11_compares_81 ml_X11_195 (zs_38 hS) (Nat.le_of_ble_eq_true rfl) (c_mpu hS s3.1.2.1 (by have e := s3.2.2.1.1; (try simp only [List.length_cons] at e); omega) (by decide)) ?_
  obtain ⟨g4, hg4⟩ : ∃ g, g = mPu g3 1 := ⟨_, rfl⟩
  refine zt_mem hg4.symm ?_
  have s4 : mS h0 g4 (p) (1 :: 307 :: 1 :: 1012 :: w) (d0) (m) (cf) := hg4 ▸ s3.push
  refine zt_aload_n dX11_compares_84 rfl ?_
  refine zt_sipush dX11_compares_85 (by decide) ?_
  refine zt_callV1v dX11_compares_88 ml_X11_195 (zs_38 hS) (Nat.le_of_ble_eq_true rfl) (c_mpu hS s4.1.2.1 (by have e := s4.2.2.1.1; (try simp only [List.length_cons] at e); omega) (by decide)) ?_
  obtain ⟨g5, hg5⟩ : ∃ g, g = mPu g4 306 := ⟨_, rfl⟩
  refine zt_mem hg5.symm ?_
  have s5 : mS h0 g5 (p) (306 :: 1 :: 307 :: 1 :: 1012 :: w) (d0) (m) (cf) := hg5 ▸ s4.push
  refine zt_aload_n dX11_compares_91 rfl ?_
  refine zt_iconst dX11_compares_92 ?_
  refine zt_callV1v dX11_compares_93 ml_X11_195 (zs_38 hS) (Nat.le_of_ble_eq_true rfl) (c_mpu hS s5.1.2.1 (by have e := s5.2.2.1.1; (try simp only [List.length_cons] at e); omega) (by decide)) ?_
  obtain ⟨g6, hg6⟩ : ∃ g, g = mPu g5 1 := ⟨_, rfl⟩
  refine zt_mem hg6.symm ?_
  have s6 : mS h0 g6 (p) (1 :: 306 :: 1 :: 307 :: 1 :: 1012 :: w) (d0) (m) (cf) := hg6 ▸ s5.push
  refine zt_aload_n dX11_compares_96 rfl ?_
  refine zt_callV0q dX11_compares_97 ml_X11_206 (zs_38 hS) (Nat.le_of_ble_eq_true rfl) (c_mtk hS hX s6 (by omega)) ?_
  rintro r n1 sh1 g7 ⟨rfl, rfl, rfl, s7⟩
  simp only [Option.toList, List.cons_append, List.nil_append]
  exact zt_zret dX11_compares_100 (by decide) ⟨rfl, rfl, rfl, s7⟩

set_option maxRecDepth 100000 in
set_option maxHeartbeats 4000000 in
theorem c_rl3 {d n : Nat} {sh : zSh} {h : zMem} {h0 : zMem} {p d0 m : Int} {w : List Int} {cf : Int → Int × Int} (hS : zShp sh) (hX : mTg h0) (hs : mS h0 h p w d0 m cf) (hp : 0 ≤ p ∧ p ≤ h0 (-2001) 1) (hw : w.length ≤ 700) (hmm : 0 ≤ m ∧ m ≤ 200) (hk : kK (h0 (-2002)) (h0 (-2001) 1) p = 61) : zM yX11_compares cX11_compares 1 (some .boolean) (d + 7) 0 0 [(2, 38)] n sh h (fun r n1 sh1 h1 => r = some (0, 1) ∧ n1 = n ∧ sh1 = sh ∧ mS h0 h1 (kE (h0 (-2002)) (h0 (-2001) 1) p) (1 :: 306 :: 1 :: 307 :: 1 :: 1013 :: w) (d0) (m) cf) := by
  refine zM.ofT2 (by decide +kernel) [some (2, 38)] rfl (Nat.le_of_ble_eq_true rfl) ?_
  refine zt_rg (fun hm => ?_)
  refine zt_aload_n dX11_compares_0 rfl ?_
  refine zt_bipush dX11_compares_1 (by decide) ?_
  refine zt_callV1r dX11_compares_3 ml_X11_210 (zs_38 hS) (Nat.le_of_ble_eq_true rfl) (zF.of_eq (r' := some (0, 0)) (congrArg (fun z => some (0, z)) (zb_f (by have hz := hs.2.1.2.2; unfold mtk at hz; omega))) rfl rfl rfl (c_msg hS hs.1.2.1 (by decide))) ?_
  refine zt_if_ne (tgt := 29) dX11_compares_6 (by decide) (by decide) (fun q => absurd q (by decide)) (fun c_6 => ?_)
  refine zt_aload_n dX11_compares_9 rfl ?_
  refine zt_bipush dX11_compares_10 (by decide) ?_
  refine zt_callV1r dX11_compares_12 ml_X11_210 (zs_38 hS) (Nat.le_of_ble_eq_true rfl) (zF.of_eq (r' := some (0, 0)) (congrArg (fun z => some (0, z)) (zb_f (by have hz := hs.2.1.2.2; unfold mtk at hz; omega))) rfl rfl rfl (c_msg hS hs.1.2.1 (by decide))) ?_
  refine zt_if_ne (tgt := 29) dX11_compares_15 (by decide) (by decide) (fun q => absurd q (by decide)) (fun c_15 => ?_)
  refine zt_aload_n dX11_compares_18 rfl ?_
  refine zt_bipush dX11_compares_19 (by decide) ?_
  refine zt_callV1r dX11_compares_21 ml_X11_210 (zs_38 hS) (Nat.le_of_ble_eq_true rfl) (zF.of_eq (r' := some (0, 1)) (congrArg (fun z => some (0, z)) (zb_t (by have hz := hs.2.1.2.2; unfold mtk at hz; omega))) rfl rfl rfl (c_msg hS hs.1.2.1 (by decide))) ?_
  refine zt_if_ne (tgt := 29) dX11_compares_24 (by decide) (by decide) (fun c_24 => ?_) (fun q => absurd q (by decide))
  refine zt_aload_n dX11_compares_29 rfl ?_
  refine zt_sipush dX11_compares_30 (by decide) ?_
  refine zt_aload_n dX11_compares_33 rfl ?_
  refine zt_bipush dX11_compares_34 (by decide) ?_
  refine zt_callV1r dX11_compares_36 ml_X11_210 (zs_38 hS) (Nat.le_of_ble_eq_true rfl) (zF.of_eq (r' := some (0, 0)) (congrArg (fun z => some (0, z)) (zb_f (by have hz := hs.2.1.2.2; unfold mtk at hz; omega))) rfl rfl rfl (c_msg hS hs.1.2.1 (by decide))) ?_
  refine zt_if_eq (tgt := 47) dX11_compares_39 (by decide) (by decide) (fun c_39 => ?_) (fun q => absurd q (by decide))
  refine zt_aload_n dX11_compares_47 rfl ?_
  refine zt_bipush dX11_compares_48 (by decide) ?_
  refine zt_callV1r dX11_compares_50 ml_X11_210 (zs_38 hS) (Nat.le_of_ble_eq_true rfl) (zF.of_eq (r' := some (0, 0)) (congrArg (fun z => some (0, z)) (zb_f (by have hz := hs.2.1.2.2; unfold mtk at hz; omega))) rfl rfl rfl (c_msg hS hs.1.2.1 (by decide))) ?_
  refine zt_if_eq (tgt := 61) dX11_compares_53 (by decide) (by decide) (fun c_53 => ?_) (fun q => absurd q (by decide))
  refine zt_bipush dX11_compares_61 (by decide) ?_
  refine zt_iadd dX11_compares_63 ?_
  refine zt_topv (v := 1013) (by decide) ?_
  refine zt_callV1v dX11_compares_64 ml_X11_195 (zs_38 hS) (Nat.le_of_ble_eq_true rfl) (c_mpu hS hs.1.2.1 (by have e := hs.2.2.1.1; (try simp only [List.length_cons] at e); omega) (by decide)) ?_
  obtain ⟨g1, hg1⟩ : ∃ g, g = mPu h 1013 := ⟨_, rfl⟩
  refine zt_mem hg1.symm ?_
  have s1 : mS h0 g1 (p) (1013 :: w) (d0) (m) (cf) := hg1 ▸ hs.push
  refine zt_aload_n dX11_compares_67 rfl ?_
  refine zt_iconst dX11_compares_68 ?_
  refine zt_callV1v dX11_compares_69 ml_X11_195 (zs_38 hS) (Nat.le_of_ble_eq_true rfl) (c_mpu hS s1.1.2.1 (by have e := s1.2.2.1.1; (try simp only [List.length_cons] at e); omega) (by decide)) ?_
  obtain ⟨g2, hg2⟩ : ∃ g, g = mPu g1 1 := ⟨_, rfl⟩
  refine zt_mem hg2.symm ?_
  have s2 : mS h0 g2 (p) (1 :: 1013 :: w) (d0) (m) (cf) := hg2 ▸ s1.push
  refine zt_aload_n dX11_compares_72 rfl ?_
  refine zt_sipush dX11_compares_73 (by decide) ?_
  refine zt_callV1v dX11_compares_76 ml_X11_195 (zs_38 hS) (Nat.le_of_ble_eq_true rfl) (c_mpu hS s2.1.2.1 (by have e := s2.2.2.1.1; (try simp only [List.length_cons] at e); omega) (by decide)) ?_
  obtain ⟨g3, hg3⟩ : ∃ g, g = mPu g2 307 := ⟨_, rfl⟩
  refine zt_mem hg3.symm ?_
  have s3 : mS h0 g3 (p) (307 :: 1 :: 1013 :: w) (d0) (m) (cf) := hg3 ▸ s2.push
  refine zt_aload_n dX11_compares_79 rfl ?_
  refine zt_iconst dX11_compares_80 ?_
  refine zt_callV1v dX11_compares_81 ml_X11_195 (zs_38 hS) (Nat.le_of_ble_eq_true rfl) (c_mpu hS s3.1.2.1 (by have e := s3.2.2.1.1; (try simp only [List.length_cons] at e); omega) (by decide)) ?_
  obtain ⟨g4, hg4⟩ : ∃ g, g = mPu g3 1 := ⟨_, rfl⟩
  refine zt_mem hg4.symm ?_
  have s4 : mS h0 g4 (p) (1 :: 307 :: 1 :: 1013 :: w) (d0) (m) (cf) := hg4 ▸ s3.push
  refine zt_aload_n dX11_compares_84 rfl ?_
  refine zt_sipush dX11_compares_85 (by decide) ?_
  refine zt_callV1v dX11_compares_88 ml_X11_195 (zs_38 hS) (Nat.le_of_ble_eq_true rfl) (c_mpu hS s4.1.2.1 (by have e := s4.2.2.1.1; (try simp only [List.length_cons] at e); omega) (by decide)) ?_
  obtain ⟨g5, hg5⟩ : ∃ g, g = mPu g4 306 := ⟨_, rfl⟩
  refine zt_mem hg5.symm ?_
  have s5 : mS h0 g5 (p) (306 :: 1 :: 307 :: 1 :: 1013 :: w) (d0) (m) (cf) := hg5 ▸ s4.push
  refine zt_aload_n dX11_compares_91 rfl ?_
  refine zt_iconst dX11_compares_92 ?_
  refine zt_callV1v dX11_compares_93 ml_X11_195 (zs_38 hS) (Nat.le_of_ble_eq_true rfl) (c_mpu hS s5.1.2.1 (by have e := s5.2.2.1.1; (try simp only [List.length_cons] at e); omega) (by decide)) ?_
  obtain ⟨g6, hg6⟩ : ∃ g, g = mPu g5 1 := ⟨_, rfl⟩
  refine zt_mem hg6.symm ?_
  have s6 : mS h0 g6 (p) (1 :: 306 :: 1 :: 307 :: 1 :: 1013 :: w) (d0) (m) (cf) := hg6 ▸ s5.push
  refine zt_aload_n dX11_compares_96 rfl ?_
  refine zt_callV0q dX11_compares_97 ml_X11_206 (zs_38 hS) (Nat.le_of_ble_eq_true rfl) (c_mtk hS hX s6 (by omega)) ?_
  rintro r n1 sh1 g7 ⟨rfl, rfl, rfl, s7⟩
  simp only [Option.toList, List.cons_append, List.nil_append]
  exact zt_zret dX11_compares_100 (by decide) ⟨rfl, rfl, rfl, s7⟩

set_option maxRecDepth 100000 in
set_option maxHeartbeats 4000000 in
theorem c_rl0 {d n : Nat} {sh : zSh} {h : zMem} {h0 : zMem} {p d0 m : Int} {w : List Int} {cf : Int → Int × Int} (hS : zShp sh) (hX : mTg h0) (hs : mS h0 h p w d0 m cf) (hp : 0 ≤ p ∧ p ≤ h0 (-2001) 1) (hw : w.length ≤ 700) (hmm : 0 ≤ m ∧ m ≤ 200) (hk : kK (h0 (-2002)) (h0 (-2001) 1) p ≠ 60 ∧ kK (h0 (-2002)) (h0 (-2001) 1) p ≠ 62 ∧ kK (h0 (-2002)) (h0 (-2001) 1) p ≠ 61) : zM yX11_compares cX11_compares 1 (some .boolean) (d + 7) 0 0 [(2, 38)] n sh h (fun r n1 sh1 h1 => r = some (0, 0) ∧ n1 = n ∧ sh1 = sh ∧ h1 = h) := by
  refine zM.ofT2 (by decide +kernel) [some (2, 38)] rfl (Nat.le_of_ble_eq_true rfl) ?_
  refine zt_rg (fun hm => ?_)
  refine zt_aload_n dX11_compares_0 rfl ?_
  refine zt_bipush dX11_compares_1 (by decide) ?_
  refine zt_callV1r dX11_compares_3 ml_X11_210 (zs_38 hS) (Nat.le_of_ble_eq_true rfl) (zF.of_eq (r' := some (0, 0)) (congrArg (fun z => some (0, z)) (zb_f (by have hz := hs.2.1.2.2; unfold mtk at hz; omega))) rfl rfl rfl (c_msg hS hs.1.2.1 (by decide))) ?_
  refine zt_if_ne (tgt := 29) dX11_compares_6 (by decide) (by decide) (fun q => absurd q (by decide)) (fun c_6 => ?_)
  refine zt_aload_n dX11_compares_9 rfl ?_
  refine zt_bipush dX11_compares_10 (by decide) ?_
  refine zt_callV1r dX11_compares_12 ml_X11_210 (zs_38 hS) (Nat.le_of_ble_eq_true rfl) (zF.of_eq (r' := some (0, 0)) (congrArg (fun z => some (0, z)) (zb_f (by have hz := hs.2.1.2.2; unfold mtk at hz; omega))) rfl rfl rfl (c_msg hS hs.1.2.1 (by decide))) ?_
  refine zt_if_ne (tgt := 29) dX11_compares_15 (by decide) (by decide) (fun q => absurd q (by decide)) (fun c_15 => ?_)
  refine zt_aload_n dX11_compares_18 rfl ?_
  refine zt_bipush dX11_compares_19 (by decide) ?_
  refine zt_callV1r dX11_compares_21 ml_X11_210 (zs_38 hS) (Nat.le_of_ble_eq_true rfl) (zF.of_eq (r' := some (0, 0)) (congrArg (fun z => some (0, z)) (zb_f (by have hz := hs.2.1.2.2; unfold mtk at hz; omega))) rfl rfl rfl (c_msg hS hs.1.2.1 (by decide))) ?_
  refine zt_if_ne (tgt := 29) dX11_compares_24 (by decide) (by decide) (fun q => absurd q (by decide)) (fun c_24 => ?_)
  refine zt_iconst dX11_compares_27 ?_
  exact zt_zret dX11_compares_28 (by decide) ⟨rfl, rfl, rfl, rfl⟩


set_option maxRecDepth 100000 in
set_option maxHeartbeats 4000000 in
theorem c_fN {d n : Nat} {sh : zSh} {h : zMem} {h0 : zMem} {p d0 m : Int} {w : List Int} {cf : Int → Int × Int} (hS : zShp sh) (hX : mTg h0) (hs : mS h0 h p w d0 m cf) (hp : 0 ≤ p ∧ p ≤ h0 (-2001) 1) (hw : w.length ≤ 700) (hmm : 0 ≤ m ∧ m ≤ 200) (hk : kK (h0 (-2002)) (h0 (-2001) 1) p = 2) (hm2 : m < 200) : zM yX11_factor cX11_factor 2 (some .boolean) (d + 7) 0 0 [(2, 38)] n sh h (fun r n1 sh1 h1 => r = some (0, 1) ∧ n1 = n ∧ sh1 = sh ∧ mS h0 h1 (kE (h0 (-2002)) (h0 (-2001) 1) p) (w) (d0) (m + 1) (fun j => if j < m then cf j else (0, kN (h0 (-2002)) (h0 (-2001) 1) p))) := by
  refine zM.ofT2 (by decide +kernel) [some (2, 38), none] rfl (Nat.le_of_ble_eq_true rfl) ?_
  refine zt_rg (fun hm => ?_)
  have hkn : 0 ≤ kN (h0 (-2002)) (h0 (-2001) 1) p ∧ kN (h0 (-2002)) (h0 (-2001) 1) p ≤ 999999 := by have hz := hs.2.1.2.2; unfold mtk at hz; omega
  refine zt_aload_n dX11_factor_0 rfl ?_
  refine zt_getv (v := 1) dX11_factor_1 fl_X11_168 (zs_38 hS) (by have hz := hs.2.1.2.2; unfold mtk at hz; omega) ?_
  refine zt_iconst dX11_factor_4 ?_
  refine zt_icmp_ne (tgt := 33) dX11_factor_5 (by decide) (by decide) (by decide) (fun q => absurd q (by decide)) (fun c_5 => ?_)
  refine zt_aload_n dX11_factor_8 rfl ?_
  refine zt_getv (v := kN (h0 (-2002)) (h0 (-2001) 1) p) dX11_factor_9 fl_X11_165 (zs_38 hS) (by have hz := hs.2.1.2.2; unfold mtk at hz; omega) ?_
  refine zt_ldc dX11_factor_12 kc_X11_227 ?_
  refine zt_icmp_le (tgt := 19) dX11_factor_14 (by decide) (by omega) (by decide) (fun c_14 => ?_) (fun c_14 => ?_)
  · refine zt_aload_n dX11_factor_19 rfl ?_
    refine zt_iconst dX11_factor_20 ?_
    refine zt_aload_n dX11_factor_21 rfl ?_
    refine zt_getv (v := kN (h0 (-2002)) (h0 (-2001) 1) p) dX11_factor_22 fl_X11_165 (zs_38 hS) (by have hz := hs.2.1.2.2; unfold mtk at hz; omega) ?_
    refine zt_callV2v dX11_factor_25 ml_X11_199 (zs_38 hS) (Nat.le_of_ble_eq_true rfl) (c_mem hS hs.1.2.1 (by rw [hs.2.2.2.2.1]; omega) (by decide) (by have hz := nv_b (T := h0 (-2002)) (L := h0 (-2001) 1) (p := kS (h0 (-2002)) (h0 (-2001) 1) p); unfold kN; omega)) ?_
    obtain ⟨g1, hg1⟩ : ∃ g, g = mEm h 0 (kN (h0 (-2002)) (h0 (-2001) 1) p) := ⟨_, rfl⟩
    refine zt_mem hg1.symm ?_
    have s1 : mS h0 g1 (p) (w) (d0) (m + 1) (fun j => if j < m then cf j else (0, kN (h0 (-2002)) (h0 (-2001) 1) p)) := hg1 ▸ hs.emit
    refine zt_aload_n dX11_factor_28 rfl ?_
    refine zt_callV0q dX11_factor_29 ml_X11_206 (zs_38 hS) (Nat.le_of_ble_eq_true rfl) (c_mtk hS hX s1 (by omega)) ?_
    rintro r n1 sh1 g2 ⟨rfl, rfl, rfl, s2⟩
    simp only [Option.toList, List.cons_append, List.nil_append]
    exact zt_zret dX11_factor_32 (by decide) ⟨rfl, rfl, rfl, s2⟩
  · exfalso
    omega

set_option maxRecDepth 100000 in
set_option maxHeartbeats 4000000 in
theorem c_fX {d n : Nat} {sh : zSh} {h : zMem} {h0 : zMem} {p d0 m : Int} {w : List Int} {cf : Int → Int × Int} (hS : zShp sh) (hX : mTg h0) (hs : mS h0 h p w d0 m cf) (hp : 0 ≤ p ∧ p ≤ h0 (-2001) 1) (hw : w.length ≤ 700) (hmm : 0 ≤ m ∧ m ≤ 200) (hk : kK (h0 (-2002)) (h0 (-2001) 1) p = 3) (hm2 : m < 200) : zM yX11_factor cX11_factor 2 (some .boolean) (d + 7) 0 0 [(2, 38)] n sh h (fun r n1 sh1 h1 => r = some (0, 1) ∧ n1 = n ∧ sh1 = sh ∧ mS h0 h1 (kE (h0 (-2002)) (h0 (-2001) 1) p) (w) (d0) (m + 1) (fun j => if j < m then cf j else (1, 0))) := by
  refine zM.ofT2 (by decide +kernel) [some (2, 38), none] rfl (Nat.le_of_ble_eq_true rfl) ?_
  refine zt_rg (fun hm => ?_)
  refine zt_aload_n dX11_factor_0 rfl ?_
  refine zt_getv (v := 2) dX11_factor_1 fl_X11_168 (zs_38 hS) (by have hz := hs.2.1.2.2; unfold mtk at hz; omega) ?_
  refine zt_iconst dX11_factor_4 ?_
  refine zt_icmp_ne (tgt := 33) dX11_factor_5 (by decide) (by decide) (by decide) (fun c_5 => ?_) (fun q => absurd q (by decide))
  refine zt_aload_n dX11_factor_33 rfl ?_
  refine zt_iconst dX11_factor_34 ?_
  refine zt_callV1r dX11_factor_35 ml_X11_203 (zs_38 hS) (Nat.le_of_ble_eq_true rfl) (zF.of_eq (r' := some (0, 1)) (congrArg (fun z => some (0, z)) (zb_t (by have hz := hs.2.1.2.2; unfold mtk at hz; omega))) rfl rfl rfl (c_mwo hS hs.1.2.1 (by decide))) ?_
  refine zt_if_eq (tgt := 52) dX11_factor_38 (by decide) (by decide) (fun q => absurd q (by decide)) (fun c_38 => ?_)
  refine zt_aload_n dX11_factor_41 rfl ?_
  refine zt_iconst dX11_factor_42 ?_
  refine zt_iconst dX11_factor_43 ?_
  refine zt_callV2v dX11_factor_44 ml_X11_199 (zs_38 hS) (Nat.le_of_ble_eq_true rfl) (c_mem hS hs.1.2.1 (by rw [hs.2.2.2.2.1]; omega) (by decide) (by decide)) ?_
  obtain ⟨g1, hg1⟩ : ∃ g, g = mEm h 1 0 := ⟨_, rfl⟩
  refine zt_mem hg1.symm ?_
  have s1 : mS h0 g1 (p) (w) (d0) (m + 1) (fun j => if j < m then cf j else (1, 0)) := hg1 ▸ hs.emit
  refine zt_aload_n dX11_factor_47 rfl ?_
  refine zt_callV0q dX11_factor_48 ml_X11_206 (zs_38 hS) (Nat.le_of_ble_eq_true rfl) (c_mtk hS hX s1 (by omega)) ?_
  rintro r n1 sh1 g2 ⟨rfl, rfl, rfl, s2⟩
  simp only [Option.toList, List.cons_append, List.nil_append]
  exact zt_zret dX11_factor_51 (by decide) ⟨rfl, rfl, rfl, s2⟩

set_option maxRecDepth 100000 in
set_option maxHeartbeats 4000000 in
theorem c_f40 {d n : Nat} {sh : zSh} {h : zMem} {h0 : zMem} {p d0 m : Int} {w : List Int} {cf : Int → Int × Int} (hS : zShp sh) (hX : mTg h0) (hs : mS h0 h p w d0 m cf) (hp : 0 ≤ p ∧ p ≤ h0 (-2001) 1) (hw : w.length ≤ 700) (hmm : 0 ≤ m ∧ m ≤ 200) (hk : kK (h0 (-2002)) (h0 (-2001) 1) p = 40) (hd : 0 ≤ d0 ∧ d0 < 10) : zM yX11_factor cX11_factor 2 (some .boolean) (d + 7) 0 0 [(2, 38)] n sh h (fun r n1 sh1 h1 => r = some (0, 1) ∧ n1 = n ∧ sh1 = sh ∧ mS h0 h1 (kE (h0 (-2002)) (h0 (-2001) 1) p) (1 :: 141 :: 6 :: w) (d0 + 1) (m) cf) := by
  refine zM.ofT2 (by decide +kernel) [some (2, 38), none] rfl (Nat.le_of_ble_eq_true rfl) ?_
  refine zt_rg (fun hm => ?_)
  refine zt_aload_n dX11_factor_0 rfl ?_
  refine zt_getv (v := 3) dX11_factor_1 fl_X11_168 (zs_38 hS) (by have hz := hs.2.1.2.2; unfold mtk at hz; omega) ?_
  refine zt_iconst dX11_factor_4 ?_
  refine zt_icmp_ne (tgt := 33) dX11_factor_5 (by decide) (by decide) (by decide) (fun c_5 => ?_) (fun q => absurd q (by decide))
  refine zt_aload_n dX11_factor_33 rfl ?_
  refine zt_iconst dX11_factor_34 ?_
  refine zt_callV1r dX11_factor_35 ml_X11_203 (zs_38 hS) (Nat.le_of_ble_eq_true rfl) (zF.of_eq (r' := some (0, 0)) (congrArg (fun z => some (0, z)) (zb_f (by have hz := hs.2.1.2.2; unfold mtk at hz; omega))) rfl rfl rfl (c_mwo hS hs.1.2.1 (by decide))) ?_
  refine zt_if_eq (tgt := 52) dX11_factor_38 (by decide) (by decide) (fun c_38 => ?_) (fun q => absurd q (by decide))
  refine zt_aload_n dX11_factor_52 rfl ?_
  refine zt_bipush dX11_factor_53 (by decide) ?_
  refine zt_callV1r dX11_factor_55 ml_X11_210 (zs_38 hS) (Nat.le_of_ble_eq_true rfl) (zF.of_eq (r' := some (0, 1)) (congrArg (fun z => some (0, z)) (zb_t (by have hz := hs.2.1.2.2; unfold mtk at hz; omega))) rfl rfl rfl (c_msg hS hs.1.2.1 (by decide))) ?_
  refine zt_if_ne (tgt := 93) dX11_factor_58 (by decide) (by decide) (fun c_58 => ?_) (fun q => absurd q (by decide))
  refine zt_iconst dX11_factor_93 ?_
  refine zt_goto (tgt := 98) dX11_factor_94 (by decide) ?_
  refine zt_istore_n_1 dX11_factor_98 (by decide) rfl ?_
  refine zt_iload_n dX11_factor_99 rfl ?_
  refine zt_if_eq (tgt := 110) dX11_factor_100 (by decide) (by decide) (fun q => absurd q (by decide)) (fun c_100 => ?_)
  refine zt_aload_n dX11_factor_103 rfl ?_
  refine zt_callV0q dX11_factor_104 ml_X11_230 (zs_38 hS) (Nat.le_of_ble_eq_true rfl) (c_dpO hS hX hs hp hw hmm hd) ?_
  rintro r n1 sh1 g1 ⟨rfl, rfl, rfl, s1⟩
  simp only [Option.toList, List.cons_append, List.nil_append]
  refine zt_if_ne (tgt := 112) dX11_factor_107 (by decide) (by decide) (fun c_107 => ?_) (fun q => absurd q (by decide))
  refine zt_aload_n dX11_factor_112 rfl ?_
  refine zt_bipush dX11_factor_113 (by decide) ?_
  refine zt_callV1r dX11_factor_115 ml_X11_210 (zs_38 hS) (Nat.le_of_ble_eq_true rfl) (zF.of_eq (r' := some (0, 1)) (congrArg (fun z => some (0, z)) (zb_t (by have hz := s1.2.1.2.2; unfold mtk at hz; omega))) rfl rfl rfl (c_msg hS s1.1.2.1 (by decide))) ?_
  refine zt_if_eq (tgt := 136) dX11_factor_118 (by decide) (by decide) (fun q => absurd q (by decide)) (fun c_118 => ?_)
  refine zt_aload_n dX11_factor_121 rfl ?_
  refine zt_sipush dX11_factor_122 (by decide) ?_
  refine zt_callV1v dX11_factor_125 ml_X11_195 (zs_38 hS) (Nat.le_of_ble_eq_true rfl) (c_mpu hS s1.1.2.1 (by have e := s1.2.2.1.1; (try simp only [List.length_cons] at e); omega) (by decide)) ?_
  obtain ⟨g2, hg2⟩ : ∃ g, g = mPu g1 141 := ⟨_, rfl⟩
  refine zt_mem hg2.symm ?_
  have s2 : mS h0 g2 (p) (141 :: 6 :: w) (d0 + 1) (m) (cf) := hg2 ▸ s1.push
  refine zt_aload_n dX11_factor_128 rfl ?_
  refine zt_iconst dX11_factor_129 ?_
  refine zt_callV1v dX11_factor_130 ml_X11_195 (zs_38 hS) (Nat.le_of_ble_eq_true rfl) (c_mpu hS s2.1.2.1 (by have e := s2.2.2.1.1; (try simp only [List.length_cons] at e); omega) (by decide)) ?_
  obtain ⟨g3, hg3⟩ : ∃ g, g = mPu g2 1 := ⟨_, rfl⟩
  refine zt_mem hg3.symm ?_
  have s3 : mS h0 g3 (p) (1 :: 141 :: 6 :: w) (d0 + 1) (m) (cf) := hg3 ▸ s2.push
  refine zt_goto (tgt := 282) dX11_factor_133 (by decide) ?_
  refine zt_aload_n dX11_factor_282 rfl ?_
  refine zt_callV0q dX11_factor_283 ml_X11_206 (zs_38 hS) (Nat.le_of_ble_eq_true rfl) (c_mtk hS hX s3 (by omega)) ?_
  rintro r n1 sh1 g4 ⟨rfl, rfl, rfl, s4⟩
  simp only [Option.toList, List.cons_append, List.nil_append]
  exact zt_zret dX11_factor_286 (by decide) ⟨rfl, rfl, rfl, s4⟩

set_option maxRecDepth 100000 in
set_option maxHeartbeats 4000000 in
theorem c_g40 {d n : Nat} {sh : zSh} {h : zMem} {h0 : zMem} {p d0 m : Int} {w : List Int} {cf : Int → Int × Int} (hS : zShp sh) (hX : mTg h0) (hs : mS h0 h p w d0 m cf) (hp : 0 ≤ p ∧ p ≤ h0 (-2001) 1) (hw : w.length ≤ 700) (hmm : 0 ≤ m ∧ m ≤ 200) (hk : kK (h0 (-2002)) (h0 (-2001) 1) p = 40) (hd : d0 = 10) : zM yX11_factor cX11_factor 2 (some .boolean) (d + 7) 0 0 [(2, 38)] n sh h (fun r n1 sh1 h1 => r = some (0, 0) ∧ n1 = n ∧ sh1 = sh ∧ h1 = h) := by
  refine zM.ofT2 (by decide +kernel) [some (2, 38), none] rfl (Nat.le_of_ble_eq_true rfl) ?_
  refine zt_rg (fun hm => ?_)
  refine zt_aload_n dX11_factor_0 rfl ?_
  refine zt_getv (v := 3) dX11_factor_1 fl_X11_168 (zs_38 hS) (by have hz := hs.2.1.2.2; unfold mtk at hz; omega) ?_
  refine zt_iconst dX11_factor_4 ?_
  refine zt_icmp_ne (tgt := 33) dX11_factor_5 (by decide) (by decide) (by decide) (fun c_5 => ?_) (fun q => absurd q (by decide))
  refine zt_aload_n dX11_factor_33 rfl ?_
  refine zt_iconst dX11_factor_34 ?_
  refine zt_callV1r dX11_factor_35 ml_X11_203 (zs_38 hS) (Nat.le_of_ble_eq_true rfl) (zF.of_eq (r' := some (0, 0)) (congrArg (fun z => some (0, z)) (zb_f (by have hz := hs.2.1.2.2; unfold mtk at hz; omega))) rfl rfl rfl (c_mwo hS hs.1.2.1 (by decide))) ?_
  refine zt_if_eq (tgt := 52) dX11_factor_38 (by decide) (by decide) (fun c_38 => ?_) (fun q => absurd q (by decide))
  refine zt_aload_n dX11_factor_52 rfl ?_
  refine zt_bipush dX11_factor_53 (by decide) ?_
  refine zt_callV1r dX11_factor_55 ml_X11_210 (zs_38 hS) (Nat.le_of_ble_eq_true rfl) (zF.of_eq (r' := some (0, 1)) (congrArg (fun z => some (0, z)) (zb_t (by have hz := hs.2.1.2.2; unfold mtk at hz; omega))) rfl rfl rfl (c_msg hS hs.1.2.1 (by decide))) ?_
  refine zt_if_ne (tgt := 93) dX11_factor_58 (by decide) (by decide) (fun c_58 => ?_) (fun q => absurd q (by decide))
  refine zt_iconst dX11_factor_93 ?_
  refine zt_goto (tgt := 98) dX11_factor_94 (by decide) ?_
  refine zt_istore_n_1 dX11_factor_98 (by decide) rfl ?_
  refine zt_iload_n dX11_factor_99 rfl ?_
  refine zt_if_eq (tgt := 110) dX11_factor_100 (by decide) (by decide) (fun q => absurd q (by decide)) (fun c_100 => ?_)
  refine zt_aload_n dX11_factor_103 rfl ?_
  refine zt_callV0r dX11_factor_104 ml_X11_230 (zs_38 hS) (Nat.le_of_ble_eq_true rfl) (c_dpF hS hX hs hp hw hmm hd) ?_
  refine zt_if_ne (tgt := 112) dX11_factor_107 (by decide) (by decide) (fun q => absurd q (by decide)) (fun c_107 => ?_)
  refine zt_iconst dX11_factor_110 ?_
  exact zt_zret dX11_factor_111 (by decide) ⟨rfl, rfl, rfl, rfl⟩

set_option maxRecDepth 100000 in
set_option maxHeartbeats 4000000 in
theorem c_f45 {d n : Nat} {sh : zSh} {h : zMem} {h0 : zMem} {p d0 m : Int} {w : List Int} {cf : Int → Int × Int} (hS : zShp sh) (hX : mTg h0) (hs : mS h0 h p w d0 m cf) (hp : 0 ≤ p ∧ p ≤ h0 (-2001) 1) (hw : w.length ≤ 700) (hmm : 0 ≤ m ∧ m ≤ 200) (hk : kK (h0 (-2002)) (h0 (-2001) 1) p = 45) (hd : 0 ≤ d0 ∧ d0 < 10) : zM yX11_factor cX11_factor 2 (some .boolean) (d + 7) 0 0 [(2, 38)] n sh h (fun r n1 sh1 h1 => r = some (0, 1) ∧ n1 = n ∧ sh1 = sh ∧ mS h0 h1 (kE (h0 (-2002)) (h0 (-2001) 1) p) (5 :: 1006 :: 6 :: w) (d0 + 1) (m) cf) := by
  refine zM.ofT2 (by decide +kernel) [some (2, 38), none] rfl (Nat.le_of_ble_eq_true rfl) ?_
  refine zt_rg (fun hm => ?_)
  refine zt_aload_n dX11_factor_0 rfl ?_
  refine zt_getv (v := 3) dX11_factor_1 fl_X11_168 (zs_38 hS) (by have hz := hs.2.1.2.2; unfold mtk at hz; omega) ?_
  refine zt_iconst dX11_factor_4 ?_
  refine zt_icmp_ne (tgt := 33) dX11_factor_5 (by decide) (by decide) (by decide) (fun c_5 => ?_) (fun q => absurd q (by decide))
  refine zt_aload_n dX11_factor_33 rfl ?_
  refine zt_iconst dX11_factor_34 ?_
  refine zt_callV1r dX11_factor_35 ml_X11_203 (zs_38 hS) (Nat.le_of_ble_eq_true rfl) (zF.of_eq (r' := some (0, 0)) (congrArg (fun z => some (0, z)) (zb_f (by have hz := hs.2.1.2.2; unfold mtk at hz; omega))) rfl rfl rfl (c_mwo hS hs.1.2.1 (by decide))) ?_
  refine zt_if_eq (tgt := 52) dX11_factor_38 (by decide) (by decide) (fun c_38 => ?_) (fun q => absurd q (by decide))
  refine zt_aload_n dX11_factor_52 rfl ?_
  refine zt_bipush dX11_factor_53 (by decide) ?_
  refine zt_callV1r dX11_factor_55 ml_X11_210 (zs_38 hS) (Nat.le_of_ble_eq_true rfl) (zF.of_eq (r' := some (0, 0)) (congrArg (fun z => some (0, z)) (zb_f (by have hz := hs.2.1.2.2; unfold mtk at hz; omega))) rfl rfl rfl (c_msg hS hs.1.2.1 (by decide))) ?_
  refine zt_if_ne (tgt := 93) dX11_factor_58 (by decide) (by decide) (fun q => absurd q (by decide)) (fun c_58 => ?_)
  refine zt_aload_n dX11_factor_61 rfl ?_
  refine zt_bipush dX11_factor_62 (by decide) ?_
  refine zt_callV1r dX11_factor_64 ml_X11_210 (zs_38 hS) (Nat.le_of_ble_eq_true rfl) (zF.of_eq (r' := some (0, 1)) (congrArg (fun z => some (0, z)) (zb_t (by have hz := hs.2.1.2.2; unfold mtk at hz; omega))) rfl rfl rfl (c_msg hS hs.1.2.1 (by decide))) ?_
  refine zt_if_ne (tgt := 93) dX11_factor_67 (by decide) (by decide) (fun c_67 => ?_) (fun q => absurd q (by decide))
  refine zt_iconst dX11_factor_93 ?_
  refine zt_goto (tgt := 98) dX11_factor_94 (by decide) ?_
  refine zt_istore_n_1 dX11_factor_98 (by decide) rfl ?_
  refine zt_iload_n dX11_factor_99 rfl ?_
  refine zt_if_eq (tgt := 110) dX11_factor_100 (by decide) (by decide) (fun q => absurd q (by decide)) (fun c_100 => ?_)
  refine zt_aload_n dX11_factor_103 rfl ?_
  refine zt_callV0q dX11_factor_104 ml_X11_230 (zs_38 hS) (Nat.le_of_ble_eq_true rfl) (c_dpO hS hX hs hp hw hmm hd) ?_
  rintro r n1 sh1 g1 ⟨rfl, rfl, rfl, s1⟩
  simp only [Option.toList, List.cons_append, List.nil_append]
  refine zt_if_ne (tgt := 112) dX11_factor_107 (by decide) (by decide) (fun c_107 => ?_) (fun q => absurd q (by decide))
  refine zt_aload_n dX11_factor_112 rfl ?_
  refine zt_bipush dX11_factor_113 (by decide) ?_
  refine zt_callV1r dX11_factor_115 ml_X11_210 (zs_38 hS) (Nat.le_of_ble_eq_true rfl) (zF.of_eq (r' := some (0, 0)) (congrArg (fun z => some (0, z)) (zb_f (by have hz := s1.2.1.2.2; unfold mtk at hz; omega))) rfl rfl rfl (c_msg hS s1.1.2.1 (by decide))) ?_
  refine zt_if_eq (tgt := 136) dX11_factor_118 (by decide) (by decide) (fun c_118 => ?_) (fun q => absurd q (by decide))
  refine zt_aload_n dX11_factor_136 rfl ?_
  refine zt_bipush dX11_factor_137 (by decide) ?_
  refine zt_callV1r dX11_factor_139 ml_X11_210 (zs_38 hS) (Nat.le_of_ble_eq_true rfl) (zF.of_eq (r' := some (0, 1)) (congrArg (fun z => some (0, z)) (zb_t (by have hz := s1.2.1.2.2; unfold mtk at hz; omega))) rfl rfl rfl (c_msg hS s1.1.2.1 (by decide))) ?_
  refine zt_if_ne (tgt := 161) dX11_factor_142 (by decide) (by decide) (fun c_142 => ?_) (fun q => absurd q (by decide))
  refine zt_aload_n dX11_factor_161 rfl ?_
  refine zt_sipush dX11_factor_162 (by decide) ?_
  refine zt_aload_n dX11_factor_165 rfl ?_
  refine zt_bipush dX11_factor_166 (by decide) ?_
  refine zt_callV1r dX11_factor_168 ml_X11_210 (zs_38 hS) (Nat.le_of_ble_eq_true rfl) (zF.of_eq (r' := some (0, 1)) (congrArg (fun z => some (0, z)) (zb_t (by have hz := s1.2.1.2.2; unfold mtk at hz; omega))) rfl rfl rfl (c_msg hS s1.1.2.1 (by decide))) ?_
  refine zt_if_eq (tgt := 179) dX11_factor_171 (by decide) (by decide) (fun q => absurd q (by decide)) (fun c_171 => ?_)
  refine zt_bipush dX11_factor_174 (by decide) ?_
  refine zt_goto (tgt := 194) dX11_factor_176 (by decide) ?_
  refine zt_iadd dX11_factor_194 ?_
  refine zt_topv (v := 1006) (by decide) ?_
  refine zt_callV1v dX11_factor_195 ml_X11_195 (zs_38 hS) (Nat.le_of_ble_eq_true rfl) (c_mpu hS s1.1.2.1 (by have e := s1.2.2.1.1; (try simp only [List.length_cons] at e); omega) (by decide)) ?_
  obtain ⟨g2, hg2⟩ : ∃ g, g = mPu g1 1006 := ⟨_, rfl⟩
  refine zt_mem hg2.symm ?_
  have s2 : mS h0 g2 (p) (1006 :: 6 :: w) (d0 + 1) (m) (cf) := hg2 ▸ s1.push
  refine zt_aload_n dX11_factor_198 rfl ?_
  refine zt_iconst dX11_factor_199 ?_
  refine zt_callV1v dX11_factor_200 ml_X11_195 (zs_38 hS) (Nat.le_of_ble_eq_true rfl) (c_mpu hS s2.1.2.1 (by have e := s2.2.2.1.1; (try simp only [List.length_cons] at e); omega) (by decide)) ?_
  obtain ⟨g3, hg3⟩ : ∃ g, g = mPu g2 5 := ⟨_, rfl⟩
  refine zt_mem hg3.symm ?_
  have s3 : mS h0 g3 (p) (5 :: 1006 :: 6 :: w) (d0 + 1) (m) (cf) := hg3 ▸ s2.push
  refine zt_goto (tgt := 282) dX11_factor_203 (by decide) ?_
  refine zt_aload_n dX11_factor_282 rfl ?_
  refine zt_callV0q dX11_factor_283 ml_X11_206 (zs_38 hS) (Nat.le_of_ble_eq_true rfl) (c_mtk hS hX s3 (by omega)) ?_
  rintro r n1 sh1 g4 ⟨rfl, rfl, rfl, s4⟩
  simp only [Option.toList, List.cons_append, List.nil_append]
  exact zt_zret dX11_factor_286 (by decide) ⟨rfl, rfl, rfl, s4⟩

set_option maxRecDepth 100000 in
set_option maxHeartbeats 4000000 in
theorem c_g45 {d n : Nat} {sh : zSh} {h : zMem} {h0 : zMem} {p d0 m : Int} {w : List Int} {cf : Int → Int × Int} (hS : zShp sh) (hX : mTg h0) (hs : mS h0 h p w d0 m cf) (hp : 0 ≤ p ∧ p ≤ h0 (-2001) 1) (hw : w.length ≤ 700) (hmm : 0 ≤ m ∧ m ≤ 200) (hk : kK (h0 (-2002)) (h0 (-2001) 1) p = 45) (hd : d0 = 10) : zM yX11_factor cX11_factor 2 (some .boolean) (d + 7) 0 0 [(2, 38)] n sh h (fun r n1 sh1 h1 => r = some (0, 0) ∧ n1 = n ∧ sh1 = sh ∧ h1 = h) := by
  refine zM.ofT2 (by decide +kernel) [some (2, 38), none] rfl (Nat.le_of_ble_eq_true rfl) ?_
  refine zt_rg (fun hm => ?_)
  refine zt_aload_n dX11_factor_0 rfl ?_
  refine zt_getv (v := 3) dX11_factor_1 fl_X11_168 (zs_38 hS) (by have hz := hs.2.1.2.2; unfold mtk at hz; omega) ?_
  refine zt_iconst dX11_factor_4 ?_
  refine zt_icmp_ne (tgt := 33) dX11_factor_5 (by decide) (by decide) (by decide) (fun c_5 => ?_) (fun q => absurd q (by decide))
  refine zt_aload_n dX11_factor_33 rfl ?_
  refine zt_iconst dX11_factor_34 ?_
  refine zt_callV1r dX11_factor_35 ml_X11_203 (zs_38 hS) (Nat.le_of_ble_eq_true rfl) (zF.of_eq (r' := some (0, 0)) (congrArg (fun z => some (0, z)) (zb_f (by have hz := hs.2.1.2.2; unfold mtk at hz; omega))) rfl rfl rfl (c_mwo hS hs.1.2.1 (by decide))) ?_
  refine zt_if_eq (tgt := 52) dX11_factor_38 (by decide) (by decide) (fun c_38 => ?_) (fun q => absurd q (by decide))
  refine zt_aload_n dX11_factor_52 rfl ?_
  refine zt_bipush dX11_factor_53 (by decide) ?_
  refine zt_callV1r dX11_factor_55 ml_X11_210 (zs_38 hS) (Nat.le_of_ble_eq_true rfl) (zF.of_eq (r' := some (0, 0)) (congrArg (fun z => some (0, z)) (zb_f (by have hz := hs.2.1.2.2; unfold mtk at hz; omega))) rfl rfl rfl (c_msg hS hs.1.2.1 (by decide))) ?_
  refine zt_if_ne (tgt := 93) dX11_factor_58 (by decide) (by decide) (fun q => absurd q (by decide)) (fun c_58 => ?_)
  refine zt_aload_n dX11_factor_61 rfl ?_
  refine zt_bipush dX11_factor_62 (by decide) ?_
  refine zt_callV1r dX11_factor_64 ml_X11_210 (zs_38 hS) (Nat.le_of_ble_eq_true rfl) (zF.of_eq (r' := some (0, 1)) (congrArg (fun z => some (0, z)) (zb_t (by have hz := hs.2.1.2.2; unfold mtk at hz; omega))) rfl rfl rfl (c_msg hS hs.1.2.1 (by decide))) ?_
  refine zt_if_ne (tgt := 93) dX11_factor_67 (by decide) (by decide) (fun c_67 => ?_) (fun q => absurd q (by decide))
  refine zt_iconst dX11_factor_93 ?_
  refine zt_goto (tgt := 98) dX11_factor_94 (by decide) ?_
  refine zt_istore_n_1 dX11_factor_98 (by decide) rfl ?_
  refine zt_iload_n dX11_factor_99 rfl ?_
  refine zt_if_eq (tgt := 110) dX11_factor_100 (by decide) (by decide) (fun q => absurd q (by decide)) (fun c_100 => ?_)
  refine zt_aload_n dX11_factor_103 rfl ?_
  refine zt_callV0r dX11_factor_104 ml_X11_230 (zs_38 hS) (Nat.le_of_ble_eq_true rfl) (c_dpF hS hX hs hp hw hmm hd) ?_
  refine zt_if_ne (tgt := 112) dX11_factor_107 (by decide) (by decide) (fun q => absurd q (by decide)) (fun c_107 => ?_)
  refine zt_iconst dX11_factor_110 ?_
  exact zt_zret dX11_factor_111 (by decide) ⟨rfl, rfl, rfl, rfl⟩

set_option maxRecDepth 100000 in
set_option maxHeartbeats 4000000 in
theorem c_f4 {d n : Nat} {sh : zSh} {h : zMem} {h0 : zMem} {p d0 m : Int} {w : List Int} {cf : Int → Int × Int} (hS : zShp sh) (hX : mTg h0) (hs : mS h0 h p w d0 m cf) (hp : 0 ≤ p ∧ p ≤ h0 (-2001) 1) (hw : w.length ≤ 700) (hmm : 0 ≤ m ∧ m ≤ 200) (hk : kK (h0 (-2002)) (h0 (-2001) 1) p = 4) (hd : 0 ≤ d0 ∧ d0 < 10) : zM yX11_factor cX11_factor 2 (some .boolean) (d + 7) 0 0 [(2, 38)] n sh h (fun r n1 sh1 h1 => r = some (0, 1) ∧ n1 = n ∧ sh1 = sh ∧ mS h0 h1 (kE (h0 (-2002)) (h0 (-2001) 1) p) (5 :: 1007 :: 6 :: w) (d0 + 1) (m) cf) := by
  refine zM.ofT2 (by decide +kernel) [some (2, 38), none] rfl (Nat.le_of_ble_eq_true rfl) ?_
  refine zt_rg (fun hm => ?_)
  refine zt_aload_n dX11_factor_0 rfl ?_
  refine zt_getv (v := 2) dX11_factor_1 fl_X11_168 (zs_38 hS) (by have hz := hs.2.1.2.2; unfold mtk at hz; omega) ?_
  refine zt_iconst dX11_factor_4 ?_
  refine zt_icmp_ne (tgt := 33) dX11_factor_5 (by decide) (by decide) (by decide) (fun c_5 => ?_) (fun q => absurd q (by decide))
  refine zt_aload_n dX11_factor_33 rfl ?_
  refine zt_iconst dX11_factor_34 ?_
  refine zt_callV1r dX11_factor_35 ml_X11_203 (zs_38 hS) (Nat.le_of_ble_eq_true rfl) (zF.of_eq (r' := some (0, 0)) (congrArg (fun z => some (0, z)) (zb_f (by have hz := hs.2.1.2.2; unfold mtk at hz; omega))) rfl rfl rfl (c_mwo hS hs.1.2.1 (by decide))) ?_
  refine zt_if_eq (tgt := 52) dX11_factor_38 (by decide) (by decide) (fun c_38 => ?_) (fun q => absurd q (by decide))
  refine zt_aload_n dX11_factor_52 rfl ?_
  refine zt_bipush dX11_factor_53 (by decide) ?_
  refine zt_callV1r dX11_factor_55 ml_X11_210 (zs_38 hS) (Nat.le_of_ble_eq_true rfl) (zF.of_eq (r' := some (0, 0)) (congrArg (fun z => some (0, z)) (zb_f (by have hz := hs.2.1.2.2; unfold mtk at hz; omega))) rfl rfl rfl (c_msg hS hs.1.2.1 (by decide))) ?_
  refine zt_if_ne (tgt := 93) dX11_factor_58 (by decide) (by decide) (fun q => absurd q (by decide)) (fun c_58 => ?_)
  refine zt_aload_n dX11_factor_61 rfl ?_
  refine zt_bipush dX11_factor_62 (by decide) ?_
  refine zt_callV1r dX11_factor_64 ml_X11_210 (zs_38 hS) (Nat.le_of_ble_eq_true rfl) (zF.of_eq (r' := some (0, 0)) (congrArg (fun z => some (0, z)) (zb_f (by have hz := hs.2.1.2.2; unfold mtk at hz; omega))) rfl rfl rfl (c_msg hS hs.1.2.1 (by decide))) ?_
  refine zt_if_ne (tgt := 93) dX11_factor_67 (by decide) (by decide) (fun q => absurd q (by decide)) (fun c_67 => ?_)
  refine zt_aload_n dX11_factor_70 rfl ?_
  refine zt_getv (v := 2) dX11_factor_71 fl_X11_168 (zs_38 hS) (by have hz := hs.2.1.2.2; unfold mtk at hz; omega) ?_
  refine zt_iconst dX11_factor_74 ?_
  refine zt_icmp_ne (tgt := 97) dX11_factor_75 (by decide) (by decide) (by decide) (fun q => absurd q (by decide)) (fun c_75 => ?_)
  refine zt_aload_n dX11_factor_78 rfl ?_
  refine zt_getv (v := 1) dX11_factor_79 fl_X11_165 (zs_38 hS) (by have hz := hs.2.1.2.2; unfold mtk at hz; omega) ?_
  refine zt_i2l dX11_factor_82 (by decide) ?_
  refine zt_lconst (v := 1) dX11_factor_83 rfl ?_
  refine zt_ldc2 dX11_factor_84 kc_X11_228 ?_
  refine zt_callS3r dX11_factor_87 ml_X11_143 (Nat.le_of_ble_eq_true rfl) (zF.of_eq (r' := some (0, 1)) (by decide) rfl rfl rfl (c_min_ (x := 1) (y := 1) (z := 5) (by decide) (by decide) (by decide))) ?_
  refine zt_if_eq (tgt := 97) dX11_factor_90 (by decide) (by decide) (fun q => absurd q (by decide)) (fun c_90 => ?_)
  refine zt_iconst dX11_factor_93 ?_
  refine zt_goto (tgt := 98) dX11_factor_94 (by decide) ?_
  refine zt_istore_n_1 dX11_factor_98 (by decide) rfl ?_
  refine zt_iload_n dX11_factor_99 rfl ?_
  refine zt_if_eq (tgt := 110) dX11_factor_100 (by decide) (by decide) (fun q => absurd q (by decide)) (fun c_100 => ?_)
  refine zt_aload_n dX11_factor_103 rfl ?_
  refine zt_callV0q dX11_factor_104 ml_X11_230 (zs_38 hS) (Nat.le_of_ble_eq_true rfl) (c_dpO hS hX hs hp hw hmm hd) ?_
  rintro r n1 sh1 g1 ⟨rfl, rfl, rfl, s1⟩
  simp only [Option.toList, List.cons_append, List.nil_append]
  refine zt_if_ne (tgt := 112) dX11_factor_107 (by decide) (by decide) (fun c_107 => ?_) (fun q => absurd q (by decide))
  refine zt_aload_n dX11_factor_112 rfl ?_
  refine zt_bipush dX11_factor_113 (by decide) ?_
  refine zt_callV1r dX11_factor_115 ml_X11_210 (zs_38 hS) (Nat.le_of_ble_eq_true rfl) (zF.of_eq (r' := some (0, 0)) (congrArg (fun z => some (0, z)) (zb_f (by have hz := s1.2.1.2.2; unfold mtk at hz; omega))) rfl rfl rfl (c_msg hS s1.1.2.1 (by decide))) ?_
  refine zt_if_eq (tgt := 136) dX11_factor_118 (by decide) (by decide) (fun c_118 => ?_) (fun q => absurd q (by decide))
  refine zt_aload_n dX11_factor_136 rfl ?_
  refine zt_bipush dX11_factor_137 (by decide) ?_
  refine zt_callV1r dX11_factor_139 ml_X11_210 (zs_38 hS) (Nat.le_of_ble_eq_true rfl) (zF.of_eq (r' := some (0, 0)) (congrArg (fun z => some (0, z)) (zb_f (by have hz := s1.2.1.2.2; unfold mtk at hz; omega))) rfl rfl rfl (c_msg hS s1.1.2.1 (by decide))) ?_
  refine zt_if_ne (tgt := 161) dX11_factor_142 (by decide) (by decide) (fun q => absurd q (by decide)) (fun c_142 => ?_)
  refine zt_aload_n dX11_factor_145 rfl ?_
  refine zt_iconst dX11_factor_146 ?_
  refine zt_callV1r dX11_factor_147 ml_X11_203 (zs_38 hS) (Nat.le_of_ble_eq_true rfl) (zF.of_eq (r' := some (0, 1)) (congrArg (fun z => some (0, z)) (zb_t (by have hz := s1.2.1.2.2; unfold mtk at hz; omega))) rfl rfl rfl (c_mwo hS s1.1.2.1 (by decide))) ?_
  refine zt_if_ne (tgt := 161) dX11_factor_150 (by decide) (by decide) (fun c_150 => ?_) (fun q => absurd q (by decide))
  refine zt_aload_n dX11_factor_161 rfl ?_
  refine zt_sipush dX11_factor_162 (by decide) ?_
  refine zt_aload_n dX11_factor_165 rfl ?_
  refine zt_bipush dX11_factor_166 (by decide) ?_
  refine zt_callV1r dX11_factor_168 ml_X11_210 (zs_38 hS) (Nat.le_of_ble_eq_true rfl) (zF.of_eq (r' := some (0, 0)) (congrArg (fun z => some (0, z)) (zb_f (by have hz := s1.2.1.2.2; unfold mtk at hz; omega))) rfl rfl rfl (c_msg hS s1.1.2.1 (by decide))) ?_
  refine zt_if_eq (tgt := 179) dX11_factor_171 (by decide) (by decide) (fun c_171 => ?_) (fun q => absurd q (by decide))
  refine zt_aload_n dX11_factor_179 rfl ?_
  refine zt_iconst dX11_factor_180 ?_
  refine zt_callV1r dX11_factor_181 ml_X11_203 (zs_38 hS) (Nat.le_of_ble_eq_true rfl) (zF.of_eq (r' := some (0, 1)) (congrArg (fun z => some (0, z)) (zb_t (by have hz := s1.2.1.2.2; unfold mtk at hz; omega))) rfl rfl rfl (c_mwo hS s1.1.2.1 (by decide))) ?_
  refine zt_if_eq (tgt := 192) dX11_factor_184 (by decide) (by decide) (fun q => absurd q (by decide)) (fun c_184 => ?_)
  refine zt_bipush dX11_factor_187 (by decide) ?_
  refine zt_goto (tgt := 194) dX11_factor_189 (by decide) ?_
  refine zt_iadd dX11_factor_194 ?_
  refine zt_topv (v := 1007) (by decide) ?_
  refine zt_callV1v dX11_factor_195 ml_X11_195 (zs_38 hS) (Nat.le_of_ble_eq_true rfl) (c_mpu hS s1.1.2.1 (by have e := s1.2.2.1.1; (try simp only [List.length_cons] at e); omega) (by decide)) ?_
  obtain ⟨g2, hg2⟩ : ∃ g, g = mPu g1 1007 := ⟨_, rfl⟩
  refine zt_mem hg2.symm ?_
  have s2 : mS h0 g2 (p) (1007 :: 6 :: w) (d0 + 1) (m) (cf) := hg2 ▸ s1.push
  refine zt_aload_n dX11_factor_198 rfl ?_
  refine zt_iconst dX11_factor_199 ?_
  refine zt_callV1v dX11_factor_200 ml_X11_195 (zs_38 hS) (Nat.le_of_ble_eq_true rfl) (c_mpu hS s2.1.2.1 (by have e := s2.2.2.1.1; (try simp only [List.length_cons] at e); omega) (by decide)) ?_
  obtain ⟨g3, hg3⟩ : ∃ g, g = mPu g2 5 := ⟨_, rfl⟩
  refine zt_mem hg3.symm ?_
  have s3 : mS h0 g3 (p) (5 :: 1007 :: 6 :: w) (d0 + 1) (m) (cf) := hg3 ▸ s2.push
  refine zt_goto (tgt := 282) dX11_factor_203 (by decide) ?_
  refine zt_aload_n dX11_factor_282 rfl ?_
  refine zt_callV0q dX11_factor_283 ml_X11_206 (zs_38 hS) (Nat.le_of_ble_eq_true rfl) (c_mtk hS hX s3 (by omega)) ?_
  rintro r n1 sh1 g4 ⟨rfl, rfl, rfl, s4⟩
  simp only [Option.toList, List.cons_append, List.nil_append]
  exact zt_zret dX11_factor_286 (by decide) ⟨rfl, rfl, rfl, s4⟩

set_option maxRecDepth 100000 in
set_option maxHeartbeats 4000000 in
theorem c_g4 {d n : Nat} {sh : zSh} {h : zMem} {h0 : zMem} {p d0 m : Int} {w : List Int} {cf : Int → Int × Int} (hS : zShp sh) (hX : mTg h0) (hs : mS h0 h p w d0 m cf) (hp : 0 ≤ p ∧ p ≤ h0 (-2001) 1) (hw : w.length ≤ 700) (hmm : 0 ≤ m ∧ m ≤ 200) (hk : kK (h0 (-2002)) (h0 (-2001) 1) p = 4) (hd : d0 = 10) : zM yX11_factor cX11_factor 2 (some .boolean) (d + 7) 0 0 [(2, 38)] n sh h (fun r n1 sh1 h1 => r = some (0, 0) ∧ n1 = n ∧ sh1 = sh ∧ h1 = h) := by
  refine zM.ofT2 (by decide +kernel) [some (2, 38), none] rfl (Nat.le_of_ble_eq_true rfl) ?_
  refine zt_rg (fun hm => ?_)
  refine zt_aload_n dX11_factor_0 rfl ?_
  refine zt_getv (v := 2) dX11_factor_1 fl_X11_168 (zs_38 hS) (by have hz := hs.2.1.2.2; unfold mtk at hz; omega) ?_
  refine zt_iconst dX11_factor_4 ?_
  refine zt_icmp_ne (tgt := 33) dX11_factor_5 (by decide) (by decide) (by decide) (fun c_5 => ?_) (fun q => absurd q (by decide))
  refine zt_aload_n dX11_factor_33 rfl ?_
  refine zt_iconst dX11_factor_34 ?_
  refine zt_callV1r dX11_factor_35 ml_X11_203 (zs_38 hS) (Nat.le_of_ble_eq_true rfl) (zF.of_eq (r' := some (0, 0)) (congrArg (fun z => some (0, z)) (zb_f (by have hz := hs.2.1.2.2; unfold mtk at hz; omega))) rfl rfl rfl (c_mwo hS hs.1.2.1 (by decide))) ?_
  refine zt_if_eq (tgt := 52) dX11_factor_38 (by decide) (by decide) (fun c_38 => ?_) (fun q => absurd q (by decide))
  refine zt_aload_n dX11_factor_52 rfl ?_
  refine zt_bipush dX11_factor_53 (by decide) ?_
  refine zt_callV1r dX11_factor_55 ml_X11_210 (zs_38 hS) (Nat.le_of_ble_eq_true rfl) (zF.of_eq (r' := some (0, 0)) (congrArg (fun z => some (0, z)) (zb_f (by have hz := hs.2.1.2.2; unfold mtk at hz; omega))) rfl rfl rfl (c_msg hS hs.1.2.1 (by decide))) ?_
  refine zt_if_ne (tgt := 93) dX11_factor_58 (by decide) (by decide) (fun q => absurd q (by decide)) (fun c_58 => ?_)
  refine zt_aload_n dX11_factor_61 rfl ?_
  refine zt_bipush dX11_factor_62 (by decide) ?_
  refine zt_callV1r dX11_factor_64 ml_X11_210 (zs_38 hS) (Nat.le_of_ble_eq_true rfl) (zF.of_eq (r' := some (0, 0)) (congrArg (fun z => some (0, z)) (zb_f (by have hz := hs.2.1.2.2; unfold mtk at hz; omega))) rfl rfl rfl (c_msg hS hs.1.2.1 (by decide))) ?_
  refine zt_if_ne (tgt := 93) dX11_factor_67 (by decide) (by decide) (fun q => absurd q (by decide)) (fun c_67 => ?_)
  refine zt_aload_n dX11_factor_70 rfl ?_
  refine zt_getv (v := 2) dX11_factor_71 fl_X11_168 (zs_38 hS) (by have hz := hs.2.1.2.2; unfold mtk at hz; omega) ?_
  refine zt_iconst dX11_factor_74 ?_
  refine zt_icmp_ne (tgt := 97) dX11_factor_75 (by decide) (by decide) (by decide) (fun q => absurd q (by decide)) (fun c_75 => ?_)
  refine zt_aload_n dX11_factor_78 rfl ?_
  refine zt_getv (v := 1) dX11_factor_79 fl_X11_165 (zs_38 hS) (by have hz := hs.2.1.2.2; unfold mtk at hz; omega) ?_
  refine zt_i2l dX11_factor_82 (by decide) ?_
  refine zt_lconst (v := 1) dX11_factor_83 rfl ?_
  refine zt_ldc2 dX11_factor_84 kc_X11_228 ?_
  refine zt_callS3r dX11_factor_87 ml_X11_143 (Nat.le_of_ble_eq_true rfl) (zF.of_eq (r' := some (0, 1)) (by decide) rfl rfl rfl (c_min_ (x := 1) (y := 1) (z := 5) (by decide) (by decide) (by decide))) ?_
  refine zt_if_eq (tgt := 97) dX11_factor_90 (by decide) (by decide) (fun q => absurd q (by decide)) (fun c_90 => ?_)
  refine zt_iconst dX11_factor_93 ?_
  refine zt_goto (tgt := 98) dX11_factor_94 (by decide) ?_
  refine zt_istore_n_1 dX11_factor_98 (by decide) rfl ?_
  refine zt_iload_n dX11_factor_99 rfl ?_
  refine zt_if_eq (tgt := 110) dX11_factor_100 (by decide) (by decide) (fun q => absurd q (by decide)) (fun c_100 => ?_)
  refine zt_aload_n dX11_factor_103 rfl ?_
  refine zt_callV0r dX11_factor_104 ml_X11_230 (zs_38 hS) (Nat.le_of_ble_eq_true rfl) (c_dpF hS hX hs hp hw hmm hd) ?_
  refine zt_if_ne (tgt := 112) dX11_factor_107 (by decide) (by decide) (fun q => absurd q (by decide)) (fun c_107 => ?_)
  refine zt_iconst dX11_factor_110 ?_
  exact zt_zret dX11_factor_111 (by decide) ⟨rfl, rfl, rfl, rfl⟩

set_option maxRecDepth 100000 in
set_option maxHeartbeats 4000000 in
theorem c_f5 {d n : Nat} {sh : zSh} {h : zMem} {h0 : zMem} {p d0 m : Int} {w : List Int} {cf : Int → Int × Int} (hS : zShp sh) (hX : mTg h0) (hs : mS h0 h p w d0 m cf) (hp : 0 ≤ p ∧ p ≤ h0 (-2001) 1) (hw : w.length ≤ 700) (hmm : 0 ≤ m ∧ m ≤ 200) (hk : kK (h0 (-2002)) (h0 (-2001) 1) p = 5) (hd : 0 ≤ d0 ∧ d0 < 10) : zM yX11_factor cX11_factor 2 (some .boolean) (d + 7) 0 0 [(2, 38)] n sh h (fun r n1 sh1 h1 => r = some (0, 1) ∧ n1 = n ∧ sh1 = sh ∧ mS h0 h1 (kE (h0 (-2002)) (h0 (-2001) 1) p) (5 :: 1008 :: 6 :: w) (d0 + 1) (m) cf) := by
  refine zM.ofT2 (by decide +kernel) [some (2, 38), none] rfl (Nat.le_of_ble_eq_true rfl) ?_
  refine zt_rg (fun hm => ?_)
  refine zt_aload_n dX11_factor_0 rfl ?_
  refine zt_getv (v := 2) dX11_factor_1 fl_X11_168 (zs_38 hS) (by have hz := hs.2.1.2.2; unfold mtk at hz; omega) ?_
  refine zt_iconst dX11_factor_4 ?_
  refine zt_icmp_ne (tgt := 33) dX11_factor_5 (by decide) (by decide) (by decide) (fun c_5 => ?_) (fun q => absurd q (by decide))
  refine zt_aload_n dX11_factor_33 rfl ?_
  refine zt_iconst dX11_factor_34 ?_
  refine zt_callV1r dX11_factor_35 ml_X11_203 (zs_38 hS) (Nat.le_of_ble_eq_true rfl) (zF.of_eq (r' := some (0, 0)) (congrArg (fun z => some (0, z)) (zb_f (by have hz := hs.2.1.2.2; unfold mtk at hz; omega))) rfl rfl rfl (c_mwo hS hs.1.2.1 (by decide))) ?_
  refine zt_if_eq (tgt := 52) dX11_factor_38 (by decide) (by decide) (fun c_38 => ?_) (fun q => absurd q (by decide))
  refine zt_aload_n dX11_factor_52 rfl ?_
  refine zt_bipush dX11_factor_53 (by decide) ?_
  refine zt_callV1r dX11_factor_55 ml_X11_210 (zs_38 hS) (Nat.le_of_ble_eq_true rfl) (zF.of_eq (r' := some (0, 0)) (congrArg (fun z => some (0, z)) (zb_f (by have hz := hs.2.1.2.2; unfold mtk at hz; omega))) rfl rfl rfl (c_msg hS hs.1.2.1 (by decide))) ?_
  refine zt_if_ne (tgt := 93) dX11_factor_58 (by decide) (by decide) (fun q => absurd q (by decide)) (fun c_58 => ?_)
  refine zt_aload_n dX11_factor_61 rfl ?_
  refine zt_bipush dX11_factor_62 (by decide) ?_
  refine zt_callV1r dX11_factor_64 ml_X11_210 (zs_38 hS) (Nat.le_of_ble_eq_true rfl) (zF.of_eq (r' := some (0, 0)) (congrArg (fun z => some (0, z)) (zb_f (by have hz := hs.2.1.2.2; unfold mtk at hz; omega))) rfl rfl rfl (c_msg hS hs.1.2.1 (by decide))) ?_
  refine zt_if_ne (tgt := 93) dX11_factor_67 (by decide) (by decide) (fun q => absurd q (by decide)) (fun c_67 => ?_)
  refine zt_aload_n dX11_factor_70 rfl ?_
  refine zt_getv (v := 2) dX11_factor_71 fl_X11_168 (zs_38 hS) (by have hz := hs.2.1.2.2; unfold mtk at hz; omega) ?_
  refine zt_iconst dX11_factor_74 ?_
  refine zt_icmp_ne (tgt := 97) dX11_factor_75 (by decide) (by decide) (by decide) (fun q => absurd q (by decide)) (fun c_75 => ?_)
  refine zt_aload_n dX11_factor_78 rfl ?_
  refine zt_getv (v := 2) dX11_factor_79 fl_X11_165 (zs_38 hS) (by have hz := hs.2.1.2.2; unfold mtk at hz; omega) ?_
  refine zt_i2l dX11_factor_82 (by decide) ?_
  refine zt_lconst (v := 1) dX11_factor_83 rfl ?_
  refine zt_ldc2 dX11_factor_84 kc_X11_228 ?_
  refine zt_callS3r dX11_factor_87 ml_X11_143 (Nat.le_of_ble_eq_true rfl) (zF.of_eq (r' := some (0, 1)) (by decide) rfl rfl rfl (c_min_ (x := 2) (y := 1) (z := 5) (by decide) (by decide) (by decide))) ?_
  refine zt_if_eq (tgt := 97) dX11_factor_90 (by decide) (by decide) (fun q => absurd q (by decide)) (fun c_90 => ?_)
  refine zt_iconst dX11_factor_93 ?_
  refine zt_goto (tgt := 98) dX11_factor_94 (by decide) ?_
  refine zt_istore_n_1 dX11_factor_98 (by decide) rfl ?_
  refine zt_iload_n dX11_factor_99 rfl ?_
  refine zt_if_eq (tgt := 110) dX11_factor_100 (by decide) (by decide) (fun q => absurd q (by decide)) (fun c_100 => ?_)
  refine zt_aload_n dX11_factor_103 rfl ?_
  refine zt_callV0q dX11_factor_104 ml_X11_230 (zs_38 hS) (Nat.le_of_ble_eq_true rfl) (c_dpO hS hX hs hp hw hmm hd) ?_
  rintro r n1 sh1 g1 ⟨rfl, rfl, rfl, s1⟩
  simp only [Option.toList, List.cons_append, List.nil_append]
  refine zt_if_ne (tgt := 112) dX11_factor_107 (by decide) (by decide) (fun c_107 => ?_) (fun q => absurd q (by decide))
  refine zt_aload_n dX11_factor_112 rfl ?_
  refine zt_bipush dX11_factor_113 (by decide) ?_
  refine zt_callV1r dX11_factor_115 ml_X11_210 (zs_38 hS) (Nat.le_of_ble_eq_true rfl) (zF.of_eq (r' := some (0, 0)) (congrArg (fun z => some (0, z)) (zb_f (by have hz := s1.2.1.2.2; unfold mtk at hz; omega))) rfl rfl rfl (c_msg hS s1.1.2.1 (by decide))) ?_
  refine zt_if_eq (tgt := 136) dX11_factor_118 (by decide) (by decide) (fun c_118 => ?_) (fun q => absurd q (by decide))
  refine zt_aload_n dX11_factor_136 rfl ?_
  refine zt_bipush dX11_factor_137 (by decide) ?_
  refine zt_callV1r dX11_factor_139 ml_X11_210 (zs_38 hS) (Nat.le_of_ble_eq_true rfl) (zF.of_eq (r' := some (0, 0)) (congrArg (fun z => some (0, z)) (zb_f (by have hz := s1.2.1.2.2; unfold mtk at hz; omega))) rfl rfl rfl (c_msg hS s1.1.2.1 (by decide))) ?_
  refine zt_if_ne (tgt := 161) dX11_factor_142 (by decide) (by decide) (fun q => absurd q (by decide)) (fun c_142 => ?_)
  refine zt_aload_n dX11_factor_145 rfl ?_
  refine zt_iconst dX11_factor_146 ?_
  refine zt_callV1r dX11_factor_147 ml_X11_203 (zs_38 hS) (Nat.le_of_ble_eq_true rfl) (zF.of_eq (r' := some (0, 0)) (congrArg (fun z => some (0, z)) (zb_f (by have hz := s1.2.1.2.2; unfold mtk at hz; omega))) rfl rfl rfl (c_mwo hS s1.1.2.1 (by decide))) ?_
  refine zt_if_ne (tgt := 161) dX11_factor_150 (by decide) (by decide) (fun q => absurd q (by decide)) (fun c_150 => ?_)
  refine zt_aload_n dX11_factor_153 rfl ?_
  refine zt_iconst dX11_factor_154 ?_
  refine zt_callV1r dX11_factor_155 ml_X11_203 (zs_38 hS) (Nat.le_of_ble_eq_true rfl) (zF.of_eq (r' := some (0, 1)) (congrArg (fun z => some (0, z)) (zb_t (by have hz := s1.2.1.2.2; unfold mtk at hz; omega))) rfl rfl rfl (c_mwo hS s1.1.2.1 (by decide))) ?_
  refine zt_if_eq (tgt := 206) dX11_factor_158 (by decide) (by decide) (fun q => absurd q (by decide)) (fun c_158 => ?_)
  refine zt_aload_n dX11_factor_161 rfl ?_
  refine zt_sipush dX11_factor_162 (by decide) ?_
  refine zt_aload_n dX11_factor_165 rfl ?_
  refine zt_bipush dX11_factor_166 (by decide) ?_
  refine zt_callV1r dX11_factor_168 ml_X11_210 (zs_38 hS) (Nat.le_of_ble_eq_true rfl) (zF.of_eq (r' := some (0, 0)) (congrArg (fun z => some (0, z)) (zb_f (by have hz := s1.2.1.2.2; unfold mtk at hz; omega))) rfl rfl rfl (c_msg hS s1.1.2.1 (by decide))) ?_
  refine zt_if_eq (tgt := 179) dX11_factor_171 (by decide) (by decide) (fun c_171 => ?_) (fun q => absurd q (by decide))
  refine zt_aload_n dX11_factor_179 rfl ?_
  refine zt_iconst dX11_factor_180 ?_
  refine zt_callV1r dX11_factor_181 ml_X11_203 (zs_38 hS) (Nat.le_of_ble_eq_true rfl) (zF.of_eq (r' := some (0, 0)) (congrArg (fun z => some (0, z)) (zb_f (by have hz := s1.2.1.2.2; unfold mtk at hz; omega))) rfl rfl rfl (c_mwo hS s1.1.2.1 (by decide))) ?_
  refine zt_if_eq (tgt := 192) dX11_factor_184 (by decide) (by decide) (fun c_184 => ?_) (fun q => absurd q (by decide))
  refine zt_bipush dX11_factor_192 (by decide) ?_
  refine zt_iadd dX11_factor_194 ?_
  refine zt_topv (v := 1008) (by decide) ?_
  refine zt_callV1v dX11_factor_195 ml_X11_195 (zs_38 hS) (Nat.le_of_ble_eq_true rfl) (c_mpu hS s1.1.2.1 (by have e := s1.2.2.1.1; (try simp only [List.length_cons] at e); omega) (by decide)) ?_
  obtain ⟨g2, hg2⟩ : ∃ g, g = mPu g1 1008 := ⟨_, rfl⟩
  refine zt_mem hg2.symm ?_
  have s2 : mS h0 g2 (p) (1008 :: 6 :: w) (d0 + 1) (m) (cf) := hg2 ▸ s1.push
  refine zt_aload_n dX11_factor_198 rfl ?_
  refine zt_iconst dX11_factor_199 ?_
  refine zt_callV1v dX11_factor_200 ml_X11_195 (zs_38 hS) (Nat.le_of_ble_eq_true rfl) (c_mpu hS s2.1.2.1 (by have e := s2.2.2.1.1; (try simp only [List.length_cons] at e); omega) (by decide)) ?_
  obtain ⟨g3, hg3⟩ : ∃ g, g = mPu g2 5 := ⟨_, rfl⟩
  refine zt_mem hg3.symm ?_
  have s3 : mS h0 g3 (p) (5 :: 1008 :: 6 :: w) (d0 + 1) (m) (cf) := hg3 ▸ s2.push
  refine zt_goto (tgt := 282) dX11_factor_203 (by decide) ?_
  refine zt_aload_n dX11_factor_282 rfl ?_
  refine zt_callV0q dX11_factor_283 ml_X11_206 (zs_38 hS) (Nat.le_of_ble_eq_true rfl) (c_mtk hS hX s3 (by omega)) ?_
  rintro r n1 sh1 g4 ⟨rfl, rfl, rfl, s4⟩
  simp only [Option.toList, List.cons_append, List.nil_append]
  exact zt_zret dX11_factor_286 (by decide) ⟨rfl, rfl, rfl, s4⟩

set_option maxRecDepth 100000 in
set_option maxHeartbeats 4000000 in
theorem c_g5 {d n : Nat} {sh : zSh} {h : zMem} {h0 : zMem} {p d0 m : Int} {w : List Int} {cf : Int → Int × Int} (hS : zShp sh) (hX : mTg h0) (hs : mS h0 h p w d0 m cf) (hp : 0 ≤ p ∧ p ≤ h0 (-2001) 1) (hw : w.length ≤ 700) (hmm : 0 ≤ m ∧ m ≤ 200) (hk : kK (h0 (-2002)) (h0 (-2001) 1) p = 5) (hd : d0 = 10) : zM yX11_factor cX11_factor 2 (some .boolean) (d + 7) 0 0 [(2, 38)] n sh h (fun r n1 sh1 h1 => r = some (0, 0) ∧ n1 = n ∧ sh1 = sh ∧ h1 = h) := by
  refine zM.ofT2 (by decide +kernel) [some (2, 38), none] rfl (Nat.le_of_ble_eq_true rfl) ?_
  refine zt_rg (fun hm => ?_)
  refine zt_aload_n dX11_factor_0 rfl ?_
  refine zt_getv (v := 2) dX11_factor_1 fl_X11_168 (zs_38 hS) (by have hz := hs.2.1.2.2; unfold mtk at hz; omega) ?_
  refine zt_iconst dX11_factor_4 ?_
  refine zt_icmp_ne (tgt := 33) dX11_factor_5 (by decide) (by decide) (by decide) (fun c_5 => ?_) (fun q => absurd q (by decide))
  refine zt_aload_n dX11_factor_33 rfl ?_
  refine zt_iconst dX11_factor_34 ?_
  refine zt_callV1r dX11_factor_35 ml_X11_203 (zs_38 hS) (Nat.le_of_ble_eq_true rfl) (zF.of_eq (r' := some (0, 0)) (congrArg (fun z => some (0, z)) (zb_f (by have hz := hs.2.1.2.2; unfold mtk at hz; omega))) rfl rfl rfl (c_mwo hS hs.1.2.1 (by decide))) ?_
  refine zt_if_eq (tgt := 52) dX11_factor_38 (by decide) (by decide) (fun c_38 => ?_) (fun q => absurd q (by decide))
  refine zt_aload_n dX11_factor_52 rfl ?_
  refine zt_bipush dX11_factor_53 (by decide) ?_
  refine zt_callV1r dX11_factor_55 ml_X11_210 (zs_38 hS) (Nat.le_of_ble_eq_true rfl) (zF.of_eq (r' := some (0, 0)) (congrArg (fun z => some (0, z)) (zb_f (by have hz := hs.2.1.2.2; unfold mtk at hz; omega))) rfl rfl rfl (c_msg hS hs.1.2.1 (by decide))) ?_
  refine zt_if_ne (tgt := 93) dX11_factor_58 (by decide) (by decide) (fun q => absurd q (by decide)) (fun c_58 => ?_)
  refine zt_aload_n dX11_factor_61 rfl ?_
  refine zt_bipush dX11_factor_62 (by decide) ?_
  refine zt_callV1r dX11_factor_64 ml_X11_210 (zs_38 hS) (Nat.le_of_ble_eq_true rfl) (zF.of_eq (r' := some (0, 0)) (congrArg (fun z => some (0, z)) (zb_f (by have hz := hs.2.1.2.2; unfold mtk at hz; omega))) rfl rfl rfl (c_msg hS hs.1.2.1 (by decide))) ?_
  refine zt_if_ne (tgt := 93) dX11_factor_67 (by decide) (by decide) (fun q => absurd q (by decide)) (fun c_67 => ?_)
  refine zt_aload_n dX11_factor_70 rfl ?_
  refine zt_getv (v := 2) dX11_factor_71 fl_X11_168 (zs_38 hS) (by have hz := hs.2.1.2.2; unfold mtk at hz; omega) ?_
  refine zt_iconst dX11_factor_74 ?_
  refine zt_icmp_ne (tgt := 97) dX11_factor_75 (by decide) (by decide) (by decide) (fun q => absurd q (by decide)) (fun c_75 => ?_)
  refine zt_aload_n dX11_factor_78 rfl ?_
  refine zt_getv (v := 2) dX11_factor_79 fl_X11_165 (zs_38 hS) (by have hz := hs.2.1.2.2; unfold mtk at hz; omega) ?_
  refine zt_i2l dX11_factor_82 (by decide) ?_
  refine zt_lconst (v := 1) dX11_factor_83 rfl ?_
  refine zt_ldc2 dX11_factor_84 kc_X11_228 ?_
  refine zt_callS3r dX11_factor_87 ml_X11_143 (Nat.le_of_ble_eq_true rfl) (zF.of_eq (r' := some (0, 1)) (by decide) rfl rfl rfl (c_min_ (x := 2) (y := 1) (z := 5) (by decide) (by decide) (by decide))) ?_
  refine zt_if_eq (tgt := 97) dX11_factor_90 (by decide) (by decide) (fun q => absurd q (by decide)) (fun c_90 => ?_)
  refine zt_iconst dX11_factor_93 ?_
  refine zt_goto (tgt := 98) dX11_factor_94 (by decide) ?_
  refine zt_istore_n_1 dX11_factor_98 (by decide) rfl ?_
  refine zt_iload_n dX11_factor_99 rfl ?_
  refine zt_if_eq (tgt := 110) dX11_factor_100 (by decide) (by decide) (fun q => absurd q (by decide)) (fun c_100 => ?_)
  refine zt_aload_n dX11_factor_103 rfl ?_
  refine zt_callV0r dX11_factor_104 ml_X11_230 (zs_38 hS) (Nat.le_of_ble_eq_true rfl) (c_dpF hS hX hs hp hw hmm hd) ?_
  refine zt_if_ne (tgt := 112) dX11_factor_107 (by decide) (by decide) (fun q => absurd q (by decide)) (fun c_107 => ?_)
  refine zt_iconst dX11_factor_110 ?_
  exact zt_zret dX11_factor_111 (by decide) ⟨rfl, rfl, rfl, rfl⟩

set_option maxRecDepth 100000 in
set_option maxHeartbeats 4000000 in
theorem c_f8 {d n : Nat} {sh : zSh} {h : zMem} {h0 : zMem} {p d0 m : Int} {w : List Int} {cf : Int → Int × Int} (hS : zShp sh) (hX : mTg h0) (hs : mS h0 h p w d0 m cf) (hp : 0 ≤ p ∧ p ≤ h0 (-2001) 1) (hw : w.length ≤ 700) (hmm : 0 ≤ m ∧ m ≤ 200) (hk : kK (h0 (-2002)) (h0 (-2001) 1) p = 8) (hd : 0 ≤ d0 ∧ d0 < 10) : zM yX11_factor cX11_factor 2 (some .boolean) (d + 7) 0 0 [(2, 38)] n sh h (fun r n1 sh1 h1 => r = some (0, 1) ∧ n1 = n ∧ sh1 = sh ∧ mS h0 h1 (kE (h0 (-2002)) (h0 (-2001) 1) p) (1 :: 7 :: 6 :: w) (d0 + 1) (m) cf) := by
  refine zM.ofT2 (by decide +kernel) [some (2, 38), none] rfl (Nat.le_of_ble_eq_true rfl) ?_
  refine zt_rg (fun hm => ?_)
  refine zt_aload_n dX11_factor_0 rfl ?_
  refine zt_getv (v := 2) dX11_factor_1 fl_X11_168 (zs_38 hS) (by have hz := hs.2.1.2.2; unfold mtk at hz; omega) ?_
  refine zt_iconst dX11_factor_4 ?_
  refine zt_icmp_ne (tgt := 33) dX11_factor_5 (by decide) (by decide) (by decide) (fun c_5 => ?_) (fun q => absurd q (by decide))
  refine zt_aload_n dX11_factor_33 rfl ?_
  refine zt_iconst dX11_factor_34 ?_
  refine zt_callV1r dX11_factor_35 ml_X11_203 (zs_38 hS) (Nat.le_of_ble_eq_true rfl) (zF.of_eq (r' := some (0, 0)) (congrArg (fun z => some (0, z)) (zb_f (by have hz := hs.2.1.2.2; unfold mtk at hz; omega))) rfl rfl rfl (c_mwo hS hs.1.2.1 (by decide))) ?_
  refine zt_if_eq (tgt := 52) dX11_factor_38 (by decide) (by decide) (fun c_38 => ?_) (fun q => absurd q (by decide))
  refine zt_aload_n dX11_factor_52 rfl ?_
  refine zt_bipush dX11_factor_53 (by decide) ?_
  refine zt_callV1r dX11_factor_55 ml_X11_210 (zs_38 hS) (Nat.le_of_ble_eq_true rfl) (zF.of_eq (r' := some (0, 0)) (congrArg (fun z => some (0, z)) (zb_f (by have hz := hs.2.1.2.2; unfold mtk at hz; omega))) rfl rfl rfl (c_msg hS hs.1.2.1 (by decide))) ?_
  refine zt_if_ne (tgt := 93) dX11_factor_58 (by decide) (by decide) (fun q => absurd q (by decide)) (fun c_58 => ?_)
  refine zt_aload_n dX11_factor_61 rfl ?_
  refine zt_bipush dX11_factor_62 (by decide) ?_
  refine zt_callV1r dX11_factor_64 ml_X11_210 (zs_38 hS) (Nat.le_of_ble_eq_true rfl) (zF.of_eq (r' := some (0, 0)) (congrArg (fun z => some (0, z)) (zb_f (by have hz := hs.2.1.2.2; unfold mtk at hz; omega))) rfl rfl rfl (c_msg hS hs.1.2.1 (by decide))) ?_
  refine zt_if_ne (tgt := 93) dX11_factor_67 (by decide) (by decide) (fun q => absurd q (by decide)) (fun c_67 => ?_)
  refine zt_aload_n dX11_factor_70 rfl ?_
  refine zt_getv (v := 2) dX11_factor_71 fl_X11_168 (zs_38 hS) (by have hz := hs.2.1.2.2; unfold mtk at hz; omega) ?_
  refine zt_iconst dX11_factor_74 ?_
  refine zt_icmp_ne (tgt := 97) dX11_factor_75 (by decide) (by decide) (by decide) (fun q => absurd q (by decide)) (fun c_75 => ?_)
  refine zt_aload_n dX11_factor_78 rfl ?_
  refine zt_getv (v := 5) dX11_factor_79 fl_X11_165 (zs_38 hS) (by have hz := hs.2.1.2.2; unfold mtk at hz; omega) ?_
  refine zt_i2l dX11_factor_82 (by decide) ?_
  refine zt_lconst (v := 1) dX11_factor_83 rfl ?_
  refine zt_ldc2 dX11_factor_84 kc_X11_228 ?_
  refine zt_callS3r dX11_factor_87 ml_X11_143 (Nat.le_of_ble_eq_true rfl) (zF.of_eq (r' := some (0, 1)) (by decide) rfl rfl rfl (c_min_ (x := 5) (y := 1) (z := 5) (by decide) (by decide) (by decide))) ?_
  refine zt_if_eq (tgt := 97) dX11_factor_90 (by decide) (by decide) (fun q => absurd q (by decide)) (fun c_90 => ?_)
  refine zt_iconst dX11_factor_93 ?_
  refine zt_goto (tgt := 98) dX11_factor_94 (by decide) ?_
  refine zt_istore_n_1 dX11_factor_98 (by decide) rfl ?_
  refine zt_iload_n dX11_factor_99 rfl ?_
  refine zt_if_eq (tgt := 110) dX11_factor_100 (by decide) (by decide) (fun q => absurd q (by decide)) (fun c_100 => ?_)
  refine zt_aload_n dX11_factor_103 rfl ?_
  refine zt_callV0q dX11_factor_104 ml_X11_230 (zs_38 hS) (Nat.le_of_ble_eq_true rfl) (c_dpO hS hX hs hp hw hmm hd) ?_
  rintro r n1 sh1 g1 ⟨rfl, rfl, rfl, s1⟩
  simp only [Option.toList, List.cons_append, List.nil_append]
  refine zt_if_ne (tgt := 112) dX11_factor_107 (by decide) (by decide) (fun c_107 => ?_) (fun q => absurd q (by decide))
  refine zt_aload_n dX11_factor_112 rfl ?_
  refine zt_bipush dX11_factor_113 (by decide) ?_
  refine zt_callV1r dX11_factor_115 ml_X11_210 (zs_38 hS) (Nat.le_of_ble_eq_true rfl) (zF.of_eq (r' := some (0, 0)) (congrArg (fun z => some (0, z)) (zb_f (by have hz := s1.2.1.2.2; unfold mtk at hz; omega))) rfl rfl rfl (c_msg hS s1.1.2.1 (by decide))) ?_
  refine zt_if_eq (tgt := 136) dX11_factor_118 (by decide) (by decide) (fun c_118 => ?_) (fun q => absurd q (by decide))
  refine zt_aload_n dX11_factor_136 rfl ?_
  refine zt_bipush dX11_factor_137 (by decide) ?_
  refine zt_callV1r dX11_factor_139 ml_X11_210 (zs_38 hS) (Nat.le_of_ble_eq_true rfl) (zF.of_eq (r' := some (0, 0)) (congrArg (fun z => some (0, z)) (zb_f (by have hz := s1.2.1.2.2; unfold mtk at hz; omega))) rfl rfl rfl (c_msg hS s1.1.2.1 (by decide))) ?_
  refine zt_if_ne (tgt := 161) dX11_factor_142 (by decide) (by decide) (fun q => absurd q (by decide)) (fun c_142 => ?_)
  refine zt_aload_n dX11_factor_145 rfl ?_
  refine zt_iconst dX11_factor_146 ?_
  refine zt_callV1r dX11_factor_147 ml_X11_203 (zs_38 hS) (Nat.le_of_ble_eq_true rfl) (zF.of_eq (r' := some (0, 0)) (congrArg (fun z => some (0, z)) (zb_f (by have hz := s1.2.1.2.2; unfold mtk at hz; omega))) rfl rfl rfl (c_mwo hS s1.1.2.1 (by decide))) ?_
  refine zt_if_ne (tgt := 161) dX11_factor_150 (by decide) (by decide) (fun q => absurd q (by decide)) (fun c_150 => ?_)
  refine zt_aload_n dX11_factor_153 rfl ?_
  refine zt_iconst dX11_factor_154 ?_
  refine zt_callV1r dX11_factor_155 ml_X11_203 (zs_38 hS) (Nat.le_of_ble_eq_true rfl) (zF.of_eq (r' := some (0, 0)) (congrArg (fun z => some (0, z)) (zb_f (by have hz := s1.2.1.2.2; unfold mtk at hz; omega))) rfl rfl rfl (c_mwo hS s1.1.2.1 (by decide))) ?_
  refine zt_if_eq (tgt := 206) dX11_factor_158 (by decide) (by decide) (fun c_158 => ?_) (fun q => absurd q (by decide))
  refine zt_aload_n dX11_factor_206 rfl ?_
  refine zt_iconst dX11_factor_207 ?_
  refine zt_callV1r dX11_factor_208 ml_X11_203 (zs_38 hS) (Nat.le_of_ble_eq_true rfl) (zF.of_eq (r' := some (0, 1)) (congrArg (fun z => some (0, z)) (zb_t (by have hz := s1.2.1.2.2; unfold mtk at hz; omega))) rfl rfl rfl (c_mwo hS s1.1.2.1 (by decide))) ?_
  refine zt_if_eq (tgt := 228) dX11_factor_211 (by decide) (by decide) (fun q => absurd q (by decide)) (fun c_211 => ?_)
  refine zt_aload_n dX11_factor_214 rfl ?_
  refine zt_bipush dX11_factor_215 (by decide) ?_
  refine zt_callV1v dX11_factor_217 ml_X11_195 (zs_38 hS) (Nat.le_of_ble_eq_true rfl) (c_mpu hS s1.1.2.1 (by have e := s1.2.2.1.1; (try simp only [List.length_cons] at e); omega) (by decide)) ?_
  obtain ⟨g2, hg2⟩ : ∃ g, g = mPu g1 7 := ⟨_, rfl⟩
  refine zt_mem hg2.symm ?_
  have s2 : mS h0 g2 (p) (7 :: 6 :: w) (d0 + 1) (m) (cf) := hg2 ▸ s1.push
  refine zt_aload_n dX11_factor_220 rfl ?_
  refine zt_iconst dX11_factor_221 ?_
  refine zt_callV1v dX11_factor_222 ml_X11_195 (zs_38 hS) (Nat.le_of_ble_eq_true rfl) (c_mpu hS s2.1.2.1 (by have e := s2.2.2.1.1; (try simp only [List.length_cons] at e); omega) (by decide)) ?_
  obtain ⟨g3, hg3⟩ : ∃ g, g = mPu g2 1 := ⟨_, rfl⟩
  refine zt_mem hg3.symm ?_
  have s3 : mS h0 g3 (p) (1 :: 7 :: 6 :: w) (d0 + 1) (m) (cf) := hg3 ▸ s2.push
  refine zt_goto (tgt := 282) dX11_factor_225 (by decide) ?_
  refine zt_aload_n dX11_factor_282 rfl ?_
  refine zt_callV0q dX11_factor_283 ml_X11_206 (zs_38 hS) (Nat.le_of_ble_eq_true rfl) (c_mtk hS hX s3 (by omega)) ?_
  rintro r n1 sh1 g4 ⟨rfl, rfl, rfl, s4⟩
  simp only [Option.toList, List.cons_append, List.nil_append]
  exact zt_zret dX11_factor_286 (by decide) ⟨rfl, rfl, rfl, s4⟩

set_option maxRecDepth 100000 in
set_option maxHeartbeats 4000000 in
theorem c_g8 {d n : Nat} {sh : zSh} {h : zMem} {h0 : zMem} {p d0 m : Int} {w : List Int} {cf : Int → Int × Int} (hS : zShp sh) (hX : mTg h0) (hs : mS h0 h p w d0 m cf) (hp : 0 ≤ p ∧ p ≤ h0 (-2001) 1) (hw : w.length ≤ 700) (hmm : 0 ≤ m ∧ m ≤ 200) (hk : kK (h0 (-2002)) (h0 (-2001) 1) p = 8) (hd : d0 = 10) : zM yX11_factor cX11_factor 2 (some .boolean) (d + 7) 0 0 [(2, 38)] n sh h (fun r n1 sh1 h1 => r = some (0, 0) ∧ n1 = n ∧ sh1 = sh ∧ h1 = h) := by
  refine zM.ofT2 (by decide +kernel) [some (2, 38), none] rfl (Nat.le_of_ble_eq_true rfl) ?_
  refine zt_rg (fun hm => ?_)
  refine zt_aload_n dX11_factor_0 rfl ?_
  refine zt_getv (v := 2) dX11_factor_1 fl_X11_168 (zs_38 hS) (by have hz := hs.2.1.2.2; unfold mtk at hz; omega) ?_
  refine zt_iconst dX11_factor_4 ?_
  refine zt_icmp_ne (tgt := 33) dX11_factor_5 (by decide) (by decide) (by decide) (fun c_5 => ?_) (fun q => absurd q (by decide))
  refine zt_aload_n dX11_factor_33 rfl ?_
  refine zt_iconst dX11_factor_34 ?_
  refine zt_callV1r dX11_factor_35 ml_X11_203 (zs_38 hS) (Nat.le_of_ble_eq_true rfl) (zF.of_eq (r' := some (0, 0)) (congrArg (fun z => some (0, z)) (zb_f (by have hz := hs.2.1.2.2; unfold mtk at hz; omega))) rfl rfl rfl (c_mwo hS hs.1.2.1 (by decide))) ?_
  refine zt_if_eq (tgt := 52) dX11_factor_38 (by decide) (by decide) (fun c_38 => ?_) (fun q => absurd q (by decide))
  refine zt_aload_n dX11_factor_52 rfl ?_
  refine zt_bipush dX11_factor_53 (by decide) ?_
  refine zt_callV1r dX11_factor_55 ml_X11_210 (zs_38 hS) (Nat.le_of_ble_eq_true rfl) (zF.of_eq (r' := some (0, 0)) (congrArg (fun z => some (0, z)) (zb_f (by have hz := hs.2.1.2.2; unfold mtk at hz; omega))) rfl rfl rfl (c_msg hS hs.1.2.1 (by decide))) ?_
  refine zt_if_ne (tgt := 93) dX11_factor_58 (by decide) (by decide) (fun q => absurd q (by decide)) (fun c_58 => ?_)
  refine zt_aload_n dX11_factor_61 rfl ?_
  refine zt_bipush dX11_factor_62 (by decide) ?_
  refine zt_callV1r dX11_factor_64 ml_X11_210 (zs_38 hS) (Nat.le_of_ble_eq_true rfl) (zF.of_eq (r' := some (0, 0)) (congrArg (fun z => some (0, z)) (zb_f (by have hz := hs.2.1.2.2; unfold mtk at hz; omega))) rfl rfl rfl (c_msg hS hs.1.2.1 (by decide))) ?_
  refine zt_if_ne (tgt := 93) dX11_factor_67 (by decide) (by decide) (fun q => absurd q (by decide)) (fun c_67 => ?_)
  refine zt_aload_n dX11_factor_70 rfl ?_
  refine zt_getv (v := 2) dX11_factor_71 fl_X11_168 (zs_38 hS) (by have hz := hs.2.1.2.2; unfold mtk at hz; omega) ?_
  refine zt_iconst dX11_factor_74 ?_
  refine zt_icmp_ne (tgt := 97) dX11_factor_75 (by decide) (by decide) (by decide) (fun q => absurd q (by decide)) (fun c_75 => ?_)
  refine zt_aload_n dX11_factor_78 rfl ?_
  refine zt_getv (v := 5) dX11_factor_79 fl_X11_165 (zs_38 hS) (by have hz := hs.2.1.2.2; unfold mtk at hz; omega) ?_
  refine zt_i2l dX11_factor_82 (by decide) ?_
  refine zt_lconst (v := 1) dX11_factor_83 rfl ?_
  refine zt_ldc2 dX11_factor_84 kc_X11_228 ?_
  refine zt_callS3r dX11_factor_87 ml_X11_143 (Nat.le_of_ble_eq_true rfl) (zF.of_eq (r' := some (0, 1)) (by decide) rfl rfl rfl (c_min_ (x := 5) (y := 1) (z := 5) (by decide) (by decide) (by decide))) ?_
  refine zt_if_eq (tgt := 97) dX11_factor_90 (by decide) (by decide) (fun q => absurd q (by decide)) (fun c_90 => ?_)
  refine zt_iconst dX11_factor_93 ?_
  refine zt_goto (tgt := 98) dX11_factor_94 (by decide) ?_
  refine zt_istore_n_1 dX11_factor_98 (by decide) rfl ?_
  refine zt_iload_n dX11_factor_99 rfl ?_
  refine zt_if_eq (tgt := 110) dX11_factor_100 (by decide) (by decide) (fun q => absurd q (by decide)) (fun c_100 => ?_)
  refine zt_aload_n dX11_factor_103 rfl ?_
  refine zt_callV0r dX11_factor_104 ml_X11_230 (zs_38 hS) (Nat.le_of_ble_eq_true rfl) (c_dpF hS hX hs hp hw hmm hd) ?_
  refine zt_if_ne (tgt := 112) dX11_factor_107 (by decide) (by decide) (fun q => absurd q (by decide)) (fun c_107 => ?_)
  refine zt_iconst dX11_factor_110 ?_
  exact zt_zret dX11_factor_111 (by decide) ⟨rfl, rfl, rfl, rfl⟩

set_option maxRecDepth 100000 in
set_option maxHeartbeats 4000000 in
theorem c_f6 {d n : Nat} {sh : zSh} {h : zMem} {h0 : zMem} {p d0 m : Int} {w : List Int} {cf : Int → Int × Int} (hS : zShp sh) (hX : mTg h0) (hs : mS h0 h p w d0 m cf) (hp : 0 ≤ p ∧ p ≤ h0 (-2001) 1) (hw : w.length ≤ 700) (hmm : 0 ≤ m ∧ m ≤ 200) (hk : kK (h0 (-2002)) (h0 (-2001) 1) p = 6) (hd : 0 ≤ d0 ∧ d0 < 10) : zM yX11_factor cX11_factor 2 (some .boolean) (d + 7) 0 0 [(2, 38)] n sh h (fun r n1 sh1 h1 => r = some (0, 1) ∧ n1 = n ∧ sh1 = sh ∧ mS h0 h1 (kE (h0 (-2002)) (h0 (-2001) 1) p) (140 :: 1 :: 144 :: 1 :: 141 :: 1009 :: 6 :: w) (d0 + 1) (m) cf) := by
  refine zM.ofT2 (by decide +kernel) [some (2, 38), none] rfl (Nat.le_of_ble_eq_true rfl) ?_
  refine zt_rg (fun hm => ?_)
  refine zt_aload_n dX11_factor_0 rfl ?_
  refine zt_getv (v := 2) dX11_factor_1 fl_X11_168 (zs_38 hS) (by have hz := hs.2.1.2.2; unfold mtk at hz; omega) ?_
  refine zt_iconst dX11_factor_4 ?_
  refine zt_icmp_ne (tgt := 33) dX11_factor_5 (by decide) (by decide) (by decide) (fun c_5 => ?_) (fun q => absurd q (by decide))
  refine zt_aload_n dX11_factor_33 rfl ?_
  refine zt_iconst dX11_factor_34 ?_
  refine zt_callV1r dX11_factor_35 ml_X11_203 (zs_38 hS) (Nat.le_of_ble_eq_true rfl) (zF.of_eq (r' := some (0, 0)) (congrArg (fun z => some (0, z)) (zb_f (by have hz := hs.2.1.2.2; unfold mtk at hz; omega))) rfl rfl rfl (c_mwo hS hs.1.2.1 (by decide))) ?_
  refine zt_if_eq (tgt := 52) dX11_factor_38 (by decide) (by decide) (fun c_38 => ?_) (fun q => absurd q (by decide))
  refine zt_aload_n dX11_factor_52 rfl ?_
  refine zt_bipush dX11_factor_53 (by decide) ?_
  refine zt_callV1r dX11_factor_55 ml_X11_210 (zs_38 hS) (Nat.le_of_ble_eq_true rfl) (zF.of_eq (r' := some (0, 0)) (congrArg (fun z => some (0, z)) (zb_f (by have hz := hs.2.1.2.2; unfold mtk at hz; omega))) rfl rfl rfl (c_msg hS hs.1.2.1 (by decide))) ?_
  refine zt_if_ne (tgt := 93) dX11_factor_58 (by decide) (by decide) (fun q => absurd q (by decide)) (fun c_58 => ?_)
  refine zt_aload_n dX11_factor_61 rfl ?_
  refine zt_bipush dX11_factor_62 (by decide) ?_
  refine zt_callV1r dX11_factor_64 ml_X11_210 (zs_38 hS) (Nat.le_of_ble_eq_true rfl) (zF.of_eq (r' := some (0, 0)) (congrArg (fun z => some (0, z)) (zb_f (by have hz := hs.2.1.2.2; unfold mtk at hz; omega))) rfl rfl rfl (c_msg hS hs.1.2.1 (by decide))) ?_
  refine zt_if_ne (tgt := 93) dX11_factor_67 (by decide) (by decide) (fun q => absurd q (by decide)) (fun c_67 => ?_)
  refine zt_aload_n dX11_factor_70 rfl ?_
  refine zt_getv (v := 2) dX11_factor_71 fl_X11_168 (zs_38 hS) (by have hz := hs.2.1.2.2; unfold mtk at hz; omega) ?_
  refine zt_iconst dX11_factor_74 ?_
  refine zt_icmp_ne (tgt := 97) dX11_factor_75 (by decide) (by decide) (by decide) (fun q => absurd q (by decide)) (fun c_75 => ?_)
  refine zt_aload_n dX11_factor_78 rfl ?_
  refine zt_getv (v := 3) dX11_factor_79 fl_X11_165 (zs_38 hS) (by have hz := hs.2.1.2.2; unfold mtk at hz; omega) ?_
  refine zt_i2l dX11_factor_82 (by decide) ?_
  refine zt_lconst (v := 1) dX11_factor_83 rfl ?_
  refine zt_ldc2 dX11_factor_84 kc_X11_228 ?_
  refine zt_callS3r dX11_factor_87 ml_X11_143 (Nat.le_of_ble_eq_true rfl) (zF.of_eq (r' := some (0, 1)) (by decide) rfl rfl rfl (c_min_ (x := 3) (y := 1) (z := 5) (by decide) (by decide) (by decide))) ?_
  refine zt_if_eq (tgt := 97) dX11_factor_90 (by decide) (by decide) (fun q => absurd q (by decide)) (fun c_90 => ?_)
  refine zt_iconst dX11_factor_93 ?_
  refine zt_goto (tgt := 98) dX11_factor_94 (by decide) ?_
  refine zt_istore_n_1 dX11_factor_98 (by decide) rfl ?_
  refine zt_iload_n dX11_factor_99 rfl ?_
  refine zt_if_eq (tgt := 110) dX11_factor_100 (by decide) (by decide) (fun q => absurd q (by decide)) (fun c_100 => ?_)
  refine zt_aload_n dX11_factor_103 rfl ?_
  refine zt_callV0q dX11_factor_104 ml_X11_230 (zs_38 hS) (Nat.le_of_ble_eq_true rfl) (c_dpO hS hX hs hp hw hmm hd) ?_
  rintro r n1 sh1 g1 ⟨rfl, rfl, rfl, s1⟩
  simp only [Option.toList, List.cons_append, List.nil_append]
  refine zt_if_ne (tgt := 112) dX11_factor_107 (by decide) (by decide) (fun c_107 => ?_) (fun q => absurd q (by decide))
  refine zt_aload_n dX11_factor_112 rfl ?_
  refine zt_bipush dX11_factor_113 (by decide) ?_
  refine zt_callV1r dX11_factor_115 ml_X11_210 (zs_38 hS) (Nat.le_of_ble_eq_true rfl) (zF.of_eq (r' := some (0, 0)) (congrArg (fun z => some (0, z)) (zb_f (by have hz := s1.2.1.2.2; unfold mtk at hz; omega))) rfl rfl rfl (c_msg hS s1.1.2.1 (by decide))) ?_
  refine zt_if_eq (tgt := 136) dX11_factor_118 (by decide) (by decide) (fun c_118 => ?_) (fun q => absurd q (by decide))
  refine zt_aload_n dX11_factor_136 rfl ?_
  refine zt_bipush dX11_factor_137 (by decide) ?_
  refine zt_callV1r dX11_factor_139 ml_X11_210 (zs_38 hS) (Nat.le_of_ble_eq_true rfl) (zF.of_eq (r' := some (0, 0)) (congrArg (fun z => some (0, z)) (zb_f (by have hz := s1.2.1.2.2; unfold mtk at hz; omega))) rfl rfl rfl (c_msg hS s1.1.2.1 (by decide))) ?_
  refine zt_if_ne (tgt := 161) dX11_factor_142 (by decide) (by decide) (fun q => absurd q (by decide)) (fun c_142 => ?_)
  refine zt_aload_n dX11_factor_145 rfl ?_
  refine zt_iconst dX11_factor_146 ?_
  refine zt_callV1r dX11_factor_147 ml_X11_203 (zs_38 hS) (Nat.le_of_ble_eq_true rfl) (zF.of_eq (r' := some (0, 0)) (congrArg (fun z => some (0, z)) (zb_f (by have hz := s1.2.1.2.2; unfold mtk at hz; omega))) rfl rfl rfl (c_mwo hS s1.1.2.1 (by decide))) ?_
  refine zt_if_ne (tgt := 161) dX11_factor_150 (by decide) (by decide) (fun q => absurd q (by decide)) (fun c_150 => ?_)
  refine zt_aload_n dX11_factor_153 rfl ?_
  refine zt_iconst dX11_factor_154 ?_
  refine zt_callV1r dX11_factor_155 ml_X11_203 (zs_38 hS) (Nat.le_of_ble_eq_true rfl) (zF.of_eq (r' := some (0, 0)) (congrArg (fun z => some (0, z)) (zb_f (by have hz := s1.2.1.2.2; unfold mtk at hz; omega))) rfl rfl rfl (c_mwo hS s1.1.2.1 (by decide))) ?_
  refine zt_if_eq (tgt := 206) dX11_factor_158 (by decide) (by decide) (fun c_158 => ?_) (fun q => absurd q (by decide))
  refine zt_aload_n dX11_factor_206 rfl ?_
  refine zt_iconst dX11_factor_207 ?_
  refine zt_callV1r dX11_factor_208 ml_X11_203 (zs_38 hS) (Nat.le_of_ble_eq_true rfl) (zF.of_eq (r' := some (0, 0)) (congrArg (fun z => some (0, z)) (zb_f (by have hz := s1.2.1.2.2; unfold mtk at hz; omega))) rfl rfl rfl (c_mwo hS s1.1.2.1 (by decide))) ?_
  refine zt_if_eq (tgt := 228) dX11_factor_211 (by decide) (by decide) (fun c_211 => ?_) (fun q => absurd q (by decide))
  refine zt_aload_n dX11_factor_228 rfl ?_
  refine zt_sipush dX11_factor_229 (by decide) ?_
  refine zt_aload_n dX11_factor_232 rfl ?_
  refine zt_iconst dX11_factor_233 ?_
  refine zt_callV1r dX11_factor_234 ml_X11_203 (zs_38 hS) (Nat.le_of_ble_eq_true rfl) (zF.of_eq (r' := some (0, 1)) (congrArg (fun z => some (0, z)) (zb_t (by have hz := s1.2.1.2.2; unfold mtk at hz; omega))) rfl rfl rfl (c_mwo hS s1.1.2.1 (by decide))) ?_
  refine zt_if_eq (tgt := 245) dX11_factor_237 (by decide) (by decide) (fun q => absurd q (by decide)) (fun c_237 => ?_)
  refine zt_bipush dX11_factor_240 (by decide) ?_
  refine zt_goto (tgt := 247) dX11_factor_242 (by decide) ?_
  refine zt_iadd dX11_factor_247 ?_
  refine zt_topv (v := 1009) (by decide) ?_
  refine zt_callV1v dX11_factor_248 ml_X11_195 (zs_38 hS) (Nat.le_of_ble_eq_true rfl) (c_mpu hS s1.1.2.1 (by have e := s1.2.2.1.1; (try simp only [List.length_cons] at e); omega) (by decide)) ?_
  obtain ⟨g2, hg2⟩ : ∃ g, g = mPu g1 1009 := ⟨_, rfl⟩
  refine zt_mem hg2.symm ?_
  have s2 : mS h0 g2 (p) (1009 :: 6 :: w) (d0 + 1) (m) (cf) := hg2 ▸ s1.push
  refine zt_aload_n dX11_factor_251 rfl ?_
  refine zt_sipush dX11_factor_252 (by decide) ?_
  refine zt_callV1v dX11_factor_255 ml_X11_195 (zs_38 hS) (Nat.le_of_ble_eq_true rfl) (c_mpu hS s2.1.2.1 (by have e := s2.2.2.1.1; (try simp only [List.length_cons] at e); omega) (by decide)) ?_
  obtain ⟨g3, hg3⟩ : ∃ g, g = mPu g2 141 := ⟨_, rfl⟩
  refine zt_mem hg3.symm ?_
  have s3 : mS h0 g3 (p) (141 :: 1009 :: 6 :: w) (d0 + 1) (m) (cf) := hg3 ▸ s2.push
  refine zt_aload_n dX11_factor_258 rfl ?_
  refine zt_iconst dX11_factor_259 ?_
  refine zt_callV1v dX11_factor_260 ml_X11_195 (zs_38 hS) (Nat.le_of_ble_eq_true rfl) (c_mpu hS s3.1.2.1 (by have e := s3.2.2.1.1; (try simp only [List.length_cons] at e); omega) (by decide)) ?_
  obtain ⟨g4, hg4⟩ : ∃ g, g = mPu g3 1 := ⟨_, rfl⟩
  refine zt_mem hg4.symm ?_
  have s4 : mS h0 g4 (p) (1 :: 141 :: 1009 :: 6 :: w) (d0 + 1) (m) (cf) := hg4 ▸ s3.push
  refine zt_aload_n dX11_factor_263 rfl ?_
  refine zt_sipush dX11_factor_264 (by decide) ?_
  refine zt_callV1v dX11_factor_267 ml_X11_195 (zs_38 hS) (Nat.le_of_ble_eq_true rfl) (c_mpu hS s4.1.2.1 (by have e := s4.2.2.1.1; (try simp only [List.length_cons] at e); omega) (by decide)) ?_
  obtain ⟨g5, hg5⟩ : ∃ g, g = mPu g4 144 := ⟨_, rfl⟩
  refine zt_mem hg5.symm ?_
  have s5 : mS h0 g5 (p) (144 :: 1 :: 141 :: 1009 :: 6 :: w) (d0 + 1) (m) (cf) := hg5 ▸ s4.push
  refine zt_aload_n dX11_factor_270 rfl ?_
  refine zt_iconst dX11_factor_271 ?_
  refine zt_callV1v dX11_factor_272 ml_X11_195 (zs_38 hS) (Nat.le_of_ble_eq_true rfl) (c_mpu hS s5.1.2.1 (by have e := s5.2.2.1.1; (try simp only [List.length_cons] at e); omega) (by decide)) ?_
  obtain ⟨g6, hg6⟩ : ∃ g, g = mPu g5 1 := ⟨_, rfl⟩
  refine zt_mem hg6.symm ?_
  have s6 : mS h0 g6 (p) (1 :: 144 :: 1 :: 141 :: 1009 :: 6 :: w) (d0 + 1) (m) (cf) := hg6 ▸ s5.push
  refine zt_aload_n dX11_factor_275 rfl ?_
  refine zt_sipush dX11_factor_276 (by decide) ?_
  refine zt_callV1v dX11_factor_279 ml_X11_195 (zs_38 hS) (Nat.le_of_ble_eq_true rfl) (c_mpu hS s6.1.2.1 (by have e := s6.2.2.1.1; (try simp only [List.length_cons] at e); omega) (by decide)) ?_
  obtain ⟨g7, hg7⟩ : ∃ g, g = mPu g6 140 := ⟨_, rfl⟩
  refine zt_mem hg7.symm ?_
  have s7 : mS h0 g7 (p) (140 :: 1 :: 144 :: 1 :: 141 :: 1009 :: 6 :: w) (d0 + 1) (m) (cf) := hg7 ▸ s6.push
  refine zt_aload_n dX11_factor_282 rfl ?_
  refine zt_callV0q dX11_factor_283 ml_X11_206 (zs_38 hS) (Nat.le_of_ble_eq_true rfl) (c_mtk hS hX s7 (by omega)) ?_
  rintro r n1 sh1 g8 ⟨rfl, rfl, rfl, s8⟩
  simp only [Option.toList, List.cons_append, List.nil_append]
  exact zt_zret dX11_factor_286 (by decide) ⟨rfl, rfl, rfl, s8⟩

set_option maxRecDepth 100000 in
set_option maxHeartbeats 4000000 in
theorem c_g6 {d n : Nat} {sh : zSh} {h : zMem} {h0 : zMem} {p d0 m : Int} {w : List Int} {cf : Int → Int × Int} (hS : zShp sh) (hX : mTg h0) (hs : mS h0 h p w d0 m cf) (hp : 0 ≤ p ∧ p ≤ h0 (-2001) 1) (hw : w.length ≤ 700) (hmm : 0 ≤ m ∧ m ≤ 200) (hk : kK (h0 (-2002)) (h0 (-2001) 1) p = 6) (hd : d0 = 10) : zM yX11_factor cX11_factor 2 (some .boolean) (d + 7) 0 0 [(2, 38)] n sh h (fun r n1 sh1 h1 => r = some (0, 0) ∧ n1 = n ∧ sh1 = sh ∧ h1 = h) := by
  refine zM.ofT2 (by decide +kernel) [some (2, 38), none] rfl (Nat.le_of_ble_eq_true rfl) ?_
  refine zt_rg (fun hm => ?_)
  refine zt_aload_n dX11_factor_0 rfl ?_
  refine zt_getv (v := 2) dX11_factor_1 fl_X11_168 (zs_38 hS) (by have hz := hs.2.1.2.2; unfold mtk at hz; omega) ?_
  refine zt_iconst dX11_factor_4 ?_
  refine zt_icmp_ne (tgt := 33) dX11_factor_5 (by decide) (by decide) (by decide) (fun c_5 => ?_) (fun q => absurd q (by decide))
  refine zt_aload_n dX11_factor_33 rfl ?_
  refine zt_iconst dX11_factor_34 ?_
  refine zt_callV1r dX11_factor_35 ml_X11_203 (zs_38 hS) (Nat.le_of_ble_eq_true rfl) (zF.of_eq (r' := some (0, 0)) (congrArg (fun z => some (0, z)) (zb_f (by have hz := hs.2.1.2.2; unfold mtk at hz; omega))) rfl rfl rfl (c_mwo hS hs.1.2.1 (by decide))) ?_
  refine zt_if_eq (tgt := 52) dX11_factor_38 (by decide) (by decide) (fun c_38 => ?_) (fun q => absurd q (by decide))
  refine zt_aload_n dX11_factor_52 rfl ?_
  refine zt_bipush dX11_factor_53 (by decide) ?_
  refine zt_callV1r dX11_factor_55 ml_X11_210 (zs_38 hS) (Nat.le_of_ble_eq_true rfl) (zF.of_eq (r' := some (0, 0)) (congrArg (fun z => some (0, z)) (zb_f (by have hz := hs.2.1.2.2; unfold mtk at hz; omega))) rfl rfl rfl (c_msg hS hs.1.2.1 (by decide))) ?_
  refine zt_if_ne (tgt := 93) dX11_factor_58 (by decide) (by decide) (fun q => absurd q (by decide)) (fun c_58 => ?_)
  refine zt_aload_n dX11_factor_61 rfl ?_
  refine zt_bipush dX11_factor_62 (by decide) ?_
  refine zt_callV1r dX11_factor_64 ml_X11_210 (zs_38 hS) (Nat.le_of_ble_eq_true rfl) (zF.of_eq (r' := some (0, 0)) (congrArg (fun z => some (0, z)) (zb_f (by have hz := hs.2.1.2.2; unfold mtk at hz; omega))) rfl rfl rfl (c_msg hS hs.1.2.1 (by decide))) ?_
  refine zt_if_ne (tgt := 93) dX11_factor_67 (by decide) (by decide) (fun q => absurd q (by decide)) (fun c_67 => ?_)
  refine zt_aload_n dX11_factor_70 rfl ?_
  refine zt_getv (v := 2) dX11_factor_71 fl_X11_168 (zs_38 hS) (by have hz := hs.2.1.2.2; unfold mtk at hz; omega) ?_
  refine zt_iconst dX11_factor_74 ?_
  refine zt_icmp_ne (tgt := 97) dX11_factor_75 (by decide) (by decide) (by decide) (fun q => absurd q (by decide)) (fun c_75 => ?_)
  refine zt_aload_n dX11_factor_78 rfl ?_
  refine zt_getv (v := 3) dX11_factor_79 fl_X11_165 (zs_38 hS) (by have hz := hs.2.1.2.2; unfold mtk at hz; omega) ?_
  refine zt_i2l dX11_factor_82 (by decide) ?_
  refine zt_lconst (v := 1) dX11_factor_83 rfl ?_
  refine zt_ldc2 dX11_factor_84 kc_X11_228 ?_
  refine zt_callS3r dX11_factor_87 ml_X11_143 (Nat.le_of_ble_eq_true rfl) (zF.of_eq (r' := some (0, 1)) (by decide) rfl rfl rfl (c_min_ (x := 3) (y := 1) (z := 5) (by decide) (by decide) (by decide))) ?_
  refine zt_if_eq (tgt := 97) dX11_factor_90 (by decide) (by decide) (fun q => absurd q (by decide)) (fun c_90 => ?_)
  refine zt_iconst dX11_factor_93 ?_
  refine zt_goto (tgt := 98) dX11_factor_94 (by decide) ?_
  refine zt_istore_n_1 dX11_factor_98 (by decide) rfl ?_
  refine zt_iload_n dX11_factor_99 rfl ?_
  refine zt_if_eq (tgt := 110) dX11_factor_100 (by decide) (by decide) (fun q => absurd q (by decide)) (fun c_100 => ?_)
  refine zt_aload_n dX11_factor_103 rfl ?_
  refine zt_callV0r dX11_factor_104 ml_X11_230 (zs_38 hS) (Nat.le_of_ble_eq_true rfl) (c_dpF hS hX hs hp hw hmm hd) ?_
  refine zt_if_ne (tgt := 112) dX11_factor_107 (by decide) (by decide) (fun q => absurd q (by decide)) (fun c_107 => ?_)
  refine zt_iconst dX11_factor_110 ?_
  exact zt_zret dX11_factor_111 (by decide) ⟨rfl, rfl, rfl, rfl⟩

set_option maxRecDepth 100000 in
set_option maxHeartbeats 4000000 in
theorem c_f7 {d n : Nat} {sh : zSh} {h : zMem} {h0 : zMem} {p d0 m : Int} {w : List Int} {cf : Int → Int × Int} (hS : zShp sh) (hX : mTg h0) (hs : mS h0 h p w d0 m cf) (hp : 0 ≤ p ∧ p ≤ h0 (-2001) 1) (hw : w.length ≤ 700) (hmm : 0 ≤ m ∧ m ≤ 200) (hk : kK (h0 (-2002)) (h0 (-2001) 1) p = 7) (hd : 0 ≤ d0 ∧ d0 < 10) : zM yX11_factor cX11_factor 2 (some .boolean) (d + 7) 0 0 [(2, 38)] n sh h (fun r n1 sh1 h1 => r = some (0, 1) ∧ n1 = n ∧ sh1 = sh ∧ mS h0 h1 (kE (h0 (-2002)) (h0 (-2001) 1) p) (140 :: 1 :: 144 :: 1 :: 141 :: 1010 :: 6 :: w) (d0 + 1) (m) cf) := by
  refine zM.ofT2 (by decide +kernel) [some (2, 38), none] rfl (Nat.le_of_ble_eq_true rfl) ?_
  refine zt_rg (fun hm => ?_)
  refine zt_aload_n dX11_factor_0 rfl ?_
  refine zt_getv (v := 2) dX11_factor_1 fl_X11_168 (zs_38 hS) (by have hz := hs.2.1.2.2; unfold mtk at hz; omega) ?_
  refine zt_iconst dX11_factor_4 ?_
  refine zt_icmp_ne (tgt := 33) dX11_factor_5 (by decide) (by decide) (by decide) (fun c_5 => ?_) (fun q => absurd q (by decide))
  refine zt_aload_n dX11_factor_33 rfl ?_
  refine zt_iconst dX11_factor_34 ?_
  refine zt_callV1r dX11_factor_35 ml_X11_203 (zs_38 hS) (Nat.le_of_ble_eq_true rfl) (zF.of_eq (r' := some (0, 0)) (congrArg (fun z => some (0, z)) (zb_f (by have hz := hs.2.1.2.2; unfold mtk at hz; omega))) rfl rfl rfl (c_mwo hS hs.1.2.1 (by decide))) ?_
  refine zt_if_eq (tgt := 52) dX11_factor_38 (by decide) (by decide) (fun c_38 => ?_) (fun q => absurd q (by decide))
  refine zt_aload_n dX11_factor_52 rfl ?_
  refine zt_bipush dX11_factor_53 (by decide) ?_
  refine zt_callV1r dX11_factor_55 ml_X11_210 (zs_38 hS) (Nat.le_of_ble_eq_true rfl) (zF.of_eq (r' := some (0, 0)) (congrArg (fun z => some (0, z)) (zb_f (by have hz := hs.2.1.2.2; unfold mtk at hz; omega))) rfl rfl rfl (c_msg hS hs.1.2.1 (by decide))) ?_
  refine zt_if_ne (tgt := 93) dX11_factor_58 (by decide) (by decide) (fun q => absurd q (by decide)) (fun c_58 => ?_)
  refine zt_aload_n dX11_factor_61 rfl ?_
  refine zt_bipush dX11_factor_62 (by decide) ?_
  refine zt_callV1r dX11_factor_64 ml_X11_210 (zs_38 hS) (Nat.le_of_ble_eq_true rfl) (zF.of_eq (r' := some (0, 0)) (congrArg (fun z => some (0, z)) (zb_f (by have hz := hs.2.1.2.2; unfold mtk at hz; omega))) rfl rfl rfl (c_msg hS hs.1.2.1 (by decide))) ?_
  refine zt_if_ne (tgt := 93) dX11_factor_67 (by decide) (by decide) (fun q => absurd q (by decide)) (fun c_67 => ?_)
  refine zt_aload_n dX11_factor_70 rfl ?_
  refine zt_getv (v := 2) dX11_factor_71 fl_X11_168 (zs_38 hS) (by have hz := hs.2.1.2.2; unfold mtk at hz; omega) ?_
  refine zt_iconst dX11_factor_74 ?_
  refine zt_icmp_ne (tgt := 97) dX11_factor_75 (by decide) (by decide) (by decide) (fun q => absurd q (by decide)) (fun c_75 => ?_)
  refine zt_aload_n dX11_factor_78 rfl ?_
  refine zt_getv (v := 4) dX11_factor_79 fl_X11_165 (zs_38 hS) (by have hz := hs.2.1.2.2; unfold mtk at hz; omega) ?_
  refine zt_i2l dX11_factor_82 (by decide) ?_
  refine zt_lconst (v := 1) dX11_factor_83 rfl ?_
  refine zt_ldc2 dX11_factor_84 kc_X11_228 ?_
  refine zt_callS3r dX11_factor_87 ml_X11_143 (Nat.le_of_ble_eq_true rfl) (zF.of_eq (r' := some (0, 1)) (by decide) rfl rfl rfl (c_min_ (x := 4) (y := 1) (z := 5) (by decide) (by decide) (by decide))) ?_
  refine zt_if_eq (tgt := 97) dX11_factor_90 (by decide) (by decide) (fun q => absurd q (by decide)) (fun c_90 => ?_)
  refine zt_iconst dX11_factor_93 ?_
  refine zt_goto (tgt := 98) dX11_factor_94 (by decide) ?_
  refine zt_istore_n_1 dX11_factor_98 (by decide) rfl ?_
  refine zt_iload_n dX11_factor_99 rfl ?_
  refine zt_if_eq (tgt := 110) dX11_factor_100 (by decide) (by decide) (fun q => absurd q (by decide)) (fun c_100 => ?_)
  refine zt_aload_n dX11_factor_103 rfl ?_
  refine zt_callV0q dX11_factor_104 ml_X11_230 (zs_38 hS) (Nat.le_of_ble_eq_true rfl) (c_dpO hS hX hs hp hw hmm hd) ?_
  rintro r n1 sh1 g1 ⟨rfl, rfl, rfl, s1⟩
  simp only [Option.toList, List.cons_append, List.nil_append]
  refine zt_if_ne (tgt := 112) dX11_factor_107 (by decide) (by decide) (fun c_107 => ?_) (fun q => absurd q (by decide))
  refine zt_aload_n dX11_factor_112 rfl ?_
  refine zt_bipush dX11_factor_113 (by decide) ?_
  refine zt_callV1r dX11_factor_115 ml_X11_210 (zs_38 hS) (Nat.le_of_ble_eq_true rfl) (zF.of_eq (r' := some (0, 0)) (congrArg (fun z => some (0, z)) (zb_f (by have hz := s1.2.1.2.2; unfold mtk at hz; omega))) rfl rfl rfl (c_msg hS s1.1.2.1 (by decide))) ?_
  refine zt_if_eq (tgt := 136) dX11_factor_118 (by decide) (by decide) (fun c_118 => ?_) (fun q => absurd q (by decide))
  refine zt_aload_n dX11_factor_136 rfl ?_
  refine zt_bipush dX11_factor_137 (by decide) ?_
  refine zt_callV1r dX11_factor_139 ml_X11_210 (zs_38 hS) (Nat.le_of_ble_eq_true rfl) (zF.of_eq (r' := some (0, 0)) (congrArg (fun z => some (0, z)) (zb_f (by have hz := s1.2.1.2.2; unfold mtk at hz; omega))) rfl rfl rfl (c_msg hS s1.1.2.1 (by decide))) ?_
  refine zt_if_ne (tgt := 161) dX11_factor_142 (by decide) (by decide) (fun q => absurd q (by decide)) (fun c_142 => ?_)
  refine zt_aload_n dX11_factor_145 rfl ?_
  refine zt_iconst dX11_factor_146 ?_
  refine zt_callV1r dX11_factor_147 ml_X11_203 (zs_38 hS) (Nat.le_of_ble_eq_true rfl) (zF.of_eq (r' := some (0, 0)) (congrArg (fun z => some (0, z)) (zb_f (by have hz := s1.2.1.2.2; unfold mtk at hz; omega))) rfl rfl rfl (c_mwo hS s1.1.2.1 (by decide))) ?_
  refine zt_if_ne (tgt := 161) dX11_factor_150 (by decide) (by decide) (fun q => absurd q (by decide)) (fun c_150 => ?_)
  refine zt_aload_n dX11_factor_153 rfl ?_
  refine zt_iconst dX11_factor_154 ?_
  refine zt_callV1r dX11_factor_155 ml_X11_203 (zs_38 hS) (Nat.le_of_ble_eq_true rfl) (zF.of_eq (r' := some (0, 0)) (congrArg (fun z => some (0, z)) (zb_f (by have hz := s1.2.1.2.2; unfold mtk at hz; omega))) rfl rfl rfl (c_mwo hS s1.1.2.1 (by decide))) ?_
  refine zt_if_eq (tgt := 206) dX11_factor_158 (by decide) (by decide) (fun c_158 => ?_) (fun q => absurd q (by decide))
  refine zt_aload_n dX11_factor_206 rfl ?_
  refine zt_iconst dX11_factor_207 ?_
  refine zt_callV1r dX11_factor_208 ml_X11_203 (zs_38 hS) (Nat.le_of_ble_eq_true rfl) (zF.of_eq (r' := some (0, 0)) (congrArg (fun z => some (0, z)) (zb_f (by have hz := s1.2.1.2.2; unfold mtk at hz; omega))) rfl rfl rfl (c_mwo hS s1.1.2.1 (by decide))) ?_
  refine zt_if_eq (tgt := 228) dX11_factor_211 (by decide) (by decide) (fun c_211 => ?_) (fun q => absurd q (by decide))
  refine zt_aload_n dX11_factor_228 rfl ?_
  refine zt_sipush dX11_factor_229 (by decide) ?_
  refine zt_aload_n dX11_factor_232 rfl ?_
  refine zt_iconst dX11_factor_233 ?_
  refine zt_callV1r dX11_factor_234 ml_X11_203 (zs_38 hS) (Nat.le_of_ble_eq_true rfl) (zF.of_eq (r' := some (0, 0)) (congrArg (fun z => some (0, z)) (zb_f (by have hz := s1.2.1.2.2; unfold mtk at hz; omega))) rfl rfl rfl (c_mwo hS s1.1.2.1 (by decide))) ?_
  refine zt_if_eq (tgt := 245) dX11_factor_237 (by decide) (by decide) (fun c_237 => ?_) (fun q => absurd q (by decide))
  refine zt_bipush dX11_factor_245 (by decide) ?_
  refine zt_iadd dX11_factor_247 ?_
  refine zt_topv (v := 1010) (by decide) ?_
  refine zt_callV1v dX11_factor_248 ml_X11_195 (zs_38 hS) (Nat.le_of_ble_eq_true rfl) (c_mpu hS s1.1.2.1 (by have e := s1.2.2.1.1; (try simp only [List.length_cons] at e); omega) (by decide)) ?_
  obtain ⟨g2, hg2⟩ : ∃ g, g = mPu g1 1010 := ⟨_, rfl⟩
  refine zt_mem hg2.symm ?_
  have s2 : mS h0 g2 (p) (1010 :: 6 :: w) (d0 + 1) (m) (cf) := hg2 ▸ s1.push
  refine zt_aload_n dX11_factor_251 rfl ?_
  refine zt_sipush dX11_factor_252 (by decide) ?_
  refine zt_callV1v dX11_factor_255 ml_X11_195 (zs_38 hS) (Nat.le_of_ble_eq_true rfl) (c_mpu hS s2.1.2.1 (by have e := s2.2.2.1.1; (try simp only [List.length_cons] at e); omega) (by decide)) ?_
  obtain ⟨g3, hg3⟩ : ∃ g, g = mPu g2 141 := ⟨_, rfl⟩
  refine zt_mem hg3.symm ?_
  have s3 : mS h0 g3 (p) (141 :: 1010 :: 6 :: w) (d0 + 1) (m) (cf) := hg3 ▸ s2.push
  refine zt_aload_n dX11_factor_258 rfl ?_
  refine zt_iconst dX11_factor_259 ?_
  refine zt_callV1v dX11_factor_260 ml_X11_195 (zs_38 hS) (Nat.le_of_ble_eq_true rfl) (c_mpu hS s3.1.2.1 (by have e := s3.2.2.1.1; (try simp only [List.length_cons] at e); omega) (by decide)) ?_
  obtain ⟨g4, hg4⟩ : ∃ g, g = mPu g3 1 := ⟨_, rfl⟩
  refine zt_mem hg4.symm ?_
  have s4 : mS h0 g4 (p) (1 :: 141 :: 1010 :: 6 :: w) (d0 + 1) (m) (cf) := hg4 ▸ s3.push
  refine zt_aload_n dX11_factor_263 rfl ?_
  refine zt_sipush dX11_factor_264 (by decide) ?_
  refine zt_callV1v dX11_factor_267 ml_X11_195 (zs_38 hS) (Nat.le_of_ble_eq_true rfl) (c_mpu hS s4.1.2.1 (by have e := s4.2.2.1.1; (try simp only [List.length_cons] at e); omega) (by decide)) ?_
  obtain ⟨g5, hg5⟩ : ∃ g, g = mPu g4 144 := ⟨_, rfl⟩
  refine zt_mem hg5.symm ?_
  have s5 : mS h0 g5 (p) (144 :: 1 :: 141 :: 1010 :: 6 :: w) (d0 + 1) (m) (cf) := hg5 ▸ s4.push
  refine zt_aload_n dX11_factor_270 rfl ?_
  refine zt_iconst dX11_factor_271 ?_
  refine zt_callV1v dX11_factor_272 ml_X11_195 (zs_38 hS) (Nat.le_of_ble_eq_true rfl) (c_mpu hS s5.1.2.1 (by have e := s5.2.2.1.1; (try simp only [List.length_cons] at e); omega) (by decide)) ?_
  obtain ⟨g6, hg6⟩ : ∃ g, g = mPu g5 1 := ⟨_, rfl⟩
  refine zt_mem hg6.symm ?_
  have s6 : mS h0 g6 (p) (1 :: 144 :: 1 :: 141 :: 1010 :: 6 :: w) (d0 + 1) (m) (cf) := hg6 ▸ s5.push
  refine zt_aload_n dX11_factor_275 rfl ?_
  refine zt_sipush dX11_factor_276 (by decide) ?_
  refine zt_callV1v dX11_factor_279 ml_X11_195 (zs_38 hS) (Nat.le_of_ble_eq_true rfl) (c_mpu hS s6.1.2.1 (by have e := s6.2.2.1.1; (try simp only [List.length_cons] at e); omega) (by decide)) ?_
  obtain ⟨g7, hg7⟩ : ∃ g, g = mPu g6 140 := ⟨_, rfl⟩
  refine zt_mem hg7.symm ?_
  have s7 : mS h0 g7 (p) (140 :: 1 :: 144 :: 1 :: 141 :: 1010 :: 6 :: w) (d0 + 1) (m) (cf) := hg7 ▸ s6.push
  refine zt_aload_n dX11_factor_282 rfl ?_
  refine zt_callV0q dX11_factor_283 ml_X11_206 (zs_38 hS) (Nat.le_of_ble_eq_true rfl) (c_mtk hS hX s7 (by omega)) ?_
  rintro r n1 sh1 g8 ⟨rfl, rfl, rfl, s8⟩
  simp only [Option.toList, List.cons_append, List.nil_append]
  exact zt_zret dX11_factor_286 (by decide) ⟨rfl, rfl, rfl, s8⟩

set_option maxRecDepth 100000 in
set_option maxHeartbeats 4000000 in
theorem c_g7 {d n : Nat} {sh : zSh} {h : zMem} {h0 : zMem} {p d0 m : Int} {w : List Int} {cf : Int → Int × Int} (hS : zShp sh) (hX : mTg h0) (hs : mS h0 h p w d0 m cf) (hp : 0 ≤ p ∧ p ≤ h0 (-2001) 1) (hw : w.length ≤ 700) (hmm : 0 ≤ m ∧ m ≤ 200) (hk : kK (h0 (-2002)) (h0 (-2001) 1) p = 7) (hd : d0 = 10) : zM yX11_factor cX11_factor 2 (some .boolean) (d + 7) 0 0 [(2, 38)] n sh h (fun r n1 sh1 h1 => r = some (0, 0) ∧ n1 = n ∧ sh1 = sh ∧ h1 = h) := by
  refine zM.ofT2 (by decide +kernel) [some (2, 38), none] rfl (Nat.le_of_ble_eq_true rfl) ?_
  refine zt_rg (fun hm => ?_)
  refine zt_aload_n dX11_factor_0 rfl ?_
  refine zt_getv (v := 2) dX11_factor_1 fl_X11_168 (zs_38 hS) (by have hz := hs.2.1.2.2; unfold mtk at hz; omega) ?_
  refine zt_iconst dX11_factor_4 ?_
  refine zt_icmp_ne (tgt := 33) dX11_factor_5 (by decide) (by decide) (by decide) (fun c_5 => ?_) (fun q => absurd q (by decide))
  refine zt_aload_n dX11_factor_33 rfl ?_
  refine zt_iconst dX11_factor_34 ?_
  refine zt_callV1r dX11_factor_35 ml_X11_203 (zs_38 hS) (Nat.le_of_ble_eq_true rfl) (zF.of_eq (r' := some (0, 0)) (congrArg (fun z => some (0, z)) (zb_f (by have hz := hs.2.1.2.2; unfold mtk at hz; omega))) rfl rfl rfl (c_mwo hS hs.1.2.1 (by decide))) ?_
  refine zt_if_eq (tgt := 52) dX11_factor_38 (by decide) (by decide) (fun c_38 => ?_) (fun q => absurd q (by decide))
  refine zt_aload_n dX11_factor_52 rfl ?_
  refine zt_bipush dX11_factor_53 (by decide) ?_
  refine zt_callV1r dX11_factor_55 ml_X11_210 (zs_38 hS) (Nat.le_of_ble_eq_true rfl) (zF.of_eq (r' := some (0, 0)) (congrArg (fun z => some (0, z)) (zb_f (by have hz := hs.2.1.2.2; unfold mtk at hz; omega))) rfl rfl rfl (c_msg hS hs.1.2.1 (by decide))) ?_
  refine zt_if_ne (tgt := 93) dX11_factor_58 (by decide) (by decide) (fun q => absurd q (by decide)) (fun c_58 => ?_)
  refine zt_aload_n dX11_factor_61 rfl ?_
  refine zt_bipush dX11_factor_62 (by decide) ?_
  refine zt_callV1r dX11_factor_64 ml_X11_210 (zs_38 hS) (Nat.le_of_ble_eq_true rfl) (zF.of_eq (r' := some (0, 0)) (congrArg (fun z => some (0, z)) (zb_f (by have hz := hs.2.1.2.2; unfold mtk at hz; omega))) rfl rfl rfl (c_msg hS hs.1.2.1 (by decide))) ?_
  refine zt_if_ne (tgt := 93) dX11_factor_67 (by decide) (by decide) (fun q => absurd q (by decide)) (fun c_67 => ?_)
  refine zt_aload_n dX11_factor_70 rfl ?_
  refine zt_getv (v := 2) dX11_factor_71 fl_X11_168 (zs_38 hS) (by have hz := hs.2.1.2.2; unfold mtk at hz; omega) ?_
  refine zt_iconst dX11_factor_74 ?_
  refine zt_icmp_ne (tgt := 97) dX11_factor_75 (by decide) (by decide) (by decide) (fun q => absurd q (by decide)) (fun c_75 => ?_)
  refine zt_aload_n dX11_factor_78 rfl ?_
  refine zt_getv (v := 4) dX11_factor_79 fl_X11_165 (zs_38 hS) (by have hz := hs.2.1.2.2; unfold mtk at hz; omega) ?_
  refine zt_i2l dX11_factor_82 (by decide) ?_
  refine zt_lconst (v := 1) dX11_factor_83 rfl ?_
  refine zt_ldc2 dX11_factor_84 kc_X11_228 ?_
  refine zt_callS3r dX11_factor_87 ml_X11_143 (Nat.le_of_ble_eq_true rfl) (zF.of_eq (r' := some (0, 1)) (by decide) rfl rfl rfl (c_min_ (x := 4) (y := 1) (z := 5) (by decide) (by decide) (by decide))) ?_
  refine zt_if_eq (tgt := 97) dX11_factor_90 (by decide) (by decide) (fun q => absurd q (by decide)) (fun c_90 => ?_)
  refine zt_iconst dX11_factor_93 ?_
  refine zt_goto (tgt := 98) dX11_factor_94 (by decide) ?_
  refine zt_istore_n_1 dX11_factor_98 (by decide) rfl ?_
  refine zt_iload_n dX11_factor_99 rfl ?_
  refine zt_if_eq (tgt := 110) dX11_factor_100 (by decide) (by decide) (fun q => absurd q (by decide)) (fun c_100 => ?_)
  refine zt_aload_n dX11_factor_103 rfl ?_
  refine zt_callV0r dX11_factor_104 ml_X11_230 (zs_38 hS) (Nat.le_of_ble_eq_true rfl) (c_dpF hS hX hs hp hw hmm hd) ?_
  refine zt_if_ne (tgt := 112) dX11_factor_107 (by decide) (by decide) (fun q => absurd q (by decide)) (fun c_107 => ?_)
  refine zt_iconst dX11_factor_110 ?_
  exact zt_zret dX11_factor_111 (by decide) ⟨rfl, rfl, rfl, rfl⟩

set_option maxRecDepth 100000 in
set_option maxHeartbeats 4000000 in
theorem c_f0 {d n : Nat} {sh : zSh} {h : zMem} {h0 : zMem} {p d0 m : Int} {w : List Int} {cf : Int → Int × Int} (hS : zShp sh) (hX : mTg h0) (hs : mS h0 h p w d0 m cf) (hp : 0 ≤ p ∧ p ≤ h0 (-2001) 1) (hw : w.length ≤ 700) (hmm : 0 ≤ m ∧ m ≤ 200) (hk : kK (h0 (-2002)) (h0 (-2001) 1) p ≠ 2 ∧ kK (h0 (-2002)) (h0 (-2001) 1) p ≠ 3 ∧ kK (h0 (-2002)) (h0 (-2001) 1) p ≠ 40 ∧ kK (h0 (-2002)) (h0 (-2001) 1) p ≠ 45 ∧ kK (h0 (-2002)) (h0 (-2001) 1) p ≠ 4 ∧ kK (h0 (-2002)) (h0 (-2001) 1) p ≠ 5 ∧ kK (h0 (-2002)) (h0 (-2001) 1) p ≠ 6 ∧ kK (h0 (-2002)) (h0 (-2001) 1) p ≠ 7 ∧ kK (h0 (-2002)) (h0 (-2001) 1) p ≠ 8) : zM yX11_factor cX11_factor 2 (some .boolean) (d + 7) 0 0 [(2, 38)] n sh h (fun r n1 sh1 h1 => r = some (0, 0) ∧ n1 = n ∧ sh1 = sh ∧ h1 = h) := by
  refine zM.ofT2 (by decide +kernel) [some (2, 38), none] rfl (Nat.le_of_ble_eq_true rfl) ?_
  refine zt_rg (fun hm => ?_)
  refine zt_aload_n dX11_factor_0 rfl ?_
  refine zt_get dX11_factor_1 fl_X11_168 (zs_38 hS) ?_
  refine zt_iconst dX11_factor_4 ?_
  refine zt_icmp_ne (tgt := 33) dX11_factor_5 (by decide) (hm.fld (j := 3) (zs_38 hS) (by decide) (by decide) (by decide)) (by decide) (fun c_5 => ?_) (fun c_5 => ?_)
  · refine zt_aload_n dX11_factor_33 rfl ?_
    refine zt_iconst dX11_factor_34 ?_
    refine zt_callV1r dX11_factor_35 ml_X11_203 (zs_38 hS) (Nat.le_of_ble_eq_true rfl) (zF.of_eq (r' := some (0, 0)) (congrArg (fun z => some (0, z)) (zb_f (by have hz := hs.2.1.2.2; unfold mtk at hz; omega))) rfl rfl rfl (c_mwo hS hs.1.2.1 (by decide))) ?_
    refine zt_if_eq (tgt := 52) dX11_factor_38 (by decide) (by decide) (fun c_38 => ?_) (fun q => absurd q (by decide))
    refine zt_aload_n dX11_factor_52 rfl ?_
    refine zt_bipush dX11_factor_53 (by decide) ?_
    refine zt_callV1r dX11_factor_55 ml_X11_210 (zs_38 hS) (Nat.le_of_ble_eq_true rfl) (zF.of_eq (r' := some (0, 0)) (congrArg (fun z => some (0, z)) (zb_f (by have hz := hs.2.1.2.2; unfold mtk at hz; omega))) rfl rfl rfl (c_msg hS hs.1.2.1 (by decide))) ?_
    refine zt_if_ne (tgt := 93) dX11_factor_58 (by decide) (by decide) (fun q => absurd q (by decide)) (fun c_58 => ?_)
    refine zt_aload_n dX11_factor_61 rfl ?_
    refine zt_bipush dX11_factor_62 (by decide) ?_
    refine zt_callV1r dX11_factor_64 ml_X11_210 (zs_38 hS) (Nat.le_of_ble_eq_true rfl) (zF.of_eq (r' := some (0, 0)) (congrArg (fun z => some (0, z)) (zb_f (by have hz := hs.2.1.2.2; unfold mtk at hz; omega))) rfl rfl rfl (c_msg hS hs.1.2.1 (by decide))) ?_
    refine zt_if_ne (tgt := 93) dX11_factor_67 (by decide) (by decide) (fun q => absurd q (by decide)) (fun c_67 => ?_)
    refine zt_aload_n dX11_factor_70 rfl ?_
    refine zt_get dX11_factor_71 fl_X11_168 (zs_38 hS) ?_
    refine zt_iconst dX11_factor_74 ?_
    refine zt_icmp_ne (tgt := 97) dX11_factor_75 (by decide) (hm.fld (j := 3) (zs_38 hS) (by decide) (by decide) (by decide)) (by decide) (fun c_75 => ?_) (fun c_75 => ?_)
    · refine zt_iconst dX11_factor_97 ?_
      refine zt_istore_n_1 dX11_factor_98 (by decide) rfl ?_
      refine zt_iload_n dX11_factor_99 rfl ?_
      refine zt_if_eq (tgt := 110) dX11_factor_100 (by decide) (by decide) (fun c_100 => ?_) (fun q => absurd q (by decide))
      refine zt_iconst dX11_factor_110 ?_
      exact zt_zret dX11_factor_111 (by decide) ⟨rfl, rfl, rfl, rfl⟩
    · refine zt_aload_n dX11_factor_78 rfl ?_
      refine zt_get dX11_factor_79 fl_X11_165 (zs_38 hS) ?_
      refine zt_i2l dX11_factor_82 (hm.fld (j := 5) (zs_38 hS) (by decide) (by decide) (by decide)) ?_
      refine zt_lconst (v := 1) dX11_factor_83 rfl ?_
      refine zt_ldc2 dX11_factor_84 kc_X11_228 ?_
      refine zt_callS3r dX11_factor_87 ml_X11_143 (Nat.le_of_ble_eq_true rfl) (zF.of_eq (r' := some (0, 0)) (congrArg (fun z => some (0, z)) (zb_f (by have hz := hs.2.1.2.2; unfold mtk at hz; omega))) rfl rfl rfl (c_min_ (x := h 38 5) (y := 1) (z := 5) (by have := hm.fld (j := 5) (zs_38 hS) (by decide) (by decide) (by decide); exact (show zi64 _ by have q : zi32 (h 38 5) := this; omega)) (by decide) (by decide))) ?_
      refine zt_if_eq (tgt := 97) dX11_factor_90 (by decide) (by decide) (fun c_90 => ?_) (fun q => absurd q (by decide))
      refine zt_iconst dX11_factor_97 ?_
      refine zt_istore_n_1 dX11_factor_98 (by decide) rfl ?_
      refine zt_iload_n dX11_factor_99 rfl ?_
      refine zt_if_eq (tgt := 110) dX11_factor_100 (by decide) (by decide) (fun c_100 => ?_) (fun q => absurd q (by decide))
      refine zt_iconst dX11_factor_110 ?_
      exact zt_zret dX11_factor_111 (by decide) ⟨rfl, rfl, rfl, rfl⟩
  · refine zt_aload_n dX11_factor_8 rfl ?_
    refine zt_get dX11_factor_9 fl_X11_165 (zs_38 hS) ?_
    refine zt_ldc dX11_factor_12 kc_X11_227 ?_
    refine zt_icmp_le (tgt := 19) dX11_factor_14 (by decide) (hm.fld (j := 5) (zs_38 hS) (by decide) (by decide) (by decide)) (by decide) (fun c_14 => ?_) (fun c_14 => ?_)
    · exfalso; have hz := hs.2.1.2.2; unfold mtk at hz; omega
    · refine zt_iconst dX11_factor_17 ?_
      exact zt_zret dX11_factor_18 (by decide) ⟨rfl, rfl, rfl, rfl⟩
