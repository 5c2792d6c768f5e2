set_option maxRecDepth 100000 in
set_option maxHeartbeats 4000000 in
theorem c_s1 {d n : Nat} {sh : zSh} {h : zMem} {h0 : zMem} {p d0 m : Int} {w : List Int} {cf : Int → Int × Int} (hS : zShp sh) (hX : mTg h0) (hs : mS h0 h p w d0 m cf) (hp : 0 ≤ p ∧ p ≤ h0 (-2001) 1) (hw : w.length ≤ 700) (hmm : 0 ≤ m ∧ m ≤ 200) : zM yX11_steps cX11_steps 2 (some .boolean) (d + 8) 0 0 [(2, 38), (0, 1)] n sh h (fun r n1 sh1 h1 => r = some (0, 1) ∧ n1 = n ∧ sh1 = sh ∧ mS h0 h1 (p) (3 :: 2 :: w) (d0) (m) cf) := by
  refine zM.ofT2 (by decide +kernel) [some (2, 38), some (0, 1)] rfl (Nat.le_of_ble_eq_true rfl) ?_
  refine zt_rg (fun hm => ?_)
  refine zt_iload_n dX11_steps_0 rfl ?_
  refine zt_sipush dX11_steps_1 (by decide) ?_
  refine zt_icmp_lt (tgt := 19) dX11_steps_4 (by decide) (by decide) (by decide) (fun c_4 => ?_) (fun q => absurd q (by decide))
  refine zt_iload_n dX11_steps_19 rfl ?_
  refine zt_sipush dX11_steps_20 (by decide) ?_
  refine zt_icmp_lt (tgt := 51) dX11_steps_23 (by decide) (by decide) (by decide) (fun c_23 => ?_) (fun q => absurd q (by decide))
  refine zt_iload_n dX11_steps_51 rfl ?_
  refine zt_bipush dX11_steps_52 (by decide) ?_
  refine zt_icmp_lt (tgt := 81) dX11_steps_54 (by decide) (by decide) (by decide) (fun c_54 => ?_) (fun q => absurd q (by decide))
  refine zt_iload_n dX11_steps_81 rfl ?_
  refine zt_tableIn (off := 55) (tgt := 137) dX11_steps_82 (by decide) (by decide) (by decide) rfl (by decide) ?_
  refine zt_aload_n dX11_steps_137 rfl ?_
  refine zt_iconst dX11_steps_138 ?_
  refine zt_iconst dX11_steps_139 ?_
  refine zt_callV2q dX11_steps_140 ml_X11_213 (zs_38 hS) (Nat.le_of_ble_eq_true rfl) (c_bothE hS hX hs hp hw hmm ) ?_
  rintro r n1 sh1 g1 ⟨rfl, rfl, rfl, s1⟩
  simp only [Option.toList, List.cons_append, List.nil_append]
  exact zt_zret dX11_steps_143 (by decide) ⟨rfl, rfl, rfl, s1⟩

set_option maxRecDepth 100000 in
set_option maxHeartbeats 4000000 in
theorem c_s3 {d n : Nat} {sh : zSh} {h : zMem} {h0 : zMem} {p d0 m : Int} {w : List Int} {cf : Int → Int × Int} (hS : zShp sh) (hX : mTg h0) (hs : mS h0 h p w d0 m cf) (hp : 0 ≤ p ∧ p ≤ h0 (-2001) 1) (hw : w.length ≤ 700) (hmm : 0 ≤ m ∧ m ≤ 200) : zM yX11_steps cX11_steps 2 (some .boolean) (d + 8) 0 0 [(2, 38), (0, 3)] n sh h (fun r n1 sh1 h1 => r = some (0, 1) ∧ n1 = n ∧ sh1 = sh ∧ mS h0 h1 (p) (5 :: 4 :: w) (d0) (m) cf) := by
  refine zM.ofT2 (by decide +kernel) [some (2, 38), some (0, 3)] rfl (Nat.le_of_ble_eq_true rfl) ?_
  refine zt_rg (fun hm => ?_)
  refine zt_iload_n dX11_steps_0 rfl ?_
  refine zt_sipush dX11_steps_1 (by decide) ?_
  refine zt_icmp_lt (tgt := 19) dX11_steps_4 (by decide) (by decide) (by decide) (fun c_4 => ?_) (fun q => absurd q (by decide))
  refine zt_iload_n dX11_steps_19 rfl ?_
  refine zt_sipush dX11_steps_20 (by decide) ?_
  refine zt_icmp_lt (tgt := 51) dX11_steps_23 (by decide) (by decide) (by decide) (fun c_23 => ?_) (fun q => absurd q (by decide))
  refine zt_iload_n dX11_steps_51 rfl ?_
  refine zt_bipush dX11_steps_52 (by decide) ?_
  refine zt_icmp_lt (tgt := 81) dX11_steps_54 (by decide) (by decide) (by decide) (fun c_54 => ?_) (fun q => absurd q (by decide))
  refine zt_iload_n dX11_steps_81 rfl ?_
  refine zt_tableIn (off := 75) (tgt := 157) dX11_steps_82 (by decide) (by decide) (by decide) rfl (by decide) ?_
  refine zt_aload_n dX11_steps_157 rfl ?_
  refine zt_iconst dX11_steps_158 ?_
  refine zt_iconst dX11_steps_159 ?_
  refine zt_callV2q dX11_steps_160 ml_X11_213 (zs_38 hS) (Nat.le_of_ble_eq_true rfl) (c_bothT hS hX hs hp hw hmm ) ?_
  rintro r n1 sh1 g1 ⟨rfl, rfl, rfl, s1⟩
  simp only [Option.toList, List.cons_append, List.nil_append]
  exact zt_zret dX11_steps_163 (by decide) ⟨rfl, rfl, rfl, s1⟩

set_option maxRecDepth 100000 in
set_option maxHeartbeats 4000000 in
theorem c_s2_1 {d n : Nat} {sh : zSh} {h : zMem} {h0 : zMem} {p d0 m : Int} {w : List Int} {cf : Int → Int × Int} (hS : zShp sh) (hX : mTg h0) (hs : mS h0 h p w d0 m cf) (hp : 0 ≤ p ∧ p ≤ h0 (-2001) 1) (hw : w.length ≤ 700) (hmm : 0 ≤ m ∧ m ≤ 200) (hk : kK (h0 (-2002)) (h0 (-2001) 1) p = 43) : zM yX11_steps cX11_steps 2 (some .boolean) (d + 8) 0 0 [(2, 38), (0, 2)] n sh h (fun r n1 sh1 h1 => r = some (0, 1) ∧ n1 = n ∧ sh1 = sh ∧ mS h0 h1 (kE (h0 (-2002)) (h0 (-2001) 1) p) (3 :: 1002 :: 2 :: w) (d0) (m) cf) := by
  refine zM.ofT2 (by decide +kernel) [some (2, 38), some (0, 2)] rfl (Nat.le_of_ble_eq_true rfl) ?_
  refine zt_rg (fun hm => ?_)
  refine zt_iload_n dX11_steps_0 rfl ?_
  refine zt_sipush dX11_steps_1 (by decide) ?_
  refine zt_icmp_lt (tgt := 19) dX11_steps_4 (by decide) (by decide) (by decide) (fun c_4 => ?_) (fun q => absurd q (by decide))
  refine zt_iload_n dX11_steps_19 rfl ?_
  refine zt_sipush dX11_steps_20 (by decide) ?_
  refine zt_icmp_lt (tgt := 51) dX11_steps_23 (by decide) (by decide) (by decide) (fun c_23 => ?_) (fun q => absurd q (by decide))
  refine zt_iload_n dX11_steps_51 rfl ?_
  refine zt_bipush dX11_steps_52 (by decide) ?_
  refine zt_icmp_lt (tgt := 81) dX11_steps_54 (by decide) (by decide) (by decide) (fun c_54 => ?_) (fun q => absurd q (by decide))
  refine zt_iload_n dX11_steps_81 rfl ?_
  refine zt_tableIn (off := 62) (tgt := 144) dX11_steps_82 (by decide) (by decide) (by decide) rfl (by decide) ?_
  refine zt_aload_n dX11_steps_144 rfl ?_
  refine zt_bipush dX11_steps_145 (by decide) ?_
  refine zt_iconst dX11_steps_147 ?_
  refine zt_bipush dX11_steps_148 (by decide) ?_
  refine zt_iconst dX11_steps_150 ?_
  refine zt_iconst dX11_steps_151 ?_
  refine zt_iconst dX11_steps_152 ?_
  refine zt_callV6q dX11_steps_153 ml_X11_217 (zs_38 hS) (Nat.le_of_ble_eq_true rfl) (c_moE1 hS hX hs hp hw hmm hk) ?_
  rintro r n1 sh1 g1 ⟨rfl, rfl, rfl, s1⟩
  simp only [Option.toList, List.cons_append, List.nil_append]
  exact zt_zret dX11_steps_156 (by decide) ⟨rfl, rfl, rfl, s1⟩

set_option maxRecDepth 100000 in
set_option maxHeartbeats 4000000 in
theorem c_s2_2 {d n : Nat} {sh : zSh} {h : zMem} {h0 : zMem} {p d0 m : Int} {w : List Int} {cf : Int → Int × Int} (hS : zShp sh) (hX : mTg h0) (hs : mS h0 h p w d0 m cf) (hp : 0 ≤ p ∧ p ≤ h0 (-2001) 1) (hw : w.length ≤ 700) (hmm : 0 ≤ m ∧ m ≤ 200) (hk : kK (h0 (-2002)) (h0 (-2001) 1) p = 45) : zM yX11_steps cX11_steps 2 (some .boolean) (d + 8) 0 0 [(2, 38), (0, 2)] n sh h (fun r n1 sh1 h1 => r = some (0, 1) ∧ n1 = n ∧ sh1 = sh ∧ mS h0 h1 (kE (h0 (-2002)) (h0 (-2001) 1) p) (3 :: 1003 :: 2 :: w) (d0) (m) cf) := by
  refine zM.ofT2 (by decide +kernel) [some (2, 38), some (0, 2)] rfl (Nat.le_of_ble_eq_true rfl) ?_
  refine zt_rg (fun hm => ?_)
  refine zt_iload_n dX11_steps_0 rfl ?_
  refine zt_sipush dX11_steps_1 (by decide) ?_
  refine zt_icmp_lt (tgt := 19) dX11_steps_4 (by decide) (by decide) (by decide) (fun c_4 => ?_) (fun q => absurd q (by decide))
  refine zt_iload_n dX11_steps_19 rfl ?_
  refine zt_sipush dX11_steps_20 (by decide) ?_
  refine zt_icmp_lt (tgt := 51) dX11_steps_23 (by decide) (by decide) (by decide) (fun c_23 => ?_) (fun q => absurd q (by decide))
  refine zt_iload_n dX11_steps_51 rfl ?_
  refine zt_bipush dX11_steps_52 (by decide) ?_
  refine zt_icmp_lt (tgt := 81) dX11_steps_54 (by decide) (by decide) (by decide) (fun c_54 => ?_) (fun q => absurd q (by decide))
  refine zt_iload_n dX11_steps_81 rfl ?_
  refine zt_tableIn (off := 62) (tgt := 144) dX11_steps_82 (by decide) (by decide) (by decide) rfl (by decide) ?_
  refine zt_aload_n dX11_steps_144 rfl ?_
  refine zt_bipush dX11_steps_145 (by decide) ?_
  refine zt_iconst dX11_steps_147 ?_
  refine zt_bipush dX11_steps_148 (by decide) ?_
  refine zt_iconst dX11_steps_150 ?_
  refine zt_iconst dX11_steps_151 ?_
  refine zt_iconst dX11_steps_152 ?_
  refine zt_callV6q dX11_steps_153 ml_X11_217 (zs_38 hS) (Nat.le_of_ble_eq_true rfl) (c_moE2 hS hX hs hp hw hmm hk) ?_
  rintro r n1 sh1 g1 ⟨rfl, rfl, rfl, s1⟩
  simp only [Option.toList, List.cons_append, List.nil_append]
  exact zt_zret dX11_steps_156 (by decide) ⟨rfl, rfl, rfl, s1⟩

set_option maxRecDepth 100000 in
set_option maxHeartbeats 4000000 in
theorem c_s2_0 {d n : Nat} {sh : zSh} {h : zMem} {h0 : zMem} {p d0 m : Int} {w : List Int} {cf : Int → Int × Int} (hS : zShp sh) (hX : mTg h0) (hs : mS h0 h p w d0 m cf) (hp : 0 ≤ p ∧ p ≤ h0 (-2001) 1) (hw : w.length ≤ 700) (hmm : 0 ≤ m ∧ m ≤ 200) (hk : kK (h0 (-2002)) (h0 (-2001) 1) p ≠ 43 ∧ kK (h0 (-2002)) (h0 (-2001) 1) p ≠ 45) : zM yX11_steps cX11_steps 2 (some .boolean) (d + 8) 0 0 [(2, 38), (0, 2)] n sh h (fun r n1 sh1 h1 => r = some (0, 1) ∧ n1 = n ∧ sh1 = sh ∧ mS h0 h1 (p) (w) (d0) (m) cf) := by
  refine zM.ofT2 (by decide +kernel) [some (2, 38), some (0, 2)] rfl (Nat.le_of_ble_eq_true rfl) ?_
  refine zt_rg (fun hm => ?_)
  refine zt_iload_n dX11_steps_0 rfl ?_
  refine zt_sipush dX11_steps_1 (by decide) ?_
  refine zt_icmp_lt (tgt := 19) dX11_steps_4 (by decide) (by decide) (by decide) (fun c_4 => ?_) (fun q => absurd q (by decide))
  refine zt_iload_n dX11_steps_19 rfl ?_
  refine zt_sipush dX11_steps_20 (by decide) ?_
  refine zt_icmp_lt (tgt := 51) dX11_steps_23 (by decide) (by decide) (by decide) (fun c_23 => ?_) (fun q => absurd q (by decide))
  refine zt_iload_n dX11_steps_51 rfl ?_
  refine zt_bipush dX11_steps_52 (by decide) ?_
  refine zt_icmp_lt (tgt := 81) dX11_steps_54 (by decide) (by decide) (by decide) (fun c_54 => ?_) (fun q => absurd q (by decide))
  refine zt_iload_n dX11_steps_81 rfl ?_
  refine zt_tableIn (off := 62) (tgt := 144) dX11_steps_82 (by decide) (by decide) (by decide) rfl (by decide) ?_
  refine zt_aload_n dX11_steps_144 rfl ?_
  refine zt_bipush dX11_steps_145 (by decide) ?_
  refine zt_iconst dX11_steps_147 ?_
  refine zt_bipush dX11_steps_148 (by decide) ?_
  refine zt_iconst dX11_steps_150 ?_
  refine zt_iconst dX11_steps_151 ?_
  refine zt_iconst dX11_steps_152 ?_
  refine zt_callV6q dX11_steps_153 ml_X11_217 (zs_38 hS) (Nat.le_of_ble_eq_true rfl) (c_moE0 hS hX hs hp hw hmm hk) ?_
  rintro r n1 sh1 g1 ⟨rfl, rfl, rfl, s1⟩
  simp only [Option.toList, List.cons_append, List.nil_append]
  exact zt_zret dX11_steps_156 (by decide) ⟨rfl, rfl, rfl, s1⟩

set_option maxRecDepth 100000 in
set_option maxHeartbeats 4000000 in
theorem c_s4_1 {d n : Nat} {sh : zSh} {h : zMem} {h0 : zMem} {p d0 m : Int} {w : List Int} {cf : Int → Int × Int} (hS : zShp sh) (hX : mTg h0) (hs : mS h0 h p w d0 m cf) (hp : 0 ≤ p ∧ p ≤ h0 (-2001) 1) (hw : w.length ≤ 700) (hmm : 0 ≤ m ∧ m ≤ 200) (hk : kK (h0 (-2002)) (h0 (-2001) 1) p = 42) : zM yX11_steps cX11_steps 2 (some .boolean) (d + 8) 0 0 [(2, 38), (0, 4)] n sh h (fun r n1 sh1 h1 => r = some (0, 1) ∧ n1 = n ∧ sh1 = sh ∧ mS h0 h1 (kE (h0 (-2002)) (h0 (-2001) 1) p) (5 :: 1004 :: 4 :: w) (d0) (m) cf) := by
  refine zM.ofT2 (by decide +kernel) [some (2, 38), some (0, 4)] rfl (Nat.le_of_ble_eq_true rfl) ?_
  refine zt_rg (fun hm => ?_)
  refine zt_iload_n dX11_steps_0 rfl ?_
  refine zt_sipush dX11_steps_1 (by decide) ?_
  refine zt_icmp_lt (tgt := 19) dX11_steps_4 (by decide) (by decide) (by decide) (fun c_4 => ?_) (fun q => absurd q (by decide))
  refine zt_iload_n dX11_steps_19 rfl ?_
  refine zt_sipush dX11_steps_20 (by decide) ?_
  refine zt_icmp_lt (tgt := 51) dX11_steps_23 (by decide) (by decide) (by decide) (fun c_23 => ?_) (fun q => absurd q (by decide))
  refine zt_iload_n dX11_steps_51 rfl ?_
  refine zt_bipush dX11_steps_52 (by decide) ?_
  refine zt_icmp_lt (tgt := 81) dX11_steps_54 (by decide) (by decide) (by decide) (fun c_54 => ?_) (fun q => absurd q (by decide))
  refine zt_iload_n dX11_steps_81 rfl ?_
  refine zt_tableIn (off := 82) (tgt := 164) dX11_steps_82 (by decide) (by decide) (by decide) rfl (by decide) ?_
  refine zt_aload_n dX11_steps_164 rfl ?_
  refine zt_bipush dX11_steps_165 (by decide) ?_
  refine zt_iconst dX11_steps_167 ?_
  refine zt_bipush dX11_steps_168 (by decide) ?_
  refine zt_iconst dX11_steps_170 ?_
  refine zt_iconst dX11_steps_171 ?_
  refine zt_iconst dX11_steps_172 ?_
  refine zt_callV6q dX11_steps_173 ml_X11_217 (zs_38 hS) (Nat.le_of_ble_eq_true rfl) (c_moT1 hS hX hs hp hw hmm hk) ?_
  rintro r n1 sh1 g1 ⟨rfl, rfl, rfl, s1⟩
  simp only [Option.toList, List.cons_append, List.nil_append]
  exact zt_zret dX11_steps_176 (by decide) ⟨rfl, rfl, rfl, s1⟩

set_option maxRecDepth 100000 in
set_option maxHeartbeats 4000000 in
theorem c_s4_2 {d n : Nat} {sh : zSh} {h : zMem} {h0 : zMem} {p d0 m : Int} {w : List Int} {cf : Int → Int × Int} (hS : zShp sh) (hX : mTg h0) (hs : mS h0 h p w d0 m cf) (hp : 0 ≤ p ∧ p ≤ h0 (-2001) 1) (hw : w.length ≤ 700) (hmm : 0 ≤ m ∧ m ≤ 200) (hk : kK (h0 (-2002)) (h0 (-2001) 1) p = 47) : zM yX11_steps cX11_steps 2 (some .boolean) (d + 8) 0 0 [(2, 38), (0, 4)] n sh h (fun r n1 sh1 h1 => r = some (0, 1) ∧ n1 = n ∧ sh1 = sh ∧ mS h0 h1 (kE (h0 (-2002)) (h0 (-2001) 1) p) (5 :: 1005 :: 4 :: w) (d0) (m) cf) := by
  refine zM.ofT2 (by decide +kernel) [some (2, 38), some (0, 4)] rfl (Nat.le_of_ble_eq_true rfl) ?_
  refine zt_rg (fun hm => ?_)
  refine zt_iload_n dX11_steps_0 rfl ?_
  refine zt_sipush dX11_steps_1 (by decide) ?_
  refine zt_icmp_lt (tgt := 19) dX11_steps_4 (by decide) (by decide) (by decide) (fun c_4 => ?_) (fun q => absurd q (by decide))
  refine zt_iload_n dX11_steps_19 rfl ?_
  refine zt_sipush dX11_steps_20 (by decide) ?_
  refine zt_icmp_lt (tgt := 51) dX11_steps_23 (by decide) (by decide) (by decide) (fun c_23 => ?_) (fun q => absurd q (by decide))
  refine zt_iload_n dX11_steps_51 rfl ?_
  refine zt_bipush dX11_steps_52 (by decide) ?_
  refine zt_icmp_lt (tgt := 81) dX11_steps_54 (by decide) (by decide) (by decide) (fun c_54 => ?_) (fun q => absurd q (by decide))
  refine zt_iload_n dX11_steps_81 rfl ?_
  refine zt_tableIn (off := 82) (tgt := 164) dX11_steps_82 (by decide) (by decide) (by decide) rfl (by decide) ?_
  refine zt_aload_n dX11_steps_164 rfl ?_
  refine zt_bipush dX11_steps_165 (by decide) ?_
  refine zt_iconst dX11_steps_167 ?_
  refine zt_bipush dX11_steps_168 (by decide) ?_
  refine zt_iconst dX11_steps_170 ?_
  refine zt_iconst dX11_steps_171 ?_
  refine zt_iconst dX11_steps_172 ?_
  refine zt_callV6q dX11_steps_173 ml_X11_217 (zs_38 hS) (Nat.le_of_ble_eq_true rfl) (c_moT2 hS hX hs hp hw hmm hk) ?_
  rintro r n1 sh1 g1 ⟨rfl, rfl, rfl, s1⟩
  simp only [Option.toList, List.cons_append, List.nil_append]
  exact zt_zret dX11_steps_176 (by decide) ⟨rfl, rfl, rfl, s1⟩

set_option maxRecDepth 100000 in
set_option maxHeartbeats 4000000 in
theorem c_s4_0 {d n : Nat} {sh : zSh} {h : zMem} {h0 : zMem} {p d0 m : Int} {w : List Int} {cf : Int → Int × Int} (hS : zShp sh) (hX : mTg h0) (hs : mS h0 h p w d0 m cf) (hp : 0 ≤ p ∧ p ≤ h0 (-2001) 1) (hw : w.length ≤ 700) (hmm : 0 ≤ m ∧ m ≤ 200) (hk : kK (h0 (-2002)) (h0 (-2001) 1) p ≠ 42 ∧ kK (h0 (-2002)) (h0 (-2001) 1) p ≠ 47) : zM yX11_steps cX11_steps 2 (some .boolean) (d + 8) 0 0 [(2, 38), (0, 4)] n sh h (fun r n1 sh1 h1 => r = some (0, 1) ∧ n1 = n ∧ sh1 = sh ∧ mS h0 h1 (p) (w) (d0) (m) cf) := by
  refine zM.ofT2 (by decide +kernel) [some (2, 38), some (0, 4)] rfl (Nat.le_of_ble_eq_true rfl) ?_
  refine zt_rg (fun hm => ?_)
  refine zt_iload_n dX11_steps_0 rfl ?_
  refine zt_sipush dX11_steps_1 (by decide) ?_
  refine zt_icmp_lt (tgt := 19) dX11_steps_4 (by decide) (by decide) (by decide) (fun c_4 => ?_) (fun q => absurd q (by decide))
  refine zt_iload_n dX11_steps_19 rfl ?_
  refine zt_sipush dX11_steps_20 (by decide) ?_
  refine zt_icmp_lt (tgt := 51) dX11_steps_23 (by decide) (by decide) (by decide) (fun c_23 => ?_) (fun q => absurd q (by decide))
  refine zt_iload_n dX11_steps_51 rfl ?_
  refine zt_bipush dX11_steps_52 (by decide) ?_
  refine zt_icmp_lt (tgt := 81) dX11_steps_54 (by decide) (by decide) (by decide) (fun c_54 => ?_) (fun q => absurd q (by decide))
  refine zt_iload_n dX11_steps_81 rfl ?_
  refine zt_tableIn (off := 82) (tgt := 164) dX11_steps_82 (by decide) (by decide) (by decide) rfl (by decide) ?_
  refine zt_aload_n dX11_steps_164 rfl ?_
  refine zt_bipush dX11_steps_165 (by decide) ?_
  refine zt_iconst dX11_steps_167 ?_
  refine zt_bipush dX11_steps_168 (by decide) ?_
  refine zt_iconst dX11_steps_170 ?_
  refine zt_iconst dX11_steps_171 ?_
  refine zt_iconst dX11_steps_172 ?_
  refine zt_callV6q dX11_steps_173 ml_X11_217 (zs_38 hS) (Nat.le_of_ble_eq_true rfl) (c_moT0 hS hX hs hp hw hmm hk) ?_
  rintro r n1 sh1 g1 ⟨rfl, rfl, rfl, s1⟩
  simp only [Option.toList, List.cons_append, List.nil_append]
  exact zt_zret dX11_steps_176 (by decide) ⟨rfl, rfl, rfl, s1⟩

set_option maxRecDepth 100000 in
set_option maxHeartbeats 4000000 in
theorem c_s5N {d n : Nat} {sh : zSh} {h : zMem} {h0 : zMem} {p d0 m : Int} {w : List Int} {cf : Int → Int × Int} (hS : zShp sh) (hX : mTg h0) (hs : mS h0 h p w d0 m cf) (hp : 0 ≤ p ∧ p ≤ h0 (-2001) 1) (hw : w.length ≤ 700) (hmm : 0 ≤ m ∧ m ≤ 200) (hk : kK (h0 (-2002)) (h0 (-2001) 1) p = 2) (hm2 : m < 200) : zM yX11_steps cX11_steps 2 (some .boolean) (d + 8) 0 0 [(2, 38), (0, 5)] n sh h (fun r n1 sh1 h1 => r = some (0, 1) ∧ n1 = n ∧ sh1 = sh ∧ mS h0 h1 (kE (h0 (-2002)) (h0 (-2001) 1) p) (w) (d0) (m + 1) (fun j => if j < m then cf j else (0, kN (h0 (-2002)) (h0 (-2001) 1) p))) := by
  refine zM.ofT2 (by decide +kernel) [some (2, 38), some (0, 5)] rfl (Nat.le_of_ble_eq_true rfl) ?_
  refine zt_rg (fun hm => ?_)
  refine zt_iload_n dX11_steps_0 rfl ?_
  refine zt_sipush dX11_steps_1 (by decide) ?_
  refine zt_icmp_lt (tgt := 19) dX11_steps_4 (by decide) (by decide) (by decide) (fun c_4 => ?_) (fun q => absurd q (by decide))
  refine zt_iload_n dX11_steps_19 rfl ?_
  refine zt_sipush dX11_steps_20 (by decide) ?_
  refine zt_icmp_lt (tgt := 51) dX11_steps_23 (by decide) (by decide) (by decide) (fun c_23 => ?_) (fun q => absurd q (by decide))
  refine zt_iload_n dX11_steps_51 rfl ?_
  refine zt_bipush dX11_steps_52 (by decide) ?_
  refine zt_icmp_lt (tgt := 81) dX11_steps_54 (by decide) (by decide) (by decide) (fun c_54 => ?_) (fun q => absurd q (by decide))
  refine zt_iload_n dX11_steps_81 rfl ?_
  refine zt_tableIn (off := 95) (tgt := 177) dX11_steps_82 (by decide) (by decide) (by decide) rfl (by decide) ?_
  refine zt_aload_n dX11_steps_177 rfl ?_
  refine zt_callV0q dX11_steps_178 ml_X11_221 (zs_38 hS) (Nat.le_of_ble_eq_true rfl) (c_fN hS hX hs hp hw hmm hk hm2) ?_
  rintro r n1 sh1 g1 ⟨rfl, rfl, rfl, s1⟩
  simp only [Option.toList, List.cons_append, List.nil_append]
  exact zt_zret dX11_steps_181 (by decide) ⟨rfl, rfl, rfl, s1⟩

set_option maxRecDepth 100000 in
set_option maxHeartbeats 4000000 in
theorem c_s5X {d n : Nat} {sh : zSh} {h : zMem} {h0 : zMem} {p d0 m : Int} {w : List Int} {cf : Int → Int × Int} (hS : zShp sh) (hX : mTg h0) (hs : mS h0 h p w d0 m cf) (hp : 0 ≤ p ∧ p ≤ h0 (-2001) 1) (hw : w.length ≤ 700) (hmm : 0 ≤ m ∧ m ≤ 200) (hk : kK (h0 (-2002)) (h0 (-2001) 1) p = 3) (hm2 : m < 200) : zM yX11_steps cX11_steps 2 (some .boolean) (d + 8) 0 0 [(2, 38), (0, 5)] n sh h (fun r n1 sh1 h1 => r = some (0, 1) ∧ n1 = n ∧ sh1 = sh ∧ mS h0 h1 (kE (h0 (-2002)) (h0 (-2001) 1) p) (w) (d0) (m + 1) (fun j => if j < m then cf j else (1, 0))) := by
  refine zM.ofT2 (by decide +kernel) [some (2, 38), some (0, 5)] rfl (Nat.le_of_ble_eq_true rfl) ?_
  refine zt_rg (fun hm => ?_)
  refine zt_iload_n dX11_steps_0 rfl ?_
  refine zt_sipush dX11_steps_1 (by decide) ?_
  refine zt_icmp_lt (tgt := 19) dX11_steps_4 (by decide) (by decide) (by decide) (fun c_4 => ?_) (fun q => absurd q (by decide))
  refine zt_iload_n dX11_steps_19 rfl ?_
  refine zt_sipush dX11_steps_20 (by decide) ?_
  refine zt_icmp_lt (tgt := 51) dX11_steps_23 (by decide) (by decide) (by decide) (fun c_23 => ?_) (fun q => absurd q (by decide))
  refine zt_iload_n dX11_steps_51 rfl ?_
  refine zt_bipush dX11_steps_52 (by decide) ?_
  refine zt_icmp_lt (tgt := 81) dX11_steps_54 (by decide) (by decide) (by decide) (fun c_54 => ?_) (fun q => absurd q (by decide))
  refine zt_iload_n dX11_steps_81 rfl ?_
  refine zt_tableIn (off := 95) (tgt := 177) dX11_steps_82 (by decide) (by decide) (by decide) rfl (by decide) ?_
  refine zt_aload_n dX11_steps_177 rfl ?_
  refine zt_callV0q dX11_steps_178 ml_X11_221 (zs_38 hS) (Nat.le_of_ble_eq_true rfl) (c_fX hS hX hs hp hw hmm hk hm2) ?_
  rintro r n1 sh1 g1 ⟨rfl, rfl, rfl, s1⟩
  simp only [Option.toList, List.cons_append, List.nil_append]
  exact zt_zret dX11_steps_181 (by decide) ⟨rfl, rfl, rfl, s1⟩

set_option maxRecDepth 100000 in
set_option maxHeartbeats 4000000 in
theorem c_s5_40 {d n : Nat} {sh : zSh} {h : zMem} {h0 : zMem} {p d0 m : Int} {w : List Int} {cf : Int → Int × Int} (hS : zShp sh) (hX : mTg h0) (hs : mS h0 h p w d0 m cf) (hp : 0 ≤ p ∧ p ≤ h0 (-2001) 1) (hw : w.length ≤ 700) (hmm : 0 ≤ m ∧ m ≤ 200) (hk : kK (h0 (-2002)) (h0 (-2001) 1) p = 40) (hd : 0 ≤ d0 ∧ d0 < 10) : zM yX11_steps cX11_steps 2 (some .boolean) (d + 8) 0 0 [(2, 38), (0, 5)] n sh h (fun r n1 sh1 h1 => r = some (0, 1) ∧ n1 = n ∧ sh1 = sh ∧ mS h0 h1 (kE (h0 (-2002)) (h0 (-2001) 1) p) (1 :: 141 :: 6 :: w) (d0 + 1) (m) cf) := by
  refine zM.ofT2 (by decide +kernel) [some (2, 38), some (0, 5)] rfl (Nat.le_of_ble_eq_true rfl) ?_
  refine zt_rg (fun hm => ?_)
  refine zt_iload_n dX11_steps_0 rfl ?_
  refine zt_sipush dX11_steps_1 (by decide) ?_
  refine zt_icmp_lt (tgt := 19) dX11_steps_4 (by decide) (by decide) (by decide) (fun c_4 => ?_) (fun q => absurd q (by decide))
  refine zt_iload_n dX11_steps_19 rfl ?_
  refine zt_sipush dX11_steps_20 (by decide) ?_
  refine zt_icmp_lt (tgt := 51) dX11_steps_23 (by decide) (by decide) (by decide) (fun c_23 => ?_) (fun q => absurd q (by decide))
  refine zt_iload_n dX11_steps_51 rfl ?_
  refine zt_bipush dX11_steps_52 (by decide) ?_
  refine zt_icmp_lt (tgt := 81) dX11_steps_54 (by decide) (by decide) (by decide) (fun c_54 => ?_) (fun q => absurd q (by decide))
  refine zt_iload_n dX11_steps_81 rfl ?_
  refine zt_tableIn (off := 95) (tgt := 177) dX11_steps_82 (by decide) (by decide) (by decide) rfl (by decide) ?_
  refine zt_aload_n dX11_steps_177 rfl ?_
  refine zt_callV0q dX11_steps_178 ml_X11_221 (zs_38 hS) (Nat.le_of_ble_eq_true rfl) (c_f40 hS hX hs hp hw hmm hk hd) ?_
  rintro r n1 sh1 g1 ⟨rfl, rfl, rfl, s1⟩
  simp only [Option.toList, List.cons_append, List.nil_append]
  exact zt_zret dX11_steps_181 (by decide) ⟨rfl, rfl, rfl, s1⟩

set_option maxRecDepth 100000 in
set_option maxHeartbeats 4000000 in
theorem c_s5_45 {d n : Nat} {sh : zSh} {h : zMem} {h0 : zMem} {p d0 m : Int} {w : List Int} {cf : Int → Int × Int} (hS : zShp sh) (hX : mTg h0) (hs : mS h0 h p w d0 m cf) (hp : 0 ≤ p ∧ p ≤ h0 (-2001) 1) (hw : w.length ≤ 700) (hmm : 0 ≤ m ∧ m ≤ 200) (hk : kK (h0 (-2002)) (h0 (-2001) 1) p = 45) (hd : 0 ≤ d0 ∧ d0 < 10) : zM yX11_steps cX11_steps 2 (some .boolean) (d + 8) 0 0 [(2, 38), (0, 5)] n sh h (fun r n1 sh1 h1 => r = some (0, 1) ∧ n1 = n ∧ sh1 = sh ∧ mS h0 h1 (kE (h0 (-2002)) (h0 (-2001) 1) p) (5 :: 1006 :: 6 :: w) (d0 + 1) (m) cf) := by
  refine zM.ofT2 (by decide +kernel) [some (2, 38), some (0, 5)] rfl (Nat.le_of_ble_eq_true rfl) ?_
  refine zt_rg (fun hm => ?_)
  refine zt_iload_n dX11_steps_0 rfl ?_
  refine zt_sipush dX11_steps_1 (by decide) ?_
  refine zt_icmp_lt (tgt := 19) dX11_steps_4 (by decide) (by decide) (by decide) (fun c_4 => ?_) (fun q => absurd q (by decide))
  refine zt_iload_n dX11_steps_19 rfl ?_
  refine zt_sipush dX11_steps_20 (by decide) ?_
  refine zt_icmp_lt (tgt := 51) dX11_steps_23 (by decide) (by decide) (by decide) (fun c_23 => ?_) (fun q => absurd q (by decide))
  refine zt_iload_n dX11_steps_51 rfl ?_
  refine zt_bipush dX11_steps_52 (by decide) ?_
  refine zt_icmp_lt (tgt := 81) dX11_steps_54 (by decide) (by decide) (by decide) (fun c_54 => ?_) (fun q => absurd q (by decide))
  refine zt_iload_n dX11_steps_81 rfl ?_
  refine zt_tableIn (off := 95) (tgt := 177) dX11_steps_82 (by decide) (by decide) (by decide) rfl (by decide) ?_
  refine zt_aload_n dX11_steps_177 rfl ?_
  refine zt_callV0q dX11_steps_178 ml_X11_221 (zs_38 hS) (Nat.le_of_ble_eq_true rfl) (c_f45 hS hX hs hp hw hmm hk hd) ?_
  rintro r n1 sh1 g1 ⟨rfl, rfl, rfl, s1⟩
  simp only [Option.toList, List.cons_append, List.nil_append]
  exact zt_zret dX11_steps_181 (by decide) ⟨rfl, rfl, rfl, s1⟩

set_option maxRecDepth 100000 in
set_option maxHeartbeats 4000000 in
theorem c_s5_4 {d n : Nat} {sh : zSh} {h : zMem} {h0 : zMem} {p d0 m : Int} {w : List Int} {cf : Int → Int × Int} (hS : zShp sh) (hX : mTg h0) (hs : mS h0 h p w d0 m cf) (hp : 0 ≤ p ∧ p ≤ h0 (-2001) 1) (hw : w.length ≤ 700) (hmm : 0 ≤ m ∧ m ≤ 200) (hk : kK (h0 (-2002)) (h0 (-2001) 1) p = 4) (hd : 0 ≤ d0 ∧ d0 < 10) : zM yX11_steps cX11_steps 2 (some .boolean) (d + 8) 0 0 [(2, 38), (0, 5)] n sh h (fun r n1 sh1 h1 => r = some (0, 1) ∧ n1 = n ∧ sh1 = sh ∧ mS h0 h1 (kE (h0 (-2002)) (h0 (-2001) 1) p) (5 :: 1007 :: 6 :: w) (d0 + 1) (m) cf) := by
  refine zM.ofT2 (by decide +kernel) [some (2, 38), some (0, 5)] rfl (Nat.le_of_ble_eq_true rfl) ?_
  refine zt_rg (fun hm => ?_)
  refine zt_iload_n dX11_steps_0 rfl ?_
  refine zt_sipush dX11_steps_1 (by decide) ?_
  refine zt_icmp_lt (tgt := 19) dX11_steps_4 (by decide) (by decide) (by decide) (fun c_4 => ?_) (fun q => absurd q (by decide))
  refine zt_iload_n dX11_steps_19 rfl ?_
  refine zt_sipush dX11_steps_20 (by decide) ?_
  refine zt_icmp_lt (tgt := 51) dX11_steps_23 (by decide) (by decide) (by decide) (fun c_23 => ?_) (fun q => absurd q (by decide))
  refine zt_iload_n dX11_steps_51 rfl ?_
  refine zt_bipush dX11_steps_52 (by decide) ?_
  refine zt_icmp_lt (tgt := 81) dX11_steps_54 (by decide) (by decide) (by decide) (fun c_54 => ?_) (fun q => absurd q (by decide))
  refine zt_iload_n dX11_steps_81 rfl ?_
  refine zt_tableIn (off := 95) (tgt := 177) dX11_steps_82 (by decide) (by decide) (by decide) rfl (by decide) ?_
  refine zt_aload_n dX11_steps_177 rfl ?_
  refine zt_callV0q dX11_steps_178 ml_X11_221 (zs_38 hS) (Nat.le_of_ble_eq_true rfl) (c_f4 hS hX hs hp hw hmm hk hd) ?_
  rintro r n1 sh1 g1 ⟨rfl, rfl, rfl, s1⟩
  simp only [Option.toList, List.cons_append, List.nil_append]
  exact zt_zret dX11_steps_181 (by decide) ⟨rfl, rfl, rfl, s1⟩

set_option maxRecDepth 100000 in
set_option maxHeartbeats 4000000 in
theorem c_s5_5 {d n : Nat} {sh : zSh} {h : zMem} {h0 : zMem} {p d0 m : Int} {w : List Int} {cf : Int → Int × Int} (hS : zShp sh) (hX : mTg h0) (hs : mS h0 h p w d0 m cf) (hp : 0 ≤ p ∧ p ≤ h0 (-2001) 1) (hw : w.length ≤ 700) (hmm : 0 ≤ m ∧ m ≤ 200) (hk : kK (h0 (-2002)) (h0 (-2001) 1) p = 5) (hd : 0 ≤ d0 ∧ d0 < 10) : zM yX11_steps cX11_steps 2 (some .boolean) (d + 8) 0 0 [(2, 38), (0, 5)] n sh h (fun r n1 sh1 h1 => r = some (0, 1) ∧ n1 = n ∧ sh1 = sh ∧ mS h0 h1 (kE (h0 (-2002)) (h0 (-2001) 1) p) (5 :: 1008 :: 6 :: w) (d0 + 1) (m) cf) := by
  refine zM.ofT2 (by decide +kernel) [some (2, 38), some (0, 5)] rfl (Nat.le_of_ble_eq_true rfl) ?_
  refine zt_rg (fun hm => ?_)
  refine zt_iload_n dX11_steps_0 rfl ?_
  refine zt_sipush dX11_steps_1 (by decide) ?_
  refine zt_icmp_lt (tgt := 19) dX11_steps_4 (by decide) (by decide) (by decide) (fun c_4 => ?_) (fun q => absurd q (by decide))
  refine zt_iload_n dX11_steps_19 rfl ?_
  refine zt_sipush dX11_steps_20 (by decide) ?_
  refine zt_icmp_lt (tgt := 51) dX11_steps_23 (by decide) (by decide) (by decide) (fun c_23 => ?_) (fun q => absurd q (by decide))
  refine zt_iload_n dX11_steps_51 rfl ?_
  refine zt_bipush dX11_steps_52 (by decide) ?_
  refine zt_icmp_lt (tgt := 81) dX11_steps_54 (by decide) (by decide) (by decide) (fun c_54 => ?_) (fun q => absurd q (by decide))
  refine zt_iload_n dX11_steps_81 rfl ?_
  refine zt_tableIn (off := 95) (tgt := 177) dX11_steps_82 (by decide) (by decide) (by decide) rfl (by decide) ?_
  refine zt_aload_n dX11_steps_177 rfl ?_
  refine zt_callV0q dX11_steps_178 ml_X11_221 (zs_38 hS) (Nat.le_of_ble_eq_true rfl) (c_f5 hS hX hs hp hw hmm hk hd) ?_
  rintro r n1 sh1 g1 ⟨rfl, rfl, rfl, s1⟩
  simp only [Option.toList, List.cons_append, List.nil_append]
  exact zt_zret dX11_steps_181 (by decide) ⟨rfl, rfl, rfl, s1⟩

set_option maxRecDepth 100000 in
set_option maxHeartbeats 4000000 in
theorem c_s5_8 {d n : Nat} {sh : zSh} {h : zMem} {h0 : zMem} {p d0 m : Int} {w : List Int} {cf : Int → Int × Int} (hS : zShp sh) (hX : mTg h0) (hs : mS h0 h p w d0 m cf) (hp : 0 ≤ p ∧ p ≤ h0 (-2001) 1) (hw : w.length ≤ 700) (hmm : 0 ≤ m ∧ m ≤ 200) (hk : kK (h0 (-2002)) (h0 (-2001) 1) p = 8) (hd : 0 ≤ d0 ∧ d0 < 10) : zM yX11_steps cX11_steps 2 (some .boolean) (d + 8) 0 0 [(2, 38), (0, 5)] n sh h (fun r n1 sh1 h1 => r = some (0, 1) ∧ n1 = n ∧ sh1 = sh ∧ mS h0 h1 (kE (h0 (-2002)) (h0 (-2001) 1) p) (1 :: 7 :: 6 :: w) (d0 + 1) (m) cf) := by
  refine zM.ofT2 (by decide +kernel) [some (2, 38), some (0, 5)] rfl (Nat.le_of_ble_eq_true rfl) ?_
  refine zt_rg (fun hm => ?_)
  refine zt_iload_n dX11_steps_0 rfl ?_
  refine zt_sipush dX11_steps_1 (by decide) ?_
  refine zt_icmp_lt (tgt := 19) dX11_steps_4 (by decide) (by decide) (by decide) (fun c_4 => ?_) (fun q => absurd q (by decide))
  refine zt_iload_n dX11_steps_19 rfl ?_
  refine zt_sipush dX11_steps_20 (by decide) ?_
  refine zt_icmp_lt (tgt := 51) dX11_steps_23 (by decide) (by decide) (by decide) (fun c_23 => ?_) (fun q => absurd q (by decide))
  refine zt_iload_n dX11_steps_51 rfl ?_
  refine zt_bipush dX11_steps_52 (by decide) ?_
  refine zt_icmp_lt (tgt := 81) dX11_steps_54 (by decide) (by decide) (by decide) (fun c_54 => ?_) (fun q => absurd q (by decide))
  refine zt_iload_n dX11_steps_81 rfl ?_
  refine zt_tableIn (off := 95) (tgt := 177) dX11_steps_82 (by decide) (by decide) (by decide) rfl (by decide) ?_
  refine zt_aload_n dX11_steps_177 rfl ?_
  refine zt_callV0q dX11_steps_178 ml_X11_221 (zs_38 hS) (Nat.le_of_ble_eq_true rfl) (c_f8 hS hX hs hp hw hmm hk hd) ?_
  rintro r n1 sh1 g1 ⟨rfl, rfl, rfl, s1⟩
  simp only [Option.toList, List.cons_append, List.nil_append]
  exact zt_zret dX11_steps_181 (by decide) ⟨rfl, rfl, rfl, s1⟩

set_option maxRecDepth 100000 in
set_option maxHeartbeats 4000000 in
theorem c_s5_6 {d n : Nat} {sh : zSh} {h : zMem} {h0 : zMem} {p d0 m : Int} {w : List Int} {cf : Int → Int × Int} (hS : zShp sh) (hX : mTg h0) (hs : mS h0 h p w d0 m cf) (hp : 0 ≤ p ∧ p ≤ h0 (-2001) 1) (hw : w.length ≤ 700) (hmm : 0 ≤ m ∧ m ≤ 200) (hk : kK (h0 (-2002)) (h0 (-2001) 1) p = 6) (hd : 0 ≤ d0 ∧ d0 < 10) : zM yX11_steps cX11_steps 2 (some .boolean) (d + 8) 0 0 [(2, 38), (0, 5)] n sh h (fun r n1 sh1 h1 => r = some (0, 1) ∧ n1 = n ∧ sh1 = sh ∧ mS h0 h1 (kE (h0 (-2002)) (h0 (-2001) 1) p) (140 :: 1 :: 144 :: 1 :: 141 :: 1009 :: 6 :: w) (d0 + 1) (m) cf) := by
  refine zM.ofT2 (by decide +kernel) [some (2, 38), some (0, 5)] rfl (Nat.le_of_ble_eq_true rfl) ?_
  refine zt_rg (fun hm => ?_)
  refine zt_iload_n dX11_steps_0 rfl ?_
  refine zt_sipush dX11_steps_1 (by decide) ?_
  refine zt_icmp_lt (tgt := 19) dX11_steps_4 (by decide) (by decide) (by decide) (fun c_4 => ?_) (fun q => absurd q (by decide))
  refine zt_iload_n dX11_steps_19 rfl ?_
  refine zt_sipush dX11_steps_20 (by decide) ?_
  refine zt_icmp_lt (tgt := 51) dX11_steps_23 (by decide) (by decide) (by decide) (fun c_23 => ?_) (fun q => absurd q (by decide))
  refine zt_iload_n dX11_steps_51 rfl ?_
  refine zt_bipush dX11_steps_52 (by decide) ?_
  refine zt_icmp_lt (tgt := 81) dX11_steps_54 (by decide) (by decide) (by decide) (fun c_54 => ?_) (fun q => absurd q (by decide))
  refine zt_iload_n dX11_steps_81 rfl ?_
  refine zt_tableIn (off := 95) (tgt := 177) dX11_steps_82 (by decide) (by decide) (by decide) rfl (by decide) ?_
  refine zt_aload_n dX11_steps_177 rfl ?_
  refine zt_callV0q dX11_steps_178 ml_X11_221 (zs_38 hS) (Nat.le_of_ble_eq_true rfl) (c_f6 hS hX hs hp hw hmm hk hd) ?_
  rintro r n1 sh1 g1 ⟨rfl, rfl, rfl, s1⟩
  simp only [Option.toList, List.cons_append, List.nil_append]
  exact zt_zret dX11_steps_181 (by decide) ⟨rfl, rfl, rfl, s1⟩

set_option maxRecDepth 100000 in
set_option maxHeartbeats 4000000 in
theorem c_s5_7 {d n : Nat} {sh : zSh} {h : zMem} {h0 : zMem} {p d0 m : Int} {w : List Int} {cf : Int → Int × Int} (hS : zShp sh) (hX : mTg h0) (hs : mS h0 h p w d0 m cf) (hp : 0 ≤ p ∧ p ≤ h0 (-2001) 1) (hw : w.length ≤ 700) (hmm : 0 ≤ m ∧ m ≤ 200) (hk : kK (h0 (-2002)) (h0 (-2001) 1) p = 7) (hd : 0 ≤ d0 ∧ d0 < 10) : zM yX11_steps cX11_steps 2 (some .boolean) (d + 8) 0 0 [(2, 38), (0, 5)] n sh h (fun r n1 sh1 h1 => r = some (0, 1) ∧ n1 = n ∧ sh1 = sh ∧ mS h0 h1 (kE (h0 (-2002)) (h0 (-2001) 1) p) (140 :: 1 :: 144 :: 1 :: 141 :: 1010 :: 6 :: w) (d0 + 1) (m) cf) := by
  refine zM.ofT2 (by decide +kernel) [some (2, 38), some (0, 5)] rfl (Nat.le_of_ble_eq_true rfl) ?_
  refine zt_rg (fun hm => ?_)
  refine zt_iload_n dX11_steps_0 rfl ?_
  refine zt_sipush dX11_steps_1 (by decide) ?_
  refine zt_icmp_lt (tgt := 19) dX11_steps_4 (by decide) (by decide) (by decide) (fun c_4 => ?_) (fun q => absurd q (by decide))
  refine zt_iload_n dX11_steps_19 rfl ?_
  refine zt_sipush dX11_steps_20 (by decide) ?_
  refine zt_icmp_lt (tgt := 51) dX11_steps_23 (by decide) (by decide) (by decide) (fun c_23 => ?_) (fun q => absurd q (by decide))
  refine zt_iload_n dX11_steps_51 rfl ?_
  refine zt_bipush dX11_steps_52 (by decide) ?_
  refine zt_icmp_lt (tgt := 81) dX11_steps_54 (by decide) (by decide) (by decide) (fun c_54 => ?_) (fun q => absurd q (by decide))
  refine zt_iload_n dX11_steps_81 rfl ?_
  refine zt_tableIn (off := 95) (tgt := 177) dX11_steps_82 (by decide) (by decide) (by decide) rfl (by decide) ?_
  refine zt_aload_n dX11_steps_177 rfl ?_
  refine zt_callV0q dX11_steps_178 ml_X11_221 (zs_38 hS) (Nat.le_of_ble_eq_true rfl) (c_f7 hS hX hs hp hw hmm hk hd) ?_
  rintro r n1 sh1 g1 ⟨rfl, rfl, rfl, s1⟩
  simp only [Option.toList, List.cons_append, List.nil_append]
  exact zt_zret dX11_steps_181 (by decide) ⟨rfl, rfl, rfl, s1⟩

set_option maxRecDepth 100000 in
set_option maxHeartbeats 4000000 in
theorem c_s5g40 {d n : Nat} {sh : zSh} {h : zMem} {h0 : zMem} {p d0 m : Int} {w : List Int} {cf : Int → Int × Int} (hS : zShp sh) (hX : mTg h0) (hs : mS h0 h p w d0 m cf) (hp : 0 ≤ p ∧ p ≤ h0 (-2001) 1) (hw : w.length ≤ 700) (hmm : 0 ≤ m ∧ m ≤ 200) (hk : kK (h0 (-2002)) (h0 (-2001) 1) p = 40) (hd : d0 = 10) : zM yX11_steps cX11_steps 2 (some .boolean) (d + 8) 0 0 [(2, 38), (0, 5)] n sh h (fun r n1 sh1 h1 => r = some (0, 0) ∧ n1 = n ∧ sh1 = sh ∧ h1 = h) := by
  refine zM.ofT2 (by decide +kernel) [some (2, 38), some (0, 5)] rfl (Nat.le_of_ble_eq_true rfl) ?_
  refine zt_rg (fun hm => ?_)
  refine zt_iload_n dX11_steps_0 rfl ?_
  refine zt_sipush dX11_steps_1 (by decide) ?_
  refine zt_icmp_lt (tgt := 19) dX11_steps_4 (by decide) (by decide) (by decide) (fun c_4 => ?_) (fun q => absurd q (by decide))
  refine zt_iload_n dX11_steps_19 rfl ?_
  refine zt_sipush dX11_steps_20 (by decide) ?_
  refine zt_icmp_lt (tgt := 51) dX11_steps_23 (by decide) (by decide) (by decide) (fun c_23 => ?_) (fun q => absurd q (by decide))
  refine zt_iload_n dX11_steps_51 rfl ?_
  refine zt_bipush dX11_steps_52 (by decide) ?_
  refine zt_icmp_lt (tgt := 81) dX11_steps_54 (by decide) (by decide) (by decide) (fun c_54 => ?_) (fun q => absurd q (by decide))
  refine zt_iload_n dX11_steps_81 rfl ?_
  refine zt_tableIn (off := 95) (tgt := 177) dX11_steps_82 (by decide) (by decide) (by decide) rfl (by decide) ?_
  refine zt_aload_n dX11_steps_177 rfl ?_
  refine zt_callV0q dX11_steps_178 ml_X11_221 (zs_38 hS) (Nat.le_of_ble_eq_true rfl) (c_g40 hS hX hs hp hw hmm hk hd) ?_
  rintro r n1 sh1 h1 ⟨rfl, rfl, rfl, rfl⟩
  simp only [Option.toList, List.cons_append, List.nil_append]
  exact zt_zret dX11_steps_181 (by decide) ⟨rfl, rfl, rfl, rfl⟩

set_option maxRecDepth 100000 in
set_option maxHeartbeats 4000000 in
theorem c_s5g45 {d n : Nat} {sh : zSh} {h : zMem} {h0 : zMem} {p d0 m : Int} {w : List Int} {cf : Int → Int × Int} (hS : zShp sh) (hX : mTg h0) (hs : mS h0 h p w d0 m cf) (hp : 0 ≤ p ∧ p ≤ h0 (-2001) 1) (hw : w.length ≤ 700) (hmm : 0 ≤ m ∧ m ≤ 200) (hk : kK (h0 (-2002)) (h0 (-2001) 1) p = 45) (hd : d0 = 10) : zM yX11_steps cX11_steps 2 (some .boolean) (d + 8) 0 0 [(2, 38), (0, 5)] n sh h (fun r n1 sh1 h1 => r = some (0, 0) ∧ n1 = n ∧ sh1 = sh ∧ h1 = h) := by
  refine zM.ofT2 (by decide +kernel) [some (2, 38), some (0, 5)] rfl (Nat.le_of_ble_eq_true rfl) ?_
  refine zt_rg (fun hm => ?_)
  refine zt_iload_n dX11_steps_0 rfl ?_
  refine zt_sipush dX11_steps_1 (by decide) ?_
  refine zt_icmp_lt (tgt := 19) dX11_steps_4 (by decide) (by decide) (by decide) (fun c_4 => ?_) (fun q => absurd q (by decide))
  refine zt_iload_n dX11_steps_19 rfl ?_
  refine zt_sipush dX11_steps_20 (by decide) ?_
  refine zt_icmp_lt (tgt := 51) dX11_steps_23 (by decide) (by decide) (by decide) (fun c_23 => ?_) (fun q => absurd q (by decide))
  refine zt_iload_n dX11_steps_51 rfl ?_
  refine zt_bipush dX11_steps_52 (by decide) ?_
  refine zt_icmp_lt (tgt := 81) dX11_steps_54 (by decide) (by decide) (by decide) (fun c_54 => ?_) (fun q => absurd q (by decide))
  refine zt_iload_n dX11_steps_81 rfl ?_
  refine zt_tableIn (off := 95) (tgt := 177) dX11_steps_82 (by decide) (by decide) (by decide) rfl (by decide) ?_
  refine zt_aload_n dX11_steps_177 rfl ?_
  refine zt_callV0q dX11_steps_178 ml_X11_221 (zs_38 hS) (Nat.le_of_ble_eq_true rfl) (c_g45 hS hX hs hp hw hmm hk hd) ?_
  rintro r n1 sh1 h1 ⟨rfl, rfl, rfl, rfl⟩
  simp only [Option.toList, List.cons_append, List.nil_append]
  exact zt_zret dX11_steps_181 (by decide) ⟨rfl, rfl, rfl, rfl⟩

set_option maxRecDepth 100000 in
set_option maxHeartbeats 4000000 in
theorem c_s5g4 {d n : Nat} {sh : zSh} {h : zMem} {h0 : zMem} {p d0 m : Int} {w : List Int} {cf : Int → Int × Int} (hS : zShp sh) (hX : mTg h0) (hs : mS h0 h p w d0 m cf) (hp : 0 ≤ p ∧ p ≤ h0 (-2001) 1) (hw : w.length ≤ 700) (hmm : 0 ≤ m ∧ m ≤ 200) (hk : kK (h0 (-2002)) (h0 (-2001) 1) p = 4) (hd : d0 = 10) : zM yX11_steps cX11_steps 2 (some .boolean) (d + 8) 0 0 [(2, 38), (0, 5)] n sh h (fun r n1 sh1 h1 => r = some (0, 0) ∧ n1 = n ∧ sh1 = sh ∧ h1 = h) := by
  refine zM.ofT2 (by decide +kernel) [some (2, 38), some (0, 5)] rfl (Nat.le_of_ble_eq_true rfl) ?_
  refine zt_rg (fun hm => ?_)
  refine zt_iload_n dX11_steps_0 rfl ?_
  refine zt_sipush dX11_steps_1 (by decide) ?_
  refine zt_icmp_lt (tgt := 19) dX11_steps_4 (by decide) (by decide) (by decide) (fun c_4 => ?_) (fun q => absurd q (by decide))
  refine zt_iload_n dX11_steps_19 rfl ?_
  refine zt_sipush dX11_steps_20 (by decide) ?_
  refine zt_icmp_lt (tgt := 51) dX11_steps_23 (by decide) (by decide) (by decide) (fun c_23 => ?_) (fun q => absurd q (by decide))
  refine zt_iload_n dX11_steps_51 rfl ?_
  refine zt_bipush dX11_steps_52 (by decide) ?_
  refine zt_icmp_lt (tgt := 81) dX11_steps_54 (by decide) (by decide) (by decide) (fun c_54 => ?_) (fun q => absurd q (by decide))
  refine zt_iload_n dX11_steps_81 rfl ?_
  refine zt_tableIn (off := 95) (tgt := 177) dX11_steps_82 (by decide) (by decide) (by decide) rfl (by decide) ?_
  refine zt_aload_n dX11_steps_177 rfl ?_
  refine zt_callV0q dX11_steps_178 ml_X11_221 (zs_38 hS) (Nat.le_of_ble_eq_true rfl) (c_g4 hS hX hs hp hw hmm hk hd) ?_
  rintro r n1 sh1 h1 ⟨rfl, rfl, rfl, rfl⟩
  simp only [Option.toList, List.cons_append, List.nil_append]
  exact zt_zret dX11_steps_181 (by decide) ⟨rfl, rfl, rfl, rfl⟩

set_option maxRecDepth 100000 in
set_option maxHeartbeats 4000000 in
theorem c_s5g5 {d n : Nat} {sh : zSh} {h : zMem} {h0 : zMem} {p d0 m : Int} {w : List Int} {cf : Int → Int × Int} (hS : zShp sh) (hX : mTg h0) (hs : mS h0 h p w d0 m cf) (hp : 0 ≤ p ∧ p ≤ h0 (-2001) 1) (hw : w.length ≤ 700) (hmm : 0 ≤ m ∧ m ≤ 200) (hk : kK (h0 (-2002)) (h0 (-2001) 1) p = 5) (hd : d0 = 10) : zM yX11_steps cX11_steps 2 (some .boolean) (d + 8) 0 0 [(2, 38), (0, 5)] n sh h (fun r n1 sh1 h1 => r = some (0, 0) ∧ n1 = n ∧ sh1 = sh ∧ h1 = h) := by
  refine zM.ofT2 (by decide +kernel) [some (2, 38), some (0, 5)] rfl (Nat.le_of_ble_eq_true rfl) ?_
  refine zt_rg (fun hm => ?_)
  refine zt_iload_n dX11_steps_0 rfl ?_
  refine zt_sipush dX11_steps_1 (by decide) ?_
  refine zt_icmp_lt (tgt := 19) dX11_steps_4 (by decide) (by decide) (by decide) (fun c_4 => ?_) (fun q => absurd q (by decide))
  refine zt_iload_n dX11_steps_19 rfl ?_
  refine zt_sipush dX11_steps_20 (by decide) ?_
  refine zt_icmp_lt (tgt := 51) dX11_steps_23 (by decide) (by decide) (by decide) (fun c_23 => ?_) (fun q => absurd q (by decide))
  refine zt_iload_n dX11_steps_51 rfl ?_
  refine zt_bipush dX11_steps_52 (by decide) ?_
  refine zt_icmp_lt (tgt := 81) dX11_steps_54 (by decide) (by decide) (by decide) (fun c_54 => ?_) (fun q => absurd q (by decide))
  refine zt_iload_n dX11_steps_81 rfl ?_
  refine zt_tableIn (off := 95) (tgt := 177) dX11_steps_82 (by decide) (by decide) (by decide) rfl (by decide) ?_
  refine zt_aload_n dX11_steps_177 rfl ?_
  refine zt_callV0q dX11_steps_178 ml_X11_221 (zs_38 hS) (Nat.le_of_ble_eq_true rfl) (c_g5 hS hX hs hp hw hmm hk hd) ?_
  rintro r n1 sh1 h1 ⟨rfl, rfl, rfl, rfl⟩
  simp only [Option.toList, List.cons_append, List.nil_append]
  exact zt_zret dX11_steps_181 (by decide) ⟨rfl, rfl, rfl, rfl⟩

set_option maxRecDepth 100000 in
set_option maxHeartbeats 4000000 in
theorem c_s5g8 {d n : Nat} {sh : zSh} {h : zMem} {h0 : zMem} {p d0 m : Int} {w : List Int} {cf : Int → Int × Int} (hS : zShp sh) (hX : mTg h0) (hs : mS h0 h p w d0 m cf) (hp : 0 ≤ p ∧ p ≤ h0 (-2001) 1) (hw : w.length ≤ 700) (hmm : 0 ≤ m ∧ m ≤ 200) (hk : kK (h0 (-2002)) (h0 (-2001) 1) p = 8) (hd : d0 = 10) : zM yX11_steps cX11_steps 2 (some .boolean) (d + 8) 0 0 [(2, 38), (0, 5)] n sh h (fun r n1 sh1 h1 => r = some (0, 0) ∧ n1 = n ∧ sh1 = sh ∧ h1 = h) := by
  refine zM.ofT2 (by decide +kernel) [some (2, 38), some (0, 5)] rfl (Nat.le_of_ble_eq_true rfl) ?_
  refine zt_rg (fun hm => ?_)
  refine zt_iload_n dX11_steps_0 rfl ?_
  refine zt_sipush dX11_steps_1 (by decide) ?_
  refine zt_icmp_lt (tgt := 19) dX11_steps_4 (by decide) (by decide) (by decide) (fun c_4 => ?_) (fun q => absurd q (by decide))
  refine zt_iload_n dX11_steps_19 rfl ?_
  refine zt_sipush dX11_steps_20 (by decide) ?_
  refine zt_icmp_lt (tgt := 51) dX11_steps_23 (by decide) (by decide) (by decide) (fun c_23 => ?_) (fun q => absurd q (by decide))
  refine zt_iload_n dX11_steps_51 rfl ?_
  refine zt_bipush dX11_steps_52 (by decide) ?_
  refine zt_icmp_lt (tgt := 81) dX11_steps_54 (by decide) (by decide) (by decide) (fun c_54 => ?_) (fun q => absurd q (by decide))
  refine zt_iload_n dX11_steps_81 rfl ?_
  refine zt_tableIn (off := 95) (tgt := 177) dX11_steps_82 (by decide) (by decide) (by decide) rfl (by decide) ?_
  refine zt_aload_n dX11_steps_177 rfl ?_
  refine zt_callV0q dX11_steps_178 ml_X11_221 (zs_38 hS) (Nat.le_of_ble_eq_true rfl) (c_g8 hS hX hs hp hw hmm hk hd) ?_
  rintro r n1 sh1 h1 ⟨rfl, rfl, rfl, rfl⟩
  simp only [Option.toList, List.cons_append, List.nil_append]
  exact zt_zret dX11_steps_181 (by decide) ⟨rfl, rfl, rfl, rfl⟩

set_option maxRecDepth 100000 in
set_option maxHeartbeats 4000000 in
theorem c_s5g6 {d n : Nat} {sh : zSh} {h : zMem} {h0 : zMem} {p d0 m : Int} {w : List Int} {cf : Int → Int × Int} (hS : zShp sh) (hX : mTg h0) (hs : mS h0 h p w d0 m cf) (hp : 0 ≤ p ∧ p ≤ h0 (-2001) 1) (hw : w.length ≤ 700) (hmm : 0 ≤ m ∧ m ≤ 200) (hk : kK (h0 (-2002)) (h0 (-2001) 1) p = 6) (hd : d0 = 10) : zM yX11_steps cX11_steps 2 (some .boolean) (d + 8) 0 0 [(2, 38), (0, 5)] n sh h (fun r n1 sh1 h1 => r = some (0, 0) ∧ n1 = n ∧ sh1 = sh ∧ h1 = h) := by
  refine zM.ofT2 (by decide +kernel) [some (2, 38), some (0, 5)] rfl (Nat.le_of_ble_eq_true rfl) ?_
  refine zt_rg (fun hm => ?_)
  refine zt_iload_n dX11_steps_0 rfl ?_
  refine zt_sipush dX11_steps_1 (by decide) ?_
  refine zt_icmp_lt (tgt := 19) dX11_steps_4 (by decide) (by decide) (by decide) (fun c_4 => ?_) (fun q => absurd q (by decide))
  refine zt_iload_n dX11_steps_19 rfl ?_
  refine zt_sipush dX11_steps_20 (by decide) ?_
  refine zt_icmp_lt (tgt := 51) dX11_steps_23 (by decide) (by decide) (by decide) (fun c_23 => ?_) (fun q => absurd q (by decide))
  refine zt_iload_n dX11_steps_51 rfl ?_
  refine zt_bipush dX11_steps_52 (by decide) ?_
  refine zt_icmp_lt (tgt := 81) dX11_steps_54 (by decide) (by decide) (by decide) (fun c_54 => ?_) (fun q => absurd q (by decide))
  refine zt_iload_n dX11_steps_81 rfl ?_
  refine zt_tableIn (off := 95) (tgt := 177) dX11_steps_82 (by decide) (by decide) (by decide) rfl (by decide) ?_
  refine zt_aload_n dX11_steps_177 rfl ?_
  refine zt_callV0q dX11_steps_178 ml_X11_221 (zs_38 hS) (Nat.le_of_ble_eq_true rfl) (c_g6 hS hX hs hp hw hmm hk hd) ?_
  rintro r n1 sh1 h1 ⟨rfl, rfl, rfl, rfl⟩
  simp only [Option.toList, List.cons_append, List.nil_append]
  exact zt_zret dX11_steps_181 (by decide) ⟨rfl, rfl, rfl, rfl⟩

set_option maxRecDepth 100000 in
set_option maxHeartbeats 4000000 in
theorem c_s5g7 {d n : Nat} {sh : zSh} {h : zMem} {h0 : zMem} {p d0 m : Int} {w : List Int} {cf : Int → Int × Int} (hS : zShp sh) (hX : mTg h0) (hs : mS h0 h p w d0 m cf) (hp : 0 ≤ p ∧ p ≤ h0 (-2001) 1) (hw : w.length ≤ 700) (hmm : 0 ≤ m ∧ m ≤ 200) (hk : kK (h0 (-2002)) (h0 (-2001) 1) p = 7) (hd : d0 = 10) : zM yX11_steps cX11_steps 2 (some .boolean) (d + 8) 0 0 [(2, 38), (0, 5)] n sh h (fun r n1 sh1 h1 => r = some (0, 0) ∧ n1 = n ∧ sh1 = sh ∧ h1 = h) := by
  refine zM.ofT2 (by decide +kernel) [some (2, 38), some (0, 5)] rfl (Nat.le_of_ble_eq_true rfl) ?_
  refine zt_rg (fun hm => ?_)
  refine zt_iload_n dX11_steps_0 rfl ?_
  refine zt_sipush dX11_steps_1 (by decide) ?_
  refine zt_icmp_lt (tgt := 19) dX11_steps_4 (by decide) (by decide) (by decide) (fun c_4 => ?_) (fun q => absurd q (by decide))
  refine zt_iload_n dX11_steps_19 rfl ?_
  refine zt_sipush dX11_steps_20 (by decide) ?_
  refine zt_icmp_lt (tgt := 51) dX11_steps_23 (by decide) (by decide) (by decide) (fun c_23 => ?_) (fun q => absurd q (by decide))
  refine zt_iload_n dX11_steps_51 rfl ?_
  refine zt_bipush dX11_steps_52 (by decide) ?_
  refine zt_icmp_lt (tgt := 81) dX11_steps_54 (by decide) (by decide) (by decide) (fun c_54 => ?_) (fun q => absurd q (by decide))
  refine zt_iload_n dX11_steps_81 rfl ?_
  refine zt_tableIn (off := 95) (tgt := 177) dX11_steps_82 (by decide) (by decide) (by decide) rfl (by decide) ?_
  refine zt_aload_n dX11_steps_177 rfl ?_
  refine zt_callV0q dX11_steps_178 ml_X11_221 (zs_38 hS) (Nat.le_of_ble_eq_true rfl) (c_g7 hS hX hs hp hw hmm hk hd) ?_
  rintro r n1 sh1 h1 ⟨rfl, rfl, rfl, rfl⟩
  simp only [Option.toList, List.cons_append, List.nil_append]
  exact zt_zret dX11_steps_181 (by decide) ⟨rfl, rfl, rfl, rfl⟩

set_option maxRecDepth 100000 in
set_option maxHeartbeats 4000000 in
theorem c_s5f {d n : Nat} {sh : zSh} {h : zMem} {h0 : zMem} {p d0 m : Int} {w : List Int} {cf : Int → Int × Int} (hS : zShp sh) (hX : mTg h0) (hs : mS h0 h p w d0 m cf) (hp : 0 ≤ p ∧ p ≤ h0 (-2001) 1) (hw : w.length ≤ 700) (hmm : 0 ≤ m ∧ m ≤ 200) (hk : kK (h0 (-2002)) (h0 (-2001) 1) p ≠ 2 ∧ kK (h0 (-2002)) (h0 (-2001) 1) p ≠ 3 ∧ kK (h0 (-2002)) (h0 (-2001) 1) p ≠ 40 ∧ kK (h0 (-2002)) (h0 (-2001) 1) p ≠ 45 ∧ kK (h0 (-2002)) (h0 (-2001) 1) p ≠ 4 ∧ kK (h0 (-2002)) (h0 (-2001) 1) p ≠ 5 ∧ kK (h0 (-2002)) (h0 (-2001) 1) p ≠ 6 ∧ kK (h0 (-2002)) (h0 (-2001) 1) p ≠ 7 ∧ kK (h0 (-2002)) (h0 (-2001) 1) p ≠ 8) : zM yX11_steps cX11_steps 2 (some .boolean) (d + 8) 0 0 [(2, 38), (0, 5)] n sh h (fun r n1 sh1 h1 => r = some (0, 0) ∧ n1 = n ∧ sh1 = sh ∧ h1 = h) := by
  refine zM.ofT2 (by decide +kernel) [some (2, 38), some (0, 5)] rfl (Nat.le_of_ble_eq_true rfl) ?_
  refine zt_rg (fun hm => ?_)
  refine zt_iload_n dX11_steps_0 rfl ?_
  refine zt_sipush dX11_steps_1 (by decide) ?_
  refine zt_icmp_lt (tgt := 19) dX11_steps_4 (by decide) (by decide) (by decide) (fun c_4 => ?_) (fun q => absurd q (by decide))
  refine zt_iload_n dX11_steps_19 rfl ?_
  refine zt_sipush dX11_steps_20 (by decide) ?_
  refine zt_icmp_lt (tgt := 51) dX11_steps_23 (by decide) (by decide) (by decide) (fun c_23 => ?_) (fun q => absurd q (by decide))
  refine zt_iload_n dX11_steps_51 rfl ?_
  refine zt_bipush dX11_steps_52 (by decide) ?_
  refine zt_icmp_lt (tgt := 81) dX11_steps_54 (by decide) (by decide) (by decide) (fun c_54 => ?_) (fun q => absurd q (by decide))
  refine zt_iload_n dX11_steps_81 rfl ?_
  refine zt_tableIn (off := 95) (tgt := 177) dX11_steps_82 (by decide) (by decide) (by decide) rfl (by decide) ?_
  refine zt_aload_n dX11_steps_177 rfl ?_
  refine zt_callV0q dX11_steps_178 ml_X11_221 (zs_38 hS) (Nat.le_of_ble_eq_true rfl) (c_f0 hS hX hs hp hw hmm hk) ?_
  rintro r n1 sh1 h1 ⟨rfl, rfl, rfl, rfl⟩
  simp only [Option.toList, List.cons_append, List.nil_append]
  exact zt_zret dX11_steps_181 (by decide) ⟨rfl, rfl, rfl, rfl⟩

set_option maxRecDepth 100000 in
set_option maxHeartbeats 4000000 in
theorem c_s6 {d n : Nat} {sh : zSh} {h : zMem} {h0 : zMem} {p d0 m : Int} {w : List Int} {cf : Int → Int × Int} (hS : zShp sh) (hX : mTg h0) (hs : mS h0 h p w d0 m cf) (hp : 0 ≤ p ∧ p ≤ h0 (-2001) 1) (hw : w.length ≤ 700) (hmm : 0 ≤ m ∧ m ≤ 200) (hd : 0 ≤ d0 ∧ d0 ≤ 10) : zM yX11_steps cX11_steps 2 (some .boolean) (d + 8) 0 0 [(2, 38), (0, 6)] n sh h (fun r n1 sh1 h1 => r = some (0, 1) ∧ n1 = n ∧ sh1 = sh ∧ mS h0 h1 (p) (w) (d0 - 1) (m) cf) := by
  refine zM.ofT2 (by decide +kernel) [some (2, 38), some (0, 6)] rfl (Nat.le_of_ble_eq_true rfl) ?_
  refine zt_rg (fun hm => ?_)
  refine zt_iload_n dX11_steps_0 rfl ?_
  refine zt_sipush dX11_steps_1 (by decide) ?_
  refine zt_icmp_lt (tgt := 19) dX11_steps_4 (by decide) (by decide) (by decide) (fun c_4 => ?_) (fun q => absurd q (by decide))
  refine zt_iload_n dX11_steps_19 rfl ?_
  refine zt_sipush dX11_steps_20 (by decide) ?_
  refine zt_icmp_lt (tgt := 51) dX11_steps_23 (by decide) (by decide) (by decide) (fun c_23 => ?_) (fun q => absurd q (by decide))
  refine zt_iload_n dX11_steps_51 rfl ?_
  refine zt_bipush dX11_steps_52 (by decide) ?_
  refine zt_icmp_lt (tgt := 81) dX11_steps_54 (by decide) (by decide) (by decide) (fun c_54 => ?_) (fun q => absurd q (by decide))
  refine zt_iload_n dX11_steps_81 rfl ?_
  refine zt_tableIn (off := 100) (tgt := 182) dX11_steps_82 (by decide) (by decide) (by decide) rfl (by decide) ?_
  refine zt_aload_n dX11_steps_182 rfl ?_
  refine zt_dup dX11_steps_183 (Nat.ne_of_beq_eq_false rfl) ?_
  refine zt_getv (v := d0) dX11_steps_184 fl_X11_192 (zs_38 hS) hs.2.2.2.1 ?_
  refine zt_iconst dX11_steps_187 ?_
  refine zt_isub dX11_steps_188 ?_
  refine zt_puti dX11_steps_189 fl_X11_192 rfl (zs_38 hS) (by omega) ?_
  obtain ⟨g1, hg1⟩ : ∃ g, g = zup h 38 8 (d0 - 1) := ⟨_, rfl⟩
  refine zt_mem hg1.symm ?_
  have s1 : mS h0 g1 p w (d0 - 1) m cf := hg1 ▸ hs.deep
  refine zt_iconst dX11_steps_192 ?_
  exact zt_zret dX11_steps_193 (by decide) ⟨rfl, rfl, rfl, s1⟩

set_option maxRecDepth 100000 in
set_option maxHeartbeats 4000000 in
theorem c_s7_1 {d n : Nat} {sh : zSh} {h : zMem} {h0 : zMem} {p d0 m : Int} {w : List Int} {cf : Int → Int × Int} (hS : zShp sh) (hX : mTg h0) (hs : mS h0 h p w d0 m cf) (hp : 0 ≤ p ∧ p ≤ h0 (-2001) 1) (hw : w.length ≤ 700) (hmm : 0 ≤ m ∧ m ≤ 200) (hk : kK (h0 (-2002)) (h0 (-2001) 1) p = 60) : zM yX11_steps cX11_steps 2 (some .boolean) (d + 8) 0 0 [(2, 38), (0, 7)] n sh h (fun r n1 sh1 h1 => r = some (0, 1) ∧ n1 = n ∧ sh1 = sh ∧ mS h0 h1 (kE (h0 (-2002)) (h0 (-2001) 1) p) (1 :: 306 :: 1 :: 307 :: 1 :: 1011 :: w) (d0) (m) cf) := by
  refine zM.ofT2 (by decide +kernel) [some (2, 38), some (0, 7)] rfl (Nat.le_of_ble_eq_true rfl) ?_
  refine zt_rg (fun hm => ?_)
  refine zt_iload_n dX11_steps_0 rfl ?_
  refine zt_sipush dX11_steps_1 (by decide) ?_
  refine zt_icmp_lt (tgt := 19) dX11_steps_4 (by decide) (by decide) (by decide) (fun c_4 => ?_) (fun q => absurd q (by decide))
  refine zt_iload_n dX11_steps_19 rfl ?_
  refine zt_sipush dX11_steps_20 (by decide) ?_
  refine zt_icmp_lt (tgt := 51) dX11_steps_23 (by decide) (by decide) (by decide) (fun c_23 => ?_) (fun q => absurd q (by decide))
  refine zt_iload_n dX11_steps_51 rfl ?_
  refine zt_bipush dX11_steps_52 (by decide) ?_
  refine zt_icmp_lt (tgt := 81) dX11_steps_54 (by decide) (by decide) (by decide) (fun c_54 => ?_) (fun q => absurd q (by decide))
  refine zt_iload_n dX11_steps_81 rfl ?_
  refine zt_tableOut (tgt := 194) dX11_steps_82 (by decide) (by decide) (by decide) ?_
  refine zt_aload_n dX11_steps_194 rfl ?_
  refine zt_callV0q dX11_steps_195 ml_X11_224 (zs_38 hS) (Nat.le_of_ble_eq_true rfl) (c_rl1 hS hX hs hp hw hmm hk) ?_
  rintro r n1 sh1 g1 ⟨rfl, rfl, rfl, s1⟩
  simp only [Option.toList, List.cons_append, List.nil_append]
  exact zt_zret dX11_steps_198 (by decide) ⟨rfl, rfl, rfl, s1⟩

set_option maxRecDepth 100000 in
set_option maxHeartbeats 4000000 in
theorem c_s7_2 {d n : Nat} {sh : zSh} {h : zMem} {h0 : zMem} {p d0 m : Int} {w : List Int} {cf : Int → Int × Int} (hS : zShp sh) (hX : mTg h0) (hs : mS h0 h p w d0 m cf) (hp : 0 ≤ p ∧ p ≤ h0 (-2001) 1) (hw : w.length ≤ 700) (hmm : 0 ≤ m ∧ m ≤ 200) (hk : kK (h0 (-2002)) (h0 (-2001) 1) p = 62) : zM yX11_steps cX11_steps 2 (some .boolean) (d + 8) 0 0 [(2, 38), (0, 7)] n sh h (fun r n1 sh1 h1 => r = some (0, 1) ∧ n1 = n ∧ sh1 = sh ∧ mS h0 h1 (kE (h0 (-2002)) (h0 (-2001) 1) p) (1 :: 306 :: 1 :: 307 :: 1 :: 1012 :: w) (d0) (m) cf) := by
  refine zM.ofT2 (by decide +kernel) [some (2, 38), some (0, 7)] rfl (Nat.le_of_ble_eq_true rfl) ?_
  refine zt_rg (fun hm => ?_)
  refine zt_iload_n dX11_steps_0 rfl ?_
  refine zt_sipush dX11_steps_1 (by decide) ?_
  refine zt_icmp_lt (tgt := 19) dX11_steps_4 (by decide) (by decide) (by decide) (fun c_4 => ?_) (fun q => absurd q (by decide))
  refine zt_iload_n dX11_steps_19 rfl ?_
  refine zt_sipush dX11_steps_20 (by decide) ?_
  refine zt_icmp_lt (tgt := 51) dX11_steps_23 (by decide) (by decide) (by decide) (fun c_23 => ?_) (fun q => absurd q (by decide))
  refine zt_iload_n dX11_steps_51 rfl ?_
  refine zt_bipush dX11_steps_52 (by decide) ?_
  refine zt_icmp_lt (tgt := 81) dX11_steps_54 (by decide) (by decide) (by decide) (fun c_54 => ?_) (fun q => absurd q (by decide))
  refine zt_iload_n dX11_steps_81 rfl ?_
  refine zt_tableOut (tgt := 194) dX11_steps_82 (by decide) (by decide) (by decide) ?_
  refine zt_aload_n dX11_steps_194 rfl ?_
  refine zt_callV0q dX11_steps_195 ml_X11_224 (zs_38 hS) (Nat.le_of_ble_eq_true rfl) (c_rl2 hS hX hs hp hw hmm hk) ?_
  rintro r n1 sh1 g1 ⟨rfl, rfl, rfl, s1⟩
  simp only [Option.toList, List.cons_append, List.nil_append]
  exact zt_zret dX11_steps_198 (by decide) ⟨rfl, rfl, rfl, s1⟩

set_option maxRecDepth 100000 in
set_option maxHeartbeats 4000000 in
theorem c_s7_3 {d n : Nat} {sh : zSh} {h : zMem} {h0 : zMem} {p d0 m : Int} {w : List Int} {cf : Int → Int × Int} (hS : zShp sh) (hX : mTg h0) (hs : mS h0 h p w d0 m cf) (hp : 0 ≤ p ∧ p ≤ h0 (-2001) 1) (hw : w.length ≤ 700) (hmm : 0 ≤ m ∧ m ≤ 200) (hk : kK (h0 (-2002)) (h0 (-2001) 1) p = 61) : zM yX11_steps cX11_steps 2 (some .boolean) (d + 8) 0 0 [(2, 38), (0, 7)] n sh h (fun r n1 sh1 h1 => r = some (0, 1) ∧ n1 = n ∧ sh1 = sh ∧ mS h0 h1 (kE (h0 (-2002)) (h0 (-2001) 1) p) (1 :: 306 :: 1 :: 307 :: 1 :: 1013 :: w) (d0) (m) cf) := by
  refine zM.ofT2 (by decide +kernel) [some (2, 38), some (0, 7)] rfl (Nat.le_of_ble_eq_true rfl) ?_
  refine zt_rg (fun hm => ?_)
  refine zt_iload_n dX11_steps_0 rfl ?_
  refine zt_sipush dX11_steps_1 (by decide) ?_
  refine zt_icmp_lt (tgt := 19) dX11_steps_4 (by decide) (by decide) (by decide) (fun c_4 => ?_) (fun q => absurd q (by decide))
  refine zt_iload_n dX11_steps_19 rfl ?_
  refine zt_sipush dX11_steps_20 (by decide) ?_
  refine zt_icmp_lt (tgt := 51) dX11_steps_23 (by decide) (by decide) (by decide) (fun c_23 => ?_) (fun q => absurd q (by decide))
  refine zt_iload_n dX11_steps_51 rfl ?_
  refine zt_bipush dX11_steps_52 (by decide) ?_
  refine zt_icmp_lt (tgt := 81) dX11_steps_54 (by decide) (by decide) (by decide) (fun c_54 => ?_) (fun q => absurd q (by decide))
  refine zt_iload_n dX11_steps_81 rfl ?_
  refine zt_tableOut (tgt := 194) dX11_steps_82 (by decide) (by decide) (by decide) ?_
  refine zt_aload_n dX11_steps_194 rfl ?_
  refine zt_callV0q dX11_steps_195 ml_X11_224 (zs_38 hS) (Nat.le_of_ble_eq_true rfl) (c_rl3 hS hX hs hp hw hmm hk) ?_
  rintro r n1 sh1 g1 ⟨rfl, rfl, rfl, s1⟩
  simp only [Option.toList, List.cons_append, List.nil_append]
  exact zt_zret dX11_steps_198 (by decide) ⟨rfl, rfl, rfl, s1⟩

set_option maxRecDepth 100000 in
set_option maxHeartbeats 4000000 in
theorem c_s7_0 {d n : Nat} {sh : zSh} {h : zMem} {h0 : zMem} {p d0 m : Int} {w : List Int} {cf : Int → Int × Int} (hS : zShp sh) (hX : mTg h0) (hs : mS h0 h p w d0 m cf) (hp : 0 ≤ p ∧ p ≤ h0 (-2001) 1) (hw : w.length ≤ 700) (hmm : 0 ≤ m ∧ m ≤ 200) (hk : kK (h0 (-2002)) (h0 (-2001) 1) p ≠ 60 ∧ kK (h0 (-2002)) (h0 (-2001) 1) p ≠ 62 ∧ kK (h0 (-2002)) (h0 (-2001) 1) p ≠ 61) : zM yX11_steps cX11_steps 2 (some .boolean) (d + 8) 0 0 [(2, 38), (0, 7)] n sh h (fun r n1 sh1 h1 => r = some (0, 0) ∧ n1 = n ∧ sh1 = sh ∧ h1 = h) := by
  refine zM.ofT2 (by decide +kernel) [some (2, 38), some (0, 7)] rfl (Nat.le_of_ble_eq_true rfl) ?_
  refine zt_rg (fun hm => ?_)
  refine zt_iload_n dX11_steps_0 rfl ?_
  refine zt_sipush dX11_steps_1 (by decide) ?_
  refine zt_icmp_lt (tgt := 19) dX11_steps_4 (by decide) (by decide) (by decide) (fun c_4 => ?_) (fun q => absurd q (by decide))
  refine zt_iload_n dX11_steps_19 rfl ?_
  refine zt_sipush dX11_steps_20 (by decide) ?_
  refine zt_icmp_lt (tgt := 51) dX11_steps_23 (by decide) (by decide) (by decide) (fun c_23 => ?_) (fun q => absurd q (by decide))
  refine zt_iload_n dX11_steps_51 rfl ?_
  refine zt_bipush dX11_steps_52 (by decide) ?_
  refine zt_icmp_lt (tgt := 81) dX11_steps_54 (by decide) (by decide) (by decide) (fun c_54 => ?_) (fun q => absurd q (by decide))
  refine zt_iload_n dX11_steps_81 rfl ?_
  refine zt_tableOut (tgt := 194) dX11_steps_82 (by decide) (by decide) (by decide) ?_
  refine zt_aload_n dX11_steps_194 rfl ?_
  refine zt_callV0q dX11_steps_195 ml_X11_224 (zs_38 hS) (Nat.le_of_ble_eq_true rfl) (c_rl0 hS hX hs hp hw hmm hk) ?_
  rintro r n1 sh1 h1 ⟨rfl, rfl, rfl, rfl⟩
  simp only [Option.toList, List.cons_append, List.nil_append]
  exact zt_zret dX11_steps_198 (by decide) ⟨rfl, rfl, rfl, rfl⟩

set_option maxRecDepth 100000 in
set_option maxHeartbeats 4000000 in
theorem c_s140 {d n : Nat} {sh : zSh} {h : zMem} {h0 : zMem} {p d0 m : Int} {w : List Int} {cf : Int → Int × Int} (hS : zShp sh) (hX : mTg h0) (hs : mS h0 h p w d0 m cf) (hp : 0 ≤ p ∧ p ≤ h0 (-2001) 1) (hw : w.length ≤ 700) (hmm : 0 ≤ m ∧ m ≤ 200) (hk : kK (h0 (-2002)) (h0 (-2001) 1) p = 40) : zM yX11_steps cX11_steps 2 (some .boolean) (d + 8) 0 0 [(2, 38), (0, 140)] n sh h (fun r n1 sh1 h1 => r = some (0, 1) ∧ n1 = n ∧ sh1 = sh ∧ mS h0 h1 (kE (h0 (-2002)) (h0 (-2001) 1) p) (w) (d0) (m) cf) := by
  refine zM.ofT2 (by decide +kernel) [some (2, 38), some (0, 140)] rfl (Nat.le_of_ble_eq_true rfl) ?_
  refine zt_rg (fun hm => ?_)
  refine zt_iload_n dX11_steps_0 rfl ?_
  refine zt_sipush dX11_steps_1 (by decide) ?_
  refine zt_icmp_lt (tgt := 19) dX11_steps_4 (by decide) (by decide) (by decide) (fun c_4 => ?_) (fun q => absurd q (by decide))
  refine zt_iload_n dX11_steps_19 rfl ?_
  refine zt_sipush dX11_steps_20 (by decide) ?_
  refine zt_icmp_lt (tgt := 51) dX11_steps_23 (by decide) (by decide) (by decide) (fun c_23 => ?_) (fun q => absurd q (by decide))
  refine zt_iload_n dX11_steps_51 rfl ?_
  refine zt_bipush dX11_steps_52 (by decide) ?_
  refine zt_icmp_lt (tgt := 81) dX11_steps_54 (by decide) (by decide) (by decide) (fun q => absurd q (by decide)) (fun c_54 => ?_)
  refine zt_aload_n dX11_steps_57 rfl ?_
  refine zt_iload_n dX11_steps_58 rfl ?_
  refine zt_bipush dX11_steps_59 (by decide) ?_
  refine zt_isub dX11_steps_61 ?_
  refine zt_topv (v := 40) (by decide) ?_
  refine zt_callV1r dX11_steps_62 ml_X11_210 (zs_38 hS) (Nat.le_of_ble_eq_true rfl) (zF.of_eq (r' := some (0, 1)) (congrArg (fun z => some (0, z)) (zb_t (by have hz := hs.2.1.2.2; unfold mtk at hz; omega))) rfl rfl rfl (c_msg hS hs.1.2.1 (by decide))) ?_
  refine zt_if_eq (tgt := 79) dX11_steps_65 (by decide) (by decide) (fun q => absurd q (by decide)) (fun c_65 => ?_)
  refine zt_aload_n dX11_steps_68 rfl ?_
  refine zt_callV0q dX11_steps_69 ml_X11_206 (zs_38 hS) (Nat.le_of_ble_eq_true rfl) (c_mtk hS hX hs (by omega)) ?_
  rintro r n1 sh1 g1 ⟨rfl, rfl, rfl, s1⟩
  simp only [Option.toList, List.cons_append, List.nil_append]
  refine zt_if_eq (tgt := 79) dX11_steps_72 (by decide) (by decide) (fun q => absurd q (by decide)) (fun c_72 => ?_)
  refine zt_iconst dX11_steps_75 ?_
  refine zt_goto (tgt := 80) dX11_steps_76 (by decide) ?_
  exact zt_zret dX11_steps_80 (by decide) ⟨rfl, rfl, rfl, s1⟩

set_option maxRecDepth 100000 in
set_option maxHeartbeats 4000000 in
theorem c_s140f {d n : Nat} {sh : zSh} {h : zMem} {h0 : zMem} {p d0 m : Int} {w : List Int} {cf : Int → Int × Int} (hS : zShp sh) (hX : mTg h0) (hs : mS h0 h p w d0 m cf) (hp : 0 ≤ p ∧ p ≤ h0 (-2001) 1) (hw : w.length ≤ 700) (hmm : 0 ≤ m ∧ m ≤ 200) (hk : kK (h0 (-2002)) (h0 (-2001) 1) p ≠ 40) : zM yX11_steps cX11_steps 2 (some .boolean) (d + 8) 0 0 [(2, 38), (0, 140)] n sh h (fun r n1 sh1 h1 => r = some (0, 0) ∧ n1 = n ∧ sh1 = sh ∧ h1 = h) := by
  refine zM.ofT2 (by decide +kernel) [some (2, 38), some (0, 140)] rfl (Nat.le_of_ble_eq_true rfl) ?_
  refine zt_rg (fun hm => ?_)
  refine zt_iload_n dX11_steps_0 rfl ?_
  refine zt_sipush dX11_steps_1 (by decide) ?_
  refine zt_icmp_lt (tgt := 19) dX11_steps_4 (by decide) (by decide) (by decide) (fun c_4 => ?_) (fun q => absurd q (by decide))
  refine zt_iload_n dX11_steps_19 rfl ?_
  refine zt_sipush dX11_steps_20 (by decide) ?_
  refine zt_icmp_lt (tgt := 51) dX11_steps_23 (by decide) (by decide) (by decide) (fun c_23 => ?_) (fun q => absurd q (by decide))
  refine zt_iload_n dX11_steps_51 rfl ?_
  refine zt_bipush dX11_steps_52 (by decide) ?_
  refine zt_icmp_lt (tgt := 81) dX11_steps_54 (by decide) (by decide) (by decide) (fun q => absurd q (by decide)) (fun c_54 => ?_)
  refine zt_aload_n dX11_steps_57 rfl ?_
  refine zt_iload_n dX11_steps_58 rfl ?_
  refine zt_bipush dX11_steps_59 (by decide) ?_
  refine zt_isub dX11_steps_61 ?_
  refine zt_topv (v := 40) (by decide) ?_
  refine zt_callV1r dX11_steps_62 ml_X11_210 (zs_38 hS) (Nat.le_of_ble_eq_true rfl) (zF.of_eq (r' := some (0, 0)) (congrArg (fun z => some (0, z)) (zb_f (by have hz := hs.2.1.2.2; unfold mtk at hz; omega))) rfl rfl rfl (c_msg hS hs.1.2.1 (by decide))) ?_
  refine zt_if_eq (tgt := 79) dX11_steps_65 (by decide) (by decide) (fun c_65 => ?_) (fun q => absurd q (by decide))
  refine zt_iconst dX11_steps_79 ?_
  exact zt_zret dX11_steps_80 (by decide) ⟨rfl, rfl, rfl, rfl⟩

set_option maxRecDepth 100000 in
set_option maxHeartbeats 4000000 in
theorem c_s141 {d n : Nat} {sh : zSh} {h : zMem} {h0 : zMem} {p d0 m : Int} {w : List Int} {cf : Int → Int × Int} (hS : zShp sh) (hX : mTg h0) (hs : mS h0 h p w d0 m cf) (hp : 0 ≤ p ∧ p ≤ h0 (-2001) 1) (hw : w.length ≤ 700) (hmm : 0 ≤ m ∧ m ≤ 200) (hk : kK (h0 (-2002)) (h0 (-2001) 1) p = 41) : zM yX11_steps cX11_steps 2 (some .boolean) (d + 8) 0 0 [(2, 38), (0, 141)] n sh h (fun r n1 sh1 h1 => r = some (0, 1) ∧ n1 = n ∧ sh1 = sh ∧ mS h0 h1 (kE (h0 (-2002)) (h0 (-2001) 1) p) (w) (d0) (m) cf) := by
  refine zM.ofT2 (by decide +kernel) [some (2, 38), some (0, 141)] rfl (Nat.le_of_ble_eq_true rfl) ?_
  refine zt_rg (fun hm => ?_)
  refine zt_iload_n dX11_steps_0 rfl ?_
  refine zt_sipush dX11_steps_1 (by decide) ?_
  refine zt_icmp_lt (tgt := 19) dX11_steps_4 (by decide) (by decide) (by decide) (fun c_4 => ?_) (fun q => absurd q (by decide))
  refine zt_iload_n dX11_steps_19 rfl ?_
  refine zt_sipush dX11_steps_20 (by decide) ?_
  refine zt_icmp_lt (tgt := 51) dX11_steps_23 (by decide) (by decide) (by decide) (fun c_23 => ?_) (fun q => absurd q (by decide))
  refine zt_iload_n dX11_steps_51 rfl ?_
  refine zt_bipush dX11_steps_52 (by decide) ?_
  refine zt_icmp_lt (tgt := 81) dX11_steps_54 (by decide) (by decide) (by decide) (fun q => absurd q (by decide)) (fun c_54 => ?_)
  refine zt_aload_n dX11_steps_57 rfl ?_
  refine zt_iload_n dX11_steps_58 rfl ?_
  refine zt_bipush dX11_steps_59 (by decide) ?_
  refine zt_isub dX11_steps_61 ?_
  refine zt_topv (v := 41) (by decide) ?_
  refine zt_callV1r dX11_steps_62 ml_X11_210 (zs_38 hS) (Nat.le_of_ble_eq_true rfl) (zF.of_eq (r' := some (0, 1)) (congrArg (fun z => some (0, z)) (zb_t (by have hz := hs.2.1.2.2; unfold mtk at hz; omega))) rfl rfl rfl (c_msg hS hs.1.2.1 (by decide))) ?_
  refine zt_if_eq (tgt := 79) dX11_steps_65 (by decide) (by decide) (fun q => absurd q (by decide)) (fun c_65 => ?_)
  refine zt_aload_n dX11_steps_68 rfl ?_
  refine zt_callV0q dX11_steps_69 ml_X11_206 (zs_38 hS) (Nat.le_of_ble_eq_true rfl) (c_mtk hS hX hs (by omega)) ?_
  rintro r n1 sh1 g1 ⟨rfl, rfl, rfl, s1⟩
  simp only [Option.toList, List.cons_append, List.nil_append]
  refine zt_if_eq (tgt := 79) dX11_steps_72 (by decide) (by decide) (fun q => absurd q (by decide)) (fun c_72 => ?_)
  refine zt_iconst dX11_steps_75 ?_
  refine zt_goto (tgt := 80) dX11_steps_76 (by decide) ?_
  exact zt_zret dX11_steps_80 (by decide) ⟨rfl, rfl, rfl, s1⟩

set_option maxRecDepth 100000 in
set_option maxHeartbeats 4000000 in
theorem c_s141f {d n : Nat} {sh : zSh} {h : zMem} {h0 : zMem} {p d0 m : Int} {w : List Int} {cf : Int → Int × Int} (hS : zShp sh) (hX : mTg h0) (hs : mS h0 h p w d0 m cf) (hp : 0 ≤ p ∧ p ≤ h0 (-2001) 1) (hw : w.length ≤ 700) (hmm : 0 ≤ m ∧ m ≤ 200) (hk : kK (h0 (-2002)) (h0 (-2001) 1) p ≠ 41) : zM yX11_steps cX11_steps 2 (some .boolean) (d + 8) 0 0 [(2, 38), (0, 141)] n sh h (fun r n1 sh1 h1 => r = some (0, 0) ∧ n1 = n ∧ sh1 = sh ∧ h1 = h) := by
  refine zM.ofT2 (by decide +kernel) [some (2, 38), some (0, 141)] rfl (Nat.le_of_ble_eq_true rfl) ?_
  refine zt_rg (fun hm => ?_)
  refine zt_iload_n dX11_steps_0 rfl ?_
  refine zt_sipush dX11_steps_1 (by decide) ?_
  refine zt_icmp_lt (tgt := 19) dX11_steps_4 (by decide) (by decide) (by decide) (fun c_4 => ?_) (fun q => absurd q (by decide))
  refine zt_iload_n dX11_steps_19 rfl ?_
  refine zt_sipush dX11_steps_20 (by decide) ?_
  refine zt_icmp_lt (tgt := 51) dX11_steps_23 (by decide) (by decide) (by decide) (fun c_23 => ?_) (fun q => absurd q (by decide))
  refine zt_iload_n dX11_steps_51 rfl ?_
  refine zt_bipush dX11_steps_52 (by decide) ?_
  refine zt_icmp_lt (tgt := 81) dX11_steps_54 (by decide) (by decide) (by decide) (fun q => absurd q (by decide)) (fun c_54 => ?_)
  refine zt_aload_n dX11_steps_57 rfl ?_
  refine zt_iload_n dX11_steps_58 rfl ?_
  refine zt_bipush dX11_steps_59 (by decide) ?_
  refine zt_isub dX11_steps_61 ?_
  refine zt_topv (v := 41) (by decide) ?_
  refine zt_callV1r dX11_steps_62 ml_X11_210 (zs_38 hS) (Nat.le_of_ble_eq_true rfl) (zF.of_eq (r' := some (0, 0)) (congrArg (fun z => some (0, z)) (zb_f (by have hz := hs.2.1.2.2; unfold mtk at hz; omega))) rfl rfl rfl (c_msg hS hs.1.2.1 (by decide))) ?_
  refine zt_if_eq (tgt := 79) dX11_steps_65 (by decide) (by decide) (fun c_65 => ?_) (fun q => absurd q (by decide))
  refine zt_iconst dX11_steps_79 ?_
  exact zt_zret dX11_steps_80 (by decide) ⟨rfl, rfl, rfl, rfl⟩

set_option maxRecDepth 100000 in
set_option maxHeartbeats 4000000 in
theorem c_s144 {d n : Nat} {sh : zSh} {h : zMem} {h0 : zMem} {p d0 m : Int} {w : List Int} {cf : Int → Int × Int} (hS : zShp sh) (hX : mTg h0) (hs : mS h0 h p w d0 m cf) (hp : 0 ≤ p ∧ p ≤ h0 (-2001) 1) (hw : w.length ≤ 700) (hmm : 0 ≤ m ∧ m ≤ 200) (hk : kK (h0 (-2002)) (h0 (-2001) 1) p = 44) : zM yX11_steps cX11_steps 2 (some .boolean) (d + 8) 0 0 [(2, 38), (0, 144)] n sh h (fun r n1 sh1 h1 => r = some (0, 1) ∧ n1 = n ∧ sh1 = sh ∧ mS h0 h1 (kE (h0 (-2002)) (h0 (-2001) 1) p) (w) (d0) (m) cf) := by
  refine zM.ofT2 (by decide +kernel) [some (2, 38), some (0, 144)] rfl (Nat.le_of_ble_eq_true rfl) ?_
  refine zt_rg (fun hm => ?_)
  refine zt_iload_n dX11_steps_0 rfl ?_
  refine zt_sipush dX11_steps_1 (by decide) ?_
  refine zt_icmp_lt (tgt := 19) dX11_steps_4 (by decide) (by decide) (by decide) (fun c_4 => ?_) (fun q => absurd q (by decide))
  refine zt_iload_n dX11_steps_19 rfl ?_
  refine zt_sipush dX11_steps_20 (by decide) ?_
  refine zt_icmp_lt (tgt := 51) dX11_steps_23 (by decide) (by decide) (by decide) (fun c_23 => ?_) (fun q => absurd q (by decide))
  refine zt_iload_n dX11_steps_51 rfl ?_
  refine zt_bipush dX11_steps_52 (by decide) ?_
  refine zt_icmp_lt (tgt := 81) dX11_steps_54 (by decide) (by decide) (by decide) (fun q => absurd q (by decide)) (fun c_54 => ?_)
  refine zt_aload_n dX11_steps_57 rfl ?_
  refine zt_iload_n dX11_steps_58 rfl ?_
  refine zt_bipush dX11_steps_59 (by decide) ?_
  refine zt_isub dX11_steps_61 ?_
  refine zt_topv (v := 44) (by decide) ?_
  refine zt_callV1r dX11_steps_62 ml_X11_210 (zs_38 hS) (Nat.le_of_ble_eq_true rfl) (zF.of_eq (r' := some (0, 1)) (congrArg (fun z => some (0, z)) (zb_t (by have hz := hs.2.1.2.2; unfold mtk at hz; omega))) rfl rfl rfl (c_msg hS hs.1.2.1 (by decide))) ?_
  refine zt_if_eq (tgt := 79) dX11_steps_65 (by decide) (by decide) (fun q => absurd q (by decide)) (fun c_65 => ?_)
  refine zt_aload_n dX11_steps_68 rfl ?_
  refine zt_callV0q dX11_steps_69 ml_X11_206 (zs_38 hS) (Nat.le_of_ble_eq_true rfl) (c_mtk hS hX hs (by omega)) ?_
  rintro r n1 sh1 g1 ⟨rfl, rfl, rfl, s1⟩
  simp only [Option.toList, List.cons_append, List.nil_append]
  refine zt_if_eq (tgt := 79) dX11_steps_72 (by decide) (by decide) (fun q => absurd q (by decide)) (fun c_72 => ?_)
  refine zt_iconst dX11_steps_75 ?_
  refine zt_goto (tgt := 80) dX11_steps_76 (by decide) ?_
  exact zt_zret dX11_steps_80 (by decide) ⟨rfl, rfl, rfl, s1⟩

set_option maxRecDepth 100000 in
set_option maxHeartbeats 4000000 in
theorem c_s144f {d n : Nat} {sh : zSh} {h : zMem} {h0 : zMem} {p d0 m : Int} {w : List Int} {cf : Int → Int × Int} (hS : zShp sh) (hX : mTg h0) (hs : mS h0 h p w d0 m cf) (hp : 0 ≤ p ∧ p ≤ h0 (-2001) 1) (hw : w.length ≤ 700) (hmm : 0 ≤ m ∧ m ≤ 200) (hk : kK (h0 (-2002)) (h0 (-2001) 1) p ≠ 44) : zM yX11_steps cX11_steps 2 (some .boolean) (d + 8) 0 0 [(2, 38), (0, 144)] n sh h (fun r n1 sh1 h1 => r = some (0, 0) ∧ n1 = n ∧ sh1 = sh ∧ h1 = h) := by
  refine zM.ofT2 (by decide +kernel) [some (2, 38), some (0, 144)] rfl (Nat.le_of_ble_eq_true rfl) ?_
  refine zt_rg (fun hm => ?_)
  refine zt_iload_n dX11_steps_0 rfl ?_
  refine zt_sipush dX11_steps_1 (by decide) ?_
  refine zt_icmp_lt (tgt := 19) dX11_steps_4 (by decide) (by decide) (by decide) (fun c_4 => ?_) (fun q => absurd q (by decide))
  refine zt_iload_n dX11_steps_19 rfl ?_
  refine zt_sipush dX11_steps_20 (by decide) ?_
  refine zt_icmp_lt (tgt := 51) dX11_steps_23 (by decide) (by decide) (by decide) (fun c_23 => ?_) (fun q => absurd q (by decide))
  refine zt_iload_n dX11_steps_51 rfl ?_
  refine zt_bipush dX11_steps_52 (by decide) ?_
  refine zt_icmp_lt (tgt := 81) dX11_steps_54 (by decide) (by decide) (by decide) (fun q => absurd q (by decide)) (fun c_54 => ?_)
  refine zt_aload_n dX11_steps_57 rfl ?_
  refine zt_iload_n dX11_steps_58 rfl ?_
  refine zt_bipush dX11_steps_59 (by decide) ?_
  refine zt_isub dX11_steps_61 ?_
  refine zt_topv (v := 44) (by decide) ?_
  refine zt_callV1r dX11_steps_62 ml_X11_210 (zs_38 hS) (Nat.le_of_ble_eq_true rfl) (zF.of_eq (r' := some (0, 0)) (congrArg (fun z => some (0, z)) (zb_f (by have hz := hs.2.1.2.2; unfold mtk at hz; omega))) rfl rfl rfl (c_msg hS hs.1.2.1 (by decide))) ?_
  refine zt_if_eq (tgt := 79) dX11_steps_65 (by decide) (by decide) (fun c_65 => ?_) (fun q => absurd q (by decide))
  refine zt_iconst dX11_steps_79 ?_
  exact zt_zret dX11_steps_80 (by decide) ⟨rfl, rfl, rfl, rfl⟩

set_option maxRecDepth 100000 in
set_option maxHeartbeats 4000000 in
theorem c_s306 {d n : Nat} {sh : zSh} {h : zMem} {h0 : zMem} {p d0 m : Int} {w : List Int} {cf : Int → Int × Int} (hS : zShp sh) (hX : mTg h0) (hs : mS h0 h p w d0 m cf) (hp : 0 ≤ p ∧ p ≤ h0 (-2001) 1) (hw : w.length ≤ 700) (hmm : 0 ≤ m ∧ m ≤ 200) (hk : kK (h0 (-2002)) (h0 (-2001) 1) p = 9) : zM yX11_steps cX11_steps 2 (some .boolean) (d + 8) 0 0 [(2, 38), (0, 306)] n sh h (fun r n1 sh1 h1 => r = some (0, 1) ∧ n1 = n ∧ sh1 = sh ∧ mS h0 h1 (kE (h0 (-2002)) (h0 (-2001) 1) p) (w) (d0) (m) cf) := by
  refine zM.ofT2 (by decide +kernel) [some (2, 38), some (0, 306)] rfl (Nat.le_of_ble_eq_true rfl) ?_
  refine zt_rg (fun hm => ?_)
  refine zt_iload_n dX11_steps_0 rfl ?_
  refine zt_sipush dX11_steps_1 (by decide) ?_
  refine zt_icmp_lt (tgt := 19) dX11_steps_4 (by decide) (by decide) (by decide) (fun c_4 => ?_) (fun q => absurd q (by decide))
  refine zt_iload_n dX11_steps_19 rfl ?_
  refine zt_sipush dX11_steps_20 (by decide) ?_
  refine zt_icmp_lt (tgt := 51) dX11_steps_23 (by decide) (by decide) (by decide) (fun q => absurd q (by decide)) (fun c_23 => ?_)
  refine zt_aload_n dX11_steps_26 rfl ?_
  refine zt_iload_n dX11_steps_27 rfl ?_
  refine zt_sipush dX11_steps_28 (by decide) ?_
  refine zt_isub dX11_steps_31 ?_
  refine zt_topv (v := 6) (by decide) ?_
  refine zt_callV1r dX11_steps_32 ml_X11_203 (zs_38 hS) (Nat.le_of_ble_eq_true rfl) (zF.of_eq (r' := some (0, 1)) (congrArg (fun z => some (0, z)) (zb_t (by have hz := hs.2.1.2.2; unfold mtk at hz; omega))) rfl rfl rfl (c_mwo hS hs.1.2.1 (by decide))) ?_
  refine zt_if_eq (tgt := 49) dX11_steps_35 (by decide) (by decide) (fun q => absurd q (by decide)) (fun c_35 => ?_)
  refine zt_aload_n dX11_steps_38 rfl ?_
  refine zt_callV0q dX11_steps_39 ml_X11_206 (zs_38 hS) (Nat.le_of_ble_eq_true rfl) (c_mtk hS hX hs (by omega)) ?_
  rintro r n1 sh1 g1 ⟨rfl, rfl, rfl, s1⟩
  simp only [Option.toList, List.cons_append, List.nil_append]
  refine zt_if_eq (tgt := 49) dX11_steps_42 (by decide) (by decide) (fun q => absurd q (by decide)) (fun c_42 => ?_)
  refine zt_iconst dX11_steps_45 ?_
  refine zt_goto (tgt := 50) dX11_steps_46 (by decide) ?_
  exact zt_zret dX11_steps_50 (by decide) ⟨rfl, rfl, rfl, s1⟩

set_option maxRecDepth 100000 in
set_option maxHeartbeats 4000000 in
theorem c_s306f {d n : Nat} {sh : zSh} {h : zMem} {h0 : zMem} {p d0 m : Int} {w : List Int} {cf : Int → Int × Int} (hS : zShp sh) (hX : mTg h0) (hs : mS h0 h p w d0 m cf) (hp : 0 ≤ p ∧ p ≤ h0 (-2001) 1) (hw : w.length ≤ 700) (hmm : 0 ≤ m ∧ m ≤ 200) (hk : kK (h0 (-2002)) (h0 (-2001) 1) p ≠ 9) : zM yX11_steps cX11_steps 2 (some .boolean) (d + 8) 0 0 [(2, 38), (0, 306)] n sh h (fun r n1 sh1 h1 => r = some (0, 0) ∧ n1 = n ∧ sh1 = sh ∧ h1 = h) := by
  refine zM.ofT2 (by decide +kernel) [some (2, 38), some (0, 306)] rfl (Nat.le_of_ble_eq_true rfl) ?_
  refine zt_rg (fun hm => ?_)
  refine zt_iload_n dX11_steps_0 rfl ?_
  refine zt_sipush dX11_steps_1 (by decide) ?_
  refine zt_icmp_lt (tgt := 19) dX11_steps_4 (by decide) (by decide) (by decide) (fun c_4 => ?_) (fun q => absurd q (by decide))
  refine zt_iload_n dX11_steps_19 rfl ?_
  refine zt_sipush dX11_steps_20 (by decide) ?_
  refine zt_icmp_lt (tgt := 51) dX11_steps_23 (by decide) (by decide) (by decide) (fun q => absurd q (by decide)) (fun c_23 => ?_)
  refine zt_aload_n dX11_steps_26 rfl ?_
  refine zt_iload_n dX11_steps_27 rfl ?_
  refine zt_sipush dX11_steps_28 (by decide) ?_
  refine zt_isub dX11_steps_31 ?_
  refine zt_topv (v := 6) (by decide) ?_
  refine zt_callV1r dX11_steps_32 ml_X11_203 (zs_38 hS) (Nat.le_of_ble_eq_true rfl) (zF.of_eq (r' := some (0, 0)) (congrArg (fun z => some (0, z)) (zb_f (by have hz := hs.2.1.2.2; unfold mtk at hz; omega))) rfl rfl rfl (c_mwo hS hs.1.2.1 (by decide))) ?_
  refine zt_if_eq (tgt := 49) dX11_steps_35 (by decide) (by decide) (fun c_35 => ?_) (fun q => absurd q (by decide))
  refine zt_iconst dX11_steps_49 ?_
  exact zt_zret dX11_steps_50 (by decide) ⟨rfl, rfl, rfl, rfl⟩

set_option maxRecDepth 100000 in
set_option maxHeartbeats 4000000 in
theorem c_s307 {d n : Nat} {sh : zSh} {h : zMem} {h0 : zMem} {p d0 m : Int} {w : List Int} {cf : Int → Int × Int} (hS : zShp sh) (hX : mTg h0) (hs : mS h0 h p w d0 m cf) (hp : 0 ≤ p ∧ p ≤ h0 (-2001) 1) (hw : w.length ≤ 700) (hmm : 0 ≤ m ∧ m ≤ 200) (hk : kK (h0 (-2002)) (h0 (-2001) 1) p = 10) : zM yX11_steps cX11_steps 2 (some .boolean) (d + 8) 0 0 [(2, 38), (0, 307)] n sh h (fun r n1 sh1 h1 => r = some (0, 1) ∧ n1 = n ∧ sh1 = sh ∧ mS h0 h1 (kE (h0 (-2002)) (h0 (-2001) 1) p) (w) (d0) (m) cf) := by
  refine zM.ofT2 (by decide +kernel) [some (2, 38), some (0, 307)] rfl (Nat.le_of_ble_eq_true rfl) ?_
  refine zt_rg (fun hm => ?_)
  refine zt_iload_n dX11_steps_0 rfl ?_
  refine zt_sipush dX11_steps_1 (by decide) ?_
  refine zt_icmp_lt (tgt := 19) dX11_steps_4 (by decide) (by decide) (by decide) (fun c_4 => ?_) (fun q => absurd q (by decide))
  refine zt_iload_n dX11_steps_19 rfl ?_
  refine zt_sipush dX11_steps_20 (by decide) ?_
  refine zt_icmp_lt (tgt := 51) dX11_steps_23 (by decide) (by decide) (by decide) (fun q => absurd q (by decide)) (fun c_23 => ?_)
  refine zt_aload_n dX11_steps_26 rfl ?_
  refine zt_iload_n dX11_steps_27 rfl ?_
  refine zt_sipush dX11_steps_28 (by decide) ?_
  refine zt_isub dX11_steps_31 ?_
  refine zt_topv (v := 7) (by decide) ?_
  refine zt_callV1r dX11_steps_32 ml_X11_203 (zs_38 hS) (Nat.le_of_ble_eq_true rfl) (zF.of_eq (r' := some (0, 1)) (congrArg (fun z => some (0, z)) (zb_t (by have hz := hs.2.1.2.2; unfold mtk at hz; omega))) rfl rfl rfl (c_mwo hS hs.1.2.1 (by decide))) ?_
  refine zt_if_eq (tgt := 49) dX11_steps_35 (by decide) (by decide) (fun q => absurd q (by decide)) (fun c_35 => ?_)
  refine zt_aload_n dX11_steps_38 rfl ?_
  refine zt_callV0q dX11_steps_39 ml_X11_206 (zs_38 hS) (Nat.le_of_ble_eq_true rfl) (c_mtk hS hX hs (by omega)) ?_
  rintro r n1 sh1 g1 ⟨rfl, rfl, rfl, s1⟩
  simp only [Option.toList, List.cons_append, List.nil_append]
  refine zt_if_eq (tgt := 49) dX11_steps_42 (by decide) (by decide) (fun q => absurd q (by decide)) (fun c_42 => ?_)
  refine zt_iconst dX11_steps_45 ?_
  refine zt_goto (tgt := 50) dX11_steps_46 (by decide) ?_
  exact zt_zret dX11_steps_50 (by decide) ⟨rfl, rfl, rfl, s1⟩

set_option maxRecDepth 100000 in
set_option maxHeartbeats 4000000 in
theorem c_s307f {d n : Nat} {sh : zSh} {h : zMem} {h0 : zMem} {p d0 m : Int} {w : List Int} {cf : Int → Int × Int} (hS : zShp sh) (hX : mTg h0) (hs : mS h0 h p w d0 m cf) (hp : 0 ≤ p ∧ p ≤ h0 (-2001) 1) (hw : w.length ≤ 700) (hmm : 0 ≤ m ∧ m ≤ 200) (hk : kK (h0 (-2002)) (h0 (-2001) 1) p ≠ 10) : zM yX11_steps cX11_steps 2 (some .boolean) (d + 8) 0 0 [(2, 38), (0, 307)] n sh h (fun r n1 sh1 h1 => r = some (0, 0) ∧ n1 = n ∧ sh1 = sh ∧ h1 = h) := by
  refine zM.ofT2 (by decide +kernel) [some (2, 38), some (0, 307)] rfl (Nat.le_of_ble_eq_true rfl) ?_
  refine zt_rg (fun hm => ?_)
  refine zt_iload_n dX11_steps_0 rfl ?_
  refine zt_sipush dX11_steps_1 (by decide) ?_
  refine zt_icmp_lt (tgt := 19) dX11_steps_4 (by decide) (by decide) (by decide) (fun c_4 => ?_) (fun q => absurd q (by decide))
  refine zt_iload_n dX11_steps_19 rfl ?_
  refine zt_sipush dX11_steps_20 (by decide) ?_
  refine zt_icmp_lt (tgt := 51) dX11_steps_23 (by decide) (by decide) (by decide) (fun q => absurd q (by decide)) (fun c_23 => ?_)
  refine zt_aload_n dX11_steps_26 rfl ?_
  refine zt_iload_n dX11_steps_27 rfl ?_
  refine zt_sipush dX11_steps_28 (by decide) ?_
  refine zt_isub dX11_steps_31 ?_
  refine zt_topv (v := 7) (by decide) ?_
  refine zt_callV1r dX11_steps_32 ml_X11_203 (zs_38 hS) (Nat.le_of_ble_eq_true rfl) (zF.of_eq (r' := some (0, 0)) (congrArg (fun z => some (0, z)) (zb_f (by have hz := hs.2.1.2.2; unfold mtk at hz; omega))) rfl rfl rfl (c_mwo hS hs.1.2.1 (by decide))) ?_
  refine zt_if_eq (tgt := 49) dX11_steps_35 (by decide) (by decide) (fun c_35 => ?_) (fun q => absurd q (by decide))
  refine zt_iconst dX11_steps_49 ?_
  exact zt_zret dX11_steps_50 (by decide) ⟨rfl, rfl, rfl, rfl⟩

set_option maxRecDepth 100000 in
set_option maxHeartbeats 4000000 in
theorem c_s1002 {d n : Nat} {sh : zSh} {h : zMem} {h0 : zMem} {p d0 m : Int} {w : List Int} {cf : Int → Int × Int} (hS : zShp sh) (hX : mTg h0) (hs : mS h0 h p w d0 m cf) (hp : 0 ≤ p ∧ p ≤ h0 (-2001) 1) (hw : w.length ≤ 700) (hmm : 0 ≤ m ∧ m ≤ 200) (hm2 : m < 200) : zM yX11_steps cX11_steps 2 (some .boolean) (d + 8) 0 0 [(2, 38), (0, 1002)] n sh h (fun r n1 sh1 h1 => r = some (0, 1) ∧ n1 = n ∧ sh1 = sh ∧ mS h0 h1 (p) (w) (d0) (m + 1) (fun j => if j < m then cf j else (2, 0))) := by
  refine zM.ofT2 (by decide +kernel) [some (2, 38), some (0, 1002)] rfl (Nat.le_of_ble_eq_true rfl) ?_
  refine zt_rg (fun hm => ?_)
  refine zt_iload_n dX11_steps_0 rfl ?_
  refine zt_sipush dX11_steps_1 (by decide) ?_
  refine zt_icmp_lt (tgt := 19) dX11_steps_4 (by decide) (by decide) (by decide) (fun q => absurd q (by decide)) (fun c_4 => ?_)
  refine zt_aload_n dX11_steps_7 rfl ?_
  refine zt_iload_n dX11_steps_8 rfl ?_
  refine zt_sipush dX11_steps_9 (by decide) ?_
  refine zt_isub dX11_steps_12 ?_
  refine zt_topv (v := 2) (by decide) ?_
  refine zt_iconst dX11_steps_13 ?_
  refine zt_callV2v dX11_steps_14 ml_X11_199 (zs_38 hS) (Nat.le_of_ble_eq_true rfl) (c_mem hS hs.1.2.1 (by rw [hs.2.2.2.2.1]; omega) (by decide) (by decide)) ?_
  obtain ⟨g1, hg1⟩ : ∃ g, g = mEm h 2 0 := ⟨_, rfl⟩
  refine zt_mem hg1.symm ?_
  have s1 : mS h0 g1 (p) (w) (d0) (m + 1) (fun j => if j < m then cf j else (2, 0)) := hg1 ▸ hs.emit
  refine zt_iconst dX11_steps_17 ?_
  exact zt_zret dX11_steps_18 (by decide) ⟨rfl, rfl, rfl, s1⟩

set_option maxRecDepth 100000 in
set_option maxHeartbeats 4000000 in
theorem c_s1003 {d n : Nat} {sh : zSh} {h : zMem} {h0 : zMem} {p d0 m : Int} {w : List Int} {cf : Int → Int × Int} (hS : zShp sh) (hX : mTg h0) (hs : mS h0 h p w d0 m cf) (hp : 0 ≤ p ∧ p ≤ h0 (-2001) 1) (hw : w.length ≤ 700) (hmm : 0 ≤ m ∧ m ≤ 200) (hm2 : m < 200) : zM yX11_steps cX11_steps 2 (some .boolean) (d + 8) 0 0 [(2, 38), (0, 1003)] n sh h (fun r n1 sh1 h1 => r = some (0, 1) ∧ n1 = n ∧ sh1 = sh ∧ mS h0 h1 (p) (w) (d0) (m + 1) (fun j => if j < m then cf j else (3, 0))) := by
  refine zM.ofT2 (by decide +kernel) [some (2, 38), some (0, 1003)] rfl (Nat.le_of_ble_eq_true rfl) ?_
  refine zt_rg (fun hm => ?_)
  refine zt_iload_n dX11_steps_0 rfl ?_
  refine zt_sipush dX11_steps_1 (by decide) ?_
  refine zt_icmp_lt (tgt := 19) dX11_steps_4 (by decide) (by decide) (by decide) (fun q => absurd q (by decide)) (fun c_4 => ?_)
  refine zt_aload_n dX11_steps_7 rfl ?_
  refine zt_iload_n dX11_steps_8 rfl ?_
  refine zt_sipush dX11_steps_9 (by decide) ?_
  refine zt_isub dX11_steps_12 ?_
  refine zt_topv (v := 3) (by decide) ?_
  refine zt_iconst dX11_steps_13 ?_
  refine zt_callV2v dX11_steps_14 ml_X11_199 (zs_38 hS) (Nat.le_of_ble_eq_true rfl) (c_mem hS hs.1.2.1 (by rw [hs.2.2.2.2.1]; omega) (by decide) (by decide)) ?_
  obtain ⟨g1, hg1⟩ : ∃ g, g = mEm h 3 0 := ⟨_, rfl⟩
  refine zt_mem hg1.symm ?_
  have s1 : mS h0 g1 (p) (w) (d0) (m + 1) (fun j => if j < m then cf j else (3, 0)) := hg1 ▸ hs.emit
  refine zt_iconst dX11_steps_17 ?_
  exact zt_zret dX11_steps_18 (by decide) ⟨rfl, rfl, rfl, s1⟩

set_option maxRecDepth 100000 in
set_option maxHeartbeats 4000000 in
theorem c_s1004 {d n : Nat} {sh : zSh} {h : zMem} {h0 : zMem} {p d0 m : Int} {w : List Int} {cf : Int → Int × Int} (hS : zShp sh) (hX : mTg h0) (hs : mS h0 h p w d0 m cf) (hp : 0 ≤ p ∧ p ≤ h0 (-2001) 1) (hw : w.length ≤ 700) (hmm : 0 ≤ m ∧ m ≤ 200) (hm2 : m < 200) : zM yX11_steps cX11_steps 2 (some .boolean) (d + 8) 0 0 [(2, 38), (0, 1004)] n sh h (fun r n1 sh1 h1 => r = some (0, 1) ∧ n1 = n ∧ sh1 = sh ∧ mS h0 h1 (p) (w) (d0) (m + 1) (fun j => if j < m then cf j else (4, 0))) := by
  refine zM.ofT2 (by decide +kernel) [some (2, 38), some (0, 1004)] rfl (Nat.le_of_ble_eq_true rfl) ?_
  refine zt_rg (fun hm => ?_)
  refine zt_iload_n dX11_steps_0 rfl ?_
  refine zt_sipush dX11_steps_1 (by decide) ?_
  refine zt_icmp_lt (tgt := 19) dX11_steps_4 (by decide) (by decide) (by decide) (fun q => absurd q (by decide)) (fun c_4 => ?_)
  refine zt_aload_n dX11_steps_7 rfl ?_
  refine zt_iload_n dX11_steps_8 rfl ?_
  refine zt_sipush dX11_steps_9 (by decide) ?_
  refine zt_isub dX11_steps_12 ?_
  refine zt_topv (v := 4) (by decide) ?_
  refine zt_iconst dX11_steps_13 ?_
  refine zt_callV2v dX11_steps_14 ml_X11_199 (zs_38 hS) (Nat.le_of_ble_eq_true rfl) (c_mem hS hs.1.2.1 (by rw [hs.2.2.2.2.1]; omega) (by decide) (by decide)) ?_
  obtain ⟨g1, hg1⟩ : ∃ g, g = mEm h 4 0 := ⟨_, rfl⟩
  refine zt_mem hg1.symm ?_
  have s1 : mS h0 g1 (p) (w) (d0) (m + 1) (fun j => if j < m then cf j else (4, 0)) := hg1 ▸ hs.emit
  refine zt_iconst dX11_steps_17 ?_
  exact zt_zret dX11_steps_18 (by decide) ⟨rfl, rfl, rfl, s1⟩

set_option maxRecDepth 100000 in
set_option maxHeartbeats 4000000 in
theorem c_s1005 {d n : Nat} {sh : zSh} {h : zMem} {h0 : zMem} {p d0 m : Int} {w : List Int} {cf : Int → Int × Int} (hS : zShp sh) (hX : mTg h0) (hs : mS h0 h p w d0 m cf) (hp : 0 ≤ p ∧ p ≤ h0 (-2001) 1) (hw : w.length ≤ 700) (hmm : 0 ≤ m ∧ m ≤ 200) (hm2 : m < 200) : zM yX11_steps cX11_steps 2 (some .boolean) (d + 8) 0 0 [(2, 38), (0, 1005)] n sh h (fun r n1 sh1 h1 => r = some (0, 1) ∧ n1 = n ∧ sh1 = sh ∧ mS h0 h1 (p) (w) (d0) (m + 1) (fun j => if j < m then cf j else (5, 0))) := by
  refine zM.ofT2 (by decide +kernel) [some (2, 38), some (0, 1005)] rfl (Nat.le_of_ble_eq_true rfl) ?_
  refine zt_rg (fun hm => ?_)
  refine zt_iload_n dX11_steps_0 rfl ?_
  refine zt_sipush dX11_steps_1 (by decide) ?_
  refine zt_icmp_lt (tgt := 19) dX11_steps_4 (by decide) (by decide) (by decide) (fun q => absurd q (by decide)) (fun c_4 => ?_)
  refine zt_aload_n dX11_steps_7 rfl ?_
  refine zt_iload_n dX11_steps_8 rfl ?_
  refine zt_sipush dX11_steps_9 (by decide) ?_
  refine zt_isub dX11_steps_12 ?_
  refine zt_topv (v := 5) (by decide) ?_
  refine zt_iconst dX11_steps_13 ?_
  refine zt_callV2v dX11_steps_14 ml_X11_199 (zs_38 hS) (Nat.le_of_ble_eq_true rfl) (c_mem hS hs.1.2.1 (by rw [hs.2.2.2.2.1]; omega) (by decide) (by decide)) ?_
  obtain ⟨g1, hg1⟩ : ∃ g, g = mEm h 5 0 := ⟨_, rfl⟩
  refine zt_mem hg1.symm ?_
  have s1 : mS h0 g1 (p) (w) (d0) (m + 1) (fun j => if j < m then cf j else (5, 0)) := hg1 ▸ hs.emit
  refine zt_iconst dX11_steps_17 ?_
  exact zt_zret dX11_steps_18 (by decide) ⟨rfl, rfl, rfl, s1⟩

set_option maxRecDepth 100000 in
set_option maxHeartbeats 4000000 in
theorem c_s1006 {d n : Nat} {sh : zSh} {h : zMem} {h0 : zMem} {p d0 m : Int} {w : List Int} {cf : Int → Int × Int} (hS : zShp sh) (hX : mTg h0) (hs : mS h0 h p w d0 m cf) (hp : 0 ≤ p ∧ p ≤ h0 (-2001) 1) (hw : w.length ≤ 700) (hmm : 0 ≤ m ∧ m ≤ 200) (hm2 : m < 200) : zM yX11_steps cX11_steps 2 (some .boolean) (d + 8) 0 0 [(2, 38), (0, 1006)] n sh h (fun r n1 sh1 h1 => r = some (0, 1) ∧ n1 = n ∧ sh1 = sh ∧ mS h0 h1 (p) (w) (d0) (m + 1) (fun j => if j < m then cf j else (6, 0))) := by
  refine zM.ofT2 (by decide +kernel) [some (2, 38), some (0, 1006)] rfl (Nat.le_of_ble_eq_true rfl) ?_
  refine zt_rg (fun hm => ?_)
  refine zt_iload_n dX11_steps_0 rfl ?_
  refine zt_sipush dX11_steps_1 (by decide) ?_
  refine zt_icmp_lt (tgt := 19) dX11_steps_4 (by decide) (by decide) (by decide) (fun q => absurd q (by decide)) (fun c_4 => ?_)
  refine zt_aload_n dX11_steps_7 rfl ?_
  refine zt_iload_n dX11_steps_8 rfl ?_
  refine zt_sipush dX11_steps_9 (by decide) ?_
  refine zt_isub dX11_steps_12 ?_
  refine zt_topv (v := 6) (by decide) ?_
  refine zt_iconst dX11_steps_13 ?_
  refine zt_callV2v dX11_steps_14 ml_X11_199 (zs_38 hS) (Nat.le_of_ble_eq_true rfl) (c_mem hS hs.1.2.1 (by rw [hs.2.2.2.2.1]; omega) (by decide) (by decide)) ?_
  obtain ⟨g1, hg1⟩ : ∃ g, g = mEm h 6 0 := ⟨_, rfl⟩
  refine zt_mem hg1.symm ?_
  have s1 : mS h0 g1 (p) (w) (d0) (m + 1) (fun j => if j < m then cf j else (6, 0)) := hg1 ▸ hs.emit
  refine zt_iconst dX11_steps_17 ?_
  exact zt_zret dX11_steps_18 (by decide) ⟨rfl, rfl, rfl, s1⟩

set_option maxRecDepth 100000 in
set_option maxHeartbeats 4000000 in
theorem c_s1007 {d n : Nat} {sh : zSh} {h : zMem} {h0 : zMem} {p d0 m : Int} {w : List Int} {cf : Int → Int × Int} (hS : zShp sh) (hX : mTg h0) (hs : mS h0 h p w d0 m cf) (hp : 0 ≤ p ∧ p ≤ h0 (-2001) 1) (hw : w.length ≤ 700) (hmm : 0 ≤ m ∧ m ≤ 200) (hm2 : m < 200) : zM yX11_steps cX11_steps 2 (some .boolean) (d + 8) 0 0 [(2, 38), (0, 1007)] n sh h (fun r n1 sh1 h1 => r = some (0, 1) ∧ n1 = n ∧ sh1 = sh ∧ mS h0 h1 (p) (w) (d0) (m + 1) (fun j => if j < m then cf j else (7, 0))) := by
  refine zM.ofT2 (by decide +kernel) [some (2, 38), some (0, 1007)] rfl (Nat.le_of_ble_eq_true rfl) ?_
  refine zt_rg (fun hm => ?_)
  refine zt_iload_n dX11_steps_0 rfl ?_
  refine zt_sipush dX11_steps_1 (by decide) ?_
  refine zt_icmp_lt (tgt := 19) dX11_steps_4 (by decide) (by decide) (by decide) (fun q => absurd q (by decide)) (fun c_4 => ?_)
  refine zt_aload_n dX11_steps_7 rfl ?_
  refine zt_iload_n dX11_steps_8 rfl ?_
  refine zt_sipush dX11_steps_9 (by decide) ?_
  refine zt_isub dX11_steps_12 ?_
  refine zt_topv (v := 7) (by decide) ?_
  refine zt_iconst dX11_steps_13 ?_
  refine zt_callV2v dX11_steps_14 ml_X11_199 (zs_38 hS) (Nat.le_of_ble_eq_true rfl) (c_mem hS hs.1.2.1 (by rw [hs.2.2.2.2.1]; omega) (by decide) (by decide)) ?_
  obtain ⟨g1, hg1⟩ : ∃ g, g = mEm h 7 0 := ⟨_, rfl⟩
  refine zt_mem hg1.symm ?_
  have s1 : mS h0 g1 (p) (w) (d0) (m + 1) (fun j => if j < m then cf j else (7, 0)) := hg1 ▸ hs.emit
  refine zt_iconst dX11_steps_17 ?_
  exact zt_zret dX11_steps_18 (by decide) ⟨rfl, rfl, rfl, s1⟩

set_option maxRecDepth 100000 in
set_option maxHeartbeats 4000000 in
theorem c_s1008 {d n : Nat} {sh : zSh} {h : zMem} {h0 : zMem} {p d0 m : Int} {w : List Int} {cf : Int → Int × Int} (hS : zShp sh) (hX : mTg h0) (hs : mS h0 h p w d0 m cf) (hp : 0 ≤ p ∧ p ≤ h0 (-2001) 1) (hw : w.length ≤ 700) (hmm : 0 ≤ m ∧ m ≤ 200) (hm2 : m < 200) : zM yX11_steps cX11_steps 2 (some .boolean) (d + 8) 0 0 [(2, 38), (0, 1008)] n sh h (fun r n1 sh1 h1 => r = some (0, 1) ∧ n1 = n ∧ sh1 = sh ∧ mS h0 h1 (p) (w) (d0) (m + 1) (fun j => if j < m then cf j else (8, 0))) := by
  refine zM.ofT2 (by decide +kernel) [some (2, 38), some (0, 1008)] rfl (Nat.le_of_ble_eq_true rfl) ?_
  refine zt_rg (fun hm => ?_)
  refine zt_iload_n dX11_steps_0 rfl ?_
  refine zt_sipush dX11_steps_1 (by decide) ?_
  refine zt_icmp_lt (tgt := 19) dX11_steps_4 (by decide) (by decide) (by decide) (fun q => absurd q (by decide)) (fun c_4 => ?_)
  refine zt_aload_n dX11_steps_7 rfl ?_
  refine zt_iload_n dX11_steps_8 rfl ?_
  refine zt_sipush dX11_steps_9 (by decide) ?_
  refine zt_isub dX11_steps_12 ?_
  refine zt_topv (v := 8) (by decide) ?_
  refine zt_iconst dX11_steps_13 ?_
  refine zt_callV2v dX11_steps_14 ml_X11_199 (zs_38 hS) (Nat.le_of_ble_eq_true rfl) (c_mem hS hs.1.2.1 (by rw [hs.2.2.2.2.1]; omega) (by decide) (by decide)) ?_
  obtain ⟨g1, hg1⟩ : ∃ g, g = mEm h 8 0 := ⟨_, rfl⟩
  refine zt_mem hg1.symm ?_
  have s1 : mS h0 g1 (p) (w) (d0) (m + 1) (fun j => if j < m then cf j else (8, 0)) := hg1 ▸ hs.emit
  refine zt_iconst dX11_steps_17 ?_
  exact zt_zret dX11_steps_18 (by decide) ⟨rfl, rfl, rfl, s1⟩

set_option maxRecDepth 100000 in
set_option maxHeartbeats 4000000 in
theorem c_s1009 {d n : Nat} {sh : zSh} {h : zMem} {h0 : zMem} {p d0 m : Int} {w : List Int} {cf : Int → Int × Int} (hS : zShp sh) (hX : mTg h0) (hs : mS h0 h p w d0 m cf) (hp : 0 ≤ p ∧ p ≤ h0 (-2001) 1) (hw : w.length ≤ 700) (hmm : 0 ≤ m ∧ m ≤ 200) (hm2 : m < 200) : zM yX11_steps cX11_steps 2 (some .boolean) (d + 8) 0 0 [(2, 38), (0, 1009)] n sh h (fun r n1 sh1 h1 => r = some (0, 1) ∧ n1 = n ∧ sh1 = sh ∧ mS h0 h1 (p) (w) (d0) (m + 1) (fun j => if j < m then cf j else (9, 0))) := by
  refine zM.ofT2 (by decide +kernel) [some (2, 38), some (0, 1009)] rfl (Nat.le_of_ble_eq_true rfl) ?_
  refine zt_rg (fun hm => ?_)
  refine zt_iload_n dX11_steps_0 rfl ?_
  refine zt_sipush dX11_steps_1 (by decide) ?_
  refine zt_icmp_lt (tgt := 19) dX11_steps_4 (by decide) (by decide) (by decide) (fun q => absurd q (by decide)) (fun c_4 => ?_)
  refine zt_aload_n dX11_steps_7 rfl ?_
  refine zt_iload_n dX11_steps_8 rfl ?_
  refine zt_sipush dX11_steps_9 (by decide) ?_
  refine zt_isub dX11_steps_12 ?_
  refine zt_topv (v := 9) (by decide) ?_
  refine zt_iconst dX11_steps_13 ?_
  refine zt_callV2v dX11_steps_14 ml_X11_199 (zs_38 hS) (Nat.le_of_ble_eq_true rfl) (c_mem hS hs.1.2.1 (by rw [hs.2.2.2.2.1]; omega) (by decide) (by decide)) ?_
  obtain ⟨g1, hg1⟩ : ∃ g, g = mEm h 9 0 := ⟨_, rfl⟩
  refine zt_mem hg1.symm ?_
  have s1 : mS h0 g1 (p) (w) (d0) (m + 1) (fun j => if j < m then cf j else (9, 0)) := hg1 ▸ hs.emit
  refine zt_iconst dX11_steps_17 ?_
  exact zt_zret dX11_steps_18 (by decide) ⟨rfl, rfl, rfl, s1⟩

set_option maxRecDepth 100000 in
set_option maxHeartbeats 4000000 in
theorem c_s1010 {d n : Nat} {sh : zSh} {h : zMem} {h0 : zMem} {p d0 m : Int} {w : List Int} {cf : Int → Int × Int} (hS : zShp sh) (hX : mTg h0) (hs : mS h0 h p w d0 m cf) (hp : 0 ≤ p ∧ p ≤ h0 (-2001) 1) (hw : w.length ≤ 700) (hmm : 0 ≤ m ∧ m ≤ 200) (hm2 : m < 200) : zM yX11_steps cX11_steps 2 (some .boolean) (d + 8) 0 0 [(2, 38), (0, 1010)] n sh h (fun r n1 sh1 h1 => r = some (0, 1) ∧ n1 = n ∧ sh1 = sh ∧ mS h0 h1 (p) (w) (d0) (m + 1) (fun j => if j < m then cf j else (10, 0))) := by
  refine zM.ofT2 (by decide +kernel) [some (2, 38), some (0, 1010)] rfl (Nat.le_of_ble_eq_true rfl) ?_
  refine zt_rg (fun hm => ?_)
  refine zt_iload_n dX11_steps_0 rfl ?_
  refine zt_sipush dX11_steps_1 (by decide) ?_
  refine zt_icmp_lt (tgt := 19) dX11_steps_4 (by decide) (by decide) (by decide) (fun q => absurd q (by decide)) (fun c_4 => ?_)
  refine zt_aload_n dX11_steps_7 rfl ?_
  refine zt_iload_n dX11_steps_8 rfl ?_
  refine zt_sipush dX11_steps_9 (by decide) ?_
  refine zt_isub dX11_steps_12 ?_
  refine zt_topv (v := 10) (by decide) ?_
  refine zt_iconst dX11_steps_13 ?_
  refine zt_callV2v dX11_steps_14 ml_X11_199 (zs_38 hS) (Nat.le_of_ble_eq_true rfl) (c_mem hS hs.1.2.1 (by rw [hs.2.2.2.2.1]; omega) (by decide) (by decide)) ?_
  obtain ⟨g1, hg1⟩ : ∃ g, g = mEm h 10 0 := ⟨_, rfl⟩
  refine zt_mem hg1.symm ?_
  have s1 : mS h0 g1 (p) (w) (d0) (m + 1) (fun j => if j < m then cf j else (10, 0)) := hg1 ▸ hs.emit
  refine zt_iconst dX11_steps_17 ?_
  exact zt_zret dX11_steps_18 (by decide) ⟨rfl, rfl, rfl, s1⟩

set_option maxRecDepth 100000 in
set_option maxHeartbeats 4000000 in
theorem c_s1011 {d n : Nat} {sh : zSh} {h : zMem} {h0 : zMem} {p d0 m : Int} {w : List Int} {cf : Int → Int × Int} (hS : zShp sh) (hX : mTg h0) (hs : mS h0 h p w d0 m cf) (hp : 0 ≤ p ∧ p ≤ h0 (-2001) 1) (hw : w.length ≤ 700) (hmm : 0 ≤ m ∧ m ≤ 200) (hm2 : m < 200) : zM yX11_steps cX11_steps 2 (some .boolean) (d + 8) 0 0 [(2, 38), (0, 1011)] n sh h (fun r n1 sh1 h1 => r = some (0, 1) ∧ n1 = n ∧ sh1 = sh ∧ mS h0 h1 (p) (w) (d0) (m + 1) (fun j => if j < m then cf j else (11, 0))) := by
  refine zM.ofT2 (by decide +kernel) [some (2, 38), some (0, 1011)] rfl (Nat.le_of_ble_eq_true rfl) ?_
  refine zt_rg (fun hm => ?_)
  refine zt_iload_n dX11_steps_0 rfl ?_
  refine zt_sipush dX11_steps_1 (by decide) ?_
  refine zt_icmp_lt (tgt := 19) dX11_steps_4 (by decide) (by decide) (by decide) (fun q => absurd q (by decide)) (fun c_4 => ?_)
  refine zt_aload_n dX11_steps_7 rfl ?_
  refine zt_iload_n dX11_steps_8 rfl ?_
  refine zt_sipush dX11_steps_9 (by decide) ?_
  refine zt_isub dX11_steps_12 ?_
  refine zt_topv (v := 11) (by decide) ?_
  refine zt_iconst dX11_steps_13 ?_
  refine zt_callV2v dX11_steps_14 ml_X11_199 (zs_38 hS) (Nat.le_of_ble_eq_true rfl) (c_mem hS hs.1.2.1 (by rw [hs.2.2.2.2.1]; omega) (by decide) (by decide)) ?_
  obtain ⟨g1, hg1⟩ : ∃ g, g = mEm h 11 0 := ⟨_, rfl⟩
  refine zt_mem hg1.symm ?_
  have s1 : mS h0 g1 (p) (w) (d0) (m + 1) (fun j => if j < m then cf j else (11, 0)) := hg1 ▸ hs.emit
  refine zt_iconst dX11_steps_17 ?_
  exact zt_zret dX11_steps_18 (by decide) ⟨rfl, rfl, rfl, s1⟩

set_option maxRecDepth 100000 in
set_option maxHeartbeats 4000000 in
theorem c_s1012 {d n : Nat} {sh : zSh} {h : zMem} {h0 : zMem} {p d0 m : Int} {w : List Int} {cf : Int → Int × Int} (hS : zShp sh) (hX : mTg h0) (hs : mS h0 h p w d0 m cf) (hp : 0 ≤ p ∧ p ≤ h0 (-2001) 1) (hw : w.length ≤ 700) (hmm : 0 ≤ m ∧ m ≤ 200) (hm2 : m < 200) : zM yX11_steps cX11_steps 2 (some .boolean) (d + 8) 0 0 [(2, 38), (0, 1012)] n sh h (fun r n1 sh1 h1 => r = some (0, 1) ∧ n1 = n ∧ sh1 = sh ∧ mS h0 h1 (p) (w) (d0) (m + 1) (fun j => if j < m then cf j else (12, 0))) := by
  refine zM.ofT2 (by decide +kernel) [some (2, 38), some (0, 1012)] rfl (Nat.le_of_ble_eq_true rfl) ?_
  refine zt_rg (fun hm => ?_)
  refine zt_iload_n dX11_steps_0 rfl ?_
  refine zt_sipush dX11_steps_1 (by decide) ?_
  refine zt_icmp_lt (tgt := 19) dX11_steps_4 (by decide) (by decide) (by decide) (fun q => absurd q (by decide)) (fun c_4 => ?_)
  refine zt_aload_n dX11_steps_7 rfl ?_
  refine zt_iload_n dX11_steps_8 rfl ?_
  refine zt_sipush dX11_steps_9 (by decide) ?_
  refine zt_isub dX11_steps_12 ?_
  refine zt_topv (v := 12) (by decide) ?_
  refine zt_iconst dX11_steps_13 ?_
  refine zt_callV2v dX11_steps_14 ml_X11_199 (zs_38 hS) (Nat.le_of_ble_eq_true rfl) (c_mem hS hs.1.2.1 (by rw [hs.2.2.2.2.1]; omega) (by decide) (by decide)) ?_
  obtain ⟨g1, hg1⟩ : ∃ g, g = mEm h 12 0 := ⟨_, rfl⟩
  refine zt_mem hg1.symm ?_
  have s1 : mS h0 g1 (p) (w) (d0) (m + 1) (fun j => if j < m then cf j else (12, 0)) := hg1 ▸ hs.emit
  refine zt_iconst dX11_steps_17 ?_
  exact zt_zret dX11_steps_18 (by decide) ⟨rfl, rfl, rfl, s1⟩

set_option maxRecDepth 100000 in
set_option maxHeartbeats 4000000 in
theorem c_s1013 {d n : Nat} {sh : zSh} {h : zMem} {h0 : zMem} {p d0 m : Int} {w : List Int} {cf : Int → Int × Int} (hS : zShp sh) (hX : mTg h0) (hs : mS h0 h p w d0 m cf) (hp : 0 ≤ p ∧ p ≤ h0 (-2001) 1) (hw : w.length ≤ 700) (hmm : 0 ≤ m ∧ m ≤ 200) (hm2 : m < 200) : zM yX11_steps cX11_steps 2 (some .boolean) (d + 8) 0 0 [(2, 38), (0, 1013)] n sh h (fun r n1 sh1 h1 => r = some (0, 1) ∧ n1 = n ∧ sh1 = sh ∧ mS h0 h1 (p) (w) (d0) (m + 1) (fun j => if j < m then cf j else (13, 0))) := by
  refine zM.ofT2 (by decide +kernel) [some (2, 38), some (0, 1013)] rfl (Nat.le_of_ble_eq_true rfl) ?_
  refine zt_rg (fun hm => ?_)
  refine zt_iload_n dX11_steps_0 rfl ?_
  refine zt_sipush dX11_steps_1 (by decide) ?_
  refine zt_icmp_lt (tgt := 19) dX11_steps_4 (by decide) (by decide) (by decide) (fun q => absurd q (by decide)) (fun c_4 => ?_)
  refine zt_aload_n dX11_steps_7 rfl ?_
  refine zt_iload_n dX11_steps_8 rfl ?_
  refine zt_sipush dX11_steps_9 (by decide) ?_
  refine zt_isub dX11_steps_12 ?_
  refine zt_topv (v := 13) (by decide) ?_
  refine zt_iconst dX11_steps_13 ?_
  refine zt_callV2v dX11_steps_14 ml_X11_199 (zs_38 hS) (Nat.le_of_ble_eq_true rfl) (c_mem hS hs.1.2.1 (by rw [hs.2.2.2.2.1]; omega) (by decide) (by decide)) ?_
  obtain ⟨g1, hg1⟩ : ∃ g, g = mEm h 13 0 := ⟨_, rfl⟩
  refine zt_mem hg1.symm ?_
  have s1 : mS h0 g1 (p) (w) (d0) (m + 1) (fun j => if j < m then cf j else (13, 0)) := hg1 ▸ hs.emit
  refine zt_iconst dX11_steps_17 ?_
  exact zt_zret dX11_steps_18 (by decide) ⟨rfl, rfl, rfl, s1⟩

set_option maxRecDepth 100000 in
set_option maxHeartbeats 4000000 in
theorem c_s0 {d n : Nat} {sh : zSh} {h : zMem} {h0 : zMem} {p d0 m : Int} {w : List Int} {cf : Int → Int × Int} (hS : zShp sh) (hX : mTg h0) (hs : mS h0 h p w d0 m cf) (hp : 0 ≤ p ∧ p ≤ h0 (-2001) 1) (hw : w.length ≤ 700) (hmm : 0 ≤ m ∧ m ≤ 200) (hk : kK (h0 (-2002)) (h0 (-2001) 1) p = 0) : zM yX11_steps cX11_steps 2 (some .boolean) (d + 8) 0 0 [(2, 38), (0, 0)] n sh h (fun r n1 sh1 h1 => r = some (0, 1) ∧ n1 = n ∧ sh1 = sh ∧ mS h0 h1 (p) (w) (d0) (m) cf) := by
  refine zM.ofT2 (by decide +kernel) [some (2, 38), some (0, 0)] rfl (Nat.le_of_ble_eq_true rfl) ?_
  refine zt_rg (fun hm => ?_)
  refine zt_iload_n dX11_steps_0 rfl ?_
  refine zt_sipush dX11_steps_1 (by decide) ?_
  refine zt_icmp_lt (tgt := 19) dX11_steps_4 (by decide) (by decide) (by decide) (fun c_4 => ?_) (fun q => absurd q (by decide))
  refine zt_iload_n dX11_steps_19 rfl ?_
  refine zt_sipush dX11_steps_20 (by decide) ?_
  refine zt_icmp_lt (tgt := 51) dX11_steps_23 (by decide) (by decide) (by decide) (fun c_23 => ?_) (fun q => absurd q (by decide))
  refine zt_iload_n dX11_steps_51 rfl ?_
  refine zt_bipush dX11_steps_52 (by decide) ?_
  refine zt_icmp_lt (tgt := 81) dX11_steps_54 (by decide) (by decide) (by decide) (fun c_54 => ?_) (fun q => absurd q (by decide))
  refine zt_iload_n dX11_steps_81 rfl ?_
  refine zt_tableIn (off := 42) (tgt := 124) dX11_steps_82 (by decide) (by decide) (by decide) rfl (by decide) ?_
  refine zt_aload_n dX11_steps_124 rfl ?_
  refine zt_getv (v := 0) dX11_steps_125 fl_X11_168 (zs_38 hS) (by have hz := hs.2.1.2.2; unfold mtk at hz; omega) ?_
  refine zt_if_ne (tgt := 135) dX11_steps_128 (by decide) (by decide) (fun q => absurd q (by decide)) (fun c_128 => ?_)
  refine zt_iconst dX11_steps_131 ?_
  refine zt_goto (tgt := 136) dX11_steps_132 (by decide) ?_
  exact zt_zret dX11_steps_136 (by decide) ⟨rfl, rfl, rfl, hs⟩

set_option maxRecDepth 100000 in
set_option maxHeartbeats 4000000 in
theorem c_s0f {d n : Nat} {sh : zSh} {h : zMem} {h0 : zMem} {p d0 m : Int} {w : List Int} {cf : Int → Int × Int} (hS : zShp sh) (hX : mTg h0) (hs : mS h0 h p w d0 m cf) (hp : 0 ≤ p ∧ p ≤ h0 (-2001) 1) (hw : w.length ≤ 700) (hmm : 0 ≤ m ∧ m ≤ 200) (hk : kK (h0 (-2002)) (h0 (-2001) 1) p ≠ 0) : zM yX11_steps cX11_steps 2 (some .boolean) (d + 8) 0 0 [(2, 38), (0, 0)] n sh h (fun r n1 sh1 h1 => r = some (0, 0) ∧ n1 = n ∧ sh1 = sh ∧ h1 = h) := by
  refine zM.ofT2 (by decide +kernel) [some (2, 38), some (0, 0)] rfl (Nat.le_of_ble_eq_true rfl) ?_
  refine zt_rg (fun hm => ?_)
  refine zt_iload_n dX11_steps_0 rfl ?_
  refine zt_sipush dX11_steps_1 (by decide) ?_
  refine zt_icmp_lt (tgt := 19) dX11_steps_4 (by decide) (by decide) (by decide) (fun c_4 => ?_) (fun q => absurd q (by decide))
  refine zt_iload_n dX11_steps_19 rfl ?_
  refine zt_sipush dX11_steps_20 (by decide) ?_
  refine zt_icmp_lt (tgt := 51) dX11_steps_23 (by decide) (by decide) (by decide) (fun c_23 => ?_) (fun q => absurd q (by decide))
  refine zt_iload_n dX11_steps_51 rfl ?_
  refine zt_bipush dX11_steps_52 (by decide) ?_
  refine zt_icmp_lt (tgt := 81) dX11_steps_54 (by decide) (by decide) (by decide) (fun c_54 => ?_) (fun q => absurd q (by decide))
  refine zt_iload_n dX11_steps_81 rfl ?_
  refine zt_tableIn (off := 42) (tgt := 124) dX11_steps_82 (by decide) (by decide) (by decide) rfl (by decide) ?_
  refine zt_aload_n dX11_steps_124 rfl ?_
  refine zt_get dX11_steps_125 fl_X11_168 (zs_38 hS) ?_
  refine zt_if_ne (tgt := 135) dX11_steps_128 (by decide) (hm.fld (j := 3) (zs_38 hS) (by decide) (by decide) (by decide)) (fun c_128 => ?_) (fun c_128 => ?_)
  · refine zt_iconst dX11_steps_135 ?_
    exact zt_zret dX11_steps_136 (by decide) ⟨rfl, rfl, rfl, rfl⟩
  · exfalso; have hz := hs.2.1.2.2; unfold mtk at hz; omega

set_option maxRecDepth 100000 in
set_option maxHeartbeats 4000000 in
theorem l_rd {d n : Nat} {sh : zSh} {h0 h : zMem} {p d0 m x : Int} {w : List Int} {cf : Int → Int × Int} {Q : Option zV → Nat → zSh → zMem → Prop} {Q1 : zMem → Option zV → Nat → zSh → zMem → Prop} (hS : zShp sh) (hs : mS h0 h p (x :: w) d0 m cf) (hw : w.length ≤ 700) (hx : zi32 x) (hM : ∀ g, mS h0 g p w d0 m cf → zM yX11_steps cX11_steps 2 (some .boolean) (d + 8) 0 0 [(2, 38), (0, x)] n sh g (Q1 g))
    (hK : ∀ g, mS h0 g p w d0 m cf → ∀ r n1 sh1 h1, Q1 g r n1 sh1 h1 → n1 = n ∧ sh1 = sh ∧ ((r = some (0, 1) ∧ zT yX11_reads cX11_reads 1 (some .int) (d + 9) 0 0 Q 34 [some (2, 38)] [] n sh h1) ∨ (r = some (0, 0) ∧ h1 = g ∧ Q (some (0, kS (h0 (-2002)) (h0 (-2001) 1) p)) n sh g))) : zT yX11_reads cX11_reads 1 (some .int) (d + 9) 0 0 Q 34 [some (2, 38)] [] n sh h := by
  have hl := hs.pop.2.1
  refine zt_rg (fun hm => ?_)
  refine zt_aload_n dX11_reads_34 rfl ?_
  refine zt_get dX11_reads_35 fl_X11_183 (zs_38 hS) ?_
  refine zt_if_le (tgt := 72) dX11_reads_38 (by decide) (hm.fld (j := 7) (zs_38 hS) (by decide) (by decide) (by decide)) (fun c_38 => ?_) (fun c_38 => ?_)
  · exfalso
    omega
  · refine zt_aload_n dX11_reads_41 rfl ?_
    refine zt_dup dX11_reads_42 (Nat.ne_of_beq_eq_false rfl) ?_
    refine zt_get dX11_reads_43 fl_X11_183 (zs_38 hS) ?_
    refine zt_iconst dX11_reads_46 ?_
    refine zt_isub dX11_reads_47 ?_
    refine zt_puti dX11_reads_48 fl_X11_183 rfl (zs_38 hS) (by omega) ?_
    obtain ⟨g1, hg1⟩ : ∃ g, g = zup h 38 7 (h 38 7 - 1) := ⟨_, rfl⟩
    refine zt_mem hg1.symm ?_
    have hp1 := hs.pop
    rw [← hg1] at hp1
    refine zt_aload_n dX11_reads_51 rfl ?_
    refine zt_aload_n dX11_reads_52 rfl ?_
    refine zt_getv dX11_reads_53 fl_X11_13 (zs_38 hS) (rf_38_6 hp1.1.1.2.1) ?_
    refine zt_aload_n dX11_reads_56 rfl ?_
    refine zt_getv (v := (w.length : Int)) dX11_reads_57 fl_X11_183 (zs_38 hS) hp1.1.2.2.1.1 ?_
    refine zt_ialoadv (v := x) dX11_reads_60 (zs_40 hS) (by decide) (by omega) (by omega) hp1.2.2 ?_
    refine zt_callV1q dX11_reads_61 ml_X11_233 (zs_38 hS) (Nat.le_of_ble_eq_true rfl) (hM g1 hp1.1) ?_
    rintro r n1 sh1 h1 hq
    obtain ⟨rfl, rfl, ⟨rfl, hk⟩ | ⟨rfl, rfl, hk⟩⟩ := hK g1 hp1.1 r n1 sh1 h1 hq
    · simp only [Option.toList, List.cons_append, List.nil_append]
      refine zt_if_ne (tgt := 34) dX11_reads_64 (by decide) (by decide) (fun _ => ?_) (fun q => absurd q (by decide))
      exact hk
    simp only [Option.toList, List.cons_append, List.nil_append]
    refine zt_if_ne (tgt := 34) dX11_reads_64 (by decide) (by decide) (fun q => absurd q (by decide)) (fun c_64 => ?_)
    refine zt_aload_n dX11_reads_67 rfl ?_
    refine zt_getv (v := kS (h0 (-2002)) (h0 (-2001) 1) p) dX11_reads_68 fl_X11_162 (zs_38 hS) hp1.1.2.1.2.1 ?_
    exact zt_iret dX11_reads_71 hk

set_option maxRecDepth 100000 in
set_option maxHeartbeats 4000000 in
theorem l_rd0 {d n : Nat} {sh : zSh} {h0 h : zMem} {p d0 m : Int} {cf : Int → Int × Int} {Q : Option zV → Nat → zSh → zMem → Prop} (hS : zShp sh) (hs : mS h0 h p [] d0 m cf) (hq : Q (some (0, -1)) n sh h) : zT yX11_reads cX11_reads 1 (some .int) (d + 9) 0 0 Q 34 [some (2, 38)] [] n sh h := by
  refine zt_aload_n dX11_reads_34 rfl ?_
  refine zt_getv (v := 0) dX11_reads_35 fl_X11_183 (zs_38 hS) hs.2.2.1.1 ?_
  refine zt_if_le (tgt := 72) dX11_reads_38 (by decide) (by decide) (fun c_38 => ?_) (fun q => absurd q (by decide))
  refine zt_iconst dX11_reads_72 ?_
  exact zt_iret dX11_reads_73 hq
