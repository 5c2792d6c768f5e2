theorem mst.putx {h : zMem} {f g : zFr} {s : List zFr} {k x y : Int} (q : mst h (f :: s)) (hk : k = s.length) (hg : fok g) (hz : fz g) (hy : y = g.2) (hx : g.2 ≠ 0 → x = g.1) : mst (mPut h k x y) (g :: s) := by
  subst hk; subst hy
  refine ⟨by rw [mPut_t, q.1, List.length_cons, List.length_cons], ⟨?_, fun z => ?_⟩, ⟨hg, hz⟩, mstA_up (fun i a b => ?_) q.2.2.2⟩
  · rw [mPut_73, if_pos rfl]
  · rw [mPut_72, if_pos rfl]; exact hx z
  · rw [mPut_72, mPut_73, if_neg (by omega), if_neg (by omega)]; exact ⟨rfl, rfl⟩
theorem mst.swap {h : zMem} {f g : zFr} {s : List zFr} (q : mst h (f :: s)) (h0 : f.2 = 0) (h1 : g.2 = 0) (hg : fok g) (hz : fz g) : mst h (g :: s) :=
  ⟨by rw [q.1, List.length_cons, List.length_cons], ⟨by rw [q.2.1.1, h0, h1], fun z => absurd h1 z⟩, ⟨hg, hz⟩, q.2.2.2⟩
theorem mst.top {h : zMem} {s : List zFr} {z : Int} (q : mstA (h 72) (h 73) s) (hz : z = s.length) : mst (zup h 38 54 z) s := by
  refine ⟨by rw [zupE, hz], ?_⟩
  rw [zup_ne (by decide), zup_ne (by decide)]; exact q
theorem f1_none {p : Int} {f : zFr} (h : f.2 = 0) : (f1 p f).2 = 0 := by
  unfold f1; split
  · exact h
  · split
    · unfold frt; rw [if_pos (by omega)]
    · rw [if_neg (by omega)]

set_option maxRecDepth 100000 in
set_option maxHeartbeats 4000000 in
theorem c_one {d n : Nat} {sh : zSh} {h : zMem} {g fn fd : Int} {s : List zFr} (hS : zShp sh) (hR : zRf h) (hs : mst h ((fn, fd) :: s)) (hl : s.length < 199) (hg : g = 6 ∨ g = 7 ∨ g = 8) : zM yX11_one cX11_one 3 none (d + 2) 0 0 [(2, 38), (0, g)] n sh h (fun r n1 sh1 h1 => r = none ∧ n1 = n ∧ sh1 = sh ∧ zoM h h1 ∧ mst h1 (f1 (-g) (fn, fd) :: s)) := by
  refine zM.ofT2 (by decide +kernel) [some (2, 38), some (0, g), none] rfl (Nat.le_of_ble_eq_true rfl) ?_
  refine zt_rg (fun hm => ?_)
  have ht := hs.1
  rw [List.length_cons] at ht
  have hd := hs.2.1.1
  have hn := hs.2.1.2
  simp only [] at hd hn
  have hf1 := hs.2.2.1.1.1
  have hf2 := hs.2.2.1.1.2.1
  simp only [] at hf1 hf2
  refine zt_aload_n dX11_one_0 rfl ?_
  refine zt_getv (v := (s.length : Int) + 1) dX11_one_1 fl_X11_254 (zs_38 hS) (by omega) ?_
  refine zt_iconst dX11_one_4 ?_
  refine zt_isub dX11_one_5 ?_
  refine zt_topv (v := (s.length : Int)) (by omega) ?_
  refine zt_istore_n_2 dX11_one_6 (by decide) rfl ?_
  refine zt_aload_n dX11_one_7 rfl ?_
  refine zt_getv dX11_one_8 fl_X11_119 (zs_38 hS) (rf_38_53 hR) ?_
  refine zt_iload_n dX11_one_11 rfl ?_
  refine zt_laloadv (v := fd) dX11_one_12 (zs_73 hS) (by decide) (by omega) (by omega) hd ?_
  refine zt_lconst (v := 0) dX11_one_13 rfl ?_
  refine zt_lc_ne (tgt := 19) dX11_one_14 dX11_one_15 (by decide) (by omega) (by decide) (fun c_14 => ?_) (fun c_14 => ?_)
  · refine zt_iload_n dX11_one_19 rfl ?_
    refine zt_bipush dX11_one_20 (by decide) ?_
    refine zt_icmp_ne (tgt := 46) dX11_one_22 (by decide) (by omega) (by decide) (fun c_22 => ?_) (fun c_22 => ?_)
    · refine zt_iload_n dX11_one_46 rfl ?_
      refine zt_bipush dX11_one_47 (by decide) ?_
      refine zt_icmp_ne (tgt := 76) dX11_one_49 (by decide) (by omega) (by decide) (fun c_49 => ?_) (fun c_49 => ?_)
      · refine zt_aload_n dX11_one_76 rfl ?_
        refine zt_getv dX11_one_77 fl_X11_115 (zs_38 hS) (rf_38_52 hR) ?_
        refine zt_iload_n dX11_one_80 rfl ?_
        refine zt_laloadv (v := fn) dX11_one_81 (zs_72 hS) (by decide) (by omega) (by omega) (hn c_14) ?_
        refine zt_lconst (v := 0) dX11_one_82 rfl ?_
        refine zt_lc_ge (tgt := 97) dX11_one_83 dX11_one_84 (by decide) (by omega) (by decide) (fun c_83 => ?_) (fun c_83 => ?_)
        · refine zt_aload_n dX11_one_97 rfl ?_
          refine zt_iload_n dX11_one_98 rfl ?_
          refine zt_aload_n dX11_one_99 rfl ?_
          refine zt_getv dX11_one_100 fl_X11_115 (zs_38 hS) (rf_38_52 hR) ?_
          refine zt_iload_n dX11_one_103 rfl ?_
          refine zt_laloadv (v := fn) dX11_one_104 (zs_72 hS) (by decide) (by omega) (by omega) (hn c_14) ?_
          refine zt_ldc2 dX11_one_105 kc_X11_264 ?_
          refine zt_lmul dX11_one_108 ?_
          refine zt_aload_n dX11_one_109 rfl ?_
          refine zt_getv dX11_one_110 fl_X11_119 (zs_38 hS) (rf_38_53 hR) ?_
          refine zt_iload_n dX11_one_113 rfl ?_
          refine zt_laloadv (v := fd) dX11_one_114 (zs_73 hS) (by decide) (by omega) (by omega) hd ?_
          refine zt_ldiv dX11_one_115 (by omega) (by omega) (by omega) ?_
          have hq0 : 0 ≤ fn * 10000 / fd := Int.ediv_nonneg (by omega) (by omega)
          have hq1 : fn * 10000 / fd ≤ fn * 10000 := Int.ediv_le_self _ (by omega)
          refine zt_topv (v := fn * 10000 / fd) (Int.tdiv_eq_ediv_of_nonneg (by omega)) ?_
          refine zt_callS1r dX11_one_116 ml_X11_266 (Nat.le_of_ble_eq_true rfl) (c_mrt (by omega)) ?_
          have hib := isq_bd (v := fn * 10000 / fd) (by omega) (by omega)
          refine zt_ldc2 dX11_one_119 kc_X11_270 ?_
          refine zt_callV3v dX11_one_122 ml_X11_257 (zs_38 hS) (Nat.le_of_ble_eq_true rfl) (c_puts (x := isq (fn * 10000 / fd)) (y := 100) hS hR (by omega) (by omega) (by omega)) ?_
          exact zt_vret dX11_one_125 ⟨rfl, rfl, rfl, zoM.put hR, by rw [show f1 (-g) (fn, fd) = fr (isq (fn * 10000 / fd)) 100 by unfold f1 frt; rw [if_neg (by omega), if_pos (by omega), if_neg (by show ¬ (fn < 0 ∨ fd ≤ 0); omega)]]; exact hs.put rfl (fr_ok _ _) (fr_fz _ _)⟩
        · refine zt_aload_n dX11_one_87 rfl ?_
          refine zt_getv dX11_one_88 fl_X11_119 (zs_38 hS) (rf_38_53 hR) ?_
          refine zt_iload_n dX11_one_91 rfl ?_
          refine zt_lconst (v := 0) dX11_one_92 rfl ?_
          refine zt_lastore dX11_one_93 (zs_73 hS) (by decide) (by omega) (by omega) (by decide) ?_
          refine zt_goto (tgt := 125) dX11_one_94 (by decide) ?_
          exact zt_vret dX11_one_125 ⟨rfl, rfl, rfl, zoM.nil hR, by rw [show f1 (-g) (fn, fd) = (0, 0) by unfold f1 frt; rw [if_neg (by omega), if_pos (by omega), if_pos (by show fn < 0 ∨ fd ≤ 0; omega)]]; exact hs.nil rfl⟩
      · refine zt_aload_n dX11_one_52 rfl ?_
        refine zt_iload_n dX11_one_53 rfl ?_
        refine zt_aload_n dX11_one_54 rfl ?_
        refine zt_getv dX11_one_55 fl_X11_115 (zs_38 hS) (rf_38_52 hR) ?_
        refine zt_iload_n dX11_one_58 rfl ?_
        refine zt_laloadv (v := fn) dX11_one_59 (zs_72 hS) (by decide) (by omega) (by omega) (hn c_14) ?_
        refine zt_aload_n dX11_one_60 rfl ?_
        refine zt_getv dX11_one_61 fl_X11_119 (zs_38 hS) (rf_38_53 hR) ?_
        refine zt_iload_n dX11_one_64 rfl ?_
        refine zt_laloadv (v := fd) dX11_one_65 (zs_73 hS) (by decide) (by omega) (by omega) hd ?_
        refine zt_callS2r dX11_one_66 ml_X11_261 (Nat.le_of_ble_eq_true rfl) (c_floor (by omega) (by omega)) ?_
        have hfd := ediv_bd (a := fn) (g := fd) (B := 1000000000) (by omega) (by omega)
        refine zt_lconst (v := 1) dX11_one_69 rfl ?_
        refine zt_callV3v dX11_one_70 ml_X11_257 (zs_38 hS) (Nat.le_of_ble_eq_true rfl) (c_puts (x := fn / fd) (y := 1) hS hR (by omega) (by omega) (by omega)) ?_
        refine zt_goto (tgt := 125) dX11_one_73 (by decide) ?_
        exact zt_vret dX11_one_125 ⟨rfl, rfl, rfl, zoM.put hR, by rw [show f1 (-g) (fn, fd) = fr (fn / fd) 1 by unfold f1; rw [if_neg (by omega), if_neg (by omega), if_pos (by show 0 < fd; omega)]]; exact hs.put rfl (fr_ok _ _) (fr_fz _ _)⟩
    · refine zt_aload_n dX11_one_25 rfl ?_
      refine zt_iload_n dX11_one_26 rfl ?_
      refine zt_aload_n dX11_one_27 rfl ?_
      refine zt_getv dX11_one_28 fl_X11_115 (zs_38 hS) (rf_38_52 hR) ?_
      refine zt_iload_n dX11_one_31 rfl ?_
      refine zt_laloadv (v := fn) dX11_one_32 (zs_72 hS) (by decide) (by omega) (by omega) (hn c_14) ?_
      refine zt_lneg dX11_one_33 ?_
      refine zt_aload_n dX11_one_34 rfl ?_
      refine zt_getv dX11_one_35 fl_X11_119 (zs_38 hS) (rf_38_53 hR) ?_
      refine zt_iload_n dX11_one_38 rfl ?_
      refine zt_laloadv (v := fd) dX11_one_39 (zs_73 hS) (by decide) (by omega) (by omega) hd ?_
      refine zt_callV3v dX11_one_40 ml_X11_257 (zs_38 hS) (Nat.le_of_ble_eq_true rfl) (c_puts (x := -fn) (y := fd) hS hR (by omega) (by omega) (by omega)) ?_
      refine zt_goto (tgt := 125) dX11_one_43 (by decide) ?_
      exact zt_vret dX11_one_125 ⟨rfl, rfl, rfl, zoM.put hR, by rw [show f1 (-g) (fn, fd) = fr (-fn) fd by unfold f1; rw [if_pos (by omega)]; exact (fr_self (fok_neg hs.2.2.1.1) c_14).symm]; exact hs.put rfl (fr_ok _ _) (fr_fz _ _)⟩
  · exact zt_vret dX11_one_18 ⟨rfl, rfl, rfl, zoM.refl hR, hs.swap c_14 (f1_none c_14) (f1_ok hs.2.2.1.1) (f1_fz hs.2.2.1.2)⟩

set_option maxRecDepth 100000 in
set_option maxHeartbeats 4000000 in
theorem c_two_m {d n : Nat} {sh : zSh} {h : zMem} {g an ad bn bd : Int} {s : List zFr} (hS : zShp sh) (hR : zRf h) (hs : mst h ((bn, bd) :: (an, ad) :: s)) (hl : s.length < 198) (hg : (2 ≤ g ∧ g ≤ 5) ∨ g = 9 ∨ g = 10) : zM yX11_two cX11_two 13 none (d + 2) 0 0 [(2, 38), (0, g)] n sh h (fun r n1 sh1 h1 => r = none ∧ n1 = n ∧ sh1 = sh ∧ zoM h h1 ∧ mst h1 (f2 (-g) (an, ad) (bn, bd) :: s)) := by
  refine zM.ofT2 (by decide +kernel) [some (2, 38), some (0, g), none, none, none, none, none, none, none, none, none, none, none] rfl (Nat.le_of_ble_eq_true rfl) ?_
  refine zt_rg (fun hm => ?_)
  have ht := hs.1
  rw [List.length_cons, List.length_cons] at ht
  have hbd := hs.2.1.1
  have hbn := hs.2.1.2
  rw [List.length_cons] at hbd hbn
  rw [show ((s.length + 1 : Nat) : Int) = (s.length : Int) + 1 by omega] at hbd hbn
  have had := hs.2.2.2.1.1
  have han := hs.2.2.2.1.2
  simp only [] at hbd hbn had han
  have hfb := hs.2.2.1.1
  have hzb := hs.2.2.1.2
  have hfa := hs.2.2.2.2.1.1
  have hza := hs.2.2.2.2.1.2
  have hf1 := hfa.1
  have hf2 := hfa.2.1
  have hf3 := hfb.1
  have hf4 := hfb.2.1
  simp only [] at hf1 hf2 hf3 hf4
  have hM : mst (zup h 38 54 ((s.length : Int) + 1)) ((an, ad) :: s) := mst.top hs.2.2.2 (by rw [List.length_cons]; omega)
  have m0 := zmb (A := 1000000000) (B := 1000000000) (x := an) (y := bd) (by omega) (by omega)
  have m1 := zmb (A := 1000000000) (B := 1000000000) (x := bn) (y := ad) (by omega) (by omega)
  have m2 := zmb (A := 1000000000) (B := 1000000000) (x := ad) (y := bd) (by omega) (by omega)
  have m3 := zmb (A := 1000000000) (B := 1000000000) (x := an) (y := bn) (by omega) (by omega)
  have m4 := zmb (A := 1000000000) (B := 1000000000) (x := ad) (y := bn) (by omega) (by omega)
  refine zt_aload_n dX11_two_0 rfl ?_
  refine zt_dup dX11_two_1 (Nat.ne_of_beq_eq_false rfl) ?_
  refine zt_getv (v := (s.length : Int) + 1 + 1) dX11_two_2 fl_X11_254 (zs_38 hS) (by omega) ?_
  refine zt_iconst dX11_two_5 ?_
  refine zt_isub dX11_two_6 ?_
  refine zt_topv (v := (s.length : Int) + 1) (by omega) ?_
  refine zt_puti dX11_two_7 fl_X11_254 rfl (zs_38 hS) (by omega) ?_
  refine zt_aload_n dX11_two_10 rfl ?_
  refine zt_getv (v := (s.length : Int) + 1) dX11_two_11 fl_X11_254 (zs_38 hS) zupE ?_
  refine zt_iconst dX11_two_14 ?_
  refine zt_isub dX11_two_15 ?_
  refine zt_topv (v := (s.length : Int)) (by omega) ?_
  refine zt_istore_n_2 dX11_two_16 (by decide) rfl ?_
  refine zt_aload_n dX11_two_17 rfl ?_
  refine zt_getv (v := (s.length : Int) + 1) dX11_two_18 fl_X11_254 (zs_38 hS) zupE ?_
  refine zt_istore_n_3 dX11_two_21 (by decide) rfl ?_
  refine zt_aload_n dX11_two_22 rfl ?_
  refine zt_getv dX11_two_23 fl_X11_119 (zs_38 hS) (rf_38_53 (hR.up (by decide))) ?_
  refine zt_iload_n dX11_two_26 rfl ?_
  refine zt_laloadv (v := ad) dX11_two_27 (zs_73 hS) (by decide) (by omega) (by omega) ((zupA (by decide)).trans had) ?_
  refine zt_lconst (v := 0) dX11_two_28 rfl ?_
  refine zt_lc_eq (tgt := 44) dX11_two_29 dX11_two_30 (by decide) (by omega) (by decide) (fun c_29 => ?_) (fun c_29 => ?_)
  · refine zt_aload_n dX11_two_44 rfl ?_
    refine zt_getv dX11_two_45 fl_X11_119 (zs_38 hS) (rf_38_53 (hR.up (by decide))) ?_
    refine zt_iload_n dX11_two_48 rfl ?_
    refine zt_lconst (v := 0) dX11_two_49 rfl ?_
    refine zt_lastore dX11_two_50 (zs_73 hS) (by decide) (by omega) (by omega) (by decide) ?_
    exact zt_vret dX11_two_51 ⟨rfl, rfl, rfl, (zoM.top hR).trans (zoM.nil (hR.up (by decide))), (hM.nil rfl).swap rfl (f2_none hza hzb (by first | exact Or.inl c_29 | exact Or.inr c_40)) (f2_ok hfa hfb) (f2_fz hza hzb)⟩
  · refine zt_aload_n dX11_two_33 rfl ?_
    refine zt_getv dX11_two_34 fl_X11_119 (zs_38 hS) (rf_38_53 (hR.up (by decide))) ?_
    refine zt_iload_n dX11_two_37 rfl ?_
    refine zt_laloadv (v := bd) dX11_two_38 (zs_73 hS) (by decide) (by omega) (by omega) ((zupA (by decide)).trans hbd) ?_
    refine zt_lconst (v := 0) dX11_two_39 rfl ?_
    refine zt_lc_ne (tgt := 52) dX11_two_40 dX11_two_41 (by decide) (by omega) (by decide) (fun c_40 => ?_) (fun c_40 => ?_)
    · refine zt_aload_n dX11_two_52 rfl ?_
      refine zt_getv dX11_two_53 fl_X11_115 (zs_38 hS) (rf_38_52 (hR.up (by decide))) ?_
      refine zt_iload_n dX11_two_56 rfl ?_
      refine zt_laloadv (v := an) dX11_two_57 (zs_72 hS) (by decide) (by omega) (by omega) ((zupA (by decide)).trans (han c_29)) ?_
      refine zt_lstore_4 dX11_two_58 (by decide) rfl ?_
      refine zt_aload_n dX11_two_60 rfl ?_
      refine zt_getv dX11_two_61 fl_X11_119 (zs_38 hS) (rf_38_53 (hR.up (by decide))) ?_
      refine zt_iload_n dX11_two_64 rfl ?_
      refine zt_laloadv (v := ad) dX11_two_65 (zs_73 hS) (by decide) (by omega) (by omega) ((zupA (by decide)).trans had) ?_
      refine zt_lstore_6 dX11_two_66 (by decide) rfl ?_
      refine zt_aload_n dX11_two_68 rfl ?_
      refine zt_getv dX11_two_69 fl_X11_115 (zs_38 hS) (rf_38_52 (hR.up (by decide))) ?_
      refine zt_iload_n dX11_two_72 rfl ?_
      refine zt_laloadv (v := bn) dX11_two_73 (zs_72 hS) (by decide) (by omega) (by omega) ((zupA (by decide)).trans (hbn c_40)) ?_
      refine zt_lstore_8 dX11_two_74 (by decide) rfl ?_
      refine zt_aload_n dX11_two_76 rfl ?_
      refine zt_getv dX11_two_77 fl_X11_119 (zs_38 hS) (rf_38_53 (hR.up (by decide))) ?_
      refine zt_iload_n dX11_two_80 rfl ?_
      refine zt_laloadv (v := bd) dX11_two_81 (zs_73 hS) (by decide) (by omega) (by omega) ((zupA (by decide)).trans hbd) ?_
      refine zt_lstore_10 dX11_two_82 (by decide) rfl ?_
      refine zt_lload dX11_two_84 rfl ?_
      refine zt_lload dX11_two_86 rfl ?_
      refine zt_lmul dX11_two_88 ?_
      refine zt_lload dX11_two_89 rfl ?_
      refine zt_lload dX11_two_91 rfl ?_
      refine zt_lmul dX11_two_93 ?_
      refine zt_lc_ge (tgt := 102) dX11_two_94 dX11_two_95 (by decide) (by omega) (by omega) (fun c_94 => ?_) (fun c_94 => ?_)
      · refine zt_iconst dX11_two_102 ?_
        refine zt_istore_12 dX11_two_103 (by decide) rfl ?_
        refine zt_iload_n dX11_two_105 rfl ?_
        rcases (show g = 2 ∨ g = 3 ∨ g = 4 ∨ g = 5 ∨ (g < 2 ∨ 5 < g) by omega) with e_106 | e_106 | e_106 | e_106 | e_106
        · refine zt_tableIn (off := 30) (tgt := 136) dX11_two_106 (by omega) (by omega) (by omega) (by rw [e_106]; rfl) (by decide) ?_
          refine zt_aload_n dX11_two_136 rfl ?_
          refine zt_iload_n dX11_two_137 rfl ?_
          refine zt_lload dX11_two_138 rfl ?_
          refine zt_lload dX11_two_140 rfl ?_
          refine zt_lmul dX11_two_142 ?_
          refine zt_lload dX11_two_143 rfl ?_
          refine zt_lload dX11_two_145 rfl ?_
          refine zt_lmul dX11_two_147 ?_
          refine zt_ladd dX11_two_148 ?_
          refine zt_lload dX11_two_149 rfl ?_
          refine zt_lload dX11_two_151 rfl ?_
          refine zt_lmul dX11_two_153 ?_
          refine zt_callV3v dX11_two_154 ml_X11_257 (zs_38 hS) (Nat.le_of_ble_eq_true rfl) (c_puts (x := (an * bd) + (bn * ad)) (y := ad * bd) hS (hR.up (by decide)) (by omega) (by omega) (by omega)) ?_
          refine zt_goto (tgt := 266) dX11_two_157 (by decide) ?_
          exact zt_vret dX11_two_266 ⟨rfl, rfl, rfl, (zoM.top hR).trans (zoM.put (hR.up (by decide))), by rw [show f2 (-g) (an, ad) (bn, bd) = fr ((an * bd) + (bn * ad)) (ad * bd) by rw [e_106]; rfl]; exact hM.put rfl (fr_ok _ _) (fr_fz _ _)⟩
        · refine zt_tableIn (off := 54) (tgt := 160) dX11_two_106 (by omega) (by omega) (by omega) (by rw [e_106]; rfl) (by decide) ?_
          refine zt_aload_n dX11_two_160 rfl ?_
          refine zt_iload_n dX11_two_161 rfl ?_
          refine zt_lload dX11_two_162 rfl ?_
          refine zt_lload dX11_two_164 rfl ?_
          refine zt_lmul dX11_two_166 ?_
          refine zt_lload dX11_two_167 rfl ?_
          refine zt_lload dX11_two_169 rfl ?_
          refine zt_lmul dX11_two_171 ?_
          refine zt_lsub dX11_two_172 ?_
          refine zt_lload dX11_two_173 rfl ?_
          refine zt_lload dX11_two_175 rfl ?_
          refine zt_lmul dX11_two_177 ?_
          refine zt_callV3v dX11_two_178 ml_X11_257 (zs_38 hS) (Nat.le_of_ble_eq_true rfl) (c_puts (x := (an * bd) - (bn * ad)) (y := ad * bd) hS (hR.up (by decide)) (by omega) (by omega) (by omega)) ?_
          refine zt_goto (tgt := 266) dX11_two_181 (by decide) ?_
          exact zt_vret dX11_two_266 ⟨rfl, rfl, rfl, (zoM.top hR).trans (zoM.put (hR.up (by decide))), by rw [show f2 (-g) (an, ad) (bn, bd) = fr ((an * bd) - (bn * ad)) (ad * bd) by rw [e_106]; rfl]; exact hM.put rfl (fr_ok _ _) (fr_fz _ _)⟩
        · refine zt_tableIn (off := 78) (tgt := 184) dX11_two_106 (by omega) (by omega) (by omega) (by rw [e_106]; rfl) (by decide) ?_
          refine zt_aload_n dX11_two_184 rfl ?_
          refine zt_iload_n dX11_two_185 rfl ?_
          refine zt_lload dX11_two_186 rfl ?_
          refine zt_lload dX11_two_188 rfl ?_
          refine zt_lmul dX11_two_190 ?_
          refine zt_lload dX11_two_191 rfl ?_
          refine zt_lload dX11_two_193 rfl ?_
          refine zt_lmul dX11_two_195 ?_
          refine zt_callV3v dX11_two_196 ml_X11_257 (zs_38 hS) (Nat.le_of_ble_eq_true rfl) (c_puts (x := an * bn) (y := ad * bd) hS (hR.up (by decide)) (by omega) (by omega) (by omega)) ?_
          refine zt_goto (tgt := 266) dX11_two_199 (by decide) ?_
          exact zt_vret dX11_two_266 ⟨rfl, rfl, rfl, (zoM.top hR).trans (zoM.put (hR.up (by decide))), by rw [show f2 (-g) (an, ad) (bn, bd) = fr (an * bn) (ad * bd) by rw [e_106]; rfl]; exact hM.put rfl (fr_ok _ _) (fr_fz _ _)⟩
        · refine zt_tableIn (off := 96) (tgt := 202) dX11_two_106 (by omega) (by omega) (by omega) (by rw [e_106]; rfl) (by decide) ?_
          refine zt_aload_n dX11_two_202 rfl ?_
          refine zt_iload_n dX11_two_203 rfl ?_
          refine zt_lload dX11_two_204 rfl ?_
          refine zt_lload dX11_two_206 rfl ?_
          refine zt_lmul dX11_two_208 ?_
          refine zt_lload dX11_two_209 rfl ?_
          refine zt_lload dX11_two_211 rfl ?_
          refine zt_lmul dX11_two_213 ?_
          refine zt_callV3v dX11_two_214 ml_X11_257 (zs_38 hS) (Nat.le_of_ble_eq_true rfl) (c_puts (x := an * bd) (y := ad * bn) hS (hR.up (by decide)) (by omega) (by omega) (by omega)) ?_
          refine zt_goto (tgt := 266) dX11_two_217 (by decide) ?_
          exact zt_vret dX11_two_266 ⟨rfl, rfl, rfl, (zoM.top hR).trans (zoM.put (hR.up (by decide))), by rw [show f2 (-g) (an, ad) (bn, bd) = fr (an * bd) (ad * bn) by rw [e_106]; rfl]; exact hM.put rfl (fr_ok _ _) (fr_fz _ _)⟩
        · refine zt_tableOut (tgt := 220) dX11_two_106 (by omega) e_106 (by decide) ?_
          refine zt_iload_n dX11_two_220 rfl ?_
          refine zt_bipush dX11_two_221 (by decide) ?_
          refine zt_icmp_ne (tgt := 230) dX11_two_223 (by decide) (by omega) (by decide) (fun c_223 => ?_) (fun c_223 => ?_)
          · refine zt_iconst dX11_two_230 ?_
            refine zt_iload dX11_two_231 rfl ?_
            refine zt_icmp_eq (tgt := 266) dX11_two_233 (by decide) (by decide) (by decide) (fun c_233 => ?_) (fun q => absurd q (by decide))
            exact zt_vret dX11_two_266 ⟨rfl, rfl, rfl, zoM.top hR, by rw [show f2 (-g) (an, ad) (bn, bd) = (an, ad) by unfold f2; first | (rw [if_neg (by omega), if_neg (by omega), if_neg (by omega), if_neg (by omega), if_pos (show -g = -9 by omega)]; unfold fon; rw [if_neg (show ¬ (((an, ad) : zFr).2 = 0 ∨ ((bn, bd) : zFr).2 = 0) by show ¬ (ad = 0 ∨ bd = 0); omega)]; first | (rw [if_pos (by rw [zb_t (show an * bd ≤ bn * ad by omega)]; decide)]; done) | (rw [if_neg (by rw [zb_f (show ¬ an * bd ≤ bn * ad by omega)]; decide)]; done)) | (rw [if_neg (by omega), if_neg (by omega), if_neg (by omega), if_neg (by omega), if_neg (show ¬ -g = -9 by omega)]; unfold fon; rw [if_neg (show ¬ (((an, ad) : zFr).2 = 0 ∨ ((bn, bd) : zFr).2 = 0) by show ¬ (ad = 0 ∨ bd = 0); omega)]; first | (rw [if_pos (by rw [zb_t (show bn * ad ≤ an * bd by omega)]; decide)]; done) | (rw [if_neg (by rw [zb_f (show ¬ bn * ad ≤ an * bd by omega)]; decide)]; done))]; exact hM⟩
          · refine zt_iconst dX11_two_226 ?_
            refine zt_goto (tgt := 231) dX11_two_227 (by decide) ?_
            refine zt_iload dX11_two_231 rfl ?_
            refine zt_icmp_eq (tgt := 266) dX11_two_233 (by decide) (by decide) (by decide) (fun q => absurd q (by decide)) (fun c_233 => ?_)
            refine zt_lload dX11_two_236 rfl ?_
            refine zt_lload dX11_two_238 rfl ?_
            refine zt_lmul dX11_two_240 ?_
            refine zt_lload dX11_two_241 rfl ?_
            refine zt_lload dX11_two_243 rfl ?_
            refine zt_lmul dX11_two_245 ?_
            refine zt_lc_eq (tgt := 266) dX11_two_246 dX11_two_247 (by decide) (by omega) (by omega) (fun c_246 => ?_) (fun c_246 => ?_)
            · exact zt_vret dX11_two_266 ⟨rfl, rfl, rfl, zoM.top hR, by rw [show f2 (-g) (an, ad) (bn, bd) = (an, ad) by unfold f2; first | (rw [if_neg (by omega), if_neg (by omega), if_neg (by omega), if_neg (by omega), if_pos (show -g = -9 by omega)]; unfold fon; rw [if_neg (show ¬ (((an, ad) : zFr).2 = 0 ∨ ((bn, bd) : zFr).2 = 0) by show ¬ (ad = 0 ∨ bd = 0); omega)]; first | (rw [if_pos (by rw [zb_t (show an * bd ≤ bn * ad by omega)]; decide)]; done) | (rw [if_neg (by rw [zb_f (show ¬ an * bd ≤ bn * ad by omega)]; decide)]; done)) | (rw [if_neg (by omega), if_neg (by omega), if_neg (by omega), if_neg (by omega), if_neg (show ¬ -g = -9 by omega)]; unfold fon; rw [if_neg (show ¬ (((an, ad) : zFr).2 = 0 ∨ ((bn, bd) : zFr).2 = 0) by show ¬ (ad = 0 ∨ bd = 0); omega)]; first | (rw [if_pos (by rw [zb_t (show bn * ad ≤ an * bd by omega)]; decide)]; done) | (rw [if_neg (by rw [zb_f (show ¬ bn * ad ≤ an * bd by omega)]; decide)]; done))]; exact hM⟩
            · refine zt_aload_n dX11_two_250 rfl ?_
              refine zt_getv dX11_two_251 fl_X11_115 (zs_38 hS) (rf_38_52 (hR.up (by decide))) ?_
              refine zt_iload_n dX11_two_254 rfl ?_
              refine zt_lload dX11_two_255 rfl ?_
              refine zt_lastore dX11_two_257 (zs_72 hS) (by decide) (by omega) (by omega) (by omega) ?_
              refine zt_aload_n dX11_two_258 rfl ?_
              refine zt_getv dX11_two_259 fl_X11_119 (zs_38 hS) (rf_38_53 ((hR.up (by decide)).upA (by decide))) ?_
              refine zt_iload_n dX11_two_262 rfl ?_
              refine zt_lload dX11_two_263 rfl ?_
              refine zt_lastore dX11_two_265 (zs_73 hS) (by decide) (by omega) (by omega) (by omega) ?_
              exact zt_vret dX11_two_266 ⟨rfl, rfl, rfl, (zoM.top hR).trans (zoM.put (hR.up (by decide))), by rw [show f2 (-g) (an, ad) (bn, bd) = (bn, bd) by unfold f2; first | (rw [if_neg (by omega), if_neg (by omega), if_neg (by omega), if_neg (by omega), if_pos (show -g = -9 by omega)]; unfold fon; rw [if_neg (show ¬ (((an, ad) : zFr).2 = 0 ∨ ((bn, bd) : zFr).2 = 0) by show ¬ (ad = 0 ∨ bd = 0); omega)]; first | (rw [if_pos (by rw [zb_t (show an * bd ≤ bn * ad by omega)]; decide)]; done) | (rw [if_neg (by rw [zb_f (show ¬ an * bd ≤ bn * ad by omega)]; decide)]; done)) | (rw [if_neg (by omega), if_neg (by omega), if_neg (by omega), if_neg (by omega), if_neg (show ¬ -g = -9 by omega)]; unfold fon; rw [if_neg (show ¬ (((an, ad) : zFr).2 = 0 ∨ ((bn, bd) : zFr).2 = 0) by show ¬ (ad = 0 ∨ bd = 0); omega)]; first | (rw [if_pos (by rw [zb_t (show bn * ad ≤ an * bd by omega)]; decide)]; done) | (rw [if_neg (by rw [zb_f (show ¬ bn * ad ≤ an * bd by omega)]; decide)]; done))]; exact hM.put (g := (bn, bd)) rfl hfb hzb⟩
      · refine zt_iconst dX11_two_98 ?_
        refine zt_goto (tgt := 103) dX11_two_99 (by decide) ?_
        refine zt_istore_12 dX11_two_103 (by decide) rfl ?_
        refine zt_iload_n dX11_two_105 rfl ?_
        rcases (show g = 2 ∨ g = 3 ∨ g = 4 ∨ g = 5 ∨ (g < 2 ∨ 5 < g) by omega) with e_106 | e_106 | e_106 | e_106 | e_106
        · refine zt_tableIn (off := 30) (tgt := 136) dX11_two_106 (by omega) (by omega) (by omega) (by rw [e_106]; rfl) (by decide) ?_
          refine zt_aload_n dX11_two_136 rfl ?_
          refine zt_iload_n dX11_two_137 rfl ?_
          refine zt_lload dX11_two_138 rfl ?_
          refine zt_lload dX11_two_140 rfl ?_
          refine zt_lmul dX11_two_142 ?_
          refine zt_lload dX11_two_143 rfl ?_
          refine zt_lload dX11_two_145 rfl ?_
          refine zt_lmul dX11_two_147 ?_
          refine zt_ladd dX11_two_148 ?_
          refine zt_lload dX11_two_149 rfl ?_
          refine zt_lload dX11_two_151 rfl ?_
          refine zt_lmul dX11_two_153 ?_
          refine zt_callV3v dX11_two_154 ml_X11_257 (zs_38 hS) (Nat.le_of_ble_eq_true rfl) (c_puts (x := (an * bd) + (bn * ad)) (y := ad * bd) hS (hR.up (by decide)) (by omega) (by omega) (by omega)) ?_
          refine zt_goto (tgt := 266) dX11_two_157 (by decide) ?_
          exact zt_vret dX11_two_266 ⟨rfl, rfl, rfl, (zoM.top hR).trans (zoM.put (hR.up (by decide))), by rw [show f2 (-g) (an, ad) (bn, bd) = fr ((an * bd) + (bn * ad)) (ad * bd) by rw [e_106]; rfl]; exact hM.put rfl (fr_ok _ _) (fr_fz _ _)⟩
        · refine zt_tableIn (off := 54) (tgt := 160) dX11_two_106 (by omega) (by omega) (by omega) (by rw [e_106]; rfl) (by decide) ?_
          refine zt_aload_n dX11_two_160 rfl ?_
          refine zt_iload_n dX11_two_161 rfl ?_
          refine zt_lload dX11_two_162 rfl ?_
          refine zt_lload dX11_two_164 rfl ?_
          refine zt_lmul dX11_two_166 ?_
          refine zt_lload dX11_two_167 rfl ?_
          refine zt_lload dX11_two_169 rfl ?_
          refine zt_lmul dX11_two_171 ?_
          refine zt_lsub dX11_two_172 ?_
          refine zt_lload dX11_two_173 rfl ?_
          refine zt_lload dX11_two_175 rfl ?_
          refine zt_lmul dX11_two_177 ?_
          refine zt_callV3v dX11_two_178 ml_X11_257 (zs_38 hS) (Nat.le_of_ble_eq_true rfl) (c_puts (x := (an * bd) - (bn * ad)) (y := ad * bd) hS (hR.up (by decide)) (by omega) (by omega) (by omega)) ?_
          refine zt_goto (tgt := 266) dX11_two_181 (by decide) ?_
          exact zt_vret dX11_two_266 ⟨rfl, rfl, rfl, (zoM.top hR).trans (zoM.put (hR.up (by decide))), by rw [show f2 (-g) (an, ad) (bn, bd) = fr ((an * bd) - (bn * ad)) (ad * bd) by rw [e_106]; rfl]; exact hM.put rfl (fr_ok _ _) (fr_fz _ _)⟩
        · refine zt_tableIn (off := 78) (tgt := 184) dX11_two_106 (by omega) (by omega) (by omega) (by rw [e_106]; rfl) (by decide) ?_
          refine zt_aload_n dX11_two_184 rfl ?_
          refine zt_iload_n dX11_two_185 rfl ?_
          refine zt_lload dX11_two_186 rfl ?_
          refine zt_lload dX11_two_188 rfl ?_
          refine zt_lmul dX11_two_190 ?_
          refine zt_lload dX11_two_191 rfl ?_
          refine zt_lload dX11_two_193 rfl ?_
          refine zt_lmul dX11_two_195 ?_
          refine zt_callV3v dX11_two_196 ml_X11_257 (zs_38 hS) (Nat.le_of_ble_eq_true rfl) (c_puts (x := an * bn) (y := ad * bd) hS (hR.up (by decide)) (by omega) (by omega) (by omega)) ?_
          refine zt_goto (tgt := 266) dX11_two_199 (by decide) ?_
          exact zt_vret dX11_two_266 ⟨rfl, rfl, rfl, (zoM.top hR).trans (zoM.put (hR.up (by decide))), by rw [show f2 (-g) (an, ad) (bn, bd) = fr (an * bn) (ad * bd) by rw [e_106]; rfl]; exact hM.put rfl (fr_ok _ _) (fr_fz _ _)⟩
        · refine zt_tableIn (off := 96) (tgt := 202) dX11_two_106 (by omega) (by omega) (by omega) (by rw [e_106]; rfl) (by decide) ?_
          refine zt_aload_n dX11_two_202 rfl ?_
          refine zt_iload_n dX11_two_203 rfl ?_
          refine zt_lload dX11_two_204 rfl ?_
          refine zt_lload dX11_two_206 rfl ?_
          refine zt_lmul dX11_two_208 ?_
          refine zt_lload dX11_two_209 rfl ?_
          refine zt_lload dX11_two_211 rfl ?_
          refine zt_lmul dX11_two_213 ?_
          refine zt_callV3v dX11_two_214 ml_X11_257 (zs_38 hS) (Nat.le_of_ble_eq_true rfl) (c_puts (x := an * bd) (y := ad * bn) hS (hR.up (by decide)) (by omega) (by omega) (by omega)) ?_
          refine zt_goto (tgt := 266) dX11_two_217 (by decide) ?_
          exact zt_vret dX11_two_266 ⟨rfl, rfl, rfl, (zoM.top hR).trans (zoM.put (hR.up (by decide))), by rw [show f2 (-g) (an, ad) (bn, bd) = fr (an * bd) (ad * bn) by rw [e_106]; rfl]; exact hM.put rfl (fr_ok _ _) (fr_fz _ _)⟩
        · refine zt_tableOut (tgt := 220) dX11_two_106 (by omega) e_106 (by decide) ?_
          refine zt_iload_n dX11_two_220 rfl ?_
          refine zt_bipush dX11_two_221 (by decide) ?_
          refine zt_icmp_ne (tgt := 230) dX11_two_223 (by decide) (by omega) (by decide) (fun c_223 => ?_) (fun c_223 => ?_)
          · refine zt_iconst dX11_two_230 ?_
            refine zt_iload dX11_two_231 rfl ?_
            refine zt_icmp_eq (tgt := 266) dX11_two_233 (by decide) (by decide) (by decide) (fun q => absurd q (by decide)) (fun c_233 => ?_)
            refine zt_lload dX11_two_236 rfl ?_
            refine zt_lload dX11_two_238 rfl ?_
            refine zt_lmul dX11_two_240 ?_
            refine zt_lload dX11_two_241 rfl ?_
            refine zt_lload dX11_two_243 rfl ?_
            refine zt_lmul dX11_two_245 ?_
            refine zt_lc_eq (tgt := 266) dX11_two_246 dX11_two_247 (by decide) (by omega) (by omega) (fun c_246 => ?_) (fun c_246 => ?_)
            · exact zt_vret dX11_two_266 ⟨rfl, rfl, rfl, zoM.top hR, by rw [show f2 (-g) (an, ad) (bn, bd) = (an, ad) by unfold f2; first | (rw [if_neg (by omega), if_neg (by omega), if_neg (by omega), if_neg (by omega), if_pos (show -g = -9 by omega)]; unfold fon; rw [if_neg (show ¬ (((an, ad) : zFr).2 = 0 ∨ ((bn, bd) : zFr).2 = 0) by show ¬ (ad = 0 ∨ bd = 0); omega)]; first | (rw [if_pos (by rw [zb_t (show an * bd ≤ bn * ad by omega)]; decide)]; done) | (rw [if_neg (by rw [zb_f (show ¬ an * bd ≤ bn * ad by omega)]; decide)]; done)) | (rw [if_neg (by omega), if_neg (by omega), if_neg (by omega), if_neg (by omega), if_neg (show ¬ -g = -9 by omega)]; unfold fon; rw [if_neg (show ¬ (((an, ad) : zFr).2 = 0 ∨ ((bn, bd) : zFr).2 = 0) by show ¬ (ad = 0 ∨ bd = 0); omega)]; first | (rw [if_pos (by rw [zb_t (show bn * ad ≤ an * bd by omega)]; decide)]; done) | (rw [if_neg (by rw [zb_f (show ¬ bn * ad ≤ an * bd by omega)]; decide)]; done))]; exact hM⟩
            · refine zt_aload_n dX11_two_250 rfl ?_
              refine zt_getv dX11_two_251 fl_X11_115 (zs_38 hS) (rf_38_52 (hR.up (by decide))) ?_
              refine zt_iload_n dX11_two_254 rfl ?_
              refine zt_lload dX11_two_255 rfl ?_
              refine zt_lastore dX11_two_257 (zs_72 hS) (by decide) (by omega) (by omega) (by omega) ?_
              refine zt_aload_n dX11_two_258 rfl ?_
              refine zt_getv dX11_two_259 fl_X11_119 (zs_38 hS) (rf_38_53 ((hR.up (by decide)).upA (by decide))) ?_
              refine zt_iload_n dX11_two_262 rfl ?_
              refine zt_lload dX11_two_263 rfl ?_
              refine zt_lastore dX11_two_265 (zs_73 hS) (by decide) (by omega) (by omega) (by omega) ?_
              exact zt_vret dX11_two_266 ⟨rfl, rfl, rfl, (zoM.top hR).trans (zoM.put (hR.up (by decide))), by rw [show f2 (-g) (an, ad) (bn, bd) = (bn, bd) by unfold f2; first | (rw [if_neg (by omega), if_neg (by omega), if_neg (by omega), if_neg (by omega), if_pos (show -g = -9 by omega)]; unfold fon; rw [if_neg (show ¬ (((an, ad) : zFr).2 = 0 ∨ ((bn, bd) : zFr).2 = 0) by show ¬ (ad = 0 ∨ bd = 0); omega)]; first | (rw [if_pos (by rw [zb_t (show an * bd ≤ bn * ad by omega)]; decide)]; done) | (rw [if_neg (by rw [zb_f (show ¬ an * bd ≤ bn * ad by omega)]; decide)]; done)) | (rw [if_neg (by omega), if_neg (by omega), if_neg (by omega), if_neg (by omega), if_neg (show ¬ -g = -9 by omega)]; unfold fon; rw [if_neg (show ¬ (((an, ad) : zFr).2 = 0 ∨ ((bn, bd) : zFr).2 = 0) by show ¬ (ad = 0 ∨ bd = 0); omega)]; first | (rw [if_pos (by rw [zb_t (show bn * ad ≤ an * bd by omega)]; decide)]; done) | (rw [if_neg (by rw [zb_f (show ¬ bn * ad ≤ an * bd by omega)]; decide)]; done))]; exact hM.put (g := (bn, bd)) rfl hfb hzb⟩
          · refine zt_iconst dX11_two_226 ?_
            refine zt_goto (tgt := 231) dX11_two_227 (by decide) ?_
            refine zt_iload dX11_two_231 rfl ?_
            refine zt_icmp_eq (tgt := 266) dX11_two_233 (by decide) (by decide) (by decide) (fun c_233 => ?_) (fun q => absurd q (by decide))
            exact zt_vret dX11_two_266 ⟨rfl, rfl, rfl, zoM.top hR, by rw [show f2 (-g) (an, ad) (bn, bd) = (an, ad) by unfold f2; first | (rw [if_neg (by omega), if_neg (by omega), if_neg (by omega), if_neg (by omega), if_pos (show -g = -9 by omega)]; unfold fon; rw [if_neg (show ¬ (((an, ad) : zFr).2 = 0 ∨ ((bn, bd) : zFr).2 = 0) by show ¬ (ad = 0 ∨ bd = 0); omega)]; first | (rw [if_pos (by rw [zb_t (show an * bd ≤ bn * ad by omega)]; decide)]; done) | (rw [if_neg (by rw [zb_f (show ¬ an * bd ≤ bn * ad by omega)]; decide)]; done)) | (rw [if_neg (by omega), if_neg (by omega), if_neg (by omega), if_neg (by omega), if_neg (show ¬ -g = -9 by omega)]; unfold fon; rw [if_neg (show ¬ (((an, ad) : zFr).2 = 0 ∨ ((bn, bd) : zFr).2 = 0) by show ¬ (ad = 0 ∨ bd = 0); omega)]; first | (rw [if_pos (by rw [zb_t (show bn * ad ≤ an * bd by omega)]; decide)]; done) | (rw [if_neg (by rw [zb_f (show ¬ bn * ad ≤ an * bd by omega)]; decide)]; done))]; exact hM⟩
    · refine zt_aload_n dX11_two_44 rfl ?_
      refine zt_getv dX11_two_45 fl_X11_119 (zs_38 hS) (rf_38_53 (hR.up (by decide))) ?_
      refine zt_iload_n dX11_two_48 rfl ?_
      refine zt_lconst (v := 0) dX11_two_49 rfl ?_
      refine zt_lastore dX11_two_50 (zs_73 hS) (by decide) (by omega) (by omega) (by decide) ?_
      exact zt_vret dX11_two_51 ⟨rfl, rfl, rfl, (zoM.top hR).trans (zoM.nil (hR.up (by decide))), (hM.nil rfl).swap rfl (f2_none hza hzb (by first | exact Or.inl c_29 | exact Or.inr c_40)) (f2_ok hfa hfb) (f2_fz hza hzb)⟩
