set_option maxRecDepth 100000 in
set_option maxHeartbeats 4000000 in
theorem c_choo_m {d n : Nat} {sh : zSh} {h : zMem} {g an ad bn bd tn td zn zd : Int} {s : List zFr} (hS : zShp sh) (hR : zRf h) (hs : mst h ((zn, zd) :: (tn, td) :: (bn, bd) :: (an, ad) :: s)) (hl : s.length < 196) (hg : g = 11 ∨ g = 12 ∨ g = 13) : zM yX11_chooses cX11_chooses 8 none (d + 0) 0 0 [(2, 38), (0, g)] n sh h (fun r n1 sh1 h1 => r = none ∧ n1 = n ∧ sh1 = sh ∧ zoM h h1 ∧ mst h1 (fIf (-g) (an, ad) (bn, bd) (tn, td) (zn, zd) :: s)) := by
  refine zM.ofT2 (by decide +kernel) [some (2, 38), some (0, g), none, none, none, none, none, none] rfl (Nat.le_of_ble_eq_true rfl) ?_
  refine zt_rg (fun hm => ?_)
  have ht := hs.1
  simp only [List.length_cons] at ht
  have hzd := hs.2.1.1
  have hzn := hs.2.1.2
  have htd := hs.2.2.2.1.1
  have htn := hs.2.2.2.1.2
  have hbd := hs.2.2.2.2.2.1.1
  have hbn := hs.2.2.2.2.2.1.2
  have had := hs.2.2.2.2.2.2.2.1.1
  have han := hs.2.2.2.2.2.2.2.1.2
  simp only [List.length_cons] at hzd hzn htd htn hbd hbn
  rw [show ((s.length + 1 + 1 + 1 : Nat) : Int) = (s.length : Int) + 3 by omega] at hzd hzn
  rw [show ((s.length + 1 + 1 : Nat) : Int) = (s.length : Int) + 2 by omega] at htd htn
  rw [show ((s.length + 1 : Nat) : Int) = (s.length : Int) + 1 by omega] at hbd hbn
  simp only [] at hzd hzn htd htn hbd hbn had han
  have hfz := hs.2.2.1.1
  have hzz := hs.2.2.1.2
  have hft := hs.2.2.2.2.1.1
  have hzt := hs.2.2.2.2.1.2
  have hfb := hs.2.2.2.2.2.2.1.1
  have hfa := hs.2.2.2.2.2.2.2.2.1.1
  have hf1 := hfa.1
  have hf2 := hfa.2.1
  have hf3 := hfb.1
  have hf4 := hfb.2.1
  have hf5 := hft.2.1
  have hf6 := hfz.2.1
  simp only [] at hf1 hf2 hf3 hf4 hf5 hf6
  have hM : mst (zup h 38 54 ((s.length : Int) + 1)) ((an, ad) :: s) := mst.top hs.2.2.2.2.2.2.2 (by rw [List.length_cons]; omega)
  have m1 := zmb (A := 1000000000) (B := 1000000000) (x := an) (y := bd) (by omega) (by omega)
  have m2 := zmb (A := 1000000000) (B := 1000000000) (x := bn) (y := ad) (by omega) (by omega)
  have hF := fhd_iff (p := -g) (a := (an, ad)) (b := (bn, bd))
  simp only [] at hF
  have hr2 : zi64 (h 72 ((s.length : Int) + 2)) := hm.long (zs_72 hS) (by omega) (by omega)
  have hr3 : zi64 (h 72 ((s.length : Int) + 3)) := hm.long (zs_72 hS) (by omega) (by omega)
  refine zt_aload_n dX11_chooses_0 rfl ?_
  refine zt_dup dX11_chooses_1 (Nat.ne_of_beq_eq_false rfl) ?_
  refine zt_getv (v := (s.length : Int) + 1 + 1 + 1 + 1) dX11_chooses_2 fl_X11_254 (zs_38 hS) (by omega) ?_
  refine zt_iconst dX11_chooses_5 ?_
  refine zt_isub dX11_chooses_6 ?_
  refine zt_topv (v := (s.length : Int) + 1) (by omega) ?_
  refine zt_puti dX11_chooses_7 fl_X11_254 rfl (zs_38 hS) (by omega) ?_
  refine zt_aload_n dX11_chooses_10 rfl ?_
  refine zt_getv (v := (s.length : Int) + 1) dX11_chooses_11 fl_X11_254 (zs_38 hS) zupE ?_
  refine zt_iconst dX11_chooses_14 ?_
  refine zt_isub dX11_chooses_15 ?_
  refine zt_topv (v := (s.length : Int)) (by omega) ?_
  refine zt_istore_n_2 dX11_chooses_16 (by decide) rfl ?_
  refine zt_aload_n dX11_chooses_17 rfl ?_
  refine zt_getv dX11_chooses_18 fl_X11_119 (zs_38 hS) (rf_38_53 (hR.up (by decide))) ?_
  refine zt_iload_n dX11_chooses_21 rfl ?_
  refine zt_laloadv (v := ad) dX11_chooses_22 (zs_73 hS) (by decide) (by omega) (by omega) ((zupA (by decide)).trans had) ?_
  refine zt_lconst (v := 0) dX11_chooses_23 rfl ?_
  refine zt_lc_eq (tgt := 41) dX11_chooses_24 dX11_chooses_25 (by decide) (by omega) (by decide) (fun c_24 => ?_) (fun c_24 => ?_)
  · refine zt_aload_n dX11_chooses_41 rfl ?_
    refine zt_getv dX11_chooses_42 fl_X11_119 (zs_38 hS) (rf_38_53 (hR.up (by decide))) ?_
    refine zt_iload_n dX11_chooses_45 rfl ?_
    refine zt_lconst (v := 0) dX11_chooses_46 rfl ?_
    refine zt_lastore dX11_chooses_47 (zs_73 hS) (by decide) (by omega) (by omega) (by decide) ?_
    exact zt_vret dX11_chooses_48 ⟨rfl, rfl, rfl, (zoM.top hR).trans (zoM.nil (hR.up (by decide))), by rw [show fIf (-g) (an, ad) (bn, bd) (tn, td) (zn, zd) = (0, 0) from if_pos (by first | exact Or.inl c_24 | exact Or.inr c_37)]; exact hM.nil rfl⟩
  · refine zt_aload_n dX11_chooses_28 rfl ?_
    refine zt_getv dX11_chooses_29 fl_X11_119 (zs_38 hS) (rf_38_53 (hR.up (by decide))) ?_
    refine zt_iload_n dX11_chooses_32 rfl ?_
    refine zt_iconst dX11_chooses_33 ?_
    refine zt_iadd dX11_chooses_34 ?_
    refine zt_laloadv (v := bd) dX11_chooses_35 (zs_73 hS) (by decide) (by omega) (by omega) ((zupA (by decide)).trans hbd) ?_
    refine zt_lconst (v := 0) dX11_chooses_36 rfl ?_
    refine zt_lc_ne (tgt := 49) dX11_chooses_37 dX11_chooses_38 (by decide) (by omega) (by decide) (fun c_37 => ?_) (fun c_37 => ?_)
    · refine zt_aload_n dX11_chooses_49 rfl ?_
      refine zt_getv dX11_chooses_50 fl_X11_115 (zs_38 hS) (rf_38_52 (hR.up (by decide))) ?_
      refine zt_iload_n dX11_chooses_53 rfl ?_
      refine zt_laloadv (v := an) dX11_chooses_54 (zs_72 hS) (by decide) (by omega) (by omega) ((zupA (by decide)).trans (han c_24)) ?_
      refine zt_aload_n dX11_chooses_55 rfl ?_
      refine zt_getv dX11_chooses_56 fl_X11_119 (zs_38 hS) (rf_38_53 (hR.up (by decide))) ?_
      refine zt_iload_n dX11_chooses_59 rfl ?_
      refine zt_iconst dX11_chooses_60 ?_
      refine zt_iadd dX11_chooses_61 ?_
      refine zt_laloadv (v := bd) dX11_chooses_62 (zs_73 hS) (by decide) (by omega) (by omega) ((zupA (by decide)).trans hbd) ?_
      refine zt_lmul dX11_chooses_63 ?_
      refine zt_lstore_n_3 dX11_chooses_64 (by decide) rfl ?_
      refine zt_aload_n dX11_chooses_65 rfl ?_
      refine zt_getv dX11_chooses_66 fl_X11_115 (zs_38 hS) (rf_38_52 (hR.up (by decide))) ?_
      refine zt_iload_n dX11_chooses_69 rfl ?_
      refine zt_iconst dX11_chooses_70 ?_
      refine zt_iadd dX11_chooses_71 ?_
      refine zt_laloadv (v := bn) dX11_chooses_72 (zs_72 hS) (by decide) (by omega) (by omega) ((zupA (by decide)).trans (hbn c_37)) ?_
      refine zt_aload_n dX11_chooses_73 rfl ?_
      refine zt_getv dX11_chooses_74 fl_X11_119 (zs_38 hS) (rf_38_53 (hR.up (by decide))) ?_
      refine zt_iload_n dX11_chooses_77 rfl ?_
      refine zt_laloadv (v := ad) dX11_chooses_78 (zs_73 hS) (by decide) (by omega) (by omega) ((zupA (by decide)).trans had) ?_
      refine zt_lmul dX11_chooses_79 ?_
      refine zt_lstore_5 dX11_chooses_80 (by decide) rfl ?_
      refine zt_iload_n dX11_chooses_82 rfl ?_
      refine zt_bipush dX11_chooses_83 (by decide) ?_
      refine zt_icmp_ne (tgt := 103) dX11_chooses_85 (by decide) (by omega) (by decide) (fun c_85 => ?_) (fun c_85 => ?_)
      · refine zt_iload_n dX11_chooses_103 rfl ?_
        refine zt_bipush dX11_chooses_104 (by decide) ?_
        refine zt_icmp_ne (tgt := 124) dX11_chooses_106 (by decide) (by omega) (by decide) (fun c_106 => ?_) (fun c_106 => ?_)
        · refine zt_lload_n dX11_chooses_124 rfl ?_
          refine zt_lload dX11_chooses_125 rfl ?_
          refine zt_lc_ne (tgt := 135) dX11_chooses_127 dX11_chooses_128 (by decide) (by omega) (by omega) (fun c_127 => ?_) (fun c_127 => ?_)
          · refine zt_iconst dX11_chooses_135 ?_
            refine zt_istore_7 dX11_chooses_136 (by decide) rfl ?_
            refine zt_aload_n dX11_chooses_138 rfl ?_
            refine zt_getv dX11_chooses_139 fl_X11_115 (zs_38 hS) (rf_38_52 (hR.up (by decide))) ?_
            refine zt_iload_n dX11_chooses_142 rfl ?_
            refine zt_aload_n dX11_chooses_143 rfl ?_
            refine zt_getv dX11_chooses_144 fl_X11_115 (zs_38 hS) (rf_38_52 (hR.up (by decide))) ?_
            refine zt_iload dX11_chooses_147 rfl ?_
            refine zt_if_eq (tgt := 158) dX11_chooses_149 (by decide) (by decide) (fun c_149 => ?_) (fun q => absurd q (by decide))
            refine zt_iload_n dX11_chooses_158 rfl ?_
            refine zt_iconst dX11_chooses_159 ?_
            refine zt_iadd dX11_chooses_160 ?_
            refine zt_laloadv (v := h 72 ((s.length : Int) + 3)) dX11_chooses_161 (zs_72 hS) (by decide) (by omega) (by omega) ((zupA (by decide)).trans rfl) ?_
            refine zt_lastore dX11_chooses_162 (zs_72 hS) (by decide) (by omega) (by omega) (by omega) ?_
            refine zt_aload_n dX11_chooses_163 rfl ?_
            refine zt_getv dX11_chooses_164 fl_X11_119 (zs_38 hS) (rf_38_53 ((hR.up (by decide)).upA (by decide))) ?_
            refine zt_iload_n dX11_chooses_167 rfl ?_
            refine zt_aload_n dX11_chooses_168 rfl ?_
            refine zt_getv dX11_chooses_169 fl_X11_119 (zs_38 hS) (rf_38_53 ((hR.up (by decide)).upA (by decide))) ?_
            refine zt_iload dX11_chooses_172 rfl ?_
            refine zt_if_eq (tgt := 183) dX11_chooses_174 (by decide) (by decide) (fun c_174 => ?_) (fun q => absurd q (by decide))
            refine zt_iload_n dX11_chooses_183 rfl ?_
            refine zt_iconst dX11_chooses_184 ?_
            refine zt_iadd dX11_chooses_185 ?_
            refine zt_laloadv (v := zd) dX11_chooses_186 (zs_73 hS) (by decide) (by omega) (by omega) ((zupA (by decide)).trans ((zupA (by decide)).trans hzd)) ?_
            refine zt_lastore dX11_chooses_187 (zs_73 hS) (by decide) (by omega) (by omega) (by omega) ?_
            exact zt_vret dX11_chooses_188 ⟨rfl, rfl, rfl, (zoM.top hR).trans (zoM.put (hR.up (by decide))), by rw [show fIf (-g) (an, ad) (bn, bd) (tn, td) (zn, zd) = (zn, zd) from (if_neg (show ¬ (((an, ad) : zFr).2 = 0 ∨ ((bn, bd) : zFr).2 = 0) by show ¬ (ad = 0 ∨ bd = 0); omega)).trans (if_neg (fun q => by have := hF.mp q; omega))]; exact hM.putx (g := (zn, zd)) rfl hfz hzz rfl hzn⟩
          · refine zt_iconst dX11_chooses_131 ?_
            refine zt_goto (tgt := 136) dX11_chooses_132 (by decide) ?_
            refine zt_istore_7 dX11_chooses_136 (by decide) rfl ?_
            refine zt_aload_n dX11_chooses_138 rfl ?_
            refine zt_getv dX11_chooses_139 fl_X11_115 (zs_38 hS) (rf_38_52 (hR.up (by decide))) ?_
            refine zt_iload_n dX11_chooses_142 rfl ?_
            refine zt_aload_n dX11_chooses_143 rfl ?_
            refine zt_getv dX11_chooses_144 fl_X11_115 (zs_38 hS) (rf_38_52 (hR.up (by decide))) ?_
            refine zt_iload dX11_chooses_147 rfl ?_
            refine zt_if_eq (tgt := 158) dX11_chooses_149 (by decide) (by decide) (fun q => absurd q (by decide)) (fun c_149 => ?_)
            refine zt_iload_n dX11_chooses_152 rfl ?_
            refine zt_iconst dX11_chooses_153 ?_
            refine zt_iadd dX11_chooses_154 ?_
            refine zt_goto (tgt := 161) dX11_chooses_155 (by decide) ?_
            refine zt_laloadv (v := h 72 ((s.length : Int) + 2)) dX11_chooses_161 (zs_72 hS) (by decide) (by omega) (by omega) ((zupA (by decide)).trans rfl) ?_
            refine zt_lastore dX11_chooses_162 (zs_72 hS) (by decide) (by omega) (by omega) (by omega) ?_
            refine zt_aload_n dX11_chooses_163 rfl ?_
            refine zt_getv dX11_chooses_164 fl_X11_119 (zs_38 hS) (rf_38_53 ((hR.up (by decide)).upA (by decide))) ?_
            refine zt_iload_n dX11_chooses_167 rfl ?_
            refine zt_aload_n dX11_chooses_168 rfl ?_
            refine zt_getv dX11_chooses_169 fl_X11_119 (zs_38 hS) (rf_38_53 ((hR.up (by decide)).upA (by decide))) ?_
            refine zt_iload dX11_chooses_172 rfl ?_
            refine zt_if_eq (tgt := 183) dX11_chooses_174 (by decide) (by decide) (fun q => absurd q (by decide)) (fun c_174 => ?_)
            refine zt_iload_n dX11_chooses_177 rfl ?_
            refine zt_iconst dX11_chooses_178 ?_
            refine zt_iadd dX11_chooses_179 ?_
            refine zt_goto (tgt := 186) dX11_chooses_180 (by decide) ?_
            refine zt_laloadv (v := td) dX11_chooses_186 (zs_73 hS) (by decide) (by omega) (by omega) ((zupA (by decide)).trans ((zupA (by decide)).trans htd)) ?_
            refine zt_lastore dX11_chooses_187 (zs_73 hS) (by decide) (by omega) (by omega) (by omega) ?_
            exact zt_vret dX11_chooses_188 ⟨rfl, rfl, rfl, (zoM.top hR).trans (zoM.put (hR.up (by decide))), by rw [show fIf (-g) (an, ad) (bn, bd) (tn, td) (zn, zd) = (tn, td) from (if_neg (show ¬ (((an, ad) : zFr).2 = 0 ∨ ((bn, bd) : zFr).2 = 0) by show ¬ (ad = 0 ∨ bd = 0); omega)).trans (if_pos (hF.mpr (by omega)))]; exact hM.putx (g := (tn, td)) rfl hft hzt rfl htn⟩
        · refine zt_lload_n dX11_chooses_109 rfl ?_
          refine zt_lload dX11_chooses_110 rfl ?_
          refine zt_lc_le (tgt := 120) dX11_chooses_112 dX11_chooses_113 (by decide) (by omega) (by omega) (fun c_112 => ?_) (fun c_112 => ?_)
          · refine zt_iconst dX11_chooses_120 ?_
            refine zt_goto (tgt := 136) dX11_chooses_121 (by decide) ?_
            refine zt_istore_7 dX11_chooses_136 (by decide) rfl ?_
            refine zt_aload_n dX11_chooses_138 rfl ?_
            refine zt_getv dX11_chooses_139 fl_X11_115 (zs_38 hS) (rf_38_52 (hR.up (by decide))) ?_
            refine zt_iload_n dX11_chooses_142 rfl ?_
            refine zt_aload_n dX11_chooses_143 rfl ?_
            refine zt_getv dX11_chooses_144 fl_X11_115 (zs_38 hS) (rf_38_52 (hR.up (by decide))) ?_
            refine zt_iload dX11_chooses_147 rfl ?_
            refine zt_if_eq (tgt := 158) dX11_chooses_149 (by decide) (by decide) (fun c_149 => ?_) (fun q => absurd q (by decide))
            refine zt_iload_n dX11_chooses_158 rfl ?_
            refine zt_iconst dX11_chooses_159 ?_
            refine zt_iadd dX11_chooses_160 ?_
            refine zt_laloadv (v := h 72 ((s.length : Int) + 3)) dX11_chooses_161 (zs_72 hS) (by decide) (by omega) (by omega) ((zupA (by decide)).trans rfl) ?_
            refine zt_lastore dX11_chooses_162 (zs_72 hS) (by decide) (by omega) (by omega) (by omega) ?_
            refine zt_aload_n dX11_chooses_163 rfl ?_
            refine zt_getv dX11_chooses_164 fl_X11_119 (zs_38 hS) (rf_38_53 ((hR.up (by decide)).upA (by decide))) ?_
            refine zt_iload_n dX11_chooses_167 rfl ?_
            refine zt_aload_n dX11_chooses_168 rfl ?_
            refine zt_getv dX11_chooses_169 fl_X11_119 (zs_38 hS) (rf_38_53 ((hR.up (by decide)).upA (by decide))) ?_
            refine zt_iload dX11_chooses_172 rfl ?_
            refine zt_if_eq (tgt := 183) dX11_chooses_174 (by decide) (by decide) (fun c_174 => ?_) (fun q => absurd q (by decide))
            refine zt_iload_n dX11_chooses_183 rfl ?_
            refine zt_iconst dX11_chooses_184 ?_
            refine zt_iadd dX11_chooses_185 ?_
            refine zt_laloadv (v := zd) dX11_chooses_186 (zs_73 hS) (by decide) (by omega) (by omega) ((zupA (by decide)).trans ((zupA (by decide)).trans hzd)) ?_
            refine zt_lastore dX11_chooses_187 (zs_73 hS) (by decide) (by omega) (by omega) (by omega) ?_
            exact zt_vret dX11_chooses_188 ⟨rfl, rfl, rfl, (zoM.top hR).trans (zoM.put (hR.up (by decide))), by rw [show fIf (-g) (an, ad) (bn, bd) (tn, td) (zn, zd) = (zn, zd) from (if_neg (show ¬ (((an, ad) : zFr).2 = 0 ∨ ((bn, bd) : zFr).2 = 0) by show ¬ (ad = 0 ∨ bd = 0); omega)).trans (if_neg (fun q => by have := hF.mp q; omega))]; exact hM.putx (g := (zn, zd)) rfl hfz hzz rfl hzn⟩
          · refine zt_iconst dX11_chooses_116 ?_
            refine zt_goto (tgt := 136) dX11_chooses_117 (by decide) ?_
            refine zt_istore_7 dX11_chooses_136 (by decide) rfl ?_
            refine zt_aload_n dX11_chooses_138 rfl ?_
            refine zt_getv dX11_chooses_139 fl_X11_115 (zs_38 hS) (rf_38_52 (hR.up (by decide))) ?_
            refine zt_iload_n dX11_chooses_142 rfl ?_
            refine zt_aload_n dX11_chooses_143 rfl ?_
            refine zt_getv dX11_chooses_144 fl_X11_115 (zs_38 hS) (rf_38_52 (hR.up (by decide))) ?_
            refine zt_iload dX11_chooses_147 rfl ?_
            refine zt_if_eq (tgt := 158) dX11_chooses_149 (by decide) (by decide) (fun q => absurd q (by decide)) (fun c_149 => ?_)
            refine zt_iload_n dX11_chooses_152 rfl ?_
            refine zt_iconst dX11_chooses_153 ?_
            refine zt_iadd dX11_chooses_154 ?_
            refine zt_goto (tgt := 161) dX11_chooses_155 (by decide) ?_
            refine zt_laloadv (v := h 72 ((s.length : Int) + 2)) dX11_chooses_161 (zs_72 hS) (by decide) (by omega) (by omega) ((zupA (by decide)).trans rfl) ?_
            refine zt_lastore dX11_chooses_162 (zs_72 hS) (by decide) (by omega) (by omega) (by omega) ?_
            refine zt_aload_n dX11_chooses_163 rfl ?_
            refine zt_getv dX11_chooses_164 fl_X11_119 (zs_38 hS) (rf_38_53 ((hR.up (by decide)).upA (by decide))) ?_
            refine zt_iload_n dX11_chooses_167 rfl ?_
            refine zt_aload_n dX11_chooses_168 rfl ?_
            refine zt_getv dX11_chooses_169 fl_X11_119 (zs_38 hS) (rf_38_53 ((hR.up (by decide)).upA (by decide))) ?_
            refine zt_iload dX11_chooses_172 rfl ?_
            refine zt_if_eq (tgt := 183) dX11_chooses_174 (by decide) (by decide) (fun q => absurd q (by decide)) (fun c_174 => ?_)
            refine zt_iload_n dX11_chooses_177 rfl ?_
            refine zt_iconst dX11_chooses_178 ?_
            refine zt_iadd dX11_chooses_179 ?_
            refine zt_goto (tgt := 186) dX11_chooses_180 (by decide) ?_
            refine zt_laloadv (v := td) dX11_chooses_186 (zs_73 hS) (by decide) (by omega) (by omega) ((zupA (by decide)).trans ((zupA (by decide)).trans htd)) ?_
            refine zt_lastore dX11_chooses_187 (zs_73 hS) (by decide) (by omega) (by omega) (by omega) ?_
            exact zt_vret dX11_chooses_188 ⟨rfl, rfl, rfl, (zoM.top hR).trans (zoM.put (hR.up (by decide))), by rw [show fIf (-g) (an, ad) (bn, bd) (tn, td) (zn, zd) = (tn, td) from (if_neg (show ¬ (((an, ad) : zFr).2 = 0 ∨ ((bn, bd) : zFr).2 = 0) by show ¬ (ad = 0 ∨ bd = 0); omega)).trans (if_pos (hF.mpr (by omega)))]; exact hM.putx (g := (tn, td)) rfl hft hzt rfl htn⟩
      · refine zt_lload_n dX11_chooses_88 rfl ?_
        refine zt_lload dX11_chooses_89 rfl ?_
        refine zt_lc_ge (tgt := 99) dX11_chooses_91 dX11_chooses_92 (by decide) (by omega) (by omega) (fun c_91 => ?_) (fun c_91 => ?_)
        · refine zt_iconst dX11_chooses_99 ?_
          refine zt_goto (tgt := 136) dX11_chooses_100 (by decide) ?_
          refine zt_istore_7 dX11_chooses_136 (by decide) rfl ?_
          refine zt_aload_n dX11_chooses_138 rfl ?_
          refine zt_getv dX11_chooses_139 fl_X11_115 (zs_38 hS) (rf_38_52 (hR.up (by decide))) ?_
          refine zt_iload_n dX11_chooses_142 rfl ?_
          refine zt_aload_n dX11_chooses_143 rfl ?_
          refine zt_getv dX11_chooses_144 fl_X11_115 (zs_38 hS) (rf_38_52 (hR.up (by decide))) ?_
          refine zt_iload dX11_chooses_147 rfl ?_
          refine zt_if_eq (tgt := 158) dX11_chooses_149 (by decide) (by decide) (fun c_149 => ?_) (fun q => absurd q (by decide))
          refine zt_iload_n dX11_chooses_158 rfl ?_
          refine zt_iconst dX11_chooses_159 ?_
          refine zt_iadd dX11_chooses_160 ?_
          refine zt_laloadv (v := h 72 ((s.length : Int) + 3)) dX11_chooses_161 (zs_72 hS) (by decide) (by omega) (by omega) ((zupA (by decide)).trans rfl) ?_
          refine zt_lastore dX11_chooses_162 (zs_72 hS) (by decide) (by omega) (by omega) (by omega) ?_
          refine zt_aload_n dX11_chooses_163 rfl ?_
          refine zt_getv dX11_chooses_164 fl_X11_119 (zs_38 hS) (rf_38_53 ((hR.up (by decide)).upA (by decide))) ?_
          refine zt_iload_n dX11_chooses_167 rfl ?_
          refine zt_aload_n dX11_chooses_168 rfl ?_
          refine zt_getv dX11_chooses_169 fl_X11_119 (zs_38 hS) (rf_38_53 ((hR.up (by decide)).upA (by decide))) ?_
          refine zt_iload dX11_chooses_172 rfl ?_
          refine zt_if_eq (tgt := 183) dX11_chooses_174 (by decide) (by decide) (fun c_174 => ?_) (fun q => absurd q (by decide))
          refine zt_iload_n dX11_chooses_183 rfl ?_
          refine zt_iconst dX11_chooses_184 ?_
          refine zt_iadd dX11_chooses_185 ?_
          refine zt_laloadv (v := zd) dX11_chooses_186 (zs_73 hS) (by decide) (by omega) (by omega) ((zupA (by decide)).trans ((zupA (by decide)).trans hzd)) ?_
          refine zt_lastore dX11_chooses_187 (zs_73 hS) (by decide) (by omega) (by omega) (by omega) ?_
          exact zt_vret dX11_chooses_188 ⟨rfl, rfl, rfl, (zoM.top hR).trans (zoM.put (hR.up (by decide))), by rw [show fIf (-g) (an, ad) (bn, bd) (tn, td) (zn, zd) = (zn, zd) from (if_neg (show ¬ (((an, ad) : zFr).2 = 0 ∨ ((bn, bd) : zFr).2 = 0) by show ¬ (ad = 0 ∨ bd = 0); omega)).trans (if_neg (fun q => by have := hF.mp q; omega))]; exact hM.putx (g := (zn, zd)) rfl hfz hzz rfl hzn⟩
        · refine zt_iconst dX11_chooses_95 ?_
          refine zt_goto (tgt := 136) dX11_chooses_96 (by decide) ?_
          refine zt_istore_7 dX11_chooses_136 (by decide) rfl ?_
          refine zt_aload_n dX11_chooses_138 rfl ?_
          refine zt_getv dX11_chooses_139 fl_X11_115 (zs_38 hS) (rf_38_52 (hR.up (by decide))) ?_
          refine zt_iload_n dX11_chooses_142 rfl ?_
          refine zt_aload_n dX11_chooses_143 rfl ?_
          refine zt_getv dX11_chooses_144 fl_X11_115 (zs_38 hS) (rf_38_52 (hR.up (by decide))) ?_
          refine zt_iload dX11_chooses_147 rfl ?_
          refine zt_if_eq (tgt := 158) dX11_chooses_149 (by decide) (by decide) (fun q => absurd q (by decide)) (fun c_149 => ?_)
          refine zt_iload_n dX11_chooses_152 rfl ?_
          refine zt_iconst dX11_chooses_153 ?_
          refine zt_iadd dX11_chooses_154 ?_
          refine zt_goto (tgt := 161) dX11_chooses_155 (by decide) ?_
          refine zt_laloadv (v := h 72 ((s.length : Int) + 2)) dX11_chooses_161 (zs_72 hS) (by decide) (by omega) (by omega) ((zupA (by decide)).trans rfl) ?_
          refine zt_lastore dX11_chooses_162 (zs_72 hS) (by decide) (by omega) (by omega) (by omega) ?_
          refine zt_aload_n dX11_chooses_163 rfl ?_
          refine zt_getv dX11_chooses_164 fl_X11_119 (zs_38 hS) (rf_38_53 ((hR.up (by decide)).upA (by decide))) ?_
          refine zt_iload_n dX11_chooses_167 rfl ?_
          refine zt_aload_n dX11_chooses_168 rfl ?_
          refine zt_getv dX11_chooses_169 fl_X11_119 (zs_38 hS) (rf_38_53 ((hR.up (by decide)).upA (by decide))) ?_
          refine zt_iload dX11_chooses_172 rfl ?_
          refine zt_if_eq (tgt := 183) dX11_chooses_174 (by decide) (by decide) (fun q => absurd q (by decide)) (fun c_174 => ?_)
          refine zt_iload_n dX11_chooses_177 rfl ?_
          refine zt_iconst dX11_chooses_178 ?_
          refine zt_iadd dX11_chooses_179 ?_
          refine zt_goto (tgt := 186) dX11_chooses_180 (by decide) ?_
          refine zt_laloadv (v := td) dX11_chooses_186 (zs_73 hS) (by decide) (by omega) (by omega) ((zupA (by decide)).trans ((zupA (by decide)).trans htd)) ?_
          refine zt_lastore dX11_chooses_187 (zs_73 hS) (by decide) (by omega) (by omega) (by omega) ?_
          exact zt_vret dX11_chooses_188 ⟨rfl, rfl, rfl, (zoM.top hR).trans (zoM.put (hR.up (by decide))), by rw [show fIf (-g) (an, ad) (bn, bd) (tn, td) (zn, zd) = (tn, td) from (if_neg (show ¬ (((an, ad) : zFr).2 = 0 ∨ ((bn, bd) : zFr).2 = 0) by show ¬ (ad = 0 ∨ bd = 0); omega)).trans (if_pos (hF.mpr (by omega)))]; exact hM.putx (g := (tn, td)) rfl hft hzt rfl htn⟩
    · refine zt_aload_n dX11_chooses_41 rfl ?_
      refine zt_getv dX11_chooses_42 fl_X11_119 (zs_38 hS) (rf_38_53 (hR.up (by decide))) ?_
      refine zt_iload_n dX11_chooses_45 rfl ?_
      refine zt_lconst (v := 0) dX11_chooses_46 rfl ?_
      refine zt_lastore dX11_chooses_47 (zs_73 hS) (by decide) (by omega) (by omega) (by decide) ?_
      exact zt_vret dX11_chooses_48 ⟨rfl, rfl, rfl, (zoM.top hR).trans (zoM.nil (hR.up (by decide))), by rw [show fIf (-g) (an, ad) (bn, bd) (tn, td) (zn, zd) = (0, 0) from if_pos (by first | exact Or.inl c_24 | exact Or.inr c_37)]; exact hM.nil rfl⟩

theorem mst.push {h : zMem} {g : zFr} {s : List zFr} {k z : Int} (q : mst h s) (hk : k = s.length) (hz0 : z = (s.length : Int) + 1) (hg : fok g) (hz : fz g) : mst (zup (mPut h k g.1 g.2) 38 54 z) (g :: s) := by
  subst hk
  refine ⟨by rw [zupE, hz0, List.length_cons]; omega, ?_⟩
  rw [zup_ne (by decide), zup_ne (by decide)]
  refine ⟨⟨?_, fun _ => ?_⟩, ⟨hg, hz⟩, mstA_up (fun i a b => ?_) q.2⟩
  · rw [mPut_73, if_pos rfl]
  · rw [mPut_72, if_pos rfl]
  · rw [mPut_72, mPut_73, if_neg (by omega), if_neg (by omega)]; exact ⟨rfl, rfl⟩

set_option maxRecDepth 100000 in
set_option maxHeartbeats 4000000 in
theorem l_wk1 {d n : Nat} {sh : zSh} {h h1 : zMem} {Q : Option zV → Nat → zSh → zMem → Prop} {c u v a : Int} {s : List zFr} (hS : zShp sh) (hc : 0 ≤ c ∧ c ≤ 9) (hN : 0 ≤ h 45 c ∧ h 45 c ≤ 200) (hu : -2000000000000000000 ≤ u ∧ u ≤ 2000000000000000000) (hv : -2000000000000000000 ≤ v ∧ v ≤ 2000000000000000000) (ho : zoM h h1) (hs : mst h1 s) (hl : s.length < 190) (ha : 0 ≤ a ∧ a < 200 * c + h 45 c) (hp : h 43 a = 0) (hok : fok (h 44 a, 1)) (K : ∀ h2 : zMem, zoM h h2 → mst h2 ((h 44 a, 1) :: s) → zT yX11_works cX11_works 8 none (d + 3) 0 0 Q 12 [some (2, 38), some (0, c), some (1, u), none, some (1, v), none, some (0, a + 1), none] [] n sh h2) : zT yX11_works cX11_works 8 none (d + 3) 0 0 Q 12 [some (2, 38), some (0, c), some (1, u), none, some (1, v), none, some (0, a), none] [] n sh h1 := by
  refine zt_rg (fun hm => ?_)
  have hpr : zi32 (h 43 a) := by rw [← ho.1 43 (by decide)]; exact hm.int (zs_43 hS) (by omega) (by omega)
  have hpw : zi32 (h 44 a) := by rw [← ho.1 44 (by decide)]; exact hm.int (zs_44 hS) (by omega) (by omega)
  refine zt_iload dX11_works_12 rfl ?_
  refine zt_sipush dX11_works_14 (by decide) ?_
  refine zt_iload_n dX11_works_17 rfl ?_
  refine zt_imul dX11_works_18 ?_
  refine zt_aload_n dX11_works_19 rfl ?_
  refine zt_getv dX11_works_20 fl_X11_29 (zs_38 hS) (rf_38_15 ho.2.2) ?_
  refine zt_iload_n dX11_works_23 rfl ?_
  refine zt_ialoadv (v := h 45 c) dX11_works_24 (zs_45 hS) (by decide) (by omega) (by omega) (congrFun (ho.1 45 (by decide)) _) ?_
  refine zt_iadd dX11_works_25 ?_
  refine zt_icmp_ge (tgt := 145) dX11_works_26 (by decide) (by omega) (by omega) (fun c_26 => ?_) (fun c_26 => ?_)
  · exfalso
    omega
  · refine zt_aload_n dX11_works_29 rfl ?_
    refine zt_getv dX11_works_30 fl_X11_23 (zs_38 hS) (rf_38_13 ho.2.2) ?_
    refine zt_iload dX11_works_33 rfl ?_
    refine zt_ialoadv (v := h 43 a) dX11_works_35 (zs_43 hS) (by decide) (by omega) (by omega) (congrFun (ho.1 43 (by decide)) _) ?_
    refine zt_istore_7 dX11_works_36 (by decide) rfl ?_
    refine zt_iload dX11_works_38 rfl ?_
    refine zt_iconst dX11_works_40 ?_
    refine zt_icmp_gt (tgt := 94) dX11_works_41 (by decide) hpr (by decide) (fun c_41 => ?_) (fun c_41 => ?_)
    · exfalso
      omega
    · refine zt_iload dX11_works_44 rfl ?_
      refine zt_iconst dX11_works_46 ?_
      refine zt_icmp_ne (tgt := 64) dX11_works_47 (by decide) hpr (by decide) (fun c_47 => ?_) (fun c_47 => ?_)
      · refine zt_aload_n dX11_works_64 rfl ?_
        refine zt_aload_n dX11_works_65 rfl ?_
        refine zt_getv (v := (s.length : Int)) dX11_works_66 fl_X11_254 (zs_38 hS) hs.1 ?_
        refine zt_aload_n dX11_works_69 rfl ?_
        refine zt_getv dX11_works_70 fl_X11_26 (zs_38 hS) (rf_38_14 ho.2.2) ?_
        refine zt_iload dX11_works_73 rfl ?_
        refine zt_ialoadv (v := h 44 a) dX11_works_75 (zs_44 hS) (by decide) (by omega) (by omega) (congrFun (ho.1 44 (by decide)) _) ?_
        refine zt_i2l dX11_works_76 hpw ?_
        refine zt_lconst (v := 1) dX11_works_77 rfl ?_
        refine zt_callV3v dX11_works_78 ml_X11_257 (zs_38 hS) (Nat.le_of_ble_eq_true rfl) (c_puts (x := h 44 a) (y := 1) hS ho.2.2 (by omega) (by omega) (by omega)) ?_
        refine zt_aload_n dX11_works_81 rfl ?_
        refine zt_dup dX11_works_82 (Nat.ne_of_beq_eq_false rfl) ?_
        refine zt_getv (v := (s.length : Int)) dX11_works_83 fl_X11_254 (zs_38 hS) (mPut_t.trans hs.1) ?_
        refine zt_iconst dX11_works_86 ?_
        refine zt_iadd dX11_works_87 ?_
        refine zt_puti dX11_works_88 fl_X11_254 rfl (zs_38 hS) (by omega) ?_
        refine zt_goto (tgt := 139) dX11_works_91 (by decide) ?_
        refine zt_iinc_6 dX11_works_139 (by decide) rfl ?_
        refine zt_goto (tgt := 12) dX11_works_142 (by decide) ?_
        refine zt_kill_7 ?_
        rw [fr_self hok (by decide)]
        exact K _ ((ho.trans (zoM.put ho.2.2)).trans (zoM.top (mPut_rf ho.2.2))) (hs.push rfl rfl hok (fun q => absurd q (show ¬ (1 : Int) = 0 by decide)))
      · exfalso
        omega

set_option maxRecDepth 100000 in
set_option maxHeartbeats 4000000 in
theorem l_wk2 {d n : Nat} {sh : zSh} {h h1 : zMem} {Q : Option zV → Nat → zSh → zMem → Prop} {c u v a : Int} {s : List zFr} (hS : zShp sh) (hc : 0 ≤ c ∧ c ≤ 9) (hN : 0 ≤ h 45 c ∧ h 45 c ≤ 200) (hu : -2000000000000000000 ≤ u ∧ u ≤ 2000000000000000000) (hv : -2000000000000000000 ≤ v ∧ v ≤ 2000000000000000000) (ho : zoM h h1) (hs : mst h1 s) (hl : s.length < 190) (ha : 0 ≤ a ∧ a < 200 * c + h 45 c) (hp : h 43 a = 1) (K : ∀ h2 : zMem, zoM h h2 → mst h2 (fr u v :: s) → zT yX11_works cX11_works 8 none (d + 3) 0 0 Q 12 [some (2, 38), some (0, c), some (1, u), none, some (1, v), none, some (0, a + 1), none] [] n sh h2) : zT yX11_works cX11_works 8 none (d + 3) 0 0 Q 12 [some (2, 38), some (0, c), some (1, u), none, some (1, v), none, some (0, a), none] [] n sh h1 := by
  refine zt_rg (fun hm => ?_)
  have hpr : zi32 (h 43 a) := by rw [← ho.1 43 (by decide)]; exact hm.int (zs_43 hS) (by omega) (by omega)
  have hpw : zi32 (h 44 a) := by rw [← ho.1 44 (by decide)]; exact hm.int (zs_44 hS) (by omega) (by omega)
  refine zt_iload dX11_works_12 rfl ?_
  refine zt_sipush dX11_works_14 (by decide) ?_
  refine zt_iload_n dX11_works_17 rfl ?_
  refine zt_imul dX11_works_18 ?_
  refine zt_aload_n dX11_works_19 rfl ?_
  refine zt_getv dX11_works_20 fl_X11_29 (zs_38 hS) (rf_38_15 ho.2.2) ?_
  refine zt_iload_n dX11_works_23 rfl ?_
  refine zt_ialoadv (v := h 45 c) dX11_works_24 (zs_45 hS) (by decide) (by omega) (by omega) (congrFun (ho.1 45 (by decide)) _) ?_
  refine zt_iadd dX11_works_25 ?_
  refine zt_icmp_ge (tgt := 145) dX11_works_26 (by decide) (by omega) (by omega) (fun c_26 => ?_) (fun c_26 => ?_)
  · exfalso
    omega
  · refine zt_aload_n dX11_works_29 rfl ?_
    refine zt_getv dX11_works_30 fl_X11_23 (zs_38 hS) (rf_38_13 ho.2.2) ?_
    refine zt_iload dX11_works_33 rfl ?_
    refine zt_ialoadv (v := h 43 a) dX11_works_35 (zs_43 hS) (by decide) (by omega) (by omega) (congrFun (ho.1 43 (by decide)) _) ?_
    refine zt_istore_7 dX11_works_36 (by decide) rfl ?_
    refine zt_iload dX11_works_38 rfl ?_
    refine zt_iconst dX11_works_40 ?_
    refine zt_icmp_gt (tgt := 94) dX11_works_41 (by decide) hpr (by decide) (fun c_41 => ?_) (fun c_41 => ?_)
    · exfalso
      omega
    · refine zt_iload dX11_works_44 rfl ?_
      refine zt_iconst dX11_works_46 ?_
      refine zt_icmp_ne (tgt := 64) dX11_works_47 (by decide) hpr (by decide) (fun c_47 => ?_) (fun c_47 => ?_)
      · exfalso
        omega
      · refine zt_aload_n dX11_works_50 rfl ?_
        refine zt_aload_n dX11_works_51 rfl ?_
        refine zt_getv (v := (s.length : Int)) dX11_works_52 fl_X11_254 (zs_38 hS) hs.1 ?_
        refine zt_lload_n dX11_works_55 rfl ?_
        refine zt_lload dX11_works_56 rfl ?_
        refine zt_callV3v dX11_works_58 ml_X11_257 (zs_38 hS) (Nat.le_of_ble_eq_true rfl) (c_puts (x := u) (y := v) hS ho.2.2 (by omega) (by omega) (by omega)) ?_
        refine zt_goto (tgt := 81) dX11_works_61 (by decide) ?_
        refine zt_aload_n dX11_works_81 rfl ?_
        refine zt_dup dX11_works_82 (Nat.ne_of_beq_eq_false rfl) ?_
        refine zt_getv (v := (s.length : Int)) dX11_works_83 fl_X11_254 (zs_38 hS) (mPut_t.trans hs.1) ?_
        refine zt_iconst dX11_works_86 ?_
        refine zt_iadd dX11_works_87 ?_
        refine zt_puti dX11_works_88 fl_X11_254 rfl (zs_38 hS) (by omega) ?_
        refine zt_goto (tgt := 139) dX11_works_91 (by decide) ?_
        refine zt_iinc_6 dX11_works_139 (by decide) rfl ?_
        refine zt_goto (tgt := 12) dX11_works_142 (by decide) ?_
        refine zt_kill_7 ?_
        exact K _ ((ho.trans (zoM.put ho.2.2)).trans (zoM.top (mPut_rf ho.2.2))) (hs.push rfl rfl (fr_ok u v) (fr_fz u v))

set_option maxRecDepth 100000 in
set_option maxHeartbeats 4000000 in
theorem l_wk3 {d n : Nat} {sh : zSh} {h h1 : zMem} {Q : Option zV → Nat → zSh → zMem → Prop} {c u v a : Int} {s : List zFr} {fn fd : Int} (hS : zShp sh) (hc : 0 ≤ c ∧ c ≤ 9) (hN : 0 ≤ h 45 c ∧ h 45 c ≤ 200) (hu : -2000000000000000000 ≤ u ∧ u ≤ 2000000000000000000) (hv : -2000000000000000000 ≤ v ∧ v ≤ 2000000000000000000) (ho : zoM h h1) (hs : mst h1 ((fn, fd) :: s)) (ha : 0 ≤ a ∧ a < 200 * c + h 45 c) (hl : s.length < 190) (hp : h 43 a = 6 ∨ h 43 a = 7 ∨ h 43 a = 8) (K : ∀ h2 : zMem, zoM h h2 → mst h2 (f1 (-h 43 a) (fn, fd) :: s) → zT yX11_works cX11_works 8 none (d + 3) 0 0 Q 12 [some (2, 38), some (0, c), some (1, u), none, some (1, v), none, some (0, a + 1), none] [] n sh h2) : zT yX11_works cX11_works 8 none (d + 3) 0 0 Q 12 [some (2, 38), some (0, c), some (1, u), none, some (1, v), none, some (0, a), none] [] n sh h1 := by
  refine zt_rg (fun hm => ?_)
  have hpr : zi32 (h 43 a) := by rw [← ho.1 43 (by decide)]; exact hm.int (zs_43 hS) (by omega) (by omega)
  have hpw : zi32 (h 44 a) := by rw [← ho.1 44 (by decide)]; exact hm.int (zs_44 hS) (by omega) (by omega)
  refine zt_iload dX11_works_12 rfl ?_
  refine zt_sipush dX11_works_14 (by decide) ?_
  refine zt_iload_n dX11_works_17 rfl ?_
  refine zt_imul dX11_works_18 ?_
  refine zt_aload_n dX11_works_19 rfl ?_
  refine zt_getv dX11_works_20 fl_X11_29 (zs_38 hS) (rf_38_15 ho.2.2) ?_
  refine zt_iload_n dX11_works_23 rfl ?_
  refine zt_ialoadv (v := h 45 c) dX11_works_24 (zs_45 hS) (by decide) (by omega) (by omega) (congrFun (ho.1 45 (by decide)) _) ?_
  refine zt_iadd dX11_works_25 ?_
  refine zt_icmp_ge (tgt := 145) dX11_works_26 (by decide) (by omega) (by omega) (fun c_26 => ?_) (fun c_26 => ?_)
  · exfalso
    omega
  · refine zt_aload_n dX11_works_29 rfl ?_
    refine zt_getv dX11_works_30 fl_X11_23 (zs_38 hS) (rf_38_13 ho.2.2) ?_
    refine zt_iload dX11_works_33 rfl ?_
    refine zt_ialoadv (v := h 43 a) dX11_works_35 (zs_43 hS) (by decide) (by omega) (by omega) (congrFun (ho.1 43 (by decide)) _) ?_
    refine zt_istore_7 dX11_works_36 (by decide) rfl ?_
    refine zt_iload dX11_works_38 rfl ?_
    refine zt_iconst dX11_works_40 ?_
    refine zt_icmp_gt (tgt := 94) dX11_works_41 (by decide) hpr (by decide) (fun c_41 => ?_) (fun c_41 => ?_)
    · refine zt_iload dX11_works_94 rfl ?_
      refine zt_bipush dX11_works_96 (by decide) ?_
      refine zt_icmp_lt (tgt := 110) dX11_works_98 (by decide) hpr (by decide) (fun c_98 => ?_) (fun c_98 => ?_)
      · refine zt_iload dX11_works_110 rfl ?_
        refine zt_bipush dX11_works_112 (by decide) ?_
        refine zt_icmp_lt (tgt := 133) dX11_works_114 (by decide) hpr (by decide) (fun c_114 => ?_) (fun c_114 => ?_)
        · exfalso
          omega
        · refine zt_iload dX11_works_117 rfl ?_
          refine zt_bipush dX11_works_119 (by decide) ?_
          refine zt_icmp_gt (tgt := 133) dX11_works_121 (by decide) hpr (by decide) (fun c_121 => ?_) (fun c_121 => ?_)
          · exfalso
            omega
          · refine zt_aload_n dX11_works_124 rfl ?_
            refine zt_iload dX11_works_125 rfl ?_
            refine zt_callV1q dX11_works_127 ml_X11_275 (zs_38 hS) (Nat.le_of_ble_eq_true rfl) (c_one hS ho.2.2 hs (by omega) hp) ?_
            rintro r n1 sh1 h2 ⟨rfl, rfl, rfl, hz, hs2⟩
            simp only [Option.toList, List.nil_append]
            refine zt_goto (tgt := 139) dX11_works_130 (by decide) ?_
            refine zt_iinc_6 dX11_works_139 (by decide) rfl ?_
            refine zt_goto (tgt := 12) dX11_works_142 (by decide) ?_
            refine zt_kill_7 ?_
            exact K _ (ho.trans hz) hs2
      · exfalso
        omega
    · exfalso
      omega

set_option maxRecDepth 100000 in
set_option maxHeartbeats 4000000 in
theorem l_wk4 {d n : Nat} {sh : zSh} {h h1 : zMem} {Q : Option zV → Nat → zSh → zMem → Prop} {c u v a : Int} {s : List zFr} {an ad bn bd : Int} (hS : zShp sh) (hc : 0 ≤ c ∧ c ≤ 9) (hN : 0 ≤ h 45 c ∧ h 45 c ≤ 200) (hu : -2000000000000000000 ≤ u ∧ u ≤ 2000000000000000000) (hv : -2000000000000000000 ≤ v ∧ v ≤ 2000000000000000000) (ho : zoM h h1) (hs : mst h1 ((bn, bd) :: (an, ad) :: s)) (ha : 0 ≤ a ∧ a < 200 * c + h 45 c) (hl : s.length < 190) (hp : (2 ≤ h 43 a ∧ h 43 a ≤ 5) ∨ h 43 a = 9 ∨ h 43 a = 10) (K : ∀ h2 : zMem, zoM h h2 → mst h2 (f2 (-h 43 a) (an, ad) (bn, bd) :: s) → zT yX11_works cX11_works 8 none (d + 3) 0 0 Q 12 [some (2, 38), some (0, c), some (1, u), none, some (1, v), none, some (0, a + 1), none] [] n sh h2) : zT yX11_works cX11_works 8 none (d + 3) 0 0 Q 12 [some (2, 38), some (0, c), some (1, u), none, some (1, v), none, some (0, a), none] [] n sh h1 := by
  refine zt_rg (fun hm => ?_)
  have hpr : zi32 (h 43 a) := by rw [← ho.1 43 (by decide)]; exact hm.int (zs_43 hS) (by omega) (by omega)
  have hpw : zi32 (h 44 a) := by rw [← ho.1 44 (by decide)]; exact hm.int (zs_44 hS) (by omega) (by omega)
  refine zt_iload dX11_works_12 rfl ?_
  refine zt_sipush dX11_works_14 (by decide) ?_
  refine zt_iload_n dX11_works_17 rfl ?_
  refine zt_imul dX11_works_18 ?_
  refine zt_aload_n dX11_works_19 rfl ?_
  refine zt_getv dX11_works_20 fl_X11_29 (zs_38 hS) (rf_38_15 ho.2.2) ?_
  refine zt_iload_n dX11_works_23 rfl ?_
  refine zt_ialoadv (v := h 45 c) dX11_works_24 (zs_45 hS) (by decide) (by omega) (by omega) (congrFun (ho.1 45 (by decide)) _) ?_
  refine zt_iadd dX11_works_25 ?_
  refine zt_icmp_ge (tgt := 145) dX11_works_26 (by decide) (by omega) (by omega) (fun c_26 => ?_) (fun c_26 => ?_)
  · exfalso
    omega
  · refine zt_aload_n dX11_works_29 rfl ?_
    refine zt_getv dX11_works_30 fl_X11_23 (zs_38 hS) (rf_38_13 ho.2.2) ?_
    refine zt_iload dX11_works_33 rfl ?_
    refine zt_ialoadv (v := h 43 a) dX11_works_35 (zs_43 hS) (by decide) (by omega) (by omega) (congrFun (ho.1 43 (by decide)) _) ?_
    refine zt_istore_7 dX11_works_36 (by decide) rfl ?_
    refine zt_iload dX11_works_38 rfl ?_
    refine zt_iconst dX11_works_40 ?_
    refine zt_icmp_gt (tgt := 94) dX11_works_41 (by decide) hpr (by decide) (fun c_41 => ?_) (fun c_41 => ?_)
    · refine zt_iload dX11_works_94 rfl ?_
      refine zt_bipush dX11_works_96 (by decide) ?_
      refine zt_icmp_lt (tgt := 110) dX11_works_98 (by decide) hpr (by decide) (fun c_98 => ?_) (fun c_98 => ?_)
      · refine zt_iload dX11_works_110 rfl ?_
        refine zt_bipush dX11_works_112 (by decide) ?_
        refine zt_icmp_lt (tgt := 133) dX11_works_114 (by decide) hpr (by decide) (fun c_114 => ?_) (fun c_114 => ?_)
        · refine zt_aload_n dX11_works_133 rfl ?_
          refine zt_iload dX11_works_134 rfl ?_
          refine zt_callV1q dX11_works_136 ml_X11_278 (zs_38 hS) (Nat.le_of_ble_eq_true rfl) (c_two_m hS ho.2.2 hs (by omega) hp) ?_
          rintro r n1 sh1 h2 ⟨rfl, rfl, rfl, hz, hs2⟩
          simp only [Option.toList, List.nil_append]
          refine zt_iinc_6 dX11_works_139 (by decide) rfl ?_
          refine zt_goto (tgt := 12) dX11_works_142 (by decide) ?_
          refine zt_kill_7 ?_
          exact K _ (ho.trans hz) hs2
        · refine zt_iload dX11_works_117 rfl ?_
          refine zt_bipush dX11_works_119 (by decide) ?_
          refine zt_icmp_gt (tgt := 133) dX11_works_121 (by decide) hpr (by decide) (fun c_121 => ?_) (fun c_121 => ?_)
          · refine zt_aload_n dX11_works_133 rfl ?_
            refine zt_iload dX11_works_134 rfl ?_
            refine zt_callV1q dX11_works_136 ml_X11_278 (zs_38 hS) (Nat.le_of_ble_eq_true rfl) (c_two_m hS ho.2.2 hs (by omega) hp) ?_
            rintro r n1 sh1 h2 ⟨rfl, rfl, rfl, hz, hs2⟩
            simp only [Option.toList, List.nil_append]
            refine zt_iinc_6 dX11_works_139 (by decide) rfl ?_
            refine zt_goto (tgt := 12) dX11_works_142 (by decide) ?_
            refine zt_kill_7 ?_
            exact K _ (ho.trans hz) hs2
          · exfalso
            omega
      · exfalso
        omega
    · exfalso
      omega

set_option maxRecDepth 100000 in
set_option maxHeartbeats 4000000 in
theorem l_wk5 {d n : Nat} {sh : zSh} {h h1 : zMem} {Q : Option zV → Nat → zSh → zMem → Prop} {c u v a : Int} {s : List zFr} {an ad bn bd tn td zn zd : Int} (hS : zShp sh) (hc : 0 ≤ c ∧ c ≤ 9) (hN : 0 ≤ h 45 c ∧ h 45 c ≤ 200) (hu : -2000000000000000000 ≤ u ∧ u ≤ 2000000000000000000) (hv : -2000000000000000000 ≤ v ∧ v ≤ 2000000000000000000) (ho : zoM h h1) (hs : mst h1 ((zn, zd) :: (tn, td) :: (bn, bd) :: (an, ad) :: s)) (ha : 0 ≤ a ∧ a < 200 * c + h 45 c) (hl : s.length < 190) (hp : h 43 a = 11 ∨ h 43 a = 12 ∨ h 43 a = 13) (K : ∀ h2 : zMem, zoM h h2 → mst h2 (fIf (-h 43 a) (an, ad) (bn, bd) (tn, td) (zn, zd) :: s) → zT yX11_works cX11_works 8 none (d + 3) 0 0 Q 12 [some (2, 38), some (0, c), some (1, u), none, some (1, v), none, some (0, a + 1), none] [] n sh h2) : zT yX11_works cX11_works 8 none (d + 3) 0 0 Q 12 [some (2, 38), some (0, c), some (1, u), none, some (1, v), none, some (0, a), none] [] n sh h1 := by
  refine zt_rg (fun hm => ?_)
  have hpr : zi32 (h 43 a) := by rw [← ho.1 43 (by decide)]; exact hm.int (zs_43 hS) (by omega) (by omega)
  have hpw : zi32 (h 44 a) := by rw [← ho.1 44 (by decide)]; exact hm.int (zs_44 hS) (by omega) (by omega)
  refine zt_iload dX11_works_12 rfl ?_
  refine zt_sipush dX11_works_14 (by decide) ?_
  refine zt_iload_n dX11_works_17 rfl ?_
  refine zt_imul dX11_works_18 ?_
  refine zt_aload_n dX11_works_19 rfl ?_
  refine zt_getv dX11_works_20 fl_X11_29 (zs_38 hS) (rf_38_15 ho.2.2) ?_
  refine zt_iload_n dX11_works_23 rfl ?_
  refine zt_ialoadv (v := h 45 c) dX11_works_24 (zs_45 hS) (by decide) (by omega) (by omega) (congrFun (ho.1 45 (by decide)) _) ?_
  refine zt_iadd dX11_works_25 ?_
  refine zt_icmp_ge (tgt := 145) dX11_works_26 (by decide) (by omega) (by omega) (fun c_26 => ?_) (fun c_26 => ?_)
  · exfalso
    omega
  · refine zt_aload_n dX11_works_29 rfl ?_
    refine zt_getv dX11_works_30 fl_X11_23 (zs_38 hS) (rf_38_13 ho.2.2) ?_
    refine zt_iload dX11_works_33 rfl ?_
    refine zt_ialoadv (v := h 43 a) dX11_works_35 (zs_43 hS) (by decide) (by omega) (by omega) (congrFun (ho.1 43 (by decide)) _) ?_
    refine zt_istore_7 dX11_works_36 (by decide) rfl ?_
    refine zt_iload dX11_works_38 rfl ?_
    refine zt_iconst dX11_works_40 ?_
    refine zt_icmp_gt (tgt := 94) dX11_works_41 (by decide) hpr (by decide) (fun c_41 => ?_) (fun c_41 => ?_)
    · refine zt_iload dX11_works_94 rfl ?_
      refine zt_bipush dX11_works_96 (by decide) ?_
      refine zt_icmp_lt (tgt := 110) dX11_works_98 (by decide) hpr (by decide) (fun c_98 => ?_) (fun c_98 => ?_)
      · exfalso
        omega
      · refine zt_aload_n dX11_works_101 rfl ?_
        refine zt_iload dX11_works_102 rfl ?_
        refine zt_callV1q dX11_works_104 ml_X11_272 (zs_38 hS) (Nat.le_of_ble_eq_true rfl) (c_choo_m hS ho.2.2 hs (by omega) hp) ?_
        rintro r n1 sh1 h2 ⟨rfl, rfl, rfl, hz, hs2⟩
        simp only [Option.toList, List.nil_append]
        refine zt_goto (tgt := 139) dX11_works_107 (by decide) ?_
        refine zt_iinc_6 dX11_works_139 (by decide) rfl ?_
        refine zt_goto (tgt := 12) dX11_works_142 (by decide) ?_
        refine zt_kill_7 ?_
        exact K _ (ho.trans hz) hs2
    · exfalso
      omega

/-- the reference's code (g, w0) from b to N works out w -/
def mseg (g w0 : Int → Int) (b N : Int) (w : zFr → zFr) : Prop := ∀ x : zFr, fok x → ∀ J : Int → List zFr → Prop, mclo g w0 N x J → J N [w x] → J b []

set_option maxRecDepth 100000 in
set_option maxHeartbeats 4000000 in
theorem l_wk0 {d n : Nat} {sh : zSh} {h h1 : zMem} {c u v : Int} {w : zFr → zFr} (hS : zShp sh) (hc : 0 ≤ c ∧ c ≤ 9) (hN : 0 ≤ h 45 c ∧ h 45 c ≤ 200) (hu : -2000000000000000000 ≤ u ∧ u ≤ 2000000000000000000) (hv : -2000000000000000000 ≤ v ∧ v ≤ 2000000000000000000) (ho : zoM h h1) (hs : mst h1 [w (fr u v)]) : zT yX11_works cX11_works 8 none (d + 3) 0 0 (fun r n1 sh1 h2 => r = none ∧ n1 = n ∧ sh1 = sh ∧ zoM h h2 ∧ mst h2 [w (fr u v)]) 12 [some (2, 38), some (0, c), some (1, u), none, some (1, v), none, some (0, 200 * c + h 45 c), none] [] n sh h1 := by
  refine zt_rg (fun hm => ?_)
  refine zt_iload dX11_works_12 rfl ?_
  refine zt_sipush dX11_works_14 (by decide) ?_
  refine zt_iload_n dX11_works_17 rfl ?_
  refine zt_imul dX11_works_18 ?_
  refine zt_aload_n dX11_works_19 rfl ?_
  refine zt_getv dX11_works_20 fl_X11_29 (zs_38 hS) (rf_38_15 ho.2.2) ?_
  refine zt_iload_n dX11_works_23 rfl ?_
  refine zt_ialoadv (v := h 45 c) dX11_works_24 (zs_45 hS) (by decide) (by omega) (by omega) (congrFun (ho.1 45 (by decide)) _) ?_
  refine zt_iadd dX11_works_25 ?_
  refine zt_icmp_ge (tgt := 145) dX11_works_26 (by decide) (by omega) (by omega) (fun c_26 => ?_) (fun c_26 => ?_)
  · exact zt_vret dX11_works_145 ⟨rfl, rfl, rfl, ho, hs⟩
  · exfalso
    omega

set_option maxRecDepth 100000 in
set_option maxHeartbeats 4000000 in
theorem c_works {d n : Nat} {sh : zSh} {h : zMem} {c u v : Int} {w : zFr → zFr} (hR : zRf h) (hS : zShp sh) (hc : 0 ≤ c ∧ c ≤ 9) (hN : 0 ≤ h 45 c ∧ h 45 c ≤ 200) (hu : -2000000000000000000 ≤ u ∧ u ≤ 2000000000000000000) (hv : -2000000000000000000 ≤ v ∧ v ≤ 2000000000000000000) (hsg : mseg (h 43) (h 44) (200 * c) (200 * c + h 45 c) w) : zM yX11_works cX11_works 8 none (d + 3) 0 0 [(2, 38), (0, c), (1, u), (1, v)] n sh h (fun r n1 sh1 h2 => r = none ∧ n1 = n ∧ sh1 = sh ∧ zoM h h2 ∧ mst h2 [w (fr u v)]) := by
  refine zM.ofT2 (by decide +kernel) [some (2, 38), some (0, c), some (1, u), none, some (1, v), none, none, none] rfl (Nat.le_of_ble_eq_true rfl) ?_
  refine zt_rg (fun hm => ?_)
  refine zt_aload_n dX11_works_0 rfl ?_
  refine zt_iconst dX11_works_1 ?_
  refine zt_puti dX11_works_2 fl_X11_254 rfl (zs_38 hS) (by decide) ?_
  refine zt_sipush dX11_works_5 (by decide) ?_
  refine zt_iload_n dX11_works_8 rfl ?_
  refine zt_imul dX11_works_9 ?_
  refine zt_istore_6 dX11_works_10 (by decide) rfl ?_
  refine hsg (fr u v) (fr_ok u v) (fun a s => 0 ≤ a → ∀ h2 : zMem, zoM h h2 → mst h2 s → zT yX11_works cX11_works 8 none (d + 3) 0 0 (fun r n1 sh1 h2 => r = none ∧ n1 = n ∧ sh1 = sh ∧ zoM h h2 ∧ mst h2 [w (fr u v)]) 12 [some (2, 38), some (0, c), some (1, u), none, some (1, v), none, some (0, a), none] [] n sh h2) ⟨?_, ?_, ?_, ?_, ?_⟩ ?_ (by omega) _ (zoM.top hR) ⟨zupE, trivial⟩
  · exact fun a s ha hp hl hok k h0 h2 ho hs => l_wk1 hS hc hN hu hv ho hs hl ⟨h0, ha⟩ hp hok (fun h3 a1 a2 => k (by omega) h3 a1 a2)
  · exact fun a s ha hp hl k h0 h2 ho hs => l_wk2 hS hc hN hu hv ho hs hl ⟨h0, ha⟩ hp (fun h3 a1 a2 => k (by omega) h3 a1 a2)
  · exact fun a s f ha hp hl k h0 h2 ho hs => l_wk3 hS hc hN hu hv ho hs ⟨h0, ha⟩ hl hp (fun h3 a1 a2 => k (by omega) h3 a1 a2)
  · exact fun a s f e ha hp hl k h0 h2 ho hs => l_wk4 hS hc hN hu hv ho hs ⟨h0, ha⟩ hl hp (fun h3 a1 a2 => k (by omega) h3 a1 a2)
  · exact fun a s f e t z ha hp hl k h0 h2 ho hs => l_wk5 hS hc hN hu hv ho hs ⟨h0, ha⟩ hl hp (fun h3 a1 a2 => k (by omega) h3 a1 a2)
  · exact fun _ h2 ho hs => l_wk0 hS hc hN hu hv ho hs
