set_option maxRecDepth 100000 in
set_option maxHeartbeats 4000000 in
theorem l_cv1 {d n : Nat} {sh : zSh} {h : zMem} {e th : Int} (hR : zRf h) (hS : zShp sh) (hL : 0 ≤ h 38 50 ∧ h 38 50 ≤ 20) (hr1 : ∀ i, 0 ≤ i → i < h 38 50 → h 71 i = -2147483648 ∨ (-999999 ≤ h 71 i ∧ h 71 i ≤ 999999)) (he : 0 ≤ e ∧ e ≤ 9) (hKL : 1 ≤ (h 38 50).toNat) : zT yX11_curves cX11_curves 8 (some .boolean) (d + 2) 0 0 (fun r n1 sh1 h1 => r = some (0, 1) ∧ n1 = n ∧ sh1 = sh ∧ mvV h h1 (mAll (h 71) e (h 38 50).toNat 1).reverse) 74 [some (2, 38), some (0, 0), some (0, e), some (0, th), none, none, none, none] [] n sh h := by
  refine zt_aload_n dX11_curves_74 rfl ?_
  refine zt_iconst dX11_curves_75 ?_
  refine zt_puti dX11_curves_76 fl_X11_397 rfl (zs_38 hS) (by decide) ?_
  refine zt_aload_n dX11_curves_79 rfl ?_
  refine zt_iconst dX11_curves_80 ?_
  refine zt_puti dX11_curves_81 fl_X11_400 rfl (zs_38 hS) (by decide) ?_
  refine zt_iconst dX11_curves_84 ?_
  refine zt_istore_4 dX11_curves_85 (by decide) rfl ?_
  refine zt_iload dX11_curves_87 rfl ?_
  refine zt_iload_n dX11_curves_89 rfl ?_
  refine zt_icmp_gt (tgt := 108) dX11_curves_90 (by decide) (by decide) (by decide) (fun q => absurd q (by decide)) (fun c_90 => ?_)
  refine zt_aload_n dX11_curves_93 rfl ?_
  refine zt_getv dX11_curves_94 fl_X11_131 (zs_38 hS) (rf_38_58 ((hR.up (by decide)).up (by decide))) ?_
  refine zt_iload dX11_curves_97 rfl ?_
  refine zt_iload dX11_curves_99 rfl ?_
  refine zt_iastore dX11_curves_101 (zs_77 hS) (by decide) (by decide) (by decide) (by decide) ?_
  refine zt_iincv_4 (v := 1) dX11_curves_102 (by decide) rfl (by decide) ?_
  refine zt_goto (tgt := 87) dX11_curves_105 (by decide) ?_
  refine zt_iload dX11_curves_87 rfl ?_
  refine zt_iload_n dX11_curves_89 rfl ?_
  refine zt_icmp_gt (tgt := 108) dX11_curves_90 (by decide) (by decide) (by decide) (fun c_90 => ?_) (fun q => absurd q (by decide))
  refine zt_iconst dX11_curves_108 ?_
  refine zt_istore_4 dX11_curves_109 (by decide) rfl ?_
  have h77 : lst ((zup (zup (zup h 38 61 0) 38 62 (-1)) 77 0 0) 77) 1 = iot 0 1 := by
    show [(zup (zup (zup h 38 61 0) 38 62 (-1)) 77 0 0) 77 0] = [0]
    (repeat first | rw [zupE] | rw [zupA (by decide)] | rw [zupJ (by decide)])
  have hV : mvV h (zup (zup (zup h 38 61 0) 38 62 (-1)) 77 0 0) [] := ⟨fun x a b c => by (repeat first | rw [zup_ne b] | rw [zup_ne a]), fun y a b => by (repeat first | rw [zupA (by decide)] | rw [zupJ a] | rw [zupJ b]), (((hR.up (by decide)).up (by decide)).upA (by decide)), by (repeat first | rw [zupE] | rw [zupA (by decide)] | rw [zupJ (by decide)]); rfl, fun _ => by (repeat first | rw [zupE] | rw [zupA (by decide)] | rw [zupJ (by decide)]), fun z => absurd rfl z, fun k hk => absurd hk (Nat.not_lt_zero k), fun x hx => absurd hx List.not_mem_nil⟩
  exact l_cvw1 hS hL hr1 he ((rem (h 38 50).toNat (iot 0 1)).length + 1) 1 _ [] (fun _ => by rw [h77]; omega) (by omega) hV (by rw [h77]; exact Or.inl ⟨rfl, chF_iot 1 0 0 (Int.le_refl _) (by omega), by unfold mAll; rw [rem_all (n := (((h 38 50).toNat : Nat) : Int)) (K := 1) (by omega), Int.toNat_natCast]; rfl⟩)

set_option maxRecDepth 100000 in
set_option maxHeartbeats 4000000 in
theorem l_cv2 {d n : Nat} {sh : zSh} {h : zMem} {e th : Int} (hR : zRf h) (hS : zShp sh) (hL : 0 ≤ h 38 50 ∧ h 38 50 ≤ 20) (hr1 : ∀ i, 0 ≤ i → i < h 38 50 → h 71 i = -2147483648 ∨ (-999999 ≤ h 71 i ∧ h 71 i ≤ 999999)) (he : 0 ≤ e ∧ e ≤ 9) (hKL : 2 ≤ (h 38 50).toNat) : zT yX11_curves cX11_curves 8 (some .boolean) (d + 2) 0 0 (fun r n1 sh1 h1 => r = some (0, 1) ∧ n1 = n ∧ sh1 = sh ∧ mvV h h1 (mAll (h 71) e (h 38 50).toNat 2).reverse) 74 [some (2, 38), some (0, 1), some (0, e), some (0, th), none, none, none, none] [] n sh h := by
  refine zt_aload_n dX11_curves_74 rfl ?_
  refine zt_iconst dX11_curves_75 ?_
  refine zt_puti dX11_curves_76 fl_X11_397 rfl (zs_38 hS) (by decide) ?_
  refine zt_aload_n dX11_curves_79 rfl ?_
  refine zt_iconst dX11_curves_80 ?_
  refine zt_puti dX11_curves_81 fl_X11_400 rfl (zs_38 hS) (by decide) ?_
  refine zt_iconst dX11_curves_84 ?_
  refine zt_istore_4 dX11_curves_85 (by decide) rfl ?_
  refine zt_iload dX11_curves_87 rfl ?_
  refine zt_iload_n dX11_curves_89 rfl ?_
  refine zt_icmp_gt (tgt := 108) dX11_curves_90 (by decide) (by decide) (by decide) (fun q => absurd q (by decide)) (fun c_90 => ?_)
  refine zt_aload_n dX11_curves_93 rfl ?_
  refine zt_getv dX11_curves_94 fl_X11_131 (zs_38 hS) (rf_38_58 ((hR.up (by decide)).up (by decide))) ?_
  refine zt_iload dX11_curves_97 rfl ?_
  refine zt_iload dX11_curves_99 rfl ?_
  refine zt_iastore dX11_curves_101 (zs_77 hS) (by decide) (by decide) (by decide) (by decide) ?_
  refine zt_iincv_4 (v := 1) dX11_curves_102 (by decide) rfl (by decide) ?_
  refine zt_goto (tgt := 87) dX11_curves_105 (by decide) ?_
  refine zt_iload dX11_curves_87 rfl ?_
  refine zt_iload_n dX11_curves_89 rfl ?_
  refine zt_icmp_gt (tgt := 108) dX11_curves_90 (by decide) (by decide) (by decide) (fun q => absurd q (by decide)) (fun c_90 => ?_)
  refine zt_aload_n dX11_curves_93 rfl ?_
  refine zt_getv dX11_curves_94 fl_X11_131 (zs_38 hS) (rf_38_58 (((hR.up (by decide)).up (by decide)).upA (by decide))) ?_
  refine zt_iload dX11_curves_97 rfl ?_
  refine zt_iload dX11_curves_99 rfl ?_
  refine zt_iastore dX11_curves_101 (zs_77 hS) (by decide) (by decide) (by decide) (by decide) ?_
  refine zt_iincv_4 (v := 2) dX11_curves_102 (by decide) rfl (by decide) ?_
  refine zt_goto (tgt := 87) dX11_curves_105 (by decide) ?_
  refine zt_iload dX11_curves_87 rfl ?_
  refine zt_iload_n dX11_curves_89 rfl ?_
  refine zt_icmp_gt (tgt := 108) dX11_curves_90 (by decide) (by decide) (by decide) (fun c_90 => ?_) (fun q => absurd q (by decide))
  refine zt_iconst dX11_curves_108 ?_
  refine zt_istore_4 dX11_curves_109 (by decide) rfl ?_
  have h77 : lst ((zup (zup (zup (zup h 38 61 0) 38 62 (-1)) 77 0 0) 77 1 1) 77) 2 = iot 0 2 := by
    show [(zup (zup (zup (zup h 38 61 0) 38 62 (-1)) 77 0 0) 77 1 1) 77 0, (zup (zup (zup (zup h 38 61 0) 38 62 (-1)) 77 0 0) 77 1 1) 77 1] = [0, 1]
    (repeat first | rw [zupE] | rw [zupA (by decide)] | rw [zupJ (by decide)])
  have hV : mvV h (zup (zup (zup (zup h 38 61 0) 38 62 (-1)) 77 0 0) 77 1 1) [] := ⟨fun x a b c => by (repeat first | rw [zup_ne b] | rw [zup_ne a]), fun y a b => by (repeat first | rw [zupA (by decide)] | rw [zupJ a] | rw [zupJ b]), ((((hR.up (by decide)).up (by decide)).upA (by decide)).upA (by decide)), by (repeat first | rw [zupE] | rw [zupA (by decide)] | rw [zupJ (by decide)]); rfl, fun _ => by (repeat first | rw [zupE] | rw [zupA (by decide)] | rw [zupJ (by decide)]), fun z => absurd rfl z, fun k hk => absurd hk (Nat.not_lt_zero k), fun x hx => absurd hx List.not_mem_nil⟩
  exact l_cvw2 hS hL hr1 he ((rem (h 38 50).toNat (iot 0 2)).length + 1) 1 _ [] (fun _ => by rw [h77]; omega) (by omega) hV (by rw [h77]; exact Or.inl ⟨rfl, chF_iot 2 0 0 (Int.le_refl _) (by omega), by unfold mAll; rw [rem_all (n := (((h 38 50).toNat : Nat) : Int)) (K := 2) (by omega), Int.toNat_natCast]; rfl⟩)

set_option maxRecDepth 100000 in
set_option maxHeartbeats 4000000 in
theorem l_cv3 {d n : Nat} {sh : zSh} {h : zMem} {e th : Int} (hR : zRf h) (hS : zShp sh) (hL : 0 ≤ h 38 50 ∧ h 38 50 ≤ 20) (hr1 : ∀ i, 0 ≤ i → i < h 38 50 → h 71 i = -2147483648 ∨ (-999999 ≤ h 71 i ∧ h 71 i ≤ 999999)) (he : 0 ≤ e ∧ e ≤ 9) (hKL : 3 ≤ (h 38 50).toNat) : zT yX11_curves cX11_curves 8 (some .boolean) (d + 2) 0 0 (fun r n1 sh1 h1 => r = some (0, 1) ∧ n1 = n ∧ sh1 = sh ∧ mvV h h1 (mAll (h 71) e (h 38 50).toNat 3).reverse) 74 [some (2, 38), some (0, 2), some (0, e), some (0, th), none, none, none, none] [] n sh h := by
  refine zt_aload_n dX11_curves_74 rfl ?_
  refine zt_iconst dX11_curves_75 ?_
  refine zt_puti dX11_curves_76 fl_X11_397 rfl (zs_38 hS) (by decide) ?_
  refine zt_aload_n dX11_curves_79 rfl ?_
  refine zt_iconst dX11_curves_80 ?_
  refine zt_puti dX11_curves_81 fl_X11_400 rfl (zs_38 hS) (by decide) ?_
  refine zt_iconst dX11_curves_84 ?_
  refine zt_istore_4 dX11_curves_85 (by decide) rfl ?_
  refine zt_iload dX11_curves_87 rfl ?_
  refine zt_iload_n dX11_curves_89 rfl ?_
  refine zt_icmp_gt (tgt := 108) dX11_curves_90 (by decide) (by decide) (by decide) (fun q => absurd q (by decide)) (fun c_90 => ?_)
  refine zt_aload_n dX11_curves_93 rfl ?_
  refine zt_getv dX11_curves_94 fl_X11_131 (zs_38 hS) (rf_38_58 ((hR.up (by decide)).up (by decide))) ?_
  refine zt_iload dX11_curves_97 rfl ?_
  refine zt_iload dX11_curves_99 rfl ?_
  refine zt_iastore dX11_curves_101 (zs_77 hS) (by decide) (by decide) (by decide) (by decide) ?_
  refine zt_iincv_4 (v := 1) dX11_curves_102 (by decide) rfl (by decide) ?_
  refine zt_goto (tgt := 87) dX11_curves_105 (by decide) ?_
  refine zt_iload dX11_curves_87 rfl ?_
  refine zt_iload_n dX11_curves_89 rfl ?_
  refine zt_icmp_gt (tgt := 108) dX11_curves_90 (by decide) (by decide) (by decide) (fun q => absurd q (by decide)) (fun c_90 => ?_)
  refine zt_aload_n dX11_curves_93 rfl ?_
  refine zt_getv dX11_curves_94 fl_X11_131 (zs_38 hS) (rf_38_58 (((hR.up (by decide)).up (by decide)).upA (by decide))) ?_
  refine zt_iload dX11_curves_97 rfl ?_
  refine zt_iload dX11_curves_99 rfl ?_
  refine zt_iastore dX11_curves_101 (zs_77 hS) (by decide) (by decide) (by decide) (by decide) ?_
  refine zt_iincv_4 (v := 2) dX11_curves_102 (by decide) rfl (by decide) ?_
  refine zt_goto (tgt := 87) dX11_curves_105 (by decide) ?_
  refine zt_iload dX11_curves_87 rfl ?_
  refine zt_iload_n dX11_curves_89 rfl ?_
  refine zt_icmp_gt (tgt := 108) dX11_curves_90 (by decide) (by decide) (by decide) (fun q => absurd q (by decide)) (fun c_90 => ?_)
  refine zt_aload_n dX11_curves_93 rfl ?_
  refine zt_getv dX11_curves_94 fl_X11_131 (zs_38 hS) (rf_38_58 ((((hR.up (by decide)).up (by decide)).upA (by decide)).upA (by decide))) ?_
  refine zt_iload dX11_curves_97 rfl ?_
  refine zt_iload dX11_curves_99 rfl ?_
  refine zt_iastore dX11_curves_101 (zs_77 hS) (by decide) (by decide) (by decide) (by decide) ?_
  refine zt_iincv_4 (v := 3) dX11_curves_102 (by decide) rfl (by decide) ?_
  refine zt_goto (tgt := 87) dX11_curves_105 (by decide) ?_
  refine zt_iload dX11_curves_87 rfl ?_
  refine zt_iload_n dX11_curves_89 rfl ?_
  refine zt_icmp_gt (tgt := 108) dX11_curves_90 (by decide) (by decide) (by decide) (fun c_90 => ?_) (fun q => absurd q (by decide))
  refine zt_iconst dX11_curves_108 ?_
  refine zt_istore_4 dX11_curves_109 (by decide) rfl ?_
  have h77 : lst ((zup (zup (zup (zup (zup h 38 61 0) 38 62 (-1)) 77 0 0) 77 1 1) 77 2 2) 77) 3 = iot 0 3 := by
    show [(zup (zup (zup (zup (zup h 38 61 0) 38 62 (-1)) 77 0 0) 77 1 1) 77 2 2) 77 0, (zup (zup (zup (zup (zup h 38 61 0) 38 62 (-1)) 77 0 0) 77 1 1) 77 2 2) 77 1, (zup (zup (zup (zup (zup h 38 61 0) 38 62 (-1)) 77 0 0) 77 1 1) 77 2 2) 77 2] = [0, 1, 2]
    (repeat first | rw [zupE] | rw [zupA (by decide)] | rw [zupJ (by decide)])
  have hV : mvV h (zup (zup (zup (zup (zup h 38 61 0) 38 62 (-1)) 77 0 0) 77 1 1) 77 2 2) [] := ⟨fun x a b c => by (repeat first | rw [zup_ne b] | rw [zup_ne a]), fun y a b => by (repeat first | rw [zupA (by decide)] | rw [zupJ a] | rw [zupJ b]), (((((hR.up (by decide)).up (by decide)).upA (by decide)).upA (by decide)).upA (by decide)), by (repeat first | rw [zupE] | rw [zupA (by decide)] | rw [zupJ (by decide)]); rfl, fun _ => by (repeat first | rw [zupE] | rw [zupA (by decide)] | rw [zupJ (by decide)]), fun z => absurd rfl z, fun k hk => absurd hk (Nat.not_lt_zero k), fun x hx => absurd hx List.not_mem_nil⟩
  exact l_cvw3 hS hL hr1 he ((rem (h 38 50).toNat (iot 0 3)).length + 1) 1 _ [] (fun _ => by rw [h77]; omega) (by omega) hV (by rw [h77]; exact Or.inl ⟨rfl, chF_iot 3 0 0 (Int.le_refl _) (by omega), by unfold mAll; rw [rem_all (n := (((h 38 50).toNat : Nat) : Int)) (K := 3) (by omega), Int.toNat_natCast]; rfl⟩)

set_option maxRecDepth 100000 in
set_option maxHeartbeats 4000000 in
theorem l_cv4 {d n : Nat} {sh : zSh} {h : zMem} {e th : Int} (hR : zRf h) (hS : zShp sh) (hL : 0 ≤ h 38 50 ∧ h 38 50 ≤ 20) (hr1 : ∀ i, 0 ≤ i → i < h 38 50 → h 71 i = -2147483648 ∨ (-999999 ≤ h 71 i ∧ h 71 i ≤ 999999)) (he : 0 ≤ e ∧ e ≤ 9) (hKL : 4 ≤ (h 38 50).toNat) : zT yX11_curves cX11_curves 8 (some .boolean) (d + 2) 0 0 (fun r n1 sh1 h1 => r = some (0, 1) ∧ n1 = n ∧ sh1 = sh ∧ mvV h h1 (mAll (h 71) e (h 38 50).toNat 4).reverse) 74 [some (2, 38), some (0, 3), some (0, e), some (0, th), none, none, none, none] [] n sh h := by
  refine zt_aload_n dX11_curves_74 rfl ?_
  refine zt_iconst dX11_curves_75 ?_
  refine zt_puti dX11_curves_76 fl_X11_397 rfl (zs_38 hS) (by decide) ?_
  refine zt_aload_n dX11_curves_79 rfl ?_
  refine zt_iconst dX11_curves_80 ?_
  refine zt_puti dX11_curves_81 fl_X11_400 rfl (zs_38 hS) (by decide) ?_
  refine zt_iconst dX11_curves_84 ?_
  refine zt_istore_4 dX11_curves_85 (by decide) rfl ?_
  refine zt_iload dX11_curves_87 rfl ?_
  refine zt_iload_n dX11_curves_89 rfl ?_
  refine zt_icmp_gt (tgt := 108) dX11_curves_90 (by decide) (by decide) (by decide) (fun q => absurd q (by decide)) (fun c_90 => ?_)
  refine zt_aload_n dX11_curves_93 rfl ?_
  refine zt_getv dX11_curves_94 fl_X11_131 (zs_38 hS) (rf_38_58 ((hR.up (by decide)).up (by decide))) ?_
  refine zt_iload dX11_curves_97 rfl ?_
  refine zt_iload dX11_curves_99 rfl ?_
  refine zt_iastore dX11_curves_101 (zs_77 hS) (by decide) (by decide) (by decide) (by decide) ?_
  refine zt_iincv_4 (v := 1) dX11_curves_102 (by decide) rfl (by decide) ?_
  refine zt_goto (tgt := 87) dX11_curves_105 (by decide) ?_
  refine zt_iload dX11_curves_87 rfl ?_
  refine zt_iload_n dX11_curves_89 rfl ?_
  refine zt_icmp_gt (tgt := 108) dX11_curves_90 (by decide) (by decide) (by decide) (fun q => absurd q (by decide)) (fun c_90 => ?_)
  refine zt_aload_n dX11_curves_93 rfl ?_
  refine zt_getv dX11_curves_94 fl_X11_131 (zs_38 hS) (rf_38_58 (((hR.up (by decide)).up (by decide)).upA (by decide))) ?_
  refine zt_iload dX11_curves_97 rfl ?_
  refine zt_iload dX11_curves_99 rfl ?_
  refine zt_iastore dX11_curves_101 (zs_77 hS) (by decide) (by decide) (by decide) (by decide) ?_
  refine zt_iincv_4 (v := 2) dX11_curves_102 (by decide) rfl (by decide) ?_
  refine zt_goto (tgt := 87) dX11_curves_105 (by decide) ?_
  refine zt_iload dX11_curves_87 rfl ?_
  refine zt_iload_n dX11_curves_89 rfl ?_
  refine zt_icmp_gt (tgt := 108) dX11_curves_90 (by decide) (by decide) (by decide) (fun q => absurd q (by decide)) (fun c_90 => ?_)
  refine zt_aload_n dX11_curves_93 rfl ?_
  refine zt_getv dX11_curves_94 fl_X11_131 (zs_38 hS) (rf_38_58 ((((hR.up (by decide)).up (by decide)).upA (by decide)).upA (by decide))) ?_
  refine zt_iload dX11_curves_97 rfl ?_
  refine zt_iload dX11_curves_99 rfl ?_
  refine zt_iastore dX11_curves_101 (zs_77 hS) (by decide) (by decide) (by decide) (by decide) ?_
  refine zt_iincv_4 (v := 3) dX11_curves_102 (by decide) rfl (by decide) ?_
  refine zt_goto (tgt := 87) dX11_curves_105 (by decide) ?_
  refine zt_iload dX11_curves_87 rfl ?_
  refine zt_iload_n dX11_curves_89 rfl ?_
  refine zt_icmp_gt (tgt := 108) dX11_curves_90 (by decide) (by decide) (by decide) (fun q => absurd q (by decide)) (fun c_90 => ?_)
  refine zt_aload_n dX11_curves_93 rfl ?_
  refine zt_getv dX11_curves_94 fl_X11_131 (zs_38 hS) (rf_38_58 (((((hR.up (by decide)).up (by decide)).upA (by decide)).upA (by decide)).upA (by decide))) ?_
  refine zt_iload dX11_curves_97 rfl ?_
  refine zt_iload dX11_curves_99 rfl ?_
  refine zt_iastore dX11_curves_101 (zs_77 hS) (by decide) (by decide) (by decide) (by decide) ?_
  refine zt_iincv_4 (v := 4) dX11_curves_102 (by decide) rfl (by decide) ?_
  refine zt_goto (tgt := 87) dX11_curves_105 (by decide) ?_
  refine zt_iload dX11_curves_87 rfl ?_
  refine zt_iload_n dX11_curves_89 rfl ?_
  refine zt_icmp_gt (tgt := 108) dX11_curves_90 (by decide) (by decide) (by decide) (fun c_90 => ?_) (fun q => absurd q (by decide))
  refine zt_iconst dX11_curves_108 ?_
  refine zt_istore_4 dX11_curves_109 (by decide) rfl ?_
  have h77 : lst ((zup (zup (zup (zup (zup (zup h 38 61 0) 38 62 (-1)) 77 0 0) 77 1 1) 77 2 2) 77 3 3) 77) 4 = iot 0 4 := by
    show [(zup (zup (zup (zup (zup (zup h 38 61 0) 38 62 (-1)) 77 0 0) 77 1 1) 77 2 2) 77 3 3) 77 0, (zup (zup (zup (zup (zup (zup h 38 61 0) 38 62 (-1)) 77 0 0) 77 1 1) 77 2 2) 77 3 3) 77 1, (zup (zup (zup (zup (zup (zup h 38 61 0) 38 62 (-1)) 77 0 0) 77 1 1) 77 2 2) 77 3 3) 77 2, (zup (zup (zup (zup (zup (zup h 38 61 0) 38 62 (-1)) 77 0 0) 77 1 1) 77 2 2) 77 3 3) 77 3] = [0, 1, 2, 3]
    (repeat first | rw [zupE] | rw [zupA (by decide)] | rw [zupJ (by decide)])
  have hV : mvV h (zup (zup (zup (zup (zup (zup h 38 61 0) 38 62 (-1)) 77 0 0) 77 1 1) 77 2 2) 77 3 3) [] := ⟨fun x a b c => by (repeat first | rw [zup_ne b] | rw [zup_ne a]), fun y a b => by (repeat first | rw [zupA (by decide)] | rw [zupJ a] | rw [zupJ b]), ((((((hR.up (by decide)).up (by decide)).upA (by decide)).upA (by decide)).upA (by decide)).upA (by decide)), by (repeat first | rw [zupE] | rw [zupA (by decide)] | rw [zupJ (by decide)]); rfl, fun _ => by (repeat first | rw [zupE] | rw [zupA (by decide)] | rw [zupJ (by decide)]), fun z => absurd rfl z, fun k hk => absurd hk (Nat.not_lt_zero k), fun x hx => absurd hx List.not_mem_nil⟩
  exact l_cvw4 hS hL hr1 he ((rem (h 38 50).toNat (iot 0 4)).length + 1) 1 _ [] (fun _ => by rw [h77]; omega) (by omega) hV (by rw [h77]; exact Or.inl ⟨rfl, chF_iot 4 0 0 (Int.le_refl _) (by omega), by unfold mAll; rw [rem_all (n := (((h 38 50).toNat : Nat) : Int)) (K := 4) (by omega), Int.toNat_natCast]; rfl⟩)

theorem rPn_cnt (g : Int → Int) : ∀ (k : Nat) (N : Int), N = k → zS (fun j => zb (g j ≠ -2147483648)) 0 N = (rPn g k).length
  | 0, N, e => by rw [zS_e (by omega)]; rfl
  | k + 1, N, e => by
    have ih := rPn_cnt g k k rfl
    have e1 : zS (fun j => zb (g j ≠ -2147483648)) 0 N = zS (fun j => zb (g j ≠ -2147483648)) 0 k + zb (g k ≠ -2147483648) := by
      have : ∀ (m : Nat) (i : Int), (k : Int) - i = m → zS (fun j => zb (g j ≠ -2147483648)) i (k + 1) = zS (fun j => zb (g j ≠ -2147483648)) i k + zb (g k ≠ -2147483648) := by
        intro m
        induction m with
        | zero => intro i hi; rw [zS_s (by omega), zS_e (by omega), zS_e (by omega), show i = k by omega]; omega
        | succ m ih => intro i hi; rw [zS_s (by omega), zS_s (N := (k : Int)) (by omega), ih (i + 1) (by omega)]; omega
      rw [show N = (k : Int) + 1 by omega]; exact this k 0 (by omega)
    rw [e1, ih]
    show _ = ((if g k ≠ -2147483648 then rPn g k ++ [(k : Int)] else rPn g k).length : Int)
    by_cases c : g k ≠ -2147483648
    · rw [if_pos c, zb_t c, List.length_append, List.length_singleton]; omega
    · rw [if_neg c, zb_f c]; omega
abbrev cvOK (h : zMem) (m e : Int) : Prop := (0 ≤ m ∧ m ≤ 3) ∧ (0 ≤ e ∧ e ≤ 9) ∧ m + 1 ≤ (rPn (h 71) (h 38 50).toNat).length

set_option maxRecDepth 100000 in
set_option maxHeartbeats 4000000 in
theorem l_cvt {d n : Nat} {sh : zSh} {h : zMem} {m e : Int} (hS : zShp sh) (hR : zRf h) (hL : 0 ≤ h 38 50 ∧ h 38 50 ≤ 20) (hr1 : ∀ i, 0 ≤ i → i < h 38 50 → h 71 i = -2147483648 ∨ (-999999 ≤ h 71 i ∧ h 71 i ≤ 999999)) (hm0 : zi32 m) (he0 : zi32 e)  : ∀ (k : Nat) (i : Int) (c : Int), h 38 50 - i < (k : Int) → 0 ≤ i → i ≤ h 38 50 → zS (fun j => zb (h 71 j ≠ -2147483648)) 0 (h 38 50) = c + zS (fun j => zb (h 71 j ≠ -2147483648)) i (h 38 50) → zT yX11_curves cX11_curves 8 (some .boolean) (d + 2) 0 0 (fun r n1 sh1 h1 => n1 = n ∧ sh1 = sh ∧ ((cvOK h m e ∧ r = some (0, 1) ∧ mvV h h1 (mAll (h 71) e (h 38 50).toNat (m + 1).toNat).reverse) ∨ (¬ cvOK h m e ∧ r = some (0, 0) ∧ h1 = h))) 5 [some (2, 38), some (0, m), some (0, e), some (0, c), some (0, i), none, none, none] [] n sh h := by
  intro k
  induction k with
  | zero => intros; exfalso; omega
  | succ k ih =>
    intro i c hk h0 h1 hc
    refine zt_iload dX11_curves_5 rfl ?_
    refine zt_aload_n dX11_curves_7 rfl ?_
    refine zt_get dX11_curves_8 fl_X11_388 (zs_38 hS) ?_
    refine zt_icmp_ge (tgt := 41) dX11_curves_11 (by decide) (by omega) (by omega) (fun c_11 => ?_) (fun c_11 => ?_)
    · have hcT : c = ((rPn (h 71) (h 38 50).toNat).length : Int) := by
        rw [← rPn_cnt (h 71) (h 38 50).toNat (h 38 50) (by omega), hc, zS_e (i := i) (by omega)]; omega
      have hthl := rPn_len (h 71) (h 38 50).toNat
      refine zt_iload_n dX11_curves_41 rfl ?_
      refine zt_i2l dX11_curves_42 (by omega) ?_
      refine zt_lconst (v := 0) dX11_curves_43 rfl ?_
      refine zt_ldc2 dX11_curves_44 kc_X11_393 ?_
      refine zt_callS3r dX11_curves_47 ml_X11_143 (Nat.le_of_ble_eq_true rfl) (c_min_ (x := m) (y := 0) (z := 3) (by omega) (by decide) (by decide)) ?_
      refine zt_ifb_eq (tgt := 72) dX11_curves_50 (by decide) (fun c_50 => ?_) (fun c_50 => ?_)
      · refine zt_iconst dX11_curves_72 ?_
        exact zt_zret dX11_curves_73 (by decide) ⟨rfl, rfl, Or.inr ⟨fun q => by first | exact c_50 q.1 | exact c_62 q.2.1 | (have := q.2.2; omega), rfl, rfl⟩⟩
      · refine zt_iload_n dX11_curves_53 rfl ?_
        refine zt_i2l dX11_curves_54 (by omega) ?_
        refine zt_lconst (v := 0) dX11_curves_55 rfl ?_
        refine zt_ldc2 dX11_curves_56 kc_X11_395 ?_
        refine zt_callS3r dX11_curves_59 ml_X11_143 (Nat.le_of_ble_eq_true rfl) (c_min_ (x := e) (y := 0) (z := 9) (by omega) (by decide) (by decide)) ?_
        refine zt_ifb_eq (tgt := 72) dX11_curves_62 (by decide) (fun c_62 => ?_) (fun c_62 => ?_)
        · refine zt_iconst dX11_curves_72 ?_
          exact zt_zret dX11_curves_73 (by decide) ⟨rfl, rfl, Or.inr ⟨fun q => by first | exact c_50 q.1 | exact c_62 q.2.1 | (have := q.2.2; omega), rfl, rfl⟩⟩
        · refine zt_iload_n dX11_curves_65 rfl ?_
          refine zt_iload_n dX11_curves_66 rfl ?_
          refine zt_iconst dX11_curves_67 ?_
          refine zt_iadd dX11_curves_68 ?_
          refine zt_icmp_ge (tgt := 74) dX11_curves_69 (by decide) (by omega) (by omega) (fun c_69 => ?_) (fun c_69 => ?_)
          · have hthl := rPn_len (h 71) (h 38 50).toNat
            have hcv : cvOK h m e := ⟨c_50, c_62, by omega⟩
            rcases (show m = 0 ∨ m = 1 ∨ m = 2 ∨ m = 3 by omega) with rfl | rfl | rfl | rfl
            · refine zt_kill_4 ?_
              exact zt_mono (fun r n1 sh1 h1 q => ⟨q.2.1, q.2.2.1, Or.inl ⟨hcv, q.1, q.2.2.2⟩⟩) (l_cv1 hR hS hL hr1 c_62 (by omega))
            · refine zt_kill_4 ?_
              exact zt_mono (fun r n1 sh1 h1 q => ⟨q.2.1, q.2.2.1, Or.inl ⟨hcv, q.1, q.2.2.2⟩⟩) (l_cv2 hR hS hL hr1 c_62 (by omega))
            · refine zt_kill_4 ?_
              exact zt_mono (fun r n1 sh1 h1 q => ⟨q.2.1, q.2.2.1, Or.inl ⟨hcv, q.1, q.2.2.2⟩⟩) (l_cv3 hR hS hL hr1 c_62 (by omega))
            · refine zt_kill_4 ?_
              exact zt_mono (fun r n1 sh1 h1 q => ⟨q.2.1, q.2.2.1, Or.inl ⟨hcv, q.1, q.2.2.2⟩⟩) (l_cv4 hR hS hL hr1 c_62 (by omega))
          · refine zt_iconst dX11_curves_72 ?_
            exact zt_zret dX11_curves_73 (by decide) ⟨rfl, rfl, Or.inr ⟨fun q => by first | exact c_50 q.1 | exact c_62 q.2.1 | (have := q.2.2; omega), rfl, rfl⟩⟩
    · refine zt_iload_n dX11_curves_14 rfl ?_
      refine zt_aload_n dX11_curves_15 rfl ?_
      refine zt_getv dX11_curves_16 fl_X11_112 (zs_38 hS) (rf_38_51 hR) ?_
      refine zt_iload dX11_curves_19 rfl ?_
      refine zt_iaload dX11_curves_21 (zs_71 hS) (by decide) (by omega) (by omega) ?_
      refine zt_ldc_w dX11_curves_22 kc_X11_283 ?_
      refine zt_icmp_eq (tgt := 32) dX11_curves_25 (by decide) (by rcases hr1 i h0 (by omega) with q | q <;> omega) (by decide) (fun c_25 => ?_) (fun c_25 => ?_)
      · refine zt_iconst dX11_curves_32 ?_
        refine zt_iadd dX11_curves_33 ?_
        refine zt_istore_n_3 dX11_curves_34 (by decide) rfl ?_
        refine zt_iinc_4 dX11_curves_35 (by decide) rfl ?_
        refine zt_goto (tgt := 5) dX11_curves_38 (by decide) ?_
        exact ih (i + 1) _ (by omega) (by omega) (by omega) (by rw [hc, zS_s (by omega)]; first | (rw [zb_t (by omega)]; omega) | (rw [zb_f (by omega)]; omega))
      · refine zt_iconst dX11_curves_28 ?_
        refine zt_goto (tgt := 33) dX11_curves_29 (by decide) ?_
        refine zt_iadd dX11_curves_33 ?_
        refine zt_istore_n_3 dX11_curves_34 (by decide) rfl ?_
        refine zt_iinc_4 dX11_curves_35 (by decide) rfl ?_
        refine zt_goto (tgt := 5) dX11_curves_38 (by decide) ?_
        exact ih (i + 1) _ (by omega) (by omega) (by omega) (by rw [hc, zS_s (by omega)]; first | (rw [zb_t (by omega)]; omega) | (rw [zb_f (by omega)]; omega))

set_option maxRecDepth 100000 in
set_option maxHeartbeats 4000000 in
theorem c_cur {d n : Nat} {sh : zSh} {h : zMem} {m e : Int} (hS : zShp sh) (hR : zRf h) (hL : 0 ≤ h 38 50 ∧ h 38 50 ≤ 20) (hr1 : ∀ i, 0 ≤ i → i < h 38 50 → h 71 i = -2147483648 ∨ (-999999 ≤ h 71 i ∧ h 71 i ≤ 999999)) (hm0 : zi32 m) (he0 : zi32 e) : zM yX11_curves cX11_curves 8 (some .boolean) (d + 2) 0 0 [(2, 38), (0, m), (0, e)] n sh h (fun r n1 sh1 h1 => n1 = n ∧ sh1 = sh ∧ ((cvOK h m e ∧ r = some (0, 1) ∧ mvV h h1 (mAll (h 71) e (h 38 50).toNat (m + 1).toNat).reverse) ∨ (¬ cvOK h m e ∧ r = some (0, 0) ∧ h1 = h))) := by
  refine zM.ofT2 (by decide +kernel) [some (2, 38), some (0, m), some (0, e), none, none, none, none, none] rfl (Nat.le_of_ble_eq_true rfl) ?_
  refine zt_iconst dX11_curves_0 ?_
  refine zt_istore_n_3 dX11_curves_1 (by decide) rfl ?_
  refine zt_iconst dX11_curves_2 ?_
  refine zt_istore_4 dX11_curves_3 (by decide) rfl ?_
  exact l_cvt hS hR hL hr1 hm0 he0 21 0 0 (by omega) (by omega) (by omega) (by omega)

theorem rPn_filter (y : Int → Int) : ∀ L : Nat, (iot 0 L).filter (fun x => decide (y x ≠ -2147483648)) = rPn y L
  | 0 => rfl
  | L + 1 => by
    rw [iot_snoc, List.filter_append, rPn_filter y L, Int.zero_add]
    show _ = if y L ≠ -2147483648 then rPn y L ++ [(L : Int)] else rPn y L
    by_cases c : y L ≠ -2147483648
    · rw [if_pos c, List.filter_cons_of_pos (by simpa using c)]; rfl
    · rw [if_neg c, List.filter_cons_of_neg (by simpa using c)]; simp

theorem mAll_ne {y : Int → Int} {e : Int} {L K : Nat} (h : K ≤ (rPn y L).length) : (mAll y e L K).reverse ≠ [] := fun q => by
  have q2 : mAll y e L K = [] := by simpa using q
  unfold mAll at q2
  have e0 : (iot 0 L).filter (fun x => decide (y x ≠ -2147483648)) = rPn y L := rPn_filter y L
  rw [show alp y = fun c => c.all (fun x => decide (y x ≠ -2147483648)) from rfl, CL_filter, e0] at q2
  have e1 := congrArg List.length q2
  rw [List.length_map, CL_len] at e1
  have : ∀ (N K : Nat), K ≤ N → 0 < cnb N K := by
    intro N
    induction N with
    | zero => intro K hK; rw [show K = 0 by omega]; decide
    | succ N ih =>
      intro K hK
      cases K with
      | zero => show 0 < 1; omega
      | succ K => show 0 < cnb N K + cnb N (K + 1); have := ih K (by omega); omega
  have := this _ _ h
  simp at e1
  omega

set_option maxRecDepth 100000 in
set_option maxHeartbeats 4000000 in
theorem c_jsus {d n : Nat} {sh : zSh} {h : zMem} {m e : Int} (hS : zShp sh) (hR : zRf h) (hL : 0 ≤ h 38 50 ∧ h 38 50 ≤ 20) (hr1 : ∀ i, 0 ≤ i → i < h 38 50 → h 71 i = -2147483648 ∨ (-999999 ≤ h 71 i ∧ h 71 i ≤ 999999)) (hm0 : zi32 m) (he0 : zi32 e) : zM yX11_suspects cX11_suspects 3 (some .int) (d + 3) 0 0 [(2, 38), (0, m), (0, e)] n sh h (fun r n1 sh1 h1 => n1 = n ∧ sh1 = sh ∧ ((cvOK h m e ∧ r = some (0, (sB (mAll (h 71) e (h 38 50).toNat (m + 1).toNat).reverse).2) ∧ mvV h h1 (mAll (h 71) e (h 38 50).toNat (m + 1).toNat).reverse) ∨ (¬ cvOK h m e ∧ r = some (0, -1) ∧ h1 = h))) := by
  refine zM.ofT2 (by decide +kernel) [some (2, 38), some (0, m), some (0, e)] rfl (Nat.le_of_ble_eq_true rfl) ?_
  refine zt_aload_n dX11_suspects_0 rfl ?_
  refine zt_iload_n dX11_suspects_1 rfl ?_
  refine zt_iload_n dX11_suspects_2 rfl ?_
  refine zt_callV2q dX11_suspects_3 ml_X11_409 (zs_38 hS) (Nat.le_of_ble_eq_true rfl) (c_cur hS hR hL hr1 hm0 he0) ?_
  rintro r n1 sh1 g ⟨rfl, rfl, hz⟩
  rcases hz with ⟨hcv, rfl, hV⟩ | ⟨hcv, rfl, rfl⟩
  all_goals simp only [Option.toList, List.cons_append, List.nil_append]
  · skip
    refine zt_if_eq (tgt := 16) dX11_suspects_6 (by decide) (by decide) (fun q => absurd q (by decide)) (fun c_6 => ?_)
    refine zt_aload_n dX11_suspects_9 rfl ?_
    refine zt_getv (v := (sB (mAll (h 71) e (h 38 50).toNat (m + 1).toNat).reverse).2) dX11_suspects_10 fl_X11_400 (zs_38 hS) (hV.2.2.2.2.2.1 (mAll_ne (by omega))) ?_
    refine zt_goto (tgt := 17) dX11_suspects_13 (by decide) ?_
    exact zt_iret dX11_suspects_17 ⟨rfl, rfl, Or.inl ⟨hcv, rfl, hV⟩⟩
  · skip
    refine zt_if_eq (tgt := 16) dX11_suspects_6 (by decide) (by decide) (fun c_6 => ?_) (fun q => absurd q (by decide))
    refine zt_iconst dX11_suspects_16 ?_
    exact zt_iret dX11_suspects_17 ⟨rfl, rfl, Or.inr ⟨hcv, rfl, rfl⟩⟩

/-- how many different ones of so many bits, but s -/
def dCx (s : Int) : List Int → Int → Int
  | [], _ => 0
  | x :: R, b => dCx s R b + (if (x ≠ s ∧ bts x = b) ∧ x ∉ R then 1 else 0)
theorem dCx_eq {s b : Int} (hs : bts s = b) : ∀ R : List Int, dC R b = dCx s R b + (if s ∈ R then 1 else 0)
  | [] => rfl
  | x :: R => by
    have ih := dCx_eq hs R
    show dC R b + (if bts x = b ∧ x ∉ R then 1 else 0) = dCx s R b + (if (x ≠ s ∧ bts x = b) ∧ x ∉ R then 1 else 0) + _
    rw [ih]
    by_cases c : x = s
    · subst c
      rw [if_neg (show ¬ ((x ≠ x ∧ bts x = b) ∧ x ∉ R) from fun z => z.1.1 rfl), if_pos (show x ∈ x :: R from List.mem_cons_self)]
      by_cases c2 : x ∈ R
      · rw [if_pos c2, if_neg (fun z => z.2 c2)]; omega
      · rw [if_neg c2, if_pos ⟨hs, c2⟩]; (try omega)
    · have e : (s ∈ x :: R) ↔ s ∈ R := by rw [List.mem_cons]; exact ⟨fun z => z.resolve_left (fun w => c w.symm), Or.inr⟩
      have e2 : ((x ≠ s ∧ bts x = b) ∧ x ∉ R) ↔ (bts x = b ∧ x ∉ R) := ⟨fun z => ⟨z.1.2, z.2⟩, fun z => ⟨⟨c, z.1⟩, z.2⟩⟩
      simp only [e, e2]; omega
theorem dCx_b {s : Int} : ∀ (R : List Int) (b : Int), 0 ≤ dCx s R b ∧ dCx s R b ≤ R.length
  | [], _ => ⟨Int.le_refl _, Int.le_refl _⟩
  | x :: R, b => by have := dCx_b (s := s) R b; unfold dCx; rw [List.length_cons]; split <;> omega
theorem mem_take {A : List Int} {k : Nat} {v : Int} : v ∈ (A.take k) ↔ ∃ i : Nat, (i < k ∧ i < A.length) ∧ A.getD i 0 = v := by
  constructor
  · intro h
    obtain ⟨i, hi, e⟩ := List.mem_iff_getElem.mp h
    rw [List.length_take] at hi
    refine ⟨i, ⟨by omega, by omega⟩, ?_⟩
    rw [List.getElem_take] at e
    rw [List.getD_eq_getElem?_getD, List.getElem?_eq_getElem (by omega)]; exact e
  · rintro ⟨i, hi, e⟩
    rw [List.getD_eq_getElem?_getD, List.getElem?_eq_getElem (by omega)] at e
    refine List.mem_iff_getElem.mpr ⟨i, by rw [List.length_take]; omega, ?_⟩
    rw [List.getElem_take]; exact e

set_option maxRecDepth 100000 in
set_option maxHeartbeats 4000000 in
theorem l_jri {d n : Nat} {sh : zSh} {h : zMem} {g : zMem} {m e c x : Int} {R : List Int} {P0 : Prop} {Q : Option zV → Nat → zSh → zMem → Prop} (hS : zShp sh) (hV : mvV h g R) (hne : R ≠ []) (hRl : R.length ≤ 4845) (hx : 0 ≤ x ∧ x < R.length) (hh : ∀ j : Int, 0 ≤ j → j < R.length → g 79 j = R.reverse.getD j.toNat 0) (hrb : ∀ j : Int, 0 ≤ j → j < R.length → 0 ≤ R.reverse.getD j.toNat 0 ∧ R.reverse.getD j.toNat 0 < 1048576) (hK : ∀ t : Int, (t = 0 ∨ t = 1) → (t = 1 ↔ P0 ∧ R.reverse.getD x.toNat 0 ∉ R.reverse.take x.toNat) → zT yX11_rivals cX11_rivals 7 (some .int) (d + 3) 0 0 Q 111 [some (2, 38), some (0, m), some (0, e), some (0, c), some (0, x), some (0, t), none] [] n sh g)  : ∀ (k : Nat) (i : Int) (t : Int), x - i < (k : Int) → 0 ≤ i → i ≤ x → (t = 0 ∨ t = 1) → (t = 1 ↔ P0 ∧ ∀ j : Int, 0 ≤ j → j < i → R.reverse.getD j.toNat 0 ≠ R.reverse.getD x.toNat 0) → zT yX11_rivals cX11_rivals 7 (some .int) (d + 3) 0 0 Q 69 [some (2, 38), some (0, m), some (0, e), some (0, c), some (0, x), some (0, t), some (0, i)] [] n sh g := by
  intro k
  induction k with
  | zero => intros; exfalso; omega
  | succ k ih =>
    intro i t hk h0 h1 ht ht2
    refine zt_iload dX11_rivals_69 rfl ?_
    refine zt_iload dX11_rivals_71 rfl ?_
    refine zt_icmp_ge (tgt := 111) dX11_rivals_73 (by decide) (by omega) (by omega) (fun c_73 => ?_) (fun c_73 => ?_)
    · refine zt_kill_6 ?_
      refine hK t ht ⟨fun z => ⟨(ht2.mp z).1, fun w => ?_⟩, fun z => ht2.mpr ⟨z.1, fun j a b q => z.2 (mem_take.mpr ⟨j.toNat, ⟨by omega, by rw [List.length_reverse]; omega⟩, q⟩)⟩⟩
      obtain ⟨j, hj, e⟩ := mem_take.mp w
      refine (ht2.mp z).2 j (by omega) ?_ (by rw [Int.toNat_natCast]; exact e)
      omega
    · refine zt_iload dX11_rivals_76 rfl ?_
      refine zt_if_eq (tgt := 111) dX11_rivals_78 (by decide) (by omega) (fun c_78 => ?_) (fun c_78 => ?_)
      · refine zt_kill_6 ?_
        refine hK t ht ⟨fun z => ⟨(ht2.mp z).1, fun w => ?_⟩, fun z => ht2.mpr ⟨z.1, fun j a b q => z.2 (mem_take.mpr ⟨j.toNat, ⟨by omega, by rw [List.length_reverse]; omega⟩, q⟩)⟩⟩
        obtain ⟨j, hj, e⟩ := mem_take.mp w
        refine (ht2.mp z).2 j (by omega) ?_ (by rw [Int.toNat_natCast]; exact e)
        omega
      · have hr1 := hrb i h0 (by omega)
        have hr2 := hrb x (by omega) (by omega)
        refine zt_aload_n dX11_rivals_81 rfl ?_
        refine zt_getv dX11_rivals_82 fl_X11_137 (zs_38 hS) (rf_38_60 hV.2.2.1) ?_
        refine zt_iload dX11_rivals_85 rfl ?_
        refine zt_ialoadv (v := R.reverse.getD (i).toNat 0) dX11_rivals_87 (zs_79 hS) (by decide) (by omega) (by omega) (hh i (by omega) (by omega)) ?_
        refine zt_aload_n dX11_rivals_88 rfl ?_
        refine zt_getv dX11_rivals_89 fl_X11_137 (zs_38 hS) (rf_38_60 hV.2.2.1) ?_
        refine zt_iload dX11_rivals_92 rfl ?_
        refine zt_ialoadv (v := R.reverse.getD (x).toNat 0) dX11_rivals_94 (zs_79 hS) (by decide) (by omega) (by omega) (hh x (by omega) (by omega)) ?_
        refine zt_icmp_eq (tgt := 102) dX11_rivals_95 (by decide) (by omega) (by omega) (fun c_95 => ?_) (fun c_95 => ?_)
        · refine zt_iconst dX11_rivals_102 ?_
          refine zt_istore_5 dX11_rivals_103 (by decide) rfl ?_
          refine zt_iinc_6 dX11_rivals_105 (by decide) rfl ?_
          refine zt_goto (tgt := 69) dX11_rivals_108 (by decide) ?_
          exact ih (i + 1) 0 (by omega) (by omega) (by omega) (by omega) ⟨fun z => absurd z (by decide), fun z => absurd c_95 (z.2 i h0 (by omega))⟩
        · refine zt_iconst dX11_rivals_98 ?_
          refine zt_goto (tgt := 103) dX11_rivals_99 (by decide) ?_
          refine zt_istore_5 dX11_rivals_103 (by decide) rfl ?_
          refine zt_iinc_6 dX11_rivals_105 (by decide) rfl ?_
          refine zt_goto (tgt := 69) dX11_rivals_108 (by decide) ?_
          exact ih (i + 1) 1 (by omega) (by omega) (by omega) (by omega) ⟨fun z => ⟨(ht2.mp (by omega)).1, fun j a b => by by_cases ej : j = i; (subst ej; exact c_95); exact (ht2.mp (by omega)).2 j a (by omega)⟩, fun _ => rfl⟩

theorem take_s {A : List Int} {k : Nat} (h : k < A.length) : (A.take (k + 1)).reverse = A.getD k 0 :: (A.take k).reverse := by
  rw [List.take_succ, List.getD_eq_getElem?_getD, List.getElem?_eq_getElem h, List.reverse_append]; rfl

set_option maxRecDepth 100000 in
set_option maxHeartbeats 4000000 in
theorem l_jro {d n : Nat} {sh : zSh} {h : zMem} {g : zMem} {m e : Int} {R : List Int} (hS : zShp sh) (hV : mvV h g R) (hne : R ≠ []) (hRl : R.length ≤ 4845) (hsm : (sB R).2 ∈ R ∧ bts (sB R).2 = (sB R).1) (hsr : 0 ≤ (sB R).2 ∧ (sB R).2 < 1048576) (hh : ∀ j : Int, 0 ≤ j → j < R.length → g 79 j = R.reverse.getD j.toNat 0) (hrb : ∀ j : Int, 0 ≤ j → j < R.length → 0 ≤ R.reverse.getD j.toNat 0 ∧ R.reverse.getD j.toNat 0 < 1048576)  : ∀ (k : Nat) (x : Int) (c : Int), (R.length : Int) - x < (k : Int) → 0 ≤ x → x ≤ R.length → c = dCx (sB R).2 (R.reverse.take x.toNat).reverse (sB R).1 → zT yX11_rivals cX11_rivals 7 (some .int) (d + 3) 0 0 (zq (some (0, dC R (sB R).1 - 1)) n sh g) 16 [some (2, 38), some (0, m), some (0, e), some (0, c), some (0, x), none, none] [] n sh g := by
  intro k
  induction k with
  | zero => intros; exfalso; omega
  | succ k ih =>
    intro x c hk h0 h1 hc
    refine zt_iload dX11_rivals_16 rfl ?_
    refine zt_aload_n dX11_rivals_18 rfl ?_
    refine zt_getv (v := (R.length : Int)) dX11_rivals_19 fl_X11_397 (zs_38 hS) hV.2.2.2.1 ?_
    refine zt_icmp_ge (tgt := 130) dX11_rivals_22 (by decide) (by omega) (by omega) (fun c_22 => ?_) (fun c_22 => ?_)
    · refine zt_iload_n dX11_rivals_130 rfl ?_
      exact zt_iret dX11_rivals_131 ⟨by congr 2; rw [hc, List.take_of_length_le (by rw [List.length_reverse]; omega), List.reverse_reverse]; have q := dCx_eq (s := (sB R).2) (b := (sB R).1) hsm.2 R; rw [if_pos hsm.1] at q; omega, rfl, rfl, rfl⟩
    · have hrx := hrb x h0 (by omega)
      have hcb := dCx_b (s := (sB R).2) (R.reverse.take x.toNat).reverse (sB R).1
      refine zt_aload_n dX11_rivals_25 rfl ?_
      refine zt_getv dX11_rivals_26 fl_X11_137 (zs_38 hS) (rf_38_60 hV.2.2.1) ?_
      refine zt_iload dX11_rivals_29 rfl ?_
      refine zt_ialoadv (v := R.reverse.getD (x).toNat 0) dX11_rivals_31 (zs_79 hS) (by decide) (by omega) (by omega) (hh x (by omega) (by omega)) ?_
      refine zt_aload_n dX11_rivals_32 rfl ?_
      refine zt_getv (v := (sB R).2) dX11_rivals_33 fl_X11_400 (zs_38 hS) (hV.2.2.2.2.2.1 hne) ?_
      refine zt_icmp_eq (tgt := 63) dX11_rivals_36 (by decide) (by omega) (by omega) (fun c_36 => ?_) (fun c_36 => ?_)
      · refine zt_iconst dX11_rivals_63 ?_
        refine zt_istore_5 dX11_rivals_64 (by decide) rfl ?_
        refine zt_iconst dX11_rivals_66 ?_
        refine zt_istore_6 dX11_rivals_67 (by decide) rfl ?_
        refine l_jri (h := h) (R := R) (P0 := (R.reverse.getD x.toNat 0 ≠ (sB R).2 ∧ bts (R.reverse.getD x.toNat 0) = (sB R).1)) hS hV hne hRl ⟨h0, by omega⟩ hh hrb (fun t ht ht2 => ?_) (x.toNat + 1) 0 0 (by omega) (by omega) h0 (by omega) ⟨fun z => absurd z (by decide), fun z => absurd z.1 (fun w => by first | exact w.1 c_36 | (have := w.2; omega))⟩
        refine zt_iload_n dX11_rivals_111 rfl ?_
        refine zt_iload dX11_rivals_112 rfl ?_
        refine zt_if_eq (tgt := 121) dX11_rivals_114 (by decide) (by omega) (fun c_114 => ?_) (fun c_114 => ?_)
        · refine zt_iconst dX11_rivals_121 ?_
          refine zt_iadd dX11_rivals_122 ?_
          refine zt_istore_n_3 dX11_rivals_123 (by decide) rfl ?_
          refine zt_iinc_4 dX11_rivals_124 (by decide) rfl ?_
          refine zt_goto (tgt := 16) dX11_rivals_127 (by decide) ?_
          refine zt_kill_5 ?_
          exact ih (x + 1) (c + 0) (by omega) (by omega) (by omega) (by rw [show (x + 1).toNat = x.toNat + 1 by omega, take_s (by rw [List.length_reverse]; omega)]; show c + 0 = dCx (sB R).2 (R.reverse.take x.toNat).reverse (sB R).1 + (if (R.reverse.getD x.toNat 0 ≠ (sB R).2 ∧ bts (R.reverse.getD x.toNat 0) = (sB R).1) ∧ R.reverse.getD x.toNat 0 ∉ (R.reverse.take x.toNat).reverse then 1 else 0); rw [if_neg (fun z => absurd (ht2.mpr ⟨z.1, fun w => z.2 (List.mem_reverse.mpr w)⟩) (by omega)), hc])
        · refine zt_iconst dX11_rivals_117 ?_
          refine zt_goto (tgt := 122) dX11_rivals_118 (by decide) ?_
          refine zt_iadd dX11_rivals_122 ?_
          refine zt_istore_n_3 dX11_rivals_123 (by decide) rfl ?_
          refine zt_iinc_4 dX11_rivals_124 (by decide) rfl ?_
          refine zt_goto (tgt := 16) dX11_rivals_127 (by decide) ?_
          refine zt_kill_5 ?_
          exact ih (x + 1) (c + 1) (by omega) (by omega) (by omega) (by rw [show (x + 1).toNat = x.toNat + 1 by omega, take_s (by rw [List.length_reverse]; omega)]; show c + 1 = dCx (sB R).2 (R.reverse.take x.toNat).reverse (sB R).1 + (if (R.reverse.getD x.toNat 0 ≠ (sB R).2 ∧ bts (R.reverse.getD x.toNat 0) = (sB R).1) ∧ R.reverse.getD x.toNat 0 ∉ (R.reverse.take x.toNat).reverse then 1 else 0); rw [if_pos ⟨(ht2.mp (by omega)).1, fun w => (ht2.mp (by omega)).2 (List.mem_reverse.mp w)⟩, hc])
      · refine zt_aload_n dX11_rivals_39 rfl ?_
        refine zt_getv dX11_rivals_40 fl_X11_137 (zs_38 hS) (rf_38_60 hV.2.2.1) ?_
        refine zt_iload dX11_rivals_43 rfl ?_
        refine zt_ialoadv (v := R.reverse.getD (x).toNat 0) dX11_rivals_45 (zs_79 hS) (by decide) (by omega) (by omega) (hh x (by omega) (by omega)) ?_
        refine zt_callS1r dX11_rivals_46 ml_X11_406 (Nat.le_of_ble_eq_true rfl) (c_jbi ⟨by omega, by omega⟩) ?_
        have hbt46 : 0 ≤ bts (R.reverse.getD (x).toNat 0) ∧ bts (R.reverse.getD (x).toNat 0) ≤ 20 := bt_b 20 _
        refine zt_aload_n dX11_rivals_49 rfl ?_
        refine zt_getv (v := (sB R).2) dX11_rivals_50 fl_X11_400 (zs_38 hS) (hV.2.2.2.2.2.1 hne) ?_
        refine zt_callS1r dX11_rivals_53 ml_X11_406 (Nat.le_of_ble_eq_true rfl) (c_jbi ⟨by omega, by omega⟩) ?_
        have hbt53 : 0 ≤ bts ((sB R).2) ∧ bts ((sB R).2) ≤ 20 := bt_b 20 _
        refine zt_icmp_ne (tgt := 63) dX11_rivals_56 (by decide) (by omega) (by omega) (fun c_56 => ?_) (fun c_56 => ?_)
        · refine zt_iconst dX11_rivals_63 ?_
          refine zt_istore_5 dX11_rivals_64 (by decide) rfl ?_
          refine zt_iconst dX11_rivals_66 ?_
          refine zt_istore_6 dX11_rivals_67 (by decide) rfl ?_
          refine l_jri (h := h) (R := R) (P0 := (R.reverse.getD x.toNat 0 ≠ (sB R).2 ∧ bts (R.reverse.getD x.toNat 0) = (sB R).1)) hS hV hne hRl ⟨h0, by omega⟩ hh hrb (fun t ht ht2 => ?_) (x.toNat + 1) 0 0 (by omega) (by omega) h0 (by omega) ⟨fun z => absurd z (by decide), fun z => absurd z.1 (fun w => by first | exact w.1 c_36 | (have := w.2; omega))⟩
          refine zt_iload_n dX11_rivals_111 rfl ?_
          refine zt_iload dX11_rivals_112 rfl ?_
          refine zt_if_eq (tgt := 121) dX11_rivals_114 (by decide) (by omega) (fun c_114 => ?_) (fun c_114 => ?_)
          · refine zt_iconst dX11_rivals_121 ?_
            refine zt_iadd dX11_rivals_122 ?_
            refine zt_istore_n_3 dX11_rivals_123 (by decide) rfl ?_
            refine zt_iinc_4 dX11_rivals_124 (by decide) rfl ?_
            refine zt_goto (tgt := 16) dX11_rivals_127 (by decide) ?_
            refine zt_kill_5 ?_
            exact ih (x + 1) (c + 0) (by omega) (by omega) (by omega) (by rw [show (x + 1).toNat = x.toNat + 1 by omega, take_s (by rw [List.length_reverse]; omega)]; show c + 0 = dCx (sB R).2 (R.reverse.take x.toNat).reverse (sB R).1 + (if (R.reverse.getD x.toNat 0 ≠ (sB R).2 ∧ bts (R.reverse.getD x.toNat 0) = (sB R).1) ∧ R.reverse.getD x.toNat 0 ∉ (R.reverse.take x.toNat).reverse then 1 else 0); rw [if_neg (fun z => absurd (ht2.mpr ⟨z.1, fun w => z.2 (List.mem_reverse.mpr w)⟩) (by omega)), hc])
          · refine zt_iconst dX11_rivals_117 ?_
            refine zt_goto (tgt := 122) dX11_rivals_118 (by decide) ?_
            refine zt_iadd dX11_rivals_122 ?_
            refine zt_istore_n_3 dX11_rivals_123 (by decide) rfl ?_
            refine zt_iinc_4 dX11_rivals_124 (by decide) rfl ?_
            refine zt_goto (tgt := 16) dX11_rivals_127 (by decide) ?_
            refine zt_kill_5 ?_
            exact ih (x + 1) (c + 1) (by omega) (by omega) (by omega) (by rw [show (x + 1).toNat = x.toNat + 1 by omega, take_s (by rw [List.length_reverse]; omega)]; show c + 1 = dCx (sB R).2 (R.reverse.take x.toNat).reverse (sB R).1 + (if (R.reverse.getD x.toNat 0 ≠ (sB R).2 ∧ bts (R.reverse.getD x.toNat 0) = (sB R).1) ∧ R.reverse.getD x.toNat 0 ∉ (R.reverse.take x.toNat).reverse then 1 else 0); rw [if_pos ⟨(ht2.mp (by omega)).1, fun w => (ht2.mp (by omega)).2 (List.mem_reverse.mp w)⟩, hc])
        · refine zt_iconst dX11_rivals_59 ?_
          refine zt_goto (tgt := 64) dX11_rivals_60 (by decide) ?_
          refine zt_istore_5 dX11_rivals_64 (by decide) rfl ?_
          refine zt_iconst dX11_rivals_66 ?_
          refine zt_istore_6 dX11_rivals_67 (by decide) rfl ?_
          refine l_jri (h := h) (R := R) (P0 := (R.reverse.getD x.toNat 0 ≠ (sB R).2 ∧ bts (R.reverse.getD x.toNat 0) = (sB R).1)) hS hV hne hRl ⟨h0, by omega⟩ hh hrb (fun t ht ht2 => ?_) (x.toNat + 1) 0 1 (by omega) (by omega) h0 (by omega) ⟨fun _ => ⟨⟨c_36, by omega⟩, fun j a b => by omega⟩, fun _ => rfl⟩
          refine zt_iload_n dX11_rivals_111 rfl ?_
          refine zt_iload dX11_rivals_112 rfl ?_
          refine zt_if_eq (tgt := 121) dX11_rivals_114 (by decide) (by omega) (fun c_114 => ?_) (fun c_114 => ?_)
          · refine zt_iconst dX11_rivals_121 ?_
            refine zt_iadd dX11_rivals_122 ?_
            refine zt_istore_n_3 dX11_rivals_123 (by decide) rfl ?_
            refine zt_iinc_4 dX11_rivals_124 (by decide) rfl ?_
            refine zt_goto (tgt := 16) dX11_rivals_127 (by decide) ?_
            refine zt_kill_5 ?_
            exact ih (x + 1) (c + 0) (by omega) (by omega) (by omega) (by rw [show (x + 1).toNat = x.toNat + 1 by omega, take_s (by rw [List.length_reverse]; omega)]; show c + 0 = dCx (sB R).2 (R.reverse.take x.toNat).reverse (sB R).1 + (if (R.reverse.getD x.toNat 0 ≠ (sB R).2 ∧ bts (R.reverse.getD x.toNat 0) = (sB R).1) ∧ R.reverse.getD x.toNat 0 ∉ (R.reverse.take x.toNat).reverse then 1 else 0); rw [if_neg (fun z => absurd (ht2.mpr ⟨z.1, fun w => z.2 (List.mem_reverse.mpr w)⟩) (by omega)), hc])
          · refine zt_iconst dX11_rivals_117 ?_
            refine zt_goto (tgt := 122) dX11_rivals_118 (by decide) ?_
            refine zt_iadd dX11_rivals_122 ?_
            refine zt_istore_n_3 dX11_rivals_123 (by decide) rfl ?_
            refine zt_iinc_4 dX11_rivals_124 (by decide) rfl ?_
            refine zt_goto (tgt := 16) dX11_rivals_127 (by decide) ?_
            refine zt_kill_5 ?_
            exact ih (x + 1) (c + 1) (by omega) (by omega) (by omega) (by rw [show (x + 1).toNat = x.toNat + 1 by omega, take_s (by rw [List.length_reverse]; omega)]; show c + 1 = dCx (sB R).2 (R.reverse.take x.toNat).reverse (sB R).1 + (if (R.reverse.getD x.toNat 0 ≠ (sB R).2 ∧ bts (R.reverse.getD x.toNat 0) = (sB R).1) ∧ R.reverse.getD x.toNat 0 ∉ (R.reverse.take x.toNat).reverse then 1 else 0); rw [if_pos ⟨(ht2.mp (by omega)).1, fun w => (ht2.mp (by omega)).2 (List.mem_reverse.mp w)⟩, hc])

set_option maxRecDepth 100000 in
set_option maxHeartbeats 4000000 in
theorem c_jriv2 {d n : Nat} {sh : zSh} {h : zMem} {m e : Int} (hS : zShp sh) (hR : zRf h) (hL : 0 ≤ h 38 50 ∧ h 38 50 ≤ 20) (hr1 : ∀ i, 0 ≤ i → i < h 38 50 → h 71 i = -2147483648 ∨ (-999999 ≤ h 71 i ∧ h 71 i ≤ 999999)) (hm0 : zi32 m) (he0 : zi32 e) : zM yX11_rivals cX11_rivals 7 (some .int) (d + 3) 0 0 [(2, 38), (0, m), (0, e)] n sh h (fun r n1 sh1 h1 => n1 = n ∧ sh1 = sh ∧ ((cvOK h m e ∧ r = some (0, dC (mAll (h 71) e (h 38 50).toNat (m + 1).toNat).reverse (sB (mAll (h 71) e (h 38 50).toNat (m + 1).toNat).reverse).1 - 1) ∧ mvV h h1 (mAll (h 71) e (h 38 50).toNat (m + 1).toNat).reverse) ∨ (¬ cvOK h m e ∧ r = some (0, -1) ∧ h1 = h))) := by
  refine zM.ofT2 (by decide +kernel) [some (2, 38), some (0, m), some (0, e), none, none, none, none] rfl (Nat.le_of_ble_eq_true rfl) ?_
  refine zt_aload_n dX11_rivals_0 rfl ?_
  refine zt_iload_n dX11_rivals_1 rfl ?_
  refine zt_iload_n dX11_rivals_2 rfl ?_
  refine zt_callV2q dX11_rivals_3 ml_X11_409 (zs_38 hS) (Nat.le_of_ble_eq_true rfl) (c_cur hS hR hL hr1 hm0 he0) ?_
  rintro r n1 sh1 g ⟨rfl, rfl, hz⟩
  rcases hz with ⟨hcv, rfl, hV⟩ | ⟨hcv, rfl, rfl⟩
  all_goals simp only [Option.toList, List.cons_append, List.nil_append]
  · skip
    refine zt_if_ne (tgt := 11) dX11_rivals_6 (by decide) (by decide) (fun c_6 => ?_) (fun q => absurd q (by decide))
    refine zt_iconst dX11_rivals_11 ?_
    refine zt_istore_n_3 dX11_rivals_12 (by decide) rfl ?_
    refine zt_iconst dX11_rivals_13 ?_
    refine zt_istore_4 dX11_rivals_14 (by decide) rfl ?_
    have hne := mAll_ne (y := h 71) (e := e) (L := (h 38 50).toNat) (K := (m + 1).toNat) (by omega)
    have hRl : ((mAll (h 71) e (h 38 50).toNat (m + 1).toNat).reverse).length ≤ 4845 := mvA_len (y := h 71) (e := e) (L := (h 38 50).toNat) (K := (m + 1).toNat) (o := 0) (c := []) (by omega) (by omega) (Or.inr ⟨rfl, by rw [List.reverse_reverse]⟩)
    have hsm := sB_mem (mAll (h 71) e (h 38 50).toNat (m + 1).toNat).reverse hne
    generalize hRR : (mAll (h 71) e (h 38 50).toNat (m + 1).toNat).reverse = R at hV hne hRl hsm ⊢
    have hh : ∀ j : Int, 0 ≤ j → j < R.length → g 79 j = R.reverse.getD j.toNat 0 := fun j a b => by have := hV.2.2.2.2.2.2.1 j.toNat (by omega); rw [Int.toNat_of_nonneg a] at this; exact this
    have hrb : ∀ j : Int, 0 ≤ j → j < R.length → 0 ≤ R.reverse.getD j.toNat 0 ∧ R.reverse.getD j.toNat 0 < 1048576 := fun j a b => hV.2.2.2.2.2.2.2 _ (by rw [List.getD_eq_getElem?_getD, List.getElem?_eq_getElem (by rw [List.length_reverse]; omega)]; exact List.mem_reverse.mp (List.getElem_mem _))
    refine zt_mono (fun r n1 sh1 h1 q => ?_) (l_jro (h := h) hS hV hne hRl hsm (hV.2.2.2.2.2.2.2 _ hsm.1) hh hrb (R.length + 1) 0 0 (by omega) (by omega) (by omega) rfl)
    obtain ⟨rfl, rfl, rfl, rfl⟩ := q
    exact ⟨rfl, rfl, Or.inl ⟨hcv, rfl, hV⟩⟩
  · skip
    refine zt_if_ne (tgt := 11) dX11_rivals_6 (by decide) (by decide) (fun q => absurd q (by decide)) (fun c_6 => ?_)
    refine zt_iconst dX11_rivals_9 ?_
    exact zt_iret dX11_rivals_10 ⟨rfl, rfl, Or.inr ⟨hcv, rfl, rfl⟩⟩

