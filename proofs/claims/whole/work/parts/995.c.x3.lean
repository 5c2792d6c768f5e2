/-- what has a shape lies below n -/
theorem zt_lt {y : MethodName} {cc : ByteArray} {mL : Nat} {rt : Option FieldType} {d kc ks : Nat} {Q : Option zV → Nat → zSh → zMem → Prop} {pc : Nat} {ls : List (Option zV)} {st : List zV} {n : Nat} {sh : zSh} {h : zMem} (k : (∀ a : Int, (sh a).1 < 106 → 0 ≤ a ∧ a < n) → zT y cc mL rt d kc ks Q pc ls st n sh h) : zT y cc mL rt d kc ks Q pc ls st n sh h := by
  intro l D cA φ n0 p e s m args below meth c K N H locs cells slots ls0 E S X V L c1 c2
  refine k (fun a ha => ?_) l D cA φ n0 p e s m args below meth c K N H locs cells slots ls0 E S X V L c1 c2
  have h1 : ¬ (a < 0 ∨ (n : Int) ≤ a) := fun q => by have := S.2.1 a q; omega
  omega

/-- a sheet at a, whose code works out w -/
def xSg (sh : zSh) (h : zMem) (a : Int) (w : zFr → zFr) : Prop := (80 ≤ a ∧ sh a = (7, 1) ∧ h a 0 = a + 1) ∧ ∃ N : Nat, sh (a + 1) = (100, N) ∧ N ≤ 600 ∧ seg (h (a + 1)) N w
def xSs (sh : zSh) (h : zMem) (W : Int → zFr → zFr) : Prop := (0 ≤ h 0 10 ∧ h 0 10 ≤ 10) ∧ ∀ c, 0 ≤ c → c < h 0 10 → xSg sh h (h 8 c) (W c)
def sAt (h : zMem) (c : Int) : Int := if 0 ≤ c ∧ c < h 0 10 then h 8 c else -1
theorem sAt_0 {sh : zSh} {h : zMem} {c : Int} {W : Int → zFr → zFr} (hSs : xSs sh h W) (q : sAt h c = -1) : ¬ (0 ≤ c ∧ c < h 0 10) := fun z => by
  have := (hSs.2 c z.1 z.2).1.1
  unfold sAt at q
  rw [if_pos z] at q
  omega
theorem sAt_1 {sh : zSh} {h : zMem} {c : Int} {W : Int → zFr → zFr} (hSs : xSs sh h W) (q : sAt h c ≠ -1) : (0 ≤ c ∧ c < h 0 10) ∧ xSg sh h (sAt h c) (W c) := by
  by_cases z : 0 ≤ c ∧ c < h 0 10
  · refine ⟨z, ?_⟩
    unfold sAt
    rw [if_pos z]; exact hSs.2 c z.1 z.2
  · unfold sAt at q
    rw [if_neg z] at q
    exact absurd rfl q

set_option maxRecDepth 100000 in
set_option maxHeartbeats 4000000 in
theorem c_xsA {d n : Nat} {sh : zSh} {h : zMem} {c : Int} {W : Int → zFr → zFr} (hS : zShp sh) (hR : zRf h) (hSs : xSs sh h W) (hc : zi32 c) : zF yX10_sheetAt cX10_sheetAt 2 (some (.object "TableHouse$Sheet")) (d + 0) 0 0 [(2, 0), (0, c)] n sh h (some (2, sAt h c)) n sh h := by
  refine zF.ofT (by decide +kernel) [some (2, 0), some (0, c)] rfl (Nat.le_of_ble_eq_true rfl) ?_
  have x1 := hSs.1
  refine zt_rg (fun hm => ?_)
  refine zt_iload_n dX10_sheetAt_0 rfl ?_
  refine zt_if_lt (tgt := 21) dX10_sheetAt_1 (by decide) (by omega) (fun c_1 => ?_) (fun c_1 => ?_)
  · refine zt_null dX10_sheetAt_21 ?_
    refine zt_goto (tgt := 31) dX10_sheetAt_22 (by decide) ?_
    exact zt_aret dX10_sheetAt_31 (Or.inl ⟨_, rfl⟩) ⟨by congr 2; unfold sAt; first | (rw [if_pos (by omega)]; done) | (rw [if_neg (by omega)]), rfl, rfl, rfl⟩
  · refine zt_iload_n dX10_sheetAt_4 rfl ?_
    refine zt_aload_n dX10_sheetAt_5 rfl ?_
    refine zt_get dX10_sheetAt_6 fl_X10_94 (zs_0 hS) ?_
    refine zt_icmp_ge (tgt := 21) dX10_sheetAt_9 (by decide) (by omega) (hm.fld (j := 10) (zs_0 hS) (by decide) (by decide) (by decide)) (fun c_9 => ?_) (fun c_9 => ?_)
    · refine zt_null dX10_sheetAt_21 ?_
      refine zt_goto (tgt := 31) dX10_sheetAt_22 (by decide) ?_
      exact zt_aret dX10_sheetAt_31 (Or.inl ⟨_, rfl⟩) ⟨by congr 2; unfold sAt; first | (rw [if_pos (by omega)]; done) | (rw [if_neg (by omega)]), rfl, rfl, rfl⟩
    · refine zt_iload_n dX10_sheetAt_12 rfl ?_
      refine zt_aload_n dX10_sheetAt_13 rfl ?_
      refine zt_getv dX10_sheetAt_14 fl_X10_34 (zs_0 hS) (rf_0_3 hR) ?_
      refine zt_alenv (v := 10) dX10_sheetAt_17 (zs_8 hS) (by decide) (by decide) rfl ?_
      refine zt_icmp_lt (tgt := 25) dX10_sheetAt_18 (by decide) (by omega) (by decide) (fun c_18 => ?_) (fun c_18 => ?_)
      · refine zt_aload_n dX10_sheetAt_25 rfl ?_
        refine zt_getv dX10_sheetAt_26 fl_X10_34 (zs_0 hS) (rf_0_3 hR) ?_
        refine zt_iload_n dX10_sheetAt_29 rfl ?_
        refine zt_aaload dX10_sheetAt_30 (zs_8 hS) (by decide) (by decide) (by omega) (by omega) ?_
        exact zt_aret dX10_sheetAt_31 (Or.inl ⟨_, rfl⟩) ⟨by congr 2; unfold sAt; first | (rw [if_pos (by omega)]; done) | (rw [if_neg (by omega)]), rfl, rfl, rfl⟩
      · exfalso
        omega

set_option maxRecDepth 100000 in
set_option maxHeartbeats 4000000 in
theorem c_xval {d n : Nat} {sh : zSh} {h : zMem} {c x y g : Int} {W : Int → zFr → zFr} (hS : zShp sh) (hR : zRf h) (hSs : xSs sh h W) (hc : zi32 c) (hx : zi32 x) (hy : zi32 y) (hg : zi32 g) : zM yX10_value cX10_value 6 (some .int) (d + 5) 0 0 [(2, 0), (0, c), (0, x), (0, y), (0, g)] n sh h (fun r n1 sh1 h1 => n1 = n ∧ sh1 = sh ∧ zoC h h1 ∧ zRf h1 ∧ r = some (0, if ((0 ≤ c ∧ c < h 0 10) ∧ (1 ≤ y ∧ y ≤ 1000000) ∧ (0 ≤ g ∧ g ≤ 1)) then fVal (fval (W c) (fr x y)) g else -2147483648)) := by
  refine zM.ofT2 (by decide +kernel) [some (2, 0), some (0, c), some (0, x), some (0, y), some (0, g), none] rfl (Nat.le_of_ble_eq_true rfl) ?_
  have x1 := hSs.1
  refine zt_rg (fun hm => ?_)
  refine zt_aload_n dX10_value_0 rfl ?_
  refine zt_iload_n dX10_value_1 rfl ?_
  refine zt_callV1r dX10_value_2 ml_X10_113 (zs_0 hS) (Nat.le_of_ble_eq_true rfl) (c_xsA hS hR hSs (by omega)) ?_
  refine zt_astore_5 dX10_value_5 (by decide) rfl ?_
  refine zt_aload dX10_value_7 rfl ?_
  refine zt_ifnull (tgt := 34) dX10_value_9 (by decide) (fun c_9 => ?_) (fun c_9 => ?_)
  · have hnt := sAt_0 hSs c_9
    refine zt_ldc dX10_value_34 kc_X10_118 ?_
    exact zt_iret dX10_value_36 ⟨rfl, rfl, fun _ _ => rfl, hR, by rw [if_neg (show ¬ ((0 ≤ c ∧ c < h 0 10) ∧ (1 ≤ y ∧ y ≤ 1000000) ∧ (0 ≤ g ∧ g ≤ 1)) by omega)]⟩
  · obtain ⟨hxT, hsg⟩ := sAt_1 hSs c_9
    obtain ⟨t, htd⟩ : ∃ t, t = sAt h c := ⟨_, rfl⟩
    rw [← htd] at hsg ⊢
    obtain ⟨⟨ht80, hts, ht1⟩, N, hsn, hN, hseg⟩ := hsg
    refine zt_iload_n dX10_value_12 rfl ?_
    refine zt_iconst dX10_value_13 ?_
    refine zt_icmp_lt (tgt := 34) dX10_value_14 (by decide) (by omega) (by decide) (fun c_14 => ?_) (fun c_14 => ?_)
    · refine zt_ldc dX10_value_34 kc_X10_118 ?_
      exact zt_iret dX10_value_36 ⟨rfl, rfl, fun _ _ => rfl, hR, by rw [if_neg (show ¬ ((0 ≤ c ∧ c < h 0 10) ∧ (1 ≤ y ∧ y ≤ 1000000) ∧ (0 ≤ g ∧ g ≤ 1)) by omega)]⟩
    · refine zt_iload_n dX10_value_17 rfl ?_
      refine zt_ldc dX10_value_18 kc_X10_117 ?_
      refine zt_icmp_gt (tgt := 34) dX10_value_20 (by decide) (by omega) (by decide) (fun c_20 => ?_) (fun c_20 => ?_)
      · refine zt_ldc dX10_value_34 kc_X10_118 ?_
        exact zt_iret dX10_value_36 ⟨rfl, rfl, fun _ _ => rfl, hR, by rw [if_neg (show ¬ ((0 ≤ c ∧ c < h 0 10) ∧ (1 ≤ y ∧ y ≤ 1000000) ∧ (0 ≤ g ∧ g ≤ 1)) by omega)]⟩
      · refine zt_iload dX10_value_23 rfl ?_
        refine zt_if_lt (tgt := 34) dX10_value_25 (by decide) (by omega) (fun c_25 => ?_) (fun c_25 => ?_)
        · refine zt_ldc dX10_value_34 kc_X10_118 ?_
          exact zt_iret dX10_value_36 ⟨rfl, rfl, fun _ _ => rfl, hR, by rw [if_neg (show ¬ ((0 ≤ c ∧ c < h 0 10) ∧ (1 ≤ y ∧ y ≤ 1000000) ∧ (0 ≤ g ∧ g ≤ 1)) by omega)]⟩
        · refine zt_iload dX10_value_28 rfl ?_
          refine zt_iconst dX10_value_30 ?_
          refine zt_icmp_le (tgt := 37) dX10_value_31 (by decide) (by omega) (by decide) (fun c_31 => ?_) (fun c_31 => ?_)
          · refine zt_aload_n dX10_value_37 rfl ?_
            refine zt_getv dX10_value_38 fl_X10_28 (zs_0 hS) (rf_0_2 hR) ?_
            refine zt_aload dX10_value_41 rfl ?_
            refine zt_getv (v := t + 1) dX10_value_43 fl_X10_119 hts ht1 ?_
            refine zt_iload_n dX10_value_46 rfl ?_
            refine zt_i2l dX10_value_47 (by omega) ?_
            refine zt_iload_n dX10_value_48 rfl ?_
            refine zt_i2l dX10_value_49 (by omega) ?_
            refine zt_callV3q dX10_value_50 ml_X10_120 (zs_5 hS) (Nat.le_of_ble_eq_true rfl) (c_eval hS hR hsn (by omega) hN (by omega) (by omega) hseg) ?_
            rintro r n1 sh1 h2 ⟨rfl, rfl, rfl, hzo, hR2, hst⟩
            simp only [Option.toList, List.nil_append]
            have htp := hst.top
            have h52 : h2 5 2 = 1 := hst.1
            have hf1 : h2 6 (h2 5 2 - 1) = (fval (W c) (fr x y)).1 := congrArg Prod.fst htp.1
            have hf2 : h2 7 (h2 5 2 - 1) = (fval (W c) (fr x y)).2 := congrArg Prod.snd htp.1
            have hfk := htp.2.1
            have hfk1 := hfk.1
            have hfk2 := hfk.2.1
            refine zt_aload_n dX10_value_53 rfl ?_
            refine zt_getv dX10_value_54 fl_X10_28 (zs_0 hS) (rf_0_2 hR2) ?_
            refine zt_callV0r dX10_value_57 ml_X10_124 (zs_5 hS) (Nat.le_of_ble_eq_true rfl) (zF.of_eq (show some (0, zb (h2 7 (h2 5 2 - 1) = 0)) = some (0, zb ((fval (W c) (fr x y)).2 = 0)) from congrArg (fun z => some ((0, z) : zV)) (zb_eq (by rw [hf2]))) rfl rfl rfl (c_cnone hS hR2 (by omega))) ?_
            refine zt_ifb_eq (tgt := 66) dX10_value_60 (by decide) (fun c_60 => ?_) (fun c_60 => ?_)
            · refine zt_iload dX10_value_66 rfl ?_
              refine zt_if_ne (tgt := 81) dX10_value_68 (by decide) (by omega) (fun c_68 => ?_) (fun c_68 => ?_)
              · refine zt_aload_n dX10_value_81 rfl ?_
                refine zt_getv dX10_value_82 fl_X10_28 (zs_0 hS) (rf_0_2 hR2) ?_
                refine zt_callV0r dX10_value_85 ml_X10_132 (zs_5 hS) (Nat.le_of_ble_eq_true rfl) (zF.of_eq (show some (1, h2 7 (h2 5 2 - 1)) = some (1, (fval (W c) (fr x y)).2) by rw [hf2]) rfl rfl rfl (c_cden hS hR2 (by omega))) ?_
                refine zt_l2i dX10_value_88 ?_
                exact zt_iret dX10_value_89 ⟨rfl, rfl, hzo, hR2, by rw [if_pos (show ((0 ≤ c ∧ c < h 0 10) ∧ (1 ≤ y ∧ y ≤ 1000000) ∧ (0 ≤ g ∧ g ≤ 1)) by omega)]; unfold fVal; rw [if_neg c_60]; first | (rw [if_pos (by omega)]; done) | (rw [if_neg (by omega)])⟩
              · refine zt_aload_n dX10_value_71 rfl ?_
                refine zt_getv dX10_value_72 fl_X10_28 (zs_0 hS) (rf_0_2 hR2) ?_
                refine zt_callV0r dX10_value_75 ml_X10_128 (zs_5 hS) (Nat.le_of_ble_eq_true rfl) (zF.of_eq (show some (1, h2 6 (h2 5 2 - 1)) = some (1, (fval (W c) (fr x y)).1) by rw [hf1]) rfl rfl rfl (c_cnum hS hR2 (by omega))) ?_
                refine zt_goto (tgt := 88) dX10_value_78 (by decide) ?_
                refine zt_l2i dX10_value_88 ?_
                exact zt_iret dX10_value_89 ⟨rfl, rfl, hzo, hR2, by rw [if_pos (show ((0 ≤ c ∧ c < h 0 10) ∧ (1 ≤ y ∧ y ≤ 1000000) ∧ (0 ≤ g ∧ g ≤ 1)) by omega)]; unfold fVal; rw [if_neg c_60]; first | (rw [if_pos (by omega)]; done) | (rw [if_neg (by omega)])⟩
            · refine zt_ldc dX10_value_63 kc_X10_118 ?_
              exact zt_iret dX10_value_65 ⟨rfl, rfl, hzo, hR2, by rw [if_pos (show ((0 ≤ c ∧ c < h 0 10) ∧ (1 ≤ y ∧ y ≤ 1000000) ∧ (0 ≤ g ∧ g ≤ 1)) by omega)]; unfold fVal; rw [if_pos c_60]⟩
          · refine zt_ldc dX10_value_34 kc_X10_118 ?_
            exact zt_iret dX10_value_36 ⟨rfl, rfl, fun _ _ => rfl, hR, by rw [if_neg (show ¬ ((0 ≤ c ∧ c < h 0 10) ∧ (1 ≤ y ∧ y ≤ 1000000) ∧ (0 ≤ g ∧ g ≤ 1)) by omega)]⟩

set_option maxRecDepth 100000 in
set_option maxHeartbeats 4000000 in
theorem c_xshe {d n : Nat} {sh : zSh} {h : zMem} (hS : zShp sh) (hR : zRf h) (hT0 : tOK h) (h010 : 0 ≤ h 0 10 ∧ h 0 10 ≤ 10) (hn : 80 ≤ n) : zM yX10_sheet cX10_sheet 1 (some .int) (d + 61) 2 201 [(2, 0)] n sh h (fun r n1 sh1 h1 => (h 0 10 < 10 ∧ ∃ q, pAl (h 2) (h 1 1) = .inr q ∧ r = some (0, h 0 10) ∧ n1 = n + 2 ∧ sh1 = zshn (zshn sh n (7, 1)) ((n : Int) + 1) (100, q.2.1.toNat) ∧ ∃ g : zMem, (∀ x, x ≠ 3 → x ≠ 4 → g x = h x) ∧ zRf g ∧ (∀ j, 0 ≤ j → j < q.2.1 → g 4 j = q.2.2.1 0 j) ∧ h1 = zup (zup (zup (zup (znew (znew g n (zdf 7)) ((n : Int) + 1) (fun z => if 0 ≤ z ∧ z < ((q.2.1.toNat : Nat) : Int) then znew g n (zdf 7) 4 z else 0)) n 0 ((n : Int) + 1)) 8 (h 0 10) n) 0 10 (h 0 10 + 1)) 1 1 0) ∨ ((h 0 10 = 10 ∨ ∃ e, pAl (h 2) (h 1 1) = .inl e) ∧ r = some (0, -1) ∧ n1 = n ∧ sh1 = sh ∧ (∀ x, x ≠ 3 → x ≠ 4 → h1 x = h x) ∧ zRf h1)) := by
  refine zM.ofT2 (by decide +kernel) [some (2, 0)] rfl (Nat.le_of_ble_eq_true rfl) ?_
  have hl200 := hT0.1
  refine zt_rg (fun hm => ?_)
  refine zt_aload_n dX10_sheet_0 rfl ?_
  refine zt_get dX10_sheet_1 fl_X10_94 (zs_0 hS) ?_
  refine zt_bipush dX10_sheet_4 (by decide) ?_
  refine zt_icmp_ge (tgt := 20) dX10_sheet_6 (by decide) (hm.fld (j := 10) (zs_0 hS) (by decide) (by decide) (by decide)) (by decide) (fun c_6 => ?_) (fun c_6 => ?_)
  · refine zt_iconst dX10_sheet_20 ?_
    exact zt_iret dX10_sheet_21 (Or.inr ⟨Or.inl (by omega), rfl, rfl, rfl, fun _ _ _ => rfl, hR⟩)
  · refine zt_aload_n dX10_sheet_9 rfl ?_
    refine zt_getv dX10_sheet_10 fl_X10_21 (zs_0 hS) (rf_0_1 hR) ?_
    refine zt_callV0q dX10_sheet_13 ml_X10_90 (zs_3 hS) (Nat.le_of_ble_eq_true rfl) (c_parse hS hR hT0) ?_
    rintro r n sh g ⟨rfl, rfl, hz, hR1, hpe⟩
    have e010 : g 0 10 = h 0 10 := congrFun (hz 0 (by decide) (by decide)) 10
    rcases hal : pAl (h 2) (h 1 1) with e1 | q
    all_goals rw [hal] at hpe
    · obtain rfl : r = some (0, e1) := hpe
      simp only [Option.toList, List.cons_append, List.nil_append]
      have hel := pAl_l hT0.1.1 hal
      refine zt_iconst dX10_sheet_16 ?_
      refine zt_icmp_eq (tgt := 22) dX10_sheet_17 (by decide) (by omega) (by decide) (fun c_17 => ?_) (fun c_17 => ?_)
      · exfalso
        omega
      · refine zt_iconst dX10_sheet_20 ?_
        exact zt_iret dX10_sheet_21 (Or.inr ⟨Or.inr ⟨e1, rfl⟩, rfl, rfl, rfl, hz, hR1⟩)
    · obtain ⟨rfl, hsz, hcd⟩ : r = some (0, -1) ∧ g 3 1 = q.2.1 ∧ ∀ j, 0 ≤ j → j < q.2.1 → g 4 j = q.2.2.1 0 j := hpe
      simp only [Option.toList, List.cons_append, List.nil_append]
      have hqb := (pAl_gd hT0.1.1 hal).1
      unfold pG1 at hqb
      obtain ⟨hq1, hq2, hq3⟩ := hqb
      refine zt_iconst dX10_sheet_16 ?_
      refine zt_icmp_eq (tgt := 22) dX10_sheet_17 (by decide) (by decide) (by decide) (fun c_17 => ?_) (fun q => absurd q (by decide))
      refine zt_aload_n dX10_sheet_22 rfl ?_
      refine zt_getv dX10_sheet_23 fl_X10_34 (zs_0 hS) (rf_0_3 hR1) ?_
      refine zt_aload_n dX10_sheet_26 rfl ?_
      refine zt_getv (v := h 0 10) dX10_sheet_27 fl_X10_94 (zs_0 hS) e010 ?_
      refine zt_new (kc := 1) (ks := 200) (N0 := 1) dX10_sheet_30 cl_X10_32 ?_
      refine zt_dup dX10_sheet_33 (Nat.ne_of_beq_eq_false rfl) ?_
      refine zt_aload_n dX10_sheet_34 rfl ?_
      refine zt_getv dX10_sheet_35 fl_X10_21 (zs_0 (hS.new (by omega))) (rf_0_1 (hR1.new (by simp only [List.mem_cons, List.not_mem_nil, or_false]; omega))) ?_
      refine zt_getv dX10_sheet_38 fl_X10_97 (zs_3 (hS.new (by omega))) (rf_3_0 (hR1.new (by simp only [List.mem_cons, List.not_mem_nil, or_false]; omega))) ?_
      refine zt_aload_n dX10_sheet_41 rfl ?_
      refine zt_getv dX10_sheet_42 fl_X10_21 (zs_0 (hS.new (by omega))) (rf_0_1 (hR1.new (by simp only [List.mem_cons, List.not_mem_nil, or_false]; omega))) ?_
      refine zt_getv (v := q.2.1) dX10_sheet_45 fl_X10_101 (zs_3 (hS.new (by omega))) ((congrFun (znew_ne (by omega)) _).trans hsz) ?_
      refine zt_callS2q dX10_sheet_48 ml_X10_104 (Nat.le_of_ble_eq_true rfl) (zM_cast (show ((q.2.1.toNat : Nat) : Int) = q.2.1 by omega) (c_copyOf (N := q.2.1.toNat) (hS.new (by omega)) (by omega) (by omega))) ?_
      rintro r n2 sh2 h2 ⟨rfl, rfl, rfl, rfl⟩
      simp only [Option.toList, List.cons_append, List.nil_append]
      rw [show ((n + 1 : Nat) : Int) = (n : Int) + 1 by omega]
      have hsn : zshn (zshn sh n (7, 1)) ((n : Int) + 1) (100, q.2.1.toNat) n = (7, 1) := (zshn_ne (by omega)).trans zshn_at
      refine zt_callI1v dX10_sheet_51 ml_X10_110 (by rw [hsn]; decide) (Nat.le_of_ble_eq_true rfl) (c_shi hsn) ?_
      refine zt_aastore dX10_sheet_54 (zs_8 ((hS.new (by omega)).new (by omega))) (by decide) (by decide) (by omega) (by omega) hsn ?_
      refine zt_aload_n dX10_sheet_55 rfl ?_
      refine zt_dup dX10_sheet_56 (Nat.ne_of_beq_eq_false rfl) ?_
      refine zt_getv (v := h 0 10) dX10_sheet_57 fl_X10_94 (zs_0 ((hS.new (by omega)).new (by omega))) ((zupA (by decide)).trans ((zupA (by omega)).trans (by rw [znew_ne (by omega), znew_ne (by omega)]; exact e010))) ?_
      refine zt_iconst dX10_sheet_60 ?_
      refine zt_iadd dX10_sheet_61 ?_
      refine zt_puti dX10_sheet_62 fl_X10_94 rfl (zs_0 ((hS.new (by omega)).new (by omega))) (by omega) ?_
      refine zt_aload_n dX10_sheet_65 rfl ?_
      refine zt_getv dX10_sheet_66 fl_X10_10 (zs_0 ((hS.new (by omega)).new (by omega))) (rf_0_0 (((((hR1.new (by simp only [List.mem_cons, List.not_mem_nil, or_false]; omega)).new (by simp only [List.mem_cons, List.not_mem_nil, or_false]; omega)).upA (by simp only [List.mem_cons, List.not_mem_nil, or_false]; omega)).upA (by decide)).up (by decide))) ?_
      refine zt_iconst dX10_sheet_69 ?_
      refine zt_puti dX10_sheet_70 fl_X10_83 rfl (zs_1 ((hS.new (by omega)).new (by omega))) (by decide) ?_
      refine zt_aload_n dX10_sheet_73 rfl ?_
      refine zt_getv (v := (h 0 10) + 1) dX10_sheet_74 fl_X10_94 (zs_0 ((hS.new (by omega)).new (by omega))) ((zupA (by decide)).trans zupE) ?_
      refine zt_iconst dX10_sheet_77 ?_
      refine zt_isub dX10_sheet_78 ?_
      exact zt_iret dX10_sheet_79 (Or.inl ⟨by omega, q, rfl, by congr 2; omega, rfl, rfl, g, hz, hR1, hcd, rfl⟩)

/-- the entries below i of a new table are worked -/
def xTi (h g : zMem) (b i : Int) (F : Int → Int) : Prop := (∀ x, x ≠ 5 → x ≠ 6 → x ≠ 7 → x ≠ b + 1 → g x = h x) ∧ zRf g ∧ ∀ y, g (b + 1) y = if 0 ≤ y ∧ y < i then F y else h (b + 1) y

set_option maxRecDepth 100000 in
set_option maxHeartbeats 4000000 in
theorem l_xtb {d n : Nat} {sh : zSh} {h : zMem} {kc ks : Nat} {c f s z t b : Int} {N : Nat} {W : Int → zFr → zFr} (hS : zShp sh) (hT : zTab sh h b) (hE0 : h b 0 = z / 10) (ht80 : 80 ≤ t) (ht1 : h t 0 = t + 1) (hts : sh t = (7, 1)) (hsn : sh (t + 1) = (100, N)) (hN : N ≤ 600) (hseg : seg (h (t + 1)) N (W c)) (hdis : t ≠ b + 1 ∧ t ≠ b) (hf : -1000 ≤ f ∧ f ≤ 1000) (hs : 0 ≤ s ∧ 1 ≤ s / 1000 ∧ s / 1000 ≤ 100 ∧ 1 ≤ s % 1000 ∧ s % 1000 ≤ 100) (hz : 0 ≤ z ∧ 4 ≤ z / 10 ∧ z / 10 ≤ 30 ∧ z % 10 ≤ 4) (h11 : 0 ≤ h 0 11 ∧ h 0 11 < 5)  : ∀ (k : Nat) (i : Int) (g : zMem), z / 10 - i < (k : Int) → 0 ≤ i → i ≤ z / 10 → xTi h g b i (fun j => frd (fval (W c) (fr (f + j * (s / 1000)) (s % 1000))) (z % 10)) → zT yX10_table cX10_table 12 (some .int) (d + 5) kc ks (fun r n1 sh1 h1 => r = some (0, h 0 11) ∧ n1 = n ∧ sh1 = sh ∧ ∃ g, xTi h g b (z / 10) (fun j => frd (fval (W c) (fr (f + j * (s / 1000)) (s % 1000))) (z % 10)) ∧ h1 = zup (zup g 9 (h 0 11) b) 0 11 (h 0 11 + 1)) 132 [some (2, 0), some (0, c), some (0, f), some (0, s), some (0, z), some (2, t), some (0, s / 1000), some (0, s % 1000), some (0, z / 10), some (0, z % 10), some (2, b), some (0, i)] [] n sh g := by
  intro k
  induction k with
  | zero => intros; exfalso; omega
  | succ k ih =>
    intro i g hk h0 h1 hG
    have hb80 := hT.1
    refine zt_iload dX10_table_132 rfl ?_
    refine zt_aload dX10_table_134 rfl ?_
    refine zt_getv (v := z / 10) dX10_table_136 fl_X10_149 hT.2.1 ((congrFun (hG.1 b (by omega) (by omega) (by omega) (by omega)) 0).trans hE0) ?_
    refine zt_icmp_ge (tgt := 188) dX10_table_139 (by decide) (by omega) (by omega) (fun c_139 => ?_) (fun c_139 => ?_)
    · refine zt_aload_n dX10_table_188 rfl ?_
      refine zt_getv dX10_table_189 fl_X10_40 (zs_0 hS) (rf_0_4 hG.2.1) ?_
      refine zt_aload_n dX10_table_192 rfl ?_
      refine zt_getv (v := h 0 11) dX10_table_193 fl_X10_144 (zs_0 hS) (congrFun (hG.1 0 (by decide) (by decide) (by decide) (by omega)) 11) ?_
      refine zt_aload dX10_table_196 rfl ?_
      refine zt_aastore dX10_table_198 (zs_9 hS) (by decide) (by decide) (by omega) (by omega) hT.2.1 ?_
      refine zt_aload_n dX10_table_199 rfl ?_
      refine zt_dup dX10_table_200 (Nat.ne_of_beq_eq_false rfl) ?_
      refine zt_getv (v := h 0 11) dX10_table_201 fl_X10_144 (zs_0 hS) ((zupA (by decide)).trans (congrFun (hG.1 0 (by decide) (by decide) (by decide) (by omega)) 11)) ?_
      refine zt_iconst dX10_table_204 ?_
      refine zt_iadd dX10_table_205 ?_
      refine zt_puti dX10_table_206 fl_X10_144 rfl (zs_0 hS) (by omega) ?_
      refine zt_aload_n dX10_table_209 rfl ?_
      refine zt_getv (v := (h 0 11) + 1) dX10_table_210 fl_X10_144 (zs_0 hS) zupE ?_
      refine zt_iconst dX10_table_213 ?_
      refine zt_isub dX10_table_214 ?_
      exact zt_iret dX10_table_215 ⟨by congr 2; omega, rfl, rfl, g, by rw [show z / 10 = i by omega]; exact hG, rfl⟩
    · have eg1 : g (t + 1) = h (t + 1) := hG.1 (t + 1) (by omega) (by omega) (by omega) (by omega)
      refine zt_aload_n dX10_table_142 rfl ?_
      refine zt_getv dX10_table_143 fl_X10_28 (zs_0 hS) (rf_0_2 hG.2.1) ?_
      refine zt_aload dX10_table_146 rfl ?_
      refine zt_getv (v := t + 1) dX10_table_148 fl_X10_119 hts ((congrFun (hG.1 t (by omega) (by omega) (by omega) (by omega)) 0).trans ht1) ?_
      refine zt_iload_n dX10_table_151 rfl ?_
      refine zt_iload dX10_table_152 rfl ?_
      refine zt_iload dX10_table_154 rfl ?_
      refine zt_imul dX10_table_156 ?_
      refine zt_iadd dX10_table_157 ?_
      have hi1 := zmb2 (x := i) (y := s / 1000) (A := 30) (B := 100) ⟨by omega, by omega⟩ ⟨by omega, by omega⟩ rfl
      refine zt_i2l dX10_table_158 (by omega) ?_
      refine zt_iload dX10_table_159 rfl ?_
      refine zt_i2l dX10_table_161 (by omega) ?_
      refine zt_callV3q dX10_table_162 ml_X10_120 (zs_5 hS) (Nat.le_of_ble_eq_true rfl) (c_eval hS hG.2.1 hsn (by omega) hN (by omega) (by omega) (by rw [eg1]; exact hseg)) ?_
      rintro r n1 sh1 h2 ⟨rfl, rfl, rfl, hzo, hR2, hst⟩
      simp only [Option.toList, List.nil_append]
      have htp := hst.top
      have h52 : h2 5 2 = 1 := hst.1
      refine zt_aload dX10_table_165 rfl ?_
      refine zt_getv (v := b + 1) dX10_table_167 fl_X10_152 hT.2.1 ((congrFun ((hzo b (by omega)).trans (hG.1 b (by omega) (by omega) (by omega) (by omega))) 1).trans (hT.rf 1 (by decide) (by decide))) ?_
      refine zt_iload dX10_table_170 rfl ?_
      refine zt_aload_n dX10_table_172 rfl ?_
      refine zt_getv dX10_table_173 fl_X10_28 (zs_0 hS) (rf_0_2 hR2) ?_
      refine zt_iload dX10_table_176 rfl ?_
      refine zt_callV1r dX10_table_178 ml_X10_155 (zs_5 hS) (Nat.le_of_ble_eq_true rfl) (zF.of_eq (show some (0, frd (cT h2) (z % 10)) = some (0, (fun j => frd (fval (W c) (fr (f + j * (s / 1000)) (s % 1000))) (z % 10)) i) by rw [htp.1]) rfl rfl rfl (c_crd hS hR2 (by omega) (by rw [htp.1]; exact htp.2.1) (by omega))) ?_
      have hfr : (fun j => frd (fval (W c) (fr (f + j * (s / 1000)) (s % 1000))) (z % 10)) i = -2147483648 ∨ (-999999999 ≤ (fun j => frd (fval (W c) (fr (f + j * (s / 1000)) (s % 1000))) (z % 10)) i ∧ (fun j => frd (fval (W c) (fr (f + j * (s / 1000)) (s % 1000))) (z % 10)) i ≤ 999999999) := frd_r
      refine zt_iastore dX10_table_181 (hT.ar 1 (by decide) (by decide)) (by decide) (by omega) (by omega) (by omega) ?_
      refine zt_iinc_11 dX10_table_182 (by decide) rfl ?_
      refine zt_goto (tgt := 132) dX10_table_185 (by decide) ?_
      exact ih (i + 1) _ (by omega) (by omega) (by omega) ⟨fun x a1 a2 a3 a4 => by rw [zup_ne a4, hzo x ⟨a1, a2, a3⟩]; exact hG.1 x a1 a2 a3 a4, hR2.upA (by simp only [List.mem_cons, List.not_mem_nil, or_false]; omega), fun y => by
        by_cases q : y = i
        · subst q; rw [zupE, if_pos (by omega)]
        · rw [zupJ q, hzo (b + 1) (by omega), hG.2.2 y]
          by_cases q2 : 0 ≤ y ∧ y < i
          · rw [if_pos q2, if_pos (by omega)]
          · rw [if_neg q2, if_neg (by omega)]⟩

theorem zqd {s k : Int} (hk : 0 < k) : (0 ≤ s ∧ Int.tdiv s k = s / k ∧ Int.tmod s k = s % k) ∨ (s < 0 ∧ Int.tdiv s k ≤ 0) := by
  by_cases q : 0 ≤ s
  · left; have := ztm_p (x := s) hk q; exact ⟨q, this.2, this.1⟩
  · right
    refine ⟨by omega, ?_⟩
    have e : Int.tdiv s k = -(Int.tdiv (-s) k) := by rw [Int.neg_tdiv, Int.neg_neg]
    have h2 : 0 ≤ Int.tdiv (-s) k := Int.tdiv_nonneg (by omega) (by omega)
    omega
theorem tMm_ne {h : zMem} {t e x : Int} (hx : x < t ∨ t + 10 < x) : tMm h t e 10 x = h x := by
  funext y; unfold tMm; rw [if_neg (by omega), if_neg (by omega), if_neg (by omega)]
theorem tMm_0e {h : zMem} {t e : Int} : tMm h t e 10 t 0 = e := by unfold tMm; rw [if_pos ⟨rfl, rfl⟩]
theorem tMm_tab {sh : zSh} {h : zMem} {t e : Int} (ht : 80 ≤ t) (hs : sh t = (8, 14)) (he : 4 ≤ e ∧ e ≤ 30) : zTab (tSh sh t 10) (tMm h t e 10) t := by
  refine ⟨ht, tSh_t hs, by rw [tMm_0e]; exact he, fun j a b => ⟨?_, ?_⟩⟩
  · unfold tSh; rw [if_pos (by omega)]
  · unfold tMm; rw [if_neg (by omega), if_pos (by omega)]
theorem tSh_ne {sh : zSh} {t x : Int} (hx : x ≤ t ∨ t + 10 < x) : tSh sh t 10 x = sh x := by unfold tSh; rw [if_neg (by omega)]
theorem tMm_rf {h : zMem} {t e : Int} (hR : zRf h) (ht : 80 ≤ t) : zRf (tMm h t e 10) := fun q hq => by
  have h1 : ∀ q ∈ zrf0, q.1 < 80 := by decide
  rw [tMm_ne (by have := h1 q hq; omega)]; exact hR q hq
theorem tSh_shp {sh : zSh} {t : Int} (hS : zShp sh) (ht : 80 ≤ t) : zShp (tSh sh t 10) := fun k hk => by rw [tSh_ne (by omega)]; exact hS k hk

theorem zqm {s k : Int} (hk : 0 < k) : -k ≤ Int.tmod s k ∧ Int.tmod s k < k := by
  by_cases q : 0 ≤ s
  · rw [(ztm_p (x := s) hk q).1]; have := Int.emod_nonneg s (show k ≠ 0 by omega); have := Int.emod_lt_of_pos s hk; omega
  · have h1 := Int.emod_nonneg s (show k ≠ 0 by omega)
    have h2 := Int.emod_lt_of_pos s hk
    rcases ztm_n (x := s) hk (by omega) with ⟨a, _, _⟩ | ⟨a, b, _⟩ <;> omega
theorem zqe {s k : Int} (hk : 0 < k) (hs : zi32 s) : zi32 (Int.tdiv s k) := by
  rcases zqd (s := s) hk with ⟨a, b, _⟩ | ⟨a, b⟩
  · rw [b]; have := Int.ediv_le_self k a; have := Int.ediv_nonneg a (show 0 ≤ k by omega); omega
  · have e : Int.tdiv s k = -(Int.tdiv (-s) k) := by rw [Int.neg_tdiv, Int.neg_neg]
    have h2 := Int.tdiv_eq_ediv_of_nonneg (a := -s) (b := k) (by omega)
    have h3 := Int.ediv_le_self k (show 0 ≤ -s by omega)
    omega

set_option maxRecDepth 100000 in
set_option maxHeartbeats 4000000 in
theorem c_xtab {d n : Nat} {sh : zSh} {h : zMem} {c f s z : Int} {W : Int → zFr → zFr} (hS : zShp sh) (hR : zRf h) (hSs : xSs sh h W) (hc : zi32 c) (hf : zi32 f) (hs : zi32 s) (hz : zi32 z) (h11 : 0 ≤ h 0 11 ∧ h 0 11 ≤ 5) (hn : 80 ≤ n) : zM yX10_table cX10_table 12 (some .int) (d + 5) 11 314 [(2, 0), (0, c), (0, f), (0, s), (0, z)] n sh h (fun r n1 sh1 h1 => (((0 ≤ c ∧ c < h 0 10) ∧ (-1000 ≤ f ∧ f ≤ 1000) ∧ (0 ≤ s ∧ 1 ≤ s / 1000 ∧ s / 1000 ≤ 100 ∧ 1 ≤ s % 1000 ∧ s % 1000 ≤ 100) ∧ (0 ≤ z ∧ 4 ≤ z / 10 ∧ z / 10 ≤ 30 ∧ z % 10 ≤ 4) ∧ h 0 11 < 5) ∧ r = some (0, h 0 11) ∧ n1 = n + 11 ∧ sh1 = tSh (zshn sh n (8, 14)) n 10 ∧ ∃ g, xTi (tMm (znew h n (zdf 8)) n (z / 10) 10) g n (z / 10) (fun j => frd (fval (W c) (fr (f + j * (s / 1000)) (s % 1000))) (z % 10)) ∧ h1 = zup (zup g 9 (h 0 11) n) 0 11 (h 0 11 + 1)) ∨ (¬ ((0 ≤ c ∧ c < h 0 10) ∧ (-1000 ≤ f ∧ f ≤ 1000) ∧ (0 ≤ s ∧ 1 ≤ s / 1000 ∧ s / 1000 ≤ 100 ∧ 1 ≤ s % 1000 ∧ s % 1000 ≤ 100) ∧ (0 ≤ z ∧ 4 ≤ z / 10 ∧ z / 10 ≤ 30 ∧ z % 10 ≤ 4) ∧ h 0 11 < 5) ∧ r = some (0, -1) ∧ n1 = n ∧ sh1 = sh ∧ h1 = h)) := by
  refine zM.ofT2 (by decide +kernel) [some (2, 0), some (0, c), some (0, f), some (0, s), some (0, z), none, none, none, none, none, none, none] rfl (Nat.le_of_ble_eq_true rfl) ?_
  have x1 := hSs.1
  refine zt_rg (fun hm => ?_)
  refine zt_lt (fun hlt => ?_)
  refine zt_aload_n dX10_table_0 rfl ?_
  refine zt_iload_n dX10_table_1 rfl ?_
  refine zt_callV1r dX10_table_2 ml_X10_113 (zs_0 hS) (Nat.le_of_ble_eq_true rfl) (c_xsA hS hR hSs (by omega)) ?_
  refine zt_astore_5 dX10_table_5 (by decide) rfl ?_
  refine zt_aload dX10_table_7 rfl ?_
  refine zt_ifnull (tgt := 34) dX10_table_9 (by decide) (fun c_9 => ?_) (fun c_9 => ?_)
  · have hnt := sAt_0 hSs c_9
    refine zt_iconst dX10_table_34 ?_
    exact zt_iret dX10_table_35 (Or.inr ⟨fun q => by have q1 := q.1; have q2 := q.2.1; have q3 := q.2.2.1; have q4 := q.2.2.2.1; have q5 := q.2.2.2.2; omega, rfl, rfl, rfl, rfl⟩)
  · obtain ⟨hxT, hsg⟩ := sAt_1 hSs c_9
    obtain ⟨t, htd⟩ : ∃ t, t = sAt h c := ⟨_, rfl⟩
    rw [← htd] at hsg ⊢
    obtain ⟨⟨ht80, hts, ht1⟩, N, hsn, hN, hseg⟩ := hsg
    refine zt_aload_n dX10_table_12 rfl ?_
    refine zt_get dX10_table_13 fl_X10_144 (zs_0 hS) ?_
    refine zt_iconst dX10_table_16 ?_
    refine zt_icmp_ge (tgt := 34) dX10_table_17 (by decide) (hm.fld (j := 11) (zs_0 hS) (by decide) (by decide) (by decide)) (by decide) (fun c_17 => ?_) (fun c_17 => ?_)
    · refine zt_iconst dX10_table_34 ?_
      exact zt_iret dX10_table_35 (Or.inr ⟨fun q => by have q1 := q.1; have q2 := q.2.1; have q3 := q.2.2.1; have q4 := q.2.2.2.1; have q5 := q.2.2.2.2; omega, rfl, rfl, rfl, rfl⟩)
    · refine zt_iload_n dX10_table_20 rfl ?_
      refine zt_sipush dX10_table_21 (by decide) ?_
      refine zt_icmp_lt (tgt := 34) dX10_table_24 (by decide) (by omega) (by decide) (fun c_24 => ?_) (fun c_24 => ?_)
      · refine zt_iconst dX10_table_34 ?_
        exact zt_iret dX10_table_35 (Or.inr ⟨fun q => by have q1 := q.1; have q2 := q.2.1; have q3 := q.2.2.1; have q4 := q.2.2.2.1; have q5 := q.2.2.2.2; omega, rfl, rfl, rfl, rfl⟩)
      · refine zt_iload_n dX10_table_27 rfl ?_
        refine zt_sipush dX10_table_28 (by decide) ?_
        refine zt_icmp_le (tgt := 36) dX10_table_31 (by decide) (by omega) (by decide) (fun c_31 => ?_) (fun c_31 => ?_)
        · have hq1 := zqd (s := s) (k := 1000) (by decide)
          have hq2 := zqd (s := z) (k := 10) (by decide)
          have hq3 := zqm (s := s) (k := 1000) (by decide)
          have hq4 := zqm (s := z) (k := 10) (by decide)
          have hq5 := zqe (s := s) (k := 1000) (by decide) (by omega)
          have hq6 := zqe (s := z) (k := 10) (by decide) (by omega)
          refine zt_iload_n dX10_table_36 rfl ?_
          refine zt_sipush dX10_table_37 (by decide) ?_
          refine zt_idiv dX10_table_40 (by omega) (by decide) (by decide) ?_
          refine zt_istore_6 dX10_table_41 (by decide) rfl ?_
          refine zt_iload_n dX10_table_43 rfl ?_
          refine zt_sipush dX10_table_44 (by decide) ?_
          refine zt_irem dX10_table_47 (by omega) (by decide) (by decide) ?_
          refine zt_istore_7 dX10_table_48 (by decide) rfl ?_
          refine zt_iload dX10_table_50 rfl ?_
          refine zt_bipush dX10_table_52 (by decide) ?_
          refine zt_idiv dX10_table_54 (by omega) (by decide) (by decide) ?_
          refine zt_istore_8 dX10_table_55 (by decide) rfl ?_
          refine zt_iload dX10_table_57 rfl ?_
          refine zt_bipush dX10_table_59 (by decide) ?_
          refine zt_irem dX10_table_61 (by omega) (by decide) (by decide) ?_
          refine zt_istore_9 dX10_table_62 (by decide) rfl ?_
          refine zt_iload dX10_table_64 rfl ?_
          refine zt_iconst dX10_table_66 ?_
          refine zt_icmp_lt (tgt := 90) dX10_table_67 (by decide) (by omega) (by decide) (fun c_67 => ?_) (fun c_67 => ?_)
          · refine zt_iconst dX10_table_90 ?_
            exact zt_iret dX10_table_91 (Or.inr ⟨fun q => by have q1 := q.1; have q2 := q.2.1; have q3 := q.2.2.1; have q4 := q.2.2.2.1; have q5 := q.2.2.2.2; omega, rfl, rfl, rfl, rfl⟩)
          · refine zt_iload dX10_table_70 rfl ?_
            refine zt_bipush dX10_table_72 (by decide) ?_
            refine zt_icmp_gt (tgt := 90) dX10_table_74 (by decide) (by omega) (by decide) (fun c_74 => ?_) (fun c_74 => ?_)
            · refine zt_iconst dX10_table_90 ?_
              exact zt_iret dX10_table_91 (Or.inr ⟨fun q => by have q1 := q.1; have q2 := q.2.1; have q3 := q.2.2.1; have q4 := q.2.2.2.1; have q5 := q.2.2.2.2; omega, rfl, rfl, rfl, rfl⟩)
            · refine zt_iload dX10_table_77 rfl ?_
              refine zt_iconst dX10_table_79 ?_
              refine zt_icmp_lt (tgt := 90) dX10_table_80 (by decide) (by omega) (by decide) (fun c_80 => ?_) (fun c_80 => ?_)
              · refine zt_iconst dX10_table_90 ?_
                exact zt_iret dX10_table_91 (Or.inr ⟨fun q => by have q1 := q.1; have q2 := q.2.1; have q3 := q.2.2.1; have q4 := q.2.2.2.1; have q5 := q.2.2.2.2; omega, rfl, rfl, rfl, rfl⟩)
              · refine zt_iload dX10_table_83 rfl ?_
                refine zt_bipush dX10_table_85 (by decide) ?_
                refine zt_icmp_le (tgt := 92) dX10_table_87 (by decide) (by omega) (by decide) (fun c_87 => ?_) (fun c_87 => ?_)
                · refine zt_iload dX10_table_92 rfl ?_
                  refine zt_iconst dX10_table_94 ?_
                  refine zt_icmp_lt (tgt := 116) dX10_table_95 (by decide) (by omega) (by decide) (fun c_95 => ?_) (fun c_95 => ?_)
                  · refine zt_iconst dX10_table_116 ?_
                    exact zt_iret dX10_table_117 (Or.inr ⟨fun q => by have q1 := q.1; have q2 := q.2.1; have q3 := q.2.2.1; have q4 := q.2.2.2.1; have q5 := q.2.2.2.2; omega, rfl, rfl, rfl, rfl⟩)
                  · refine zt_iload dX10_table_98 rfl ?_
                    refine zt_bipush dX10_table_100 (by decide) ?_
                    refine zt_icmp_gt (tgt := 116) dX10_table_102 (by decide) (by omega) (by decide) (fun c_102 => ?_) (fun c_102 => ?_)
                    · refine zt_iconst dX10_table_116 ?_
                      exact zt_iret dX10_table_117 (Or.inr ⟨fun q => by have q1 := q.1; have q2 := q.2.1; have q3 := q.2.2.1; have q4 := q.2.2.2.1; have q5 := q.2.2.2.2; omega, rfl, rfl, rfl, rfl⟩)
                    · refine zt_iload dX10_table_105 rfl ?_
                      refine zt_if_lt (tgt := 116) dX10_table_107 (by decide) (by omega) (fun c_107 => ?_) (fun c_107 => ?_)
                      · refine zt_iconst dX10_table_116 ?_
                        exact zt_iret dX10_table_117 (Or.inr ⟨fun q => by have q1 := q.1; have q2 := q.2.1; have q3 := q.2.2.1; have q4 := q.2.2.2.1; have q5 := q.2.2.2.2; omega, rfl, rfl, rfl, rfl⟩)
                      · refine zt_iload dX10_table_110 rfl ?_
                        refine zt_iconst dX10_table_112 ?_
                        refine zt_icmp_le (tgt := 118) dX10_table_113 (by decide) (by omega) (by decide) (fun c_113 => ?_) (fun c_113 => ?_)
                        · have hC : ((0 ≤ c ∧ c < h 0 10) ∧ (-1000 ≤ f ∧ f ≤ 1000) ∧ (0 ≤ s ∧ 1 ≤ s / 1000 ∧ s / 1000 ≤ 100 ∧ 1 ≤ s % 1000 ∧ s % 1000 ≤ 100) ∧ (0 ≤ z ∧ 4 ≤ z / 10 ∧ z / 10 ≤ 30 ∧ z % 10 ≤ 4) ∧ h 0 11 < 5) := by omega
                          rw [show Int.tdiv s 1000 = s / 1000 by omega, show Int.tmod s 1000 = s % 1000 by omega, show Int.tdiv z 10 = z / 10 by omega, show Int.tmod z 10 = z % 10 by omega]
                          refine zt_new (kc := 10) (ks := 300) (N0 := 14) dX10_table_118 cl_X10_38 ?_
                          refine zt_dup dX10_table_121 (Nat.ne_of_beq_eq_false rfl) ?_
                          refine zt_iload dX10_table_122 rfl ?_
                          have hsz : zshn sh n (8, 14) n = (8, 14) := zshn_at
                          refine zt_callI1v dX10_table_124 ml_X10_147 (by rw [hsz]; decide) (Nat.le_of_ble_eq_true rfl) (c_tinit (t := (n : Int)) hsz (by omega) (by omega) (by omega)) ?_
                          refine zt_astore_10 dX10_table_127 (by decide) rfl ?_
                          refine zt_iconst dX10_table_129 ?_
                          refine zt_istore_11 dX10_table_130 (by decide) rfl ?_
                          have htn : t + 1 < n ∧ t < n := by
                            have q1 := hlt t (by rw [hts]; decide)
                            have q2 := hlt (t + 1) (by rw [hsn]; show 100 < 106; decide)
                            omega
                          refine zt_mono (fun r n1 sh1 h1 q => ?_) (l_xtb (h := (tMm (znew h n (zdf 8)) n (z / 10) 10)) (b := (n : Int)) (t := t) (N := N) (W := W) (tSh_shp (hS.new (by omega)) (by omega)) (tMm_tab (by omega) zshn_at (by omega)) tMm_0e ht80 (by rw [tMm_ne (by omega), znew_ne (by omega)]; exact ht1) (by rw [tSh_ne (by omega), zshn_ne (by omega)]; exact hts) (by rw [tSh_ne (by omega), zshn_ne (by omega)]; exact hsn) hN (by rw [tMm_ne (by omega), znew_ne (by omega)]; exact hseg) (by omega) hC.2.1 hC.2.2.1 hC.2.2.2.1 (by rw [tMm_ne (by omega), znew_ne (by omega)]; omega) 31 0 _ (by omega) (by omega) (by omega) ⟨fun _ _ _ _ _ => rfl, tMm_rf (hR.new (by simp only [List.mem_cons, List.not_mem_nil, or_false]; omega)) (by omega), fun y => by rw [if_neg (by omega)]⟩)
                          rw [show (tMm (znew h n (zdf 8)) n (z / 10) 10) 0 11 = h 0 11 by rw [tMm_ne (by omega), znew_ne (by omega)]] at q
                          obtain ⟨q1, q2, q3, g, q4, q5⟩ := q
                          exact Or.inl ⟨hC, q1, by omega, q3, g, q4, q5⟩
                        · refine zt_iconst dX10_table_116 ?_
                          exact zt_iret dX10_table_117 (Or.inr ⟨fun q => by have q1 := q.1; have q2 := q.2.1; have q3 := q.2.2.1; have q4 := q.2.2.2.1; have q5 := q.2.2.2.2; omega, rfl, rfl, rfl, rfl⟩)
                · refine zt_iconst dX10_table_90 ?_
                  exact zt_iret dX10_table_91 (Or.inr ⟨fun q => by have q1 := q.1; have q2 := q.2.1; have q3 := q.2.2.1; have q4 := q.2.2.2.1; have q5 := q.2.2.2.2; omega, rfl, rfl, rfl, rfl⟩)
        · refine zt_iconst dX10_table_34 ?_
          exact zt_iret dX10_table_35 (Or.inr ⟨fun q => by have q1 := q.1; have q2 := q.2.1; have q3 := q.2.2.1; have q4 := q.2.2.2.1; have q5 := q.2.2.2.2; omega, rfl, rfl, rfl, rfl⟩)

