set_option maxRecDepth 100000 in
set_option maxHeartbeats 4000000 in
theorem c_xhab {d n : Nat} {sh : zSh} {h : zMem} {a w x : Int} (hS : zShp sh) (hR : zRf h) (hTb : xTb sh h) (ha : zi32 a) (hw : zi32 w) (hx : zi32 x) (hb : hbOK h) : zF yX10_habit cX10_habit 4 (some .int) (d + 2) 0 0 [(2, 0), (0, a), (0, w), (0, x)] n sh h (some (0, (if (((0 ≤ a ∧ a < h 10 0) ∧ 0 ≤ w ∧ w < 3) ∧ hTok h x) then h 10 1 + 1 else -1))) n sh (if (((0 ≤ a ∧ a < h 10 0) ∧ 0 ≤ w ∧ w < 3) ∧ hTok h x) then hTell h a w x else h) := by
  refine zF.ofT (by decide +kernel) [some (2, 0), some (0, a), some (0, w), some (0, x)] rfl (Nat.le_of_ble_eq_true rfl) ?_
  have x1 := hTb.1
  refine zt_rg (fun hm => ?_)
  refine zt_aload_n dX10_habit_0 rfl ?_
  refine zt_getv dX10_habit_1 fl_X10_47 (zs_0 hS) (rf_0_5 hR) ?_
  refine zt_iload_n dX10_habit_4 rfl ?_
  refine zt_iload_n dX10_habit_5 rfl ?_
  refine zt_callV2r dX10_habit_6 ml_X10_169 (zs_10 hS) (Nat.le_of_ble_eq_true rfl) (c_hhas hS hR (by omega) (by omega)) ?_
  refine zt_ifb_eq (tgt := 25) dX10_habit_9 (by decide) (fun c_9 => ?_) (fun c_9 => ?_)
  · rw [if_neg (show ¬ (((0 ≤ a ∧ a < h 10 0) ∧ 0 ≤ w ∧ w < 3) ∧ hTok h x) by omega), if_neg (show ¬ (((0 ≤ a ∧ a < h 10 0) ∧ 0 ≤ w ∧ w < 3) ∧ hTok h x) by omega)]
    refine zt_iconst dX10_habit_25 ?_
    exact zt_iret dX10_habit_26 ⟨rfl, rfl, rfl, rfl⟩
  · refine zt_aload_n dX10_habit_12 rfl ?_
    refine zt_getv dX10_habit_13 fl_X10_47 (zs_0 hS) (rf_0_5 hR) ?_
    refine zt_iload_n dX10_habit_16 rfl ?_
    refine zt_iload_n dX10_habit_17 rfl ?_
    refine zt_iload_n dX10_habit_18 rfl ?_
    refine zt_callV3r dX10_habit_19 ml_X10_173 (zs_10 hS) (Nat.le_of_ble_eq_true rfl) (c_htell hS hR (by omega) (by omega) (by omega) hb) ?_
    refine zt_ifb_ne (tgt := 27) dX10_habit_22 (by decide) (fun c_22 => ?_) (fun c_22 => ?_)
    · rw [if_pos (show (((0 ≤ a ∧ a < h 10 0) ∧ 0 ≤ w ∧ w < 3) ∧ hTok h x) by omega), if_pos (show (((0 ≤ a ∧ a < h 10 0) ∧ 0 ≤ w ∧ w < 3) ∧ hTok h x) by omega), if_pos c_22]
      refine zt_aload_n dX10_habit_27 rfl ?_
      refine zt_getv dX10_habit_28 fl_X10_47 (zs_0 hS) (rf_0_5 ((((((hR.upA (by decide)).upA (by decide)).upA (by decide)).upA (by decide)).upA (by decide)).up (by decide))) ?_
      refine zt_getv (v := h 10 1 + 1) dX10_habit_31 fl_X10_177 (zs_10 hS) zupE ?_
      exact zt_iret dX10_habit_34 ⟨rfl, rfl, rfl, rfl⟩
    · rw [if_neg (show ¬ (((0 ≤ a ∧ a < h 10 0) ∧ 0 ≤ w ∧ w < 3) ∧ hTok h x) by omega), if_neg (show ¬ (((0 ≤ a ∧ a < h 10 0) ∧ 0 ≤ w ∧ w < 3) ∧ hTok h x) by omega), if_neg c_22]
      refine zt_iconst dX10_habit_25 ?_
      exact zt_iret dX10_habit_26 ⟨rfl, rfl, rfl, rfl⟩

set_option maxRecDepth 100000 in
set_option maxHeartbeats 4000000 in
theorem c_xset2 {d n : Nat} {sh : zSh} {h : zMem} {p x : Int} (hS : zShp sh) (hR : zRf h) (hTb : xTb sh h) (hp : zi32 p) (hx : zi32 x) : zM yX10_settings cX10_settings 4 (some .int) (d + 5) 0 0 [(2, 0), (0, p), (0, x)] n sh h (fun r n1 sh1 h1 => n1 = n ∧ sh1 = sh ∧ (((xT h p ∧ 0 ≤ x ∧ x ≤ 99) ∧ r = some (0, lAll h (xAt h p) x (h (xAt h p) 0)) ∧ ∃ c1 : Int → Int, h1 = lM h c1 (lAll h (xAt h p) x)) ∨ (¬ (xT h p ∧ 0 ≤ x ∧ x ≤ 99) ∧ r = some (0, -1) ∧ h1 = h))) := by
  refine zM.ofT2 (by decide +kernel) [some (2, 0), some (0, p), some (0, x), none] rfl (Nat.le_of_ble_eq_true rfl) ?_
  have x1 := hTb.1
  refine zt_rg (fun hm => ?_)
  refine zt_aload_n dX10_settings_0 rfl ?_
  refine zt_iload_n dX10_settings_1 rfl ?_
  refine zt_callV1r dX10_settings_2 ml_X10_159 (zs_0 hS) (Nat.le_of_ble_eq_true rfl) (c_xtA hS hR hTb (by omega)) ?_
  refine zt_astore_n_3 dX10_settings_5 (by decide) rfl ?_
  refine zt_aload_n dX10_settings_6 rfl ?_
  refine zt_ifnull (tgt := 20) dX10_settings_7 (by decide) (fun c_7 => ?_) (fun c_7 => ?_)
  · have hnt := xAt_0 hTb c_7
    refine zt_iconst dX10_settings_20 ?_
    exact zt_iret dX10_settings_21 ⟨rfl, rfl, Or.inr ⟨by omega, rfl, rfl⟩⟩
  · obtain ⟨hxT, hT, hTk⟩ := xAt_1 hTb c_7
    obtain ⟨t, htd⟩ : ∃ t, t = xAt h p := ⟨_, rfl⟩
    rw [← htd] at hT hTk ⊢
    have hE := hT.2.2.1
    refine zt_iload_n dX10_settings_10 rfl ?_
    refine zt_if_lt (tgt := 20) dX10_settings_11 (by decide) (by omega) (fun c_11 => ?_) (fun c_11 => ?_)
    · refine zt_iconst dX10_settings_20 ?_
      exact zt_iret dX10_settings_21 ⟨rfl, rfl, Or.inr ⟨by omega, rfl, rfl⟩⟩
    · refine zt_iload_n dX10_settings_14 rfl ?_
      refine zt_bipush dX10_settings_15 (by decide) ?_
      refine zt_icmp_le (tgt := 22) dX10_settings_17 (by decide) (by omega) (by decide) (fun c_17 => ?_) (fun c_17 => ?_)
      · refine zt_aload_n dX10_settings_22 rfl ?_
        refine zt_getv dX10_settings_23 fl_X10_61 (zs_0 hS) (rf_0_7 hR) ?_
        refine zt_aload_n dX10_settings_26 rfl ?_
        refine zt_iload_n dX10_settings_27 rfl ?_
        refine zt_callV2q dX10_settings_28 ml_X10_235 (zs_23 hS) (Nat.le_of_ble_eq_true rfl) (c_least hS hR hT hTk (by omega)) ?_
        rintro r n1 sh1 h1 ⟨rfl, rfl, rfl, c1, rfl⟩
        simp only [Option.toList, List.cons_append, List.nil_append]
        exact zt_iret dX10_settings_31 ⟨rfl, rfl, Or.inl ⟨by omega, rfl, c1, rfl⟩⟩
      · refine zt_iconst dX10_settings_20 ?_
        exact zt_iret dX10_settings_21 ⟨rfl, rfl, Or.inr ⟨by omega, rfl, rfl⟩⟩

set_option maxRecDepth 100000 in
set_option maxHeartbeats 4000000 in
theorem c_xpair {d n : Nat} {sh : zSh} {h : zMem} {p x : Int} (hS : zShp sh) (hR : zRf h) (hTb : xTb sh h) (hp : zi32 p) (hx : zi32 x) (hb : hbOK h) : zM yX10_pair cX10_pair 4 (some .int) (d + 4) 0 0 [(2, 0), (0, p), (0, x)] n sh h (fun r n1 sh1 h1 => n1 = n ∧ sh1 = sh ∧ (((xT h p ∧ 2 ≤ h 10 0 ∧ 0 ≤ x ∧ x ≤ 5) ∧ ∃ g : Int → Int, hFl h (xAt h p) g ((h 10 0) * 90) ∧ r = some (0, pAll (znew h 17 g) (xAt h p) (fun y => if y = 5 then 0 else if y = 4 then 31 else h 11 y) x) ∧ h1 = znew (znew h 17 g) 11 (pAll (znew h 17 g) (xAt h p) (fun y => if y = 5 then 0 else if y = 4 then 31 else h 11 y))) ∨ (¬ (xT h p ∧ 2 ≤ h 10 0 ∧ 0 ≤ x ∧ x ≤ 5) ∧ r = some (0, -1) ∧ h1 = h))) := by
  refine zM.ofT2 (by decide +kernel) [some (2, 0), some (0, p), some (0, x), none] rfl (Nat.le_of_ble_eq_true rfl) ?_
  have x1 := hTb.1
  refine zt_rg (fun hm => ?_)
  refine zt_aload_n dX10_pair_0 rfl ?_
  refine zt_iload_n dX10_pair_1 rfl ?_
  refine zt_callV1r dX10_pair_2 ml_X10_159 (zs_0 hS) (Nat.le_of_ble_eq_true rfl) (c_xtA hS hR hTb (by omega)) ?_
  refine zt_astore_n_3 dX10_pair_5 (by decide) rfl ?_
  refine zt_aload_n dX10_pair_6 rfl ?_
  refine zt_ifnull (tgt := 30) dX10_pair_7 (by decide) (fun c_7 => ?_) (fun c_7 => ?_)
  · have hnt := xAt_0 hTb c_7
    refine zt_iconst dX10_pair_30 ?_
    exact zt_iret dX10_pair_31 ⟨rfl, rfl, Or.inr ⟨by omega, rfl, rfl⟩⟩
  · obtain ⟨hxT, hT, hTk⟩ := xAt_1 hTb c_7
    obtain ⟨t, htd⟩ : ∃ t, t = xAt h p := ⟨_, rfl⟩
    rw [← htd] at hT hTk ⊢
    have hE := hT.2.2.1
    have h80 := hb.1
    refine zt_aload_n dX10_pair_10 rfl ?_
    refine zt_getv dX10_pair_11 fl_X10_47 (zs_0 hS) (rf_0_5 hR) ?_
    refine zt_get dX10_pair_14 fl_X10_166 (zs_10 hS) ?_
    refine zt_iconst dX10_pair_17 ?_
    refine zt_icmp_lt (tgt := 30) dX10_pair_18 (by decide) (hm.fld (j := 0) (zs_10 hS) (by decide) (by decide) (by decide)) (by decide) (fun c_18 => ?_) (fun c_18 => ?_)
    · refine zt_iconst dX10_pair_30 ?_
      exact zt_iret dX10_pair_31 ⟨rfl, rfl, Or.inr ⟨by omega, rfl, rfl⟩⟩
    · refine zt_iload_n dX10_pair_21 rfl ?_
      refine zt_if_lt (tgt := 30) dX10_pair_22 (by decide) (by omega) (fun c_22 => ?_) (fun c_22 => ?_)
      · refine zt_iconst dX10_pair_30 ?_
        exact zt_iret dX10_pair_31 ⟨rfl, rfl, Or.inr ⟨by omega, rfl, rfl⟩⟩
      · refine zt_iload_n dX10_pair_25 rfl ?_
        refine zt_iconst dX10_pair_26 ?_
        refine zt_icmp_le (tgt := 32) dX10_pair_27 (by decide) (by omega) (by decide) (fun c_27 => ?_) (fun c_27 => ?_)
        · refine zt_aload_n dX10_pair_32 rfl ?_
          refine zt_getv dX10_pair_33 fl_X10_47 (zs_0 hS) (rf_0_5 hR) ?_
          refine zt_aload_n dX10_pair_36 rfl ?_
          refine zt_callV1q dX10_pair_37 ml_X10_194 (zs_10 hS) (Nat.le_of_ble_eq_true rfl) (c_findPair hS hR hT hb hTk) ?_
          rintro r n1 sh1 h1 ⟨rfl, rfl, rfl, g, hfl, rfl⟩
          simp only [Option.toList, List.nil_append]
          refine zt_aload_n dX10_pair_40 rfl ?_
          refine zt_getv dX10_pair_41 fl_X10_47 (zs_0 hS) (rf_0_5 ((hR.new (by decide)).new (by decide))) ?_
          refine zt_getv dX10_pair_44 fl_X10_198 (zs_10 hS) (rf_10_2 ((hR.new (by decide)).new (by decide))) ?_
          refine zt_iload_n dX10_pair_47 rfl ?_
          refine zt_ialoadv (v := pAll (znew h 17 g) t (fun y => if y = 5 then 0 else if y = 4 then 31 else h 11 y) x) dX10_pair_48 (zs_11 hS) (by decide) (by omega) (by omega) (congrFun znew_at _) ?_
          exact zt_iret dX10_pair_49 ⟨rfl, rfl, Or.inl ⟨by omega, g, hfl, rfl, rfl⟩⟩
        · refine zt_iconst dX10_pair_30 ?_
          exact zt_iret dX10_pair_31 ⟨rfl, rfl, Or.inr ⟨by omega, rfl, rfl⟩⟩

set_option maxRecDepth 100000 in
set_option maxHeartbeats 4000000 in
theorem c_xeng {d n : Nat} {sh : zSh} {h : zMem} {p e x : Int} (hS : zShp sh) (hR : zRf h) (hTb : xTb sh h) (hp : zi32 p) (he : zi32 e) (hx : zi32 x) : zM yX10_engine cX10_engine 5 (some .int) (d + 4) 0 0 [(2, 0), (0, p), (0, e), (0, x)] n sh h (fun r n1 sh1 h1 => n1 = n ∧ sh1 = sh ∧ (((xT h p ∧ tDok h (xAt h p) e x) ∧ r = some (0, 14 + 4 * x) ∧ ∃ (h2 : zMem) (g : Int → Int), (∀ z, z ≠ 24 → h2 z = h z) ∧ (∀ y, 0 ≤ y → y < 45 → g y = eSd (tDc h (xAt h p) e x) y) ∧ h1 = zup (zup (zup (znew h2 19 g) 18 0 0) 18 1 0) 18 6 0) ∨ (¬ (xT h p ∧ tDok h (xAt h p) e x) ∧ r = some (0, -1) ∧ ∀ z, z ≠ 24 → h1 z = h z))) := by
  refine zM.ofT2 (by decide +kernel) [some (2, 0), some (0, p), some (0, e), some (0, x), none] rfl (Nat.le_of_ble_eq_true rfl) ?_
  have x1 := hTb.1
  refine zt_rg (fun hm => ?_)
  refine zt_aload_n dX10_engine_0 rfl ?_
  refine zt_iload_n dX10_engine_1 rfl ?_
  refine zt_callV1r dX10_engine_2 ml_X10_159 (zs_0 hS) (Nat.le_of_ble_eq_true rfl) (c_xtA hS hR hTb (by omega)) ?_
  refine zt_astore_4 dX10_engine_5 (by decide) rfl ?_
  refine zt_aload dX10_engine_7 rfl ?_
  refine zt_ifnull (tgt := 29) dX10_engine_9 (by decide) (fun c_9 => ?_) (fun c_9 => ?_)
  · have hnt := xAt_0 hTb c_9
    refine zt_iconst dX10_engine_29 ?_
    exact zt_iret dX10_engine_30 ⟨rfl, rfl, Or.inr ⟨fun q => hnt q.1, rfl, fun _ _ => rfl⟩⟩
  · obtain ⟨hxT, hT, hTk⟩ := xAt_1 hTb c_9
    obtain ⟨t, htd⟩ : ∃ t, t = xAt h p := ⟨_, rfl⟩
    rw [← htd] at hT hTk ⊢
    have hE := hT.2.2.1
    refine zt_aload dX10_engine_12 rfl ?_
    refine zt_iload_n dX10_engine_14 rfl ?_
    refine zt_iload_n dX10_engine_15 rfl ?_
    refine zt_aload_n dX10_engine_16 rfl ?_
    refine zt_getv dX10_engine_17 fl_X10_61 (zs_0 hS) (rf_0_7 hR) ?_
    refine zt_getv dX10_engine_20 fl_X10_201 (zs_23 hS) (rf_23_0 hR) ?_
    refine zt_callV3q dX10_engine_23 ml_X10_205 hT.sh (Nat.le_of_ble_eq_true rfl) (c_diff hS hT (by omega) (by omega)) ?_
    rintro r n1 sh1 h2 ⟨rfl, rfl, hz2, hcs⟩
    have hR2 : zRf h2 := fun q hq => by have h1 : ∀ q ∈ zrf0, q.1 ≠ 24 := (by decide); rw [hz2 _ (h1 q hq)]; exact hR q hq
    rcases hcs with ⟨rfl, hok, h24⟩ | ⟨rfl, hok⟩
    all_goals simp only [Option.toList, List.cons_append, List.nil_append]
    · skip
      refine zt_if_ne (tgt := 31) dX10_engine_26 (by decide) (by decide) (fun c_26 => ?_) (fun q => absurd q (by decide))
      refine zt_aload_n dX10_engine_31 rfl ?_
      refine zt_getv dX10_engine_32 fl_X10_54 (zs_0 hS) (rf_0_6 hR2) ?_
      refine zt_aload_n dX10_engine_35 rfl ?_
      refine zt_getv dX10_engine_36 fl_X10_61 (zs_0 hS) (rf_0_7 hR2) ?_
      refine zt_getv dX10_engine_39 fl_X10_201 (zs_23 hS) (rf_23_0 hR2) ?_
      refine zt_callV1q dX10_engine_42 ml_X10_209 (zs_18 hS) (Nat.le_of_ble_eq_true rfl) (c_setTo hS hR2 (fun k a b => by rw [h24 k a b]; exact tDc_rg k a b)) ?_
      rintro r n1 sh1 h1 ⟨rfl, rfl, rfl, g, hg, rfl⟩
      simp only [Option.toList, List.nil_append]
      refine zt_iload_n dX10_engine_45 rfl ?_
      refine zt_callS1r dX10_engine_46 ml_X10_213 (Nat.le_of_ble_eq_true rfl) (c_scost) ?_
      exact zt_iret dX10_engine_49 ⟨rfl, rfl, Or.inl ⟨⟨hxT, hok⟩, rfl, h2, g, hz2, fun y a b => by rw [hg y a b]; unfold eSd; rw [h24 (y / 9) (by omega) (by omega)], rfl⟩⟩
    · skip
      refine zt_if_ne (tgt := 31) dX10_engine_26 (by decide) (by decide) (fun q => absurd q (by decide)) (fun c_26 => ?_)
      refine zt_iconst dX10_engine_29 ?_
      exact zt_iret dX10_engine_30 ⟨rfl, rfl, Or.inr ⟨fun q => hok q.2, rfl, hz2⟩⟩

set_option maxRecDepth 100000 in
set_option maxHeartbeats 4000000 in
theorem c_xsus {d n : Nat} {sh : zSh} {h : zMem} {x e : Int} (hS : zShp sh) (hR : zRf h) (hTb : xTb sh h) (hx : zi32 x) (he : zi32 e) (hr0 : rOK h) (hsn : h 26 11 = -1 ∨ (80 ≤ h 26 11 ∧ sh (h 26 11) = (100, 8192))) (hn : 80 ≤ n) : zM yX10_suspects cX10_suspects 3 (some .int) (d + 3) 1 8192 [(2, 0), (0, x), (0, e)] n sh h (fun r n1 sh1 h1 => rK n sh h n1 sh1 h1 ∧ ((srOK h x e ∧ r = some (0, (sB (sRR h x e)).2)) ∨ (¬ srOK h x e ∧ r = some (0, -1)))) := by
  refine zM.ofT2 (by decide +kernel) [some (2, 0), some (0, x), some (0, e)] rfl (Nat.le_of_ble_eq_true rfl) ?_
  have x1 := hTb.1
  refine zt_rg (fun hm => ?_)
  refine zt_aload_n dX10_suspects_0 rfl ?_
  refine zt_getv dX10_suspects_1 fl_X10_68 (zs_0 hS) (rf_0_8 hR) ?_
  refine zt_iload_n dX10_suspects_4 rfl ?_
  refine zt_iload_n dX10_suspects_5 rfl ?_
  refine zt_iconst dX10_suspects_6 ?_
  refine zt_callV3q dX10_suspects_7 ml_X10_248 (zs_26 hS) (Nat.le_of_ble_eq_true rfl) (c_sea (b := 0) hS hR hr0 (by omega) (by omega) (by omega) hsn hn) ?_
  rintro r n1 sh1 h1 ⟨hk, hz⟩
  have hS1 := hk.2.1
  rcases hz with ⟨hok, rfl⟩ | ⟨hok, rfl, h26, h27⟩
  all_goals simp only [Option.toList, List.cons_append, List.nil_append]
  · skip
    refine zt_if_eq (tgt := 23) dX10_suspects_10 (by decide) (by decide) (fun c_10 => ?_) (fun q => absurd q (by decide))
    refine zt_iconst dX10_suspects_23 ?_
    exact zt_iret dX10_suspects_24 ⟨hk, Or.inr ⟨hok, rfl⟩⟩
  · skip
    refine zt_if_eq (tgt := 23) dX10_suspects_10 (by decide) (by decide) (fun q => absurd q (by decide)) (fun c_10 => ?_)
    refine zt_aload_n dX10_suspects_13 rfl ?_
    refine zt_getv dX10_suspects_14 fl_X10_68 (zs_0 hS1) (rf_0_8 hk.1) ?_
    refine zt_getv (v := (sB (sRR h x e)).2) dX10_suspects_17 fl_X10_252 (zs_26 hS1) h26 ?_
    refine zt_goto (tgt := 24) dX10_suspects_20 (by decide) ?_
    exact zt_iret dX10_suspects_24 ⟨hk, Or.inl ⟨hok, rfl⟩⟩

set_option maxRecDepth 100000 in
set_option maxHeartbeats 4000000 in
theorem c_xrvs {d n : Nat} {sh : zSh} {h : zMem} {x e : Int} (hS : zShp sh) (hR : zRf h) (hTb : xTb sh h) (hx : zi32 x) (he : zi32 e) (hr0 : rOK h) (hsn : h 26 11 = -1 ∨ (80 ≤ h 26 11 ∧ sh (h 26 11) = (100, 8192))) (hn : 80 ≤ n) : zM yX10_rivals cX10_rivals 3 (some .int) (d + 3) 1 8192 [(2, 0), (0, x), (0, e)] n sh h (fun r n1 sh1 h1 => rK n sh h n1 sh1 h1 ∧ ((srOK h x e ∧ r = some (0, dC (sRR h x e) (sB (sRR h x e)).1 - 1)) ∨ (¬ srOK h x e ∧ r = some (0, -1)))) := by
  refine zM.ofT2 (by decide +kernel) [some (2, 0), some (0, x), some (0, e)] rfl (Nat.le_of_ble_eq_true rfl) ?_
  have x1 := hTb.1
  refine zt_rg (fun hm => ?_)
  refine zt_aload_n dX10_rivals_0 rfl ?_
  refine zt_getv dX10_rivals_1 fl_X10_68 (zs_0 hS) (rf_0_8 hR) ?_
  refine zt_iload_n dX10_rivals_4 rfl ?_
  refine zt_iload_n dX10_rivals_5 rfl ?_
  refine zt_iconst dX10_rivals_6 ?_
  refine zt_callV3q dX10_rivals_7 ml_X10_248 (zs_26 hS) (Nat.le_of_ble_eq_true rfl) (c_sea (b := 1) hS hR hr0 (by omega) (by omega) (by omega) hsn hn) ?_
  rintro r n1 sh1 h1 ⟨hk, hz⟩
  have hS1 := hk.2.1
  rcases hz with ⟨hok, rfl⟩ | ⟨hok, rfl, h26, h27⟩
  all_goals simp only [Option.toList, List.cons_append, List.nil_append]
  · skip
    refine zt_if_eq (tgt := 25) dX10_rivals_10 (by decide) (by decide) (fun c_10 => ?_) (fun q => absurd q (by decide))
    refine zt_iconst dX10_rivals_25 ?_
    exact zt_iret dX10_rivals_26 ⟨hk, Or.inr ⟨hok, rfl⟩⟩
  · skip
    refine zt_if_eq (tgt := 25) dX10_rivals_10 (by decide) (by decide) (fun q => absurd q (by decide)) (fun c_10 => ?_)
    refine zt_aload_n dX10_rivals_13 rfl ?_
    refine zt_getv dX10_rivals_14 fl_X10_68 (zs_0 hS1) (rf_0_8 hk.1) ?_
    refine zt_getv (v := dC (sRR h x e) (sB (sRR h x e)).1) dX10_rivals_17 fl_X10_255 (zs_26 hS1) (h27 rfl) ?_
    refine zt_iconst dX10_rivals_20 ?_
    refine zt_isub dX10_rivals_21 ?_
    refine zt_goto (tgt := 26) dX10_rivals_22 (by decide) ?_
    exact zt_iret dX10_rivals_26 ⟨hk, Or.inl ⟨hok, rfl⟩⟩

set_option maxRecDepth 100000 in
set_option maxHeartbeats 4000000 in
theorem c_xst {d n : Nat} {sh : zSh} {h : zMem} {p : Int} (hS : zShp sh) (hR : zRf h) (hTb : xTb sh h) (hp : zi32 p) : zM yX10_set cX10_set 3 (some .int) (d + 3) 0 0 [(2, 0), (0, p)] n sh h (fun r n1 sh1 h1 => n1 = n ∧ sh1 = sh ∧ (((xT h p ∧ h (xAt h p) 11 = 0 ∧ tAll h (xAt h p)) ∧ r = some (0, zS (fun j => zb (tAg h (xAt h p) j)) 0 (h (xAt h p) 0)) ∧ h1 = zup h (xAt h p) 11 1) ∨ (¬ (xT h p ∧ h (xAt h p) 11 = 0 ∧ tAll h (xAt h p)) ∧ r = some (0, -1) ∧ h1 = h))) := by
  refine zM.ofT2 (by decide +kernel) [some (2, 0), some (0, p), none] rfl (Nat.le_of_ble_eq_true rfl) ?_
  have x1 := hTb.1
  refine zt_rg (fun hm => ?_)
  refine zt_aload_n dX10_set_0 rfl ?_
  refine zt_iload_n dX10_set_1 rfl ?_
  refine zt_callV1r dX10_set_2 ml_X10_159 (zs_0 hS) (Nat.le_of_ble_eq_true rfl) (c_xtA hS hR hTb (by omega)) ?_
  refine zt_astore_n_2 dX10_set_5 (by decide) rfl ?_
  refine zt_aload_n dX10_set_6 rfl ?_
  refine zt_ifnull (tgt := 24) dX10_set_7 (by decide) (fun c_7 => ?_) (fun c_7 => ?_)
  · have hnt := xAt_0 hTb c_7
    refine zt_iconst dX10_set_24 ?_
    exact zt_iret dX10_set_25 ⟨rfl, rfl, Or.inr ⟨fun q => by first | exact hnt q.1 | exact absurd q.2.1 (by omega) | exact c_21 q.2.2, rfl, rfl⟩⟩
  · obtain ⟨hxT, hT, hTk⟩ := xAt_1 hTb c_7
    obtain ⟨t, htd⟩ : ∃ t, t = xAt h p := ⟨_, rfl⟩
    rw [← htd] at hT hTk ⊢
    have hE := hT.2.2.1
    refine zt_aload_n dX10_set_10 rfl ?_
    refine zt_get dX10_set_11 fl_X10_264 hT.sh ?_
    refine zt_if_ne (tgt := 24) dX10_set_14 (by decide) (zbool (hm.fld (j := 11) hT.sh (by decide) (by decide) (by decide))) (fun c_14 => ?_) (fun c_14 => ?_)
    · refine zt_iconst dX10_set_24 ?_
      exact zt_iret dX10_set_25 ⟨rfl, rfl, Or.inr ⟨fun q => by first | exact hnt q.1 | exact absurd q.2.1 (by omega) | exact c_21 q.2.2, rfl, rfl⟩⟩
    · refine zt_aload_n dX10_set_17 rfl ?_
      refine zt_callV0r dX10_set_18 ml_X10_268 hT.sh (Nat.le_of_ble_eq_true rfl) (c_tall hT ) ?_
      refine zt_ifp_ne (tgt := 26) dX10_set_21 (by decide) (fun c_21 => ?_) (fun c_21 => ?_)
      · refine zt_aload_n dX10_set_26 rfl ?_
        refine zt_iconst dX10_set_27 ?_
        refine zt_putz dX10_set_28 fl_X10_264 rfl hT.sh (by decide) ?_
        refine zt_aload_n dX10_set_31 rfl ?_
        refine zt_callV0r dX10_set_32 ml_X10_271 hT.sh (Nat.le_of_ble_eq_true rfl) (zF.of_eq (show some (0, zS (fun j => zb (tAg (zup h t 11 1) t j)) 0 (zup h t 11 1 t 0)) = some (0, zS (fun j => zb (tAg h t j)) 0 (h t 0)) from congrArg (fun z => some ((0, z) : zV)) ((congrArg (zS (fun j => zb (tAg (zup h t 11 1) t j)) 0) (show zup h t 11 1 t 0 = h t 0 from zupJ (by decide))).trans (zS_congr 30 0 (by omega) (fun j a b => zb_eq (by show ((0 ≤ j ∧ j < zup h t 11 1 t 0) ∧ zup h t 11 1 (t + 8) j ≠ -1) ↔ _; rw [zupJ (by decide), zupA (by omega)]))))) rfl rfl rfl (c_tagn (hT.up (by omega)))) ?_
        exact zt_iret dX10_set_35 ⟨rfl, rfl, Or.inl ⟨⟨hxT, by omega, c_21⟩, rfl, rfl⟩⟩
      · refine zt_iconst dX10_set_24 ?_
        exact zt_iret dX10_set_25 ⟨rfl, rfl, Or.inr ⟨fun q => by first | exact hnt q.1 | exact absurd q.2.1 (by omega) | exact c_21 q.2.2, rfl, rfl⟩⟩

set_option maxRecDepth 100000 in
set_option maxHeartbeats 4000000 in
theorem c_xms {d n : Nat} {sh : zSh} {h : zMem} {x : Int} (hS : zShp sh) (hR : zRf h) (hTb : xTb sh h) (hx : zi32 x) (hc : 0 ≤ h 32 0 ∧ h 32 0 ≤ 40) (hxe : 0 ≤ x → x < h 32 0 → xT h (h 33 x)) (hzf : 0 ≤ x → x < h 32 0 → zi32 (zFor (eAp h (h 33 x) (h 34 x) 999) 0 x (tFig h (xAt h (h 33 x)) (h 34 x)))) : zF yX10_misses cX10_misses 6 (some .int) (d + 3) 0 0 [(2, 0), (0, x)] n sh h (some (0, (if 0 ≤ x ∧ x < h 32 0 then (if zFor (eAp h (h 33 x) (h 34 x) 999) 0 x (tFig h (xAt h (h 33 x)) (h 34 x)) = h 35 x then 0 else 1) else -1))) n sh h := by
  refine zF.ofT (by decide +kernel) [some (2, 0), some (0, x), none, none, none, none] rfl (Nat.le_of_ble_eq_true rfl) ?_
  have x1 := hTb.1
  refine zt_rg (fun hm => ?_)
  refine zt_aload_n dX10_misses_0 rfl ?_
  refine zt_getv dX10_misses_1 fl_X10_75 (zs_0 hS) (rf_0_9 hR) ?_
  refine zt_iload_n dX10_misses_4 rfl ?_
  refine zt_callV1r dX10_misses_5 ml_X10_300 (zs_32 hS) (Nat.le_of_ble_eq_true rfl) (c_ehas hS hR hc (by omega)) ?_
  refine zt_ifb_ne (tgt := 13) dX10_misses_8 (by decide) (fun c_8 => ?_) (fun c_8 => ?_)
  · refine zt_aload_n dX10_misses_13 rfl ?_
    refine zt_getv dX10_misses_14 fl_X10_75 (zs_0 hS) (rf_0_9 hR) ?_
    refine zt_getv dX10_misses_17 fl_X10_302 (zs_32 hS) (rf_32_1 hR) ?_
    refine zt_iload_n dX10_misses_20 rfl ?_
    refine zt_iaload dX10_misses_21 (zs_33 hS) (by decide) (by omega) (by omega) ?_
    refine zt_istore_n_2 dX10_misses_22 (by decide) rfl ?_
    refine zt_aload_n dX10_misses_23 rfl ?_
    refine zt_getv dX10_misses_24 fl_X10_75 (zs_0 hS) (rf_0_9 hR) ?_
    refine zt_getv dX10_misses_27 fl_X10_305 (zs_32 hS) (rf_32_2 hR) ?_
    refine zt_iload_n dX10_misses_30 rfl ?_
    refine zt_iaload dX10_misses_31 (zs_34 hS) (by decide) (by omega) (by omega) ?_
    refine zt_istore_n_3 dX10_misses_32 (by decide) rfl ?_
    refine zt_aload_n dX10_misses_33 rfl ?_
    refine zt_iload_n dX10_misses_34 rfl ?_
    refine zt_callV1r dX10_misses_35 ml_X10_159 (zs_0 hS) (Nat.le_of_ble_eq_true rfl) (c_xtA hS hR hTb (hm.int (zs_33 hS) (by omega) (by omega))) ?_
    refine zt_astore_4 dX10_misses_38 (by decide) rfl ?_
    refine zt_aload dX10_misses_40 rfl ?_
    refine zt_ifnonnull (tgt := 47) dX10_misses_42 (by decide) (fun c_42 => ?_) (fun c_42 => ?_)
    · obtain ⟨hxT, hT, hTk⟩ := xAt_1 hTb c_42
      obtain ⟨t, htd⟩ : ∃ t, t = xAt h (h 33 x) := ⟨_, rfl⟩
      rw [← htd] at hT hTk ⊢
      have hE := hT.2.2.1
      refine zt_aload_n dX10_misses_47 rfl ?_
      refine zt_getv dX10_misses_48 fl_X10_75 (zs_0 hS) (rf_0_9 hR) ?_
      refine zt_iload_n dX10_misses_51 rfl ?_
      refine zt_iload_n dX10_misses_52 rfl ?_
      refine zt_aload dX10_misses_53 rfl ?_
      refine zt_iload_n dX10_misses_55 rfl ?_
      refine zt_callV1r dX10_misses_56 ml_X10_191 hT.sh (Nat.le_of_ble_eq_true rfl) (c_tfig hT (hm.int (zs_34 hS) (by omega) (by omega))) ?_
      refine zt_iload_n dX10_misses_59 rfl ?_
      refine zt_sipush dX10_misses_60 (by decide) ?_
      refine zt_callV5r dX10_misses_63 ml_X10_308 (zs_32 hS) (Nat.le_of_ble_eq_true rfl) (c_eap hS hR hc (hm.int (zs_33 hS) (by omega) (by omega)) (hm.int (zs_34 hS) (by omega) (by omega)) (tFig_zi hT hm) (by decide) (by omega)) ?_
      have hzf2 := hzf (by omega) (by omega)
      rw [← htd] at hzf2
      refine zt_istore_5 dX10_misses_66 (by decide) rfl ?_
      refine zt_iload dX10_misses_68 rfl ?_
      refine zt_aload_n dX10_misses_70 rfl ?_
      refine zt_getv dX10_misses_71 fl_X10_75 (zs_0 hS) (rf_0_9 hR) ?_
      refine zt_getv dX10_misses_74 fl_X10_311 (zs_32 hS) (rf_32_3 hR) ?_
      refine zt_iload_n dX10_misses_77 rfl ?_
      refine zt_iaload dX10_misses_78 (zs_35 hS) (by decide) (by omega) (by omega) ?_
      refine zt_icmp_ne (tgt := 86) dX10_misses_79 (by decide) (by omega) (hm.int (zs_35 hS) (by omega) (by omega)) (fun c_79 => ?_) (fun c_79 => ?_)
      · refine zt_iconst dX10_misses_86 ?_
        exact zt_iret dX10_misses_87 ⟨by first | (rw [if_neg (by omega)]; done) | (exact absurd (hxe (by omega) (by omega)) hnt) | (rw [if_pos (by omega), if_pos (by omega)]; done) | (rw [if_pos (by omega), if_neg (by omega)]), rfl, rfl, rfl⟩
      · refine zt_iconst dX10_misses_82 ?_
        refine zt_goto (tgt := 87) dX10_misses_83 (by decide) ?_
        exact zt_iret dX10_misses_87 ⟨by first | (rw [if_neg (by omega)]; done) | (exact absurd (hxe (by omega) (by omega)) hnt) | (rw [if_pos (by omega), if_pos (by omega)]; done) | (rw [if_pos (by omega), if_neg (by omega)]), rfl, rfl, rfl⟩
    · have hnt := xAt_0 hTb c_42
      refine zt_iconst dX10_misses_45 ?_
      exact zt_iret dX10_misses_46 ⟨by first | (rw [if_neg (by omega)]; done) | (exact absurd (hxe (by omega) (by omega)) hnt) | (rw [if_pos (by omega), if_pos (by omega)]; done) | (rw [if_pos (by omega), if_neg (by omega)]), rfl, rfl, rfl⟩
  · refine zt_iconst dX10_misses_11 ?_
    exact zt_iret dX10_misses_12 ⟨by first | (rw [if_neg (by omega)]; done) | (exact absurd (hxe (by omega) (by omega)) hnt) | (rw [if_pos (by omega), if_pos (by omega)]; done) | (rw [if_pos (by omega), if_neg (by omega)]), rfl, rfl, rfl⟩

/-- what countOfTable answers -/
def cOT (h : zMem) (k p : Int) : Int := if 0 ≤ p ∧ p < h 0 11 then (if k = 1 then zS (fun j => zb (tAg h (xAt h p) j)) 0 (h (xAt h p) 0) else if k = 2 then zS (fun j => zb (tFa h (xAt h p) j)) 0 (h (xAt h p) 0) else if k = 3 then h (xAt h p) 12 else -1) else -1

set_option maxRecDepth 100000 in
set_option maxHeartbeats 4000000 in
theorem c_xcot {d n : Nat} {sh : zSh} {h : zMem} {k p : Int} (hS : zShp sh) (hR : zRf h) (hTb : xTb sh h) (hk : zi32 k) (hp : zi32 p) : zF yX10_countOfTable cX10_countOfTable 4 (some .int) (d + 4) 0 0 [(2, 0), (0, k), (0, p)] n sh h (some (0, cOT h k p)) n sh h := by
  refine zF.ofT (by decide +kernel) [some (2, 0), some (0, k), some (0, p), none] rfl (Nat.le_of_ble_eq_true rfl) ?_
  have x1 := hTb.1
  refine zt_rg (fun hm => ?_)
  refine zt_aload_n dX10_countOfTable_0 rfl ?_
  refine zt_iload_n dX10_countOfTable_1 rfl ?_
  refine zt_callV1r dX10_countOfTable_2 ml_X10_159 (zs_0 hS) (Nat.le_of_ble_eq_true rfl) (c_xtA hS hR hTb (by omega)) ?_
  refine zt_astore_n_3 dX10_countOfTable_5 (by decide) rfl ?_
  refine zt_aload_n dX10_countOfTable_6 rfl ?_
  refine zt_ifnonnull (tgt := 12) dX10_countOfTable_7 (by decide) (fun c_7 => ?_) (fun c_7 => ?_)
  · obtain ⟨hxT, hT, hTk⟩ := xAt_1 hTb c_7
    obtain ⟨t, htd⟩ : ∃ t, t = xAt h p := ⟨_, rfl⟩
    rw [← htd] at hT hTk ⊢
    have hE := hT.2.2.1
    refine zt_iload_n dX10_countOfTable_12 rfl ?_
    rcases (show k = 1 ∨ k = 2 ∨ k = 3 ∨ (k < 1 ∨ 3 < k) by omega) with e_13 | e_13 | e_13 | e_13
    · refine zt_tableIn (off := 27) (tgt := 40) dX10_countOfTable_13 (by omega) (by omega) (by omega) (by rw [e_13]; rfl) (by decide) ?_
      refine zt_aload_n dX10_countOfTable_40 rfl ?_
      refine zt_callV0r dX10_countOfTable_41 ml_X10_271 hT.sh (Nat.le_of_ble_eq_true rfl) (c_tagn hT ) ?_
      exact zt_iret dX10_countOfTable_44 ⟨by congr 2; unfold cOT; first | (rw [if_neg (by omega)]; done) | (rw [if_pos hxT]; (try rw [← htd]); (repeat' split) <;> first | rfl | omega), rfl, rfl, rfl⟩
    · refine zt_tableIn (off := 32) (tgt := 45) dX10_countOfTable_13 (by omega) (by omega) (by omega) (by rw [e_13]; rfl) (by decide) ?_
      refine zt_aload_n dX10_countOfTable_45 rfl ?_
      refine zt_callV0r dX10_countOfTable_46 ml_X10_346 hT.sh (Nat.le_of_ble_eq_true rfl) (c_tfan hT ) ?_
      exact zt_iret dX10_countOfTable_49 ⟨by congr 2; unfold cOT; first | (rw [if_neg (by omega)]; done) | (rw [if_pos hxT]; (try rw [← htd]); (repeat' split) <;> first | rfl | omega), rfl, rfl, rfl⟩
    · refine zt_tableIn (off := 37) (tgt := 50) dX10_countOfTable_13 (by omega) (by omega) (by omega) (by rw [e_13]; rfl) (by decide) ?_
      refine zt_aload_n dX10_countOfTable_50 rfl ?_
      refine zt_get dX10_countOfTable_51 fl_X10_277 hT.sh ?_
      exact zt_iret dX10_countOfTable_54 ⟨by congr 2; unfold cOT; first | (rw [if_neg (by omega)]; done) | (rw [if_pos hxT]; (try rw [← htd]); (repeat' split) <;> first | rfl | omega), rfl, rfl, rfl⟩
    · refine zt_tableOut (tgt := 55) dX10_countOfTable_13 (by omega) e_13 (by decide) ?_
      refine zt_iconst dX10_countOfTable_55 ?_
      exact zt_iret dX10_countOfTable_56 ⟨by congr 2; unfold cOT; first | (rw [if_neg (by omega)]; done) | (rw [if_pos hxT]; (try rw [← htd]); (repeat' split) <;> first | rfl | omega), rfl, rfl, rfl⟩
  · have hnt := xAt_0 hTb c_7
    refine zt_iconst dX10_countOfTable_10 ?_
    exact zt_iret dX10_countOfTable_11 ⟨by congr 2; unfold cOT; first | (rw [if_neg (by omega)]; done) | (rw [if_pos hxT]; (try rw [← htd]); (repeat' split) <;> first | rfl | omega), rfl, rfl, rfl⟩

set_option maxRecDepth 100000 in
set_option maxHeartbeats 4000000 in
theorem c_xct {d n : Nat} {sh : zSh} {h : zMem} {x : Int} (hS : zShp sh) (hR : zRf h) (hTb : xTb sh h) (hx : zi32 x) : zF yX10_count cX10_count 2 (some .int) (d + 5) 0 0 [(2, 0), (0, x)] n sh h (some (0, (if x = 0 then h 0 12 else if x = 1 then h 0 10 else if x = 2 then h 0 11 else if x = 3 then h 10 0 else if x = 4 then h 10 1 else if x = 5 then h 26 0 else if x = 6 then h 32 0 else if x = 7 then h 1 1 else cOT h (Int.tdiv x 10) (Int.tmod x 10)))) n sh h := by
  refine zF.ofT (by decide +kernel) [some (2, 0), some (0, x)] rfl (Nat.le_of_ble_eq_true rfl) ?_
  have x1 := hTb.1
  refine zt_rg (fun hm => ?_)
  refine zt_iload_n dX10_count_0 rfl ?_
  rcases (show x = 0 ∨ x = 1 ∨ x = 2 ∨ x = 3 ∨ x = 4 ∨ x = 5 ∨ x = 6 ∨ x = 7 ∨ (x < 0 ∨ 7 < x) by omega) with e_1 | e_1 | e_1 | e_1 | e_1 | e_1 | e_1 | e_1 | e_1
  · refine zt_tableIn (off := 47) (tgt := 48) dX10_count_1 (by omega) (by omega) (by omega) (by rw [e_1]; rfl) (by decide) ?_
    refine zt_aload_n dX10_count_48 rfl ?_
    refine zt_get dX10_count_49 fl_X10_135 (zs_0 hS) ?_
    exact zt_iret dX10_count_52 ⟨by congr 2; (repeat' split) <;> first | rfl | omega, rfl, rfl, rfl⟩
  · refine zt_tableIn (off := 52) (tgt := 53) dX10_count_1 (by omega) (by omega) (by omega) (by rw [e_1]; rfl) (by decide) ?_
    refine zt_aload_n dX10_count_53 rfl ?_
    refine zt_get dX10_count_54 fl_X10_94 (zs_0 hS) ?_
    exact zt_iret dX10_count_57 ⟨by congr 2; (repeat' split) <;> first | rfl | omega, rfl, rfl, rfl⟩
  · refine zt_tableIn (off := 57) (tgt := 58) dX10_count_1 (by omega) (by omega) (by omega) (by rw [e_1]; rfl) (by decide) ?_
    refine zt_aload_n dX10_count_58 rfl ?_
    refine zt_get dX10_count_59 fl_X10_144 (zs_0 hS) ?_
    exact zt_iret dX10_count_62 ⟨by congr 2; (repeat' split) <;> first | rfl | omega, rfl, rfl, rfl⟩
  · refine zt_tableIn (off := 62) (tgt := 63) dX10_count_1 (by omega) (by omega) (by omega) (by rw [e_1]; rfl) (by decide) ?_
    refine zt_aload_n dX10_count_63 rfl ?_
    refine zt_getv dX10_count_64 fl_X10_47 (zs_0 hS) (rf_0_5 hR) ?_
    refine zt_get dX10_count_67 fl_X10_166 (zs_10 hS) ?_
    exact zt_iret dX10_count_70 ⟨by congr 2; (repeat' split) <;> first | rfl | omega, rfl, rfl, rfl⟩
  · refine zt_tableIn (off := 70) (tgt := 71) dX10_count_1 (by omega) (by omega) (by omega) (by rw [e_1]; rfl) (by decide) ?_
    refine zt_aload_n dX10_count_71 rfl ?_
    refine zt_getv dX10_count_72 fl_X10_47 (zs_0 hS) (rf_0_5 hR) ?_
    refine zt_get dX10_count_75 fl_X10_177 (zs_10 hS) ?_
    exact zt_iret dX10_count_78 ⟨by congr 2; (repeat' split) <;> first | rfl | omega, rfl, rfl, rfl⟩
  · refine zt_tableIn (off := 78) (tgt := 79) dX10_count_1 (by omega) (by omega) (by omega) (by rw [e_1]; rfl) (by decide) ?_
    refine zt_aload_n dX10_count_79 rfl ?_
    refine zt_getv dX10_count_80 fl_X10_68 (zs_0 hS) (rf_0_8 hR) ?_
    refine zt_get dX10_count_83 fl_X10_243 (zs_26 hS) ?_
    exact zt_iret dX10_count_86 ⟨by congr 2; (repeat' split) <;> first | rfl | omega, rfl, rfl, rfl⟩
  · refine zt_tableIn (off := 86) (tgt := 87) dX10_count_1 (by omega) (by omega) (by omega) (by rw [e_1]; rfl) (by decide) ?_
    refine zt_aload_n dX10_count_87 rfl ?_
    refine zt_getv dX10_count_88 fl_X10_75 (zs_0 hS) (rf_0_9 hR) ?_
    refine zt_get dX10_count_91 fl_X10_314 (zs_32 hS) ?_
    exact zt_iret dX10_count_94 ⟨by congr 2; (repeat' split) <;> first | rfl | omega, rfl, rfl, rfl⟩
  · refine zt_tableIn (off := 94) (tgt := 95) dX10_count_1 (by omega) (by omega) (by omega) (by rw [e_1]; rfl) (by decide) ?_
    refine zt_aload_n dX10_count_95 rfl ?_
    refine zt_getv dX10_count_96 fl_X10_10 (zs_0 hS) (rf_0_0 hR) ?_
    refine zt_get dX10_count_99 fl_X10_83 (zs_1 hS) ?_
    exact zt_iret dX10_count_102 ⟨by congr 2; (repeat' split) <;> first | rfl | omega, rfl, rfl, rfl⟩
  · refine zt_tableOut (tgt := 103) dX10_count_1 (by omega) e_1 (by decide) ?_
    refine zt_aload_n dX10_count_103 rfl ?_
    refine zt_iload_n dX10_count_104 rfl ?_
    refine zt_bipush dX10_count_105 (by decide) ?_
    refine zt_idiv dX10_count_107 (by omega) (by decide) (by decide) ?_
    refine zt_iload_n dX10_count_108 rfl ?_
    refine zt_bipush dX10_count_109 (by decide) ?_
    refine zt_irem dX10_count_111 (by omega) (by decide) (by decide) ?_
    have ht1 : zi32 (Int.tdiv x 10) ∧ zi32 (Int.tmod x 10) := by by_cases q : 0 ≤ x; (have := ztm_p (x := x) (y := 10) (by decide) q; omega); (have := ztm_n (x := x) (y := 10) (by decide) (by omega); omega)
    refine zt_callV2r dX10_count_112 ml_X10_343 (zs_0 hS) (Nat.le_of_ble_eq_true rfl) (c_xcot hS hR hTb ht1.1 ht1.2) ?_
    exact zt_iret dX10_count_115 ⟨by congr 2; (repeat' split) <;> first | rfl | omega, rfl, rfl, rfl⟩

set_option maxRecDepth 100000 in
set_option maxHeartbeats 4000000 in
theorem c_xflt {d n : Nat} {sh : zSh} {h : zMem} (hS : zShp sh) (hR : zRf h) (hTb : xTb sh h) (hT0 : tOK h) : zM yX10_fault cX10_fault 1 (some .int) (d + 61) 0 0 [(2, 0)] n sh h (fun r n1 sh1 h1 => n1 = n ∧ sh1 = sh ∧ (∀ x, x ≠ 3 → x ≠ 4 → h1 x = h x) ∧ zRf h1 ∧ pEnd h (pAl (h 2) (h 1 1)) r h1) := by
  refine zM.ofT2 (by decide +kernel) [some (2, 0)] rfl (Nat.le_of_ble_eq_true rfl) ?_
  have x1 := hTb.1
  refine zt_rg (fun hm => ?_)
  refine zt_aload_n dX10_fault_0 rfl ?_
  refine zt_getv dX10_fault_1 fl_X10_21 (zs_0 hS) (rf_0_1 hR) ?_
  refine zt_callV0q dX10_fault_4 ml_X10_90 (zs_3 hS) (Nat.le_of_ble_eq_true rfl) (c_parse hS hR hT0) ?_
  rintro r n1 sh1 h1 ⟨rfl, rfl, hz, hR1, hpe⟩
  obtain ⟨v, rfl⟩ : ∃ v, r = some (0, v) := by cases e : pAl (h 2) (h 1 1) with
    | inl e1 => rw [e] at hpe; exact ⟨_, hpe⟩
    | inr q => rw [e] at hpe; exact ⟨_, hpe.1⟩
  simp only [Option.toList, List.cons_append, List.nil_append]
  exact zt_iret dX10_fault_7 ⟨rfl, rfl, hz, hR1, hpe⟩

noncomputable def eT1 (h : zMem) : zMem := zup (eM h (eT (eStk h) (h 19) (h 18 0))) 18 1 (h 18 1 + 1)
noncomputable def eTn : Nat → zMem → zMem
  | 0, h => h
  | k + 1, h => eT1 (eTn k h)
theorem eT1_ne {h : zMem} {x : Int} (h1 : x ≠ 18) (h2 : x ≠ 19) : eT1 h x = h x := by unfold eT1 eM; rw [zup_ne h1, znew_ne h2, zup_ne h1]
theorem eT1_18 {h : zMem} {y : Int} (h1 : y ≠ 0) (h2 : y ≠ 1) : eT1 h 18 y = h 18 y := by unfold eT1 eM; rw [zupJ h2, znew_ne (by decide), zupJ h1]
theorem eT1_19 {h : zMem} : eT1 h 19 = (eT (eStk h) (h 19) (h 18 0)).1 := by unfold eT1 eM; rw [zup_ne (by decide), znew_at]
theorem eT1_b {h : zMem} : eT1 h 18 0 = (eT (eStk h) (h 19) (h 18 0)).2 := by unfold eT1 eM; rw [zupJ (by decide), znew_ne (by decide), zupE]
theorem eT1_t {h : zMem} : eT1 h 18 1 = h 18 1 + 1 := zupE
theorem eT1_rf {h : zMem} (hR : zRf h) : zRf (eT1 h) := ((hR.up (by decide)).new (by decide)).up (by decide)
/-- the engine in its bounds -/
def eOB (h : zMem) (b t : Int) : Prop := (0 ≤ h 18 6 ∧ h 18 6 ≤ 12) ∧ (0 ≤ h 18 1 ∧ h 18 1 ≤ t) ∧ (0 ≤ h 18 0 ∧ h 18 0 ≤ b) ∧ eDig (h 19) ∧ ∀ i, 0 ≤ i → i < h 18 6 → 0 ≤ h 20 i ∧ h 20 i < 45
theorem eOB.ok {h : zMem} {b t : Int} (q : eOB h b t) (hb : b ≤ 1000000) (ht : t ≤ 100000) : eOK h := ⟨q.1, ⟨q.2.1.1, by have := q.2.1.2; omega⟩, ⟨q.2.2.1.1, by have := q.2.2.1.2; omega⟩, q.2.2.2.1, q.2.2.2.2⟩
theorem eT1_ob {h : zMem} {b t : Int} (q : eOB h b t) : eOB (eT1 h) (b + 4) (t + 1) := by
  have e := eKF_dig (S := eStk h) 4 0 (h 19, h 18 0) (by omega) (by omega) q.2.2.2.1
  have e3 : h 18 0 ≤ (eT (eStk h) (h 19) (h 18 0)).2 ∧ (eT (eStk h) (h 19) (h 18 0)).2 ≤ h 18 0 + 4 := e.2
  have q2 := q.2.2.1
  have q1 := q.2.1
  refine ⟨by rw [eT1_18 (by decide) (by decide)]; exact q.1, by rw [eT1_t]; omega, by rw [eT1_b]; omega, by rw [eT1_19]; exact e.1, fun i a c => ?_⟩
  rw [eT1_18 (by decide) (by decide)] at c
  rw [eT1_ne (by decide) (by decide)]; exact q.2.2.2.2 i a c

set_option maxRecDepth 100000 in
set_option maxHeartbeats 4000000 in
theorem l_xtn {d n : Nat} {sh : zSh} {h : zMem} {x b t : Int} (hS : zShp sh) (hx : 0 ≤ x ∧ x ≤ 60) (hb : 0 ≤ b ∧ b ≤ 900000) (ht : 0 ≤ t ∧ t ≤ 90000)  : ∀ (k : Nat) (i : Int) (g : zMem), x - i < (k : Int) → 0 ≤ i → i ≤ x → g = eTn i.toNat h → zRf g → eOB g (b + 4 * i) (t + i) → zT yX10_turn cX10_turn 3 (some .int) (d + 3) 0 0 (zq (some (0, zsho (eNum (eTn x.toNat h 19) 0))) n sh (eTn x.toNat h)) 15 [some (2, 0), some (0, x), some (0, i)] [] n sh g := by
  intro k
  induction k with
  | zero => intros; exfalso; omega
  | succ k ih =>
    intro i g hk h0 h1 hg hRg hog
    refine zt_iload_n dX10_turn_15 rfl ?_
    refine zt_iload_n dX10_turn_16 rfl ?_
    refine zt_icmp_ge (tgt := 33) dX10_turn_17 (by decide) (by omega) (by omega) (fun c_17 => ?_) (fun c_17 => ?_)
    · refine zt_aload_n dX10_turn_33 rfl ?_
      refine zt_getv dX10_turn_34 fl_X10_54 (zs_0 hS) (rf_0_6 hRg) ?_
      refine zt_iconst dX10_turn_37 ?_
      refine zt_callV1r dX10_turn_38 ml_X10_222 (zs_18 hS) (Nat.le_of_ble_eq_true rfl) (c_num hS hRg (by decide)) ?_
      have hnr := eNum_r (g := g 19) (k := 0) (by decide) hog.2.2.2.1
      refine zt_i2l dX10_turn_41 (by omega) ?_
      refine zt_callS1r dX10_turn_42 ml_X10_225 (Nat.le_of_ble_eq_true rfl) (c_shown (by omega)) ?_
      exact zt_iret dX10_turn_45 ⟨by rw [show x = i by omega, hg], rfl, rfl, by rw [show x = i by omega, hg]⟩
    · refine zt_aload_n dX10_turn_20 rfl ?_
      refine zt_getv dX10_turn_21 fl_X10_54 (zs_0 hS) (rf_0_6 hRg) ?_
      refine zt_callV0v dX10_turn_24 ml_X10_219 (zs_18 hS) (Nat.le_of_ble_eq_true rfl) (c_turn hS hRg (hog.ok (by omega) (by omega))) ?_
      refine zt_iinc_2 dX10_turn_27 (by decide) rfl ?_
      refine zt_goto (tgt := 15) dX10_turn_30 (by decide) ?_
      exact ih (i + 1) (eT1 g) (by omega) (by omega) (by omega) (by rw [hg, show (i + 1).toNat = i.toNat + 1 by omega]; rfl) (eT1_rf hRg) (by have := eT1_ob hog; rw [show b + 4 * (i + 1) = b + 4 * i + 4 by omega, show t + (i + 1) = t + i + 1 by omega]; exact this)

set_option maxRecDepth 100000 in
set_option maxHeartbeats 4000000 in
theorem c_xtn {d n : Nat} {sh : zSh} {h : zMem} {x b t : Int} (hS : zShp sh) (hR : zRf h) (hTb : xTb sh h) (hx : zi32 x) (ho : eOB h b t) (hb : 0 ≤ b ∧ b ≤ 900000) (ht : 0 ≤ t ∧ t ≤ 90000) : zF yX10_turn cX10_turn 3 (some .int) (d + 3) 0 0 [(2, 0), (0, x)] n sh h (some (0, (if 0 ≤ x ∧ x ≤ 60 then zsho (eNum (eTn x.toNat h 19) 0) else -2147483648))) n sh (if 0 ≤ x ∧ x ≤ 60 then eTn x.toNat h else h) := by
  refine zF.ofT (by decide +kernel) [some (2, 0), some (0, x), none] rfl (Nat.le_of_ble_eq_true rfl) ?_
  have x1 := hTb.1
  refine zt_rg (fun hm => ?_)
  refine zt_iload_n dX10_turn_0 rfl ?_
  refine zt_if_lt (tgt := 10) dX10_turn_1 (by decide) (by omega) (fun c_1 => ?_) (fun c_1 => ?_)
  · refine zt_ldc dX10_turn_10 kc_X10_118 ?_
    exact zt_iret dX10_turn_12 ⟨by first | rfl | (rw [if_pos (by omega)]; done) | (rw [if_neg (by omega)]; done) | (rw [zb_t (by omega)]; done) | (rw [zb_f (by omega)]; done), rfl, rfl, by first | rfl | (rw [if_pos (by omega)]; done) | (rw [if_neg (by omega)]; done)⟩
  · refine zt_iload_n dX10_turn_4 rfl ?_
    refine zt_bipush dX10_turn_5 (by decide) ?_
    refine zt_icmp_le (tgt := 13) dX10_turn_7 (by decide) (by omega) (by decide) (fun c_7 => ?_) (fun c_7 => ?_)
    · refine zt_iconst dX10_turn_13 ?_
      refine zt_istore_n_2 dX10_turn_14 (by decide) rfl ?_
      rw [if_pos (by omega), if_pos (by omega)]
      exact l_xtn (b := b) (t := t) hS (by omega) hb ht 61 0 h (by omega) (by omega) (by omega) rfl hR (by rw [Int.mul_zero, Int.add_zero, Int.add_zero]; exact ho)
    · refine zt_ldc dX10_turn_10 kc_X10_118 ?_
      exact zt_iret dX10_turn_12 ⟨by first | rfl | (rw [if_pos (by omega)]; done) | (rw [if_neg (by omega)]; done) | (rw [zb_t (by omega)]; done) | (rw [zb_f (by omega)]; done), rfl, rfl, by first | rfl | (rw [if_pos (by omega)]; done) | (rw [if_neg (by omega)]; done)⟩

theorem tapp_ne {h : zMem} {x a : Int} (h1 : a ≠ 1) (h2 : a ≠ 2) : tapp h x a = h a := by unfold tapp; rw [zup_ne h1, zup_ne h2, zup_ne h1, zup_ne h2, zup_ne h1, zup_ne h2, zup_ne h1, zup_ne h2]
theorem tapp_1 {h : zMem} {x : Int} : tapp h x 1 1 = h 1 1 + 4 := by unfold tapp; rw [zupE]; omega
theorem tapp_10 {h : zMem} {x y : Int} (hy : y ≠ 1) : tapp h x 1 y = h 1 y := by unfold tapp; rw [zupJ hy, zupA (by decide), zupJ hy, zupA (by decide), zupJ hy, zupA (by decide), zupJ hy, zupA (by decide)]
theorem tapp_2 {h : zMem} {x y : Int} : tapp h x 2 y = if h 1 1 ≤ y ∧ y < h 1 1 + 4 then x / zp4 (y - h 1 1) % 256 else h 2 y := by
  unfold tapp
  rw [zupA (by decide)]
  by_cases c3 : y = h 1 1 + 1 + 1 + 1
  · subst c3; rw [zupE, if_pos (by omega), show h 1 1 + 1 + 1 + 1 - h 1 1 = 3 by omega, show zp4 3 = 1 by decide, Int.ediv_one]
  rw [zupJ c3, zupA (by decide)]
  by_cases c2 : y = h 1 1 + 1 + 1
  · subst c2; rw [zupE, if_pos (by omega), show h 1 1 + 1 + 1 - h 1 1 = 2 by omega, show zp4 2 = 256 by decide]
  rw [zupJ c2, zupA (by decide)]
  by_cases c1 : y = h 1 1 + 1
  · subst c1; rw [zupE, if_pos (by omega), show h 1 1 + 1 - h 1 1 = 1 by omega, show zp4 1 = 65536 by decide]
  rw [zupJ c1, zupA (by decide)]
  by_cases c0 : y = h 1 1
  · subst c0; rw [zupE, if_pos (by omega), show h 1 1 - h 1 1 = 0 by omega, show zp4 0 = 16777216 by decide]
  rw [zupJ c0, if_neg (by omega)]
theorem tapp_rf {h : zMem} {x : Int} (hR : zRf h) : zRf (tapp h x) := (((((((hR.upA (by decide)).up (by decide)).upA (by decide)).up (by decide)).upA (by decide)).up (by decide)).upA (by decide)).up (by decide)

set_option maxRecDepth 100000 in
set_option maxHeartbeats 4000000 in
theorem c_xfd {d n : Nat} {sh : zSh} {h : zMem} {a b c e f : Int} (hS : zShp sh) (hR : zRf h) (hTb : xTb sh h) (ha : zi32 a) (hb : zi32 b) (hc : zi32 c) (he : zi32 e) (hf : zi32 f) (hl : 0 ≤ h 1 1 ∧ h 1 1 ≤ 200) : zF yX10_feed cX10_feed 6 (some .int) (d + 1) 0 0 [(2, 0), (0, a), (0, b), (0, c), (0, e), (0, f)] n sh h (some (0, (if h 1 1 ≤ 180 then h 1 1 + 20 else -1))) n sh (if h 1 1 ≤ 180 then (tapp (tapp (tapp (tapp (tapp h a) b) c) e) f) else h) := by
  refine zF.ofT (by decide +kernel) [some (2, 0), some (0, a), some (0, b), some (0, c), some (0, e), some (0, f)] rfl (Nat.le_of_ble_eq_true rfl) ?_
  have x1 := hTb.1
  refine zt_rg (fun hm => ?_)
  refine zt_aload_n dX10_feed_0 rfl ?_
  refine zt_getv dX10_feed_1 fl_X10_10 (zs_0 hS) (rf_0_0 hR) ?_
  refine zt_get dX10_feed_4 fl_X10_83 (zs_1 hS) ?_
  refine zt_sipush dX10_feed_7 (by decide) ?_
  refine zt_icmp_le (tgt := 15) dX10_feed_10 (by decide) (hm.fld (j := 1) (zs_1 hS) (by decide) (by decide) (by decide)) (by decide) (fun c_10 => ?_) (fun c_10 => ?_)
  · refine zt_aload_n dX10_feed_15 rfl ?_
    refine zt_getv dX10_feed_16 fl_X10_10 (zs_0 hS) (rf_0_0 hR) ?_
    refine zt_iload_n dX10_feed_19 rfl ?_
    refine zt_callV1v dX10_feed_20 ml_X10_86 (zs_1 hS) (Nat.le_of_ble_eq_true rfl) (c_append hS hR ⟨by omega, by omega⟩) ?_
    refine zt_aload_n dX10_feed_23 rfl ?_
    refine zt_getv dX10_feed_24 fl_X10_10 (zs_0 hS) (rf_0_0 (tapp_rf hR)) ?_
    refine zt_iload_n dX10_feed_27 rfl ?_
    refine zt_callV1v dX10_feed_28 ml_X10_86 (zs_1 hS) (Nat.le_of_ble_eq_true rfl) (c_append hS (tapp_rf hR) ⟨by rw [tapp_1]; omega, by rw [tapp_1]; omega⟩) ?_
    refine zt_aload_n dX10_feed_31 rfl ?_
    refine zt_getv dX10_feed_32 fl_X10_10 (zs_0 hS) (rf_0_0 (tapp_rf (tapp_rf hR))) ?_
    refine zt_iload_n dX10_feed_35 rfl ?_
    refine zt_callV1v dX10_feed_36 ml_X10_86 (zs_1 hS) (Nat.le_of_ble_eq_true rfl) (c_append hS (tapp_rf (tapp_rf hR)) ⟨by rw [tapp_1, tapp_1]; omega, by rw [tapp_1, tapp_1]; omega⟩) ?_
    refine zt_aload_n dX10_feed_39 rfl ?_
    refine zt_getv dX10_feed_40 fl_X10_10 (zs_0 hS) (rf_0_0 (tapp_rf (tapp_rf (tapp_rf hR)))) ?_
    refine zt_iload dX10_feed_43 rfl ?_
    refine zt_callV1v dX10_feed_45 ml_X10_86 (zs_1 hS) (Nat.le_of_ble_eq_true rfl) (c_append hS (tapp_rf (tapp_rf (tapp_rf hR))) ⟨by rw [tapp_1, tapp_1, tapp_1]; omega, by rw [tapp_1, tapp_1, tapp_1]; omega⟩) ?_
    refine zt_aload_n dX10_feed_48 rfl ?_
    refine zt_getv dX10_feed_49 fl_X10_10 (zs_0 hS) (rf_0_0 (tapp_rf (tapp_rf (tapp_rf (tapp_rf hR))))) ?_
    refine zt_iload dX10_feed_52 rfl ?_
    refine zt_callV1v dX10_feed_54 ml_X10_86 (zs_1 hS) (Nat.le_of_ble_eq_true rfl) (c_append hS (tapp_rf (tapp_rf (tapp_rf (tapp_rf hR)))) ⟨by rw [tapp_1, tapp_1, tapp_1, tapp_1]; omega, by rw [tapp_1, tapp_1, tapp_1, tapp_1]; omega⟩) ?_
    refine zt_aload_n dX10_feed_57 rfl ?_
    refine zt_getv dX10_feed_58 fl_X10_10 (zs_0 hS) (rf_0_0 (tapp_rf (tapp_rf (tapp_rf (tapp_rf (tapp_rf hR)))))) ?_
    refine zt_getv (v := h 1 1 + 4 + 4 + 4 + 4 + 4) dX10_feed_61 fl_X10_83 (zs_1 hS) (by rw [tapp_1, tapp_1, tapp_1, tapp_1, tapp_1]) ?_
    exact zt_iret dX10_feed_64 ⟨by first | (rw [if_neg (by omega)]; done) | (rw [if_pos (by omega)]; congr 2; omega), rfl, rfl, by first | (rw [if_neg (by omega)]; done) | (rw [if_pos (by omega)]; done)⟩
  · refine zt_iconst dX10_feed_13 ?_
    exact zt_iret dX10_feed_14 ⟨by first | (rw [if_neg (by omega)]; done) | (rw [if_pos (by omega)]; congr 2; omega), rfl, rfl, by first | (rw [if_neg (by omega)]; done) | (rw [if_pos (by omega)]; done)⟩

