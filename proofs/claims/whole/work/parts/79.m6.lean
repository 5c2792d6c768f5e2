set_option maxRecDepth 100000 in
set_option maxHeartbeats 4000000 in
theorem l_jsh {d n : Nat} {sh : zSh} {h : zMem} {t R : Int} (hS : zShp sh) (hR : zRf h) (hB : mB h) (hm : zMok sh h) (ht : 0 ≤ t ∧ t < h 38 17) (b1 : 0 ≤ h 38 17 ∧ h 38 17 ≤ 5) (hb : 4 ≤ h 46 t ∧ h 46 t ≤ 30)  : ∀ (k : Nat) (i : Int) (f : Int), h 46 t - i < (k : Int) → 0 ≤ i → i ≤ h 46 t → R = f + zS (fun j => zb (jF h (30 * t + j) ∧ h 66 (30 * t + j) = h 53 (30 * t + j))) i (h 46 t) → zT yX11_shared cX11_shared 4 (some .int) (d + 3) 0 0 (zq (some (0, R)) n sh h) 14 [some (2, 38), some (0, t), some (0, f), some (0, i)] [] n sh h := by
  intro k
  induction k with
  | zero => intros; exfalso; omega
  | succ k ih =>
    intro i f hk h0 h1 hr
    refine zt_iload_n dX11_shared_14 rfl ?_
    refine zt_aload_n dX11_shared_15 rfl ?_
    refine zt_getv dX11_shared_16 fl_X11_32 (zs_38 hS) (rf_38_18 hR) ?_
    refine zt_iload_n dX11_shared_19 rfl ?_
    refine zt_iaload dX11_shared_20 (zs_46 hS) (by decide) (by omega) (by omega) ?_
    refine zt_icmp_ge (tgt := 73) dX11_shared_21 (by decide) (by omega) (hm.int (zs_46 hS) (by omega) (by omega)) (fun c_21 => ?_) (fun c_21 => ?_)
    · refine zt_iload_n dX11_shared_73 rfl ?_
      exact zt_iret dX11_shared_74 ⟨by rw [hr, zS_e (by omega)]; congr 2; omega, rfl, rfl, rfl⟩
    · refine zt_iload_n dX11_shared_24 rfl ?_
      refine zt_aload_n dX11_shared_25 rfl ?_
      refine zt_iload_n dX11_shared_26 rfl ?_
      refine zt_iload_n dX11_shared_27 rfl ?_
      refine zt_callS2r dX11_shared_28 ml_X11_316 (Nat.le_of_ble_eq_true rfl) (c_place) ?_
      refine zt_callV1r dX11_shared_31 ml_X11_441 (zs_38 hS) (Nat.le_of_ble_eq_true rfl) (c_jF hS hR hB (by omega)) ?_
      refine zt_ifb_eq (tgt := 64) dX11_shared_34 (by decide) (fun c_34 => ?_) (fun c_34 => ?_)
      · refine zt_iconst dX11_shared_64 ?_
        refine zt_iadd dX11_shared_65 ?_
        refine zt_istore_n_2 dX11_shared_66 (by decide) rfl ?_
        refine zt_iinc_3 dX11_shared_67 (by decide) rfl ?_
        refine zt_goto (tgt := 14) dX11_shared_70 (by decide) ?_
        exact ih (i + 1) _ (by omega) (by omega) (by omega) (by rw [hr, zS_s (by omega)]; first | (rw [zb_t (by omega)]; omega) | (rw [zb_f (by omega)]; omega))
      · refine zt_aload_n dX11_shared_37 rfl ?_
        refine zt_getv dX11_shared_38 fl_X11_97 (zs_38 hS) (rf_38_42 hR) ?_
        refine zt_iload_n dX11_shared_41 rfl ?_
        refine zt_iload_n dX11_shared_42 rfl ?_
        refine zt_callS2r dX11_shared_43 ml_X11_316 (Nat.le_of_ble_eq_true rfl) (c_place) ?_
        refine zt_iaload dX11_shared_46 (zs_66 hS) (by decide) (by omega) (by omega) ?_
        refine zt_aload_n dX11_shared_47 rfl ?_
        refine zt_getv dX11_shared_48 fl_X11_53 (zs_38 hS) (rf_38_27 hR) ?_
        refine zt_iload_n dX11_shared_51 rfl ?_
        refine zt_iload_n dX11_shared_52 rfl ?_
        refine zt_callS2r dX11_shared_53 ml_X11_316 (Nat.le_of_ble_eq_true rfl) (c_place) ?_
        refine zt_iaload dX11_shared_56 (zs_53 hS) (by decide) (by omega) (by omega) ?_
        refine zt_icmp_ne (tgt := 64) dX11_shared_57 (by decide) (hm.int (zs_66 hS) (by omega) (by omega)) (hm.int (zs_53 hS) (by omega) (by omega)) (fun c_57 => ?_) (fun c_57 => ?_)
        · refine zt_iconst dX11_shared_64 ?_
          refine zt_iadd dX11_shared_65 ?_
          refine zt_istore_n_2 dX11_shared_66 (by decide) rfl ?_
          refine zt_iinc_3 dX11_shared_67 (by decide) rfl ?_
          refine zt_goto (tgt := 14) dX11_shared_70 (by decide) ?_
          exact ih (i + 1) _ (by omega) (by omega) (by omega) (by rw [hr, zS_s (by omega)]; first | (rw [zb_t (by omega)]; omega) | (rw [zb_f (by omega)]; omega))
        · refine zt_iconst dX11_shared_60 ?_
          refine zt_goto (tgt := 65) dX11_shared_61 (by decide) ?_
          refine zt_iadd dX11_shared_65 ?_
          refine zt_istore_n_2 dX11_shared_66 (by decide) rfl ?_
          refine zt_iinc_3 dX11_shared_67 (by decide) rfl ?_
          refine zt_goto (tgt := 14) dX11_shared_70 (by decide) ?_
          exact ih (i + 1) _ (by omega) (by omega) (by omega) (by rw [hr, zS_s (by omega)]; first | (rw [zb_t (by omega)]; omega) | (rw [zb_f (by omega)]; omega))

noncomputable def jSh (h : zMem) (t : Int) : Int := if jS h t then zS (fun j => zb (jF h (30 * t + j) ∧ h 66 (30 * t + j) = h 53 (30 * t + j))) 0 (h 46 t) else -1

set_option maxRecDepth 100000 in
set_option maxHeartbeats 4000000 in
theorem c_jsh {d n : Nat} {sh : zSh} {h : zMem} {t : Int} (hS : zShp sh) (hR : zRf h) (hB : mB h) (ht : zi32 t) : zF yX11_shared cX11_shared 4 (some .int) (d + 3) 0 0 [(2, 38), (0, t)] n sh h (some (0, jSh h t)) n sh h := by
  refine zF.ofT (by decide +kernel) [some (2, 38), some (0, t), none, none] rfl (Nat.le_of_ble_eq_true rfl) ?_
  refine zt_rg (fun hm => ?_)
  have b1 := hB.1
  have b3 := hB.2.2.1
  have b4 := hB.2.2.2.1
  have b5 := hB.2.2.2.2.1
  have b6 := hB.2.2.2.2.2.1
  have b7 := hB.2.2.2.2.2.2.1
  have b8 := hB.2.2.2.2.2.2.2.1
  have b9 := hB.2.2.2.2.2.2.2.2.1
  have b10 := hB.2.2.2.2.2.2.2.2.2.1
  have b11 := hB.2.2.2.2.2.2.2.2.2.2
  refine zt_aload_n dX11_shared_0 rfl ?_
  refine zt_iload_n dX11_shared_1 rfl ?_
  refine zt_callV1r dX11_shared_2 ml_X11_420 (zs_38 hS) (Nat.le_of_ble_eq_true rfl) (c_jS hS hR hB (by omega)) ?_
  refine zt_ifb_ne (tgt := 10) dX11_shared_5 (by decide) (fun c_5 => ?_) (fun c_5 => ?_)
  · refine zt_iconst dX11_shared_10 ?_
    refine zt_istore_n_2 dX11_shared_11 (by decide) rfl ?_
    refine zt_iconst dX11_shared_12 ?_
    refine zt_istore_n_3 dX11_shared_13 (by decide) rfl ?_
    have hb := hB.2.1 t c_5.1.1 c_5.1.2
    rw [show jSh h t = zS (fun j => zb (jF h (30 * t + j) ∧ h 66 (30 * t + j) = h 53 (30 * t + j))) 0 (h 46 t) from if_pos c_5]
    exact l_jsh hS hR hB hm c_5.1 b1 hb 31 0 0 (by omega) (by omega) (by omega) (by omega)
  · refine zt_iconst dX11_shared_8 ?_
    exact zt_iret dX11_shared_9 ⟨by congr 2; exact (if_neg c_5).symm, rfl, rfl, rfl⟩

def jAll (h : zMem) (t : Int) : Prop := ∀ j, 0 ≤ j → j < h 46 t → h 47 (30 * t + j) = -2147483648 ∨ h 57 (30 * t + j) ≠ -1

set_option maxRecDepth 100000 in
set_option maxHeartbeats 4000000 in
theorem l_jset {d n : Nat} {sh : zSh} {h : zMem} {t : Int} (hS : zShp sh) (hR : zRf h) (hB : mB h) (hm : zMok sh h) (ht : 0 ≤ t ∧ t < h 38 17) (b1 : 0 ≤ h 38 17 ∧ h 38 17 ≤ 5) (hb : 4 ≤ h 46 t ∧ h 46 t ≤ 30) (hz : h 58 t = 0)  : ∀ (k : Nat) (i : Int) (f : Int), h 46 t - i < (k : Int) → 0 ≤ i → i ≤ h 46 t → zS (fun j => zb (h 47 (30 * t + j) ≠ -2147483648)) 0 (h 46 t) = f + zS (fun j => zb (h 47 (30 * t + j) ≠ -2147483648)) i (h 46 t) → (∀ j, 0 ≤ j → j < i → h 47 (30 * t + j) = -2147483648 ∨ h 57 (30 * t + j) ≠ -1) → zT yX11_set cX11_set 4 (some .int) (d + 2) 0 0 (fun r n1 sh1 h1 => n1 = n ∧ sh1 = sh ∧ (((jT h t ∧ h 58 t = 0 ∧ jAll h t) ∧ r = some (0, zS (fun j => zb (h 47 (30 * t + j) ≠ -2147483648)) 0 (h 46 t)) ∧ h1 = zup h 58 t 1) ∨ (¬ (jT h t ∧ h 58 t = 0 ∧ jAll h t) ∧ r = some (0, -1) ∧ h1 = h))) 23 [some (2, 38), some (0, t), some (0, f), some (0, i)] [] n sh h := by
  intro k
  induction k with
  | zero => intros; exfalso; omega
  | succ k ih =>
    intro i f hk h0 h1 hr ha
    refine zt_iload_n dX11_set_23 rfl ?_
    refine zt_aload_n dX11_set_24 rfl ?_
    refine zt_getv dX11_set_25 fl_X11_32 (zs_38 hS) (rf_38_18 hR) ?_
    refine zt_iload_n dX11_set_28 rfl ?_
    refine zt_iaload dX11_set_29 (zs_46 hS) (by decide) (by omega) (by omega) ?_
    refine zt_icmp_ge (tgt := 75) dX11_set_30 (by decide) (by omega) (hm.int (zs_46 hS) (by omega) (by omega)) (fun c_30 => ?_) (fun c_30 => ?_)
    · refine zt_aload_n dX11_set_75 rfl ?_
      refine zt_getv dX11_set_76 fl_X11_68 (zs_38 hS) (rf_38_32 hR) ?_
      refine zt_iload_n dX11_set_79 rfl ?_
      refine zt_iconst dX11_set_80 ?_
      refine zt_zastore dX11_set_81 (zs_58 hS) (by decide) (by omega) (by omega) (by decide) ?_
      refine zt_iload_n dX11_set_82 rfl ?_
      exact zt_iret dX11_set_83 ⟨rfl, rfl, Or.inl ⟨⟨ht, hz, fun j q1 q2 => ha j q1 (by omega)⟩, by rw [hr, zS_e (by omega)]; congr 2; omega, rfl⟩⟩
    · refine zt_aload_n dX11_set_33 rfl ?_
      refine zt_getv dX11_set_34 fl_X11_35 (zs_38 hS) (rf_38_19 hR) ?_
      refine zt_iload_n dX11_set_37 rfl ?_
      refine zt_iload_n dX11_set_38 rfl ?_
      refine zt_callS2r dX11_set_39 ml_X11_316 (Nat.le_of_ble_eq_true rfl) (c_place) ?_
      refine zt_iaload dX11_set_42 (zs_47 hS) (by decide) (by omega) (by omega) ?_
      refine zt_ldc_w dX11_set_43 kc_X11_283 ?_
      refine zt_icmp_ne (tgt := 52) dX11_set_46 (by decide) (hm.int (zs_47 hS) (by omega) (by omega)) (by decide) (fun c_46 => ?_) (fun c_46 => ?_)
      · refine zt_aload_n dX11_set_52 rfl ?_
        refine zt_iload_n dX11_set_53 rfl ?_
        refine zt_iload_n dX11_set_54 rfl ?_
        refine zt_callS2r dX11_set_55 ml_X11_316 (Nat.le_of_ble_eq_true rfl) (c_place) ?_
        refine zt_callV1r dX11_set_58 ml_X11_332 (zs_38 hS) (Nat.le_of_ble_eq_true rfl) (c_jA hS hR hB (by omega)) ?_
        refine zt_ifb_ne (tgt := 66) dX11_set_61 (by decide) (fun c_61 => ?_) (fun c_61 => ?_)
        · refine zt_iinc_2 dX11_set_66 (by decide) rfl ?_
          refine zt_iinc_3 dX11_set_69 (by decide) rfl ?_
          refine zt_goto (tgt := 23) dX11_set_72 (by decide) ?_
          exact ih (i + 1) (f + 1) (by omega) (by omega) (by omega) (by rw [hr, zS_s (by omega)]; first | (rw [zb_t (by omega)]; omega) | (rw [zb_f (by omega)]; omega)) (fun j q1 q2 => by by_cases z : j = i; (subst z; omega); exact ha j q1 (by omega))
        · refine zt_iconst dX11_set_64 ?_
          exact zt_iret dX11_set_65 ⟨rfl, rfl, Or.inr ⟨fun q => by have := q.2.2 i h0 (by omega); omega, rfl, rfl⟩⟩
      · refine zt_goto (tgt := 69) dX11_set_49 (by decide) ?_
        refine zt_iinc_3 dX11_set_69 (by decide) rfl ?_
        refine zt_goto (tgt := 23) dX11_set_72 (by decide) ?_
        exact ih (i + 1) f (by omega) (by omega) (by omega) (by rw [hr, zS_s (by omega)]; first | (rw [zb_t (by omega)]; omega) | (rw [zb_f (by omega)]; omega)) (fun j q1 q2 => by by_cases z : j = i; (subst z; omega); exact ha j q1 (by omega))

set_option maxRecDepth 100000 in
set_option maxHeartbeats 4000000 in
theorem c_jset {d n : Nat} {sh : zSh} {h : zMem} {t : Int} (hS : zShp sh) (hR : zRf h) (hB : mB h) (ht : zi32 t) : zM yX11_set cX11_set 4 (some .int) (d + 2) 0 0 [(2, 38), (0, t)] n sh h (fun r n1 sh1 h1 => n1 = n ∧ sh1 = sh ∧ (((jT h t ∧ h 58 t = 0 ∧ jAll h t) ∧ r = some (0, zS (fun j => zb (h 47 (30 * t + j) ≠ -2147483648)) 0 (h 46 t)) ∧ h1 = zup h 58 t 1) ∨ (¬ (jT h t ∧ h 58 t = 0 ∧ jAll h t) ∧ r = some (0, -1) ∧ h1 = h))) := by
  refine zM.ofT2 (by decide +kernel) [some (2, 38), some (0, t), none, none] rfl (Nat.le_of_ble_eq_true rfl) ?_
  refine zt_rg (fun hm => ?_)
  have b1 := hB.1
  have b3 := hB.2.2.1
  have b4 := hB.2.2.2.1
  have b5 := hB.2.2.2.2.1
  have b6 := hB.2.2.2.2.2.1
  have b7 := hB.2.2.2.2.2.2.1
  have b8 := hB.2.2.2.2.2.2.2.1
  have b9 := hB.2.2.2.2.2.2.2.2.1
  have b10 := hB.2.2.2.2.2.2.2.2.2.1
  have b11 := hB.2.2.2.2.2.2.2.2.2.2
  refine zt_aload_n dX11_set_0 rfl ?_
  refine zt_iload_n dX11_set_1 rfl ?_
  refine zt_callV1r dX11_set_2 ml_X11_310 (zs_38 hS) (Nat.le_of_ble_eq_true rfl) (c_jT hS hR hB (by omega)) ?_
  refine zt_ifb_eq (tgt := 17) dX11_set_5 (by decide) (fun c_5 => ?_) (fun c_5 => ?_)
  · refine zt_iconst dX11_set_17 ?_
    exact zt_iret dX11_set_18 ⟨rfl, rfl, Or.inr ⟨fun q => by first | exact c_5 q.1 | (have := q.2.1; omega), rfl, rfl⟩⟩
  · refine zt_aload_n dX11_set_8 rfl ?_
    refine zt_getv dX11_set_9 fl_X11_68 (zs_38 hS) (rf_38_32 hR) ?_
    refine zt_iload_n dX11_set_12 rfl ?_
    refine zt_zaload dX11_set_13 (zs_58 hS) (by decide) (by omega) (by omega) ?_
    refine zt_if_eq (tgt := 19) dX11_set_14 (by decide) (zbool (hm.bool (zs_58 hS) (by omega) (by omega))) (fun c_14 => ?_) (fun c_14 => ?_)
    · refine zt_iconst dX11_set_19 ?_
      refine zt_istore_n_2 dX11_set_20 (by decide) rfl ?_
      refine zt_iconst dX11_set_21 ?_
      refine zt_istore_n_3 dX11_set_22 (by decide) rfl ?_
      have hb := hB.2.1 t c_5.1 c_5.2
      exact l_jset hS hR hB hm c_5 b1 hb (by omega) 31 0 0 (by omega) (by omega) (by omega) (by omega) (fun j q1 q2 => by omega)
    · refine zt_iconst dX11_set_17 ?_
      exact zt_iret dX11_set_18 ⟨rfl, rfl, Or.inr ⟨fun q => by first | exact c_5 q.1 | (have := q.2.1; omega), rfl, rfl⟩⟩

def jAp (h : zMem) (e g k s : Int) : Int := if (h 62 k = e ∧ h 65 k ≤ g) ∧ h 63 k = s then h 64 k else s

set_option maxRecDepth 100000 in
set_option maxHeartbeats 4000000 in
theorem l_jst {d n : Nat} {sh : zSh} {h : zMem} {e g : Int} {R : Int} (hS : zShp sh) (hR : zRf h) (hB : mB h) (hm : zMok sh h) (he : 0 ≤ e ∧ e < 150) (hg : zi32 g) (b6 : 0 ≤ h 38 37 ∧ h 38 37 ≤ 40)  : ∀ (k : Nat) (i : Int) (s : Int), h 38 37 - i < (k : Int) → 0 ≤ i → i ≤ h 38 37 → zi32 s → R = zFor (jAp h e g) i (h 38 37) s → zT yX11_stands cX11_stands 6 (some .int) (d + 0) 0 0 (zq (some (0, R)) n sh h) 11 [some (2, 38), some (0, e), some (0, g), some (0, -1), some (0, s), some (0, i)] [] n sh h := by
  intro k
  induction k with
  | zero => intros; exfalso; omega
  | succ k ih =>
    intro i s hk h0 h1 hs hr
    refine zt_iload dX11_stands_11 rfl ?_
    refine zt_aload_n dX11_stands_13 rfl ?_
    refine zt_get dX11_stands_14 fl_X11_430 (zs_38 hS) ?_
    refine zt_icmp_ge (tgt := 99) dX11_stands_17 (by decide) (by omega) (hm.fld (j := 37) (zs_38 hS) (by decide) (by decide) (by decide)) (fun c_17 => ?_) (fun c_17 => ?_)
    · refine zt_iload dX11_stands_99 rfl ?_
      exact zt_iret dX11_stands_101 ⟨by rw [hr, zFor_e (by omega)], rfl, rfl, rfl⟩
    · refine zt_aload_n dX11_stands_20 rfl ?_
      refine zt_getv dX11_stands_21 fl_X11_85 (zs_38 hS) (rf_38_38 hR) ?_
      refine zt_iload dX11_stands_24 rfl ?_
      refine zt_iaload dX11_stands_26 (zs_62 hS) (by decide) (by omega) (by omega) ?_
      refine zt_iload_n dX11_stands_27 rfl ?_
      refine zt_icmp_ne (tgt := 93) dX11_stands_28 (by decide) (hm.int (zs_62 hS) (by omega) (by omega)) (by omega) (fun c_28 => ?_) (fun c_28 => ?_)
      · refine zt_iinc_5 dX11_stands_93 (by decide) rfl ?_
        refine zt_goto (tgt := 11) dX11_stands_96 (by decide) ?_
        exact ih (i + 1) s (by omega) (by omega) (by omega) hs (by rw [hr, zFor_s (by omega)]; congr 1; unfold jAp; first | (rw [if_pos (by omega)]; done) | (rw [if_neg (by omega)]; done))
      · refine zt_aload_n dX11_stands_31 rfl ?_
        refine zt_getv dX11_stands_32 fl_X11_94 (zs_38 hS) (rf_38_41 hR) ?_
        refine zt_iload dX11_stands_35 rfl ?_
        refine zt_iaload dX11_stands_37 (zs_65 hS) (by decide) (by omega) (by omega) ?_
        refine zt_iload_n dX11_stands_38 rfl ?_
        refine zt_icmp_le (tgt := 45) dX11_stands_39 (by decide) (hm.int (zs_65 hS) (by omega) (by omega)) (by omega) (fun c_39 => ?_) (fun c_39 => ?_)
        · refine zt_iload dX11_stands_45 rfl ?_
          refine zt_iload_n dX11_stands_47 rfl ?_
          refine zt_icmp_ne (tgt := 72) dX11_stands_48 (by decide) (by omega) (by decide) (fun c_48 => ?_) (fun c_48 => ?_)
          · refine zt_aload_n dX11_stands_72 rfl ?_
            refine zt_getv dX11_stands_73 fl_X11_88 (zs_38 hS) (rf_38_39 hR) ?_
            refine zt_iload dX11_stands_76 rfl ?_
            refine zt_iaload dX11_stands_78 (zs_63 hS) (by decide) (by omega) (by omega) ?_
            refine zt_iload dX11_stands_79 rfl ?_
            refine zt_icmp_ne (tgt := 93) dX11_stands_81 (by decide) (hm.int (zs_63 hS) (by omega) (by omega)) (by omega) (fun c_81 => ?_) (fun c_81 => ?_)
            · refine zt_iinc_5 dX11_stands_93 (by decide) rfl ?_
              refine zt_goto (tgt := 11) dX11_stands_96 (by decide) ?_
              exact ih (i + 1) s (by omega) (by omega) (by omega) hs (by rw [hr, zFor_s (by omega)]; congr 1; unfold jAp; first | (rw [if_pos (by omega)]; done) | (rw [if_neg (by omega)]; done))
            · refine zt_aload_n dX11_stands_84 rfl ?_
              refine zt_getv dX11_stands_85 fl_X11_91 (zs_38 hS) (rf_38_40 hR) ?_
              refine zt_iload dX11_stands_88 rfl ?_
              refine zt_iaload dX11_stands_90 (zs_64 hS) (by decide) (by omega) (by omega) ?_
              refine zt_istore_4 dX11_stands_91 (by decide) rfl ?_
              refine zt_iinc_5 dX11_stands_93 (by decide) rfl ?_
              refine zt_goto (tgt := 11) dX11_stands_96 (by decide) ?_
              exact ih (i + 1) (h 64 i) (by omega) (by omega) (by omega) (hm.int (zs_64 hS) (by omega) (by omega)) (by rw [hr, zFor_s (by omega)]; congr 1; unfold jAp; first | (rw [if_pos (by omega)]; done) | (rw [if_neg (by omega)]; done))
          · exfalso
            omega
        · refine zt_goto (tgt := 93) dX11_stands_42 (by decide) ?_
          refine zt_iinc_5 dX11_stands_93 (by decide) rfl ?_
          refine zt_goto (tgt := 11) dX11_stands_96 (by decide) ?_
          exact ih (i + 1) s (by omega) (by omega) (by omega) hs (by rw [hr, zFor_s (by omega)]; congr 1; unfold jAp; first | (rw [if_pos (by omega)]; done) | (rw [if_neg (by omega)]; done))

set_option maxRecDepth 100000 in
set_option maxHeartbeats 4000000 in
theorem c_jst {d n : Nat} {sh : zSh} {h : zMem} {e g : Int} (hS : zShp sh) (hR : zRf h) (hB : mB h) (he : 0 ≤ e ∧ e < 150) (hg : zi32 g) : zF yX11_stands cX11_stands 6 (some .int) (d + 0) 0 0 [(2, 38), (0, e), (0, g), (0, -1)] n sh h (some (0, zFor (jAp h e g) 0 (h 38 37) (h 53 e))) n sh h := by
  refine zF.ofT (by decide +kernel) [some (2, 38), some (0, e), some (0, g), some (0, -1), none, none] rfl (Nat.le_of_ble_eq_true rfl) ?_
  refine zt_rg (fun hm => ?_)
  refine zt_aload_n dX11_stands_0 rfl ?_
  refine zt_getv dX11_stands_1 fl_X11_53 (zs_38 hS) (rf_38_27 hR) ?_
  refine zt_iload_n dX11_stands_4 rfl ?_
  refine zt_iaload dX11_stands_5 (zs_53 hS) (by decide) (by omega) (by omega) ?_
  refine zt_istore_4 dX11_stands_6 (by decide) rfl ?_
  refine zt_iconst dX11_stands_8 ?_
  refine zt_istore_5 dX11_stands_9 (by decide) rfl ?_
  exact l_jst hS hR hB hm he hg hB.2.2.2.2.2.1 41 0 _ (by have := hB.2.2.2.2.2.1; omega) (by omega) hB.2.2.2.2.2.1.1 (hm.int (zs_53 hS) he.1 he.2) rfl
