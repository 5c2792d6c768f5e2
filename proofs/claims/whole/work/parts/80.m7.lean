theorem zFor_sn {β : Type} {f : Int → β → β} {N : Int} : ∀ (k : Nat) (i : Int) (s : β), N - i = k → zFor f i (N + 1) s = f N (zFor f i N s)
  | 0, i, s, h => by rw [zFor_s (by omega), zFor_e (i := i + 1) (by omega), zFor_e (by omega), show i = N by omega]
  | k + 1, i, s, h => by rw [zFor_s (by omega), zFor_s (i := i) (N := N) (by omega)]; exact zFor_sn k (i + 1) (f i s) (by omega)

set_option maxRecDepth 100000 in
set_option maxHeartbeats 4000000 in
theorem l_jsx {d n : Nat} {sh : zSh} {h : zMem} {e g x : Int} {R : Int} (hS : zShp sh) (hR : zRf h) (hB : mB h) (hm : zMok sh h) (he : 0 ≤ e ∧ e < 150) (hg : zi32 g) (b6 : 0 ≤ h 38 37 ∧ h 38 37 ≤ 40) (hx : (0 ≤ x ∧ x < h 38 37) ∧ h 62 x = e ∧ h 65 x ≤ g)  : ∀ (k : Nat) (i : Int) (s : Int) (m : Int), h 38 37 - i < (k : Int) → 0 ≤ i → i ≤ h 38 37 → zi32 s → s = zFor (jAp h e g) 0 i (h 53 e) → R = zFor (jAp h e g) i (h 38 37) s → (x < i → m = (if h 63 x = zFor (jAp h e g) 0 x (h 53 e) then 0 else 1)) → zT yX11_stands cX11_stands 6 (some .int) (d + 0) 0 0 (zq (some (0, R)) n sh (zup h 38 63 (if h 63 x = zFor (jAp h e g) 0 x (h 53 e) then 0 else 1))) 11 [some (2, 38), some (0, e), some (0, g), some (0, x), some (0, s), some (0, i)] [] n sh (zup h 38 63 m) := by
  intro k
  induction k with
  | zero => intros; exfalso; omega
  | succ k ih =>
    intro i s m hk h0 h1 hs hp hr hm1
    refine zt_iload dX11_stands_11 rfl ?_
    refine zt_aload_n dX11_stands_13 rfl ?_
    refine zt_getv (v := h 38 37) dX11_stands_14 fl_X11_430 (zs_38 hS) ((zupJ (by decide)).trans rfl) ?_
    refine zt_icmp_ge (tgt := 99) dX11_stands_17 (by decide) (by omega) (hm.fld (j := 37) (zs_38 hS) (by decide) (by decide) (by decide)) (fun c_17 => ?_) (fun c_17 => ?_)
    · refine zt_iload dX11_stands_99 rfl ?_
      exact zt_iret dX11_stands_101 ⟨by rw [hr, zFor_e (by omega)], rfl, rfl, by rw [hm1 (by omega)]⟩
    · refine zt_aload_n dX11_stands_20 rfl ?_
      refine zt_getv dX11_stands_21 fl_X11_85 (zs_38 hS) (rf_38_38 (hR.up (by decide))) ?_
      refine zt_iload dX11_stands_24 rfl ?_
      refine zt_ialoadv (v := h 62 i) dX11_stands_26 (zs_62 hS) (by decide) (by omega) (by omega) ((zupA (by decide)).trans rfl) ?_
      refine zt_iload_n dX11_stands_27 rfl ?_
      refine zt_icmp_ne (tgt := 93) dX11_stands_28 (by decide) (hm.int (zs_62 hS) (by omega) (by omega)) (by omega) (fun c_28 => ?_) (fun c_28 => ?_)
      · refine zt_iinc_5 dX11_stands_93 (by decide) rfl ?_
        refine zt_goto (tgt := 11) dX11_stands_96 (by decide) ?_
        have hj : jAp h e g i s = s := by unfold jAp; first | (rw [if_pos (by omega)]; done) | (rw [if_neg (by omega)]; done)
        exact ih (i + 1) s m (by omega) (by omega) (by omega) hs (by rw [zFor_sn i.toNat 0 _ (by omega), ← hp, hj]) (by rw [hr, zFor_s (by omega), hj]) (fun q => by by_cases z : x = i; (exfalso; subst z; omega); exact hm1 (by omega))
      · refine zt_aload_n dX11_stands_31 rfl ?_
        refine zt_getv dX11_stands_32 fl_X11_94 (zs_38 hS) (rf_38_41 (hR.up (by decide))) ?_
        refine zt_iload dX11_stands_35 rfl ?_
        refine zt_ialoadv (v := h 65 i) dX11_stands_37 (zs_65 hS) (by decide) (by omega) (by omega) ((zupA (by decide)).trans rfl) ?_
        refine zt_iload_n dX11_stands_38 rfl ?_
        refine zt_icmp_le (tgt := 45) dX11_stands_39 (by decide) (hm.int (zs_65 hS) (by omega) (by omega)) (by omega) (fun c_39 => ?_) (fun c_39 => ?_)
        · refine zt_iload dX11_stands_45 rfl ?_
          refine zt_iload_n dX11_stands_47 rfl ?_
          refine zt_icmp_ne (tgt := 72) dX11_stands_48 (by decide) (by omega) (by omega) (fun c_48 => ?_) (fun c_48 => ?_)
          · refine zt_aload_n dX11_stands_72 rfl ?_
            refine zt_getv dX11_stands_73 fl_X11_88 (zs_38 hS) (rf_38_39 (hR.up (by decide))) ?_
            refine zt_iload dX11_stands_76 rfl ?_
            refine zt_ialoadv (v := h 63 i) dX11_stands_78 (zs_63 hS) (by decide) (by omega) (by omega) ((zupA (by decide)).trans rfl) ?_
            refine zt_iload dX11_stands_79 rfl ?_
            refine zt_icmp_ne (tgt := 93) dX11_stands_81 (by decide) (hm.int (zs_63 hS) (by omega) (by omega)) (by omega) (fun c_81 => ?_) (fun c_81 => ?_)
            · refine zt_iinc_5 dX11_stands_93 (by decide) rfl ?_
              refine zt_goto (tgt := 11) dX11_stands_96 (by decide) ?_
              have hj : jAp h e g i s = s := by unfold jAp; first | (rw [if_pos (by omega)]; done) | (rw [if_neg (by omega)]; done)
              exact ih (i + 1) s m (by omega) (by omega) (by omega) hs (by rw [zFor_sn i.toNat 0 _ (by omega), ← hp, hj]) (by rw [hr, zFor_s (by omega), hj]) (fun q => by by_cases z : x = i; (exfalso; subst z; omega); exact hm1 (by omega))
            · refine zt_aload_n dX11_stands_84 rfl ?_
              refine zt_getv dX11_stands_85 fl_X11_91 (zs_38 hS) (rf_38_40 (hR.up (by decide))) ?_
              refine zt_iload dX11_stands_88 rfl ?_
              refine zt_ialoadv (v := h 64 i) dX11_stands_90 (zs_64 hS) (by decide) (by omega) (by omega) ((zupA (by decide)).trans rfl) ?_
              refine zt_istore_4 dX11_stands_91 (by decide) rfl ?_
              refine zt_iinc_5 dX11_stands_93 (by decide) rfl ?_
              refine zt_goto (tgt := 11) dX11_stands_96 (by decide) ?_
              have hj : jAp h e g i s = h 64 i := by unfold jAp; first | (rw [if_pos (by omega)]; done) | (rw [if_neg (by omega)]; done)
              exact ih (i + 1) (h 64 i) m (by omega) (by omega) (by omega) (hm.int (zs_64 hS) (by omega) (by omega)) (by rw [zFor_sn i.toNat 0 _ (by omega), ← hp, hj]) (by rw [hr, zFor_s (by omega), hj]) (fun q => by by_cases z : x = i; (exfalso; subst z; omega); exact hm1 (by omega))
          · refine zt_aload_n dX11_stands_51 rfl ?_
            refine zt_aload_n dX11_stands_52 rfl ?_
            refine zt_getv dX11_stands_53 fl_X11_88 (zs_38 hS) (rf_38_39 (hR.up (by decide))) ?_
            refine zt_iload dX11_stands_56 rfl ?_
            refine zt_ialoadv (v := h 63 i) dX11_stands_58 (zs_63 hS) (by decide) (by omega) (by omega) ((zupA (by decide)).trans rfl) ?_
            refine zt_iload dX11_stands_59 rfl ?_
            refine zt_icmp_ne (tgt := 68) dX11_stands_61 (by decide) (hm.int (zs_63 hS) (by omega) (by omega)) (by omega) (fun c_61 => ?_) (fun c_61 => ?_)
            · refine zt_iconst dX11_stands_68 ?_
              refine zt_puti dX11_stands_69 fl_X11_433 rfl (zs_38 hS) (by decide) ?_
              refine zt_aload_n dX11_stands_72 rfl ?_
              refine zt_getv dX11_stands_73 fl_X11_88 (zs_38 hS) (rf_38_39 ((hR.up (by decide)).up (by decide))) ?_
              refine zt_iload dX11_stands_76 rfl ?_
              refine zt_ialoadv (v := h 63 i) dX11_stands_78 (zs_63 hS) (by decide) (by omega) (by omega) ((zupA (by decide)).trans ((zupA (by decide)).trans rfl)) ?_
              refine zt_iload dX11_stands_79 rfl ?_
              refine zt_icmp_ne (tgt := 93) dX11_stands_81 (by decide) (hm.int (zs_63 hS) (by omega) (by omega)) (by omega) (fun c_81 => ?_) (fun c_81 => ?_)
              · refine zt_iinc_5 dX11_stands_93 (by decide) rfl ?_
                refine zt_goto (tgt := 11) dX11_stands_96 (by decide) ?_
                have hj : jAp h e g i s = s := by unfold jAp; first | (rw [if_pos (by omega)]; done) | (rw [if_neg (by omega)]; done)
                rw [zup2]
                exact ih (i + 1) s 1 (by omega) (by omega) (by omega) hs (by rw [zFor_sn i.toNat 0 _ (by omega), ← hp, hj]) (by rw [hr, zFor_s (by omega), hj]) (fun _ => by rw [← show i = x from c_48, ← hp]; first | (rw [if_pos (by omega)]; done) | (rw [if_neg (by omega)]; done))
              · refine zt_aload_n dX11_stands_84 rfl ?_
                refine zt_getv dX11_stands_85 fl_X11_91 (zs_38 hS) (rf_38_40 ((hR.up (by decide)).up (by decide))) ?_
                refine zt_iload dX11_stands_88 rfl ?_
                refine zt_ialoadv (v := h 64 i) dX11_stands_90 (zs_64 hS) (by decide) (by omega) (by omega) ((zupA (by decide)).trans ((zupA (by decide)).trans rfl)) ?_
                refine zt_istore_4 dX11_stands_91 (by decide) rfl ?_
                refine zt_iinc_5 dX11_stands_93 (by decide) rfl ?_
                refine zt_goto (tgt := 11) dX11_stands_96 (by decide) ?_
                have hj : jAp h e g i s = h 64 i := by unfold jAp; first | (rw [if_pos (by omega)]; done) | (rw [if_neg (by omega)]; done)
                rw [zup2]
                exact ih (i + 1) (h 64 i) 1 (by omega) (by omega) (by omega) (hm.int (zs_64 hS) (by omega) (by omega)) (by rw [zFor_sn i.toNat 0 _ (by omega), ← hp, hj]) (by rw [hr, zFor_s (by omega), hj]) (fun _ => by rw [← show i = x from c_48, ← hp]; first | (rw [if_pos (by omega)]; done) | (rw [if_neg (by omega)]; done))
            · refine zt_iconst dX11_stands_64 ?_
              refine zt_goto (tgt := 69) dX11_stands_65 (by decide) ?_
              refine zt_puti dX11_stands_69 fl_X11_433 rfl (zs_38 hS) (by decide) ?_
              refine zt_aload_n dX11_stands_72 rfl ?_
              refine zt_getv dX11_stands_73 fl_X11_88 (zs_38 hS) (rf_38_39 ((hR.up (by decide)).up (by decide))) ?_
              refine zt_iload dX11_stands_76 rfl ?_
              refine zt_ialoadv (v := h 63 i) dX11_stands_78 (zs_63 hS) (by decide) (by omega) (by omega) ((zupA (by decide)).trans ((zupA (by decide)).trans rfl)) ?_
              refine zt_iload dX11_stands_79 rfl ?_
              refine zt_icmp_ne (tgt := 93) dX11_stands_81 (by decide) (hm.int (zs_63 hS) (by omega) (by omega)) (by omega) (fun c_81 => ?_) (fun c_81 => ?_)
              · refine zt_iinc_5 dX11_stands_93 (by decide) rfl ?_
                refine zt_goto (tgt := 11) dX11_stands_96 (by decide) ?_
                have hj : jAp h e g i s = s := by unfold jAp; first | (rw [if_pos (by omega)]; done) | (rw [if_neg (by omega)]; done)
                rw [zup2]
                exact ih (i + 1) s 0 (by omega) (by omega) (by omega) hs (by rw [zFor_sn i.toNat 0 _ (by omega), ← hp, hj]) (by rw [hr, zFor_s (by omega), hj]) (fun _ => by rw [← show i = x from c_48, ← hp]; first | (rw [if_pos (by omega)]; done) | (rw [if_neg (by omega)]; done))
              · refine zt_aload_n dX11_stands_84 rfl ?_
                refine zt_getv dX11_stands_85 fl_X11_91 (zs_38 hS) (rf_38_40 ((hR.up (by decide)).up (by decide))) ?_
                refine zt_iload dX11_stands_88 rfl ?_
                refine zt_ialoadv (v := h 64 i) dX11_stands_90 (zs_64 hS) (by decide) (by omega) (by omega) ((zupA (by decide)).trans ((zupA (by decide)).trans rfl)) ?_
                refine zt_istore_4 dX11_stands_91 (by decide) rfl ?_
                refine zt_iinc_5 dX11_stands_93 (by decide) rfl ?_
                refine zt_goto (tgt := 11) dX11_stands_96 (by decide) ?_
                have hj : jAp h e g i s = h 64 i := by unfold jAp; first | (rw [if_pos (by omega)]; done) | (rw [if_neg (by omega)]; done)
                rw [zup2]
                exact ih (i + 1) (h 64 i) 0 (by omega) (by omega) (by omega) (hm.int (zs_64 hS) (by omega) (by omega)) (by rw [zFor_sn i.toNat 0 _ (by omega), ← hp, hj]) (by rw [hr, zFor_s (by omega), hj]) (fun _ => by rw [← show i = x from c_48, ← hp]; first | (rw [if_pos (by omega)]; done) | (rw [if_neg (by omega)]; done))
        · refine zt_goto (tgt := 93) dX11_stands_42 (by decide) ?_
          refine zt_iinc_5 dX11_stands_93 (by decide) rfl ?_
          refine zt_goto (tgt := 11) dX11_stands_96 (by decide) ?_
          have hj : jAp h e g i s = s := by unfold jAp; first | (rw [if_pos (by omega)]; done) | (rw [if_neg (by omega)]; done)
          exact ih (i + 1) s m (by omega) (by omega) (by omega) hs (by rw [zFor_sn i.toNat 0 _ (by omega), ← hp, hj]) (by rw [hr, zFor_s (by omega), hj]) (fun q => by by_cases z : x = i; (exfalso; subst z; omega); exact hm1 (by omega))

set_option maxRecDepth 100000 in
set_option maxHeartbeats 4000000 in
theorem c_jsx {d n : Nat} {sh : zSh} {h : zMem} {e g x : Int} (hS : zShp sh) (hR : zRf h) (hB : mB h) (he : 0 ≤ e ∧ e < 150) (hg : zi32 g) (hx : (0 ≤ x ∧ x < h 38 37) ∧ h 62 x = e ∧ h 65 x ≤ g) : zF yX11_stands cX11_stands 6 (some .int) (d + 0) 0 0 [(2, 38), (0, e), (0, g), (0, x)] n sh h (some (0, zFor (jAp h e g) 0 (h 38 37) (h 53 e))) n sh (zup h 38 63 (if h 63 x = zFor (jAp h e g) 0 x (h 53 e) then 0 else 1)) := by
  refine zF.ofT (by decide +kernel) [some (2, 38), some (0, e), some (0, g), some (0, x), none, none] rfl (Nat.le_of_ble_eq_true rfl) ?_
  refine zt_rg (fun hm => ?_)
  refine zt_aload_n dX11_stands_0 rfl ?_
  refine zt_getv dX11_stands_1 fl_X11_53 (zs_38 hS) (rf_38_27 hR) ?_
  refine zt_iload_n dX11_stands_4 rfl ?_
  refine zt_iaload dX11_stands_5 (zs_53 hS) (by decide) (by omega) (by omega) ?_
  refine zt_istore_4 dX11_stands_6 (by decide) rfl ?_
  refine zt_iconst dX11_stands_8 ?_
  refine zt_istore_5 dX11_stands_9 (by decide) rfl ?_
  refine zt_mem (h1 := zup h 38 63 (h 38 63)) zup_self.symm ?_
  exact l_jsx hS hR hB hm he hg hB.2.2.2.2.2.1 hx 41 0 _ _ (by have := hB.2.2.2.2.2.1; omega) (by omega) hB.2.2.2.2.2.1.1 (hm.int (zs_53 hS) he.1 he.2) (by rw [zFor_e (by omega)]) rfl (fun q => by omega)

set_option maxRecDepth 100000 in
set_option maxHeartbeats 4000000 in
theorem c_jms {d n : Nat} {sh : zSh} {h : zMem} {x : Int} (hS : zShp sh) (hR : zRf h) (hB : mB h) (hE : ∀ k, 0 ≤ k → k < h 38 37 → (0 ≤ h 62 k ∧ h 62 k < 150) ∧ h 65 k ≤ 999) (hx : zi32 x) : zF yX11_misses cX11_misses 2 (some .int) (d + 1) 0 0 [(2, 38), (0, x)] n sh h (some (0, (if 0 ≤ x ∧ x < h 38 37 then (if h 63 x = zFor (jAp h (h 62 x) 999) 0 x (h 53 (h 62 x)) then 0 else 1) else -1))) n sh (if 0 ≤ x ∧ x < h 38 37 then zup h 38 63 (if h 63 x = zFor (jAp h (h 62 x) 999) 0 x (h 53 (h 62 x)) then 0 else 1) else h) := by
  refine zF.ofT (by decide +kernel) [some (2, 38), some (0, x)] rfl (Nat.le_of_ble_eq_true rfl) ?_
  refine zt_rg (fun hm => ?_)
  have b1 := hB.1
  have b3 := hB.2.2.1
  have b4 := hB.2.2.2.1
  have b5 := hB.2.2.2.2.1
  have b6 := hB.2.2.2.2.2.1
  have b7 := hB.2.2.2.2.2.2.1
  have b8 := hB.2.2.2.2.2.2.2.1
  have b9 := hB.2.2.2.2.2.2.2.2.1
  have b10 := hB.2.2.2.2.2.2.2.2.2.1
  have b11 := hB.2.2.2.2.2.2.2.2.2.2
  refine zt_iload_n dX11_misses_0 rfl ?_
  refine zt_i2l dX11_misses_1 (by omega) ?_
  refine zt_lconst (v := 0) dX11_misses_2 rfl ?_
  refine zt_aload_n dX11_misses_3 rfl ?_
  refine zt_get dX11_misses_4 fl_X11_430 (zs_38 hS) ?_
  refine zt_iconst dX11_misses_7 ?_
  refine zt_isub dX11_misses_8 ?_
  refine zt_i2l dX11_misses_9 (by omega) ?_
  refine zt_callS3r dX11_misses_10 ml_X11_143 (Nat.le_of_ble_eq_true rfl) (c_min_ (x := x) (y := 0) (z := (h 38 37) - 1) (by omega) (by decide) (by omega)) ?_
  refine zt_ifb_ne (tgt := 18) dX11_misses_13 (by decide) (fun c_13 => ?_) (fun c_13 => ?_)
  · refine zt_aload_n dX11_misses_18 rfl ?_
    refine zt_aload_n dX11_misses_19 rfl ?_
    refine zt_getv dX11_misses_20 fl_X11_85 (zs_38 hS) (rf_38_38 hR) ?_
    refine zt_iload_n dX11_misses_23 rfl ?_
    refine zt_iaload dX11_misses_24 (zs_62 hS) (by decide) (by omega) (by omega) ?_
    refine zt_sipush dX11_misses_25 (by decide) ?_
    refine zt_iload_n dX11_misses_28 rfl ?_
    refine zt_callV3r dX11_misses_29 ml_X11_436 (zs_38 hS) (Nat.le_of_ble_eq_true rfl) (c_jsx hS hR hB (hE x (by omega) (by omega)).1 (by decide) ⟨by omega, rfl, (hE x (by omega) (by omega)).2⟩) ?_
    refine zt_pop dX11_misses_32 (Nat.ne_of_beq_eq_false rfl) ?_
    refine zt_aload_n dX11_misses_33 rfl ?_
    refine zt_getv (v := (if h 63 x = zFor (jAp h (h 62 x) 999) 0 x (h 53 (h 62 x)) then 0 else 1)) dX11_misses_34 fl_X11_433 (zs_38 hS) zupE ?_
    exact zt_iret dX11_misses_37 ⟨by rw [if_pos (show 0 ≤ x ∧ x < h 38 37 by omega)], rfl, rfl, by rw [if_pos (show 0 ≤ x ∧ x < h 38 37 by omega)]⟩
  · refine zt_iconst dX11_misses_16 ?_
    exact zt_iret dX11_misses_17 ⟨by rw [if_neg (by omega)], rfl, rfl, by rw [if_neg (by omega)]⟩

set_option maxRecDepth 100000 in
set_option maxHeartbeats 4000000 in
theorem c_jkn {d n : Nat} {sh : zSh} {h : zMem} {t i g : Int} (hS : zShp sh) (hR : zRf h) (hB : mB h) (ht : zi32 t) (hi : zi32 i) (hg : zi32 g) : zF yX11_known cX11_known 4 (some .int) (d + 4) 0 0 [(2, 38), (0, t), (0, i), (0, g)] n sh h (some (0, (if jG h t i ∧ 0 ≤ g ∧ g ≤ 999 then zFor (jAp h (30 * t + i) g) 0 (h 38 37) (h 53 (30 * t + i)) else -2147483648))) n sh h := by
  refine zF.ofT (by decide +kernel) [some (2, 38), some (0, t), some (0, i), some (0, g)] rfl (Nat.le_of_ble_eq_true rfl) ?_
  refine zt_rg (fun hm => ?_)
  have b1 := hB.1
  have b3 := hB.2.2.1
  have b4 := hB.2.2.2.1
  have b5 := hB.2.2.2.2.1
  have b6 := hB.2.2.2.2.2.1
  have b7 := hB.2.2.2.2.2.2.1
  have b8 := hB.2.2.2.2.2.2.2.1
  have b9 := hB.2.2.2.2.2.2.2.2.1
  have b10 := hB.2.2.2.2.2.2.2.2.2.1
  have b11 := hB.2.2.2.2.2.2.2.2.2.2
  refine zt_aload_n dX11_known_0 rfl ?_
  refine zt_iload_n dX11_known_1 rfl ?_
  refine zt_iload_n dX11_known_2 rfl ?_
  refine zt_callV2r dX11_known_3 ml_X11_424 (zs_38 hS) (Nat.le_of_ble_eq_true rfl) (c_jG hS hR hB (by omega) (by omega)) ?_
  refine zt_ifb_eq (tgt := 35) dX11_known_6 (by decide) (fun c_6 => ?_) (fun c_6 => ?_)
  · refine zt_ldc_w dX11_known_35 kc_X11_283 ?_
    exact zt_iret dX11_known_38 ⟨by first | (rw [if_pos (by omega)]; done) | (rw [if_neg (by omega)]; done), rfl, rfl, rfl⟩
  · have hb := hB.2.1 t c_6.2.1.1.1 c_6.2.1.1.2
    refine zt_iload_n dX11_known_9 rfl ?_
    refine zt_i2l dX11_known_10 (by omega) ?_
    refine zt_lconst (v := 0) dX11_known_11 rfl ?_
    refine zt_ldc2 dX11_known_12 kc_X11_439 ?_
    refine zt_callS3r dX11_known_15 ml_X11_143 (Nat.le_of_ble_eq_true rfl) (c_min_ (x := g) (y := 0) (z := 999) (by omega) (by decide) (by decide)) ?_
    refine zt_ifb_eq (tgt := 35) dX11_known_18 (by decide) (fun c_18 => ?_) (fun c_18 => ?_)
    · refine zt_ldc_w dX11_known_35 kc_X11_283 ?_
      exact zt_iret dX11_known_38 ⟨by first | (rw [if_pos (by omega)]; done) | (rw [if_neg (by omega)]; done), rfl, rfl, rfl⟩
    · refine zt_aload_n dX11_known_21 rfl ?_
      refine zt_iload_n dX11_known_22 rfl ?_
      refine zt_iload_n dX11_known_23 rfl ?_
      refine zt_callS2r dX11_known_24 ml_X11_316 (Nat.le_of_ble_eq_true rfl) (c_place) ?_
      refine zt_iload_n dX11_known_27 rfl ?_
      refine zt_iconst dX11_known_28 ?_
      refine zt_callV3r dX11_known_29 ml_X11_436 (zs_38 hS) (Nat.le_of_ble_eq_true rfl) (c_jst hS hR hB (by omega) hg) ?_
      refine zt_goto (tgt := 38) dX11_known_32 (by decide) ?_
      exact zt_iret dX11_known_38 ⟨by first | (rw [if_pos (by omega)]; done) | (rw [if_neg (by omega)]; done), rfl, rfl, rfl⟩

noncomputable def jCt (h : zMem) (x : Int) : Int :=
  if (10 ≤ x ∧ x ≤ 39) ∧ jT h (x % 10) then (if 30 ≤ x then h 59 (x % 10) else if x < 20 then zS (fun j => zb (jAg h (30 * (x % 10) + j))) 0 (h 46 (x % 10)) else zS (fun j => zb (jF h (30 * (x % 10) + j))) 0 (h 46 (x % 10)))
  else if x = 0 then h 38 16 else if x = 1 then h 38 12 else if x = 2 then h 38 17 else if x = 3 then h 38 20 else if x = 4 then h 38 21 else if x = 5 then h 38 50 else if x = 6 then h 38 37 else if x = 7 then h 38 1 else -1

set_option maxRecDepth 100000 in
set_option maxHeartbeats 4000000 in
theorem l_jcta {d n : Nat} {sh : zSh} {h : zMem} {t x R : Int} (hS : zShp sh) (hR : zRf h) (hB : mB h) (hm : zMok sh h) (ht : 0 ≤ t ∧ t < h 38 17) (b1 : 0 ≤ h 38 17 ∧ h 38 17 ≤ 5) (hb : 4 ≤ h 46 t ∧ h 46 t ≤ 30) (hx : zi32 x) (hx2 : x < 20)  : ∀ (k : Nat) (i : Int) (f : Int), h 46 t - i < (k : Int) → 0 ≤ i → i ≤ h 46 t → R = f + zS (fun j => zb (jAg h (30 * t + j))) i (h 46 t) → zT yX11_count cX11_count 5 (some .int) (d + 2) 0 0 (zq (some (0, R)) n sh h) 45 [some (2, 38), some (0, x), some (0, t), some (0, f), some (0, i)] [] n sh h := by
  intro k
  induction k with
  | zero => intros; exfalso; omega
  | succ k ih =>
    intro i f hk h0 h1 hr
    refine zt_iload dX11_count_45 rfl ?_
    refine zt_aload_n dX11_count_47 rfl ?_
    refine zt_getv dX11_count_48 fl_X11_32 (zs_38 hS) (rf_38_18 hR) ?_
    refine zt_iload_n dX11_count_51 rfl ?_
    refine zt_iaload dX11_count_52 (zs_46 hS) (by decide) (by omega) (by omega) ?_
    refine zt_icmp_ge (tgt := 105) dX11_count_53 (by decide) (by omega) (hm.int (zs_46 hS) (by omega) (by omega)) (fun c_53 => ?_) (fun c_53 => ?_)
    · refine zt_iload_n dX11_count_105 rfl ?_
      exact zt_iret dX11_count_106 ⟨by rw [hr, zS_e (by omega)]; congr 2; omega, rfl, rfl, rfl⟩
    · refine zt_iload_n dX11_count_56 rfl ?_
      refine zt_iload_n dX11_count_57 rfl ?_
      refine zt_bipush dX11_count_58 (by decide) ?_
      refine zt_icmp_ge (tgt := 79) dX11_count_60 (by decide) (by omega) (by decide) (fun c_60 => ?_) (fun c_60 => ?_)
      · exfalso
        omega
      · refine zt_aload_n dX11_count_63 rfl ?_
        refine zt_iload_n dX11_count_64 rfl ?_
        refine zt_iload dX11_count_65 rfl ?_
        refine zt_callS2r dX11_count_67 ml_X11_316 (Nat.le_of_ble_eq_true rfl) (c_place) ?_
        refine zt_callV1r dX11_count_70 ml_X11_332 (zs_38 hS) (Nat.le_of_ble_eq_true rfl) (c_jA hS hR hB (by omega)) ?_
        refine zt_ifb_eq (tgt := 96) dX11_count_73 (by decide) (fun c_73 => ?_) (fun c_73 => ?_)
        · refine zt_iconst dX11_count_96 ?_
          refine zt_iadd dX11_count_97 ?_
          refine zt_istore_n_3 dX11_count_98 (by decide) rfl ?_
          refine zt_iinc_4 dX11_count_99 (by decide) rfl ?_
          refine zt_goto (tgt := 45) dX11_count_102 (by decide) ?_
          exact ih (i + 1) _ (by omega) (by omega) (by omega) (by rw [hr, zS_s (by omega)]; first | (rw [zb_t (by omega)]; omega) | (rw [zb_f (by omega)]; omega))
        · refine zt_goto (tgt := 92) dX11_count_76 (by decide) ?_
          refine zt_iconst dX11_count_92 ?_
          refine zt_goto (tgt := 97) dX11_count_93 (by decide) ?_
          refine zt_iadd dX11_count_97 ?_
          refine zt_istore_n_3 dX11_count_98 (by decide) rfl ?_
          refine zt_iinc_4 dX11_count_99 (by decide) rfl ?_
          refine zt_goto (tgt := 45) dX11_count_102 (by decide) ?_
          exact ih (i + 1) _ (by omega) (by omega) (by omega) (by rw [hr, zS_s (by omega)]; first | (rw [zb_t (by omega)]; omega) | (rw [zb_f (by omega)]; omega))

set_option maxRecDepth 100000 in
set_option maxHeartbeats 4000000 in
theorem l_jctb {d n : Nat} {sh : zSh} {h : zMem} {t x R : Int} (hS : zShp sh) (hR : zRf h) (hB : mB h) (hm : zMok sh h) (ht : 0 ≤ t ∧ t < h 38 17) (b1 : 0 ≤ h 38 17 ∧ h 38 17 ≤ 5) (hb : 4 ≤ h 46 t ∧ h 46 t ≤ 30) (hx : zi32 x) (hx2 : 20 ≤ x)  : ∀ (k : Nat) (i : Int) (f : Int), h 46 t - i < (k : Int) → 0 ≤ i → i ≤ h 46 t → R = f + zS (fun j => zb (jF h (30 * t + j))) i (h 46 t) → zT yX11_count cX11_count 5 (some .int) (d + 2) 0 0 (zq (some (0, R)) n sh h) 45 [some (2, 38), some (0, x), some (0, t), some (0, f), some (0, i)] [] n sh h := by
  intro k
  induction k with
  | zero => intros; exfalso; omega
  | succ k ih =>
    intro i f hk h0 h1 hr
    refine zt_iload dX11_count_45 rfl ?_
    refine zt_aload_n dX11_count_47 rfl ?_
    refine zt_getv dX11_count_48 fl_X11_32 (zs_38 hS) (rf_38_18 hR) ?_
    refine zt_iload_n dX11_count_51 rfl ?_
    refine zt_iaload dX11_count_52 (zs_46 hS) (by decide) (by omega) (by omega) ?_
    refine zt_icmp_ge (tgt := 105) dX11_count_53 (by decide) (by omega) (hm.int (zs_46 hS) (by omega) (by omega)) (fun c_53 => ?_) (fun c_53 => ?_)
    · refine zt_iload_n dX11_count_105 rfl ?_
      exact zt_iret dX11_count_106 ⟨by rw [hr, zS_e (by omega)]; congr 2; omega, rfl, rfl, rfl⟩
    · refine zt_iload_n dX11_count_56 rfl ?_
      refine zt_iload_n dX11_count_57 rfl ?_
      refine zt_bipush dX11_count_58 (by decide) ?_
      refine zt_icmp_ge (tgt := 79) dX11_count_60 (by decide) (by omega) (by decide) (fun c_60 => ?_) (fun c_60 => ?_)
      · refine zt_aload_n dX11_count_79 rfl ?_
        refine zt_iload_n dX11_count_80 rfl ?_
        refine zt_iload dX11_count_81 rfl ?_
        refine zt_callS2r dX11_count_83 ml_X11_316 (Nat.le_of_ble_eq_true rfl) (c_place) ?_
        refine zt_callV1r dX11_count_86 ml_X11_441 (zs_38 hS) (Nat.le_of_ble_eq_true rfl) (c_jF hS hR hB (by omega)) ?_
        refine zt_ifb_eq (tgt := 96) dX11_count_89 (by decide) (fun c_89 => ?_) (fun c_89 => ?_)
        · refine zt_iconst dX11_count_96 ?_
          refine zt_iadd dX11_count_97 ?_
          refine zt_istore_n_3 dX11_count_98 (by decide) rfl ?_
          refine zt_iinc_4 dX11_count_99 (by decide) rfl ?_
          refine zt_goto (tgt := 45) dX11_count_102 (by decide) ?_
          exact ih (i + 1) _ (by omega) (by omega) (by omega) (by rw [hr, zS_s (by omega)]; first | (rw [zb_t (by omega)]; omega) | (rw [zb_f (by omega)]; omega))
        · refine zt_iconst dX11_count_92 ?_
          refine zt_goto (tgt := 97) dX11_count_93 (by decide) ?_
          refine zt_iadd dX11_count_97 ?_
          refine zt_istore_n_3 dX11_count_98 (by decide) rfl ?_
          refine zt_iinc_4 dX11_count_99 (by decide) rfl ?_
          refine zt_goto (tgt := 45) dX11_count_102 (by decide) ?_
          exact ih (i + 1) _ (by omega) (by omega) (by omega) (by rw [hr, zS_s (by omega)]; first | (rw [zb_t (by omega)]; omega) | (rw [zb_f (by omega)]; omega))
      · exfalso
        omega

set_option maxRecDepth 100000 in
set_option maxHeartbeats 4000000 in
theorem c_jct {d n : Nat} {sh : zSh} {h : zMem} {x : Int} (hS : zShp sh) (hR : zRf h) (hB : mB h) (hx : zi32 x) : zF yX11_count cX11_count 5 (some .int) (d + 2) 0 0 [(2, 38), (0, x)] n sh h (some (0, jCt h x)) n sh h := by
  refine zF.ofT (by decide +kernel) [some (2, 38), some (0, x), none, none, none] rfl (Nat.le_of_ble_eq_true rfl) ?_
  refine zt_rg (fun hm => ?_)
  have b1 := hB.1
  have b3 := hB.2.2.1
  have b4 := hB.2.2.2.1
  have b5 := hB.2.2.2.2.1
  have b6 := hB.2.2.2.2.2.1
  have b7 := hB.2.2.2.2.2.2.1
  have b8 := hB.2.2.2.2.2.2.2.1
  have b9 := hB.2.2.2.2.2.2.2.2.1
  have b10 := hB.2.2.2.2.2.2.2.2.2.1
  have b11 := hB.2.2.2.2.2.2.2.2.2.2
  refine zt_iload_n dX11_count_0 rfl ?_
  refine zt_bipush dX11_count_1 (by decide) ?_
  refine zt_irem dX11_count_3 (by omega) (by decide) (by decide) ?_
  obtain ⟨r, hr0⟩ : ∃ r, r = Int.tmod x 10 := ⟨_, rfl⟩
  have hrx : 0 ≤ x → r = x % 10 := fun q => by rw [hr0]; exact Int.tmod_eq_emod_of_nonneg q
  have hrz := (ztm_i32 hx).1
  rw [← hr0] at hrz
  refine zt_topv (v := r) hr0.symm ?_
  refine zt_istore_n_2 dX11_count_4 (by decide) rfl ?_
  refine zt_iload_n dX11_count_5 rfl ?_
  refine zt_i2l dX11_count_6 (by omega) ?_
  refine zt_ldc2 dX11_count_7 kc_X11_301 ?_
  refine zt_ldc2 dX11_count_10 kc_X11_450 ?_
  refine zt_callS3r dX11_count_13 ml_X11_143 (Nat.le_of_ble_eq_true rfl) (c_min_ (x := x) (y := 10) (z := 39) (by omega) (by decide) (by decide)) ?_
  refine zt_ifb_eq (tgt := 107) dX11_count_16 (by decide) (fun c_16 => ?_) (fun c_16 => ?_)
  · refine zt_iload_n dX11_count_107 rfl ?_
    rcases (show x = 0 ∨ x = 1 ∨ x = 2 ∨ x = 3 ∨ x = 4 ∨ x = 5 ∨ x = 6 ∨ x = 7 ∨ (x < 0 ∨ 7 < x) by omega) with e_108 | e_108 | e_108 | e_108 | e_108 | e_108 | e_108 | e_108 | e_108
    · refine zt_tableIn (off := 48) (tgt := 156) dX11_count_108 (by omega) (by omega) (by omega) (by rw [e_108]; rfl) (by decide) ?_
      refine zt_aload_n dX11_count_156 rfl ?_
      refine zt_get dX11_count_157 fl_X11_287 (zs_38 hS) ?_
      exact zt_iret dX11_count_160 ⟨by congr 2; unfold jCt; first | (rw [if_neg (by omega)]; (repeat' split) <;> first | rfl | omega) | (rw [if_neg (fun q => absurd q.2 (by assumption))]; (repeat' split) <;> first | rfl | omega), rfl, rfl, rfl⟩
    · refine zt_tableIn (off := 53) (tgt := 161) dX11_count_108 (by omega) (by omega) (by omega) (by rw [e_108]; rfl) (by decide) ?_
      refine zt_aload_n dX11_count_161 rfl ?_
      refine zt_get dX11_count_162 fl_X11_239 (zs_38 hS) ?_
      exact zt_iret dX11_count_165 ⟨by congr 2; unfold jCt; first | (rw [if_neg (by omega)]; (repeat' split) <;> first | rfl | omega) | (rw [if_neg (fun q => absurd q.2 (by assumption))]; (repeat' split) <;> first | rfl | omega), rfl, rfl, rfl⟩
    · refine zt_tableIn (off := 58) (tgt := 166) dX11_count_108 (by omega) (by omega) (by omega) (by rw [e_108]; rfl) (by decide) ?_
      refine zt_aload_n dX11_count_166 rfl ?_
      refine zt_get dX11_count_167 fl_X11_298 (zs_38 hS) ?_
      exact zt_iret dX11_count_170 ⟨by congr 2; unfold jCt; first | (rw [if_neg (by omega)]; (repeat' split) <;> first | rfl | omega) | (rw [if_neg (fun q => absurd q.2 (by assumption))]; (repeat' split) <;> first | rfl | omega), rfl, rfl, rfl⟩
    · refine zt_tableIn (off := 63) (tgt := 171) dX11_count_108 (by omega) (by omega) (by omega) (by rw [e_108]; rfl) (by decide) ?_
      refine zt_aload_n dX11_count_171 rfl ?_
      refine zt_get dX11_count_172 fl_X11_319 (zs_38 hS) ?_
      exact zt_iret dX11_count_175 ⟨by congr 2; unfold jCt; first | (rw [if_neg (by omega)]; (repeat' split) <;> first | rfl | omega) | (rw [if_neg (fun q => absurd q.2 (by assumption))]; (repeat' split) <;> first | rfl | omega), rfl, rfl, rfl⟩
    · refine zt_tableIn (off := 68) (tgt := 176) dX11_count_108 (by omega) (by omega) (by omega) (by rw [e_108]; rfl) (by decide) ?_
      refine zt_aload_n dX11_count_176 rfl ?_
      refine zt_get dX11_count_177 fl_X11_325 (zs_38 hS) ?_
      exact zt_iret dX11_count_180 ⟨by congr 2; unfold jCt; first | (rw [if_neg (by omega)]; (repeat' split) <;> first | rfl | omega) | (rw [if_neg (fun q => absurd q.2 (by assumption))]; (repeat' split) <;> first | rfl | omega), rfl, rfl, rfl⟩
    · refine zt_tableIn (off := 73) (tgt := 181) dX11_count_108 (by omega) (by omega) (by omega) (by rw [e_108]; rfl) (by decide) ?_
      refine zt_aload_n dX11_count_181 rfl ?_
      refine zt_get dX11_count_182 fl_X11_388 (zs_38 hS) ?_
      exact zt_iret dX11_count_185 ⟨by congr 2; unfold jCt; first | (rw [if_neg (by omega)]; (repeat' split) <;> first | rfl | omega) | (rw [if_neg (fun q => absurd q.2 (by assumption))]; (repeat' split) <;> first | rfl | omega), rfl, rfl, rfl⟩
    · refine zt_tableIn (off := 78) (tgt := 186) dX11_count_108 (by omega) (by omega) (by omega) (by rw [e_108]; rfl) (by decide) ?_
      refine zt_aload_n dX11_count_186 rfl ?_
      refine zt_get dX11_count_187 fl_X11_430 (zs_38 hS) ?_
      exact zt_iret dX11_count_190 ⟨by congr 2; unfold jCt; first | (rw [if_neg (by omega)]; (repeat' split) <;> first | rfl | omega) | (rw [if_neg (fun q => absurd q.2 (by assumption))]; (repeat' split) <;> first | rfl | omega), rfl, rfl, rfl⟩
    · refine zt_tableIn (off := 83) (tgt := 191) dX11_count_108 (by omega) (by omega) (by omega) (by rw [e_108]; rfl) (by decide) ?_
      refine zt_aload_n dX11_count_191 rfl ?_
      refine zt_get dX11_count_192 fl_X11_140 (zs_38 hS) ?_
      exact zt_iret dX11_count_195 ⟨by congr 2; unfold jCt; first | (rw [if_neg (by omega)]; (repeat' split) <;> first | rfl | omega) | (rw [if_neg (fun q => absurd q.2 (by assumption))]; (repeat' split) <;> first | rfl | omega), rfl, rfl, rfl⟩
    · refine zt_tableOut (tgt := 196) dX11_count_108 (by omega) e_108 (by decide) ?_
      refine zt_iconst dX11_count_196 ?_
      exact zt_iret dX11_count_197 ⟨by congr 2; unfold jCt; first | (rw [if_neg (by omega)]; (repeat' split) <;> first | rfl | omega) | (rw [if_neg (fun q => absurd q.2 (by assumption))]; (repeat' split) <;> first | rfl | omega), rfl, rfl, rfl⟩
  · have hr1 := hrx (by omega)
    subst hr1
    refine zt_aload_n dX11_count_19 rfl ?_
    refine zt_iload_n dX11_count_20 rfl ?_
    refine zt_callV1r dX11_count_21 ml_X11_310 (zs_38 hS) (Nat.le_of_ble_eq_true rfl) (c_jT hS hR hB (by omega)) ?_
    refine zt_ifb_eq (tgt := 107) dX11_count_24 (by decide) (fun c_24 => ?_) (fun c_24 => ?_)
    · refine zt_iload_n dX11_count_107 rfl ?_
      rcases (show x = 0 ∨ x = 1 ∨ x = 2 ∨ x = 3 ∨ x = 4 ∨ x = 5 ∨ x = 6 ∨ x = 7 ∨ (x < 0 ∨ 7 < x) by omega) with e_108 | e_108 | e_108 | e_108 | e_108 | e_108 | e_108 | e_108 | e_108
      · refine zt_tableIn (off := 48) (tgt := 156) dX11_count_108 (by omega) (by omega) (by omega) (by rw [e_108]; rfl) (by decide) ?_
        refine zt_aload_n dX11_count_156 rfl ?_
        refine zt_get dX11_count_157 fl_X11_287 (zs_38 hS) ?_
        exact zt_iret dX11_count_160 ⟨by congr 2; unfold jCt; first | (rw [if_neg (by omega)]; (repeat' split) <;> first | rfl | omega) | (rw [if_neg (fun q => absurd q.2 (by assumption))]; (repeat' split) <;> first | rfl | omega), rfl, rfl, rfl⟩
      · refine zt_tableIn (off := 53) (tgt := 161) dX11_count_108 (by omega) (by omega) (by omega) (by rw [e_108]; rfl) (by decide) ?_
        refine zt_aload_n dX11_count_161 rfl ?_
        refine zt_get dX11_count_162 fl_X11_239 (zs_38 hS) ?_
        exact zt_iret dX11_count_165 ⟨by congr 2; unfold jCt; first | (rw [if_neg (by omega)]; (repeat' split) <;> first | rfl | omega) | (rw [if_neg (fun q => absurd q.2 (by assumption))]; (repeat' split) <;> first | rfl | omega), rfl, rfl, rfl⟩
      · refine zt_tableIn (off := 58) (tgt := 166) dX11_count_108 (by omega) (by omega) (by omega) (by rw [e_108]; rfl) (by decide) ?_
        refine zt_aload_n dX11_count_166 rfl ?_
        refine zt_get dX11_count_167 fl_X11_298 (zs_38 hS) ?_
        exact zt_iret dX11_count_170 ⟨by congr 2; unfold jCt; first | (rw [if_neg (by omega)]; (repeat' split) <;> first | rfl | omega) | (rw [if_neg (fun q => absurd q.2 (by assumption))]; (repeat' split) <;> first | rfl | omega), rfl, rfl, rfl⟩
      · refine zt_tableIn (off := 63) (tgt := 171) dX11_count_108 (by omega) (by omega) (by omega) (by rw [e_108]; rfl) (by decide) ?_
        refine zt_aload_n dX11_count_171 rfl ?_
        refine zt_get dX11_count_172 fl_X11_319 (zs_38 hS) ?_
        exact zt_iret dX11_count_175 ⟨by congr 2; unfold jCt; first | (rw [if_neg (by omega)]; (repeat' split) <;> first | rfl | omega) | (rw [if_neg (fun q => absurd q.2 (by assumption))]; (repeat' split) <;> first | rfl | omega), rfl, rfl, rfl⟩
      · refine zt_tableIn (off := 68) (tgt := 176) dX11_count_108 (by omega) (by omega) (by omega) (by rw [e_108]; rfl) (by decide) ?_
        refine zt_aload_n dX11_count_176 rfl ?_
        refine zt_get dX11_count_177 fl_X11_325 (zs_38 hS) ?_
        exact zt_iret dX11_count_180 ⟨by congr 2; unfold jCt; first | (rw [if_neg (by omega)]; (repeat' split) <;> first | rfl | omega) | (rw [if_neg (fun q => absurd q.2 (by assumption))]; (repeat' split) <;> first | rfl | omega), rfl, rfl, rfl⟩
      · refine zt_tableIn (off := 73) (tgt := 181) dX11_count_108 (by omega) (by omega) (by omega) (by rw [e_108]; rfl) (by decide) ?_
        refine zt_aload_n dX11_count_181 rfl ?_
        refine zt_get dX11_count_182 fl_X11_388 (zs_38 hS) ?_
        exact zt_iret dX11_count_185 ⟨by congr 2; unfold jCt; first | (rw [if_neg (by omega)]; (repeat' split) <;> first | rfl | omega) | (rw [if_neg (fun q => absurd q.2 (by assumption))]; (repeat' split) <;> first | rfl | omega), rfl, rfl, rfl⟩
      · refine zt_tableIn (off := 78) (tgt := 186) dX11_count_108 (by omega) (by omega) (by omega) (by rw [e_108]; rfl) (by decide) ?_
        refine zt_aload_n dX11_count_186 rfl ?_
        refine zt_get dX11_count_187 fl_X11_430 (zs_38 hS) ?_
        exact zt_iret dX11_count_190 ⟨by congr 2; unfold jCt; first | (rw [if_neg (by omega)]; (repeat' split) <;> first | rfl | omega) | (rw [if_neg (fun q => absurd q.2 (by assumption))]; (repeat' split) <;> first | rfl | omega), rfl, rfl, rfl⟩
      · refine zt_tableIn (off := 83) (tgt := 191) dX11_count_108 (by omega) (by omega) (by omega) (by rw [e_108]; rfl) (by decide) ?_
        refine zt_aload_n dX11_count_191 rfl ?_
        refine zt_get dX11_count_192 fl_X11_140 (zs_38 hS) ?_
        exact zt_iret dX11_count_195 ⟨by congr 2; unfold jCt; first | (rw [if_neg (by omega)]; (repeat' split) <;> first | rfl | omega) | (rw [if_neg (fun q => absurd q.2 (by assumption))]; (repeat' split) <;> first | rfl | omega), rfl, rfl, rfl⟩
      · refine zt_tableOut (tgt := 196) dX11_count_108 (by omega) e_108 (by decide) ?_
        refine zt_iconst dX11_count_196 ?_
        exact zt_iret dX11_count_197 ⟨by congr 2; unfold jCt; first | (rw [if_neg (by omega)]; (repeat' split) <;> first | rfl | omega) | (rw [if_neg (fun q => absurd q.2 (by assumption))]; (repeat' split) <;> first | rfl | omega), rfl, rfl, rfl⟩
    · refine zt_iload_n dX11_count_27 rfl ?_
      refine zt_bipush dX11_count_28 (by decide) ?_
      refine zt_icmp_lt (tgt := 40) dX11_count_30 (by decide) (by omega) (by decide) (fun c_30 => ?_) (fun c_30 => ?_)
      · refine zt_iconst dX11_count_40 ?_
        refine zt_istore_n_3 dX11_count_41 (by decide) rfl ?_
        refine zt_iconst dX11_count_42 ?_
        refine zt_istore_4 dX11_count_43 (by decide) rfl ?_
        have hb := hB.2.1 (x % 10) c_24.1 c_24.2
        have e0 : (10 ≤ x ∧ x ≤ 39) ∧ jT h (x % 10) := ⟨by omega, c_24⟩
        by_cases q : x < 20
        · rw [show jCt h x = zS (fun j => zb (jAg h (30 * (x % 10) + j))) 0 (h 46 (x % 10)) from (if_pos e0).trans ((if_neg (by omega)).trans (if_pos q))]
          exact l_jcta hS hR hB hm c_24 b1 hb hx q 31 0 0 (by omega) (by omega) (by omega) (by omega)
        · rw [show jCt h x = zS (fun j => zb (jF h (30 * (x % 10) + j))) 0 (h 46 (x % 10)) from (if_pos e0).trans ((if_neg (by omega)).trans (if_neg q))]
          exact l_jctb hS hR hB hm c_24 b1 hb hx (by omega) 31 0 0 (by omega) (by omega) (by omega) (by omega)
      · refine zt_aload_n dX11_count_33 rfl ?_
        refine zt_getv dX11_count_34 fl_X11_76 (zs_38 hS) (rf_38_34 hR) ?_
        refine zt_iload_n dX11_count_37 rfl ?_
        refine zt_iaload dX11_count_38 (zs_59 hS) (by decide) (by omega) (by omega) ?_
        exact zt_iret dX11_count_39 ⟨by congr 2; exact ((if_pos ⟨by omega, c_24⟩).trans (if_pos (by omega))).symm, rfl, rfl, rfl⟩
