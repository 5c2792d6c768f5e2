set_option maxRecDepth 100000 in
set_option maxHeartbeats 4000000 in
theorem c_ehas {d n : Nat} {sh : zSh} {h : zMem} {x : Int} (hS : zShp sh) (hR : zRf h) (hc : 0 ≤ h 32 0 ∧ h 32 0 ≤ 40) (hx : zi32 x) : zF yX2_has cX2_has 2 (some .boolean) (d + 0) 0 0 [(2, 32), (0, x)] n sh h (some (0, zb (0 ≤ x ∧ x < h 32 0))) n sh h := by
  refine zF.ofT (by decide +kernel) [some (2, 32), some (0, x)] rfl (Nat.le_of_ble_eq_true rfl) ?_
  refine zt_iload_n dX2_has_0 rfl ?_
  refine zt_if_lt (tgt := 22) dX2_has_1 (by decide) (by omega) (fun c_1 => ?_) (fun c_1 => ?_)
  · refine zt_iconst dX2_has_22 ?_
    exact zt_zret dX2_has_23 (by decide) ⟨zb0 (by omega), rfl, rfl, rfl⟩
  · refine zt_iload_n dX2_has_4 rfl ?_
    refine zt_aload_n dX2_has_5 rfl ?_
    refine zt_get dX2_has_6 fl_X2_27 (zs_32 hS) ?_
    refine zt_icmp_ge (tgt := 22) dX2_has_9 (by decide) (by omega) (by omega) (fun c_9 => ?_) (fun c_9 => ?_)
    · refine zt_iconst dX2_has_22 ?_
      exact zt_zret dX2_has_23 (by decide) ⟨zb0 (by omega), rfl, rfl, rfl⟩
    · refine zt_iload_n dX2_has_12 rfl ?_
      refine zt_bipush dX2_has_13 (by decide) ?_
      refine zt_icmp_ge (tgt := 22) dX2_has_15 (by decide) (by omega) (by decide) (fun c_15 => ?_) (fun c_15 => ?_)
      · refine zt_iconst dX2_has_22 ?_
        exact zt_zret dX2_has_23 (by decide) ⟨zb0 (by omega), rfl, rfl, rfl⟩
      · refine zt_iconst dX2_has_18 ?_
        refine zt_goto (tgt := 23) dX2_has_19 (by decide) ?_
        exact zt_zret dX2_has_23 (by decide) ⟨zb1 (by omega), rfl, rfl, rfl⟩

def eTell (h : zMem) (a b c e g : Int) : zMem := zup (zup (zup (zup (zup (zup h 33 (h 32 0) a) 34 (h 32 0) b) 35 (h 32 0) c) 36 (h 32 0) e) 37 (h 32 0) g) 32 0 (h 32 0 + 1)
/-- an erratum at work -/
def eAp (h : zMem) (t e g i s : Int) : Int := if (h 33 i = t ∧ h 34 i = e ∧ h 37 i ≤ g) ∧ h 35 i = s then h 36 i else s

set_option maxRecDepth 100000 in
set_option maxHeartbeats 4000000 in
theorem c_etell {d n : Nat} {sh : zSh} {h : zMem} {a b c e g : Int} (hS : zShp sh) (hR : zRf h) (hc : 0 ≤ h 32 0 ∧ h 32 0 ≤ 40) (ha : zi32 a) (hb : zi32 b) (hcc : zi32 c) (he : zi32 e) (hg : zi32 g) : zF yX2_tell cX2_tell 6 (some .int) (d + 0) 0 0 [(2, 32), (0, a), (0, b), (0, c), (0, e), (0, g)] n sh h (some (0, (if h 32 0 < 40 then h 32 0 else -1))) n sh (if h 32 0 < 40 then eTell h a b c e g else h) := by
  refine zF.ofT (by decide +kernel) [some (2, 32), some (0, a), some (0, b), some (0, c), some (0, e), some (0, g)] rfl (Nat.le_of_ble_eq_true rfl) ?_
  refine zt_aload_n dX2_tell_0 rfl ?_
  refine zt_get dX2_tell_1 fl_X2_27 (zs_32 hS) ?_
  refine zt_bipush dX2_tell_4 (by decide) ?_
  refine zt_icmp_lt (tgt := 11) dX2_tell_6 (by decide) (by omega) (by decide) (fun c_6 => ?_) (fun c_6 => ?_)
  · refine zt_aload_n dX2_tell_11 rfl ?_
    refine zt_getv dX2_tell_12 fl_X2_11 (zs_32 hS) (rf_32_1 hR) ?_
    refine zt_aload_n dX2_tell_15 rfl ?_
    refine zt_get dX2_tell_16 fl_X2_27 (zs_32 hS) ?_
    refine zt_iload_n dX2_tell_19 rfl ?_
    refine zt_iastore dX2_tell_20 (zs_33 hS) (by decide) (by omega) (by omega) (by omega) ?_
    refine zt_aload_n dX2_tell_21 rfl ?_
    refine zt_getv dX2_tell_22 fl_X2_15 (zs_32 hS) (rf_32_2 (hR.upA (by decide))) ?_
    refine zt_aload_n dX2_tell_25 rfl ?_
    refine zt_getv (v := h 32 0) dX2_tell_26 fl_X2_27 (zs_32 hS) ((zupA (by decide)).trans rfl) ?_
    refine zt_iload_n dX2_tell_29 rfl ?_
    refine zt_iastore dX2_tell_30 (zs_34 hS) (by decide) (by omega) (by omega) (by omega) ?_
    refine zt_aload_n dX2_tell_31 rfl ?_
    refine zt_getv dX2_tell_32 fl_X2_18 (zs_32 hS) (rf_32_3 ((hR.upA (by decide)).upA (by decide))) ?_
    refine zt_aload_n dX2_tell_35 rfl ?_
    refine zt_getv (v := h 32 0) dX2_tell_36 fl_X2_27 (zs_32 hS) ((zupA (by decide)).trans ((zupA (by decide)).trans rfl)) ?_
    refine zt_iload_n dX2_tell_39 rfl ?_
    refine zt_iastore dX2_tell_40 (zs_35 hS) (by decide) (by omega) (by omega) (by omega) ?_
    refine zt_aload_n dX2_tell_41 rfl ?_
    refine zt_getv dX2_tell_42 fl_X2_21 (zs_32 hS) (rf_32_4 (((hR.upA (by decide)).upA (by decide)).upA (by decide))) ?_
    refine zt_aload_n dX2_tell_45 rfl ?_
    refine zt_getv (v := h 32 0) dX2_tell_46 fl_X2_27 (zs_32 hS) ((zupA (by decide)).trans ((zupA (by decide)).trans ((zupA (by decide)).trans rfl))) ?_
    refine zt_iload dX2_tell_49 rfl ?_
    refine zt_iastore dX2_tell_51 (zs_36 hS) (by decide) (by omega) (by omega) (by omega) ?_
    refine zt_aload_n dX2_tell_52 rfl ?_
    refine zt_getv dX2_tell_53 fl_X2_24 (zs_32 hS) (rf_32_5 ((((hR.upA (by decide)).upA (by decide)).upA (by decide)).upA (by decide))) ?_
    refine zt_aload_n dX2_tell_56 rfl ?_
    refine zt_getv (v := h 32 0) dX2_tell_57 fl_X2_27 (zs_32 hS) ((zupA (by decide)).trans ((zupA (by decide)).trans ((zupA (by decide)).trans ((zupA (by decide)).trans rfl)))) ?_
    refine zt_iload dX2_tell_60 rfl ?_
    refine zt_iastore dX2_tell_62 (zs_37 hS) (by decide) (by omega) (by omega) (by omega) ?_
    refine zt_aload_n dX2_tell_63 rfl ?_
    refine zt_dup dX2_tell_64 (Nat.ne_of_beq_eq_false rfl) ?_
    refine zt_getv (v := h 32 0) dX2_tell_65 fl_X2_27 (zs_32 hS) ((zupA (by decide)).trans ((zupA (by decide)).trans ((zupA (by decide)).trans ((zupA (by decide)).trans ((zupA (by decide)).trans rfl))))) ?_
    refine zt_iconst dX2_tell_68 ?_
    refine zt_iadd dX2_tell_69 ?_
    refine zt_puti dX2_tell_70 fl_X2_27 rfl (zs_32 hS) (by omega) ?_
    refine zt_aload_n dX2_tell_73 rfl ?_
    refine zt_getv (v := (h 32 0) + 1) dX2_tell_74 fl_X2_27 (zs_32 hS) zupE ?_
    refine zt_iconst dX2_tell_77 ?_
    refine zt_isub dX2_tell_78 ?_
    exact zt_iret dX2_tell_79 ⟨by rw [if_pos (by omega)]; congr 2; omega, rfl, rfl, by rw [if_pos (by omega)]; rfl⟩
  · refine zt_iconst dX2_tell_9 ?_
    exact zt_iret dX2_tell_10 ⟨by rw [if_neg (by omega)], rfl, rfl, by rw [if_neg (by omega)]⟩

set_option maxRecDepth 100000 in
set_option maxHeartbeats 4000000 in
theorem l_eap {d n : Nat} {sh : zSh} {h : zMem} {t e f b g : Int} (hS : zShp sh) (hR : zRf h) (hc : 0 ≤ h 32 0 ∧ h 32 0 ≤ 40) (hm : zMok sh h) (ht : zi32 t) (he : zi32 e) (hg : zi32 g) (hb : 0 ≤ b ∧ b ≤ h 32 0)  : ∀ (k : Nat) (i : Int) (s : Int), b - i < (k : Int) → 0 ≤ i → i ≤ b → zi32 s → zFor (eAp h t e g) 0 b f = zFor (eAp h t e g) i b s → zT yX2_applied cX2_applied 9 (some .int) (d + 0) 0 0 (zq (some (0, zFor (eAp h t e g) 0 b f)) n sh h) 6 [some (2, 32), some (0, t), some (0, e), some (0, f), some (0, b), some (0, g), some (0, s), some (0, i), none] [] n sh h := by
  intro k
  induction k with
  | zero => intros; exfalso; omega
  | succ k ih =>
    intro i s hk h0 h1 hs hr
    refine zt_iload dX2_applied_6 rfl ?_
    refine zt_iload dX2_applied_8 rfl ?_
    refine zt_icmp_ge (tgt := 102) dX2_applied_10 (by decide) (by omega) (by omega) (fun c_10 => ?_) (fun c_10 => ?_)
    · refine zt_iload dX2_applied_102 rfl ?_
      exact zt_iret dX2_applied_104 ⟨by rw [hr, zFor_e (by omega)], rfl, rfl, rfl⟩
    · refine zt_iload dX2_applied_13 rfl ?_
      refine zt_aload_n dX2_applied_15 rfl ?_
      refine zt_get dX2_applied_16 fl_X2_27 (zs_32 hS) ?_
      refine zt_icmp_ge (tgt := 102) dX2_applied_19 (by decide) (by omega) (hm.fld (j := 0) (zs_32 hS) (by decide) (by decide) (by decide)) (fun c_19 => ?_) (fun c_19 => ?_)
      · refine zt_iload dX2_applied_102 rfl ?_
        exact zt_iret dX2_applied_104 ⟨by rw [hr, zFor_e (by omega)], rfl, rfl, rfl⟩
      · refine zt_iload dX2_applied_22 rfl ?_
        refine zt_bipush dX2_applied_24 (by decide) ?_
        refine zt_icmp_ge (tgt := 102) dX2_applied_26 (by decide) (by omega) (by decide) (fun c_26 => ?_) (fun c_26 => ?_)
        · refine zt_iload dX2_applied_102 rfl ?_
          exact zt_iret dX2_applied_104 ⟨by rw [hr, zFor_e (by omega)], rfl, rfl, rfl⟩
        · refine zt_aload_n dX2_applied_29 rfl ?_
          refine zt_getv dX2_applied_30 fl_X2_11 (zs_32 hS) (rf_32_1 hR) ?_
          refine zt_iload dX2_applied_33 rfl ?_
          refine zt_iaload dX2_applied_35 (zs_33 hS) (by decide) (by omega) (by omega) ?_
          refine zt_iload_n dX2_applied_36 rfl ?_
          refine zt_icmp_ne (tgt := 67) dX2_applied_37 (by decide) (hm.int (zs_33 hS) (by omega) (by omega)) (by omega) (fun c_37 => ?_) (fun c_37 => ?_)
          · refine zt_iconst dX2_applied_67 ?_
            refine zt_istore_8 dX2_applied_68 (by decide) rfl ?_
            refine zt_iload dX2_applied_70 rfl ?_
            refine zt_if_eq (tgt := 96) dX2_applied_72 (by decide) (by decide) (fun c_72 => ?_) (fun q => absurd q (by decide))
            refine zt_iinc_7 dX2_applied_96 (by decide) rfl ?_
            refine zt_goto (tgt := 6) dX2_applied_99 (by decide) ?_
            refine zt_kill_8 ?_
            exact ih (i + 1) s (by omega) (by omega) (by omega) hs (by rw [hr, zFor_s (by omega)]; congr 1; unfold eAp; rw [if_neg (by omega)])
          · refine zt_aload_n dX2_applied_40 rfl ?_
            refine zt_getv dX2_applied_41 fl_X2_15 (zs_32 hS) (rf_32_2 hR) ?_
            refine zt_iload dX2_applied_44 rfl ?_
            refine zt_iaload dX2_applied_46 (zs_34 hS) (by decide) (by omega) (by omega) ?_
            refine zt_iload_n dX2_applied_47 rfl ?_
            refine zt_icmp_ne (tgt := 67) dX2_applied_48 (by decide) (hm.int (zs_34 hS) (by omega) (by omega)) (by omega) (fun c_48 => ?_) (fun c_48 => ?_)
            · refine zt_iconst dX2_applied_67 ?_
              refine zt_istore_8 dX2_applied_68 (by decide) rfl ?_
              refine zt_iload dX2_applied_70 rfl ?_
              refine zt_if_eq (tgt := 96) dX2_applied_72 (by decide) (by decide) (fun c_72 => ?_) (fun q => absurd q (by decide))
              refine zt_iinc_7 dX2_applied_96 (by decide) rfl ?_
              refine zt_goto (tgt := 6) dX2_applied_99 (by decide) ?_
              refine zt_kill_8 ?_
              exact ih (i + 1) s (by omega) (by omega) (by omega) hs (by rw [hr, zFor_s (by omega)]; congr 1; unfold eAp; rw [if_neg (by omega)])
            · refine zt_aload_n dX2_applied_51 rfl ?_
              refine zt_getv dX2_applied_52 fl_X2_24 (zs_32 hS) (rf_32_5 hR) ?_
              refine zt_iload dX2_applied_55 rfl ?_
              refine zt_iaload dX2_applied_57 (zs_37 hS) (by decide) (by omega) (by omega) ?_
              refine zt_iload dX2_applied_58 rfl ?_
              refine zt_icmp_gt (tgt := 67) dX2_applied_60 (by decide) (hm.int (zs_37 hS) (by omega) (by omega)) (by omega) (fun c_60 => ?_) (fun c_60 => ?_)
              · refine zt_iconst dX2_applied_67 ?_
                refine zt_istore_8 dX2_applied_68 (by decide) rfl ?_
                refine zt_iload dX2_applied_70 rfl ?_
                refine zt_if_eq (tgt := 96) dX2_applied_72 (by decide) (by decide) (fun c_72 => ?_) (fun q => absurd q (by decide))
                refine zt_iinc_7 dX2_applied_96 (by decide) rfl ?_
                refine zt_goto (tgt := 6) dX2_applied_99 (by decide) ?_
                refine zt_kill_8 ?_
                exact ih (i + 1) s (by omega) (by omega) (by omega) hs (by rw [hr, zFor_s (by omega)]; congr 1; unfold eAp; rw [if_neg (by omega)])
              · refine zt_iconst dX2_applied_63 ?_
                refine zt_goto (tgt := 68) dX2_applied_64 (by decide) ?_
                refine zt_istore_8 dX2_applied_68 (by decide) rfl ?_
                refine zt_iload dX2_applied_70 rfl ?_
                refine zt_if_eq (tgt := 96) dX2_applied_72 (by decide) (by decide) (fun q => absurd q (by decide)) (fun c_72 => ?_)
                refine zt_aload_n dX2_applied_75 rfl ?_
                refine zt_getv dX2_applied_76 fl_X2_18 (zs_32 hS) (rf_32_3 hR) ?_
                refine zt_iload dX2_applied_79 rfl ?_
                refine zt_iaload dX2_applied_81 (zs_35 hS) (by decide) (by omega) (by omega) ?_
                refine zt_iload dX2_applied_82 rfl ?_
                refine zt_icmp_ne (tgt := 96) dX2_applied_84 (by decide) (hm.int (zs_35 hS) (by omega) (by omega)) (by omega) (fun c_84 => ?_) (fun c_84 => ?_)
                · refine zt_iinc_7 dX2_applied_96 (by decide) rfl ?_
                  refine zt_goto (tgt := 6) dX2_applied_99 (by decide) ?_
                  refine zt_kill_8 ?_
                  exact ih (i + 1) s (by omega) (by omega) (by omega) hs (by rw [hr, zFor_s (by omega)]; congr 1; unfold eAp; rw [if_neg (by omega)])
                · refine zt_aload_n dX2_applied_87 rfl ?_
                  refine zt_getv dX2_applied_88 fl_X2_21 (zs_32 hS) (rf_32_4 hR) ?_
                  refine zt_iload dX2_applied_91 rfl ?_
                  refine zt_iaload dX2_applied_93 (zs_36 hS) (by decide) (by omega) (by omega) ?_
                  refine zt_istore_6 dX2_applied_94 (by decide) rfl ?_
                  refine zt_iinc_7 dX2_applied_96 (by decide) rfl ?_
                  refine zt_goto (tgt := 6) dX2_applied_99 (by decide) ?_
                  refine zt_kill_8 ?_
                  exact ih (i + 1) _ (by omega) (by omega) (by omega) (hm.int (zs_36 hS) (by omega) (by omega)) (by rw [hr, zFor_s (by omega)]; congr 1; unfold eAp; rw [if_pos (by omega)])

set_option maxRecDepth 100000 in
set_option maxHeartbeats 4000000 in
theorem c_eap {d n : Nat} {sh : zSh} {h : zMem} {t e f b g : Int} (hS : zShp sh) (hR : zRf h) (hc : 0 ≤ h 32 0 ∧ h 32 0 ≤ 40) (ht : zi32 t) (he : zi32 e) (hf : zi32 f) (hg : zi32 g) (hb : 0 ≤ b ∧ b ≤ h 32 0) : zF yX2_applied cX2_applied 9 (some .int) (d + 0) 0 0 [(2, 32), (0, t), (0, e), (0, f), (0, b), (0, g)] n sh h (some (0, zFor (eAp h t e g) 0 b f)) n sh h := by
  refine zF.ofT (by decide +kernel) [some (2, 32), some (0, t), some (0, e), some (0, f), some (0, b), some (0, g), none, none, none] rfl (Nat.le_of_ble_eq_true rfl) ?_
  refine zt_rg (fun hm => ?_)
  refine zt_iload_n dX2_applied_0 rfl ?_
  refine zt_istore_6 dX2_applied_1 (by decide) rfl ?_
  refine zt_iconst dX2_applied_3 ?_
  refine zt_istore_7 dX2_applied_4 (by decide) rfl ?_
  exact l_eap hS hR hc hm ht he hg hb 41 0 f (by omega) (by omega) (by omega) hf rfl
