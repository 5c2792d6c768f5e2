def jStk (h : zMem) (y : Int) : Prop := ∃ i, (0 ≤ i ∧ i < h 38 46) ∧ (h 69 i ≤ h 38 45 ∧ h 38 45 ≤ h 70 i) ∧ h 68 i = y
theorem jStk_x {h h' : zMem} (e1 : h' 68 = h 68) (e2 : h' 69 = h 69) (e3 : h' 70 = h 70) (e4 : h' 38 45 = h 38 45) (e5 : h' 38 46 = h 38 46) : jStk h' = jStk h := by funext y; unfold jStk; rw [e1, e2, e3, e4, e5]
def jM (h : zMem) (x : (Int → Int) × Int) : zMem := znew (zup h 38 44 x.2) 67 x.1
theorem jM_67 {h : zMem} {x : (Int → Int) × Int} : jM h x 67 = x.1 := znew_at
theorem jM_b {h : zMem} {x : (Int → Int) × Int} : jM h x 38 44 = x.2 := by unfold jM; rw [znew_ne (by decide)]; exact zupE
theorem jM_n {h : zMem} {x : (Int → Int) × Int} {a : Int} (ha : a ≠ 67 ∧ a ≠ 38) : jM h x a = h a := by unfold jM; rw [znew_ne ha.1, zup_ne ha.2]
theorem jM_o {h : zMem} {x : (Int → Int) × Int} {j : Int} (hj : j ≠ 44) : jM h x 38 j = h 38 j := by unfold jM; rw [znew_ne (by decide)]; exact zupJ hj
theorem jM_0 {h : zMem} : jM h (h 67, h 38 44) = h := by
  unfold jM
  rw [zup_self]; exact znew_self
theorem jM_rf {h : zMem} {x : (Int → Int) × Int} (hR : zRf h) : zRf (jM h x) := (hR.up (by decide)).new (by decide)
theorem jM_b2 {h : zMem} {x : (Int → Int) × Int} {z : Int} : zup (jM h x) 38 44 z = jM h (x.1, z) := by
  unfold jM; rw [zup_znew (by decide), zup2]
theorem jM_d {h : zMem} {g : Int → Int} {b k z : Int} : zup (jM h (g, b)) 67 k z = jM h (fun y => if y = k then z else g y, b) := by
  unfold jM; rw [znew_up]
theorem jM_s {h : zMem} {x : (Int → Int) × Int} : jStk (jM h x) = jStk h := jStk_x (jM_n (by decide)) (jM_n (by decide)) (jM_n (by decide)) (jM_o (by decide)) (jM_o (by decide))
theorem jM_B {h : zMem} {x : (Int → Int) × Int} (hB : mB h) : mB (jM h x) := by
  unfold mB; rw [jM_n (a := 46) (by decide), jM_o (by decide), jM_o (by decide), jM_o (by decide), jM_o (by decide), jM_o (by decide), jM_o (by decide), jM_o (by decide), jM_o (by decide), jM_o (by decide), jM_o (by decide)]; exact hB

set_option maxRecDepth 100000 in
set_option maxHeartbeats 4000000 in
theorem l_jsk {d n : Nat} {sh : zSh} {h : zMem} {y : Int} (hS : zShp sh) (hR : zRf h) (hB : mB h) (hm : zMok sh h) (hy : zi32 y) (b8 : 0 ≤ h 38 46 ∧ h 38 46 ≤ 12)  : ∀ (k : Nat) (i : Int), h 38 46 - i < (k : Int) → 0 ≤ i → i ≤ h 38 46 → (∀ j, 0 ≤ j → j < i → ¬ ((h 69 j ≤ h 38 45 ∧ h 38 45 ≤ h 70 j) ∧ h 68 j = y)) → zT yX11_isStuck cX11_isStuck 3 (some .boolean) (d + 1) 0 0 (zq (some (0, zbp (jStk h y))) n sh h) 2 [some (2, 38), some (0, y), some (0, i)] [] n sh h := by
  intro k
  induction k with
  | zero => intros; exfalso; omega
  | succ k ih =>
    intro i hk h0 h1 hn
    refine zt_iload_n dX11_isStuck_2 rfl ?_
    refine zt_aload_n dX11_isStuck_3 rfl ?_
    refine zt_get dX11_isStuck_4 fl_X11_353 (zs_38 hS) ?_
    refine zt_icmp_ge (tgt := 53) dX11_isStuck_7 (by decide) (by omega) (hm.fld (j := 46) (zs_38 hS) (by decide) (by decide) (by decide)) (fun c_7 => ?_) (fun c_7 => ?_)
    · refine zt_iconst dX11_isStuck_53 ?_
      exact zt_zret dX11_isStuck_54 (by decide) ⟨by rw [zbp_f (P := jStk h y) (fun ⟨j, q1, q2, q3⟩ => hn j q1.1 (by omega) ⟨q2, q3⟩)], rfl, rfl, rfl⟩
    · refine zt_aload_n dX11_isStuck_10 rfl ?_
      refine zt_getv dX11_isStuck_11 fl_X11_103 (zs_38 hS) (rf_38_47 hR) ?_
      refine zt_iload_n dX11_isStuck_14 rfl ?_
      refine zt_iaload dX11_isStuck_15 (zs_68 hS) (by decide) (by omega) (by omega) ?_
      refine zt_iload_n dX11_isStuck_16 rfl ?_
      refine zt_icmp_ne (tgt := 47) dX11_isStuck_17 (by decide) (hm.int (zs_68 hS) (by omega) (by omega)) hy (fun c_17 => ?_) (fun c_17 => ?_)
      · refine zt_iinc_2 dX11_isStuck_47 (by decide) rfl ?_
        refine zt_goto (tgt := 2) dX11_isStuck_50 (by decide) ?_
        exact ih (i + 1) (by omega) (by omega) (by omega) (fun j q1 q2 => by by_cases z : j = i; (subst z; rintro ⟨z1, z2⟩; omega); exact hn j q1 (by omega))
      · refine zt_aload_n dX11_isStuck_20 rfl ?_
        refine zt_get dX11_isStuck_21 fl_X11_350 (zs_38 hS) ?_
        refine zt_i2l dX11_isStuck_24 (hm.fld (j := 45) (zs_38 hS) (by decide) (by decide) (by decide)) ?_
        refine zt_aload_n dX11_isStuck_25 rfl ?_
        refine zt_getv dX11_isStuck_26 fl_X11_106 (zs_38 hS) (rf_38_48 hR) ?_
        refine zt_iload_n dX11_isStuck_29 rfl ?_
        refine zt_iaload dX11_isStuck_30 (zs_69 hS) (by decide) (by omega) (by omega) ?_
        refine zt_i2l dX11_isStuck_31 (hm.int (zs_69 hS) (by omega) (by omega)) ?_
        refine zt_aload_n dX11_isStuck_32 rfl ?_
        refine zt_getv dX11_isStuck_33 fl_X11_109 (zs_38 hS) (rf_38_49 hR) ?_
        refine zt_iload_n dX11_isStuck_36 rfl ?_
        refine zt_iaload dX11_isStuck_37 (zs_70 hS) (by decide) (by omega) (by omega) ?_
        refine zt_i2l dX11_isStuck_38 (hm.int (zs_70 hS) (by omega) (by omega)) ?_
        refine zt_callS3r dX11_isStuck_39 ml_X11_143 (Nat.le_of_ble_eq_true rfl) (c_min_ (x := h 38 45) (y := h 69 i) (z := h 70 i) (by have q : zi32 (h 38 45) := hm.fld (j := 45) (zs_38 hS) (by decide) (by decide) (by decide); omega) (by have q : zi32 (h 69 i) := hm.int (zs_69 hS) (by omega) (by omega); omega) (by have q : zi32 (h 70 i) := hm.int (zs_70 hS) (by omega) (by omega); omega)) ?_
        refine zt_ifb_eq (tgt := 47) dX11_isStuck_42 (by decide) (fun c_42 => ?_) (fun c_42 => ?_)
        · refine zt_iinc_2 dX11_isStuck_47 (by decide) rfl ?_
          refine zt_goto (tgt := 2) dX11_isStuck_50 (by decide) ?_
          exact ih (i + 1) (by omega) (by omega) (by omega) (fun j q1 q2 => by by_cases z : j = i; (subst z; rintro ⟨z1, z2⟩; omega); exact hn j q1 (by omega))
        · refine zt_iconst dX11_isStuck_45 ?_
          exact zt_zret dX11_isStuck_46 (by decide) ⟨by rw [zbp_t (P := jStk h y) ⟨i, by omega, by omega, by omega⟩], rfl, rfl, rfl⟩

set_option maxRecDepth 100000 in
set_option maxHeartbeats 4000000 in
theorem c_jsk {d n : Nat} {sh : zSh} {h : zMem} {y : Int} (hS : zShp sh) (hR : zRf h) (hB : mB h) (hy : zi32 y) : zF yX11_isStuck cX11_isStuck 3 (some .boolean) (d + 1) 0 0 [(2, 38), (0, y)] n sh h (some (0, zbp (jStk h y))) n sh h := by
  refine zF.ofT (by decide +kernel) [some (2, 38), some (0, y), none] rfl (Nat.le_of_ble_eq_true rfl) ?_
  refine zt_rg (fun hm => ?_)
  refine zt_iconst dX11_isStuck_0 ?_
  refine zt_istore_n_2 dX11_isStuck_1 (by decide) rfl ?_
  exact l_jsk hS hR hB hm hy hB.2.2.2.2.2.2.2.1 13 0 (by have := hB.2.2.2.2.2.2.2.1; omega) (by omega) hB.2.2.2.2.2.2.2.1.1 (fun j q1 q2 => by omega)

set_option maxRecDepth 100000 in
set_option maxHeartbeats 4000000 in
theorem l_jcol {d n : Nat} {sh : zSh} {h : zMem} {k0 b : Int} {g0 : Int → Int} {Q : Option zV → Nat → zSh → zMem → Prop} (hS : zShp sh) (hR : zRf h) (hB : mB h) (hk0 : 0 ≤ k0 ∧ k0 ≤ 3) (hK : zT yX11_turns cX11_turns 6 none (d + 2) 0 0 Q 87 [some (2, 38), some (0, k0), some (0, (eC (jStk h) k0 g0).2), none, none, none] [] n sh (jM h ((eC (jStk h) k0 g0).1, b)))  : ∀ (k : Nat) (w : Int) (c : Int) (g : Int → Int), 9 - w < (k : Int) → 0 ≤ w → w ≤ 9 → 0 ≤ c ∧ c ≤ 1 → eDig g → eC (jStk h) k0 g0 = zFor (eW (jStk h) k0) w 9 (g, c) → zT yX11_turns cX11_turns 6 none (d + 2) 0 0 Q 13 [some (2, 38), some (0, k0), some (0, c), some (0, w), none, none] [] n sh (jM h (g, b)) := by
  intro k
  induction k with
  | zero => intros; exfalso; omega
  | succ k ih =>
    intro w c g hk h0 h1 hc hd hr
    refine zt_iload_n dX11_turns_13 rfl ?_
    refine zt_bipush dX11_turns_14 (by decide) ?_
    refine zt_icmp_ge (tgt := 87) dX11_turns_16 (by decide) (by omega) (by decide) (fun c_16 => ?_) (fun c_16 => ?_)
    · refine zt_kill_3 ?_
      rw [zFor_e (by omega)] at hr
      rw [hr] at hK
      exact hK
    · refine zt_bipush dX11_turns_19 (by decide) ?_
      refine zt_iload_n dX11_turns_21 rfl ?_
      refine zt_imul dX11_turns_22 ?_
      refine zt_iload_n dX11_turns_23 rfl ?_
      refine zt_iadd dX11_turns_24 ?_
      refine zt_topv (v := k0 * 9 + w) (by omega) ?_
      refine zt_istore_4 dX11_turns_25 (by decide) rfl ?_
      have q1 := hd (k0 * 9 + w) (by omega) (by omega)
      have q2 := hd (k0 * 9 + w + 9) (by omega) (by omega)
      refine zt_aload_n dX11_turns_27 rfl ?_
      refine zt_getv dX11_turns_28 fl_X11_100 (zs_38 hS) (rf_38_43 (jM_rf hR)) ?_
      refine zt_iload dX11_turns_31 rfl ?_
      refine zt_ialoadv (v := g (k0 * 9 + w)) dX11_turns_33 (zs_67 hS) (by decide) (by omega) (by omega) (congrFun jM_67 _) ?_
      refine zt_aload_n dX11_turns_34 rfl ?_
      refine zt_getv dX11_turns_35 fl_X11_100 (zs_38 hS) (rf_38_43 (jM_rf hR)) ?_
      refine zt_iload dX11_turns_38 rfl ?_
      refine zt_bipush dX11_turns_40 (by decide) ?_
      refine zt_iadd dX11_turns_42 ?_
      refine zt_ialoadv (v := g ((k0 * 9 + w) + 9)) dX11_turns_43 (zs_67 hS) (by decide) (by omega) (by omega) (congrFun jM_67 _) ?_
      refine zt_iadd dX11_turns_44 ?_
      refine zt_iload_n dX11_turns_45 rfl ?_
      refine zt_iadd dX11_turns_46 ?_
      refine zt_istore_5 dX11_turns_47 (by decide) rfl ?_
      refine zt_aload_n dX11_turns_49 rfl ?_
      refine zt_iload dX11_turns_50 rfl ?_
      refine zt_callV1r dX11_turns_52 ml_X11_358 (zs_38 hS) (Nat.le_of_ble_eq_true rfl) (zF.of_eq (r' := some (0, zbp (jStk h (k0 * 9 + w)))) (by rw [jM_s]) rfl rfl rfl (c_jsk hS (jM_rf hR) (jM_B hB) (by omega))) ?_
      refine zt_ifp_eq (tgt := 63) dX11_turns_55 (by decide) (fun c_55 => ?_) (fun c_55 => ?_)
      · refine zt_aload_n dX11_turns_63 rfl ?_
        refine zt_getv dX11_turns_64 fl_X11_100 (zs_38 hS) (rf_38_43 (jM_rf hR)) ?_
        refine zt_iload dX11_turns_67 rfl ?_
        refine zt_iload dX11_turns_69 rfl ?_
        refine zt_bipush dX11_turns_71 (by decide) ?_
        refine zt_irem dX11_turns_73 (by omega) (by decide) (by decide) ?_
        refine zt_topv (v := ((g (k0 * 9 + w) + g (k0 * 9 + w + 9)) + c) % 10) (ztm10 (by omega)) ?_
        refine zt_iastore dX11_turns_74 (zs_67 hS) (by decide) (by omega) (by omega) (by omega) ?_
        refine zt_iload dX11_turns_75 rfl ?_
        refine zt_bipush dX11_turns_77 (by decide) ?_
        refine zt_idiv dX11_turns_79 (by omega) (by decide) (by decide) ?_
        refine zt_topv (v := ((g (k0 * 9 + w) + g (k0 * 9 + w + 9)) + c) / 10) (ztm_p (by decide) (by omega)).2 ?_
        refine zt_istore_n_2 dX11_turns_80 (by decide) rfl ?_
        refine zt_iinc_3 dX11_turns_81 (by decide) rfl ?_
        refine zt_goto (tgt := 13) dX11_turns_84 (by decide) ?_
        refine zt_kill_4 ?_
        refine zt_kill_5 ?_
        rw [jM_d]
        have hn := eW_dig (S := jStk h) (k := k0) (w := w) (x := (g, c)) (by omega) (by omega) hd (by show 0 ≤ c ∧ c ≤ 1; omega)
        have hx : eW (jStk h) k0 w (g, c) = (fun y => if y = k0 * 9 + w then (g (k0 * 9 + w) + g (k0 * 9 + w + 9) + c) % 10 else g y, (g (k0 * 9 + w) + g (k0 * 9 + w + 9) + c) / 10) := by unfold eW; rw [zite_f c_55]
        rw [hx] at hn
        exact ih (w + 1) _ _ (by omega) (by omega) (by omega) hn.2 hn.1 (by rw [hr, zFor_s (by omega), hx])
      · refine zt_iconst dX11_turns_58 ?_
        refine zt_istore_n_2 dX11_turns_59 (by decide) rfl ?_
        refine zt_goto (tgt := 81) dX11_turns_60 (by decide) ?_
        refine zt_iinc_3 dX11_turns_81 (by decide) rfl ?_
        refine zt_goto (tgt := 13) dX11_turns_84 (by decide) ?_
        refine zt_kill_4 ?_
        refine zt_kill_5 ?_
        exact ih (w + 1) 0 g (by omega) (by omega) (by omega) (by omega) hd (by rw [hr, zFor_s (by omega)]; congr 1; unfold eW; rw [zite_t c_55])

set_option maxRecDepth 100000 in
set_option maxHeartbeats 4000000 in
theorem l_jtu {d n : Nat} {sh : zSh} {h : zMem} {X : (Int → Int) × Int} (hS : zShp sh) (hR : zRf h) (hB : mB h) (b9 : 0 ≤ h 38 45 ∧ h 38 45 ≤ 100000)  : ∀ (k : Nat) (k0 : Int) (x : (Int → Int) × Int), 4 - k0 < (k : Int) → 0 ≤ k0 → k0 ≤ 4 → eDig x.1 → 0 ≤ x.2 ∧ x.2 ≤ 1000000 + k0 → X = zFor (eK (jStk h)) k0 4 x → zT yX11_turns cX11_turns 6 none (d + 2) 0 0 (zq none n sh (zup (jM h X) 38 45 (h 38 45 + 1))) 2 [some (2, 38), some (0, k0), none, none, none, none] [] n sh (jM h x) := by
  intro k
  induction k with
  | zero => intros; exfalso; omega
  | succ k ih =>
    intro k0 x hk h0 h1 hd hb hr
    refine zt_iload_n dX11_turns_2 rfl ?_
    refine zt_iconst dX11_turns_3 ?_
    refine zt_iadd dX11_turns_4 ?_
    refine zt_iconst dX11_turns_5 ?_
    refine zt_icmp_ge (tgt := 103) dX11_turns_6 (by decide) (by omega) (by decide) (fun c_6 => ?_) (fun c_6 => ?_)
    · refine zt_aload_n dX11_turns_103 rfl ?_
      refine zt_dup dX11_turns_104 (Nat.ne_of_beq_eq_false rfl) ?_
      refine zt_getv (v := h 38 45) dX11_turns_105 fl_X11_350 (zs_38 hS) (jM_o (by decide)) ?_
      refine zt_iconst dX11_turns_108 ?_
      refine zt_iadd dX11_turns_109 ?_
      refine zt_puti dX11_turns_110 fl_X11_350 rfl (zs_38 hS) (by omega) ?_
      exact zt_vret dX11_turns_113 ⟨rfl, rfl, rfl, by rw [hr, zFor_e (by omega)]⟩
    · refine zt_iconst dX11_turns_9 ?_
      refine zt_istore_n_2 dX11_turns_10 (by decide) rfl ?_
      refine zt_iconst dX11_turns_11 ?_
      refine zt_istore_n_3 dX11_turns_12 (by decide) rfl ?_
      refine l_jcol (b := x.2) (g0 := x.1) hS hR hB (by omega) ?_ 10 0 0 x.1 (by omega) (by omega) (by omega) (by omega) hd rfl
      have h9 := eC_dig (S := jStk h) (k := k0) (by omega) hd
      refine zt_aload_n dX11_turns_87 rfl ?_
      refine zt_dup dX11_turns_88 (Nat.ne_of_beq_eq_false rfl) ?_
      refine zt_getv (v := x.2) dX11_turns_89 fl_X11_347 (zs_38 hS) jM_b ?_
      refine zt_iload_n dX11_turns_92 rfl ?_
      refine zt_iadd dX11_turns_93 ?_
      refine zt_puti dX11_turns_94 fl_X11_347 rfl (zs_38 hS) (by omega) ?_
      refine zt_iinc_1 dX11_turns_97 (by decide) rfl ?_
      refine zt_goto (tgt := 2) dX11_turns_100 (by decide) ?_
      refine zt_kill_2 ?_
      rw [jM_b2]
      exact ih (k0 + 1) (eK (jStk h) k0 x) (by omega) (by omega) (by omega) h9.1 (by have e : (eK (jStk h) k0 x).2 = x.2 + (eC (jStk h) k0 x.1).2 := rfl; omega) (by rw [hr, zFor_s (by omega)])

set_option maxRecDepth 100000 in
set_option maxHeartbeats 4000000 in
theorem c_jtu {d n : Nat} {sh : zSh} {h : zMem} (hS : zShp sh) (hR : zRf h) (hB : mB h) (hdg : eDig (h 67)) (hbl : 0 ≤ h 38 44 ∧ h 38 44 ≤ 1000000) : zF yX11_turns cX11_turns 6 none (d + 2) 0 0 [(2, 38)] n sh h none n sh (zup (jM h (eT (jStk h) (h 67) (h 38 44))) 38 45 (h 38 45 + 1)) := by
  refine zF.ofT (by decide +kernel) [some (2, 38), none, none, none, none, none] rfl (Nat.le_of_ble_eq_true rfl) ?_
  refine zt_iconst dX11_turns_0 ?_
  refine zt_istore_n_1 dX11_turns_1 (by decide) rfl ?_
  have e := l_jtu (d := d) (n := n) (X := eT (jStk h) (h 67) (h 38 44)) hS hR hB hB.2.2.2.2.2.2.2.2.1 5 0 (h 67, h 38 44) (by omega) (by omega) (by omega) hdg (by show 0 ≤ h 38 44 ∧ h 38 44 ≤ 1000000 + 0; omega) rfl
  rw [jM_0] at e
  exact e

set_option maxRecDepth 100000 in
set_option maxHeartbeats 4000000 in
theorem l_jnum {d n : Nat} {sh : zSh} {h : zMem} {a : Int} (hS : zShp sh) (hR : zRf h) (ha : 0 ≤ a ∧ a ≤ 4)  : ∀ (k : Nat) (w : Int) (v : Int), w + 1 < (k : Int) → -1 ≤ w → w ≤ 8 → eNum (h 67) a = eNm (h 67) (a * 9) (w + 1).toNat v → zT yX11_number cX11_number 4 (some .int) (d + 0) 0 0 (zq (some (0, eNum (h 67) a)) n sh h) 5 [some (2, 38), some (0, a), some (0, v), some (0, w)] [] n sh h := by
  intro k
  induction k with
  | zero => intros; exfalso; omega
  | succ k ih =>
    intro w v hk h0 h1 hr
    refine zt_iload_n dX11_number_5 rfl ?_
    refine zt_if_lt (tgt := 32) dX11_number_6 (by decide) (by omega) (fun c_6 => ?_) (fun c_6 => ?_)
    · refine zt_iload_n dX11_number_32 rfl ?_
      exact zt_iret dX11_number_33 ⟨by rw [hr, show (w + 1).toNat = 0 by omega]; rfl, rfl, rfl, rfl⟩
    · refine zt_bipush dX11_number_9 (by decide) ?_
      refine zt_iload_n dX11_number_11 rfl ?_
      refine zt_imul dX11_number_12 ?_
      refine zt_aload_n dX11_number_13 rfl ?_
      refine zt_getv dX11_number_14 fl_X11_100 (zs_38 hS) (rf_38_43 hR) ?_
      refine zt_bipush dX11_number_17 (by decide) ?_
      refine zt_iload_n dX11_number_19 rfl ?_
      refine zt_imul dX11_number_20 ?_
      refine zt_iload_n dX11_number_21 rfl ?_
      refine zt_iadd dX11_number_22 ?_
      refine zt_iaload dX11_number_23 (zs_67 hS) (by decide) (by omega) (by omega) ?_
      refine zt_iadd dX11_number_24 ?_
      refine zt_istore_n_2 dX11_number_25 (by decide) rfl ?_
      refine zt_iinc_3 dX11_number_26 (by decide) rfl ?_
      refine zt_goto (tgt := 5) dX11_number_29 (by decide) ?_
      rw [show 10 * v + h 67 (9 * a + w) = v * 10 + h 67 (a * 9 + w) by rw [show 9 * a + w = a * 9 + w by omega]; omega]
      exact ih (w + (-1)) _ (by omega) (by omega) (by omega) (by rw [hr, show (w + 1).toNat = (w + (-1) + 1).toNat + 1 by omega]; show eNm _ _ (w + (-1) + 1).toNat (v * 10 + h 67 (a * 9 + ((w + (-1) + 1).toNat : Int))) = _; rw [show ((w + (-1) + 1).toNat : Int) = w by omega])

set_option maxRecDepth 100000 in
set_option maxHeartbeats 4000000 in
theorem c_jnum {d n : Nat} {sh : zSh} {h : zMem} {a : Int} (hS : zShp sh) (hR : zRf h) (ha : 0 ≤ a ∧ a ≤ 4) : zF yX11_number cX11_number 4 (some .int) (d + 0) 0 0 [(2, 38), (0, a)] n sh h (some (0, eNum (h 67) a)) n sh h := by
  refine zF.ofT (by decide +kernel) [some (2, 38), some (0, a), none, none] rfl (Nat.le_of_ble_eq_true rfl) ?_
  refine zt_iconst dX11_number_0 ?_
  refine zt_istore_n_2 dX11_number_1 (by decide) rfl ?_
  refine zt_bipush dX11_number_2 (by decide) ?_
  refine zt_istore_n_3 dX11_number_4 (by decide) rfl ?_
  exact l_jnum hS hR ha 10 8 0 (by omega) (by omega) (by omega) rfl

def jCol (h : zMem) (x : Int) : Int := if 0 ≤ x ∧ x ≤ 6 then (if x < 5 then eNum (h 67) x else if x = 5 then h 38 44 else h 38 45) else -1

set_option maxRecDepth 100000 in
set_option maxHeartbeats 4000000 in
theorem c_jcl {d n : Nat} {sh : zSh} {h : zMem} {x : Int} (hS : zShp sh) (hR : zRf h) (hB : mB h) (hx : zi32 x) : zF yX11_column cX11_column 2 (some .int) (d + 1) 0 0 [(2, 38), (0, x)] n sh h (some (0, jCol h x)) n sh h := by
  refine zF.ofT (by decide +kernel) [some (2, 38), some (0, x)] rfl (Nat.le_of_ble_eq_true rfl) ?_
  refine zt_rg (fun hm => ?_)
  have b1 := hB.1
  have b3 := hB.2.2.1
  have b4 := hB.2.2.2.1
  have b5 := hB.2.2.2.2.1
  have b6 := hB.2.2.2.2.2.1
  have b7 := hB.2.2.2.2.2.2.1
  have b8 := hB.2.2.2.2.2.2.2.1
  have b9 := hB.2.2.2.2.2.2.2.2.1
  have b10 := hB.2.2.2.2.2.2.2.2.2.1
  have b11 := hB.2.2.2.2.2.2.2.2.2.2
  refine zt_iload_n dX11_column_0 rfl ?_
  refine zt_i2l dX11_column_1 (by omega) ?_
  refine zt_lconst (v := 0) dX11_column_2 rfl ?_
  refine zt_ldc2 dX11_column_3 kc_X11_376 ?_
  refine zt_callS3r dX11_column_6 ml_X11_143 (Nat.le_of_ble_eq_true rfl) (c_min_ (x := x) (y := 0) (z := 6) (by omega) (by decide) (by decide)) ?_
  refine zt_ifb_ne (tgt := 14) dX11_column_9 (by decide) (fun c_9 => ?_) (fun c_9 => ?_)
  · refine zt_iload_n dX11_column_14 rfl ?_
    refine zt_iconst dX11_column_15 ?_
    refine zt_icmp_ge (tgt := 27) dX11_column_16 (by decide) (by omega) (by decide) (fun c_16 => ?_) (fun c_16 => ?_)
    · refine zt_iload_n dX11_column_27 rfl ?_
      refine zt_iconst dX11_column_28 ?_
      refine zt_icmp_ne (tgt := 39) dX11_column_29 (by decide) (by omega) (by decide) (fun c_29 => ?_) (fun c_29 => ?_)
      · refine zt_aload_n dX11_column_39 rfl ?_
        refine zt_get dX11_column_40 fl_X11_350 (zs_38 hS) ?_
        exact zt_iret dX11_column_43 ⟨by congr 2; unfold jCol; (repeat' split) <;> first | rfl | omega, rfl, rfl, rfl⟩
      · refine zt_aload_n dX11_column_32 rfl ?_
        refine zt_get dX11_column_33 fl_X11_347 (zs_38 hS) ?_
        refine zt_goto (tgt := 43) dX11_column_36 (by decide) ?_
        exact zt_iret dX11_column_43 ⟨by congr 2; unfold jCol; (repeat' split) <;> first | rfl | omega, rfl, rfl, rfl⟩
    · refine zt_aload_n dX11_column_19 rfl ?_
      refine zt_iload_n dX11_column_20 rfl ?_
      refine zt_callV1r dX11_column_21 ml_X11_368 (zs_38 hS) (Nat.le_of_ble_eq_true rfl) (c_jnum hS hR (by omega)) ?_
      refine zt_goto (tgt := 43) dX11_column_24 (by decide) ?_
      exact zt_iret dX11_column_43 ⟨by congr 2; unfold jCol; (repeat' split) <;> first | rfl | omega, rfl, rfl, rfl⟩
  · refine zt_iconst dX11_column_12 ?_
    exact zt_iret dX11_column_13 ⟨by congr 2; unfold jCol; (repeat' split) <;> first | rfl | omega, rfl, rfl, rfl⟩
