/-- what value() answers of a fraction -/
def fVal (x : zFr) (g : Int) : Int := if x.2 = 0 then -2147483648 else if g = 0 then x.1 else x.2
theorem mst1 {h : zMem} {f : zFr} (q : mst h [f]) : h 73 0 = f.2 ∧ (f.2 ≠ 0 → h 72 0 = f.1) ∧ fok f := ⟨q.2.1.1, q.2.1.2, q.2.2.1.1⟩

set_option maxRecDepth 100000 in
set_option maxHeartbeats 4000000 in
theorem c_jval {d n : Nat} {sh : zSh} {h : zMem} {c u v g : Int} {w : zFr → zFr} (hS : zShp sh) (hR : zRf h) (hB : mB h) (hc : zi32 c) (hu : zi32 u) (hv : zi32 v) (hg : zi32 g) (hN : ∀ c, 0 ≤ c → c < h 38 12 → 0 ≤ h 45 c ∧ h 45 c ≤ 200) (hsg : (0 ≤ c ∧ c < h 38 12) → mseg (h 43) (h 44) (200 * c) (200 * c + h 45 c) w) : zM yX11_value cX11_value 5 (some .int) (d + 4) 0 0 [(2, 38), (0, c), (0, u), (0, v), (0, g)] n sh h (fun r n1 sh1 h1 => n1 = n ∧ sh1 = sh ∧ zoM h h1 ∧ r = some (0, if ((0 ≤ c ∧ c < h 38 12) ∧ (1 ≤ v ∧ v ≤ 1000000) ∧ (0 ≤ g ∧ g ≤ 1)) then (if (fr u v).2 = 0 then -2147483648 else fVal (w (fr u v)) g) else -2147483648)) := by
  refine zM.ofT2 (by decide +kernel) [some (2, 38), some (0, c), some (0, u), some (0, v), some (0, g)] rfl (Nat.le_of_ble_eq_true rfl) ?_
  refine zt_rg (fun hm => ?_)
  have b1 := hB.1
  have b3 := hB.2.2.1
  have b4 := hB.2.2.2.1
  have b5 := hB.2.2.2.2.1
  have b6 := hB.2.2.2.2.2.1
  have b7 := hB.2.2.2.2.2.2.1
  have b8 := hB.2.2.2.2.2.2.2.1
  have b9 := hB.2.2.2.2.2.2.2.2.1
  have b10 := hB.2.2.2.2.2.2.2.2.2.1
  have b11 := hB.2.2.2.2.2.2.2.2.2.2
  refine zt_iload_n dX11_value_0 rfl ?_
  refine zt_i2l dX11_value_1 (by omega) ?_
  refine zt_lconst (v := 0) dX11_value_2 rfl ?_
  refine zt_aload_n dX11_value_3 rfl ?_
  refine zt_get dX11_value_4 fl_X11_239 (zs_38 hS) ?_
  refine zt_iconst dX11_value_7 ?_
  refine zt_isub dX11_value_8 ?_
  refine zt_i2l dX11_value_9 (by omega) ?_
  refine zt_callS3r dX11_value_10 ml_X11_143 (Nat.le_of_ble_eq_true rfl) (c_min_ (x := c) (y := 0) (z := (h 38 12) - 1) (by omega) (by decide) (by omega)) ?_
  refine zt_ifb_eq (tgt := 39) dX11_value_13 (by decide) (fun c_13 => ?_) (fun c_13 => ?_)
  · refine zt_ldc_w dX11_value_39 kc_X11_283 ?_
    exact zt_iret dX11_value_42 ⟨rfl, rfl, zoM.refl hR, by rw [if_neg (show ¬ ((0 ≤ c ∧ c < h 38 12) ∧ (1 ≤ v ∧ v ≤ 1000000) ∧ (0 ≤ g ∧ g ≤ 1)) by omega)]⟩
  · refine zt_iload_n dX11_value_16 rfl ?_
    refine zt_i2l dX11_value_17 (by omega) ?_
    refine zt_lconst (v := 1) dX11_value_18 rfl ?_
    refine zt_ldc2 dX11_value_19 kc_X11_281 ?_
    refine zt_callS3r dX11_value_22 ml_X11_143 (Nat.le_of_ble_eq_true rfl) (c_min_ (x := v) (y := 1) (z := 1000000) (by omega) (by decide) (by decide)) ?_
    refine zt_ifb_eq (tgt := 39) dX11_value_25 (by decide) (fun c_25 => ?_) (fun c_25 => ?_)
    · refine zt_ldc_w dX11_value_39 kc_X11_283 ?_
      exact zt_iret dX11_value_42 ⟨rfl, rfl, zoM.refl hR, by rw [if_neg (show ¬ ((0 ≤ c ∧ c < h 38 12) ∧ (1 ≤ v ∧ v ≤ 1000000) ∧ (0 ≤ g ∧ g ≤ 1)) by omega)]⟩
    · refine zt_iload dX11_value_28 rfl ?_
      refine zt_i2l dX11_value_30 (by omega) ?_
      refine zt_lconst (v := 0) dX11_value_31 rfl ?_
      refine zt_lconst (v := 1) dX11_value_32 rfl ?_
      refine zt_callS3r dX11_value_33 ml_X11_143 (Nat.le_of_ble_eq_true rfl) (c_min_ (x := g) (y := 0) (z := 1) (by omega) (by decide) (by decide)) ?_
      refine zt_ifb_ne (tgt := 43) dX11_value_36 (by decide) (fun c_36 => ?_) (fun c_36 => ?_)
      · refine zt_aload_n dX11_value_43 rfl ?_
        refine zt_iconst dX11_value_44 ?_
        refine zt_iload_n dX11_value_45 rfl ?_
        refine zt_i2l dX11_value_46 (by omega) ?_
        refine zt_iload_n dX11_value_47 rfl ?_
        refine zt_i2l dX11_value_48 (by omega) ?_
        refine zt_callV3v dX11_value_49 ml_X11_257 (zs_38 hS) (Nat.le_of_ble_eq_true rfl) (c_puts (x := u) (y := v) hS hR (by decide) (by omega) (by omega)) ?_
        refine zt_aload_n dX11_value_52 rfl ?_
        refine zt_getv dX11_value_53 fl_X11_119 (zs_38 hS) (rf_38_53 (mPut_rf hR)) ?_
        refine zt_iconst dX11_value_56 ?_
        refine zt_laloadv (v := (fr u v).2) dX11_value_57 (zs_73 hS) (by decide) (by decide) (by decide) (mPut_73.trans (if_pos rfl)) ?_
        refine zt_lconst (v := 0) dX11_value_58 rfl ?_
        refine zt_lc_ne (tgt := 67) dX11_value_59 dX11_value_60 (by decide) (by have := (fr_ok u v).2.1; omega) (by decide) (fun c_59 => ?_) (fun c_59 => ?_)
        · refine zt_aload_n dX11_value_67 rfl ?_
          refine zt_iload_n dX11_value_68 rfl ?_
          refine zt_iload_n dX11_value_69 rfl ?_
          refine zt_i2l dX11_value_70 (by omega) ?_
          refine zt_iload_n dX11_value_71 rfl ?_
          refine zt_i2l dX11_value_72 (by omega) ?_
          have hz0 : zoM h (mPut h 0 (fr u v).1 (fr u v).2) := zoM.put hR
          refine zt_callV3q dX11_value_73 ml_X11_284 (zs_38 hS) (Nat.le_of_ble_eq_true rfl) (c_works (w := w) (mPut_rf hR) hS (by omega) (by rw [hz0.1 45 (by decide)]; exact hN c (by omega) (by omega)) (by omega) (by omega) (by rw [hz0.1 43 (by decide), hz0.1 44 (by decide), hz0.1 45 (by decide)]; exact hsg (by omega))) ?_
          rintro r n1 sh1 h2 ⟨rfl, rfl, rfl, hz, hs⟩
          simp only [Option.toList, List.nil_append]
          have hs1 := mst1 hs
          refine zt_aload_n dX11_value_76 rfl ?_
          refine zt_getv dX11_value_77 fl_X11_119 (zs_38 hS) (rf_38_53 hz.2.2) ?_
          refine zt_iconst dX11_value_80 ?_
          refine zt_laloadv (v := (w (fr u v)).2) dX11_value_81 (zs_73 hS) (by decide) (by decide) (by decide) hs1.1 ?_
          refine zt_lconst (v := 0) dX11_value_82 rfl ?_
          refine zt_lc_ne (tgt := 93) dX11_value_83 dX11_value_84 (by decide) (by have := hs1.2.2.2.1; omega) (by decide) (fun c_83 => ?_) (fun c_83 => ?_)
          · refine zt_iload dX11_value_93 rfl ?_
            refine zt_if_ne (tgt := 107) dX11_value_95 (by decide) (by omega) (fun c_95 => ?_) (fun c_95 => ?_)
            · refine zt_aload_n dX11_value_107 rfl ?_
              refine zt_getv dX11_value_108 fl_X11_119 (zs_38 hS) (rf_38_53 hz.2.2) ?_
              refine zt_iconst dX11_value_111 ?_
              refine zt_laloadv (v := (w (fr u v)).2) dX11_value_112 (zs_73 hS) (by decide) (by decide) (by decide) hs1.1 ?_
              refine zt_l2i dX11_value_113 ?_
              exact zt_iret dX11_value_114 ⟨rfl, rfl, hz0.trans hz, by rw [if_pos (show ((0 ≤ c ∧ c < h 38 12) ∧ (1 ≤ v ∧ v ≤ 1000000) ∧ (0 ≤ g ∧ g ≤ 1)) by omega), if_neg c_59]; congr 2; unfold fVal; first | (rw [if_pos c_83]; done) | (rw [if_neg c_83]; first | (rw [if_pos (by omega)]; done) | (rw [if_neg (by omega)]; done))⟩
            · refine zt_aload_n dX11_value_98 rfl ?_
              refine zt_getv dX11_value_99 fl_X11_115 (zs_38 hS) (rf_38_52 hz.2.2) ?_
              refine zt_iconst dX11_value_102 ?_
              refine zt_laloadv (v := (w (fr u v)).1) dX11_value_103 (zs_72 hS) (by decide) (by decide) (by decide) (hs1.2.1 c_83) ?_
              refine zt_goto (tgt := 113) dX11_value_104 (by decide) ?_
              refine zt_l2i dX11_value_113 ?_
              exact zt_iret dX11_value_114 ⟨rfl, rfl, hz0.trans hz, by rw [if_pos (show ((0 ≤ c ∧ c < h 38 12) ∧ (1 ≤ v ∧ v ≤ 1000000) ∧ (0 ≤ g ∧ g ≤ 1)) by omega), if_neg c_59]; congr 2; unfold fVal; first | (rw [if_pos c_83]; done) | (rw [if_neg c_83]; first | (rw [if_pos (by omega)]; done) | (rw [if_neg (by omega)]; done))⟩
          · refine zt_ldc_w dX11_value_87 kc_X11_283 ?_
            refine zt_goto (tgt := 114) dX11_value_90 (by decide) ?_
            exact zt_iret dX11_value_114 ⟨rfl, rfl, hz0.trans hz, by rw [if_pos (show ((0 ≤ c ∧ c < h 38 12) ∧ (1 ≤ v ∧ v ≤ 1000000) ∧ (0 ≤ g ∧ g ≤ 1)) by omega), if_neg c_59]; congr 2; unfold fVal; first | (rw [if_pos c_83]; done) | (rw [if_neg c_83]; first | (rw [if_pos (by omega)]; done) | (rw [if_neg (by omega)]; done))⟩
        · refine zt_ldc_w dX11_value_63 kc_X11_283 ?_
          exact zt_iret dX11_value_66 ⟨rfl, rfl, zoM.put hR, by rw [if_pos (show ((0 ≤ c ∧ c < h 38 12) ∧ (1 ≤ v ∧ v ≤ 1000000) ∧ (0 ≤ g ∧ g ≤ 1)) by omega), if_pos c_59]⟩
      · refine zt_ldc_w dX11_value_39 kc_X11_283 ?_
        exact zt_iret dX11_value_42 ⟨rfl, rfl, zoM.refl hR, by rw [if_neg (show ¬ ((0 ≤ c ∧ c < h 38 12) ∧ (1 ≤ v ∧ v ≤ 1000000) ∧ (0 ≤ g ∧ g ≤ 1)) by omega)]⟩

theorem rdn_0 {s : Int} : ∀ k, rdn 0 s k = 0
  | 0 => rfl
  | k + 1 => by show rdg (0 % 10) s + 10 * rdn (0 / 10) s k = 0; rw [show (0 : Int) / 10 = 0 from rfl, rdn_0 k]; rfl
theorem rdn_x {s : Int} : ∀ (k : Nat) (w : Int), 0 ≤ w → w < ztenN k → rdn w s (k + 1) = rdn w s k
  | 0, w, h0, h => by have e : ztenN 0 = 1 := rfl; have : w = 0 := by omega
                      subst this; exact rdn_0 1
  | k + 1, w, h0, h => by
    have e : ztenN (k + 1) = ztenN k * 10 := rfl
    show rdg (w % 10) s + 10 * rdn (w / 10) s (k + 1) = rdg (w % 10) s + 10 * rdn (w / 10) s k
    rw [rdn_x k (w / 10) (by omega) (by omega)]
theorem zt10 (k : Nat) : k = 0 ∨ ∃ q : Int, ztenN k = 10 * q := by
  cases k with
  | zero => left; rfl
  | succ k => right; exact ⟨ztenN k, by show ztenN k * 10 = 10 * ztenN k; omega⟩
def jRd (h : zMem) (t i : Int) : Int := if jG h t i then (if h 53 (30 * t + i) < 0 then -rdn (zabs (h 53 (30 * t + i))) (h 61 (30 * t + i)) 9 else rdn (zabs (h 53 (30 * t + i))) (h 61 (30 * t + i)) 9) else -2147483648

theorem jrd_z {R v u l s : Int} {k : Nat} (hr : R = v + u * rdn l s k) (h : l = 0) : R = v := by
  subst h; rw [rdn_0] at hr; omega

set_option maxRecDepth 100000 in
set_option maxHeartbeats 4000000 in
theorem l_jrd {d n : Nat} {sh : zSh} {h : zMem} {t i e X R : Int} (hS : zShp sh) (hR : zRf h) (hm : zMok sh h) (he : 0 ≤ e ∧ e < 150) (hf : -999999999 ≤ h 53 e ∧ h 53 e ≤ 999999999) (hR1 : X = if h 53 e < 0 then -R else R)  : ∀ (k : Nat) (l : Int) (v : Int) (u : Int), 10 * l + 9 < ztenN k → (0 ≤ l ∧ l ≤ 999999999) → R = v + u * rdn l (h 61 e) k → zT yX11_read cX11_read 7 (some .int) (d + 1) 0 0 (zq (some (0, X)) n sh h) 52 [some (2, 38), some (0, t), some (0, i), some (0, e), some (0, l), some (0, v), some (0, u)] [] n sh h := by
  intro k
  induction k with
  | zero => intro l v u hk hl hr; have e0 : ztenN 0 = 1 := rfl; omega
  | succ k ih =>
    intro l v u hk hl hr
    refine zt_iload dX11_read_52 rfl ?_
    refine zt_if_le (tgt := 96) dX11_read_54 (by decide) (by omega) (fun c_54 => ?_) (fun c_54 => ?_)
    · refine zt_aload_n dX11_read_96 rfl ?_
      refine zt_getv dX11_read_97 fl_X11_53 (zs_38 hS) (rf_38_27 hR) ?_
      refine zt_iload_n dX11_read_100 rfl ?_
      refine zt_iaload dX11_read_101 (zs_53 hS) (by decide) (by omega) (by omega) ?_
      refine zt_if_ge (tgt := 111) dX11_read_102 (by decide) (hm.int (zs_53 hS) (by omega) (by omega)) (fun c_102 => ?_) (fun c_102 => ?_)
      · refine zt_iload dX11_read_111 rfl ?_
        exact zt_iret dX11_read_113 ⟨by rw [hR1, jrd_z hr (show l = 0 by omega)]; first | (rw [if_pos (by omega)]; done) | (rw [if_neg (by omega)]; done), rfl, rfl, rfl⟩
      · refine zt_iload dX11_read_105 rfl ?_
        refine zt_ineg dX11_read_107 ?_
        refine zt_goto (tgt := 113) dX11_read_108 (by decide) ?_
        exact zt_iret dX11_read_113 ⟨by rw [hR1, jrd_z hr (show l = 0 by omega)]; first | (rw [if_pos (by omega)]; done) | (rw [if_neg (by omega)]; done), rfl, rfl, rfl⟩
    · refine zt_iload dX11_read_57 rfl ?_
      refine zt_iload dX11_read_59 rfl ?_
      refine zt_bipush dX11_read_61 (by decide) ?_
      refine zt_irem dX11_read_63 (by omega) (by decide) (by decide) ?_
      refine zt_topv (v := l % 10) (Int.tmod_eq_emod_of_nonneg (by omega)) ?_
      refine zt_aload_n dX11_read_64 rfl ?_
      refine zt_getv dX11_read_65 fl_X11_82 (zs_38 hS) (rf_38_36 hR) ?_
      refine zt_iload_n dX11_read_68 rfl ?_
      refine zt_iaload dX11_read_69 (zs_61 hS) (by decide) (by omega) (by omega) ?_
      refine zt_callS2r dX11_read_70 ml_X11_427 (Nat.le_of_ble_eq_true rfl) (c_jrdg (by omega) (hm.int (zs_61 hS) (by omega) (by omega))) ?_
      refine zt_iload dX11_read_73 rfl ?_
      refine zt_imul dX11_read_75 ?_
      refine zt_iadd dX11_read_76 ?_
      refine zt_istore_5 dX11_read_77 (by decide) rfl ?_
      refine zt_iload dX11_read_79 rfl ?_
      refine zt_bipush dX11_read_81 (by decide) ?_
      refine zt_imul dX11_read_83 ?_
      refine zt_istore_6 dX11_read_84 (by decide) rfl ?_
      refine zt_iload dX11_read_86 rfl ?_
      refine zt_bipush dX11_read_88 (by decide) ?_
      refine zt_idiv dX11_read_90 (by omega) (by decide) (by decide) ?_
      refine zt_topv (v := l / 10) (Int.tdiv_eq_ediv_of_nonneg (by omega)) ?_
      refine zt_istore_4 dX11_read_91 (by decide) rfl ?_
      refine zt_goto (tgt := 52) dX11_read_93 (by decide) ?_
      exact ih (l / 10) _ _ (by rcases zt10 k with rfl | ⟨q, hq⟩ <;> (have e0 : ztenN 0 = 1 := rfl; have e1 : ztenN (0 + 1) = 10 := rfl; have e2 := hk; first | omega | (have e3 : ztenN (k + 1) = ztenN k * 10 := rfl; omega))) (by omega) (by rw [hr]; show v + u * (rdg (l % 10) (h 61 e) + 10 * rdn (l / 10) (h 61 e) k) = _; rw [Int.mul_add, Int.mul_comm u (rdg _ _), Int.mul_assoc u 10]; omega)

set_option maxRecDepth 100000 in
set_option maxHeartbeats 4000000 in
theorem c_jrd {d n : Nat} {sh : zSh} {h : zMem} {t i : Int} (hS : zShp sh) (hR : zRf h) (hB : mB h) (ht : zi32 t) (hi : zi32 i) (hf : jG h t i → -999999999 ≤ h 53 (30 * t + i) ∧ h 53 (30 * t + i) ≤ 999999999) : zF yX11_read cX11_read 7 (some .int) (d + 4) 0 0 [(2, 38), (0, t), (0, i)] n sh h (some (0, jRd h t i)) n sh h := by
  refine zF.ofT (by decide +kernel) [some (2, 38), some (0, t), some (0, i), none, none, none, none] rfl (Nat.le_of_ble_eq_true rfl) ?_
  refine zt_rg (fun hm => ?_)
  have b1 := hB.1
  have b3 := hB.2.2.1
  have b4 := hB.2.2.2.1
  have b5 := hB.2.2.2.2.1
  have b6 := hB.2.2.2.2.2.1
  have b7 := hB.2.2.2.2.2.2.1
  have b8 := hB.2.2.2.2.2.2.2.1
  have b9 := hB.2.2.2.2.2.2.2.2.1
  have b10 := hB.2.2.2.2.2.2.2.2.2.1
  have b11 := hB.2.2.2.2.2.2.2.2.2.2
  refine zt_aload_n dX11_read_0 rfl ?_
  refine zt_iload_n dX11_read_1 rfl ?_
  refine zt_iload_n dX11_read_2 rfl ?_
  refine zt_callV2r dX11_read_3 ml_X11_424 (zs_38 hS) (Nat.le_of_ble_eq_true rfl) (c_jG hS hR hB (by omega) (by omega)) ?_
  refine zt_ifb_ne (tgt := 13) dX11_read_6 (by decide) (fun c_6 => ?_) (fun c_6 => ?_)
  · have hb := hB.2.1 t c_6.2.1.1.1 c_6.2.1.1.2
    refine zt_iload_n dX11_read_13 rfl ?_
    refine zt_iload_n dX11_read_14 rfl ?_
    refine zt_callS2r dX11_read_15 ml_X11_316 (Nat.le_of_ble_eq_true rfl) (c_place) ?_
    refine zt_istore_n_3 dX11_read_18 (by decide) rfl ?_
    refine zt_aload_n dX11_read_19 rfl ?_
    refine zt_getv dX11_read_20 fl_X11_53 (zs_38 hS) (rf_38_27 hR) ?_
    refine zt_iload_n dX11_read_23 rfl ?_
    refine zt_iaload dX11_read_24 (zs_53 hS) (by decide) (by omega) (by omega) ?_
    refine zt_if_ge (tgt := 38) dX11_read_25 (by decide) (hm.int (zs_53 hS) (by omega) (by omega)) (fun c_25 => ?_) (fun c_25 => ?_)
    · refine zt_aload_n dX11_read_38 rfl ?_
      refine zt_getv dX11_read_39 fl_X11_53 (zs_38 hS) (rf_38_27 hR) ?_
      refine zt_iload_n dX11_read_42 rfl ?_
      refine zt_iaload dX11_read_43 (zs_53 hS) (by decide) (by omega) (by omega) ?_
      refine zt_istore_4 dX11_read_44 (by decide) rfl ?_
      refine zt_iconst dX11_read_46 ?_
      refine zt_istore_5 dX11_read_47 (by decide) rfl ?_
      refine zt_iconst dX11_read_49 ?_
      refine zt_istore_6 dX11_read_50 (by decide) rfl ?_
      have he2 : jRd h t i = if h 53 (30 * t + i) < 0 then -rdn (zabs (h 53 (30 * t + i))) (h 61 (30 * t + i)) 9 else rdn (zabs (h 53 (30 * t + i))) (h 61 (30 * t + i)) 9 := if_pos c_6
      rw [he2]
      have hfz := hf c_6
      have hza : zabs (h 53 (30 * t + i)) = h 53 (30 * t + i) := by unfold zabs; first | rw [if_pos (by omega)] | rw [if_neg (by omega)]
      have e11 : ztenN 11 = 100000000000 := by decide
      have e9 : ztenN 9 = 1000000000 := by decide
      have e10 : ztenN 10 = 10000000000 := by decide
      exact l_jrd hS hR hm (by omega) hfz rfl 11 (h 53 (30 * t + i)) 0 1 (by omega) (by omega) (by rw [hza, Int.one_mul, Int.zero_add]; exact ((rdn_x 10 _ (by omega) (by omega)).trans (rdn_x 9 _ (by omega) (by omega))).symm)
    · refine zt_aload_n dX11_read_28 rfl ?_
      refine zt_getv dX11_read_29 fl_X11_53 (zs_38 hS) (rf_38_27 hR) ?_
      refine zt_iload_n dX11_read_32 rfl ?_
      refine zt_iaload dX11_read_33 (zs_53 hS) (by decide) (by omega) (by omega) ?_
      refine zt_ineg dX11_read_34 ?_
      refine zt_goto (tgt := 44) dX11_read_35 (by decide) ?_
      refine zt_istore_4 dX11_read_44 (by decide) rfl ?_
      refine zt_iconst dX11_read_46 ?_
      refine zt_istore_5 dX11_read_47 (by decide) rfl ?_
      refine zt_iconst dX11_read_49 ?_
      refine zt_istore_6 dX11_read_50 (by decide) rfl ?_
      have he2 : jRd h t i = if h 53 (30 * t + i) < 0 then -rdn (zabs (h 53 (30 * t + i))) (h 61 (30 * t + i)) 9 else rdn (zabs (h 53 (30 * t + i))) (h 61 (30 * t + i)) 9 := if_pos c_6
      rw [he2]
      have hfz := hf c_6
      have hza : zabs (h 53 (30 * t + i)) = -(h 53 (30 * t + i)) := by unfold zabs; first | rw [if_pos (by omega)] | rw [if_neg (by omega)]
      have e11 : ztenN 11 = 100000000000 := by decide
      have e9 : ztenN 9 = 1000000000 := by decide
      have e10 : ztenN 10 = 10000000000 := by decide
      exact l_jrd hS hR hm (by omega) hfz rfl 11 (-(h 53 (30 * t + i))) 0 1 (by omega) (by omega) (by rw [hza, Int.one_mul, Int.zero_add]; exact ((rdn_x 10 _ (by omega) (by omega)).trans (rdn_x 9 _ (by omega) (by omega))).symm)
  · refine zt_ldc_w dX11_read_9 kc_X11_283 ?_
    exact zt_iret dX11_read_12 ⟨by congr 2; exact (if_neg c_6).symm, rfl, rfl, rfl⟩
