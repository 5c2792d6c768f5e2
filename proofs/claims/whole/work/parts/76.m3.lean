/-- TRUE of all ENTRIES can be written -/
def vTok (h : zMem) : Prop := ∀ e, 0 ≤ e → e < 150 → h 47 e = -2147483648 ∨ (-999999999 ≤ h 47 e ∧ h 47 e ≤ 999999999)
abbrev jWd (h : zMem) (a w t i : Int) : Prop := (0 ≤ a ∧ a < h 38 20) ∧ (0 ≤ w ∧ w ≤ 2) ∧ jE h t i
def jWo (h : zMem) (a w t i : Int) : Int := if jWd h a w t i then hWr h a w (h 47 (30 * t + i)) else -2147483648
abbrev jWk (h : zMem) (a w t i : Int) : Prop := (jWd h a w t i ∧ h 58 t = 0) ∧ (hWr h a w (h 47 (30 * t + i)) ≠ -2147483648 ∧ h 57 (30 * t + i) = -1) ∧ ¬ ((h 51 (30 * t + i) = a ∧ h 54 (30 * t + i) = -1) ∨ (¬ (h 51 (30 * t + i) = -1 ∨ h 51 (30 * t + i) = a) ∧ h 54 (30 * t + i) ≠ -1 ∧ h 54 (30 * t + i) ≠ a))
def jWm (h : zMem) (a w e v g : Int) : zMem :=
  if h 51 e = -1 ∨ h 51 e = a then
    (if h 54 e ≠ -1 ∧ v = h 56 e ∧ w ≠ h 55 e then zup (zup (zup (zup h 51 e a) 52 e w) 53 e v) 57 e g else zup (zup (zup h 51 e a) 52 e w) 53 e v)
  else (if h 53 e = v ∧ h 52 e ≠ w then zup (zup (zup (zup h 54 e a) 55 e w) 56 e v) 57 e g else zup (zup (zup h 54 e a) 55 e w) 56 e v)

set_option maxRecDepth 100000 in
set_option maxHeartbeats 4000000 in
theorem c_jwo {d n : Nat} {sh : zSh} {h : zMem} {a w t i : Int} (hS : zShp sh) (hR : zRf h) (hB : mB h) (hV : vHab h) (hTk : vTok h) (ha : zi32 a) (hw : zi32 w) (ht : zi32 t) (hi : zi32 i) : zF yX11_would cX11_would 5 (some .int) (d + 3) 0 0 [(2, 38), (0, a), (0, w), (0, t), (0, i)] n sh h (some (0, jWo h a w t i)) n sh h := by
  refine zF.ofT (by decide +kernel) [some (2, 38), some (0, a), some (0, w), some (0, t), some (0, i)] rfl (Nat.le_of_ble_eq_true rfl) ?_
  refine zt_rg (fun hm => ?_)
  have b1 := hB.1
  have b3 := hB.2.2.1
  have b4 := hB.2.2.2.1
  have b5 := hB.2.2.2.2.1
  have b6 := hB.2.2.2.2.2.1
  have b7 := hB.2.2.2.2.2.2.1
  have b8 := hB.2.2.2.2.2.2.2.1
  have b9 := hB.2.2.2.2.2.2.2.2.1
  have b10 := hB.2.2.2.2.2.2.2.2.2.1
  have b11 := hB.2.2.2.2.2.2.2.2.2.2
  refine zt_aload_n dX11_would_0 rfl ?_
  refine zt_iload_n dX11_would_1 rfl ?_
  refine zt_callV1r dX11_would_2 ml_X11_322 (zs_38 hS) (Nat.le_of_ble_eq_true rfl) (c_jH hS hR hB (by omega)) ?_
  refine zt_ifb_eq (tgt := 45) dX11_would_5 (by decide) (fun c_5 => ?_) (fun c_5 => ?_)
  · refine zt_ldc_w dX11_would_45 kc_X11_283 ?_
    exact zt_iret dX11_would_48 ⟨by congr 2; unfold jWo; (repeat' split) <;> omega, rfl, rfl, rfl⟩
  · refine zt_iload_n dX11_would_8 rfl ?_
    refine zt_i2l dX11_would_9 (by omega) ?_
    refine zt_lconst (v := 0) dX11_would_10 rfl ?_
    refine zt_ldc2 dX11_would_11 kc_X11_252 ?_
    refine zt_callS3r dX11_would_14 ml_X11_143 (Nat.le_of_ble_eq_true rfl) (c_min_ (x := w) (y := 0) (z := 2) (by omega) (by decide) (by decide)) ?_
    refine zt_ifb_eq (tgt := 45) dX11_would_17 (by decide) (fun c_17 => ?_) (fun c_17 => ?_)
    · refine zt_ldc_w dX11_would_45 kc_X11_283 ?_
      exact zt_iret dX11_would_48 ⟨by congr 2; unfold jWo; (repeat' split) <;> omega, rfl, rfl, rfl⟩
    · refine zt_aload_n dX11_would_20 rfl ?_
      refine zt_iload_n dX11_would_21 rfl ?_
      refine zt_iload dX11_would_22 rfl ?_
      refine zt_callV2r dX11_would_24 ml_X11_313 (zs_38 hS) (Nat.le_of_ble_eq_true rfl) (c_jE hS hR hB (by omega) (by omega)) ?_
      refine zt_ifb_eq (tgt := 45) dX11_would_27 (by decide) (fun c_27 => ?_) (fun c_27 => ?_)
      · refine zt_ldc_w dX11_would_45 kc_X11_283 ?_
        exact zt_iret dX11_would_48 ⟨by congr 2; unfold jWo; (repeat' split) <;> omega, rfl, rfl, rfl⟩
      · have hb := hB.2.1 t c_27.1.1 c_27.1.2
        refine zt_aload_n dX11_would_30 rfl ?_
        refine zt_iload_n dX11_would_31 rfl ?_
        refine zt_iload_n dX11_would_32 rfl ?_
        refine zt_iload_n dX11_would_33 rfl ?_
        refine zt_iload dX11_would_34 rfl ?_
        refine zt_callS2r dX11_would_36 ml_X11_316 (Nat.le_of_ble_eq_true rfl) (c_place) ?_
        refine zt_callV3r dX11_would_39 ml_X11_328 (zs_38 hS) (Nat.le_of_ble_eq_true rfl) (c_jwr hS hR hV ha hw (by omega) (hTk _ (by omega) (by omega))) ?_
        refine zt_goto (tgt := 48) dX11_would_42 (by decide) ?_
        exact zt_iret dX11_would_48 ⟨by congr 2; unfold jWo; (repeat' split) <;> omega, rfl, rfl, rfl⟩

theorem hWr_z {h : zMem} {a w x : Int} (hb : hbOK h) (hx : x = -2147483648 ∨ (-999999999 ≤ x ∧ x ≤ 999999999)) : zi32 (hWr h a w x) := by
  unfold hWr
  split
  · decide
  · have h1 := zFor_r (a := a) (w := w) hb (h 10 1).toNat 0 (zabs x) (by have := hb.2.1; omega) (by omega) (by unfold zabs; split <;> omega)
    split <;> omega

set_option maxRecDepth 100000 in
set_option maxHeartbeats 4000000 in
theorem c_jwk {d n : Nat} {sh : zSh} {h : zMem} {a w t i : Int} (hS : zShp sh) (hR : zRf h) (hB : mB h) (hV : vHab h) (hTk : vTok h) (ha : zi32 a) (hw : zi32 w) (ht : zi32 t) (hi : zi32 i) : zF yX11_work cX11_work 8 (some .int) (d + 3) 0 0 [(2, 38), (0, a), (0, w), (0, t), (0, i)] n sh h (some (0, (if jWk h a w t i then hWr h a w (h 47 (30 * t + i)) else -2147483648))) n sh (if jWk h a w t i then jWm h a w (30 * t + i) (hWr h a w (h 47 (30 * t + i))) (h 38 16) else h) := by
  refine zF.ofT (by decide +kernel) [some (2, 38), some (0, a), some (0, w), some (0, t), some (0, i), none, none, none] rfl (Nat.le_of_ble_eq_true rfl) ?_
  refine zt_rg (fun hm => ?_)
  have b1 := hB.1
  have b3 := hB.2.2.1
  have b4 := hB.2.2.2.1
  have b5 := hB.2.2.2.2.1
  have b6 := hB.2.2.2.2.2.1
  have b7 := hB.2.2.2.2.2.2.1
  have b8 := hB.2.2.2.2.2.2.2.1
  have b9 := hB.2.2.2.2.2.2.2.2.1
  have b10 := hB.2.2.2.2.2.2.2.2.2.1
  have b11 := hB.2.2.2.2.2.2.2.2.2.2
  refine zt_aload_n dX11_work_0 rfl ?_
  refine zt_iload_n dX11_work_1 rfl ?_
  refine zt_callV1r dX11_work_2 ml_X11_322 (zs_38 hS) (Nat.le_of_ble_eq_true rfl) (c_jH hS hR hB (by omega)) ?_
  refine zt_ifb_eq (tgt := 39) dX11_work_5 (by decide) (fun c_5 => ?_) (fun c_5 => ?_)
  · refine zt_ldc_w dX11_work_39 kc_X11_283 ?_
    exact zt_iret dX11_work_42 ⟨by rw [if_neg (by omega)], rfl, rfl, by rw [if_neg (by omega)]⟩
  · refine zt_iload_n dX11_work_8 rfl ?_
    refine zt_i2l dX11_work_9 (by omega) ?_
    refine zt_lconst (v := 0) dX11_work_10 rfl ?_
    refine zt_ldc2 dX11_work_11 kc_X11_252 ?_
    refine zt_callS3r dX11_work_14 ml_X11_143 (Nat.le_of_ble_eq_true rfl) (c_min_ (x := w) (y := 0) (z := 2) (by omega) (by decide) (by decide)) ?_
    refine zt_ifb_eq (tgt := 39) dX11_work_17 (by decide) (fun c_17 => ?_) (fun c_17 => ?_)
    · refine zt_ldc_w dX11_work_39 kc_X11_283 ?_
      exact zt_iret dX11_work_42 ⟨by rw [if_neg (by omega)], rfl, rfl, by rw [if_neg (by omega)]⟩
    · refine zt_aload_n dX11_work_20 rfl ?_
      refine zt_iload_n dX11_work_21 rfl ?_
      refine zt_iload dX11_work_22 rfl ?_
      refine zt_callV2r dX11_work_24 ml_X11_313 (zs_38 hS) (Nat.le_of_ble_eq_true rfl) (c_jE hS hR hB (by omega) (by omega)) ?_
      refine zt_ifb_eq (tgt := 39) dX11_work_27 (by decide) (fun c_27 => ?_) (fun c_27 => ?_)
      · refine zt_ldc_w dX11_work_39 kc_X11_283 ?_
        exact zt_iret dX11_work_42 ⟨by rw [if_neg (by omega)], rfl, rfl, by rw [if_neg (by omega)]⟩
      · have hb := hB.2.1 t c_27.1.1 c_27.1.2
        refine zt_aload_n dX11_work_30 rfl ?_
        refine zt_getv dX11_work_31 fl_X11_68 (zs_38 hS) (rf_38_32 hR) ?_
        refine zt_iload_n dX11_work_34 rfl ?_
        refine zt_zaload dX11_work_35 (zs_58 hS) (by decide) (by omega) (by omega) ?_
        refine zt_if_eq (tgt := 43) dX11_work_36 (by decide) (zbool (hm.bool (zs_58 hS) (by omega) (by omega))) (fun c_36 => ?_) (fun c_36 => ?_)
        · refine zt_iload_n dX11_work_43 rfl ?_
          refine zt_iload dX11_work_44 rfl ?_
          refine zt_callS2r dX11_work_46 ml_X11_316 (Nat.le_of_ble_eq_true rfl) (c_place) ?_
          refine zt_istore_5 dX11_work_49 (by decide) rfl ?_
          refine zt_aload_n dX11_work_51 rfl ?_
          refine zt_iload_n dX11_work_52 rfl ?_
          refine zt_iload_n dX11_work_53 rfl ?_
          refine zt_iload dX11_work_54 rfl ?_
          refine zt_callV3r dX11_work_56 ml_X11_328 (zs_38 hS) (Nat.le_of_ble_eq_true rfl) (c_jwr hS hR hV ha hw (by omega) (hTk _ (by omega) (by omega))) ?_
          obtain ⟨v, hv⟩ : ∃ v, v = hWr h a w (h 47 (30 * t + i)) := ⟨_, rfl⟩
          have hvr : zi32 v := by rw [hv]; exact hWr_z hV.2.2.1 (hTk (30 * t + i) (by omega) (by omega))
          refine zt_topv (v := v) hv.symm ?_
          refine zt_istore_6 dX11_work_59 (by decide) rfl ?_
          refine zt_iload dX11_work_61 rfl ?_
          refine zt_ldc_w dX11_work_63 kc_X11_283 ?_
          refine zt_icmp_eq (tgt := 78) dX11_work_66 (by decide) (by omega) (by decide) (fun c_66 => ?_) (fun c_66 => ?_)
          · refine zt_ldc_w dX11_work_78 kc_X11_283 ?_
            exact zt_iret dX11_work_81 ⟨by rw [if_neg (by omega)], rfl, rfl, by rw [if_neg (by omega)]⟩
          · refine zt_aload_n dX11_work_69 rfl ?_
            refine zt_iload dX11_work_70 rfl ?_
            refine zt_callV1r dX11_work_72 ml_X11_332 (zs_38 hS) (Nat.le_of_ble_eq_true rfl) (c_jA hS hR hB (by omega)) ?_
            refine zt_ifb_eq (tgt := 82) dX11_work_75 (by decide) (fun c_75 => ?_) (fun c_75 => ?_)
            · refine zt_aload_n dX11_work_82 rfl ?_
              refine zt_getv dX11_work_83 fl_X11_47 (zs_38 hS) (rf_38_25 hR) ?_
              refine zt_iload dX11_work_86 rfl ?_
              refine zt_iaload dX11_work_88 (zs_51 hS) (by decide) (by omega) (by omega) ?_
              refine zt_iconst dX11_work_89 ?_
              refine zt_icmp_eq (tgt := 104) dX11_work_90 (by decide) (hm.int (zs_51 hS) (by omega) (by omega)) (by decide) (fun c_90 => ?_) (fun c_90 => ?_)
              · refine zt_iconst dX11_work_104 ?_
                refine zt_goto (tgt := 109) dX11_work_105 (by decide) ?_
                refine zt_istore_7 dX11_work_109 (by decide) rfl ?_
                refine zt_aload_n dX11_work_111 rfl ?_
                refine zt_getv dX11_work_112 fl_X11_47 (zs_38 hS) (rf_38_25 hR) ?_
                refine zt_iload dX11_work_115 rfl ?_
                refine zt_iaload dX11_work_117 (zs_51 hS) (by decide) (by omega) (by omega) ?_
                refine zt_iload_n dX11_work_118 rfl ?_
                refine zt_icmp_ne (tgt := 133) dX11_work_119 (by decide) (hm.int (zs_51 hS) (by omega) (by omega)) (by omega) (fun c_119 => ?_) (fun c_119 => ?_)
                · refine zt_iload dX11_work_133 rfl ?_
                  refine zt_if_ne (tgt := 164) dX11_work_135 (by decide) (by decide) (fun c_135 => ?_) (fun q => absurd q (by decide))
                  refine zt_iload dX11_work_164 rfl ?_
                  refine zt_if_eq (tgt := 197) dX11_work_166 (by decide) (by decide) (fun q => absurd q (by decide)) (fun c_166 => ?_)
                  refine zt_aload_n dX11_work_169 rfl ?_
                  refine zt_getv dX11_work_170 fl_X11_47 (zs_38 hS) (rf_38_25 hR) ?_
                  refine zt_iload dX11_work_173 rfl ?_
                  refine zt_iload_n dX11_work_175 rfl ?_
                  refine zt_iastore dX11_work_176 (zs_51 hS) (by decide) (by omega) (by omega) (by omega) ?_
                  refine zt_aload_n dX11_work_177 rfl ?_
                  refine zt_getv dX11_work_178 fl_X11_50 (zs_38 hS) (rf_38_26 (hR.upA (by decide))) ?_
                  refine zt_iload dX11_work_181 rfl ?_
                  refine zt_iload_n dX11_work_183 rfl ?_
                  refine zt_iastore dX11_work_184 (zs_52 hS) (by decide) (by omega) (by omega) (by omega) ?_
                  refine zt_aload_n dX11_work_185 rfl ?_
                  refine zt_getv dX11_work_186 fl_X11_53 (zs_38 hS) (rf_38_27 ((hR.upA (by decide)).upA (by decide))) ?_
                  refine zt_iload dX11_work_189 rfl ?_
                  refine zt_iload dX11_work_191 rfl ?_
                  refine zt_iastore dX11_work_193 (zs_53 hS) (by decide) (by omega) (by omega) (by omega) ?_
                  refine zt_goto (tgt := 222) dX11_work_194 (by decide) ?_
                  refine zt_aload_n dX11_work_222 rfl ?_
                  refine zt_getv dX11_work_223 fl_X11_56 (zs_38 hS) (rf_38_28 (((hR.upA (by decide)).upA (by decide)).upA (by decide))) ?_
                  refine zt_iload dX11_work_226 rfl ?_
                  refine zt_ialoadv (v := h 54 (30 * t + i)) dX11_work_228 (zs_54 hS) (by decide) (by omega) (by omega) ((zupA (by decide)).trans ((zupA (by decide)).trans ((zupA (by decide)).trans rfl))) ?_
                  refine zt_iconst dX11_work_229 ?_
                  refine zt_icmp_eq (tgt := 278) dX11_work_230 (by decide) (hm.int (zs_54 hS) (by omega) (by omega)) (by decide) (fun c_230 => ?_) (fun c_230 => ?_)
                  · refine zt_iload dX11_work_278 rfl ?_
                    exact zt_iret dX11_work_280 ⟨by rw [if_pos (by omega), hv], rfl, rfl, by rw [if_pos (by omega), ← hv]; unfold jWm; (repeat' split) <;> first | rfl | (exfalso; omega)⟩
                  · refine zt_aload_n dX11_work_233 rfl ?_
                    refine zt_getv dX11_work_234 fl_X11_53 (zs_38 hS) (rf_38_27 (((hR.upA (by decide)).upA (by decide)).upA (by decide))) ?_
                    refine zt_iload dX11_work_237 rfl ?_
                    refine zt_ialoadv (v := v) dX11_work_239 (zs_53 hS) (by decide) (by omega) (by omega) zupE ?_
                    refine zt_aload_n dX11_work_240 rfl ?_
                    refine zt_getv dX11_work_241 fl_X11_62 (zs_38 hS) (rf_38_30 (((hR.upA (by decide)).upA (by decide)).upA (by decide))) ?_
                    refine zt_iload dX11_work_244 rfl ?_
                    refine zt_ialoadv (v := h 56 (30 * t + i)) dX11_work_246 (zs_56 hS) (by decide) (by omega) (by omega) ((zupA (by decide)).trans ((zupA (by decide)).trans ((zupA (by decide)).trans rfl))) ?_
                    refine zt_icmp_ne (tgt := 278) dX11_work_247 (by decide) (by omega) (hm.int (zs_56 hS) (by omega) (by omega)) (fun c_247 => ?_) (fun c_247 => ?_)
                    · refine zt_iload dX11_work_278 rfl ?_
                      exact zt_iret dX11_work_280 ⟨by rw [if_pos (by omega), hv], rfl, rfl, by rw [if_pos (by omega), ← hv]; unfold jWm; (repeat' split) <;> first | rfl | (exfalso; omega)⟩
                    · refine zt_aload_n dX11_work_250 rfl ?_
                      refine zt_getv dX11_work_251 fl_X11_50 (zs_38 hS) (rf_38_26 (((hR.upA (by decide)).upA (by decide)).upA (by decide))) ?_
                      refine zt_iload dX11_work_254 rfl ?_
                      refine zt_ialoadv (v := w) dX11_work_256 (zs_52 hS) (by decide) (by omega) (by omega) ((zupA (by decide)).trans zupE) ?_
                      refine zt_aload_n dX11_work_257 rfl ?_
                      refine zt_getv dX11_work_258 fl_X11_59 (zs_38 hS) (rf_38_29 (((hR.upA (by decide)).upA (by decide)).upA (by decide))) ?_
                      refine zt_iload dX11_work_261 rfl ?_
                      refine zt_ialoadv (v := h 55 (30 * t + i)) dX11_work_263 (zs_55 hS) (by decide) (by omega) (by omega) ((zupA (by decide)).trans ((zupA (by decide)).trans ((zupA (by decide)).trans rfl))) ?_
                      refine zt_icmp_eq (tgt := 278) dX11_work_264 (by decide) (by omega) (hm.int (zs_55 hS) (by omega) (by omega)) (fun c_264 => ?_) (fun c_264 => ?_)
                      · refine zt_iload dX11_work_278 rfl ?_
                        exact zt_iret dX11_work_280 ⟨by rw [if_pos (by omega), hv], rfl, rfl, by rw [if_pos (by omega), ← hv]; unfold jWm; (repeat' split) <;> first | rfl | (exfalso; omega)⟩
                      · refine zt_aload_n dX11_work_267 rfl ?_
                        refine zt_getv dX11_work_268 fl_X11_65 (zs_38 hS) (rf_38_31 (((hR.upA (by decide)).upA (by decide)).upA (by decide))) ?_
                        refine zt_iload dX11_work_271 rfl ?_
                        refine zt_aload_n dX11_work_273 rfl ?_
                        refine zt_getv (v := h 38 16) dX11_work_274 fl_X11_287 (zs_38 hS) ((zupA (by decide)).trans ((zupA (by decide)).trans ((zupA (by decide)).trans rfl))) ?_
                        refine zt_iastore dX11_work_277 (zs_57 hS) (by decide) (by omega) (by omega) (by omega) ?_
                        refine zt_iload dX11_work_278 rfl ?_
                        exact zt_iret dX11_work_280 ⟨by rw [if_pos (by omega), hv], rfl, rfl, by rw [if_pos (by omega), ← hv]; unfold jWm; (repeat' split) <;> first | rfl | (exfalso; omega)⟩
                · refine zt_aload_n dX11_work_122 rfl ?_
                  refine zt_getv dX11_work_123 fl_X11_56 (zs_38 hS) (rf_38_28 hR) ?_
                  refine zt_iload dX11_work_126 rfl ?_
                  refine zt_iaload dX11_work_128 (zs_54 hS) (by decide) (by omega) (by omega) ?_
                  refine zt_iconst dX11_work_129 ?_
                  refine zt_icmp_eq (tgt := 160) dX11_work_130 (by decide) (hm.int (zs_54 hS) (by omega) (by omega)) (by decide) (fun c_130 => ?_) (fun c_130 => ?_)
                  · refine zt_ldc_w dX11_work_160 kc_X11_283 ?_
                    exact zt_iret dX11_work_163 ⟨by rw [if_neg (by omega)], rfl, rfl, by rw [if_neg (by omega)]⟩
                  · refine zt_iload dX11_work_133 rfl ?_
                    refine zt_if_ne (tgt := 164) dX11_work_135 (by decide) (by decide) (fun c_135 => ?_) (fun q => absurd q (by decide))
                    refine zt_iload dX11_work_164 rfl ?_
                    refine zt_if_eq (tgt := 197) dX11_work_166 (by decide) (by decide) (fun q => absurd q (by decide)) (fun c_166 => ?_)
                    refine zt_aload_n dX11_work_169 rfl ?_
                    refine zt_getv dX11_work_170 fl_X11_47 (zs_38 hS) (rf_38_25 hR) ?_
                    refine zt_iload dX11_work_173 rfl ?_
                    refine zt_iload_n dX11_work_175 rfl ?_
                    refine zt_iastore dX11_work_176 (zs_51 hS) (by decide) (by omega) (by omega) (by omega) ?_
                    refine zt_aload_n dX11_work_177 rfl ?_
                    refine zt_getv dX11_work_178 fl_X11_50 (zs_38 hS) (rf_38_26 (hR.upA (by decide))) ?_
                    refine zt_iload dX11_work_181 rfl ?_
                    refine zt_iload_n dX11_work_183 rfl ?_
                    refine zt_iastore dX11_work_184 (zs_52 hS) (by decide) (by omega) (by omega) (by omega) ?_
                    refine zt_aload_n dX11_work_185 rfl ?_
                    refine zt_getv dX11_work_186 fl_X11_53 (zs_38 hS) (rf_38_27 ((hR.upA (by decide)).upA (by decide))) ?_
                    refine zt_iload dX11_work_189 rfl ?_
                    refine zt_iload dX11_work_191 rfl ?_
                    refine zt_iastore dX11_work_193 (zs_53 hS) (by decide) (by omega) (by omega) (by omega) ?_
                    refine zt_goto (tgt := 222) dX11_work_194 (by decide) ?_
                    refine zt_aload_n dX11_work_222 rfl ?_
                    refine zt_getv dX11_work_223 fl_X11_56 (zs_38 hS) (rf_38_28 (((hR.upA (by decide)).upA (by decide)).upA (by decide))) ?_
                    refine zt_iload dX11_work_226 rfl ?_
                    refine zt_ialoadv (v := h 54 (30 * t + i)) dX11_work_228 (zs_54 hS) (by decide) (by omega) (by omega) ((zupA (by decide)).trans ((zupA (by decide)).trans ((zupA (by decide)).trans rfl))) ?_
                    refine zt_iconst dX11_work_229 ?_
                    refine zt_icmp_eq (tgt := 278) dX11_work_230 (by decide) (hm.int (zs_54 hS) (by omega) (by omega)) (by decide) (fun c_230 => ?_) (fun c_230 => ?_)
                    · refine zt_iload dX11_work_278 rfl ?_
                      exact zt_iret dX11_work_280 ⟨by rw [if_pos (by omega), hv], rfl, rfl, by rw [if_pos (by omega), ← hv]; unfold jWm; (repeat' split) <;> first | rfl | (exfalso; omega)⟩
                    · refine zt_aload_n dX11_work_233 rfl ?_
                      refine zt_getv dX11_work_234 fl_X11_53 (zs_38 hS) (rf_38_27 (((hR.upA (by decide)).upA (by decide)).upA (by decide))) ?_
                      refine zt_iload dX11_work_237 rfl ?_
                      refine zt_ialoadv (v := v) dX11_work_239 (zs_53 hS) (by decide) (by omega) (by omega) zupE ?_
                      refine zt_aload_n dX11_work_240 rfl ?_
                      refine zt_getv dX11_work_241 fl_X11_62 (zs_38 hS) (rf_38_30 (((hR.upA (by decide)).upA (by decide)).upA (by decide))) ?_
                      refine zt_iload dX11_work_244 rfl ?_
                      refine zt_ialoadv (v := h 56 (30 * t + i)) dX11_work_246 (zs_56 hS) (by decide) (by omega) (by omega) ((zupA (by decide)).trans ((zupA (by decide)).trans ((zupA (by decide)).trans rfl))) ?_
                      refine zt_icmp_ne (tgt := 278) dX11_work_247 (by decide) (by omega) (hm.int (zs_56 hS) (by omega) (by omega)) (fun c_247 => ?_) (fun c_247 => ?_)
                      · refine zt_iload dX11_work_278 rfl ?_
                        exact zt_iret dX11_work_280 ⟨by rw [if_pos (by omega), hv], rfl, rfl, by rw [if_pos (by omega), ← hv]; unfold jWm; (repeat' split) <;> first | rfl | (exfalso; omega)⟩
                      · refine zt_aload_n dX11_work_250 rfl ?_
                        refine zt_getv dX11_work_251 fl_X11_50 (zs_38 hS) (rf_38_26 (((hR.upA (by decide)).upA (by decide)).upA (by decide))) ?_
                        refine zt_iload dX11_work_254 rfl ?_
                        refine zt_ialoadv (v := w) dX11_work_256 (zs_52 hS) (by decide) (by omega) (by omega) ((zupA (by decide)).trans zupE) ?_
                        refine zt_aload_n dX11_work_257 rfl ?_
                        refine zt_getv dX11_work_258 fl_X11_59 (zs_38 hS) (rf_38_29 (((hR.upA (by decide)).upA (by decide)).upA (by decide))) ?_
                        refine zt_iload dX11_work_261 rfl ?_
                        refine zt_ialoadv (v := h 55 (30 * t + i)) dX11_work_263 (zs_55 hS) (by decide) (by omega) (by omega) ((zupA (by decide)).trans ((zupA (by decide)).trans ((zupA (by decide)).trans rfl))) ?_
                        refine zt_icmp_eq (tgt := 278) dX11_work_264 (by decide) (by omega) (hm.int (zs_55 hS) (by omega) (by omega)) (fun c_264 => ?_) (fun c_264 => ?_)
                        · refine zt_iload dX11_work_278 rfl ?_
                          exact zt_iret dX11_work_280 ⟨by rw [if_pos (by omega), hv], rfl, rfl, by rw [if_pos (by omega), ← hv]; unfold jWm; (repeat' split) <;> first | rfl | (exfalso; omega)⟩
                        · refine zt_aload_n dX11_work_267 rfl ?_
                          refine zt_getv dX11_work_268 fl_X11_65 (zs_38 hS) (rf_38_31 (((hR.upA (by decide)).upA (by decide)).upA (by decide))) ?_
                          refine zt_iload dX11_work_271 rfl ?_
                          refine zt_aload_n dX11_work_273 rfl ?_
                          refine zt_getv (v := h 38 16) dX11_work_274 fl_X11_287 (zs_38 hS) ((zupA (by decide)).trans ((zupA (by decide)).trans ((zupA (by decide)).trans rfl))) ?_
                          refine zt_iastore dX11_work_277 (zs_57 hS) (by decide) (by omega) (by omega) (by omega) ?_
                          refine zt_iload dX11_work_278 rfl ?_
                          exact zt_iret dX11_work_280 ⟨by rw [if_pos (by omega), hv], rfl, rfl, by rw [if_pos (by omega), ← hv]; unfold jWm; (repeat' split) <;> first | rfl | (exfalso; omega)⟩
              · refine zt_aload_n dX11_work_93 rfl ?_
                refine zt_getv dX11_work_94 fl_X11_47 (zs_38 hS) (rf_38_25 hR) ?_
                refine zt_iload dX11_work_97 rfl ?_
                refine zt_iaload dX11_work_99 (zs_51 hS) (by decide) (by omega) (by omega) ?_
                refine zt_iload_n dX11_work_100 rfl ?_
                refine zt_icmp_ne (tgt := 108) dX11_work_101 (by decide) (hm.int (zs_51 hS) (by omega) (by omega)) (by omega) (fun c_101 => ?_) (fun c_101 => ?_)
                · refine zt_iconst dX11_work_108 ?_
                  refine zt_istore_7 dX11_work_109 (by decide) rfl ?_
                  refine zt_aload_n dX11_work_111 rfl ?_
                  refine zt_getv dX11_work_112 fl_X11_47 (zs_38 hS) (rf_38_25 hR) ?_
                  refine zt_iload dX11_work_115 rfl ?_
                  refine zt_iaload dX11_work_117 (zs_51 hS) (by decide) (by omega) (by omega) ?_
                  refine zt_iload_n dX11_work_118 rfl ?_
                  refine zt_icmp_ne (tgt := 133) dX11_work_119 (by decide) (hm.int (zs_51 hS) (by omega) (by omega)) (by omega) (fun c_119 => ?_) (fun c_119 => ?_)
                  · refine zt_iload dX11_work_133 rfl ?_
                    refine zt_if_ne (tgt := 164) dX11_work_135 (by decide) (by decide) (fun q => absurd q (by decide)) (fun c_135 => ?_)
                    refine zt_aload_n dX11_work_138 rfl ?_
                    refine zt_getv dX11_work_139 fl_X11_56 (zs_38 hS) (rf_38_28 hR) ?_
                    refine zt_iload dX11_work_142 rfl ?_
                    refine zt_iaload dX11_work_144 (zs_54 hS) (by decide) (by omega) (by omega) ?_
                    refine zt_iconst dX11_work_145 ?_
                    refine zt_icmp_eq (tgt := 164) dX11_work_146 (by decide) (hm.int (zs_54 hS) (by omega) (by omega)) (by decide) (fun c_146 => ?_) (fun c_146 => ?_)
                    · refine zt_iload dX11_work_164 rfl ?_
                      refine zt_if_eq (tgt := 197) dX11_work_166 (by decide) (by decide) (fun c_166 => ?_) (fun q => absurd q (by decide))
                      refine zt_aload_n dX11_work_197 rfl ?_
                      refine zt_getv dX11_work_198 fl_X11_56 (zs_38 hS) (rf_38_28 hR) ?_
                      refine zt_iload dX11_work_201 rfl ?_
                      refine zt_iload_n dX11_work_203 rfl ?_
                      refine zt_iastore dX11_work_204 (zs_54 hS) (by decide) (by omega) (by omega) (by omega) ?_
                      refine zt_aload_n dX11_work_205 rfl ?_
                      refine zt_getv dX11_work_206 fl_X11_59 (zs_38 hS) (rf_38_29 (hR.upA (by decide))) ?_
                      refine zt_iload dX11_work_209 rfl ?_
                      refine zt_iload_n dX11_work_211 rfl ?_
                      refine zt_iastore dX11_work_212 (zs_55 hS) (by decide) (by omega) (by omega) (by omega) ?_
                      refine zt_aload_n dX11_work_213 rfl ?_
                      refine zt_getv dX11_work_214 fl_X11_62 (zs_38 hS) (rf_38_30 ((hR.upA (by decide)).upA (by decide))) ?_
                      refine zt_iload dX11_work_217 rfl ?_
                      refine zt_iload dX11_work_219 rfl ?_
                      refine zt_iastore dX11_work_221 (zs_56 hS) (by decide) (by omega) (by omega) (by omega) ?_
                      refine zt_aload_n dX11_work_222 rfl ?_
                      refine zt_getv dX11_work_223 fl_X11_56 (zs_38 hS) (rf_38_28 (((hR.upA (by decide)).upA (by decide)).upA (by decide))) ?_
                      refine zt_iload dX11_work_226 rfl ?_
                      refine zt_ialoadv (v := a) dX11_work_228 (zs_54 hS) (by decide) (by omega) (by omega) ((zupA (by decide)).trans ((zupA (by decide)).trans zupE)) ?_
                      refine zt_iconst dX11_work_229 ?_
                      refine zt_icmp_eq (tgt := 278) dX11_work_230 (by decide) (by omega) (by decide) (fun c_230 => ?_) (fun c_230 => ?_)
                      · refine zt_iload dX11_work_278 rfl ?_
                        exact zt_iret dX11_work_280 ⟨by rw [if_pos (by omega), hv], rfl, rfl, by rw [if_pos (by omega), ← hv]; unfold jWm; (repeat' split) <;> first | rfl | (exfalso; omega)⟩
                      · refine zt_aload_n dX11_work_233 rfl ?_
                        refine zt_getv dX11_work_234 fl_X11_53 (zs_38 hS) (rf_38_27 (((hR.upA (by decide)).upA (by decide)).upA (by decide))) ?_
                        refine zt_iload dX11_work_237 rfl ?_
                        refine zt_ialoadv (v := h 53 (30 * t + i)) dX11_work_239 (zs_53 hS) (by decide) (by omega) (by omega) ((zupA (by decide)).trans ((zupA (by decide)).trans ((zupA (by decide)).trans rfl))) ?_
                        refine zt_aload_n dX11_work_240 rfl ?_
                        refine zt_getv dX11_work_241 fl_X11_62 (zs_38 hS) (rf_38_30 (((hR.upA (by decide)).upA (by decide)).upA (by decide))) ?_
                        refine zt_iload dX11_work_244 rfl ?_
                        refine zt_ialoadv (v := v) dX11_work_246 (zs_56 hS) (by decide) (by omega) (by omega) zupE ?_
                        refine zt_icmp_ne (tgt := 278) dX11_work_247 (by decide) (hm.int (zs_53 hS) (by omega) (by omega)) (by omega) (fun c_247 => ?_) (fun c_247 => ?_)
                        · refine zt_iload dX11_work_278 rfl ?_
                          exact zt_iret dX11_work_280 ⟨by rw [if_pos (by omega), hv], rfl, rfl, by rw [if_pos (by omega), ← hv]; unfold jWm; (repeat' split) <;> first | rfl | (exfalso; omega)⟩
                        · refine zt_aload_n dX11_work_250 rfl ?_
                          refine zt_getv dX11_work_251 fl_X11_50 (zs_38 hS) (rf_38_26 (((hR.upA (by decide)).upA (by decide)).upA (by decide))) ?_
                          refine zt_iload dX11_work_254 rfl ?_
                          refine zt_ialoadv (v := h 52 (30 * t + i)) dX11_work_256 (zs_52 hS) (by decide) (by omega) (by omega) ((zupA (by decide)).trans ((zupA (by decide)).trans ((zupA (by decide)).trans rfl))) ?_
                          refine zt_aload_n dX11_work_257 rfl ?_
                          refine zt_getv dX11_work_258 fl_X11_59 (zs_38 hS) (rf_38_29 (((hR.upA (by decide)).upA (by decide)).upA (by decide))) ?_
                          refine zt_iload dX11_work_261 rfl ?_
                          refine zt_ialoadv (v := w) dX11_work_263 (zs_55 hS) (by decide) (by omega) (by omega) ((zupA (by decide)).trans zupE) ?_
                          refine zt_icmp_eq (tgt := 278) dX11_work_264 (by decide) (hm.int (zs_52 hS) (by omega) (by omega)) (by omega) (fun c_264 => ?_) (fun c_264 => ?_)
                          · refine zt_iload dX11_work_278 rfl ?_
                            exact zt_iret dX11_work_280 ⟨by rw [if_pos (by omega), hv], rfl, rfl, by rw [if_pos (by omega), ← hv]; unfold jWm; (repeat' split) <;> first | rfl | (exfalso; omega)⟩
                          · refine zt_aload_n dX11_work_267 rfl ?_
                            refine zt_getv dX11_work_268 fl_X11_65 (zs_38 hS) (rf_38_31 (((hR.upA (by decide)).upA (by decide)).upA (by decide))) ?_
                            refine zt_iload dX11_work_271 rfl ?_
                            refine zt_aload_n dX11_work_273 rfl ?_
                            refine zt_getv (v := h 38 16) dX11_work_274 fl_X11_287 (zs_38 hS) ((zupA (by decide)).trans ((zupA (by decide)).trans ((zupA (by decide)).trans rfl))) ?_
                            refine zt_iastore dX11_work_277 (zs_57 hS) (by decide) (by omega) (by omega) (by omega) ?_
                            refine zt_iload dX11_work_278 rfl ?_
                            exact zt_iret dX11_work_280 ⟨by rw [if_pos (by omega), hv], rfl, rfl, by rw [if_pos (by omega), ← hv]; unfold jWm; (repeat' split) <;> first | rfl | (exfalso; omega)⟩
                    · refine zt_aload_n dX11_work_149 rfl ?_
                      refine zt_getv dX11_work_150 fl_X11_56 (zs_38 hS) (rf_38_28 hR) ?_
                      refine zt_iload dX11_work_153 rfl ?_
                      refine zt_iaload dX11_work_155 (zs_54 hS) (by decide) (by omega) (by omega) ?_
                      refine zt_iload_n dX11_work_156 rfl ?_
                      refine zt_icmp_eq (tgt := 164) dX11_work_157 (by decide) (hm.int (zs_54 hS) (by omega) (by omega)) (by omega) (fun c_157 => ?_) (fun c_157 => ?_)
                      · refine zt_iload dX11_work_164 rfl ?_
                        refine zt_if_eq (tgt := 197) dX11_work_166 (by decide) (by decide) (fun c_166 => ?_) (fun q => absurd q (by decide))
                        refine zt_aload_n dX11_work_197 rfl ?_
                        refine zt_getv dX11_work_198 fl_X11_56 (zs_38 hS) (rf_38_28 hR) ?_
                        refine zt_iload dX11_work_201 rfl ?_
                        refine zt_iload_n dX11_work_203 rfl ?_
                        refine zt_iastore dX11_work_204 (zs_54 hS) (by decide) (by omega) (by omega) (by omega) ?_
                        refine zt_aload_n dX11_work_205 rfl ?_
                        refine zt_getv dX11_work_206 fl_X11_59 (zs_38 hS) (rf_38_29 (hR.upA (by decide))) ?_
                        refine zt_iload dX11_work_209 rfl ?_
                        refine zt_iload_n dX11_work_211 rfl ?_
                        refine zt_iastore dX11_work_212 (zs_55 hS) (by decide) (by omega) (by omega) (by omega) ?_
                        refine zt_aload_n dX11_work_213 rfl ?_
                        refine zt_getv dX11_work_214 fl_X11_62 (zs_38 hS) (rf_38_30 ((hR.upA (by decide)).upA (by decide))) ?_
                        refine zt_iload dX11_work_217 rfl ?_
                        refine zt_iload dX11_work_219 rfl ?_
                        refine zt_iastore dX11_work_221 (zs_56 hS) (by decide) (by omega) (by omega) (by omega) ?_
                        refine zt_aload_n dX11_work_222 rfl ?_
                        refine zt_getv dX11_work_223 fl_X11_56 (zs_38 hS) (rf_38_28 (((hR.upA (by decide)).upA (by decide)).upA (by decide))) ?_
                        refine zt_iload dX11_work_226 rfl ?_
                        refine zt_ialoadv (v := a) dX11_work_228 (zs_54 hS) (by decide) (by omega) (by omega) ((zupA (by decide)).trans ((zupA (by decide)).trans zupE)) ?_
                        refine zt_iconst dX11_work_229 ?_
                        refine zt_icmp_eq (tgt := 278) dX11_work_230 (by decide) (by omega) (by decide) (fun c_230 => ?_) (fun c_230 => ?_)
                        · refine zt_iload dX11_work_278 rfl ?_
                          exact zt_iret dX11_work_280 ⟨by rw [if_pos (by omega), hv], rfl, rfl, by rw [if_pos (by omega), ← hv]; unfold jWm; (repeat' split) <;> first | rfl | (exfalso; omega)⟩
                        · refine zt_aload_n dX11_work_233 rfl ?_
                          refine zt_getv dX11_work_234 fl_X11_53 (zs_38 hS) (rf_38_27 (((hR.upA (by decide)).upA (by decide)).upA (by decide))) ?_
                          refine zt_iload dX11_work_237 rfl ?_
                          refine zt_ialoadv (v := h 53 (30 * t + i)) dX11_work_239 (zs_53 hS) (by decide) (by omega) (by omega) ((zupA (by decide)).trans ((zupA (by decide)).trans ((zupA (by decide)).trans rfl))) ?_
                          refine zt_aload_n dX11_work_240 rfl ?_
                          refine zt_getv dX11_work_241 fl_X11_62 (zs_38 hS) (rf_38_30 (((hR.upA (by decide)).upA (by decide)).upA (by decide))) ?_
                          refine zt_iload dX11_work_244 rfl ?_
                          refine zt_ialoadv (v := v) dX11_work_246 (zs_56 hS) (by decide) (by omega) (by omega) zupE ?_
                          refine zt_icmp_ne (tgt := 278) dX11_work_247 (by decide) (hm.int (zs_53 hS) (by omega) (by omega)) (by omega) (fun c_247 => ?_) (fun c_247 => ?_)
                          · refine zt_iload dX11_work_278 rfl ?_
                            exact zt_iret dX11_work_280 ⟨by rw [if_pos (by omega), hv], rfl, rfl, by rw [if_pos (by omega), ← hv]; unfold jWm; (repeat' split) <;> first | rfl | (exfalso; omega)⟩
                          · refine zt_aload_n dX11_work_250 rfl ?_
                            refine zt_getv dX11_work_251 fl_X11_50 (zs_38 hS) (rf_38_26 (((hR.upA (by decide)).upA (by decide)).upA (by decide))) ?_
                            refine zt_iload dX11_work_254 rfl ?_
                            refine zt_ialoadv (v := h 52 (30 * t + i)) dX11_work_256 (zs_52 hS) (by decide) (by omega) (by omega) ((zupA (by decide)).trans ((zupA (by decide)).trans ((zupA (by decide)).trans rfl))) ?_
                            refine zt_aload_n dX11_work_257 rfl ?_
                            refine zt_getv dX11_work_258 fl_X11_59 (zs_38 hS) (rf_38_29 (((hR.upA (by decide)).upA (by decide)).upA (by decide))) ?_
                            refine zt_iload dX11_work_261 rfl ?_
                            refine zt_ialoadv (v := w) dX11_work_263 (zs_55 hS) (by decide) (by omega) (by omega) ((zupA (by decide)).trans zupE) ?_
                            refine zt_icmp_eq (tgt := 278) dX11_work_264 (by decide) (hm.int (zs_52 hS) (by omega) (by omega)) (by omega) (fun c_264 => ?_) (fun c_264 => ?_)
                            · refine zt_iload dX11_work_278 rfl ?_
                              exact zt_iret dX11_work_280 ⟨by rw [if_pos (by omega), hv], rfl, rfl, by rw [if_pos (by omega), ← hv]; unfold jWm; (repeat' split) <;> first | rfl | (exfalso; omega)⟩
                            · refine zt_aload_n dX11_work_267 rfl ?_
                              refine zt_getv dX11_work_268 fl_X11_65 (zs_38 hS) (rf_38_31 (((hR.upA (by decide)).upA (by decide)).upA (by decide))) ?_
                              refine zt_iload dX11_work_271 rfl ?_
                              refine zt_aload_n dX11_work_273 rfl ?_
                              refine zt_getv (v := h 38 16) dX11_work_274 fl_X11_287 (zs_38 hS) ((zupA (by decide)).trans ((zupA (by decide)).trans ((zupA (by decide)).trans rfl))) ?_
                              refine zt_iastore dX11_work_277 (zs_57 hS) (by decide) (by omega) (by omega) (by omega) ?_
                              refine zt_iload dX11_work_278 rfl ?_
                              exact zt_iret dX11_work_280 ⟨by rw [if_pos (by omega), hv], rfl, rfl, by rw [if_pos (by omega), ← hv]; unfold jWm; (repeat' split) <;> first | rfl | (exfalso; omega)⟩
                      · refine zt_ldc_w dX11_work_160 kc_X11_283 ?_
                        exact zt_iret dX11_work_163 ⟨by rw [if_neg (by omega)], rfl, rfl, by rw [if_neg (by omega)]⟩
                  · refine zt_aload_n dX11_work_122 rfl ?_
                    refine zt_getv dX11_work_123 fl_X11_56 (zs_38 hS) (rf_38_28 hR) ?_
                    refine zt_iload dX11_work_126 rfl ?_
                    refine zt_iaload dX11_work_128 (zs_54 hS) (by decide) (by omega) (by omega) ?_
                    refine zt_iconst dX11_work_129 ?_
                    refine zt_icmp_eq (tgt := 160) dX11_work_130 (by decide) (hm.int (zs_54 hS) (by omega) (by omega)) (by decide) (fun c_130 => ?_) (fun c_130 => ?_)
                    · refine zt_ldc_w dX11_work_160 kc_X11_283 ?_
                      exact zt_iret dX11_work_163 ⟨by rw [if_neg (by omega)], rfl, rfl, by rw [if_neg (by omega)]⟩
                    · refine zt_iload dX11_work_133 rfl ?_
                      refine zt_if_ne (tgt := 164) dX11_work_135 (by decide) (by decide) (fun q => absurd q (by decide)) (fun c_135 => ?_)
                      refine zt_aload_n dX11_work_138 rfl ?_
                      refine zt_getv dX11_work_139 fl_X11_56 (zs_38 hS) (rf_38_28 hR) ?_
                      refine zt_iload dX11_work_142 rfl ?_
                      refine zt_iaload dX11_work_144 (zs_54 hS) (by decide) (by omega) (by omega) ?_
                      refine zt_iconst dX11_work_145 ?_
                      refine zt_icmp_eq (tgt := 164) dX11_work_146 (by decide) (hm.int (zs_54 hS) (by omega) (by omega)) (by decide) (fun c_146 => ?_) (fun c_146 => ?_)
                      · refine zt_iload dX11_work_164 rfl ?_
                        refine zt_if_eq (tgt := 197) dX11_work_166 (by decide) (by decide) (fun c_166 => ?_) (fun q => absurd q (by decide))
                        refine zt_aload_n dX11_work_197 rfl ?_
                        refine zt_getv dX11_work_198 fl_X11_56 (zs_38 hS) (rf_38_28 hR) ?_
                        refine zt_iload dX11_work_201 rfl ?_
                        refine zt_iload_n dX11_work_203 rfl ?_
                        refine zt_iastore dX11_work_204 (zs_54 hS) (by decide) (by omega) (by omega) (by omega) ?_
                        refine zt_aload_n dX11_work_205 rfl ?_
                        refine zt_getv dX11_work_206 fl_X11_59 (zs_38 hS) (rf_38_29 (hR.upA (by decide))) ?_
                        refine zt_iload dX11_work_209 rfl ?_
                        refine zt_iload_n dX11_work_211 rfl ?_
                        refine zt_iastore dX11_work_212 (zs_55 hS) (by decide) (by omega) (by omega) (by omega) ?_
                        refine zt_aload_n dX11_work_213 rfl ?_
                        refine zt_getv dX11_work_214 fl_X11_62 (zs_38 hS) (rf_38_30 ((hR.upA (by decide)).upA (by decide))) ?_
                        refine zt_iload dX11_work_217 rfl ?_
                        refine zt_iload dX11_work_219 rfl ?_
                        refine zt_iastore dX11_work_221 (zs_56 hS) (by decide) (by omega) (by omega) (by omega) ?_
                        refine zt_aload_n dX11_work_222 rfl ?_
                        refine zt_getv dX11_work_223 fl_X11_56 (zs_38 hS) (rf_38_28 (((hR.upA (by decide)).upA (by decide)).upA (by decide))) ?_
                        refine zt_iload dX11_work_226 rfl ?_
                        refine zt_ialoadv (v := a) dX11_work_228 (zs_54 hS) (by decide) (by omega) (by omega) ((zupA (by decide)).trans ((zupA (by decide)).trans zupE)) ?_
                        refine zt_iconst dX11_work_229 ?_
                        refine zt_icmp_eq (tgt := 278) dX11_work_230 (by decide) (by omega) (by decide) (fun c_230 => ?_) (fun c_230 => ?_)
                        · refine zt_iload dX11_work_278 rfl ?_
                          exact zt_iret dX11_work_280 ⟨by rw [if_pos (by omega), hv], rfl, rfl, by rw [if_pos (by omega), ← hv]; unfold jWm; (repeat' split) <;> first | rfl | (exfalso; omega)⟩
                        · refine zt_aload_n dX11_work_233 rfl ?_
                          refine zt_getv dX11_work_234 fl_X11_53 (zs_38 hS) (rf_38_27 (((hR.upA (by decide)).upA (by decide)).upA (by decide))) ?_
                          refine zt_iload dX11_work_237 rfl ?_
                          refine zt_ialoadv (v := h 53 (30 * t + i)) dX11_work_239 (zs_53 hS) (by decide) (by omega) (by omega) ((zupA (by decide)).trans ((zupA (by decide)).trans ((zupA (by decide)).trans rfl))) ?_
                          refine zt_aload_n dX11_work_240 rfl ?_
                          refine zt_getv dX11_work_241 fl_X11_62 (zs_38 hS) (rf_38_30 (((hR.upA (by decide)).upA (by decide)).upA (by decide))) ?_
                          refine zt_iload dX11_work_244 rfl ?_
                          refine zt_ialoadv (v := v) dX11_work_246 (zs_56 hS) (by decide) (by omega) (by omega) zupE ?_
                          refine zt_icmp_ne (tgt := 278) dX11_work_247 (by decide) (hm.int (zs_53 hS) (by omega) (by omega)) (by omega) (fun c_247 => ?_) (fun c_247 => ?_)
                          · refine zt_iload dX11_work_278 rfl ?_
                            exact zt_iret dX11_work_280 ⟨by rw [if_pos (by omega), hv], rfl, rfl, by rw [if_pos (by omega), ← hv]; unfold jWm; (repeat' split) <;> first | rfl | (exfalso; omega)⟩
                          · refine zt_aload_n dX11_work_250 rfl ?_
                            refine zt_getv dX11_work_251 fl_X11_50 (zs_38 hS) (rf_38_26 (((hR.upA (by decide)).upA (by decide)).upA (by decide))) ?_
                            refine zt_iload dX11_work_254 rfl ?_
                            refine zt_ialoadv (v := h 52 (30 * t + i)) dX11_work_256 (zs_52 hS) (by decide) (by omega) (by omega) ((zupA (by decide)).trans ((zupA (by decide)).trans ((zupA (by decide)).trans rfl))) ?_
                            refine zt_aload_n dX11_work_257 rfl ?_
                            refine zt_getv dX11_work_258 fl_X11_59 (zs_38 hS) (rf_38_29 (((hR.upA (by decide)).upA (by decide)).upA (by decide))) ?_
                            refine zt_iload dX11_work_261 rfl ?_
                            refine zt_ialoadv (v := w) dX11_work_263 (zs_55 hS) (by decide) (by omega) (by omega) ((zupA (by decide)).trans zupE) ?_
                            refine zt_icmp_eq (tgt := 278) dX11_work_264 (by decide) (hm.int (zs_52 hS) (by omega) (by omega)) (by omega) (fun c_264 => ?_) (fun c_264 => ?_)
                            · refine zt_iload dX11_work_278 rfl ?_
                              exact zt_iret dX11_work_280 ⟨by rw [if_pos (by omega), hv], rfl, rfl, by rw [if_pos (by omega), ← hv]; unfold jWm; (repeat' split) <;> first | rfl | (exfalso; omega)⟩
                            · refine zt_aload_n dX11_work_267 rfl ?_
                              refine zt_getv dX11_work_268 fl_X11_65 (zs_38 hS) (rf_38_31 (((hR.upA (by decide)).upA (by decide)).upA (by decide))) ?_
                              refine zt_iload dX11_work_271 rfl ?_
                              refine zt_aload_n dX11_work_273 rfl ?_
                              refine zt_getv (v := h 38 16) dX11_work_274 fl_X11_287 (zs_38 hS) ((zupA (by decide)).trans ((zupA (by decide)).trans ((zupA (by decide)).trans rfl))) ?_
                              refine zt_iastore dX11_work_277 (zs_57 hS) (by decide) (by omega) (by omega) (by omega) ?_
                              refine zt_iload dX11_work_278 rfl ?_
                              exact zt_iret dX11_work_280 ⟨by rw [if_pos (by omega), hv], rfl, rfl, by rw [if_pos (by omega), ← hv]; unfold jWm; (repeat' split) <;> first | rfl | (exfalso; omega)⟩
                      · refine zt_aload_n dX11_work_149 rfl ?_
                        refine zt_getv dX11_work_150 fl_X11_56 (zs_38 hS) (rf_38_28 hR) ?_
                        refine zt_iload dX11_work_153 rfl ?_
                        refine zt_iaload dX11_work_155 (zs_54 hS) (by decide) (by omega) (by omega) ?_
                        refine zt_iload_n dX11_work_156 rfl ?_
                        refine zt_icmp_eq (tgt := 164) dX11_work_157 (by decide) (hm.int (zs_54 hS) (by omega) (by omega)) (by omega) (fun c_157 => ?_) (fun c_157 => ?_)
                        · refine zt_iload dX11_work_164 rfl ?_
                          refine zt_if_eq (tgt := 197) dX11_work_166 (by decide) (by decide) (fun c_166 => ?_) (fun q => absurd q (by decide))
                          refine zt_aload_n dX11_work_197 rfl ?_
                          refine zt_getv dX11_work_198 fl_X11_56 (zs_38 hS) (rf_38_28 hR) ?_
                          refine zt_iload dX11_work_201 rfl ?_
                          refine zt_iload_n dX11_work_203 rfl ?_
                          refine zt_iastore dX11_work_204 (zs_54 hS) (by decide) (by omega) (by omega) (by omega) ?_
                          refine zt_aload_n dX11_work_205 rfl ?_
                          refine zt_getv dX11_work_206 fl_X11_59 (zs_38 hS) (rf_38_29 (hR.upA (by decide))) ?_
                          refine zt_iload dX11_work_209 rfl ?_
                          refine zt_iload_n dX11_work_211 rfl ?_
                          refine zt_iastore dX11_work_212 (zs_55 hS) (by decide) (by omega) (by omega) (by omega) ?_
                          refine zt_aload_n dX11_work_213 rfl ?_
                          refine zt_getv dX11_work_214 fl_X11_62 (zs_38 hS) (rf_38_30 ((hR.upA (by decide)).upA (by decide))) ?_
                          refine zt_iload dX11_work_217 rfl ?_
                          refine zt_iload dX11_work_219 rfl ?_
                          refine zt_iastore dX11_work_221 (zs_56 hS) (by decide) (by omega) (by omega) (by omega) ?_
                          refine zt_aload_n dX11_work_222 rfl ?_
                          refine zt_getv dX11_work_223 fl_X11_56 (zs_38 hS) (rf_38_28 (((hR.upA (by decide)).upA (by decide)).upA (by decide))) ?_
                          refine zt_iload dX11_work_226 rfl ?_
                          refine zt_ialoadv (v := a) dX11_work_228 (zs_54 hS) (by decide) (by omega) (by omega) ((zupA (by decide)).trans ((zupA (by decide)).trans zupE)) ?_
                          refine zt_iconst dX11_work_229 ?_
                          refine zt_icmp_eq (tgt := 278) dX11_work_230 (by decide) (by omega) (by decide) (fun c_230 => ?_) (fun c_230 => ?_)
                          · refine zt_iload dX11_work_278 rfl ?_
                            exact zt_iret dX11_work_280 ⟨by rw [if_pos (by omega), hv], rfl, rfl, by rw [if_pos (by omega), ← hv]; unfold jWm; (repeat' split) <;> first | rfl | (exfalso; omega)⟩
                          · refine zt_aload_n dX11_work_233 rfl ?_
                            refine zt_getv dX11_work_234 fl_X11_53 (zs_38 hS) (rf_38_27 (((hR.upA (by decide)).upA (by decide)).upA (by decide))) ?_
                            refine zt_iload dX11_work_237 rfl ?_
                            refine zt_ialoadv (v := h 53 (30 * t + i)) dX11_work_239 (zs_53 hS) (by decide) (by omega) (by omega) ((zupA (by decide)).trans ((zupA (by decide)).trans ((zupA (by decide)).trans rfl))) ?_
                            refine zt_aload_n dX11_work_240 rfl ?_
                            refine zt_getv dX11_work_241 fl_X11_62 (zs_38 hS) (rf_38_30 (((hR.upA (by decide)).upA (by decide)).upA (by decide))) ?_
                            refine zt_iload dX11_work_244 rfl ?_
                            refine zt_ialoadv (v := v) dX11_work_246 (zs_56 hS) (by decide) (by omega) (by omega) zupE ?_
                            refine zt_icmp_ne (tgt := 278) dX11_work_247 (by decide) (hm.int (zs_53 hS) (by omega) (by omega)) (by omega) (fun c_247 => ?_) (fun c_247 => ?_)
                            · refine zt_iload dX11_work_278 rfl ?_
                              exact zt_iret dX11_work_280 ⟨by rw [if_pos (by omega), hv], rfl, rfl, by rw [if_pos (by omega), ← hv]; unfold jWm; (repeat' split) <;> first | rfl | (exfalso; omega)⟩
                            · refine zt_aload_n dX11_work_250 rfl ?_
                              refine zt_getv dX11_work_251 fl_X11_50 (zs_38 hS) (rf_38_26 (((hR.upA (by decide)).upA (by decide)).upA (by decide))) ?_
                              refine zt_iload dX11_work_254 rfl ?_
                              refine zt_ialoadv (v := h 52 (30 * t + i)) dX11_work_256 (zs_52 hS) (by decide) (by omega) (by omega) ((zupA (by decide)).trans ((zupA (by decide)).trans ((zupA (by decide)).trans rfl))) ?_
                              refine zt_aload_n dX11_work_257 rfl ?_
                              refine zt_getv dX11_work_258 fl_X11_59 (zs_38 hS) (rf_38_29 (((hR.upA (by decide)).upA (by decide)).upA (by decide))) ?_
                              refine zt_iload dX11_work_261 rfl ?_
                              refine zt_ialoadv (v := w) dX11_work_263 (zs_55 hS) (by decide) (by omega) (by omega) ((zupA (by decide)).trans zupE) ?_
                              refine zt_icmp_eq (tgt := 278) dX11_work_264 (by decide) (hm.int (zs_52 hS) (by omega) (by omega)) (by omega) (fun c_264 => ?_) (fun c_264 => ?_)
                              · refine zt_iload dX11_work_278 rfl ?_
                                exact zt_iret dX11_work_280 ⟨by rw [if_pos (by omega), hv], rfl, rfl, by rw [if_pos (by omega), ← hv]; unfold jWm; (repeat' split) <;> first | rfl | (exfalso; omega)⟩
                              · refine zt_aload_n dX11_work_267 rfl ?_
                                refine zt_getv dX11_work_268 fl_X11_65 (zs_38 hS) (rf_38_31 (((hR.upA (by decide)).upA (by decide)).upA (by decide))) ?_
                                refine zt_iload dX11_work_271 rfl ?_
                                refine zt_aload_n dX11_work_273 rfl ?_
                                refine zt_getv (v := h 38 16) dX11_work_274 fl_X11_287 (zs_38 hS) ((zupA (by decide)).trans ((zupA (by decide)).trans ((zupA (by decide)).trans rfl))) ?_
                                refine zt_iastore dX11_work_277 (zs_57 hS) (by decide) (by omega) (by omega) (by omega) ?_
                                refine zt_iload dX11_work_278 rfl ?_
                                exact zt_iret dX11_work_280 ⟨by rw [if_pos (by omega), hv], rfl, rfl, by rw [if_pos (by omega), ← hv]; unfold jWm; (repeat' split) <;> first | rfl | (exfalso; omega)⟩
                        · refine zt_ldc_w dX11_work_160 kc_X11_283 ?_
                          exact zt_iret dX11_work_163 ⟨by rw [if_neg (by omega)], rfl, rfl, by rw [if_neg (by omega)]⟩
                · refine zt_iconst dX11_work_104 ?_
                  refine zt_goto (tgt := 109) dX11_work_105 (by decide) ?_
                  refine zt_istore_7 dX11_work_109 (by decide) rfl ?_
                  refine zt_aload_n dX11_work_111 rfl ?_
                  refine zt_getv dX11_work_112 fl_X11_47 (zs_38 hS) (rf_38_25 hR) ?_
                  refine zt_iload dX11_work_115 rfl ?_
                  refine zt_iaload dX11_work_117 (zs_51 hS) (by decide) (by omega) (by omega) ?_
                  refine zt_iload_n dX11_work_118 rfl ?_
                  refine zt_icmp_ne (tgt := 133) dX11_work_119 (by decide) (hm.int (zs_51 hS) (by omega) (by omega)) (by omega) (fun c_119 => ?_) (fun c_119 => ?_)
                  · refine zt_iload dX11_work_133 rfl ?_
                    refine zt_if_ne (tgt := 164) dX11_work_135 (by decide) (by decide) (fun c_135 => ?_) (fun q => absurd q (by decide))
                    refine zt_iload dX11_work_164 rfl ?_
                    refine zt_if_eq (tgt := 197) dX11_work_166 (by decide) (by decide) (fun q => absurd q (by decide)) (fun c_166 => ?_)
                    refine zt_aload_n dX11_work_169 rfl ?_
                    refine zt_getv dX11_work_170 fl_X11_47 (zs_38 hS) (rf_38_25 hR) ?_
                    refine zt_iload dX11_work_173 rfl ?_
                    refine zt_iload_n dX11_work_175 rfl ?_
                    refine zt_iastore dX11_work_176 (zs_51 hS) (by decide) (by omega) (by omega) (by omega) ?_
                    refine zt_aload_n dX11_work_177 rfl ?_
                    refine zt_getv dX11_work_178 fl_X11_50 (zs_38 hS) (rf_38_26 (hR.upA (by decide))) ?_
                    refine zt_iload dX11_work_181 rfl ?_
                    refine zt_iload_n dX11_work_183 rfl ?_
                    refine zt_iastore dX11_work_184 (zs_52 hS) (by decide) (by omega) (by omega) (by omega) ?_
                    refine zt_aload_n dX11_work_185 rfl ?_
                    refine zt_getv dX11_work_186 fl_X11_53 (zs_38 hS) (rf_38_27 ((hR.upA (by decide)).upA (by decide))) ?_
                    refine zt_iload dX11_work_189 rfl ?_
                    refine zt_iload dX11_work_191 rfl ?_
                    refine zt_iastore dX11_work_193 (zs_53 hS) (by decide) (by omega) (by omega) (by omega) ?_
                    refine zt_goto (tgt := 222) dX11_work_194 (by decide) ?_
                    refine zt_aload_n dX11_work_222 rfl ?_
                    refine zt_getv dX11_work_223 fl_X11_56 (zs_38 hS) (rf_38_28 (((hR.upA (by decide)).upA (by decide)).upA (by decide))) ?_
                    refine zt_iload dX11_work_226 rfl ?_
                    refine zt_ialoadv (v := h 54 (30 * t + i)) dX11_work_228 (zs_54 hS) (by decide) (by omega) (by omega) ((zupA (by decide)).trans ((zupA (by decide)).trans ((zupA (by decide)).trans rfl))) ?_
                    refine zt_iconst dX11_work_229 ?_
                    refine zt_icmp_eq (tgt := 278) dX11_work_230 (by decide) (hm.int (zs_54 hS) (by omega) (by omega)) (by decide) (fun c_230 => ?_) (fun c_230 => ?_)
                    · refine zt_iload dX11_work_278 rfl ?_
                      exact zt_iret dX11_work_280 ⟨by rw [if_pos (by omega), hv], rfl, rfl, by rw [if_pos (by omega), ← hv]; unfold jWm; (repeat' split) <;> first | rfl | (exfalso; omega)⟩
                    · refine zt_aload_n dX11_work_233 rfl ?_
                      refine zt_getv dX11_work_234 fl_X11_53 (zs_38 hS) (rf_38_27 (((hR.upA (by decide)).upA (by decide)).upA (by decide))) ?_
                      refine zt_iload dX11_work_237 rfl ?_
                      refine zt_ialoadv (v := v) dX11_work_239 (zs_53 hS) (by decide) (by omega) (by omega) zupE ?_
                      refine zt_aload_n dX11_work_240 rfl ?_
                      refine zt_getv dX11_work_241 fl_X11_62 (zs_38 hS) (rf_38_30 (((hR.upA (by decide)).upA (by decide)).upA (by decide))) ?_
                      refine zt_iload dX11_work_244 rfl ?_
                      refine zt_ialoadv (v := h 56 (30 * t + i)) dX11_work_246 (zs_56 hS) (by decide) (by omega) (by omega) ((zupA (by decide)).trans ((zupA (by decide)).trans ((zupA (by decide)).trans rfl))) ?_
                      refine zt_icmp_ne (tgt := 278) dX11_work_247 (by decide) (by omega) (hm.int (zs_56 hS) (by omega) (by omega)) (fun c_247 => ?_) (fun c_247 => ?_)
                      · refine zt_iload dX11_work_278 rfl ?_
                        exact zt_iret dX11_work_280 ⟨by rw [if_pos (by omega), hv], rfl, rfl, by rw [if_pos (by omega), ← hv]; unfold jWm; (repeat' split) <;> first | rfl | (exfalso; omega)⟩
                      · refine zt_aload_n dX11_work_250 rfl ?_
                        refine zt_getv dX11_work_251 fl_X11_50 (zs_38 hS) (rf_38_26 (((hR.upA (by decide)).upA (by decide)).upA (by decide))) ?_
                        refine zt_iload dX11_work_254 rfl ?_
                        refine zt_ialoadv (v := w) dX11_work_256 (zs_52 hS) (by decide) (by omega) (by omega) ((zupA (by decide)).trans zupE) ?_
                        refine zt_aload_n dX11_work_257 rfl ?_
                        refine zt_getv dX11_work_258 fl_X11_59 (zs_38 hS) (rf_38_29 (((hR.upA (by decide)).upA (by decide)).upA (by decide))) ?_
                        refine zt_iload dX11_work_261 rfl ?_
                        refine zt_ialoadv (v := h 55 (30 * t + i)) dX11_work_263 (zs_55 hS) (by decide) (by omega) (by omega) ((zupA (by decide)).trans ((zupA (by decide)).trans ((zupA (by decide)).trans rfl))) ?_
                        refine zt_icmp_eq (tgt := 278) dX11_work_264 (by decide) (by omega) (hm.int (zs_55 hS) (by omega) (by omega)) (fun c_264 => ?_) (fun c_264 => ?_)
                        · refine zt_iload dX11_work_278 rfl ?_
                          exact zt_iret dX11_work_280 ⟨by rw [if_pos (by omega), hv], rfl, rfl, by rw [if_pos (by omega), ← hv]; unfold jWm; (repeat' split) <;> first | rfl | (exfalso; omega)⟩
                        · refine zt_aload_n dX11_work_267 rfl ?_
                          refine zt_getv dX11_work_268 fl_X11_65 (zs_38 hS) (rf_38_31 (((hR.upA (by decide)).upA (by decide)).upA (by decide))) ?_
                          refine zt_iload dX11_work_271 rfl ?_
                          refine zt_aload_n dX11_work_273 rfl ?_
                          refine zt_getv (v := h 38 16) dX11_work_274 fl_X11_287 (zs_38 hS) ((zupA (by decide)).trans ((zupA (by decide)).trans ((zupA (by decide)).trans rfl))) ?_
                          refine zt_iastore dX11_work_277 (zs_57 hS) (by decide) (by omega) (by omega) (by omega) ?_
                          refine zt_iload dX11_work_278 rfl ?_
                          exact zt_iret dX11_work_280 ⟨by rw [if_pos (by omega), hv], rfl, rfl, by rw [if_pos (by omega), ← hv]; unfold jWm; (repeat' split) <;> first | rfl | (exfalso; omega)⟩
                  · refine zt_aload_n dX11_work_122 rfl ?_
                    refine zt_getv dX11_work_123 fl_X11_56 (zs_38 hS) (rf_38_28 hR) ?_
                    refine zt_iload dX11_work_126 rfl ?_
                    refine zt_iaload dX11_work_128 (zs_54 hS) (by decide) (by omega) (by omega) ?_
                    refine zt_iconst dX11_work_129 ?_
                    refine zt_icmp_eq (tgt := 160) dX11_work_130 (by decide) (hm.int (zs_54 hS) (by omega) (by omega)) (by decide) (fun c_130 => ?_) (fun c_130 => ?_)
                    · refine zt_ldc_w dX11_work_160 kc_X11_283 ?_
                      exact zt_iret dX11_work_163 ⟨by rw [if_neg (by omega)], rfl, rfl, by rw [if_neg (by omega)]⟩
                    · refine zt_iload dX11_work_133 rfl ?_
                      refine zt_if_ne (tgt := 164) dX11_work_135 (by decide) (by decide) (fun c_135 => ?_) (fun q => absurd q (by decide))
                      refine zt_iload dX11_work_164 rfl ?_
                      refine zt_if_eq (tgt := 197) dX11_work_166 (by decide) (by decide) (fun q => absurd q (by decide)) (fun c_166 => ?_)
                      refine zt_aload_n dX11_work_169 rfl ?_
                      refine zt_getv dX11_work_170 fl_X11_47 (zs_38 hS) (rf_38_25 hR) ?_
                      refine zt_iload dX11_work_173 rfl ?_
                      refine zt_iload_n dX11_work_175 rfl ?_
                      refine zt_iastore dX11_work_176 (zs_51 hS) (by decide) (by omega) (by omega) (by omega) ?_
                      refine zt_aload_n dX11_work_177 rfl ?_
                      refine zt_getv dX11_work_178 fl_X11_50 (zs_38 hS) (rf_38_26 (hR.upA (by decide))) ?_
                      refine zt_iload dX11_work_181 rfl ?_
                      refine zt_iload_n dX11_work_183 rfl ?_
                      refine zt_iastore dX11_work_184 (zs_52 hS) (by decide) (by omega) (by omega) (by omega) ?_
                      refine zt_aload_n dX11_work_185 rfl ?_
                      refine zt_getv dX11_work_186 fl_X11_53 (zs_38 hS) (rf_38_27 ((hR.upA (by decide)).upA (by decide))) ?_
                      refine zt_iload dX11_work_189 rfl ?_
                      refine zt_iload dX11_work_191 rfl ?_
                      refine zt_iastore dX11_work_193 (zs_53 hS) (by decide) (by omega) (by omega) (by omega) ?_
                      refine zt_goto (tgt := 222) dX11_work_194 (by decide) ?_
                      refine zt_aload_n dX11_work_222 rfl ?_
                      refine zt_getv dX11_work_223 fl_X11_56 (zs_38 hS) (rf_38_28 (((hR.upA (by decide)).upA (by decide)).upA (by decide))) ?_
                      refine zt_iload dX11_work_226 rfl ?_
                      refine zt_ialoadv (v := h 54 (30 * t + i)) dX11_work_228 (zs_54 hS) (by decide) (by omega) (by omega) ((zupA (by decide)).trans ((zupA (by decide)).trans ((zupA (by decide)).trans rfl))) ?_
                      refine zt_iconst dX11_work_229 ?_
                      refine zt_icmp_eq (tgt := 278) dX11_work_230 (by decide) (hm.int (zs_54 hS) (by omega) (by omega)) (by decide) (fun c_230 => ?_) (fun c_230 => ?_)
                      · refine zt_iload dX11_work_278 rfl ?_
                        exact zt_iret dX11_work_280 ⟨by rw [if_pos (by omega), hv], rfl, rfl, by rw [if_pos (by omega), ← hv]; unfold jWm; (repeat' split) <;> first | rfl | (exfalso; omega)⟩
                      · refine zt_aload_n dX11_work_233 rfl ?_
                        refine zt_getv dX11_work_234 fl_X11_53 (zs_38 hS) (rf_38_27 (((hR.upA (by decide)).upA (by decide)).upA (by decide))) ?_
                        refine zt_iload dX11_work_237 rfl ?_
                        refine zt_ialoadv (v := v) dX11_work_239 (zs_53 hS) (by decide) (by omega) (by omega) zupE ?_
                        refine zt_aload_n dX11_work_240 rfl ?_
                        refine zt_getv dX11_work_241 fl_X11_62 (zs_38 hS) (rf_38_30 (((hR.upA (by decide)).upA (by decide)).upA (by decide))) ?_
                        refine zt_iload dX11_work_244 rfl ?_
                        refine zt_ialoadv (v := h 56 (30 * t + i)) dX11_work_246 (zs_56 hS) (by decide) (by omega) (by omega) ((zupA (by decide)).trans ((zupA (by decide)).trans ((zupA (by decide)).trans rfl))) ?_
                        refine zt_icmp_ne (tgt := 278) dX11_work_247 (by decide) (by omega) (hm.int (zs_56 hS) (by omega) (by omega)) (fun c_247 => ?_) (fun c_247 => ?_)
                        · refine zt_iload dX11_work_278 rfl ?_
                          exact zt_iret dX11_work_280 ⟨by rw [if_pos (by omega), hv], rfl, rfl, by rw [if_pos (by omega), ← hv]; unfold jWm; (repeat' split) <;> first | rfl | (exfalso; omega)⟩
                        · refine zt_aload_n dX11_work_250 rfl ?_
                          refine zt_getv dX11_work_251 fl_X11_50 (zs_38 hS) (rf_38_26 (((hR.upA (by decide)).upA (by decide)).upA (by decide))) ?_
                          refine zt_iload dX11_work_254 rfl ?_
                          refine zt_ialoadv (v := w) dX11_work_256 (zs_52 hS) (by decide) (by omega) (by omega) ((zupA (by decide)).trans zupE) ?_
                          refine zt_aload_n dX11_work_257 rfl ?_
                          refine zt_getv dX11_work_258 fl_X11_59 (zs_38 hS) (rf_38_29 (((hR.upA (by decide)).upA (by decide)).upA (by decide))) ?_
                          refine zt_iload dX11_work_261 rfl ?_
                          refine zt_ialoadv (v := h 55 (30 * t + i)) dX11_work_263 (zs_55 hS) (by decide) (by omega) (by omega) ((zupA (by decide)).trans ((zupA (by decide)).trans ((zupA (by decide)).trans rfl))) ?_
                          refine zt_icmp_eq (tgt := 278) dX11_work_264 (by decide) (by omega) (hm.int (zs_55 hS) (by omega) (by omega)) (fun c_264 => ?_) (fun c_264 => ?_)
                          · refine zt_iload dX11_work_278 rfl ?_
                            exact zt_iret dX11_work_280 ⟨by rw [if_pos (by omega), hv], rfl, rfl, by rw [if_pos (by omega), ← hv]; unfold jWm; (repeat' split) <;> first | rfl | (exfalso; omega)⟩
                          · refine zt_aload_n dX11_work_267 rfl ?_
                            refine zt_getv dX11_work_268 fl_X11_65 (zs_38 hS) (rf_38_31 (((hR.upA (by decide)).upA (by decide)).upA (by decide))) ?_
                            refine zt_iload dX11_work_271 rfl ?_
                            refine zt_aload_n dX11_work_273 rfl ?_
                            refine zt_getv (v := h 38 16) dX11_work_274 fl_X11_287 (zs_38 hS) ((zupA (by decide)).trans ((zupA (by decide)).trans ((zupA (by decide)).trans rfl))) ?_
                            refine zt_iastore dX11_work_277 (zs_57 hS) (by decide) (by omega) (by omega) (by omega) ?_
                            refine zt_iload dX11_work_278 rfl ?_
                            exact zt_iret dX11_work_280 ⟨by rw [if_pos (by omega), hv], rfl, rfl, by rw [if_pos (by omega), ← hv]; unfold jWm; (repeat' split) <;> first | rfl | (exfalso; omega)⟩
            · refine zt_ldc_w dX11_work_78 kc_X11_283 ?_
              exact zt_iret dX11_work_81 ⟨by rw [if_neg (by omega)], rfl, rfl, by rw [if_neg (by omega)]⟩
        · refine zt_ldc_w dX11_work_39 kc_X11_283 ?_
          exact zt_iret dX11_work_42 ⟨by rw [if_neg (by omega)], rfl, rfl, by rw [if_neg (by omega)]⟩

set_option maxRecDepth 100000 in
set_option maxHeartbeats 4000000 in
theorem c_jhab {d n : Nat} {sh : zSh} {h : zMem} {a w x : Int} (hS : zShp sh) (hR : zRf h) (hB : mB h) (ha : zi32 a) (hw : zi32 w) (hx : zi32 x) : zF yX11_habit cX11_habit 4 (some .int) (d + 2) 0 0 [(2, 38), (0, a), (0, w), (0, x)] n sh h (some (0, (if ((0 ≤ a ∧ a < h 38 20) ∧ (0 ≤ w ∧ w ≤ 2) ∧ (0 ≤ x ∧ x < 900 ∧ x / 10 % 10 ≠ x % 10) ∧ h 38 21 < 24) then h 38 21 + 1 else -1))) n sh (if ((0 ≤ a ∧ a < h 38 20) ∧ (0 ≤ w ∧ w ≤ 2) ∧ (0 ≤ x ∧ x < 900 ∧ x / 10 % 10 ≠ x % 10) ∧ h 38 21 < 24) then zup (zup (zup (zup h 48 (h 38 21) a) 49 (h 38 21) w) 50 (h 38 21) x) 38 21 (h 38 21 + 1) else h) := by
  refine zF.ofT (by decide +kernel) [some (2, 38), some (0, a), some (0, w), some (0, x)] rfl (Nat.le_of_ble_eq_true rfl) ?_
  refine zt_rg (fun hm => ?_)
  have b1 := hB.1
  have b3 := hB.2.2.1
  have b4 := hB.2.2.2.1
  have b5 := hB.2.2.2.2.1
  have b6 := hB.2.2.2.2.2.1
  have b7 := hB.2.2.2.2.2.2.1
  have b8 := hB.2.2.2.2.2.2.2.1
  have b9 := hB.2.2.2.2.2.2.2.2.1
  have b10 := hB.2.2.2.2.2.2.2.2.2.1
  have b11 := hB.2.2.2.2.2.2.2.2.2.2
  refine zt_aload_n dX11_habit_0 rfl ?_
  refine zt_iload_n dX11_habit_1 rfl ?_
  refine zt_callV1r dX11_habit_2 ml_X11_322 (zs_38 hS) (Nat.le_of_ble_eq_true rfl) (c_jH hS hR hB (by omega)) ?_
  refine zt_ifb_eq (tgt := 56) dX11_habit_5 (by decide) (fun c_5 => ?_) (fun c_5 => ?_)
  · refine zt_iconst dX11_habit_56 ?_
    exact zt_iret dX11_habit_57 ⟨by first | rfl | (congr 2; (repeat' split) <;> omega) | (rw [zb_t (by omega)]) | (rw [zb_f (by omega)]), rfl, rfl, by first | (rw [if_pos (by omega)]; done) | (rw [if_neg (by omega)]; done)⟩
  · refine zt_iload_n dX11_habit_8 rfl ?_
    refine zt_i2l dX11_habit_9 (by omega) ?_
    refine zt_lconst (v := 0) dX11_habit_10 rfl ?_
    refine zt_ldc2 dX11_habit_11 kc_X11_252 ?_
    refine zt_callS3r dX11_habit_14 ml_X11_143 (Nat.le_of_ble_eq_true rfl) (c_min_ (x := w) (y := 0) (z := 2) (by omega) (by decide) (by decide)) ?_
    refine zt_ifb_eq (tgt := 56) dX11_habit_17 (by decide) (fun c_17 => ?_) (fun c_17 => ?_)
    · refine zt_iconst dX11_habit_56 ?_
      exact zt_iret dX11_habit_57 ⟨by first | rfl | (congr 2; (repeat' split) <;> omega) | (rw [zb_t (by omega)]) | (rw [zb_f (by omega)]), rfl, rfl, by first | (rw [if_pos (by omega)]; done) | (rw [if_neg (by omega)]; done)⟩
    · refine zt_iload_n dX11_habit_20 rfl ?_
      refine zt_if_lt (tgt := 56) dX11_habit_21 (by decide) (by omega) (fun c_21 => ?_) (fun c_21 => ?_)
      · refine zt_iconst dX11_habit_56 ?_
        exact zt_iret dX11_habit_57 ⟨by first | rfl | (congr 2; (repeat' split) <;> omega) | (rw [zb_t (by omega)]) | (rw [zb_f (by omega)]), rfl, rfl, by first | (rw [if_pos (by omega)]; done) | (rw [if_neg (by omega)]; done)⟩
      · refine zt_iload_n dX11_habit_24 rfl ?_
        refine zt_bipush dX11_habit_25 (by decide) ?_
        refine zt_idiv dX11_habit_27 (by omega) (by decide) (by decide) ?_
        refine zt_topv (v := x / 100) (Int.tdiv_eq_ediv_of_nonneg (by omega)) ?_
        refine zt_bipush dX11_habit_28 (by decide) ?_
        refine zt_icmp_gt (tgt := 56) dX11_habit_30 (by decide) (by omega) (by decide) (fun c_30 => ?_) (fun c_30 => ?_)
        · refine zt_iconst dX11_habit_56 ?_
          exact zt_iret dX11_habit_57 ⟨by first | rfl | (congr 2; (repeat' split) <;> omega) | (rw [zb_t (by omega)]) | (rw [zb_f (by omega)]), rfl, rfl, by first | (rw [if_pos (by omega)]; done) | (rw [if_neg (by omega)]; done)⟩
        · refine zt_iload_n dX11_habit_33 rfl ?_
          refine zt_bipush dX11_habit_34 (by decide) ?_
          refine zt_idiv dX11_habit_36 (by omega) (by decide) (by decide) ?_
          refine zt_topv (v := x / 10) (Int.tdiv_eq_ediv_of_nonneg (by omega)) ?_
          refine zt_bipush dX11_habit_37 (by decide) ?_
          refine zt_irem dX11_habit_39 (by omega) (by decide) (by decide) ?_
          refine zt_topv (v := x / 10 % 10) (Int.tmod_eq_emod_of_nonneg (by omega)) ?_
          refine zt_iload_n dX11_habit_40 rfl ?_
          refine zt_bipush dX11_habit_41 (by decide) ?_
          refine zt_irem dX11_habit_43 (by omega) (by decide) (by decide) ?_
          refine zt_topv (v := x % 10) (Int.tmod_eq_emod_of_nonneg (by omega)) ?_
          refine zt_icmp_eq (tgt := 56) dX11_habit_44 (by decide) (by omega) (by omega) (fun c_44 => ?_) (fun c_44 => ?_)
          · refine zt_iconst dX11_habit_56 ?_
            exact zt_iret dX11_habit_57 ⟨by first | rfl | (congr 2; (repeat' split) <;> omega) | (rw [zb_t (by omega)]) | (rw [zb_f (by omega)]), rfl, rfl, by first | (rw [if_pos (by omega)]; done) | (rw [if_neg (by omega)]; done)⟩
          · refine zt_aload_n dX11_habit_47 rfl ?_
            refine zt_get dX11_habit_48 fl_X11_325 (zs_38 hS) ?_
            refine zt_bipush dX11_habit_51 (by decide) ?_
            refine zt_icmp_ne (tgt := 58) dX11_habit_53 (by decide) (hm.fld (j := 21) (zs_38 hS) (by decide) (by decide) (by decide)) (by decide) (fun c_53 => ?_) (fun c_53 => ?_)
            · refine zt_aload_n dX11_habit_58 rfl ?_
              refine zt_getv dX11_habit_59 fl_X11_38 (zs_38 hS) (rf_38_22 hR) ?_
              refine zt_aload_n dX11_habit_62 rfl ?_
              refine zt_get dX11_habit_63 fl_X11_325 (zs_38 hS) ?_
              refine zt_iload_n dX11_habit_66 rfl ?_
              refine zt_iastore dX11_habit_67 (zs_48 hS) (by decide) (by omega) (by omega) (by omega) ?_
              refine zt_aload_n dX11_habit_68 rfl ?_
              refine zt_getv dX11_habit_69 fl_X11_41 (zs_38 hS) (rf_38_23 (hR.upA (by decide))) ?_
              refine zt_aload_n dX11_habit_72 rfl ?_
              refine zt_getv (v := h 38 21) dX11_habit_73 fl_X11_325 (zs_38 hS) ((zupA (by decide)).trans rfl) ?_
              refine zt_iload_n dX11_habit_76 rfl ?_
              refine zt_iastore dX11_habit_77 (zs_49 hS) (by decide) (by omega) (by omega) (by omega) ?_
              refine zt_aload_n dX11_habit_78 rfl ?_
              refine zt_getv dX11_habit_79 fl_X11_44 (zs_38 hS) (rf_38_24 ((hR.upA (by decide)).upA (by decide))) ?_
              refine zt_aload_n dX11_habit_82 rfl ?_
              refine zt_getv (v := h 38 21) dX11_habit_83 fl_X11_325 (zs_38 hS) ((zupA (by decide)).trans ((zupA (by decide)).trans rfl)) ?_
              refine zt_iload_n dX11_habit_86 rfl ?_
              refine zt_iastore dX11_habit_87 (zs_50 hS) (by decide) (by omega) (by omega) (by omega) ?_
              refine zt_aload_n dX11_habit_88 rfl ?_
              refine zt_dup dX11_habit_89 (Nat.ne_of_beq_eq_false rfl) ?_
              refine zt_getv (v := h 38 21) dX11_habit_90 fl_X11_325 (zs_38 hS) ((zupA (by decide)).trans ((zupA (by decide)).trans ((zupA (by decide)).trans rfl))) ?_
              refine zt_iconst dX11_habit_93 ?_
              refine zt_iadd dX11_habit_94 ?_
              refine zt_puti dX11_habit_95 fl_X11_325 rfl (zs_38 hS) (by omega) ?_
              refine zt_aload_n dX11_habit_98 rfl ?_
              refine zt_getv (v := (h 38 21) + 1) dX11_habit_99 fl_X11_325 (zs_38 hS) zupE ?_
              exact zt_iret dX11_habit_102 ⟨by first | rfl | (congr 2; (repeat' split) <;> omega) | (rw [zb_t (by omega)]) | (rw [zb_f (by omega)]), rfl, rfl, by first | (rw [if_pos (by omega)]; done) | (rw [if_neg (by omega)]; done)⟩
            · refine zt_iconst dX11_habit_56 ?_
              exact zt_iret dX11_habit_57 ⟨by first | rfl | (congr 2; (repeat' split) <;> omega) | (rw [zb_t (by omega)]) | (rw [zb_f (by omega)]), rfl, rfl, by first | (rw [if_pos (by omega)]; done) | (rw [if_neg (by omega)]; done)⟩

def jLd (h : zMem) (t i x : Int) : Int := if jE h t i then (if x = 0 then h 51 (30 * t + i) else if x = 1 then (if h 51 (30 * t + i) ≠ -1 then h 52 (30 * t + i) else -1) else if x = 2 then h 54 (30 * t + i) else if x = 3 then (if h 54 (30 * t + i) ≠ -1 then h 55 (30 * t + i) else -1) else if x = 4 then h 57 (30 * t + i) else if x = 5 then (if h 57 (30 * t + i) ≠ -1 then (if h 53 (30 * t + i) ≠ h 47 (30 * t + i) then 1 else 0) else -1) else if x = 6 then (if jG h t i then h 61 (30 * t + i) else -1) else -1) else -1

set_option maxRecDepth 100000 in
set_option maxHeartbeats 4000000 in
theorem c_jld {d n : Nat} {sh : zSh} {h : zMem} {t i x : Int} (hS : zShp sh) (hR : zRf h) (hB : mB h) (ht : zi32 t) (hi : zi32 i) (hx : zi32 x) : zF yX11_lead cX11_lead 7 (some .int) (d + 4) 0 0 [(2, 38), (0, t), (0, i), (0, x)] n sh h (some (0, jLd h t i x)) n sh h := by
  refine zF.ofT (by decide +kernel) [some (2, 38), some (0, t), some (0, i), some (0, x), none, none, none] rfl (Nat.le_of_ble_eq_true rfl) ?_
  refine zt_rg (fun hm => ?_)
  have b1 := hB.1
  have b3 := hB.2.2.1
  have b4 := hB.2.2.2.1
  have b5 := hB.2.2.2.2.1
  have b6 := hB.2.2.2.2.2.1
  have b7 := hB.2.2.2.2.2.2.1
  have b8 := hB.2.2.2.2.2.2.2.1
  have b9 := hB.2.2.2.2.2.2.2.2.1
  have b10 := hB.2.2.2.2.2.2.2.2.2.1
  have b11 := hB.2.2.2.2.2.2.2.2.2.2
  refine zt_aload_n dX11_lead_0 rfl ?_
  refine zt_iload_n dX11_lead_1 rfl ?_
  refine zt_iload_n dX11_lead_2 rfl ?_
  refine zt_callV2r dX11_lead_3 ml_X11_313 (zs_38 hS) (Nat.le_of_ble_eq_true rfl) (c_jE hS hR hB (by omega) (by omega)) ?_
  refine zt_ifb_ne (tgt := 11) dX11_lead_6 (by decide) (fun c_6 => ?_) (fun c_6 => ?_)
  · have hb := hB.2.1 t c_6.1.1 c_6.1.2
    refine zt_iload_n dX11_lead_11 rfl ?_
    refine zt_iload_n dX11_lead_12 rfl ?_
    refine zt_callS2r dX11_lead_13 ml_X11_316 (Nat.le_of_ble_eq_true rfl) (c_place) ?_
    refine zt_istore_4 dX11_lead_16 (by decide) rfl ?_
    refine zt_aload_n dX11_lead_18 rfl ?_
    refine zt_getv dX11_lead_19 fl_X11_47 (zs_38 hS) (rf_38_25 hR) ?_
    refine zt_iload dX11_lead_22 rfl ?_
    refine zt_iaload dX11_lead_24 (zs_51 hS) (by decide) (by omega) (by omega) ?_
    refine zt_iconst dX11_lead_25 ?_
    refine zt_icmp_eq (tgt := 33) dX11_lead_26 (by decide) (hm.int (zs_51 hS) (by omega) (by omega)) (by decide) (fun c_26 => ?_) (fun c_26 => ?_)
    · refine zt_iconst dX11_lead_33 ?_
      refine zt_istore_5 dX11_lead_34 (by decide) rfl ?_
      refine zt_aload_n dX11_lead_36 rfl ?_
      refine zt_getv dX11_lead_37 fl_X11_56 (zs_38 hS) (rf_38_28 hR) ?_
      refine zt_iload dX11_lead_40 rfl ?_
      refine zt_iaload dX11_lead_42 (zs_54 hS) (by decide) (by omega) (by omega) ?_
      refine zt_iconst dX11_lead_43 ?_
      refine zt_icmp_eq (tgt := 51) dX11_lead_44 (by decide) (hm.int (zs_54 hS) (by omega) (by omega)) (by decide) (fun c_44 => ?_) (fun c_44 => ?_)
      · refine zt_iconst dX11_lead_51 ?_
        refine zt_istore_6 dX11_lead_52 (by decide) rfl ?_
        refine zt_iload_n dX11_lead_54 rfl ?_
        rcases (show x = 0 ∨ x = 1 ∨ x = 2 ∨ x = 3 ∨ x = 4 ∨ x = 5 ∨ x = 6 ∨ (x < 0 ∨ 6 < x) by omega) with e_55 | e_55 | e_55 | e_55 | e_55 | e_55 | e_55 | e_55
        · refine zt_tableIn (off := 41) (tgt := 96) dX11_lead_55 (by omega) (by omega) (by omega) (by rw [e_55]; rfl) (by decide) ?_
          refine zt_aload_n dX11_lead_96 rfl ?_
          refine zt_getv dX11_lead_97 fl_X11_47 (zs_38 hS) (rf_38_25 hR) ?_
          refine zt_iload dX11_lead_100 rfl ?_
          refine zt_iaload dX11_lead_102 (zs_51 hS) (by decide) (by omega) (by omega) ?_
          exact zt_iret dX11_lead_103 ⟨by congr 2; unfold jLd; first | (rw [if_neg (by omega)]; done) | (rw [if_pos (by omega)]; (repeat' split) <;> first | rfl | omega), rfl, rfl, rfl⟩
        · refine zt_tableIn (off := 49) (tgt := 104) dX11_lead_55 (by omega) (by omega) (by omega) (by rw [e_55]; rfl) (by decide) ?_
          refine zt_iload dX11_lead_104 rfl ?_
          refine zt_if_eq (tgt := 119) dX11_lead_106 (by decide) (by decide) (fun c_106 => ?_) (fun q => absurd q (by decide))
          refine zt_iconst dX11_lead_119 ?_
          exact zt_iret dX11_lead_120 ⟨by congr 2; unfold jLd; first | (rw [if_neg (by omega)]; done) | (rw [if_pos (by omega)]; (repeat' split) <;> first | rfl | omega), rfl, rfl, rfl⟩
        · refine zt_tableIn (off := 66) (tgt := 121) dX11_lead_55 (by omega) (by omega) (by omega) (by rw [e_55]; rfl) (by decide) ?_
          refine zt_aload_n dX11_lead_121 rfl ?_
          refine zt_getv dX11_lead_122 fl_X11_56 (zs_38 hS) (rf_38_28 hR) ?_
          refine zt_iload dX11_lead_125 rfl ?_
          refine zt_iaload dX11_lead_127 (zs_54 hS) (by decide) (by omega) (by omega) ?_
          exact zt_iret dX11_lead_128 ⟨by congr 2; unfold jLd; first | (rw [if_neg (by omega)]; done) | (rw [if_pos (by omega)]; (repeat' split) <;> first | rfl | omega), rfl, rfl, rfl⟩
        · refine zt_tableIn (off := 74) (tgt := 129) dX11_lead_55 (by omega) (by omega) (by omega) (by rw [e_55]; rfl) (by decide) ?_
          refine zt_iload dX11_lead_129 rfl ?_
          refine zt_if_eq (tgt := 144) dX11_lead_131 (by decide) (by decide) (fun c_131 => ?_) (fun q => absurd q (by decide))
          refine zt_iconst dX11_lead_144 ?_
          exact zt_iret dX11_lead_145 ⟨by congr 2; unfold jLd; first | (rw [if_neg (by omega)]; done) | (rw [if_pos (by omega)]; (repeat' split) <;> first | rfl | omega), rfl, rfl, rfl⟩
        · refine zt_tableIn (off := 91) (tgt := 146) dX11_lead_55 (by omega) (by omega) (by omega) (by rw [e_55]; rfl) (by decide) ?_
          refine zt_aload_n dX11_lead_146 rfl ?_
          refine zt_getv dX11_lead_147 fl_X11_65 (zs_38 hS) (rf_38_31 hR) ?_
          refine zt_iload dX11_lead_150 rfl ?_
          refine zt_iaload dX11_lead_152 (zs_57 hS) (by decide) (by omega) (by omega) ?_
          exact zt_iret dX11_lead_153 ⟨by congr 2; unfold jLd; first | (rw [if_neg (by omega)]; done) | (rw [if_pos (by omega)]; (repeat' split) <;> first | rfl | omega), rfl, rfl, rfl⟩
        · refine zt_tableIn (off := 99) (tgt := 154) dX11_lead_55 (by omega) (by omega) (by omega) (by rw [e_55]; rfl) (by decide) ?_
          refine zt_aload_n dX11_lead_154 rfl ?_
          refine zt_iload dX11_lead_155 rfl ?_
          refine zt_callV1r dX11_lead_157 ml_X11_332 (zs_38 hS) (Nat.le_of_ble_eq_true rfl) (c_jA hS hR hB (by omega)) ?_
          refine zt_ifb_eq (tgt := 180) dX11_lead_160 (by decide) (fun c_160 => ?_) (fun c_160 => ?_)
          · refine zt_iconst dX11_lead_180 ?_
            exact zt_iret dX11_lead_181 ⟨by congr 2; unfold jLd; first | (rw [if_neg (by omega)]; done) | (rw [if_pos (by omega)]; (repeat' split) <;> first | rfl | omega), rfl, rfl, rfl⟩
          · refine zt_aload_n dX11_lead_163 rfl ?_
            refine zt_iload dX11_lead_164 rfl ?_
            refine zt_callV1r dX11_lead_166 ml_X11_441 (zs_38 hS) (Nat.le_of_ble_eq_true rfl) (c_jF hS hR hB (by omega)) ?_
            refine zt_ifb_eq (tgt := 176) dX11_lead_169 (by decide) (fun c_169 => ?_) (fun c_169 => ?_)
            · refine zt_iconst dX11_lead_176 ?_
              refine zt_goto (tgt := 181) dX11_lead_177 (by decide) ?_
              exact zt_iret dX11_lead_181 ⟨by congr 2; unfold jLd; first | (rw [if_neg (by omega)]; done) | (rw [if_pos (by omega)]; (repeat' split) <;> first | rfl | omega), rfl, rfl, rfl⟩
            · refine zt_iconst dX11_lead_172 ?_
              refine zt_goto (tgt := 181) dX11_lead_173 (by decide) ?_
              exact zt_iret dX11_lead_181 ⟨by congr 2; unfold jLd; first | (rw [if_neg (by omega)]; done) | (rw [if_pos (by omega)]; (repeat' split) <;> first | rfl | omega), rfl, rfl, rfl⟩
        · refine zt_tableIn (off := 127) (tgt := 182) dX11_lead_55 (by omega) (by omega) (by omega) (by rw [e_55]; rfl) (by decide) ?_
          refine zt_aload_n dX11_lead_182 rfl ?_
          refine zt_iload_n dX11_lead_183 rfl ?_
          refine zt_iload_n dX11_lead_184 rfl ?_
          refine zt_callV2r dX11_lead_185 ml_X11_424 (zs_38 hS) (Nat.le_of_ble_eq_true rfl) (c_jG hS hR hB (by omega) (by omega)) ?_
          refine zt_ifb_eq (tgt := 201) dX11_lead_188 (by decide) (fun c_188 => ?_) (fun c_188 => ?_)
          · refine zt_iconst dX11_lead_201 ?_
            exact zt_iret dX11_lead_202 ⟨by congr 2; unfold jLd; first | (rw [if_neg (by omega)]; done) | (rw [if_pos (by omega)]; (repeat' split) <;> first | rfl | omega), rfl, rfl, rfl⟩
          · refine zt_aload_n dX11_lead_191 rfl ?_
            refine zt_getv dX11_lead_192 fl_X11_82 (zs_38 hS) (rf_38_36 hR) ?_
            refine zt_iload dX11_lead_195 rfl ?_
            refine zt_iaload dX11_lead_197 (zs_61 hS) (by decide) (by omega) (by omega) ?_
            refine zt_goto (tgt := 202) dX11_lead_198 (by decide) ?_
            exact zt_iret dX11_lead_202 ⟨by congr 2; unfold jLd; first | (rw [if_neg (by omega)]; done) | (rw [if_pos (by omega)]; (repeat' split) <;> first | rfl | omega), rfl, rfl, rfl⟩
        · refine zt_tableOut (tgt := 203) dX11_lead_55 (by omega) e_55 (by decide) ?_
          refine zt_iconst dX11_lead_203 ?_
          exact zt_iret dX11_lead_204 ⟨by congr 2; unfold jLd; first | (rw [if_neg (by omega)]; done) | (rw [if_pos (by omega)]; (repeat' split) <;> first | rfl | omega), rfl, rfl, rfl⟩
      · refine zt_iconst dX11_lead_47 ?_
        refine zt_goto (tgt := 52) dX11_lead_48 (by decide) ?_
        refine zt_istore_6 dX11_lead_52 (by decide) rfl ?_
        refine zt_iload_n dX11_lead_54 rfl ?_
        rcases (show x = 0 ∨ x = 1 ∨ x = 2 ∨ x = 3 ∨ x = 4 ∨ x = 5 ∨ x = 6 ∨ (x < 0 ∨ 6 < x) by omega) with e_55 | e_55 | e_55 | e_55 | e_55 | e_55 | e_55 | e_55
        · refine zt_tableIn (off := 41) (tgt := 96) dX11_lead_55 (by omega) (by omega) (by omega) (by rw [e_55]; rfl) (by decide) ?_
          refine zt_aload_n dX11_lead_96 rfl ?_
          refine zt_getv dX11_lead_97 fl_X11_47 (zs_38 hS) (rf_38_25 hR) ?_
          refine zt_iload dX11_lead_100 rfl ?_
          refine zt_iaload dX11_lead_102 (zs_51 hS) (by decide) (by omega) (by omega) ?_
          exact zt_iret dX11_lead_103 ⟨by congr 2; unfold jLd; first | (rw [if_neg (by omega)]; done) | (rw [if_pos (by omega)]; (repeat' split) <;> first | rfl | omega), rfl, rfl, rfl⟩
        · refine zt_tableIn (off := 49) (tgt := 104) dX11_lead_55 (by omega) (by omega) (by omega) (by rw [e_55]; rfl) (by decide) ?_
          refine zt_iload dX11_lead_104 rfl ?_
          refine zt_if_eq (tgt := 119) dX11_lead_106 (by decide) (by decide) (fun c_106 => ?_) (fun q => absurd q (by decide))
          refine zt_iconst dX11_lead_119 ?_
          exact zt_iret dX11_lead_120 ⟨by congr 2; unfold jLd; first | (rw [if_neg (by omega)]; done) | (rw [if_pos (by omega)]; (repeat' split) <;> first | rfl | omega), rfl, rfl, rfl⟩
        · refine zt_tableIn (off := 66) (tgt := 121) dX11_lead_55 (by omega) (by omega) (by omega) (by rw [e_55]; rfl) (by decide) ?_
          refine zt_aload_n dX11_lead_121 rfl ?_
          refine zt_getv dX11_lead_122 fl_X11_56 (zs_38 hS) (rf_38_28 hR) ?_
          refine zt_iload dX11_lead_125 rfl ?_
          refine zt_iaload dX11_lead_127 (zs_54 hS) (by decide) (by omega) (by omega) ?_
          exact zt_iret dX11_lead_128 ⟨by congr 2; unfold jLd; first | (rw [if_neg (by omega)]; done) | (rw [if_pos (by omega)]; (repeat' split) <;> first | rfl | omega), rfl, rfl, rfl⟩
        · refine zt_tableIn (off := 74) (tgt := 129) dX11_lead_55 (by omega) (by omega) (by omega) (by rw [e_55]; rfl) (by decide) ?_
          refine zt_iload dX11_lead_129 rfl ?_
          refine zt_if_eq (tgt := 144) dX11_lead_131 (by decide) (by decide) (fun q => absurd q (by decide)) (fun c_131 => ?_)
          refine zt_aload_n dX11_lead_134 rfl ?_
          refine zt_getv dX11_lead_135 fl_X11_59 (zs_38 hS) (rf_38_29 hR) ?_
          refine zt_iload dX11_lead_138 rfl ?_
          refine zt_iaload dX11_lead_140 (zs_55 hS) (by decide) (by omega) (by omega) ?_
          refine zt_goto (tgt := 145) dX11_lead_141 (by decide) ?_
          exact zt_iret dX11_lead_145 ⟨by congr 2; unfold jLd; first | (rw [if_neg (by omega)]; done) | (rw [if_pos (by omega)]; (repeat' split) <;> first | rfl | omega), rfl, rfl, rfl⟩
        · refine zt_tableIn (off := 91) (tgt := 146) dX11_lead_55 (by omega) (by omega) (by omega) (by rw [e_55]; rfl) (by decide) ?_
          refine zt_aload_n dX11_lead_146 rfl ?_
          refine zt_getv dX11_lead_147 fl_X11_65 (zs_38 hS) (rf_38_31 hR) ?_
          refine zt_iload dX11_lead_150 rfl ?_
          refine zt_iaload dX11_lead_152 (zs_57 hS) (by decide) (by omega) (by omega) ?_
          exact zt_iret dX11_lead_153 ⟨by congr 2; unfold jLd; first | (rw [if_neg (by omega)]; done) | (rw [if_pos (by omega)]; (repeat' split) <;> first | rfl | omega), rfl, rfl, rfl⟩
        · refine zt_tableIn (off := 99) (tgt := 154) dX11_lead_55 (by omega) (by omega) (by omega) (by rw [e_55]; rfl) (by decide) ?_
          refine zt_aload_n dX11_lead_154 rfl ?_
          refine zt_iload dX11_lead_155 rfl ?_
          refine zt_callV1r dX11_lead_157 ml_X11_332 (zs_38 hS) (Nat.le_of_ble_eq_true rfl) (c_jA hS hR hB (by omega)) ?_
          refine zt_ifb_eq (tgt := 180) dX11_lead_160 (by decide) (fun c_160 => ?_) (fun c_160 => ?_)
          · refine zt_iconst dX11_lead_180 ?_
            exact zt_iret dX11_lead_181 ⟨by congr 2; unfold jLd; first | (rw [if_neg (by omega)]; done) | (rw [if_pos (by omega)]; (repeat' split) <;> first | rfl | omega), rfl, rfl, rfl⟩
          · refine zt_aload_n dX11_lead_163 rfl ?_
            refine zt_iload dX11_lead_164 rfl ?_
            refine zt_callV1r dX11_lead_166 ml_X11_441 (zs_38 hS) (Nat.le_of_ble_eq_true rfl) (c_jF hS hR hB (by omega)) ?_
            refine zt_ifb_eq (tgt := 176) dX11_lead_169 (by decide) (fun c_169 => ?_) (fun c_169 => ?_)
            · refine zt_iconst dX11_lead_176 ?_
              refine zt_goto (tgt := 181) dX11_lead_177 (by decide) ?_
              exact zt_iret dX11_lead_181 ⟨by congr 2; unfold jLd; first | (rw [if_neg (by omega)]; done) | (rw [if_pos (by omega)]; (repeat' split) <;> first | rfl | omega), rfl, rfl, rfl⟩
            · refine zt_iconst dX11_lead_172 ?_
              refine zt_goto (tgt := 181) dX11_lead_173 (by decide) ?_
              exact zt_iret dX11_lead_181 ⟨by congr 2; unfold jLd; first | (rw [if_neg (by omega)]; done) | (rw [if_pos (by omega)]; (repeat' split) <;> first | rfl | omega), rfl, rfl, rfl⟩
        · refine zt_tableIn (off := 127) (tgt := 182) dX11_lead_55 (by omega) (by omega) (by omega) (by rw [e_55]; rfl) (by decide) ?_
          refine zt_aload_n dX11_lead_182 rfl ?_
          refine zt_iload_n dX11_lead_183 rfl ?_
          refine zt_iload_n dX11_lead_184 rfl ?_
          refine zt_callV2r dX11_lead_185 ml_X11_424 (zs_38 hS) (Nat.le_of_ble_eq_true rfl) (c_jG hS hR hB (by omega) (by omega)) ?_
          refine zt_ifb_eq (tgt := 201) dX11_lead_188 (by decide) (fun c_188 => ?_) (fun c_188 => ?_)
          · refine zt_iconst dX11_lead_201 ?_
            exact zt_iret dX11_lead_202 ⟨by congr 2; unfold jLd; first | (rw [if_neg (by omega)]; done) | (rw [if_pos (by omega)]; (repeat' split) <;> first | rfl | omega), rfl, rfl, rfl⟩
          · refine zt_aload_n dX11_lead_191 rfl ?_
            refine zt_getv dX11_lead_192 fl_X11_82 (zs_38 hS) (rf_38_36 hR) ?_
            refine zt_iload dX11_lead_195 rfl ?_
            refine zt_iaload dX11_lead_197 (zs_61 hS) (by decide) (by omega) (by omega) ?_
            refine zt_goto (tgt := 202) dX11_lead_198 (by decide) ?_
            exact zt_iret dX11_lead_202 ⟨by congr 2; unfold jLd; first | (rw [if_neg (by omega)]; done) | (rw [if_pos (by omega)]; (repeat' split) <;> first | rfl | omega), rfl, rfl, rfl⟩
        · refine zt_tableOut (tgt := 203) dX11_lead_55 (by omega) e_55 (by decide) ?_
          refine zt_iconst dX11_lead_203 ?_
          exact zt_iret dX11_lead_204 ⟨by congr 2; unfold jLd; first | (rw [if_neg (by omega)]; done) | (rw [if_pos (by omega)]; (repeat' split) <;> first | rfl | omega), rfl, rfl, rfl⟩
    · refine zt_iconst dX11_lead_29 ?_
      refine zt_goto (tgt := 34) dX11_lead_30 (by decide) ?_
      refine zt_istore_5 dX11_lead_34 (by decide) rfl ?_
      refine zt_aload_n dX11_lead_36 rfl ?_
      refine zt_getv dX11_lead_37 fl_X11_56 (zs_38 hS) (rf_38_28 hR) ?_
      refine zt_iload dX11_lead_40 rfl ?_
      refine zt_iaload dX11_lead_42 (zs_54 hS) (by decide) (by omega) (by omega) ?_
      refine zt_iconst dX11_lead_43 ?_
      refine zt_icmp_eq (tgt := 51) dX11_lead_44 (by decide) (hm.int (zs_54 hS) (by omega) (by omega)) (by decide) (fun c_44 => ?_) (fun c_44 => ?_)
      · refine zt_iconst dX11_lead_51 ?_
        refine zt_istore_6 dX11_lead_52 (by decide) rfl ?_
        refine zt_iload_n dX11_lead_54 rfl ?_
        rcases (show x = 0 ∨ x = 1 ∨ x = 2 ∨ x = 3 ∨ x = 4 ∨ x = 5 ∨ x = 6 ∨ (x < 0 ∨ 6 < x) by omega) with e_55 | e_55 | e_55 | e_55 | e_55 | e_55 | e_55 | e_55
        · refine zt_tableIn (off := 41) (tgt := 96) dX11_lead_55 (by omega) (by omega) (by omega) (by rw [e_55]; rfl) (by decide) ?_
          refine zt_aload_n dX11_lead_96 rfl ?_
          refine zt_getv dX11_lead_97 fl_X11_47 (zs_38 hS) (rf_38_25 hR) ?_
          refine zt_iload dX11_lead_100 rfl ?_
          refine zt_iaload dX11_lead_102 (zs_51 hS) (by decide) (by omega) (by omega) ?_
          exact zt_iret dX11_lead_103 ⟨by congr 2; unfold jLd; first | (rw [if_neg (by omega)]; done) | (rw [if_pos (by omega)]; (repeat' split) <;> first | rfl | omega), rfl, rfl, rfl⟩
        · refine zt_tableIn (off := 49) (tgt := 104) dX11_lead_55 (by omega) (by omega) (by omega) (by rw [e_55]; rfl) (by decide) ?_
          refine zt_iload dX11_lead_104 rfl ?_
          refine zt_if_eq (tgt := 119) dX11_lead_106 (by decide) (by decide) (fun q => absurd q (by decide)) (fun c_106 => ?_)
          refine zt_aload_n dX11_lead_109 rfl ?_
          refine zt_getv dX11_lead_110 fl_X11_50 (zs_38 hS) (rf_38_26 hR) ?_
          refine zt_iload dX11_lead_113 rfl ?_
          refine zt_iaload dX11_lead_115 (zs_52 hS) (by decide) (by omega) (by omega) ?_
          refine zt_goto (tgt := 120) dX11_lead_116 (by decide) ?_
          exact zt_iret dX11_lead_120 ⟨by congr 2; unfold jLd; first | (rw [if_neg (by omega)]; done) | (rw [if_pos (by omega)]; (repeat' split) <;> first | rfl | omega), rfl, rfl, rfl⟩
        · refine zt_tableIn (off := 66) (tgt := 121) dX11_lead_55 (by omega) (by omega) (by omega) (by rw [e_55]; rfl) (by decide) ?_
          refine zt_aload_n dX11_lead_121 rfl ?_
          refine zt_getv dX11_lead_122 fl_X11_56 (zs_38 hS) (rf_38_28 hR) ?_
          refine zt_iload dX11_lead_125 rfl ?_
          refine zt_iaload dX11_lead_127 (zs_54 hS) (by decide) (by omega) (by omega) ?_
          exact zt_iret dX11_lead_128 ⟨by congr 2; unfold jLd; first | (rw [if_neg (by omega)]; done) | (rw [if_pos (by omega)]; (repeat' split) <;> first | rfl | omega), rfl, rfl, rfl⟩
        · refine zt_tableIn (off := 74) (tgt := 129) dX11_lead_55 (by omega) (by omega) (by omega) (by rw [e_55]; rfl) (by decide) ?_
          refine zt_iload dX11_lead_129 rfl ?_
          refine zt_if_eq (tgt := 144) dX11_lead_131 (by decide) (by decide) (fun c_131 => ?_) (fun q => absurd q (by decide))
          refine zt_iconst dX11_lead_144 ?_
          exact zt_iret dX11_lead_145 ⟨by congr 2; unfold jLd; first | (rw [if_neg (by omega)]; done) | (rw [if_pos (by omega)]; (repeat' split) <;> first | rfl | omega), rfl, rfl, rfl⟩
        · refine zt_tableIn (off := 91) (tgt := 146) dX11_lead_55 (by omega) (by omega) (by omega) (by rw [e_55]; rfl) (by decide) ?_
          refine zt_aload_n dX11_lead_146 rfl ?_
          refine zt_getv dX11_lead_147 fl_X11_65 (zs_38 hS) (rf_38_31 hR) ?_
          refine zt_iload dX11_lead_150 rfl ?_
          refine zt_iaload dX11_lead_152 (zs_57 hS) (by decide) (by omega) (by omega) ?_
          exact zt_iret dX11_lead_153 ⟨by congr 2; unfold jLd; first | (rw [if_neg (by omega)]; done) | (rw [if_pos (by omega)]; (repeat' split) <;> first | rfl | omega), rfl, rfl, rfl⟩
        · refine zt_tableIn (off := 99) (tgt := 154) dX11_lead_55 (by omega) (by omega) (by omega) (by rw [e_55]; rfl) (by decide) ?_
          refine zt_aload_n dX11_lead_154 rfl ?_
          refine zt_iload dX11_lead_155 rfl ?_
          refine zt_callV1r dX11_lead_157 ml_X11_332 (zs_38 hS) (Nat.le_of_ble_eq_true rfl) (c_jA hS hR hB (by omega)) ?_
          refine zt_ifb_eq (tgt := 180) dX11_lead_160 (by decide) (fun c_160 => ?_) (fun c_160 => ?_)
          · refine zt_iconst dX11_lead_180 ?_
            exact zt_iret dX11_lead_181 ⟨by congr 2; unfold jLd; first | (rw [if_neg (by omega)]; done) | (rw [if_pos (by omega)]; (repeat' split) <;> first | rfl | omega), rfl, rfl, rfl⟩
          · refine zt_aload_n dX11_lead_163 rfl ?_
            refine zt_iload dX11_lead_164 rfl ?_
            refine zt_callV1r dX11_lead_166 ml_X11_441 (zs_38 hS) (Nat.le_of_ble_eq_true rfl) (c_jF hS hR hB (by omega)) ?_
            refine zt_ifb_eq (tgt := 176) dX11_lead_169 (by decide) (fun c_169 => ?_) (fun c_169 => ?_)
            · refine zt_iconst dX11_lead_176 ?_
              refine zt_goto (tgt := 181) dX11_lead_177 (by decide) ?_
              exact zt_iret dX11_lead_181 ⟨by congr 2; unfold jLd; first | (rw [if_neg (by omega)]; done) | (rw [if_pos (by omega)]; (repeat' split) <;> first | rfl | omega), rfl, rfl, rfl⟩
            · refine zt_iconst dX11_lead_172 ?_
              refine zt_goto (tgt := 181) dX11_lead_173 (by decide) ?_
              exact zt_iret dX11_lead_181 ⟨by congr 2; unfold jLd; first | (rw [if_neg (by omega)]; done) | (rw [if_pos (by omega)]; (repeat' split) <;> first | rfl | omega), rfl, rfl, rfl⟩
        · refine zt_tableIn (off := 127) (tgt := 182) dX11_lead_55 (by omega) (by omega) (by omega) (by rw [e_55]; rfl) (by decide) ?_
          refine zt_aload_n dX11_lead_182 rfl ?_
          refine zt_iload_n dX11_lead_183 rfl ?_
          refine zt_iload_n dX11_lead_184 rfl ?_
          refine zt_callV2r dX11_lead_185 ml_X11_424 (zs_38 hS) (Nat.le_of_ble_eq_true rfl) (c_jG hS hR hB (by omega) (by omega)) ?_
          refine zt_ifb_eq (tgt := 201) dX11_lead_188 (by decide) (fun c_188 => ?_) (fun c_188 => ?_)
          · refine zt_iconst dX11_lead_201 ?_
            exact zt_iret dX11_lead_202 ⟨by congr 2; unfold jLd; first | (rw [if_neg (by omega)]; done) | (rw [if_pos (by omega)]; (repeat' split) <;> first | rfl | omega), rfl, rfl, rfl⟩
          · refine zt_aload_n dX11_lead_191 rfl ?_
            refine zt_getv dX11_lead_192 fl_X11_82 (zs_38 hS) (rf_38_36 hR) ?_
            refine zt_iload dX11_lead_195 rfl ?_
            refine zt_iaload dX11_lead_197 (zs_61 hS) (by decide) (by omega) (by omega) ?_
            refine zt_goto (tgt := 202) dX11_lead_198 (by decide) ?_
            exact zt_iret dX11_lead_202 ⟨by congr 2; unfold jLd; first | (rw [if_neg (by omega)]; done) | (rw [if_pos (by omega)]; (repeat' split) <;> first | rfl | omega), rfl, rfl, rfl⟩
        · refine zt_tableOut (tgt := 203) dX11_lead_55 (by omega) e_55 (by decide) ?_
          refine zt_iconst dX11_lead_203 ?_
          exact zt_iret dX11_lead_204 ⟨by congr 2; unfold jLd; first | (rw [if_neg (by omega)]; done) | (rw [if_pos (by omega)]; (repeat' split) <;> first | rfl | omega), rfl, rfl, rfl⟩
      · refine zt_iconst dX11_lead_47 ?_
        refine zt_goto (tgt := 52) dX11_lead_48 (by decide) ?_
        refine zt_istore_6 dX11_lead_52 (by decide) rfl ?_
        refine zt_iload_n dX11_lead_54 rfl ?_
        rcases (show x = 0 ∨ x = 1 ∨ x = 2 ∨ x = 3 ∨ x = 4 ∨ x = 5 ∨ x = 6 ∨ (x < 0 ∨ 6 < x) by omega) with e_55 | e_55 | e_55 | e_55 | e_55 | e_55 | e_55 | e_55
        · refine zt_tableIn (off := 41) (tgt := 96) dX11_lead_55 (by omega) (by omega) (by omega) (by rw [e_55]; rfl) (by decide) ?_
          refine zt_aload_n dX11_lead_96 rfl ?_
          refine zt_getv dX11_lead_97 fl_X11_47 (zs_38 hS) (rf_38_25 hR) ?_
          refine zt_iload dX11_lead_100 rfl ?_
          refine zt_iaload dX11_lead_102 (zs_51 hS) (by decide) (by omega) (by omega) ?_
          exact zt_iret dX11_lead_103 ⟨by congr 2; unfold jLd; first | (rw [if_neg (by omega)]; done) | (rw [if_pos (by omega)]; (repeat' split) <;> first | rfl | omega), rfl, rfl, rfl⟩
        · refine zt_tableIn (off := 49) (tgt := 104) dX11_lead_55 (by omega) (by omega) (by omega) (by rw [e_55]; rfl) (by decide) ?_
          refine zt_iload dX11_lead_104 rfl ?_
          refine zt_if_eq (tgt := 119) dX11_lead_106 (by decide) (by decide) (fun q => absurd q (by decide)) (fun c_106 => ?_)
          refine zt_aload_n dX11_lead_109 rfl ?_
          refine zt_getv dX11_lead_110 fl_X11_50 (zs_38 hS) (rf_38_26 hR) ?_
          refine zt_iload dX11_lead_113 rfl ?_
          refine zt_iaload dX11_lead_115 (zs_52 hS) (by decide) (by omega) (by omega) ?_
          refine zt_goto (tgt := 120) dX11_lead_116 (by decide) ?_
          exact zt_iret dX11_lead_120 ⟨by congr 2; unfold jLd; first | (rw [if_neg (by omega)]; done) | (rw [if_pos (by omega)]; (repeat' split) <;> first | rfl | omega), rfl, rfl, rfl⟩
        · refine zt_tableIn (off := 66) (tgt := 121) dX11_lead_55 (by omega) (by omega) (by omega) (by rw [e_55]; rfl) (by decide) ?_
          refine zt_aload_n dX11_lead_121 rfl ?_
          refine zt_getv dX11_lead_122 fl_X11_56 (zs_38 hS) (rf_38_28 hR) ?_
          refine zt_iload dX11_lead_125 rfl ?_
          refine zt_iaload dX11_lead_127 (zs_54 hS) (by decide) (by omega) (by omega) ?_
          exact zt_iret dX11_lead_128 ⟨by congr 2; unfold jLd; first | (rw [if_neg (by omega)]; done) | (rw [if_pos (by omega)]; (repeat' split) <;> first | rfl | omega), rfl, rfl, rfl⟩
        · refine zt_tableIn (off := 74) (tgt := 129) dX11_lead_55 (by omega) (by omega) (by omega) (by rw [e_55]; rfl) (by decide) ?_
          refine zt_iload dX11_lead_129 rfl ?_
          refine zt_if_eq (tgt := 144) dX11_lead_131 (by decide) (by decide) (fun q => absurd q (by decide)) (fun c_131 => ?_)
          refine zt_aload_n dX11_lead_134 rfl ?_
          refine zt_getv dX11_lead_135 fl_X11_59 (zs_38 hS) (rf_38_29 hR) ?_
          refine zt_iload dX11_lead_138 rfl ?_
          refine zt_iaload dX11_lead_140 (zs_55 hS) (by decide) (by omega) (by omega) ?_
          refine zt_goto (tgt := 145) dX11_lead_141 (by decide) ?_
          exact zt_iret dX11_lead_145 ⟨by congr 2; unfold jLd; first | (rw [if_neg (by omega)]; done) | (rw [if_pos (by omega)]; (repeat' split) <;> first | rfl | omega), rfl, rfl, rfl⟩
        · refine zt_tableIn (off := 91) (tgt := 146) dX11_lead_55 (by omega) (by omega) (by omega) (by rw [e_55]; rfl) (by decide) ?_
          refine zt_aload_n dX11_lead_146 rfl ?_
          refine zt_getv dX11_lead_147 fl_X11_65 (zs_38 hS) (rf_38_31 hR) ?_
          refine zt_iload dX11_lead_150 rfl ?_
          refine zt_iaload dX11_lead_152 (zs_57 hS) (by decide) (by omega) (by omega) ?_
          exact zt_iret dX11_lead_153 ⟨by congr 2; unfold jLd; first | (rw [if_neg (by omega)]; done) | (rw [if_pos (by omega)]; (repeat' split) <;> first | rfl | omega), rfl, rfl, rfl⟩
        · refine zt_tableIn (off := 99) (tgt := 154) dX11_lead_55 (by omega) (by omega) (by omega) (by rw [e_55]; rfl) (by decide) ?_
          refine zt_aload_n dX11_lead_154 rfl ?_
          refine zt_iload dX11_lead_155 rfl ?_
          refine zt_callV1r dX11_lead_157 ml_X11_332 (zs_38 hS) (Nat.le_of_ble_eq_true rfl) (c_jA hS hR hB (by omega)) ?_
          refine zt_ifb_eq (tgt := 180) dX11_lead_160 (by decide) (fun c_160 => ?_) (fun c_160 => ?_)
          · refine zt_iconst dX11_lead_180 ?_
            exact zt_iret dX11_lead_181 ⟨by congr 2; unfold jLd; first | (rw [if_neg (by omega)]; done) | (rw [if_pos (by omega)]; (repeat' split) <;> first | rfl | omega), rfl, rfl, rfl⟩
          · refine zt_aload_n dX11_lead_163 rfl ?_
            refine zt_iload dX11_lead_164 rfl ?_
            refine zt_callV1r dX11_lead_166 ml_X11_441 (zs_38 hS) (Nat.le_of_ble_eq_true rfl) (c_jF hS hR hB (by omega)) ?_
            refine zt_ifb_eq (tgt := 176) dX11_lead_169 (by decide) (fun c_169 => ?_) (fun c_169 => ?_)
            · refine zt_iconst dX11_lead_176 ?_
              refine zt_goto (tgt := 181) dX11_lead_177 (by decide) ?_
              exact zt_iret dX11_lead_181 ⟨by congr 2; unfold jLd; first | (rw [if_neg (by omega)]; done) | (rw [if_pos (by omega)]; (repeat' split) <;> first | rfl | omega), rfl, rfl, rfl⟩
            · refine zt_iconst dX11_lead_172 ?_
              refine zt_goto (tgt := 181) dX11_lead_173 (by decide) ?_
              exact zt_iret dX11_lead_181 ⟨by congr 2; unfold jLd; first | (rw [if_neg (by omega)]; done) | (rw [if_pos (by omega)]; (repeat' split) <;> first | rfl | omega), rfl, rfl, rfl⟩
        · refine zt_tableIn (off := 127) (tgt := 182) dX11_lead_55 (by omega) (by omega) (by omega) (by rw [e_55]; rfl) (by decide) ?_
          refine zt_aload_n dX11_lead_182 rfl ?_
          refine zt_iload_n dX11_lead_183 rfl ?_
          refine zt_iload_n dX11_lead_184 rfl ?_
          refine zt_callV2r dX11_lead_185 ml_X11_424 (zs_38 hS) (Nat.le_of_ble_eq_true rfl) (c_jG hS hR hB (by omega) (by omega)) ?_
          refine zt_ifb_eq (tgt := 201) dX11_lead_188 (by decide) (fun c_188 => ?_) (fun c_188 => ?_)
          · refine zt_iconst dX11_lead_201 ?_
            exact zt_iret dX11_lead_202 ⟨by congr 2; unfold jLd; first | (rw [if_neg (by omega)]; done) | (rw [if_pos (by omega)]; (repeat' split) <;> first | rfl | omega), rfl, rfl, rfl⟩
          · refine zt_aload_n dX11_lead_191 rfl ?_
            refine zt_getv dX11_lead_192 fl_X11_82 (zs_38 hS) (rf_38_36 hR) ?_
            refine zt_iload dX11_lead_195 rfl ?_
            refine zt_iaload dX11_lead_197 (zs_61 hS) (by decide) (by omega) (by omega) ?_
            refine zt_goto (tgt := 202) dX11_lead_198 (by decide) ?_
            exact zt_iret dX11_lead_202 ⟨by congr 2; unfold jLd; first | (rw [if_neg (by omega)]; done) | (rw [if_pos (by omega)]; (repeat' split) <;> first | rfl | omega), rfl, rfl, rfl⟩
        · refine zt_tableOut (tgt := 203) dX11_lead_55 (by omega) e_55 (by decide) ?_
          refine zt_iconst dX11_lead_203 ?_
          exact zt_iret dX11_lead_204 ⟨by congr 2; unfold jLd; first | (rw [if_neg (by omega)]; done) | (rw [if_pos (by omega)]; (repeat' split) <;> first | rfl | omega), rfl, rfl, rfl⟩
  · refine zt_iconst dX11_lead_9 ?_
    exact zt_iret dX11_lead_10 ⟨by congr 2; unfold jLd; first | (rw [if_neg (by omega)]; done) | (rw [if_pos (by omega)]; (repeat' split) <;> first | rfl | omega), rfl, rfl, rfl⟩
