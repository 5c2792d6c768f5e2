/-- the bits of the places below k that a curve misses -/
noncomputable def hpN (q : Int → Prop) (g : Int → Int) : Nat → Int
  | 0 => 0
  | k + 1 => hpN q g k + zite (g k ≠ -2147483648 ∧ q k) (2 ^ k) 0
theorem hpN_b {q : Int → Prop} {g : Int → Int} : ∀ k : Nat, 0 ≤ hpN q g k ∧ hpN q g k < 2 ^ k
  | 0 => by show (0 : Int) ≤ 0 ∧ (0 : Int) < 2 ^ 0; decide
  | k + 1 => by
    have ih := hpN_b (q := q) (g := g) k
    have hs := zpw_s k
    have hp := zpw_pos k
    show 0 ≤ hpN q g k + zite _ _ _ ∧ hpN q g k + zite _ _ _ < _
    by_cases c : g k ≠ -2147483648 ∧ q k
    · rw [zite_t c]; omega
    · rw [zite_f c]; omega
theorem hpS_app {q : Int → Prop} {x : Int} : ∀ l : List Int, hpS q (l ++ [x]) = hpS q l + zite (q x) (2 ^ x.toNat) 0
  | [] => by show zite _ _ _ + 0 = 0 + zite _ _ _; omega
  | y :: l => by
    show zite _ _ _ + hpS q (l ++ [x]) = zite _ _ _ + hpS q l + zite _ _ _
    rw [hpS_app l]; omega
theorem hpN_S {q : Int → Prop} {g : Int → Int} : ∀ k : Nat, hpN q g k = hpS q (rPn g k)
  | 0 => rfl
  | k + 1 => by
    show hpN q g k + zite (g k ≠ -2147483648 ∧ q k) (2 ^ k) 0 = hpS q (if g k ≠ -2147483648 then rPn g k ++ [(k : Int)] else rPn g k)
    rw [hpN_S k]
    by_cases c : g k ≠ -2147483648
    · rw [if_pos c, hpS_app, Int.toNat_natCast]
      by_cases c2 : q k
      · rw [zite_t ⟨c, c2⟩, zite_t c2]
      · rw [zite_f (fun z => c2 z.2), zite_f c2]
    · rw [if_neg c, zite_f (fun z => c z.1), Int.add_zero]
def jTr (h : zMem) (H : Int) : zMem := zup (zup (if h 38 62 = -1 ∨ bts H < bts (h 38 62) then zup h 38 62 H else h) 79 (h 38 61) H) 38 61 (h 38 61 + 1)

theorem lid1_0 {p0 : Int} : cV1 p0 = 1 * 1 := by unfold cV1; grind
theorem lid2_0 {p0 p1 : Int} : cV2 p0 p1 = (-1) * (1 * (p0 - p1)) := by unfold cV2; grind
theorem lid2_1 {p0 p1 : Int} : cV2 p0 p1 = 1 * (1 * (p1 - p0)) := by unfold cV2; grind
theorem lid3_0 {p0 p1 p2 : Int} : cV3 p0 p1 p2 = (1 * (p2 - p1)) * ((1 * (p0 - p1)) * (p0 - p2)) := by unfold cV3; grind
theorem lid3_1 {p0 p1 p2 : Int} : cV3 p0 p1 p2 = (-(1 * (p2 - p0))) * ((1 * (p1 - p0)) * (p1 - p2)) := by unfold cV3; grind
theorem lid3_2 {p0 p1 p2 : Int} : cV3 p0 p1 p2 = (1 * (p1 - p0)) * ((1 * (p2 - p0)) * (p2 - p1)) := by unfold cV3; grind
theorem lid4_0 {p0 p1 p2 p3 : Int} : cV4 p0 p1 p2 p3 = (-(((1 * (p2 - p1)) * (p3 - p1)) * (p3 - p2))) * (((1 * (p0 - p1)) * (p0 - p2)) * (p0 - p3)) := by unfold cV4; grind
theorem lid4_1 {p0 p1 p2 p3 : Int} : cV4 p0 p1 p2 p3 = (((1 * (p2 - p0)) * (p3 - p0)) * (p3 - p2)) * (((1 * (p1 - p0)) * (p1 - p2)) * (p1 - p3)) := by unfold cV4; grind
theorem lid4_2 {p0 p1 p2 p3 : Int} : cV4 p0 p1 p2 p3 = (-(((1 * (p1 - p0)) * (p3 - p0)) * (p3 - p1))) * (((1 * (p2 - p0)) * (p2 - p1)) * (p2 - p3)) := by unfold cV4; grind
theorem lid4_3 {p0 p1 p2 p3 : Int} : cV4 p0 p1 p2 p3 = (((1 * (p1 - p0)) * (p2 - p0)) * (p2 - p1)) * (((1 * (p3 - p0)) * (p3 - p1)) * (p3 - p2)) := by unfold cV4; grind
set_option maxRecDepth 100000 in
set_option maxHeartbeats 4000000 in
theorem l_try1 {d n : Nat} {sh : zSh} {h : zMem} {p0 y0 : Int} {e H : Int} (hS : zShp sh) (hR : zRf h) (hL : 0 ≤ h 38 50 ∧ h 38 50 ≤ 20) (hr1 : ∀ i, 0 ≤ i → i < h 38 50 → h 71 i = -2147483648 ∨ (-999999 ≤ h 71 i ∧ h 71 i ≤ 999999)) (h61 : 0 ≤ h 38 61 ∧ h 38 61 < 5000) (h62 : h 38 62 = -1 ∨ (0 ≤ h 38 62 ∧ h 38 62 < 1048576)) (he : 0 ≤ e ∧ e ≤ 9) (hp0 : h 77 0 = p0) (hy0 : h 71 p0 = y0) (hb0 : -999999 ≤ y0 ∧ y0 ≤ 999999) (hod : 0 ≤ p0 ∧ p0 < 20) (hq : ∀ x, qm (h 71) e [p0] x ↔ e * (1 : Int) < zabs (cP1 p0 y0 x - h 71 x * (1 : Int))) (hVb : 0 < (1 : Int) ∧ (1 : Int) ≤ 47045881) (hPb : ∀ x, 0 ≤ x ∧ x < 20 → -200000000000000 ≤ cP1 p0 y0 x ∧ cP1 p0 y0 x ≤ 200000000000000) (hHd : H = hpN (qm (h 71) e [p0]) (h 71) (h 38 50).toNat)  : ∀ (k : Nat) (i : Int) (a : Int), h 38 50 - i < (k : Int) → 0 ≤ i → i ≤ h 38 50 → a = hpN (qm (h 71) e [p0]) (h 71) i.toNat → zT yX11_tries cX11_tries 15 none (d + 1) 0 0 (zq none n sh (jTr h H)) 60 [some (2, 38), some (0, 0), some (0, e), some (1, 1), none, some (0, a), some (0, i), none, none, none, none, none, none, none, none] [] n sh h := by
  intro k
  induction k with
  | zero => intros; exfalso; omega
  | succ k ih =>
    intro i a hk h0 h1 ha
    refine zt_iload dX11_tries_60 rfl ?_
    refine zt_aload_n dX11_tries_62 rfl ?_
    refine zt_get dX11_tries_63 fl_X11_388 (zs_38 hS) ?_
    refine zt_icmp_ge (tgt := 248) dX11_tries_66 (by decide) (by omega) (by omega) (fun c_66 => ?_) (fun c_66 => ?_)
    · have hi : i = h 38 50 := by omega
      subst hi
      have hab := hpN_b (q := qm (h 71) e [p0]) (g := h 71) (h 38 50).toNat
      have hpm := zpw_le (show (h 38 50).toNat ≤ 20 by omega)
      have e20 : (2 : Int) ^ 20 = 1048576 := by decide
      have hH : H = a := by rw [ha, hHd]
      rw [← ha] at hab
      refine zt_aload_n dX11_tries_248 rfl ?_
      refine zt_get dX11_tries_249 fl_X11_400 (zs_38 hS) ?_
      refine zt_iconst dX11_tries_252 ?_
      refine zt_icmp_eq (tgt := 271) dX11_tries_253 (by decide) (by omega) (by decide) (fun c_253 => ?_) (fun c_253 => ?_)
      · refine zt_aload_n dX11_tries_271 rfl ?_
        refine zt_iload dX11_tries_272 rfl ?_
        refine zt_puti dX11_tries_274 fl_X11_400 rfl (zs_38 hS) (by omega) ?_
        refine zt_aload_n dX11_tries_277 rfl ?_
        refine zt_getv dX11_tries_278 fl_X11_137 (zs_38 hS) (rf_38_60 (hR.up (by decide))) ?_
        refine zt_aload_n dX11_tries_281 rfl ?_
        refine zt_getv (v := h 38 61) dX11_tries_282 fl_X11_397 (zs_38 hS) ((zupJ (by decide)).trans rfl) ?_
        refine zt_iload dX11_tries_285 rfl ?_
        refine zt_iastore dX11_tries_287 (zs_79 hS) (by decide) (by omega) (by omega) (by omega) ?_
        refine zt_aload_n dX11_tries_288 rfl ?_
        refine zt_dup dX11_tries_289 (Nat.ne_of_beq_eq_false rfl) ?_
        refine zt_getv (v := h 38 61) dX11_tries_290 fl_X11_397 (zs_38 hS) ((zupA (by decide)).trans ((zupJ (by decide)).trans rfl)) ?_
        refine zt_iconst dX11_tries_293 ?_
        refine zt_iadd dX11_tries_294 ?_
        refine zt_puti dX11_tries_295 fl_X11_397 rfl (zs_38 hS) (by omega) ?_
        exact zt_vret dX11_tries_298 ⟨rfl, rfl, rfl, by rw [hH]; unfold jTr; rw [if_pos (by first | omega | (left; assumption) | (right; assumption))]⟩
      · refine zt_iload dX11_tries_256 rfl ?_
        refine zt_callS1r dX11_tries_258 ml_X11_406 (Nat.le_of_ble_eq_true rfl) (c_jbi ⟨by omega, by omega⟩) ?_
        have hbt258 : 0 ≤ bts a ∧ bts a ≤ 20 := bt_b 20 _
        refine zt_aload_n dX11_tries_261 rfl ?_
        refine zt_get dX11_tries_262 fl_X11_400 (zs_38 hS) ?_
        refine zt_callS1r dX11_tries_265 ml_X11_406 (Nat.le_of_ble_eq_true rfl) (c_jbi ⟨by omega, by omega⟩) ?_
        have hbt265 : 0 ≤ bts (h 38 62) ∧ bts (h 38 62) ≤ 20 := bt_b 20 _
        refine zt_icmp_ge (tgt := 277) dX11_tries_268 (by decide) (by omega) (by omega) (fun c_268 => ?_) (fun c_268 => ?_)
        · refine zt_aload_n dX11_tries_277 rfl ?_
          refine zt_getv dX11_tries_278 fl_X11_137 (zs_38 hS) (rf_38_60 hR) ?_
          refine zt_aload_n dX11_tries_281 rfl ?_
          refine zt_get dX11_tries_282 fl_X11_397 (zs_38 hS) ?_
          refine zt_iload dX11_tries_285 rfl ?_
          refine zt_iastore dX11_tries_287 (zs_79 hS) (by decide) (by omega) (by omega) (by omega) ?_
          refine zt_aload_n dX11_tries_288 rfl ?_
          refine zt_dup dX11_tries_289 (Nat.ne_of_beq_eq_false rfl) ?_
          refine zt_getv (v := h 38 61) dX11_tries_290 fl_X11_397 (zs_38 hS) ((zupA (by decide)).trans rfl) ?_
          refine zt_iconst dX11_tries_293 ?_
          refine zt_iadd dX11_tries_294 ?_
          refine zt_puti dX11_tries_295 fl_X11_397 rfl (zs_38 hS) (by omega) ?_
          exact zt_vret dX11_tries_298 ⟨rfl, rfl, rfl, by rw [hH]; unfold jTr; rw [if_neg (by first | omega | (left; assumption) | (right; assumption))]⟩
        · refine zt_aload_n dX11_tries_271 rfl ?_
          refine zt_iload dX11_tries_272 rfl ?_
          refine zt_puti dX11_tries_274 fl_X11_400 rfl (zs_38 hS) (by omega) ?_
          refine zt_aload_n dX11_tries_277 rfl ?_
          refine zt_getv dX11_tries_278 fl_X11_137 (zs_38 hS) (rf_38_60 (hR.up (by decide))) ?_
          refine zt_aload_n dX11_tries_281 rfl ?_
          refine zt_getv (v := h 38 61) dX11_tries_282 fl_X11_397 (zs_38 hS) ((zupJ (by decide)).trans rfl) ?_
          refine zt_iload dX11_tries_285 rfl ?_
          refine zt_iastore dX11_tries_287 (zs_79 hS) (by decide) (by omega) (by omega) (by omega) ?_
          refine zt_aload_n dX11_tries_288 rfl ?_
          refine zt_dup dX11_tries_289 (Nat.ne_of_beq_eq_false rfl) ?_
          refine zt_getv (v := h 38 61) dX11_tries_290 fl_X11_397 (zs_38 hS) ((zupA (by decide)).trans ((zupJ (by decide)).trans rfl)) ?_
          refine zt_iconst dX11_tries_293 ?_
          refine zt_iadd dX11_tries_294 ?_
          refine zt_puti dX11_tries_295 fl_X11_397 rfl (zs_38 hS) (by omega) ?_
          exact zt_vret dX11_tries_298 ⟨rfl, rfl, rfl, by rw [hH]; unfold jTr; rw [if_pos (by first | omega | (left; assumption) | (right; assumption))]⟩
    · refine zt_aload_n dX11_tries_69 rfl ?_
      refine zt_getv dX11_tries_70 fl_X11_112 (zs_38 hS) (rf_38_51 hR) ?_
      refine zt_iload dX11_tries_73 rfl ?_
      refine zt_iaload dX11_tries_75 (zs_71 hS) (by decide) (by omega) (by omega) ?_
      refine zt_ldc_w dX11_tries_76 kc_X11_283 ?_
      refine zt_icmp_ne (tgt := 85) dX11_tries_79 (by decide) (by rcases hr1 i h0 (by omega) with q | q <;> omega) (by decide) (fun c_79 => ?_) (fun c_79 => ?_)
      · have hyi : -999999 ≤ h 71 i ∧ h 71 i ≤ 999999 := by rcases hr1 i h0 (by omega) with q | q; exact absurd q c_79; exact q
        have hcb : -200000000000000 ≤ cP1 p0 y0 i ∧ cP1 p0 y0 i ≤ 200000000000000 := hPb i ⟨h0, by omega⟩
        have hm1 := zmb2 (x := h 71 i) (y := (1 : Int)) (A := 999999) (B := 47045881) hyi ⟨by omega, by omega⟩ rfl
        have hm2 := zmb2 (x := e) (y := (1 : Int)) (A := 9) (B := 47045881) ⟨by omega, by omega⟩ ⟨by omega, by omega⟩ rfl
        have hpm := zpw_le (show i.toNat ≤ 19 by omega)
        have hpp := zpw_pos i.toNat
        have hab := hpN_b (q := qm (h 71) e [p0]) (g := h 71) i.toNat
        rw [← ha] at hab
        refine zt_lconst (v := 0) dX11_tries_85 rfl ?_
        refine zt_lstore_7 dX11_tries_86 (by decide) rfl ?_
        refine zt_iconst dX11_tries_88 ?_
        refine zt_istore_9 dX11_tries_89 (by decide) rfl ?_
        refine zt_iload dX11_tries_91 rfl ?_
        refine zt_iload_n dX11_tries_93 rfl ?_
        refine zt_icmp_gt (tgt := 197) dX11_tries_94 (by decide) (by decide) (by decide) (fun q => absurd q (by decide)) (fun c_94 => ?_)
        refine zt_lconst (v := 1) dX11_tries_97 rfl ?_
        refine zt_lstore_10 dX11_tries_98 (by decide) rfl ?_
        refine zt_lconst (v := 1) dX11_tries_100 rfl ?_
        refine zt_lstore_12 dX11_tries_101 (by decide) rfl ?_
        refine zt_iconst dX11_tries_103 ?_
        refine zt_istore_14 dX11_tries_104 (by decide) rfl ?_
        refine zt_iload dX11_tries_106 rfl ?_
        refine zt_iload_n dX11_tries_108 rfl ?_
        refine zt_icmp_gt (tgt := 165) dX11_tries_109 (by decide) (by decide) (by decide) (fun q => absurd q (by decide)) (fun c_109 => ?_)
        refine zt_iload dX11_tries_112 rfl ?_
        refine zt_iload dX11_tries_114 rfl ?_
        refine zt_icmp_ne (tgt := 122) dX11_tries_116 (by decide) (by decide) (by decide) (fun q => absurd q (by decide)) (fun c_116 => ?_)
        refine zt_goto (tgt := 159) dX11_tries_119 (by decide) ?_
        refine zt_iincv_14 (v := 1) dX11_tries_159 (by decide) rfl (by decide) ?_
        refine zt_goto (tgt := 106) dX11_tries_162 (by decide) ?_
        refine zt_iload dX11_tries_106 rfl ?_
        refine zt_iload_n dX11_tries_108 rfl ?_
        refine zt_icmp_gt (tgt := 165) dX11_tries_109 (by decide) (by decide) (by decide) (fun c_109 => ?_) (fun q => absurd q (by decide))
        refine zt_lload dX11_tries_165 rfl ?_
        refine zt_aload_n dX11_tries_167 rfl ?_
        refine zt_getv dX11_tries_168 fl_X11_112 (zs_38 hS) (rf_38_51 hR) ?_
        refine zt_aload_n dX11_tries_171 rfl ?_
        refine zt_getv dX11_tries_172 fl_X11_131 (zs_38 hS) (rf_38_58 hR) ?_
        refine zt_iload dX11_tries_175 rfl ?_
        refine zt_ialoadv (v := p0) dX11_tries_177 (zs_77 hS) (by decide) (by decide) (by decide) hp0 ?_
        refine zt_ialoadv (v := y0) dX11_tries_178 (zs_71 hS) (by decide) (by omega) (by omega) hy0 ?_
        refine zt_i2l dX11_tries_179 (by omega) ?_
        refine zt_lload dX11_tries_180 rfl ?_
        refine zt_lmul dX11_tries_182 ?_
        refine zt_lload_n dX11_tries_183 rfl ?_
        refine zt_lload dX11_tries_184 rfl ?_
        refine zt_ldiv dX11_tries_186 (by decide) (by decide) (by decide) ?_
        refine zt_topv (v := 1) (by decide) ?_
        refine zt_lmul dX11_tries_187 ?_
        refine zt_ladd dX11_tries_188 ?_
        refine zt_topv (v := cP1 p0 y0 i) rfl ?_
        refine zt_lstore_7 dX11_tries_189 (by decide) rfl ?_
        refine zt_iincv_9 (v := 1) dX11_tries_191 (by decide) rfl (by decide) ?_
        refine zt_goto (tgt := 91) dX11_tries_194 (by decide) ?_
        refine zt_iload dX11_tries_91 rfl ?_
        refine zt_iload_n dX11_tries_93 rfl ?_
        refine zt_icmp_gt (tgt := 197) dX11_tries_94 (by decide) (by decide) (by decide) (fun c_94 => ?_) (fun q => absurd q (by decide))
        refine zt_lload dX11_tries_197 rfl ?_
        refine zt_aload_n dX11_tries_199 rfl ?_
        refine zt_getv dX11_tries_200 fl_X11_112 (zs_38 hS) (rf_38_51 hR) ?_
        refine zt_iload dX11_tries_203 rfl ?_
        refine zt_iaload dX11_tries_205 (zs_71 hS) (by decide) (by omega) (by omega) ?_
        refine zt_i2l dX11_tries_206 (by omega) ?_
        refine zt_lload_n dX11_tries_207 rfl ?_
        refine zt_lmul dX11_tries_208 ?_
        refine zt_lsub dX11_tries_209 ?_
        refine zt_lstore_7 dX11_tries_210 (by decide) rfl ?_
        refine zt_lload dX11_tries_212 rfl ?_
        refine zt_iload_n dX11_tries_214 rfl ?_
        refine zt_i2l dX11_tries_215 (by omega) ?_
        refine zt_lload_n dX11_tries_216 rfl ?_
        refine zt_lmul dX11_tries_217 ?_
        refine zt_lc_gt (tgt := 233) dX11_tries_218 dX11_tries_219 (by decide) (by omega) (by omega) (fun c_218 => ?_) (fun c_218 => ?_)
        · refine zt_iload dX11_tries_233 rfl ?_
          refine zt_iconst dX11_tries_235 ?_
          refine zt_iload dX11_tries_236 rfl ?_
          refine zt_ishl dX11_tries_238 ?_
          refine zt_topv (v := 2 ^ i.toNat) (zshl1 ⟨by omega, by omega⟩) ?_
          refine zt_ior dX11_tries_239 ?_
          refine zt_topv (v := a + 2 ^ i.toNat) (zor2 ⟨by omega, by omega⟩ hab) ?_
          refine zt_istore_5 dX11_tries_240 (by decide) rfl ?_
          refine zt_iinc_6 dX11_tries_242 (by decide) rfl ?_
          refine zt_goto (tgt := 60) dX11_tries_245 (by decide) ?_
          refine zt_kill_7 ?_
          refine zt_kill_9 ?_
          refine zt_kill_10 ?_
          refine zt_kill_12 ?_
          refine zt_kill_14 ?_
          exact ih (i + 1) _ (by omega) (by omega) (by omega) (by rw [show (i + 1).toNat = i.toNat + 1 by omega]; symm; show hpN (qm (h 71) e [p0]) (h 71) i.toNat + zite (h 71 (i.toNat : Int) ≠ -2147483648 ∧ qm (h 71) e [p0] (i.toNat : Int)) (2 ^ i.toNat) 0 = _; rw [Int.toNat_of_nonneg h0, zite_t ⟨c_79, (hq i).mpr (by unfold zabs; split <;> omega)⟩, ← ha])
        · refine zt_lload dX11_tries_222 rfl ?_
          refine zt_lneg dX11_tries_224 ?_
          refine zt_iload_n dX11_tries_225 rfl ?_
          refine zt_i2l dX11_tries_226 (by omega) ?_
          refine zt_lload_n dX11_tries_227 rfl ?_
          refine zt_lmul dX11_tries_228 ?_
          refine zt_lc_le (tgt := 242) dX11_tries_229 dX11_tries_230 (by decide) (by omega) (by omega) (fun c_229 => ?_) (fun c_229 => ?_)
          · refine zt_iinc_6 dX11_tries_242 (by decide) rfl ?_
            refine zt_goto (tgt := 60) dX11_tries_245 (by decide) ?_
            refine zt_kill_7 ?_
            refine zt_kill_9 ?_
            refine zt_kill_10 ?_
            refine zt_kill_12 ?_
            refine zt_kill_14 ?_
            exact ih (i + 1) a (by omega) (by omega) (by omega) (by rw [show (i + 1).toNat = i.toNat + 1 by omega]; symm; show hpN (qm (h 71) e [p0]) (h 71) i.toNat + zite (h 71 (i.toNat : Int) ≠ -2147483648 ∧ qm (h 71) e [p0] (i.toNat : Int)) (2 ^ i.toNat) 0 = _; rw [Int.toNat_of_nonneg h0, zite_f (fun z => by first | exact z.1 c_79 | (have z2 := (hq i).mp z.2; unfold zabs at z2; split at z2 <;> omega)), ← ha, Int.add_zero])
          · refine zt_iload dX11_tries_233 rfl ?_
            refine zt_iconst dX11_tries_235 ?_
            refine zt_iload dX11_tries_236 rfl ?_
            refine zt_ishl dX11_tries_238 ?_
            refine zt_topv (v := 2 ^ i.toNat) (zshl1 ⟨by omega, by omega⟩) ?_
            refine zt_ior dX11_tries_239 ?_
            refine zt_topv (v := a + 2 ^ i.toNat) (zor2 ⟨by omega, by omega⟩ hab) ?_
            refine zt_istore_5 dX11_tries_240 (by decide) rfl ?_
            refine zt_iinc_6 dX11_tries_242 (by decide) rfl ?_
            refine zt_goto (tgt := 60) dX11_tries_245 (by decide) ?_
            refine zt_kill_7 ?_
            refine zt_kill_9 ?_
            refine zt_kill_10 ?_
            refine zt_kill_12 ?_
            refine zt_kill_14 ?_
            exact ih (i + 1) _ (by omega) (by omega) (by omega) (by rw [show (i + 1).toNat = i.toNat + 1 by omega]; symm; show hpN (qm (h 71) e [p0]) (h 71) i.toNat + zite (h 71 (i.toNat : Int) ≠ -2147483648 ∧ qm (h 71) e [p0] (i.toNat : Int)) (2 ^ i.toNat) 0 = _; rw [Int.toNat_of_nonneg h0, zite_t ⟨c_79, (hq i).mpr (by unfold zabs; split <;> omega)⟩, ← ha])
      · refine zt_goto (tgt := 242) dX11_tries_82 (by decide) ?_
        refine zt_iinc_6 dX11_tries_242 (by decide) rfl ?_
        refine zt_goto (tgt := 60) dX11_tries_245 (by decide) ?_
        exact ih (i + 1) a (by omega) (by omega) (by omega) (by rw [show (i + 1).toNat = i.toNat + 1 by omega]; symm; show hpN (qm (h 71) e [p0]) (h 71) i.toNat + zite (h 71 (i.toNat : Int) ≠ -2147483648 ∧ qm (h 71) e [p0] (i.toNat : Int)) (2 ^ i.toNat) 0 = _; rw [Int.toNat_of_nonneg h0, zite_f (fun z => by first | exact z.1 c_79 | (have z2 := (hq i).mp z.2; unfold zabs at z2; split at z2 <;> omega)), ← ha, Int.add_zero])

set_option maxRecDepth 100000 in
set_option maxHeartbeats 4000000 in
theorem c_try1 {d n : Nat} {sh : zSh} {h : zMem} {p0 y0 : Int} {e : Int} (hS : zShp sh) (hR : zRf h) (hL : 0 ≤ h 38 50 ∧ h 38 50 ≤ 20) (hr1 : ∀ i, 0 ≤ i → i < h 38 50 → h 71 i = -2147483648 ∨ (-999999 ≤ h 71 i ∧ h 71 i ≤ 999999)) (h61 : 0 ≤ h 38 61 ∧ h 38 61 < 5000) (h62 : h 38 62 = -1 ∨ (0 ≤ h 38 62 ∧ h 38 62 < 1048576)) (he : 0 ≤ e ∧ e ≤ 9) (hp0 : h 77 0 = p0) (hy0 : h 71 p0 = y0) (hb0 : -999999 ≤ y0 ∧ y0 ≤ 999999) (hod : 0 ≤ p0 ∧ p0 < 20)  : zF yX11_tries cX11_tries 15 none (d + 1) 0 0 [(2, 38), (0, 0), (0, e)] n sh h none n sh (jTr h (hpN (qm (h 71) e [p0]) (h 71) (h 38 50).toNat)) := by
  refine zF.ofT (by decide +kernel) [some (2, 38), some (0, 0), some (0, e), none, none, none, none, none, none, none, none, none, none, none, none] rfl (Nat.le_of_ble_eq_true rfl) ?_
  refine zt_lconst (v := 1) dX11_tries_0 rfl ?_
  refine zt_lstore_n_3 dX11_tries_1 (by decide) rfl ?_
  refine zt_iconst dX11_tries_2 ?_
  refine zt_istore_5 dX11_tries_3 (by decide) rfl ?_
  refine zt_iload dX11_tries_5 rfl ?_
  refine zt_iload_n dX11_tries_7 rfl ?_
  refine zt_icmp_gt (tgt := 54) dX11_tries_8 (by decide) (by decide) (by decide) (fun q => absurd q (by decide)) (fun c_8 => ?_)
  refine zt_iload dX11_tries_11 rfl ?_
  refine zt_iconst dX11_tries_13 ?_
  refine zt_iadd dX11_tries_14 ?_
  refine zt_topv (v := 1) (by decide) ?_
  refine zt_istore_6 dX11_tries_15 (by decide) rfl ?_
  refine zt_iload dX11_tries_17 rfl ?_
  refine zt_iload_n dX11_tries_19 rfl ?_
  refine zt_icmp_gt (tgt := 48) dX11_tries_20 (by decide) (by decide) (by decide) (fun c_20 => ?_) (fun q => absurd q (by decide))
  refine zt_iincv_5 (v := 1) dX11_tries_48 (by decide) rfl (by decide) ?_
  refine zt_goto (tgt := 5) dX11_tries_51 (by decide) ?_
  refine zt_iload dX11_tries_5 rfl ?_
  refine zt_iload_n dX11_tries_7 rfl ?_
  refine zt_icmp_gt (tgt := 54) dX11_tries_8 (by decide) (by decide) (by decide) (fun c_8 => ?_) (fun q => absurd q (by decide))
  refine zt_iconst dX11_tries_54 ?_
  refine zt_istore_5 dX11_tries_55 (by decide) rfl ?_
  refine zt_iconst dX11_tries_57 ?_
  refine zt_istore_6 dX11_tries_58 (by decide) rfl ?_
  have hP : pOK [p0] := ⟨show 0 ≤ p0 ∧ p0 + 1 ≤ 20 by omega, by simp, by simp⟩
  have hyP : yOK (h 71) [p0] := fun p hp => by
    simp only [List.mem_cons, List.not_mem_nil, or_false] at hp
    rcases hp with rfl
    · rw [hy0]; exact hb0
  have hcb : ∀ x, cvP (h 71) x [p0] = cP1 p0 y0 x := fun x => by show cP1 p0 (h 71 p0) x = _; rw [hy0]
  exact l_try1 hS hR hL hr1 h61 h62 he hp0 hy0 hb0 hod (fun x => by unfold qm; rw [hcb]; exact Iff.rfl) (cvV_b hP) (fun x hx => by rw [← hcb]; exact cvP_b hx hP hyP) rfl 21 0 0 (by omega) (by omega) (by omega) rfl

set_option maxRecDepth 100000 in
set_option maxHeartbeats 4000000 in
theorem l_try2 {d n : Nat} {sh : zSh} {h : zMem} {p0 p1 y0 y1 : Int} {e H : Int} (hS : zShp sh) (hR : zRf h) (hL : 0 ≤ h 38 50 ∧ h 38 50 ≤ 20) (hr1 : ∀ i, 0 ≤ i → i < h 38 50 → h 71 i = -2147483648 ∨ (-999999 ≤ h 71 i ∧ h 71 i ≤ 999999)) (h61 : 0 ≤ h 38 61 ∧ h 38 61 < 5000) (h62 : h 38 62 = -1 ∨ (0 ≤ h 38 62 ∧ h 38 62 < 1048576)) (he : 0 ≤ e ∧ e ≤ 9) (hp0 : h 77 0 = p0) (hy0 : h 71 p0 = y0) (hb0 : -999999 ≤ y0 ∧ y0 ≤ 999999) (hp1 : h 77 1 = p1) (hy1 : h 71 p1 = y1) (hb1 : -999999 ≤ y1 ∧ y1 ≤ 999999) (hod : 0 ≤ p0 ∧ p0 < p1 ∧ p1 < 20) (hq : ∀ x, qm (h 71) e [p0, p1] x ↔ e * cV2 p0 p1 < zabs (cP2 p0 p1 y0 y1 x - h 71 x * cV2 p0 p1)) (hVb : 0 < cV2 p0 p1 ∧ cV2 p0 p1 ≤ 47045881) (hPb : ∀ x, 0 ≤ x ∧ x < 20 → -200000000000000 ≤ cP2 p0 p1 y0 y1 x ∧ cP2 p0 p1 y0 y1 x ≤ 200000000000000) (hHd : H = hpN (qm (h 71) e [p0, p1]) (h 71) (h 38 50).toNat)  : ∀ (k : Nat) (i : Int) (a : Int), h 38 50 - i < (k : Int) → 0 ≤ i → i ≤ h 38 50 → a = hpN (qm (h 71) e [p0, p1]) (h 71) i.toNat → zT yX11_tries cX11_tries 15 none (d + 1) 0 0 (zq none n sh (jTr h H)) 60 [some (2, 38), some (0, 1), some (0, e), some (1, cV2 p0 p1), none, some (0, a), some (0, i), none, none, none, none, none, none, none, none] [] n sh h := by
  intro k
  induction k with
  | zero => intros; exfalso; omega
  | succ k ih =>
    intro i a hk h0 h1 ha
    refine zt_iload dX11_tries_60 rfl ?_
    refine zt_aload_n dX11_tries_62 rfl ?_
    refine zt_get dX11_tries_63 fl_X11_388 (zs_38 hS) ?_
    refine zt_icmp_ge (tgt := 248) dX11_tries_66 (by decide) (by omega) (by omega) (fun c_66 => ?_) (fun c_66 => ?_)
    · have hi : i = h 38 50 := by omega
      subst hi
      have hab := hpN_b (q := qm (h 71) e [p0, p1]) (g := h 71) (h 38 50).toNat
      have hpm := zpw_le (show (h 38 50).toNat ≤ 20 by omega)
      have e20 : (2 : Int) ^ 20 = 1048576 := by decide
      have hH : H = a := by rw [ha, hHd]
      rw [← ha] at hab
      refine zt_aload_n dX11_tries_248 rfl ?_
      refine zt_get dX11_tries_249 fl_X11_400 (zs_38 hS) ?_
      refine zt_iconst dX11_tries_252 ?_
      refine zt_icmp_eq (tgt := 271) dX11_tries_253 (by decide) (by omega) (by decide) (fun c_253 => ?_) (fun c_253 => ?_)
      · refine zt_aload_n dX11_tries_271 rfl ?_
        refine zt_iload dX11_tries_272 rfl ?_
        refine zt_puti dX11_tries_274 fl_X11_400 rfl (zs_38 hS) (by omega) ?_
        refine zt_aload_n dX11_tries_277 rfl ?_
        refine zt_getv dX11_tries_278 fl_X11_137 (zs_38 hS) (rf_38_60 (hR.up (by decide))) ?_
        refine zt_aload_n dX11_tries_281 rfl ?_
        refine zt_getv (v := h 38 61) dX11_tries_282 fl_X11_397 (zs_38 hS) ((zupJ (by decide)).trans rfl) ?_
        refine zt_iload dX11_tries_285 rfl ?_
        refine zt_iastore dX11_tries_287 (zs_79 hS) (by decide) (by omega) (by omega) (by omega) ?_
        refine zt_aload_n dX11_tries_288 rfl ?_
        refine zt_dup dX11_tries_289 (Nat.ne_of_beq_eq_false rfl) ?_
        refine zt_getv (v := h 38 61) dX11_tries_290 fl_X11_397 (zs_38 hS) ((zupA (by decide)).trans ((zupJ (by decide)).trans rfl)) ?_
        refine zt_iconst dX11_tries_293 ?_
        refine zt_iadd dX11_tries_294 ?_
        refine zt_puti dX11_tries_295 fl_X11_397 rfl (zs_38 hS) (by omega) ?_
        exact zt_vret dX11_tries_298 ⟨rfl, rfl, rfl, by rw [hH]; unfold jTr; rw [if_pos (by first | omega | (left; assumption) | (right; assumption))]⟩
      · refine zt_iload dX11_tries_256 rfl ?_
        refine zt_callS1r dX11_tries_258 ml_X11_406 (Nat.le_of_ble_eq_true rfl) (c_jbi ⟨by omega, by omega⟩) ?_
        have hbt258 : 0 ≤ bts a ∧ bts a ≤ 20 := bt_b 20 _
        refine zt_aload_n dX11_tries_261 rfl ?_
        refine zt_get dX11_tries_262 fl_X11_400 (zs_38 hS) ?_
        refine zt_callS1r dX11_tries_265 ml_X11_406 (Nat.le_of_ble_eq_true rfl) (c_jbi ⟨by omega, by omega⟩) ?_
        have hbt265 : 0 ≤ bts (h 38 62) ∧ bts (h 38 62) ≤ 20 := bt_b 20 _
        refine zt_icmp_ge (tgt := 277) dX11_tries_268 (by decide) (by omega) (by omega) (fun c_268 => ?_) (fun c_268 => ?_)
        · refine zt_aload_n dX11_tries_277 rfl ?_
          refine zt_getv dX11_tries_278 fl_X11_137 (zs_38 hS) (rf_38_60 hR) ?_
          refine zt_aload_n dX11_tries_281 rfl ?_
          refine zt_get dX11_tries_282 fl_X11_397 (zs_38 hS) ?_
          refine zt_iload dX11_tries_285 rfl ?_
          refine zt_iastore dX11_tries_287 (zs_79 hS) (by decide) (by omega) (by omega) (by omega) ?_
          refine zt_aload_n dX11_tries_288 rfl ?_
          refine zt_dup dX11_tries_289 (Nat.ne_of_beq_eq_false rfl) ?_
          refine zt_getv (v := h 38 61) dX11_tries_290 fl_X11_397 (zs_38 hS) ((zupA (by decide)).trans rfl) ?_
          refine zt_iconst dX11_tries_293 ?_
          refine zt_iadd dX11_tries_294 ?_
          refine zt_puti dX11_tries_295 fl_X11_397 rfl (zs_38 hS) (by omega) ?_
          exact zt_vret dX11_tries_298 ⟨rfl, rfl, rfl, by rw [hH]; unfold jTr; rw [if_neg (by first | omega | (left; assumption) | (right; assumption))]⟩
        · refine zt_aload_n dX11_tries_271 rfl ?_
          refine zt_iload dX11_tries_272 rfl ?_
          refine zt_puti dX11_tries_274 fl_X11_400 rfl (zs_38 hS) (by omega) ?_
          refine zt_aload_n dX11_tries_277 rfl ?_
          refine zt_getv dX11_tries_278 fl_X11_137 (zs_38 hS) (rf_38_60 (hR.up (by decide))) ?_
          refine zt_aload_n dX11_tries_281 rfl ?_
          refine zt_getv (v := h 38 61) dX11_tries_282 fl_X11_397 (zs_38 hS) ((zupJ (by decide)).trans rfl) ?_
          refine zt_iload dX11_tries_285 rfl ?_
          refine zt_iastore dX11_tries_287 (zs_79 hS) (by decide) (by omega) (by omega) (by omega) ?_
          refine zt_aload_n dX11_tries_288 rfl ?_
          refine zt_dup dX11_tries_289 (Nat.ne_of_beq_eq_false rfl) ?_
          refine zt_getv (v := h 38 61) dX11_tries_290 fl_X11_397 (zs_38 hS) ((zupA (by decide)).trans ((zupJ (by decide)).trans rfl)) ?_
          refine zt_iconst dX11_tries_293 ?_
          refine zt_iadd dX11_tries_294 ?_
          refine zt_puti dX11_tries_295 fl_X11_397 rfl (zs_38 hS) (by omega) ?_
          exact zt_vret dX11_tries_298 ⟨rfl, rfl, rfl, by rw [hH]; unfold jTr; rw [if_pos (by first | omega | (left; assumption) | (right; assumption))]⟩
    · refine zt_aload_n dX11_tries_69 rfl ?_
      refine zt_getv dX11_tries_70 fl_X11_112 (zs_38 hS) (rf_38_51 hR) ?_
      refine zt_iload dX11_tries_73 rfl ?_
      refine zt_iaload dX11_tries_75 (zs_71 hS) (by decide) (by omega) (by omega) ?_
      refine zt_ldc_w dX11_tries_76 kc_X11_283 ?_
      refine zt_icmp_ne (tgt := 85) dX11_tries_79 (by decide) (by rcases hr1 i h0 (by omega) with q | q <;> omega) (by decide) (fun c_79 => ?_) (fun c_79 => ?_)
      · have hyi : -999999 ≤ h 71 i ∧ h 71 i ≤ 999999 := by rcases hr1 i h0 (by omega) with q | q; exact absurd q c_79; exact q
        have hcb : -200000000000000 ≤ cP2 p0 p1 y0 y1 i ∧ cP2 p0 p1 y0 y1 i ≤ 200000000000000 := hPb i ⟨h0, by omega⟩
        have hm1 := zmb2 (x := h 71 i) (y := cV2 p0 p1) (A := 999999) (B := 47045881) hyi ⟨by omega, by omega⟩ rfl
        have hm2 := zmb2 (x := e) (y := cV2 p0 p1) (A := 9) (B := 47045881) ⟨by omega, by omega⟩ ⟨by omega, by omega⟩ rfl
        have hpm := zpw_le (show i.toNat ≤ 19 by omega)
        have hpp := zpw_pos i.toNat
        have hab := hpN_b (q := qm (h 71) e [p0, p1]) (g := h 71) i.toNat
        rw [← ha] at hab
        refine zt_lconst (v := 0) dX11_tries_85 rfl ?_
        refine zt_lstore_7 dX11_tries_86 (by decide) rfl ?_
        refine zt_iconst dX11_tries_88 ?_
        refine zt_istore_9 dX11_tries_89 (by decide) rfl ?_
        refine zt_iload dX11_tries_91 rfl ?_
        refine zt_iload_n dX11_tries_93 rfl ?_
        refine zt_icmp_gt (tgt := 197) dX11_tries_94 (by decide) (by decide) (by decide) (fun q => absurd q (by decide)) (fun c_94 => ?_)
        refine zt_lconst (v := 1) dX11_tries_97 rfl ?_
        refine zt_lstore_10 dX11_tries_98 (by decide) rfl ?_
        refine zt_lconst (v := 1) dX11_tries_100 rfl ?_
        refine zt_lstore_12 dX11_tries_101 (by decide) rfl ?_
        refine zt_iconst dX11_tries_103 ?_
        refine zt_istore_14 dX11_tries_104 (by decide) rfl ?_
        refine zt_iload dX11_tries_106 rfl ?_
        refine zt_iload_n dX11_tries_108 rfl ?_
        refine zt_icmp_gt (tgt := 165) dX11_tries_109 (by decide) (by decide) (by decide) (fun q => absurd q (by decide)) (fun c_109 => ?_)
        refine zt_iload dX11_tries_112 rfl ?_
        refine zt_iload dX11_tries_114 rfl ?_
        refine zt_icmp_ne (tgt := 122) dX11_tries_116 (by decide) (by decide) (by decide) (fun q => absurd q (by decide)) (fun c_116 => ?_)
        refine zt_goto (tgt := 159) dX11_tries_119 (by decide) ?_
        refine zt_iincv_14 (v := 1) dX11_tries_159 (by decide) rfl (by decide) ?_
        refine zt_goto (tgt := 106) dX11_tries_162 (by decide) ?_
        refine zt_iload dX11_tries_106 rfl ?_
        refine zt_iload_n dX11_tries_108 rfl ?_
        refine zt_icmp_gt (tgt := 165) dX11_tries_109 (by decide) (by decide) (by decide) (fun q => absurd q (by decide)) (fun c_109 => ?_)
        refine zt_iload dX11_tries_112 rfl ?_
        refine zt_iload dX11_tries_114 rfl ?_
        refine zt_icmp_ne (tgt := 122) dX11_tries_116 (by decide) (by decide) (by decide) (fun c_116 => ?_) (fun q => absurd q (by decide))
        refine zt_lload dX11_tries_122 rfl ?_
        refine zt_iload dX11_tries_124 rfl ?_
        refine zt_aload_n dX11_tries_126 rfl ?_
        refine zt_getv dX11_tries_127 fl_X11_131 (zs_38 hS) (rf_38_58 hR) ?_
        refine zt_iload dX11_tries_130 rfl ?_
        refine zt_ialoadv (v := p1) dX11_tries_132 (zs_77 hS) (by decide) (by decide) (by decide) hp1 ?_
        refine zt_isub dX11_tries_133 ?_
        refine zt_i2l dX11_tries_134 (by omega) ?_
        refine zt_lmul dX11_tries_135 ?_
        refine zt_lstore_10 dX11_tries_136 (by decide) rfl ?_
        refine zt_lload dX11_tries_138 rfl ?_
        refine zt_aload_n dX11_tries_140 rfl ?_
        refine zt_getv dX11_tries_141 fl_X11_131 (zs_38 hS) (rf_38_58 hR) ?_
        refine zt_iload dX11_tries_144 rfl ?_
        refine zt_ialoadv (v := p0) dX11_tries_146 (zs_77 hS) (by decide) (by decide) (by decide) hp0 ?_
        refine zt_aload_n dX11_tries_147 rfl ?_
        refine zt_getv dX11_tries_148 fl_X11_131 (zs_38 hS) (rf_38_58 hR) ?_
        refine zt_iload dX11_tries_151 rfl ?_
        refine zt_ialoadv (v := p1) dX11_tries_153 (zs_77 hS) (by decide) (by decide) (by decide) hp1 ?_
        refine zt_isub dX11_tries_154 ?_
        refine zt_i2l dX11_tries_155 (by omega) ?_
        refine zt_lmul dX11_tries_156 ?_
        refine zt_lstore_12 dX11_tries_157 (by decide) rfl ?_
        refine zt_iincv_14 (v := 2) dX11_tries_159 (by decide) rfl (by decide) ?_
        refine zt_goto (tgt := 106) dX11_tries_162 (by decide) ?_
        refine zt_iload dX11_tries_106 rfl ?_
        refine zt_iload_n dX11_tries_108 rfl ?_
        refine zt_icmp_gt (tgt := 165) dX11_tries_109 (by decide) (by decide) (by decide) (fun c_109 => ?_) (fun q => absurd q (by decide))
        refine zt_lload dX11_tries_165 rfl ?_
        refine zt_aload_n dX11_tries_167 rfl ?_
        refine zt_getv dX11_tries_168 fl_X11_112 (zs_38 hS) (rf_38_51 hR) ?_
        refine zt_aload_n dX11_tries_171 rfl ?_
        refine zt_getv dX11_tries_172 fl_X11_131 (zs_38 hS) (rf_38_58 hR) ?_
        refine zt_iload dX11_tries_175 rfl ?_
        refine zt_ialoadv (v := p0) dX11_tries_177 (zs_77 hS) (by decide) (by decide) (by decide) hp0 ?_
        refine zt_ialoadv (v := y0) dX11_tries_178 (zs_71 hS) (by decide) (by omega) (by omega) hy0 ?_
        refine zt_i2l dX11_tries_179 (by omega) ?_
        refine zt_lload dX11_tries_180 rfl ?_
        refine zt_lmul dX11_tries_182 ?_
        refine zt_lload_n dX11_tries_183 rfl ?_
        refine zt_lload dX11_tries_184 rfl ?_
        have hdb0 : -19 ≤ 1 * (p0 - p1) ∧ 1 * (p0 - p1) ≤ 19 := (zmb2 zb11 (show -19 ≤ p0 - p1 ∧ p0 - p1 ≤ 19 by omega) rfl)
        have hdn0 : 1 * (p0 - p1) ≠ 0 := fun z => by have z2 := lid2_0 (p0 := p0) (p1 := p1); rw [z, Int.mul_zero] at z2; omega
        refine zt_ldiv dX11_tries_186 (by omega) (by omega) hdn0 ?_
        refine zt_topv (v := -1) (zex (show cV2 p0 p1 = _ from lid2_0) hdn0) ?_
        refine zt_lmul dX11_tries_187 ?_
        refine zt_ladd dX11_tries_188 ?_
        refine zt_lstore_7 dX11_tries_189 (by decide) rfl ?_
        refine zt_iincv_9 (v := 1) dX11_tries_191 (by decide) rfl (by decide) ?_
        refine zt_goto (tgt := 91) dX11_tries_194 (by decide) ?_
        refine zt_iload dX11_tries_91 rfl ?_
        refine zt_iload_n dX11_tries_93 rfl ?_
        refine zt_icmp_gt (tgt := 197) dX11_tries_94 (by decide) (by decide) (by decide) (fun q => absurd q (by decide)) (fun c_94 => ?_)
        refine zt_lconst (v := 1) dX11_tries_97 rfl ?_
        refine zt_lstore_10 dX11_tries_98 (by decide) rfl ?_
        refine zt_lconst (v := 1) dX11_tries_100 rfl ?_
        refine zt_lstore_12 dX11_tries_101 (by decide) rfl ?_
        refine zt_iconst dX11_tries_103 ?_
        refine zt_istore_14 dX11_tries_104 (by decide) rfl ?_
        refine zt_iload dX11_tries_106 rfl ?_
        refine zt_iload_n dX11_tries_108 rfl ?_
        refine zt_icmp_gt (tgt := 165) dX11_tries_109 (by decide) (by decide) (by decide) (fun q => absurd q (by decide)) (fun c_109 => ?_)
        refine zt_iload dX11_tries_112 rfl ?_
        refine zt_iload dX11_tries_114 rfl ?_
        refine zt_icmp_ne (tgt := 122) dX11_tries_116 (by decide) (by decide) (by decide) (fun c_116 => ?_) (fun q => absurd q (by decide))
        refine zt_lload dX11_tries_122 rfl ?_
        refine zt_iload dX11_tries_124 rfl ?_
        refine zt_aload_n dX11_tries_126 rfl ?_
        refine zt_getv dX11_tries_127 fl_X11_131 (zs_38 hS) (rf_38_58 hR) ?_
        refine zt_iload dX11_tries_130 rfl ?_
        refine zt_ialoadv (v := p0) dX11_tries_132 (zs_77 hS) (by decide) (by decide) (by decide) hp0 ?_
        refine zt_isub dX11_tries_133 ?_
        refine zt_i2l dX11_tries_134 (by omega) ?_
        refine zt_lmul dX11_tries_135 ?_
        refine zt_lstore_10 dX11_tries_136 (by decide) rfl ?_
        refine zt_lload dX11_tries_138 rfl ?_
        refine zt_aload_n dX11_tries_140 rfl ?_
        refine zt_getv dX11_tries_141 fl_X11_131 (zs_38 hS) (rf_38_58 hR) ?_
        refine zt_iload dX11_tries_144 rfl ?_
        refine zt_ialoadv (v := p1) dX11_tries_146 (zs_77 hS) (by decide) (by decide) (by decide) hp1 ?_
        refine zt_aload_n dX11_tries_147 rfl ?_
        refine zt_getv dX11_tries_148 fl_X11_131 (zs_38 hS) (rf_38_58 hR) ?_
        refine zt_iload dX11_tries_151 rfl ?_
        refine zt_ialoadv (v := p0) dX11_tries_153 (zs_77 hS) (by decide) (by decide) (by decide) hp0 ?_
        refine zt_isub dX11_tries_154 ?_
        refine zt_i2l dX11_tries_155 (by omega) ?_
        refine zt_lmul dX11_tries_156 ?_
        refine zt_lstore_12 dX11_tries_157 (by decide) rfl ?_
        refine zt_iincv_14 (v := 1) dX11_tries_159 (by decide) rfl (by decide) ?_
        refine zt_goto (tgt := 106) dX11_tries_162 (by decide) ?_
        refine zt_iload dX11_tries_106 rfl ?_
        refine zt_iload_n dX11_tries_108 rfl ?_
        refine zt_icmp_gt (tgt := 165) dX11_tries_109 (by decide) (by decide) (by decide) (fun q => absurd q (by decide)) (fun c_109 => ?_)
        refine zt_iload dX11_tries_112 rfl ?_
        refine zt_iload dX11_tries_114 rfl ?_
        refine zt_icmp_ne (tgt := 122) dX11_tries_116 (by decide) (by decide) (by decide) (fun q => absurd q (by decide)) (fun c_116 => ?_)
        refine zt_goto (tgt := 159) dX11_tries_119 (by decide) ?_
        refine zt_iincv_14 (v := 2) dX11_tries_159 (by decide) rfl (by decide) ?_
        refine zt_goto (tgt := 106) dX11_tries_162 (by decide) ?_
        refine zt_iload dX11_tries_106 rfl ?_
        refine zt_iload_n dX11_tries_108 rfl ?_
        refine zt_icmp_gt (tgt := 165) dX11_tries_109 (by decide) (by decide) (by decide) (fun c_109 => ?_) (fun q => absurd q (by decide))
        refine zt_lload dX11_tries_165 rfl ?_
        refine zt_aload_n dX11_tries_167 rfl ?_
        refine zt_getv dX11_tries_168 fl_X11_112 (zs_38 hS) (rf_38_51 hR) ?_
        refine zt_aload_n dX11_tries_171 rfl ?_
        refine zt_getv dX11_tries_172 fl_X11_131 (zs_38 hS) (rf_38_58 hR) ?_
        refine zt_iload dX11_tries_175 rfl ?_
        refine zt_ialoadv (v := p1) dX11_tries_177 (zs_77 hS) (by decide) (by decide) (by decide) hp1 ?_
        refine zt_ialoadv (v := y1) dX11_tries_178 (zs_71 hS) (by decide) (by omega) (by omega) hy1 ?_
        refine zt_i2l dX11_tries_179 (by omega) ?_
        refine zt_lload dX11_tries_180 rfl ?_
        refine zt_lmul dX11_tries_182 ?_
        refine zt_lload_n dX11_tries_183 rfl ?_
        refine zt_lload dX11_tries_184 rfl ?_
        have hdb1 : -19 ≤ 1 * (p1 - p0) ∧ 1 * (p1 - p0) ≤ 19 := (zmb2 zb11 (show -19 ≤ p1 - p0 ∧ p1 - p0 ≤ 19 by omega) rfl)
        have hdn1 : 1 * (p1 - p0) ≠ 0 := fun z => by have z2 := lid2_1 (p0 := p0) (p1 := p1); rw [z, Int.mul_zero] at z2; omega
        refine zt_ldiv dX11_tries_186 (by omega) (by omega) hdn1 ?_
        refine zt_topv (v := 1) (zex (show cV2 p0 p1 = _ from lid2_1) hdn1) ?_
        refine zt_lmul dX11_tries_187 ?_
        refine zt_ladd dX11_tries_188 ?_
        refine zt_topv (v := cP2 p0 p1 y0 y1 i) rfl ?_
        refine zt_lstore_7 dX11_tries_189 (by decide) rfl ?_
        refine zt_iincv_9 (v := 2) dX11_tries_191 (by decide) rfl (by decide) ?_
        refine zt_goto (tgt := 91) dX11_tries_194 (by decide) ?_
        refine zt_iload dX11_tries_91 rfl ?_
        refine zt_iload_n dX11_tries_93 rfl ?_
        refine zt_icmp_gt (tgt := 197) dX11_tries_94 (by decide) (by decide) (by decide) (fun c_94 => ?_) (fun q => absurd q (by decide))
        refine zt_lload dX11_tries_197 rfl ?_
        refine zt_aload_n dX11_tries_199 rfl ?_
        refine zt_getv dX11_tries_200 fl_X11_112 (zs_38 hS) (rf_38_51 hR) ?_
        refine zt_iload dX11_tries_203 rfl ?_
        refine zt_iaload dX11_tries_205 (zs_71 hS) (by decide) (by omega) (by omega) ?_
        refine zt_i2l dX11_tries_206 (by omega) ?_
        refine zt_lload_n dX11_tries_207 rfl ?_
        refine zt_lmul dX11_tries_208 ?_
        refine zt_lsub dX11_tries_209 ?_
        refine zt_lstore_7 dX11_tries_210 (by decide) rfl ?_
        refine zt_lload dX11_tries_212 rfl ?_
        refine zt_iload_n dX11_tries_214 rfl ?_
        refine zt_i2l dX11_tries_215 (by omega) ?_
        refine zt_lload_n dX11_tries_216 rfl ?_
        refine zt_lmul dX11_tries_217 ?_
        refine zt_lc_gt (tgt := 233) dX11_tries_218 dX11_tries_219 (by decide) (by omega) (by omega) (fun c_218 => ?_) (fun c_218 => ?_)
        · refine zt_iload dX11_tries_233 rfl ?_
          refine zt_iconst dX11_tries_235 ?_
          refine zt_iload dX11_tries_236 rfl ?_
          refine zt_ishl dX11_tries_238 ?_
          refine zt_topv (v := 2 ^ i.toNat) (zshl1 ⟨by omega, by omega⟩) ?_
          refine zt_ior dX11_tries_239 ?_
          refine zt_topv (v := a + 2 ^ i.toNat) (zor2 ⟨by omega, by omega⟩ hab) ?_
          refine zt_istore_5 dX11_tries_240 (by decide) rfl ?_
          refine zt_iinc_6 dX11_tries_242 (by decide) rfl ?_
          refine zt_goto (tgt := 60) dX11_tries_245 (by decide) ?_
          refine zt_kill_7 ?_
          refine zt_kill_9 ?_
          refine zt_kill_10 ?_
          refine zt_kill_12 ?_
          refine zt_kill_14 ?_
          exact ih (i + 1) _ (by omega) (by omega) (by omega) (by rw [show (i + 1).toNat = i.toNat + 1 by omega]; symm; show hpN (qm (h 71) e [p0, p1]) (h 71) i.toNat + zite (h 71 (i.toNat : Int) ≠ -2147483648 ∧ qm (h 71) e [p0, p1] (i.toNat : Int)) (2 ^ i.toNat) 0 = _; rw [Int.toNat_of_nonneg h0, zite_t ⟨c_79, (hq i).mpr (by unfold zabs; split <;> omega)⟩, ← ha])
        · refine zt_lload dX11_tries_222 rfl ?_
          refine zt_lneg dX11_tries_224 ?_
          refine zt_iload_n dX11_tries_225 rfl ?_
          refine zt_i2l dX11_tries_226 (by omega) ?_
          refine zt_lload_n dX11_tries_227 rfl ?_
          refine zt_lmul dX11_tries_228 ?_
          refine zt_lc_le (tgt := 242) dX11_tries_229 dX11_tries_230 (by decide) (by omega) (by omega) (fun c_229 => ?_) (fun c_229 => ?_)
          · refine zt_iinc_6 dX11_tries_242 (by decide) rfl ?_
            refine zt_goto (tgt := 60) dX11_tries_245 (by decide) ?_
            refine zt_kill_7 ?_
            refine zt_kill_9 ?_
            refine zt_kill_10 ?_
            refine zt_kill_12 ?_
            refine zt_kill_14 ?_
            exact ih (i + 1) a (by omega) (by omega) (by omega) (by rw [show (i + 1).toNat = i.toNat + 1 by omega]; symm; show hpN (qm (h 71) e [p0, p1]) (h 71) i.toNat + zite (h 71 (i.toNat : Int) ≠ -2147483648 ∧ qm (h 71) e [p0, p1] (i.toNat : Int)) (2 ^ i.toNat) 0 = _; rw [Int.toNat_of_nonneg h0, zite_f (fun z => by first | exact z.1 c_79 | (have z2 := (hq i).mp z.2; unfold zabs at z2; split at z2 <;> omega)), ← ha, Int.add_zero])
          · refine zt_iload dX11_tries_233 rfl ?_
            refine zt_iconst dX11_tries_235 ?_
            refine zt_iload dX11_tries_236 rfl ?_
            refine zt_ishl dX11_tries_238 ?_
            refine zt_topv (v := 2 ^ i.toNat) (zshl1 ⟨by omega, by omega⟩) ?_
            refine zt_ior dX11_tries_239 ?_
            refine zt_topv (v := a + 2 ^ i.toNat) (zor2 ⟨by omega, by omega⟩ hab) ?_
            refine zt_istore_5 dX11_tries_240 (by decide) rfl ?_
            refine zt_iinc_6 dX11_tries_242 (by decide) rfl ?_
            refine zt_goto (tgt := 60) dX11_tries_245 (by decide) ?_
            refine zt_kill_7 ?_
            refine zt_kill_9 ?_
            refine zt_kill_10 ?_
            refine zt_kill_12 ?_
            refine zt_kill_14 ?_
            exact ih (i + 1) _ (by omega) (by omega) (by omega) (by rw [show (i + 1).toNat = i.toNat + 1 by omega]; symm; show hpN (qm (h 71) e [p0, p1]) (h 71) i.toNat + zite (h 71 (i.toNat : Int) ≠ -2147483648 ∧ qm (h 71) e [p0, p1] (i.toNat : Int)) (2 ^ i.toNat) 0 = _; rw [Int.toNat_of_nonneg h0, zite_t ⟨c_79, (hq i).mpr (by unfold zabs; split <;> omega)⟩, ← ha])
      · refine zt_goto (tgt := 242) dX11_tries_82 (by decide) ?_
        refine zt_iinc_6 dX11_tries_242 (by decide) rfl ?_
        refine zt_goto (tgt := 60) dX11_tries_245 (by decide) ?_
        exact ih (i + 1) a (by omega) (by omega) (by omega) (by rw [show (i + 1).toNat = i.toNat + 1 by omega]; symm; show hpN (qm (h 71) e [p0, p1]) (h 71) i.toNat + zite (h 71 (i.toNat : Int) ≠ -2147483648 ∧ qm (h 71) e [p0, p1] (i.toNat : Int)) (2 ^ i.toNat) 0 = _; rw [Int.toNat_of_nonneg h0, zite_f (fun z => by first | exact z.1 c_79 | (have z2 := (hq i).mp z.2; unfold zabs at z2; split at z2 <;> omega)), ← ha, Int.add_zero])

set_option maxRecDepth 100000 in
set_option maxHeartbeats 4000000 in
theorem c_try2 {d n : Nat} {sh : zSh} {h : zMem} {p0 p1 y0 y1 : Int} {e : Int} (hS : zShp sh) (hR : zRf h) (hL : 0 ≤ h 38 50 ∧ h 38 50 ≤ 20) (hr1 : ∀ i, 0 ≤ i → i < h 38 50 → h 71 i = -2147483648 ∨ (-999999 ≤ h 71 i ∧ h 71 i ≤ 999999)) (h61 : 0 ≤ h 38 61 ∧ h 38 61 < 5000) (h62 : h 38 62 = -1 ∨ (0 ≤ h 38 62 ∧ h 38 62 < 1048576)) (he : 0 ≤ e ∧ e ≤ 9) (hp0 : h 77 0 = p0) (hy0 : h 71 p0 = y0) (hb0 : -999999 ≤ y0 ∧ y0 ≤ 999999) (hp1 : h 77 1 = p1) (hy1 : h 71 p1 = y1) (hb1 : -999999 ≤ y1 ∧ y1 ≤ 999999) (hod : 0 ≤ p0 ∧ p0 < p1 ∧ p1 < 20)  : zF yX11_tries cX11_tries 15 none (d + 1) 0 0 [(2, 38), (0, 1), (0, e)] n sh h none n sh (jTr h (hpN (qm (h 71) e [p0, p1]) (h 71) (h 38 50).toNat)) := by
  refine zF.ofT (by decide +kernel) [some (2, 38), some (0, 1), some (0, e), none, none, none, none, none, none, none, none, none, none, none, none] rfl (Nat.le_of_ble_eq_true rfl) ?_
  refine zt_lconst (v := 1) dX11_tries_0 rfl ?_
  refine zt_lstore_n_3 dX11_tries_1 (by decide) rfl ?_
  refine zt_iconst dX11_tries_2 ?_
  refine zt_istore_5 dX11_tries_3 (by decide) rfl ?_
  refine zt_iload dX11_tries_5 rfl ?_
  refine zt_iload_n dX11_tries_7 rfl ?_
  refine zt_icmp_gt (tgt := 54) dX11_tries_8 (by decide) (by decide) (by decide) (fun q => absurd q (by decide)) (fun c_8 => ?_)
  refine zt_iload dX11_tries_11 rfl ?_
  refine zt_iconst dX11_tries_13 ?_
  refine zt_iadd dX11_tries_14 ?_
  refine zt_topv (v := 1) (by decide) ?_
  refine zt_istore_6 dX11_tries_15 (by decide) rfl ?_
  refine zt_iload dX11_tries_17 rfl ?_
  refine zt_iload_n dX11_tries_19 rfl ?_
  refine zt_icmp_gt (tgt := 48) dX11_tries_20 (by decide) (by decide) (by decide) (fun q => absurd q (by decide)) (fun c_20 => ?_)
  refine zt_lload_n dX11_tries_23 rfl ?_
  refine zt_aload_n dX11_tries_24 rfl ?_
  refine zt_getv dX11_tries_25 fl_X11_131 (zs_38 hS) (rf_38_58 hR) ?_
  refine zt_iload dX11_tries_28 rfl ?_
  refine zt_ialoadv (v := p1) dX11_tries_30 (zs_77 hS) (by decide) (by decide) (by decide) hp1 ?_
  refine zt_aload_n dX11_tries_31 rfl ?_
  refine zt_getv dX11_tries_32 fl_X11_131 (zs_38 hS) (rf_38_58 hR) ?_
  refine zt_iload dX11_tries_35 rfl ?_
  refine zt_ialoadv (v := p0) dX11_tries_37 (zs_77 hS) (by decide) (by decide) (by decide) hp0 ?_
  refine zt_isub dX11_tries_38 ?_
  refine zt_i2l dX11_tries_39 (by omega) ?_
  refine zt_lmul dX11_tries_40 ?_
  refine zt_topv (v := cV2 p0 p1) rfl ?_
  refine zt_lstore_n_3 dX11_tries_41 (by decide) rfl ?_
  refine zt_iincv_6 (v := 2) dX11_tries_42 (by decide) rfl (by decide) ?_
  refine zt_goto (tgt := 17) dX11_tries_45 (by decide) ?_
  refine zt_iload dX11_tries_17 rfl ?_
  refine zt_iload_n dX11_tries_19 rfl ?_
  refine zt_icmp_gt (tgt := 48) dX11_tries_20 (by decide) (by decide) (by decide) (fun c_20 => ?_) (fun q => absurd q (by decide))
  refine zt_iincv_5 (v := 1) dX11_tries_48 (by decide) rfl (by decide) ?_
  refine zt_goto (tgt := 5) dX11_tries_51 (by decide) ?_
  refine zt_iload dX11_tries_5 rfl ?_
  refine zt_iload_n dX11_tries_7 rfl ?_
  refine zt_icmp_gt (tgt := 54) dX11_tries_8 (by decide) (by decide) (by decide) (fun q => absurd q (by decide)) (fun c_8 => ?_)
  refine zt_iload dX11_tries_11 rfl ?_
  refine zt_iconst dX11_tries_13 ?_
  refine zt_iadd dX11_tries_14 ?_
  refine zt_topv (v := 2) (by decide) ?_
  refine zt_istore_6 dX11_tries_15 (by decide) rfl ?_
  refine zt_iload dX11_tries_17 rfl ?_
  refine zt_iload_n dX11_tries_19 rfl ?_
  refine zt_icmp_gt (tgt := 48) dX11_tries_20 (by decide) (by decide) (by decide) (fun c_20 => ?_) (fun q => absurd q (by decide))
  refine zt_iincv_5 (v := 2) dX11_tries_48 (by decide) rfl (by decide) ?_
  refine zt_goto (tgt := 5) dX11_tries_51 (by decide) ?_
  refine zt_iload dX11_tries_5 rfl ?_
  refine zt_iload_n dX11_tries_7 rfl ?_
  refine zt_icmp_gt (tgt := 54) dX11_tries_8 (by decide) (by decide) (by decide) (fun c_8 => ?_) (fun q => absurd q (by decide))
  refine zt_iconst dX11_tries_54 ?_
  refine zt_istore_5 dX11_tries_55 (by decide) rfl ?_
  refine zt_iconst dX11_tries_57 ?_
  refine zt_istore_6 dX11_tries_58 (by decide) rfl ?_
  have hP : pOK [p0, p1] := ⟨show 0 ≤ p0 ∧ p0 + 1 ≤ p1 ∧ p1 + 1 ≤ 20 by omega, by simp, by simp⟩
  have hyP : yOK (h 71) [p0, p1] := fun p hp => by
    simp only [List.mem_cons, List.not_mem_nil, or_false] at hp
    rcases hp with rfl | rfl
    · rw [hy0]; exact hb0
    · rw [hy1]; exact hb1
  have hcb : ∀ x, cvP (h 71) x [p0, p1] = cP2 p0 p1 y0 y1 x := fun x => by show cP2 p0 p1 (h 71 p0) (h 71 p1) x = _; rw [hy0, hy1]
  exact l_try2 hS hR hL hr1 h61 h62 he hp0 hy0 hb0 hp1 hy1 hb1 hod (fun x => by unfold qm; rw [hcb]; exact Iff.rfl) (cvV_b hP) (fun x hx => by rw [← hcb]; exact cvP_b hx hP hyP) rfl 21 0 0 (by omega) (by omega) (by omega) rfl

set_option maxRecDepth 100000 in
set_option maxHeartbeats 4000000 in
theorem l_try3 {d n : Nat} {sh : zSh} {h : zMem} {p0 p1 p2 y0 y1 y2 : Int} {e H : Int} (hS : zShp sh) (hR : zRf h) (hL : 0 ≤ h 38 50 ∧ h 38 50 ≤ 20) (hr1 : ∀ i, 0 ≤ i → i < h 38 50 → h 71 i = -2147483648 ∨ (-999999 ≤ h 71 i ∧ h 71 i ≤ 999999)) (h61 : 0 ≤ h 38 61 ∧ h 38 61 < 5000) (h62 : h 38 62 = -1 ∨ (0 ≤ h 38 62 ∧ h 38 62 < 1048576)) (he : 0 ≤ e ∧ e ≤ 9) (hp0 : h 77 0 = p0) (hy0 : h 71 p0 = y0) (hb0 : -999999 ≤ y0 ∧ y0 ≤ 999999) (hp1 : h 77 1 = p1) (hy1 : h 71 p1 = y1) (hb1 : -999999 ≤ y1 ∧ y1 ≤ 999999) (hp2 : h 77 2 = p2) (hy2 : h 71 p2 = y2) (hb2 : -999999 ≤ y2 ∧ y2 ≤ 999999) (hod : 0 ≤ p0 ∧ p0 < p1 ∧ p1 < p2 ∧ p2 < 20) (hq : ∀ x, qm (h 71) e [p0, p1, p2] x ↔ e * cV3 p0 p1 p2 < zabs (cP3 p0 p1 p2 y0 y1 y2 x - h 71 x * cV3 p0 p1 p2)) (hVb : 0 < cV3 p0 p1 p2 ∧ cV3 p0 p1 p2 ≤ 47045881) (hPb : ∀ x, 0 ≤ x ∧ x < 20 → -200000000000000 ≤ cP3 p0 p1 p2 y0 y1 y2 x ∧ cP3 p0 p1 p2 y0 y1 y2 x ≤ 200000000000000) (hHd : H = hpN (qm (h 71) e [p0, p1, p2]) (h 71) (h 38 50).toNat)  : ∀ (k : Nat) (i : Int) (a : Int), h 38 50 - i < (k : Int) → 0 ≤ i → i ≤ h 38 50 → a = hpN (qm (h 71) e [p0, p1, p2]) (h 71) i.toNat → zT yX11_tries cX11_tries 15 none (d + 1) 0 0 (zq none n sh (jTr h H)) 60 [some (2, 38), some (0, 2), some (0, e), some (1, cV3 p0 p1 p2), none, some (0, a), some (0, i), none, none, none, none, none, none, none, none] [] n sh h := by
  intro k
  induction k with
  | zero => intros; exfalso; omega
  | succ k ih =>
    intro i a hk h0 h1 ha
    refine zt_iload dX11_tries_60 rfl ?_
    refine zt_aload_n dX11_tries_62 rfl ?_
    refine zt_get dX11_tries_63 fl_X11_388 (zs_38 hS) ?_
    refine zt_icmp_ge (tgt := 248) dX11_tries_66 (by decide) (by omega) (by omega) (fun c_66 => ?_) (fun c_66 => ?_)
    · have hi : i = h 38 50 := by omega
      subst hi
      have hab := hpN_b (q := qm (h 71) e [p0, p1, p2]) (g := h 71) (h 38 50).toNat
      have hpm := zpw_le (show (h 38 50).toNat ≤ 20 by omega)
      have e20 : (2 : Int) ^ 20 = 1048576 := by decide
      have hH : H = a := by rw [ha, hHd]
      rw [← ha] at hab
      refine zt_aload_n dX11_tries_248 rfl ?_
      refine zt_get dX11_tries_249 fl_X11_400 (zs_38 hS) ?_
      refine zt_iconst dX11_tries_252 ?_
      refine zt_icmp_eq (tgt := 271) dX11_tries_253 (by decide) (by omega) (by decide) (fun c_253 => ?_) (fun c_253 => ?_)
      · refine zt_aload_n dX11_tries_271 rfl ?_
        refine zt_iload dX11_tries_272 rfl ?_
        refine zt_puti dX11_tries_274 fl_X11_400 rfl (zs_38 hS) (by omega) ?_
        refine zt_aload_n dX11_tries_277 rfl ?_
        refine zt_getv dX11_tries_278 fl_X11_137 (zs_38 hS) (rf_38_60 (hR.up (by decide))) ?_
        refine zt_aload_n dX11_tries_281 rfl ?_
        refine zt_getv (v := h 38 61) dX11_tries_282 fl_X11_397 (zs_38 hS) ((zupJ (by decide)).trans rfl) ?_
        refine zt_iload dX11_tries_285 rfl ?_
        refine zt_iastore dX11_tries_287 (zs_79 hS) (by decide) (by omega) (by omega) (by omega) ?_
        refine zt_aload_n dX11_tries_288 rfl ?_
        refine zt_dup dX11_tries_289 (Nat.ne_of_beq_eq_false rfl) ?_
        refine zt_getv (v := h 38 61) dX11_tries_290 fl_X11_397 (zs_38 hS) ((zupA (by decide)).trans ((zupJ (by decide)).trans rfl)) ?_
        refine zt_iconst dX11_tries_293 ?_
        refine zt_iadd dX11_tries_294 ?_
        refine zt_puti dX11_tries_295 fl_X11_397 rfl (zs_38 hS) (by omega) ?_
        exact zt_vret dX11_tries_298 ⟨rfl, rfl, rfl, by rw [hH]; unfold jTr; rw [if_pos (by first | omega | (left; assumption) | (right; assumption))]⟩
      · refine zt_iload dX11_tries_256 rfl ?_
        refine zt_callS1r dX11_tries_258 ml_X11_406 (Nat.le_of_ble_eq_true rfl) (c_jbi ⟨by omega, by omega⟩) ?_
        have hbt258 : 0 ≤ bts a ∧ bts a ≤ 20 := bt_b 20 _
        refine zt_aload_n dX11_tries_261 rfl ?_
        refine zt_get dX11_tries_262 fl_X11_400 (zs_38 hS) ?_
        refine zt_callS1r dX11_tries_265 ml_X11_406 (Nat.le_of_ble_eq_true rfl) (c_jbi ⟨by omega, by omega⟩) ?_
        have hbt265 : 0 ≤ bts (h 38 62) ∧ bts (h 38 62) ≤ 20 := bt_b 20 _
        refine zt_icmp_ge (tgt := 277) dX11_tries_268 (by decide) (by omega) (by omega) (fun c_268 => ?_) (fun c_268 => ?_)
        · refine zt_aload_n dX11_tries_277 rfl ?_
          refine zt_getv dX11_tries_278 fl_X11_137 (zs_38 hS) (rf_38_60 hR) ?_
          refine zt_aload_n dX11_tries_281 rfl ?_
          refine zt_get dX11_tries_282 fl_X11_397 (zs_38 hS) ?_
          refine zt_iload dX11_tries_285 rfl ?_
          refine zt_iastore dX11_tries_287 (zs_79 hS) (by decide) (by omega) (by omega) (by omega) ?_
          refine zt_aload_n dX11_tries_288 rfl ?_
          refine zt_dup dX11_tries_289 (Nat.ne_of_beq_eq_false rfl) ?_
          refine zt_getv (v := h 38 61) dX11_tries_290 fl_X11_397 (zs_38 hS) ((zupA (by decide)).trans rfl) ?_
          refine zt_iconst dX11_tries_293 ?_
          refine zt_iadd dX11_tries_294 ?_
          refine zt_puti dX11_tries_295 fl_X11_397 rfl (zs_38 hS) (by omega) ?_
          exact zt_vret dX11_tries_298 ⟨rfl, rfl, rfl, by rw [hH]; unfold jTr; rw [if_neg (by first | omega | (left; assumption) | (right; assumption))]⟩
        · refine zt_aload_n dX11_tries_271 rfl ?_
          refine zt_iload dX11_tries_272 rfl ?_
          refine zt_puti dX11_tries_274 fl_X11_400 rfl (zs_38 hS) (by omega) ?_
          refine zt_aload_n dX11_tries_277 rfl ?_
          refine zt_getv dX11_tries_278 fl_X11_137 (zs_38 hS) (rf_38_60 (hR.up (by decide))) ?_
          refine zt_aload_n dX11_tries_281 rfl ?_
          refine zt_getv (v := h 38 61) dX11_tries_282 fl_X11_397 (zs_38 hS) ((zupJ (by decide)).trans rfl) ?_
          refine zt_iload dX11_tries_285 rfl ?_
          refine zt_iastore dX11_tries_287 (zs_79 hS) (by decide) (by omega) (by omega) (by omega) ?_
          refine zt_aload_n dX11_tries_288 rfl ?_
          refine zt_dup dX11_tries_289 (Nat.ne_of_beq_eq_false rfl) ?_
          refine zt_getv (v := h 38 61) dX11_tries_290 fl_X11_397 (zs_38 hS) ((zupA (by decide)).trans ((zupJ (by decide)).trans rfl)) ?_
          refine zt_iconst dX11_tries_293 ?_
          refine zt_iadd dX11_tries_294 ?_
          refine zt_puti dX11_tries_295 fl_X11_397 rfl (zs_38 hS) (by omega) ?_
          exact zt_vret dX11_tries_298 ⟨rfl, rfl, rfl, by rw [hH]; unfold jTr; rw [if_pos (by first | omega | (left; assumption) | (right; assumption))]⟩
    · refine zt_aload_n dX11_tries_69 rfl ?_
      refine zt_getv dX11_tries_70 fl_X11_112 (zs_38 hS) (rf_38_51 hR) ?_
      refine zt_iload dX11_tries_73 rfl ?_
      refine zt_iaload dX11_tries_75 (zs_71 hS) (by decide) (by omega) (by omega) ?_
      refine zt_ldc_w dX11_tries_76 kc_X11_283 ?_
      refine zt_icmp_ne (tgt := 85) dX11_tries_79 (by decide) (by rcases hr1 i h0 (by omega) with q | q <;> omega) (by decide) (fun c_79 => ?_) (fun c_79 => ?_)
      · have hyi : -999999 ≤ h 71 i ∧ h 71 i ≤ 999999 := by rcases hr1 i h0 (by omega) with q | q; exact absurd q c_79; exact q
        have hcb : -200000000000000 ≤ cP3 p0 p1 p2 y0 y1 y2 i ∧ cP3 p0 p1 p2 y0 y1 y2 i ≤ 200000000000000 := hPb i ⟨h0, by omega⟩
        have hm1 := zmb2 (x := h 71 i) (y := cV3 p0 p1 p2) (A := 999999) (B := 47045881) hyi ⟨by omega, by omega⟩ rfl
        have hm2 := zmb2 (x := e) (y := cV3 p0 p1 p2) (A := 9) (B := 47045881) ⟨by omega, by omega⟩ ⟨by omega, by omega⟩ rfl
        have hpm := zpw_le (show i.toNat ≤ 19 by omega)
        have hpp := zpw_pos i.toNat
        have hab := hpN_b (q := qm (h 71) e [p0, p1, p2]) (g := h 71) i.toNat
        rw [← ha] at hab
        refine zt_lconst (v := 0) dX11_tries_85 rfl ?_
        refine zt_lstore_7 dX11_tries_86 (by decide) rfl ?_
        refine zt_iconst dX11_tries_88 ?_
        refine zt_istore_9 dX11_tries_89 (by decide) rfl ?_
        refine zt_iload dX11_tries_91 rfl ?_
        refine zt_iload_n dX11_tries_93 rfl ?_
        refine zt_icmp_gt (tgt := 197) dX11_tries_94 (by decide) (by decide) (by decide) (fun q => absurd q (by decide)) (fun c_94 => ?_)
        refine zt_lconst (v := 1) dX11_tries_97 rfl ?_
        refine zt_lstore_10 dX11_tries_98 (by decide) rfl ?_
        refine zt_lconst (v := 1) dX11_tries_100 rfl ?_
        refine zt_lstore_12 dX11_tries_101 (by decide) rfl ?_
        refine zt_iconst dX11_tries_103 ?_
        refine zt_istore_14 dX11_tries_104 (by decide) rfl ?_
        refine zt_iload dX11_tries_106 rfl ?_
        refine zt_iload_n dX11_tries_108 rfl ?_
        refine zt_icmp_gt (tgt := 165) dX11_tries_109 (by decide) (by decide) (by decide) (fun q => absurd q (by decide)) (fun c_109 => ?_)
        refine zt_iload dX11_tries_112 rfl ?_
        refine zt_iload dX11_tries_114 rfl ?_
        refine zt_icmp_ne (tgt := 122) dX11_tries_116 (by decide) (by decide) (by decide) (fun q => absurd q (by decide)) (fun c_116 => ?_)
        refine zt_goto (tgt := 159) dX11_tries_119 (by decide) ?_
        refine zt_iincv_14 (v := 1) dX11_tries_159 (by decide) rfl (by decide) ?_
        refine zt_goto (tgt := 106) dX11_tries_162 (by decide) ?_
        refine zt_iload dX11_tries_106 rfl ?_
        refine zt_iload_n dX11_tries_108 rfl ?_
        refine zt_icmp_gt (tgt := 165) dX11_tries_109 (by decide) (by decide) (by decide) (fun q => absurd q (by decide)) (fun c_109 => ?_)
        refine zt_iload dX11_tries_112 rfl ?_
        refine zt_iload dX11_tries_114 rfl ?_
        refine zt_icmp_ne (tgt := 122) dX11_tries_116 (by decide) (by decide) (by decide) (fun c_116 => ?_) (fun q => absurd q (by decide))
        refine zt_lload dX11_tries_122 rfl ?_
        refine zt_iload dX11_tries_124 rfl ?_
        refine zt_aload_n dX11_tries_126 rfl ?_
        refine zt_getv dX11_tries_127 fl_X11_131 (zs_38 hS) (rf_38_58 hR) ?_
        refine zt_iload dX11_tries_130 rfl ?_
        refine zt_ialoadv (v := p1) dX11_tries_132 (zs_77 hS) (by decide) (by decide) (by decide) hp1 ?_
        refine zt_isub dX11_tries_133 ?_
        refine zt_i2l dX11_tries_134 (by omega) ?_
        refine zt_lmul dX11_tries_135 ?_
        refine zt_lstore_10 dX11_tries_136 (by decide) rfl ?_
        refine zt_lload dX11_tries_138 rfl ?_
        refine zt_aload_n dX11_tries_140 rfl ?_
        refine zt_getv dX11_tries_141 fl_X11_131 (zs_38 hS) (rf_38_58 hR) ?_
        refine zt_iload dX11_tries_144 rfl ?_
        refine zt_ialoadv (v := p0) dX11_tries_146 (zs_77 hS) (by decide) (by decide) (by decide) hp0 ?_
        refine zt_aload_n dX11_tries_147 rfl ?_
        refine zt_getv dX11_tries_148 fl_X11_131 (zs_38 hS) (rf_38_58 hR) ?_
        refine zt_iload dX11_tries_151 rfl ?_
        refine zt_ialoadv (v := p1) dX11_tries_153 (zs_77 hS) (by decide) (by decide) (by decide) hp1 ?_
        refine zt_isub dX11_tries_154 ?_
        refine zt_i2l dX11_tries_155 (by omega) ?_
        refine zt_lmul dX11_tries_156 ?_
        refine zt_lstore_12 dX11_tries_157 (by decide) rfl ?_
        refine zt_iincv_14 (v := 2) dX11_tries_159 (by decide) rfl (by decide) ?_
        refine zt_goto (tgt := 106) dX11_tries_162 (by decide) ?_
        refine zt_iload dX11_tries_106 rfl ?_
        refine zt_iload_n dX11_tries_108 rfl ?_
        refine zt_icmp_gt (tgt := 165) dX11_tries_109 (by decide) (by decide) (by decide) (fun q => absurd q (by decide)) (fun c_109 => ?_)
        refine zt_iload dX11_tries_112 rfl ?_
        refine zt_iload dX11_tries_114 rfl ?_
        refine zt_icmp_ne (tgt := 122) dX11_tries_116 (by decide) (by decide) (by decide) (fun c_116 => ?_) (fun q => absurd q (by decide))
        refine zt_lload dX11_tries_122 rfl ?_
        refine zt_iload dX11_tries_124 rfl ?_
        refine zt_aload_n dX11_tries_126 rfl ?_
        refine zt_getv dX11_tries_127 fl_X11_131 (zs_38 hS) (rf_38_58 hR) ?_
        refine zt_iload dX11_tries_130 rfl ?_
        refine zt_ialoadv (v := p2) dX11_tries_132 (zs_77 hS) (by decide) (by decide) (by decide) hp2 ?_
        refine zt_isub dX11_tries_133 ?_
        refine zt_i2l dX11_tries_134 (by omega) ?_
        refine zt_lmul dX11_tries_135 ?_
        refine zt_lstore_10 dX11_tries_136 (by decide) rfl ?_
        refine zt_lload dX11_tries_138 rfl ?_
        refine zt_aload_n dX11_tries_140 rfl ?_
        refine zt_getv dX11_tries_141 fl_X11_131 (zs_38 hS) (rf_38_58 hR) ?_
        refine zt_iload dX11_tries_144 rfl ?_
        refine zt_ialoadv (v := p0) dX11_tries_146 (zs_77 hS) (by decide) (by decide) (by decide) hp0 ?_
        refine zt_aload_n dX11_tries_147 rfl ?_
        refine zt_getv dX11_tries_148 fl_X11_131 (zs_38 hS) (rf_38_58 hR) ?_
        refine zt_iload dX11_tries_151 rfl ?_
        refine zt_ialoadv (v := p2) dX11_tries_153 (zs_77 hS) (by decide) (by decide) (by decide) hp2 ?_
        refine zt_isub dX11_tries_154 ?_
        refine zt_i2l dX11_tries_155 (by omega) ?_
        refine zt_lmul dX11_tries_156 ?_
        refine zt_lstore_12 dX11_tries_157 (by decide) rfl ?_
        refine zt_iincv_14 (v := 3) dX11_tries_159 (by decide) rfl (by decide) ?_
        refine zt_goto (tgt := 106) dX11_tries_162 (by decide) ?_
        refine zt_iload dX11_tries_106 rfl ?_
        refine zt_iload_n dX11_tries_108 rfl ?_
        refine zt_icmp_gt (tgt := 165) dX11_tries_109 (by decide) (by decide) (by decide) (fun c_109 => ?_) (fun q => absurd q (by decide))
        refine zt_lload dX11_tries_165 rfl ?_
        refine zt_aload_n dX11_tries_167 rfl ?_
        refine zt_getv dX11_tries_168 fl_X11_112 (zs_38 hS) (rf_38_51 hR) ?_
        refine zt_aload_n dX11_tries_171 rfl ?_
        refine zt_getv dX11_tries_172 fl_X11_131 (zs_38 hS) (rf_38_58 hR) ?_
        refine zt_iload dX11_tries_175 rfl ?_
        refine zt_ialoadv (v := p0) dX11_tries_177 (zs_77 hS) (by decide) (by decide) (by decide) hp0 ?_
        refine zt_ialoadv (v := y0) dX11_tries_178 (zs_71 hS) (by decide) (by omega) (by omega) hy0 ?_
        refine zt_i2l dX11_tries_179 (by omega) ?_
        refine zt_lload dX11_tries_180 rfl ?_
        refine zt_lmul dX11_tries_182 ?_
        refine zt_lload_n dX11_tries_183 rfl ?_
        refine zt_lload dX11_tries_184 rfl ?_
        have hdb0 : -361 ≤ (1 * (p0 - p1)) * (p0 - p2) ∧ (1 * (p0 - p1)) * (p0 - p2) ≤ 361 := (zmb2 (zmb2 zb11 (show -19 ≤ p0 - p1 ∧ p0 - p1 ≤ 19 by omega) rfl) (show -19 ≤ p0 - p2 ∧ p0 - p2 ≤ 19 by omega) rfl)
        have hdn0 : (1 * (p0 - p1)) * (p0 - p2) ≠ 0 := fun z => by have z2 := lid3_0 (p0 := p0) (p1 := p1) (p2 := p2); rw [z, Int.mul_zero] at z2; omega
        refine zt_ldiv dX11_tries_186 (by omega) (by omega) hdn0 ?_
        refine zt_topv (v := 1 * (p2 - p1)) (zex (show cV3 p0 p1 p2 = _ from lid3_0) hdn0) ?_
        refine zt_lmul dX11_tries_187 ?_
        refine zt_ladd dX11_tries_188 ?_
        refine zt_lstore_7 dX11_tries_189 (by decide) rfl ?_
        refine zt_iincv_9 (v := 1) dX11_tries_191 (by decide) rfl (by decide) ?_
        refine zt_goto (tgt := 91) dX11_tries_194 (by decide) ?_
        refine zt_iload dX11_tries_91 rfl ?_
        refine zt_iload_n dX11_tries_93 rfl ?_
        refine zt_icmp_gt (tgt := 197) dX11_tries_94 (by decide) (by decide) (by decide) (fun q => absurd q (by decide)) (fun c_94 => ?_)
        refine zt_lconst (v := 1) dX11_tries_97 rfl ?_
        refine zt_lstore_10 dX11_tries_98 (by decide) rfl ?_
        refine zt_lconst (v := 1) dX11_tries_100 rfl ?_
        refine zt_lstore_12 dX11_tries_101 (by decide) rfl ?_
        refine zt_iconst dX11_tries_103 ?_
        refine zt_istore_14 dX11_tries_104 (by decide) rfl ?_
        refine zt_iload dX11_tries_106 rfl ?_
        refine zt_iload_n dX11_tries_108 rfl ?_
        refine zt_icmp_gt (tgt := 165) dX11_tries_109 (by decide) (by decide) (by decide) (fun q => absurd q (by decide)) (fun c_109 => ?_)
        refine zt_iload dX11_tries_112 rfl ?_
        refine zt_iload dX11_tries_114 rfl ?_
        refine zt_icmp_ne (tgt := 122) dX11_tries_116 (by decide) (by decide) (by decide) (fun c_116 => ?_) (fun q => absurd q (by decide))
        refine zt_lload dX11_tries_122 rfl ?_
        refine zt_iload dX11_tries_124 rfl ?_
        refine zt_aload_n dX11_tries_126 rfl ?_
        refine zt_getv dX11_tries_127 fl_X11_131 (zs_38 hS) (rf_38_58 hR) ?_
        refine zt_iload dX11_tries_130 rfl ?_
        refine zt_ialoadv (v := p0) dX11_tries_132 (zs_77 hS) (by decide) (by decide) (by decide) hp0 ?_
        refine zt_isub dX11_tries_133 ?_
        refine zt_i2l dX11_tries_134 (by omega) ?_
        refine zt_lmul dX11_tries_135 ?_
        refine zt_lstore_10 dX11_tries_136 (by decide) rfl ?_
        refine zt_lload dX11_tries_138 rfl ?_
        refine zt_aload_n dX11_tries_140 rfl ?_
        refine zt_getv dX11_tries_141 fl_X11_131 (zs_38 hS) (rf_38_58 hR) ?_
        refine zt_iload dX11_tries_144 rfl ?_
        refine zt_ialoadv (v := p1) dX11_tries_146 (zs_77 hS) (by decide) (by decide) (by decide) hp1 ?_
        refine zt_aload_n dX11_tries_147 rfl ?_
        refine zt_getv dX11_tries_148 fl_X11_131 (zs_38 hS) (rf_38_58 hR) ?_
        refine zt_iload dX11_tries_151 rfl ?_
        refine zt_ialoadv (v := p0) dX11_tries_153 (zs_77 hS) (by decide) (by decide) (by decide) hp0 ?_
        refine zt_isub dX11_tries_154 ?_
        refine zt_i2l dX11_tries_155 (by omega) ?_
        refine zt_lmul dX11_tries_156 ?_
        refine zt_lstore_12 dX11_tries_157 (by decide) rfl ?_
        refine zt_iincv_14 (v := 1) dX11_tries_159 (by decide) rfl (by decide) ?_
        refine zt_goto (tgt := 106) dX11_tries_162 (by decide) ?_
        refine zt_iload dX11_tries_106 rfl ?_
        refine zt_iload_n dX11_tries_108 rfl ?_
        refine zt_icmp_gt (tgt := 165) dX11_tries_109 (by decide) (by decide) (by decide) (fun q => absurd q (by decide)) (fun c_109 => ?_)
        refine zt_iload dX11_tries_112 rfl ?_
        refine zt_iload dX11_tries_114 rfl ?_
        refine zt_icmp_ne (tgt := 122) dX11_tries_116 (by decide) (by decide) (by decide) (fun q => absurd q (by decide)) (fun c_116 => ?_)
        refine zt_goto (tgt := 159) dX11_tries_119 (by decide) ?_
        refine zt_iincv_14 (v := 2) dX11_tries_159 (by decide) rfl (by decide) ?_
        refine zt_goto (tgt := 106) dX11_tries_162 (by decide) ?_
        refine zt_iload dX11_tries_106 rfl ?_
        refine zt_iload_n dX11_tries_108 rfl ?_
        refine zt_icmp_gt (tgt := 165) dX11_tries_109 (by decide) (by decide) (by decide) (fun q => absurd q (by decide)) (fun c_109 => ?_)
        refine zt_iload dX11_tries_112 rfl ?_
        refine zt_iload dX11_tries_114 rfl ?_
        refine zt_icmp_ne (tgt := 122) dX11_tries_116 (by decide) (by decide) (by decide) (fun c_116 => ?_) (fun q => absurd q (by decide))
        refine zt_lload dX11_tries_122 rfl ?_
        refine zt_iload dX11_tries_124 rfl ?_
        refine zt_aload_n dX11_tries_126 rfl ?_
        refine zt_getv dX11_tries_127 fl_X11_131 (zs_38 hS) (rf_38_58 hR) ?_
        refine zt_iload dX11_tries_130 rfl ?_
        refine zt_ialoadv (v := p2) dX11_tries_132 (zs_77 hS) (by decide) (by decide) (by decide) hp2 ?_
        refine zt_isub dX11_tries_133 ?_
        refine zt_i2l dX11_tries_134 (by omega) ?_
        refine zt_lmul dX11_tries_135 ?_
        refine zt_lstore_10 dX11_tries_136 (by decide) rfl ?_
        refine zt_lload dX11_tries_138 rfl ?_
        refine zt_aload_n dX11_tries_140 rfl ?_
        refine zt_getv dX11_tries_141 fl_X11_131 (zs_38 hS) (rf_38_58 hR) ?_
        refine zt_iload dX11_tries_144 rfl ?_
        refine zt_ialoadv (v := p1) dX11_tries_146 (zs_77 hS) (by decide) (by decide) (by decide) hp1 ?_
        refine zt_aload_n dX11_tries_147 rfl ?_
        refine zt_getv dX11_tries_148 fl_X11_131 (zs_38 hS) (rf_38_58 hR) ?_
        refine zt_iload dX11_tries_151 rfl ?_
        refine zt_ialoadv (v := p2) dX11_tries_153 (zs_77 hS) (by decide) (by decide) (by decide) hp2 ?_
        refine zt_isub dX11_tries_154 ?_
        refine zt_i2l dX11_tries_155 (by omega) ?_
        refine zt_lmul dX11_tries_156 ?_
        refine zt_lstore_12 dX11_tries_157 (by decide) rfl ?_
        refine zt_iincv_14 (v := 3) dX11_tries_159 (by decide) rfl (by decide) ?_
        refine zt_goto (tgt := 106) dX11_tries_162 (by decide) ?_
        refine zt_iload dX11_tries_106 rfl ?_
        refine zt_iload_n dX11_tries_108 rfl ?_
        refine zt_icmp_gt (tgt := 165) dX11_tries_109 (by decide) (by decide) (by decide) (fun c_109 => ?_) (fun q => absurd q (by decide))
        refine zt_lload dX11_tries_165 rfl ?_
        refine zt_aload_n dX11_tries_167 rfl ?_
        refine zt_getv dX11_tries_168 fl_X11_112 (zs_38 hS) (rf_38_51 hR) ?_
        refine zt_aload_n dX11_tries_171 rfl ?_
        refine zt_getv dX11_tries_172 fl_X11_131 (zs_38 hS) (rf_38_58 hR) ?_
        refine zt_iload dX11_tries_175 rfl ?_
        refine zt_ialoadv (v := p1) dX11_tries_177 (zs_77 hS) (by decide) (by decide) (by decide) hp1 ?_
        refine zt_ialoadv (v := y1) dX11_tries_178 (zs_71 hS) (by decide) (by omega) (by omega) hy1 ?_
        refine zt_i2l dX11_tries_179 (by omega) ?_
        refine zt_lload dX11_tries_180 rfl ?_
        refine zt_lmul dX11_tries_182 ?_
        refine zt_lload_n dX11_tries_183 rfl ?_
        refine zt_lload dX11_tries_184 rfl ?_
        have hdb1 : -361 ≤ (1 * (p1 - p0)) * (p1 - p2) ∧ (1 * (p1 - p0)) * (p1 - p2) ≤ 361 := (zmb2 (zmb2 zb11 (show -19 ≤ p1 - p0 ∧ p1 - p0 ≤ 19 by omega) rfl) (show -19 ≤ p1 - p2 ∧ p1 - p2 ≤ 19 by omega) rfl)
        have hdn1 : (1 * (p1 - p0)) * (p1 - p2) ≠ 0 := fun z => by have z2 := lid3_1 (p0 := p0) (p1 := p1) (p2 := p2); rw [z, Int.mul_zero] at z2; omega
        refine zt_ldiv dX11_tries_186 (by omega) (by omega) hdn1 ?_
        refine zt_topv (v := -(1 * (p2 - p0))) (zex (show cV3 p0 p1 p2 = _ from lid3_1) hdn1) ?_
        refine zt_lmul dX11_tries_187 ?_
        refine zt_ladd dX11_tries_188 ?_
        refine zt_lstore_7 dX11_tries_189 (by decide) rfl ?_
        refine zt_iincv_9 (v := 2) dX11_tries_191 (by decide) rfl (by decide) ?_
        refine zt_goto (tgt := 91) dX11_tries_194 (by decide) ?_
        refine zt_iload dX11_tries_91 rfl ?_
        refine zt_iload_n dX11_tries_93 rfl ?_
        refine zt_icmp_gt (tgt := 197) dX11_tries_94 (by decide) (by decide) (by decide) (fun q => absurd q (by decide)) (fun c_94 => ?_)
        refine zt_lconst (v := 1) dX11_tries_97 rfl ?_
        refine zt_lstore_10 dX11_tries_98 (by decide) rfl ?_
        refine zt_lconst (v := 1) dX11_tries_100 rfl ?_
        refine zt_lstore_12 dX11_tries_101 (by decide) rfl ?_
        refine zt_iconst dX11_tries_103 ?_
        refine zt_istore_14 dX11_tries_104 (by decide) rfl ?_
        refine zt_iload dX11_tries_106 rfl ?_
        refine zt_iload_n dX11_tries_108 rfl ?_
        refine zt_icmp_gt (tgt := 165) dX11_tries_109 (by decide) (by decide) (by decide) (fun q => absurd q (by decide)) (fun c_109 => ?_)
        refine zt_iload dX11_tries_112 rfl ?_
        refine zt_iload dX11_tries_114 rfl ?_
        refine zt_icmp_ne (tgt := 122) dX11_tries_116 (by decide) (by decide) (by decide) (fun c_116 => ?_) (fun q => absurd q (by decide))
        refine zt_lload dX11_tries_122 rfl ?_
        refine zt_iload dX11_tries_124 rfl ?_
        refine zt_aload_n dX11_tries_126 rfl ?_
        refine zt_getv dX11_tries_127 fl_X11_131 (zs_38 hS) (rf_38_58 hR) ?_
        refine zt_iload dX11_tries_130 rfl ?_
        refine zt_ialoadv (v := p0) dX11_tries_132 (zs_77 hS) (by decide) (by decide) (by decide) hp0 ?_
        refine zt_isub dX11_tries_133 ?_
        refine zt_i2l dX11_tries_134 (by omega) ?_
        refine zt_lmul dX11_tries_135 ?_
        refine zt_lstore_10 dX11_tries_136 (by decide) rfl ?_
        refine zt_lload dX11_tries_138 rfl ?_
        refine zt_aload_n dX11_tries_140 rfl ?_
        refine zt_getv dX11_tries_141 fl_X11_131 (zs_38 hS) (rf_38_58 hR) ?_
        refine zt_iload dX11_tries_144 rfl ?_
        refine zt_ialoadv (v := p2) dX11_tries_146 (zs_77 hS) (by decide) (by decide) (by decide) hp2 ?_
        refine zt_aload_n dX11_tries_147 rfl ?_
        refine zt_getv dX11_tries_148 fl_X11_131 (zs_38 hS) (rf_38_58 hR) ?_
        refine zt_iload dX11_tries_151 rfl ?_
        refine zt_ialoadv (v := p0) dX11_tries_153 (zs_77 hS) (by decide) (by decide) (by decide) hp0 ?_
        refine zt_isub dX11_tries_154 ?_
        refine zt_i2l dX11_tries_155 (by omega) ?_
        refine zt_lmul dX11_tries_156 ?_
        refine zt_lstore_12 dX11_tries_157 (by decide) rfl ?_
        refine zt_iincv_14 (v := 1) dX11_tries_159 (by decide) rfl (by decide) ?_
        refine zt_goto (tgt := 106) dX11_tries_162 (by decide) ?_
        refine zt_iload dX11_tries_106 rfl ?_
        refine zt_iload_n dX11_tries_108 rfl ?_
        refine zt_icmp_gt (tgt := 165) dX11_tries_109 (by decide) (by decide) (by decide) (fun q => absurd q (by decide)) (fun c_109 => ?_)
        refine zt_iload dX11_tries_112 rfl ?_
        refine zt_iload dX11_tries_114 rfl ?_
        refine zt_icmp_ne (tgt := 122) dX11_tries_116 (by decide) (by decide) (by decide) (fun c_116 => ?_) (fun q => absurd q (by decide))
        refine zt_lload dX11_tries_122 rfl ?_
        refine zt_iload dX11_tries_124 rfl ?_
        refine zt_aload_n dX11_tries_126 rfl ?_
        refine zt_getv dX11_tries_127 fl_X11_131 (zs_38 hS) (rf_38_58 hR) ?_
        refine zt_iload dX11_tries_130 rfl ?_
        refine zt_ialoadv (v := p1) dX11_tries_132 (zs_77 hS) (by decide) (by decide) (by decide) hp1 ?_
        refine zt_isub dX11_tries_133 ?_
        refine zt_i2l dX11_tries_134 (by omega) ?_
        refine zt_lmul dX11_tries_135 ?_
        refine zt_lstore_10 dX11_tries_136 (by decide) rfl ?_
        refine zt_lload dX11_tries_138 rfl ?_
        refine zt_aload_n dX11_tries_140 rfl ?_
        refine zt_getv dX11_tries_141 fl_X11_131 (zs_38 hS) (rf_38_58 hR) ?_
        refine zt_iload dX11_tries_144 rfl ?_
        refine zt_ialoadv (v := p2) dX11_tries_146 (zs_77 hS) (by decide) (by decide) (by decide) hp2 ?_
        refine zt_aload_n dX11_tries_147 rfl ?_
        refine zt_getv dX11_tries_148 fl_X11_131 (zs_38 hS) (rf_38_58 hR) ?_
        refine zt_iload dX11_tries_151 rfl ?_
        refine zt_ialoadv (v := p1) dX11_tries_153 (zs_77 hS) (by decide) (by decide) (by decide) hp1 ?_
        refine zt_isub dX11_tries_154 ?_
        refine zt_i2l dX11_tries_155 (by omega) ?_
        refine zt_lmul dX11_tries_156 ?_
        refine zt_lstore_12 dX11_tries_157 (by decide) rfl ?_
        refine zt_iincv_14 (v := 2) dX11_tries_159 (by decide) rfl (by decide) ?_
        refine zt_goto (tgt := 106) dX11_tries_162 (by decide) ?_
        refine zt_iload dX11_tries_106 rfl ?_
        refine zt_iload_n dX11_tries_108 rfl ?_
        refine zt_icmp_gt (tgt := 165) dX11_tries_109 (by decide) (by decide) (by decide) (fun q => absurd q (by decide)) (fun c_109 => ?_)
        refine zt_iload dX11_tries_112 rfl ?_
        refine zt_iload dX11_tries_114 rfl ?_
        refine zt_icmp_ne (tgt := 122) dX11_tries_116 (by decide) (by decide) (by decide) (fun q => absurd q (by decide)) (fun c_116 => ?_)
        refine zt_goto (tgt := 159) dX11_tries_119 (by decide) ?_
        refine zt_iincv_14 (v := 3) dX11_tries_159 (by decide) rfl (by decide) ?_
        refine zt_goto (tgt := 106) dX11_tries_162 (by decide) ?_
        refine zt_iload dX11_tries_106 rfl ?_
        refine zt_iload_n dX11_tries_108 rfl ?_
        refine zt_icmp_gt (tgt := 165) dX11_tries_109 (by decide) (by decide) (by decide) (fun c_109 => ?_) (fun q => absurd q (by decide))
        refine zt_lload dX11_tries_165 rfl ?_
        refine zt_aload_n dX11_tries_167 rfl ?_
        refine zt_getv dX11_tries_168 fl_X11_112 (zs_38 hS) (rf_38_51 hR) ?_
        refine zt_aload_n dX11_tries_171 rfl ?_
        refine zt_getv dX11_tries_172 fl_X11_131 (zs_38 hS) (rf_38_58 hR) ?_
        refine zt_iload dX11_tries_175 rfl ?_
        refine zt_ialoadv (v := p2) dX11_tries_177 (zs_77 hS) (by decide) (by decide) (by decide) hp2 ?_
        refine zt_ialoadv (v := y2) dX11_tries_178 (zs_71 hS) (by decide) (by omega) (by omega) hy2 ?_
        refine zt_i2l dX11_tries_179 (by omega) ?_
        refine zt_lload dX11_tries_180 rfl ?_
        refine zt_lmul dX11_tries_182 ?_
        refine zt_lload_n dX11_tries_183 rfl ?_
        refine zt_lload dX11_tries_184 rfl ?_
        have hdb2 : -361 ≤ (1 * (p2 - p0)) * (p2 - p1) ∧ (1 * (p2 - p0)) * (p2 - p1) ≤ 361 := (zmb2 (zmb2 zb11 (show -19 ≤ p2 - p0 ∧ p2 - p0 ≤ 19 by omega) rfl) (show -19 ≤ p2 - p1 ∧ p2 - p1 ≤ 19 by omega) rfl)
        have hdn2 : (1 * (p2 - p0)) * (p2 - p1) ≠ 0 := fun z => by have z2 := lid3_2 (p0 := p0) (p1 := p1) (p2 := p2); rw [z, Int.mul_zero] at z2; omega
        refine zt_ldiv dX11_tries_186 (by omega) (by omega) hdn2 ?_
        refine zt_topv (v := 1 * (p1 - p0)) (zex (show cV3 p0 p1 p2 = _ from lid3_2) hdn2) ?_
        refine zt_lmul dX11_tries_187 ?_
        refine zt_ladd dX11_tries_188 ?_
        refine zt_topv (v := cP3 p0 p1 p2 y0 y1 y2 i) rfl ?_
        refine zt_lstore_7 dX11_tries_189 (by decide) rfl ?_
        refine zt_iincv_9 (v := 3) dX11_tries_191 (by decide) rfl (by decide) ?_
        refine zt_goto (tgt := 91) dX11_tries_194 (by decide) ?_
        refine zt_iload dX11_tries_91 rfl ?_
        refine zt_iload_n dX11_tries_93 rfl ?_
        refine zt_icmp_gt (tgt := 197) dX11_tries_94 (by decide) (by decide) (by decide) (fun c_94 => ?_) (fun q => absurd q (by decide))
        refine zt_lload dX11_tries_197 rfl ?_
        refine zt_aload_n dX11_tries_199 rfl ?_
        refine zt_getv dX11_tries_200 fl_X11_112 (zs_38 hS) (rf_38_51 hR) ?_
        refine zt_iload dX11_tries_203 rfl ?_
        refine zt_iaload dX11_tries_205 (zs_71 hS) (by decide) (by omega) (by omega) ?_
        refine zt_i2l dX11_tries_206 (by omega) ?_
        refine zt_lload_n dX11_tries_207 rfl ?_
        refine zt_lmul dX11_tries_208 ?_
        refine zt_lsub dX11_tries_209 ?_
        refine zt_lstore_7 dX11_tries_210 (by decide) rfl ?_
        refine zt_lload dX11_tries_212 rfl ?_
        refine zt_iload_n dX11_tries_214 rfl ?_
        refine zt_i2l dX11_tries_215 (by omega) ?_
        refine zt_lload_n dX11_tries_216 rfl ?_
        refine zt_lmul dX11_tries_217 ?_
        refine zt_lc_gt (tgt := 233) dX11_tries_218 dX11_tries_219 (by decide) (by omega) (by omega) (fun c_218 => ?_) (fun c_218 => ?_)
        · refine zt_iload dX11_tries_233 rfl ?_
          refine zt_iconst dX11_tries_235 ?_
          refine zt_iload dX11_tries_236 rfl ?_
          refine zt_ishl dX11_tries_238 ?_
          refine zt_topv (v := 2 ^ i.toNat) (zshl1 ⟨by omega, by omega⟩) ?_
          refine zt_ior dX11_tries_239 ?_
          refine zt_topv (v := a + 2 ^ i.toNat) (zor2 ⟨by omega, by omega⟩ hab) ?_
          refine zt_istore_5 dX11_tries_240 (by decide) rfl ?_
          refine zt_iinc_6 dX11_tries_242 (by decide) rfl ?_
          refine zt_goto (tgt := 60) dX11_tries_245 (by decide) ?_
          refine zt_kill_7 ?_
          refine zt_kill_9 ?_
          refine zt_kill_10 ?_
          refine zt_kill_12 ?_
          refine zt_kill_14 ?_
          exact ih (i + 1) _ (by omega) (by omega) (by omega) (by rw [show (i + 1).toNat = i.toNat + 1 by omega]; symm; show hpN (qm (h 71) e [p0, p1, p2]) (h 71) i.toNat + zite (h 71 (i.toNat : Int) ≠ -2147483648 ∧ qm (h 71) e [p0, p1, p2] (i.toNat : Int)) (2 ^ i.toNat) 0 = _; rw [Int.toNat_of_nonneg h0, zite_t ⟨c_79, (hq i).mpr (by unfold zabs; split <;> omega)⟩, ← ha])
        · refine zt_lload dX11_tries_222 rfl ?_
          refine zt_lneg dX11_tries_224 ?_
          refine zt_iload_n dX11_tries_225 rfl ?_
          refine zt_i2l dX11_tries_226 (by omega) ?_
          refine zt_lload_n dX11_tries_227 rfl ?_
          refine zt_lmul dX11_tries_228 ?_
          refine zt_lc_le (tgt := 242) dX11_tries_229 dX11_tries_230 (by decide) (by omega) (by omega) (fun c_229 => ?_) (fun c_229 => ?_)
          · refine zt_iinc_6 dX11_tries_242 (by decide) rfl ?_
            refine zt_goto (tgt := 60) dX11_tries_245 (by decide) ?_
            refine zt_kill_7 ?_
            refine zt_kill_9 ?_
            refine zt_kill_10 ?_
            refine zt_kill_12 ?_
            refine zt_kill_14 ?_
            exact ih (i + 1) a (by omega) (by omega) (by omega) (by rw [show (i + 1).toNat = i.toNat + 1 by omega]; symm; show hpN (qm (h 71) e [p0, p1, p2]) (h 71) i.toNat + zite (h 71 (i.toNat : Int) ≠ -2147483648 ∧ qm (h 71) e [p0, p1, p2] (i.toNat : Int)) (2 ^ i.toNat) 0 = _; rw [Int.toNat_of_nonneg h0, zite_f (fun z => by first | exact z.1 c_79 | (have z2 := (hq i).mp z.2; unfold zabs at z2; split at z2 <;> omega)), ← ha, Int.add_zero])
          · refine zt_iload dX11_tries_233 rfl ?_
            refine zt_iconst dX11_tries_235 ?_
            refine zt_iload dX11_tries_236 rfl ?_
            refine zt_ishl dX11_tries_238 ?_
            refine zt_topv (v := 2 ^ i.toNat) (zshl1 ⟨by omega, by omega⟩) ?_
            refine zt_ior dX11_tries_239 ?_
            refine zt_topv (v := a + 2 ^ i.toNat) (zor2 ⟨by omega, by omega⟩ hab) ?_
            refine zt_istore_5 dX11_tries_240 (by decide) rfl ?_
            refine zt_iinc_6 dX11_tries_242 (by decide) rfl ?_
            refine zt_goto (tgt := 60) dX11_tries_245 (by decide) ?_
            refine zt_kill_7 ?_
            refine zt_kill_9 ?_
            refine zt_kill_10 ?_
            refine zt_kill_12 ?_
            refine zt_kill_14 ?_
            exact ih (i + 1) _ (by omega) (by omega) (by omega) (by rw [show (i + 1).toNat = i.toNat + 1 by omega]; symm; show hpN (qm (h 71) e [p0, p1, p2]) (h 71) i.toNat + zite (h 71 (i.toNat : Int) ≠ -2147483648 ∧ qm (h 71) e [p0, p1, p2] (i.toNat : Int)) (2 ^ i.toNat) 0 = _; rw [Int.toNat_of_nonneg h0, zite_t ⟨c_79, (hq i).mpr (by unfold zabs; split <;> omega)⟩, ← ha])
      · refine zt_goto (tgt := 242) dX11_tries_82 (by decide) ?_
        refine zt_iinc_6 dX11_tries_242 (by decide) rfl ?_
        refine zt_goto (tgt := 60) dX11_tries_245 (by decide) ?_
        exact ih (i + 1) a (by omega) (by omega) (by omega) (by rw [show (i + 1).toNat = i.toNat + 1 by omega]; symm; show hpN (qm (h 71) e [p0, p1, p2]) (h 71) i.toNat + zite (h 71 (i.toNat : Int) ≠ -2147483648 ∧ qm (h 71) e [p0, p1, p2] (i.toNat : Int)) (2 ^ i.toNat) 0 = _; rw [Int.toNat_of_nonneg h0, zite_f (fun z => by first | exact z.1 c_79 | (have z2 := (hq i).mp z.2; unfold zabs at z2; split at z2 <;> omega)), ← ha, Int.add_zero])

set_option maxRecDepth 100000 in
set_option maxHeartbeats 4000000 in
theorem c_try3 {d n : Nat} {sh : zSh} {h : zMem} {p0 p1 p2 y0 y1 y2 : Int} {e : Int} (hS : zShp sh) (hR : zRf h) (hL : 0 ≤ h 38 50 ∧ h 38 50 ≤ 20) (hr1 : ∀ i, 0 ≤ i → i < h 38 50 → h 71 i = -2147483648 ∨ (-999999 ≤ h 71 i ∧ h 71 i ≤ 999999)) (h61 : 0 ≤ h 38 61 ∧ h 38 61 < 5000) (h62 : h 38 62 = -1 ∨ (0 ≤ h 38 62 ∧ h 38 62 < 1048576)) (he : 0 ≤ e ∧ e ≤ 9) (hp0 : h 77 0 = p0) (hy0 : h 71 p0 = y0) (hb0 : -999999 ≤ y0 ∧ y0 ≤ 999999) (hp1 : h 77 1 = p1) (hy1 : h 71 p1 = y1) (hb1 : -999999 ≤ y1 ∧ y1 ≤ 999999) (hp2 : h 77 2 = p2) (hy2 : h 71 p2 = y2) (hb2 : -999999 ≤ y2 ∧ y2 ≤ 999999) (hod : 0 ≤ p0 ∧ p0 < p1 ∧ p1 < p2 ∧ p2 < 20)  : zF yX11_tries cX11_tries 15 none (d + 1) 0 0 [(2, 38), (0, 2), (0, e)] n sh h none n sh (jTr h (hpN (qm (h 71) e [p0, p1, p2]) (h 71) (h 38 50).toNat)) := by
  refine zF.ofT (by decide +kernel) [some (2, 38), some (0, 2), some (0, e), none, none, none, none, none, none, none, none, none, none, none, none] rfl (Nat.le_of_ble_eq_true rfl) ?_
  refine zt_lconst (v := 1) dX11_tries_0 rfl ?_
  refine zt_lstore_n_3 dX11_tries_1 (by decide) rfl ?_
  refine zt_iconst dX11_tries_2 ?_
  refine zt_istore_5 dX11_tries_3 (by decide) rfl ?_
  refine zt_iload dX11_tries_5 rfl ?_
  refine zt_iload_n dX11_tries_7 rfl ?_
  refine zt_icmp_gt (tgt := 54) dX11_tries_8 (by decide) (by decide) (by decide) (fun q => absurd q (by decide)) (fun c_8 => ?_)
  refine zt_iload dX11_tries_11 rfl ?_
  refine zt_iconst dX11_tries_13 ?_
  refine zt_iadd dX11_tries_14 ?_
  refine zt_topv (v := 1) (by decide) ?_
  refine zt_istore_6 dX11_tries_15 (by decide) rfl ?_
  refine zt_iload dX11_tries_17 rfl ?_
  refine zt_iload_n dX11_tries_19 rfl ?_
  refine zt_icmp_gt (tgt := 48) dX11_tries_20 (by decide) (by decide) (by decide) (fun q => absurd q (by decide)) (fun c_20 => ?_)
  refine zt_lload_n dX11_tries_23 rfl ?_
  refine zt_aload_n dX11_tries_24 rfl ?_
  refine zt_getv dX11_tries_25 fl_X11_131 (zs_38 hS) (rf_38_58 hR) ?_
  refine zt_iload dX11_tries_28 rfl ?_
  refine zt_ialoadv (v := p1) dX11_tries_30 (zs_77 hS) (by decide) (by decide) (by decide) hp1 ?_
  refine zt_aload_n dX11_tries_31 rfl ?_
  refine zt_getv dX11_tries_32 fl_X11_131 (zs_38 hS) (rf_38_58 hR) ?_
  refine zt_iload dX11_tries_35 rfl ?_
  refine zt_ialoadv (v := p0) dX11_tries_37 (zs_77 hS) (by decide) (by decide) (by decide) hp0 ?_
  refine zt_isub dX11_tries_38 ?_
  refine zt_i2l dX11_tries_39 (by omega) ?_
  refine zt_lmul dX11_tries_40 ?_
  refine zt_lstore_n_3 dX11_tries_41 (by decide) rfl ?_
  refine zt_iincv_6 (v := 2) dX11_tries_42 (by decide) rfl (by decide) ?_
  refine zt_goto (tgt := 17) dX11_tries_45 (by decide) ?_
  refine zt_iload dX11_tries_17 rfl ?_
  refine zt_iload_n dX11_tries_19 rfl ?_
  refine zt_icmp_gt (tgt := 48) dX11_tries_20 (by decide) (by decide) (by decide) (fun q => absurd q (by decide)) (fun c_20 => ?_)
  refine zt_lload_n dX11_tries_23 rfl ?_
  refine zt_aload_n dX11_tries_24 rfl ?_
  refine zt_getv dX11_tries_25 fl_X11_131 (zs_38 hS) (rf_38_58 hR) ?_
  refine zt_iload dX11_tries_28 rfl ?_
  refine zt_ialoadv (v := p2) dX11_tries_30 (zs_77 hS) (by decide) (by decide) (by decide) hp2 ?_
  refine zt_aload_n dX11_tries_31 rfl ?_
  refine zt_getv dX11_tries_32 fl_X11_131 (zs_38 hS) (rf_38_58 hR) ?_
  refine zt_iload dX11_tries_35 rfl ?_
  refine zt_ialoadv (v := p0) dX11_tries_37 (zs_77 hS) (by decide) (by decide) (by decide) hp0 ?_
  refine zt_isub dX11_tries_38 ?_
  refine zt_i2l dX11_tries_39 (by omega) ?_
  refine zt_lmul dX11_tries_40 ?_
  refine zt_lstore_n_3 dX11_tries_41 (by decide) rfl ?_
  refine zt_iincv_6 (v := 3) dX11_tries_42 (by decide) rfl (by decide) ?_
  refine zt_goto (tgt := 17) dX11_tries_45 (by decide) ?_
  refine zt_iload dX11_tries_17 rfl ?_
  refine zt_iload_n dX11_tries_19 rfl ?_
  refine zt_icmp_gt (tgt := 48) dX11_tries_20 (by decide) (by decide) (by decide) (fun c_20 => ?_) (fun q => absurd q (by decide))
  refine zt_iincv_5 (v := 1) dX11_tries_48 (by decide) rfl (by decide) ?_
  refine zt_goto (tgt := 5) dX11_tries_51 (by decide) ?_
  refine zt_iload dX11_tries_5 rfl ?_
  refine zt_iload_n dX11_tries_7 rfl ?_
  refine zt_icmp_gt (tgt := 54) dX11_tries_8 (by decide) (by decide) (by decide) (fun q => absurd q (by decide)) (fun c_8 => ?_)
  refine zt_iload dX11_tries_11 rfl ?_
  refine zt_iconst dX11_tries_13 ?_
  refine zt_iadd dX11_tries_14 ?_
  refine zt_topv (v := 2) (by decide) ?_
  refine zt_istore_6 dX11_tries_15 (by decide) rfl ?_
  refine zt_iload dX11_tries_17 rfl ?_
  refine zt_iload_n dX11_tries_19 rfl ?_
  refine zt_icmp_gt (tgt := 48) dX11_tries_20 (by decide) (by decide) (by decide) (fun q => absurd q (by decide)) (fun c_20 => ?_)
  refine zt_lload_n dX11_tries_23 rfl ?_
  refine zt_aload_n dX11_tries_24 rfl ?_
  refine zt_getv dX11_tries_25 fl_X11_131 (zs_38 hS) (rf_38_58 hR) ?_
  refine zt_iload dX11_tries_28 rfl ?_
  refine zt_ialoadv (v := p2) dX11_tries_30 (zs_77 hS) (by decide) (by decide) (by decide) hp2 ?_
  refine zt_aload_n dX11_tries_31 rfl ?_
  refine zt_getv dX11_tries_32 fl_X11_131 (zs_38 hS) (rf_38_58 hR) ?_
  refine zt_iload dX11_tries_35 rfl ?_
  refine zt_ialoadv (v := p1) dX11_tries_37 (zs_77 hS) (by decide) (by decide) (by decide) hp1 ?_
  refine zt_isub dX11_tries_38 ?_
  refine zt_i2l dX11_tries_39 (by omega) ?_
  refine zt_lmul dX11_tries_40 ?_
  refine zt_topv (v := cV3 p0 p1 p2) rfl ?_
  refine zt_lstore_n_3 dX11_tries_41 (by decide) rfl ?_
  refine zt_iincv_6 (v := 3) dX11_tries_42 (by decide) rfl (by decide) ?_
  refine zt_goto (tgt := 17) dX11_tries_45 (by decide) ?_
  refine zt_iload dX11_tries_17 rfl ?_
  refine zt_iload_n dX11_tries_19 rfl ?_
  refine zt_icmp_gt (tgt := 48) dX11_tries_20 (by decide) (by decide) (by decide) (fun c_20 => ?_) (fun q => absurd q (by decide))
  refine zt_iincv_5 (v := 2) dX11_tries_48 (by decide) rfl (by decide) ?_
  refine zt_goto (tgt := 5) dX11_tries_51 (by decide) ?_
  refine zt_iload dX11_tries_5 rfl ?_
  refine zt_iload_n dX11_tries_7 rfl ?_
  refine zt_icmp_gt (tgt := 54) dX11_tries_8 (by decide) (by decide) (by decide) (fun q => absurd q (by decide)) (fun c_8 => ?_)
  refine zt_iload dX11_tries_11 rfl ?_
  refine zt_iconst dX11_tries_13 ?_
  refine zt_iadd dX11_tries_14 ?_
  refine zt_topv (v := 3) (by decide) ?_
  refine zt_istore_6 dX11_tries_15 (by decide) rfl ?_
  refine zt_iload dX11_tries_17 rfl ?_
  refine zt_iload_n dX11_tries_19 rfl ?_
  refine zt_icmp_gt (tgt := 48) dX11_tries_20 (by decide) (by decide) (by decide) (fun c_20 => ?_) (fun q => absurd q (by decide))
  refine zt_iincv_5 (v := 3) dX11_tries_48 (by decide) rfl (by decide) ?_
  refine zt_goto (tgt := 5) dX11_tries_51 (by decide) ?_
  refine zt_iload dX11_tries_5 rfl ?_
  refine zt_iload_n dX11_tries_7 rfl ?_
  refine zt_icmp_gt (tgt := 54) dX11_tries_8 (by decide) (by decide) (by decide) (fun c_8 => ?_) (fun q => absurd q (by decide))
  refine zt_iconst dX11_tries_54 ?_
  refine zt_istore_5 dX11_tries_55 (by decide) rfl ?_
  refine zt_iconst dX11_tries_57 ?_
  refine zt_istore_6 dX11_tries_58 (by decide) rfl ?_
  have hP : pOK [p0, p1, p2] := ⟨show 0 ≤ p0 ∧ p0 + 1 ≤ p1 ∧ p1 + 1 ≤ p2 ∧ p2 + 1 ≤ 20 by omega, by simp, by simp⟩
  have hyP : yOK (h 71) [p0, p1, p2] := fun p hp => by
    simp only [List.mem_cons, List.not_mem_nil, or_false] at hp
    rcases hp with rfl | rfl | rfl
    · rw [hy0]; exact hb0
    · rw [hy1]; exact hb1
    · rw [hy2]; exact hb2
  have hcb : ∀ x, cvP (h 71) x [p0, p1, p2] = cP3 p0 p1 p2 y0 y1 y2 x := fun x => by show cP3 p0 p1 p2 (h 71 p0) (h 71 p1) (h 71 p2) x = _; rw [hy0, hy1, hy2]
  exact l_try3 hS hR hL hr1 h61 h62 he hp0 hy0 hb0 hp1 hy1 hb1 hp2 hy2 hb2 hod (fun x => by unfold qm; rw [hcb]; exact Iff.rfl) (cvV_b hP) (fun x hx => by rw [← hcb]; exact cvP_b hx hP hyP) rfl 21 0 0 (by omega) (by omega) (by omega) rfl

set_option maxRecDepth 100000 in
set_option maxHeartbeats 4000000 in
theorem l_try4 {d n : Nat} {sh : zSh} {h : zMem} {p0 p1 p2 p3 y0 y1 y2 y3 : Int} {e H : Int} (hS : zShp sh) (hR : zRf h) (hL : 0 ≤ h 38 50 ∧ h 38 50 ≤ 20) (hr1 : ∀ i, 0 ≤ i → i < h 38 50 → h 71 i = -2147483648 ∨ (-999999 ≤ h 71 i ∧ h 71 i ≤ 999999)) (h61 : 0 ≤ h 38 61 ∧ h 38 61 < 5000) (h62 : h 38 62 = -1 ∨ (0 ≤ h 38 62 ∧ h 38 62 < 1048576)) (he : 0 ≤ e ∧ e ≤ 9) (hp0 : h 77 0 = p0) (hy0 : h 71 p0 = y0) (hb0 : -999999 ≤ y0 ∧ y0 ≤ 999999) (hp1 : h 77 1 = p1) (hy1 : h 71 p1 = y1) (hb1 : -999999 ≤ y1 ∧ y1 ≤ 999999) (hp2 : h 77 2 = p2) (hy2 : h 71 p2 = y2) (hb2 : -999999 ≤ y2 ∧ y2 ≤ 999999) (hp3 : h 77 3 = p3) (hy3 : h 71 p3 = y3) (hb3 : -999999 ≤ y3 ∧ y3 ≤ 999999) (hod : 0 ≤ p0 ∧ p0 < p1 ∧ p1 < p2 ∧ p2 < p3 ∧ p3 < 20) (hq : ∀ x, qm (h 71) e [p0, p1, p2, p3] x ↔ e * cV4 p0 p1 p2 p3 < zabs (cP4 p0 p1 p2 p3 y0 y1 y2 y3 x - h 71 x * cV4 p0 p1 p2 p3)) (hVb : 0 < cV4 p0 p1 p2 p3 ∧ cV4 p0 p1 p2 p3 ≤ 47045881) (hPb : ∀ x, 0 ≤ x ∧ x < 20 → -200000000000000 ≤ cP4 p0 p1 p2 p3 y0 y1 y2 y3 x ∧ cP4 p0 p1 p2 p3 y0 y1 y2 y3 x ≤ 200000000000000) (hHd : H = hpN (qm (h 71) e [p0, p1, p2, p3]) (h 71) (h 38 50).toNat)  : ∀ (k : Nat) (i : Int) (a : Int), h 38 50 - i < (k : Int) → 0 ≤ i → i ≤ h 38 50 → a = hpN (qm (h 71) e [p0, p1, p2, p3]) (h 71) i.toNat → zT yX11_tries cX11_tries 15 none (d + 1) 0 0 (zq none n sh (jTr h H)) 60 [some (2, 38), some (0, 3), some (0, e), some (1, cV4 p0 p1 p2 p3), none, some (0, a), some (0, i), none, none, none, none, none, none, none, none] [] n sh h := by
  intro k
  induction k with
  | zero => intros; exfalso; omega
  | succ k ih =>
    intro i a hk h0 h1 ha
    refine zt_iload dX11_tries_60 rfl ?_
    refine zt_aload_n dX11_tries_62 rfl ?_
    refine zt_get dX11_tries_63 fl_X11_388 (zs_38 hS) ?_
    refine zt_icmp_ge (tgt := 248) dX11_tries_66 (by decide) (by omega) (by omega) (fun c_66 => ?_) (fun c_66 => ?_)
    · have hi : i = h 38 50 := by omega
      subst hi
      have hab := hpN_b (q := qm (h 71) e [p0, p1, p2, p3]) (g := h 71) (h 38 50).toNat
      have hpm := zpw_le (show (h 38 50).toNat ≤ 20 by omega)
      have e20 : (2 : Int) ^ 20 = 1048576 := by decide
      have hH : H = a := by rw [ha, hHd]
      rw [← ha] at hab
      refine zt_aload_n dX11_tries_248 rfl ?_
      refine zt_get dX11_tries_249 fl_X11_400 (zs_38 hS) ?_
      refine zt_iconst dX11_tries_252 ?_
      refine zt_icmp_eq (tgt := 271) dX11_tries_253 (by decide) (by omega) (by decide) (fun c_253 => ?_) (fun c_253 => ?_)
      · refine zt_aload_n dX11_tries_271 rfl ?_
        refine zt_iload dX11_tries_272 rfl ?_
        refine zt_puti dX11_tries_274 fl_X11_400 rfl (zs_38 hS) (by omega) ?_
        refine zt_aload_n dX11_tries_277 rfl ?_
        refine zt_getv dX11_tries_278 fl_X11_137 (zs_38 hS) (rf_38_60 (hR.up (by decide))) ?_
        refine zt_aload_n dX11_tries_281 rfl ?_
        refine zt_getv (v := h 38 61) dX11_tries_282 fl_X11_397 (zs_38 hS) ((zupJ (by decide)).trans rfl) ?_
        refine zt_iload dX11_tries_285 rfl ?_
        refine zt_iastore dX11_tries_287 (zs_79 hS) (by decide) (by omega) (by omega) (by omega) ?_
        refine zt_aload_n dX11_tries_288 rfl ?_
        refine zt_dup dX11_tries_289 (Nat.ne_of_beq_eq_false rfl) ?_
        refine zt_getv (v := h 38 61) dX11_tries_290 fl_X11_397 (zs_38 hS) ((zupA (by decide)).trans ((zupJ (by decide)).trans rfl)) ?_
        refine zt_iconst dX11_tries_293 ?_
        refine zt_iadd dX11_tries_294 ?_
        refine zt_puti dX11_tries_295 fl_X11_397 rfl (zs_38 hS) (by omega) ?_
        exact zt_vret dX11_tries_298 ⟨rfl, rfl, rfl, by rw [hH]; unfold jTr; rw [if_pos (by first | omega | (left; assumption) | (right; assumption))]⟩
      · refine zt_iload dX11_tries_256 rfl ?_
        refine zt_callS1r dX11_tries_258 ml_X11_406 (Nat.le_of_ble_eq_true rfl) (c_jbi ⟨by omega, by omega⟩) ?_
        have hbt258 : 0 ≤ bts a ∧ bts a ≤ 20 := bt_b 20 _
        refine zt_aload_n dX11_tries_261 rfl ?_
        refine zt_get dX11_tries_262 fl_X11_400 (zs_38 hS) ?_
        refine zt_callS1r dX11_tries_265 ml_X11_406 (Nat.le_of_ble_eq_true rfl) (c_jbi ⟨by omega, by omega⟩) ?_
        have hbt265 : 0 ≤ bts (h 38 62) ∧ bts (h 38 62) ≤ 20 := bt_b 20 _
        refine zt_icmp_ge (tgt := 277) dX11_tries_268 (by decide) (by omega) (by omega) (fun c_268 => ?_) (fun c_268 => ?_)
        · refine zt_aload_n dX11_tries_277 rfl ?_
          refine zt_getv dX11_tries_278 fl_X11_137 (zs_38 hS) (rf_38_60 hR) ?_
          refine zt_aload_n dX11_tries_281 rfl ?_
          refine zt_get dX11_tries_282 fl_X11_397 (zs_38 hS) ?_
          refine zt_iload dX11_tries_285 rfl ?_
          refine zt_iastore dX11_tries_287 (zs_79 hS) (by decide) (by omega) (by omega) (by omega) ?_
          refine zt_aload_n dX11_tries_288 rfl ?_
          refine zt_dup dX11_tries_289 (Nat.ne_of_beq_eq_false rfl) ?_
          refine zt_getv (v := h 38 61) dX11_tries_290 fl_X11_397 (zs_38 hS) ((zupA (by decide)).trans rfl) ?_
          refine zt_iconst dX11_tries_293 ?_
          refine zt_iadd dX11_tries_294 ?_
          refine zt_puti dX11_tries_295 fl_X11_397 rfl (zs_38 hS) (by omega) ?_
          exact zt_vret dX11_tries_298 ⟨rfl, rfl, rfl, by rw [hH]; unfold jTr; rw [if_neg (by first | omega | (left; assumption) | (right; assumption))]⟩
        · refine zt_aload_n dX11_tries_271 rfl ?_
          refine zt_iload dX11_tries_272 rfl ?_
          refine zt_puti dX11_tries_274 fl_X11_400 rfl (zs_38 hS) (by omega) ?_
          refine zt_aload_n dX11_tries_277 rfl ?_
          refine zt_getv dX11_tries_278 fl_X11_137 (zs_38 hS) (rf_38_60 (hR.up (by decide))) ?_
          refine zt_aload_n dX11_tries_281 rfl ?_
          refine zt_getv (v := h 38 61) dX11_tries_282 fl_X11_397 (zs_38 hS) ((zupJ (by decide)).trans rfl) ?_
          refine zt_iload dX11_tries_285 rfl ?_
          refine zt_iastore dX11_tries_287 (zs_79 hS) (by decide) (by omega) (by omega) (by omega) ?_
          refine zt_aload_n dX11_tries_288 rfl ?_
          refine zt_dup dX11_tries_289 (Nat.ne_of_beq_eq_false rfl) ?_
          refine zt_getv (v := h 38 61) dX11_tries_290 fl_X11_397 (zs_38 hS) ((zupA (by decide)).trans ((zupJ (by decide)).trans rfl)) ?_
          refine zt_iconst dX11_tries_293 ?_
          refine zt_iadd dX11_tries_294 ?_
          refine zt_puti dX11_tries_295 fl_X11_397 rfl (zs_38 hS) (by omega) ?_
          exact zt_vret dX11_tries_298 ⟨rfl, rfl, rfl, by rw [hH]; unfold jTr; rw [if_pos (by first | omega | (left; assumption) | (right; assumption))]⟩
    · refine zt_aload_n dX11_tries_69 rfl ?_
      refine zt_getv dX11_tries_70 fl_X11_112 (zs_38 hS) (rf_38_51 hR) ?_
      refine zt_iload dX11_tries_73 rfl ?_
      refine zt_iaload dX11_tries_75 (zs_71 hS) (by decide) (by omega) (by omega) ?_
      refine zt_ldc_w dX11_tries_76 kc_X11_283 ?_
      refine zt_icmp_ne (tgt := 85) dX11_tries_79 (by decide) (by rcases hr1 i h0 (by omega) with q | q <;> omega) (by decide) (fun c_79 => ?_) (fun c_79 => ?_)
      · have hyi : -999999 ≤ h 71 i ∧ h 71 i ≤ 999999 := by rcases hr1 i h0 (by omega) with q | q; exact absurd q c_79; exact q
        have hcb : -200000000000000 ≤ cP4 p0 p1 p2 p3 y0 y1 y2 y3 i ∧ cP4 p0 p1 p2 p3 y0 y1 y2 y3 i ≤ 200000000000000 := hPb i ⟨h0, by omega⟩
        have hm1 := zmb2 (x := h 71 i) (y := cV4 p0 p1 p2 p3) (A := 999999) (B := 47045881) hyi ⟨by omega, by omega⟩ rfl
        have hm2 := zmb2 (x := e) (y := cV4 p0 p1 p2 p3) (A := 9) (B := 47045881) ⟨by omega, by omega⟩ ⟨by omega, by omega⟩ rfl
        have hpm := zpw_le (show i.toNat ≤ 19 by omega)
        have hpp := zpw_pos i.toNat
        have hab := hpN_b (q := qm (h 71) e [p0, p1, p2, p3]) (g := h 71) i.toNat
        rw [← ha] at hab
        refine zt_lconst (v := 0) dX11_tries_85 rfl ?_
        refine zt_lstore_7 dX11_tries_86 (by decide) rfl ?_
        refine zt_iconst dX11_tries_88 ?_
        refine zt_istore_9 dX11_tries_89 (by decide) rfl ?_
        refine zt_iload dX11_tries_91 rfl ?_
        refine zt_iload_n dX11_tries_93 rfl ?_
        refine zt_icmp_gt (tgt := 197) dX11_tries_94 (by decide) (by decide) (by decide) (fun q => absurd q (by decide)) (fun c_94 => ?_)
        refine zt_lconst (v := 1) dX11_tries_97 rfl ?_
        refine zt_lstore_10 dX11_tries_98 (by decide) rfl ?_
        refine zt_lconst (v := 1) dX11_tries_100 rfl ?_
        refine zt_lstore_12 dX11_tries_101 (by decide) rfl ?_
        refine zt_iconst dX11_tries_103 ?_
        refine zt_istore_14 dX11_tries_104 (by decide) rfl ?_
        refine zt_iload dX11_tries_106 rfl ?_
        refine zt_iload_n dX11_tries_108 rfl ?_
        refine zt_icmp_gt (tgt := 165) dX11_tries_109 (by decide) (by decide) (by decide) (fun q => absurd q (by decide)) (fun c_109 => ?_)
        refine zt_iload dX11_tries_112 rfl ?_
        refine zt_iload dX11_tries_114 rfl ?_
        refine zt_icmp_ne (tgt := 122) dX11_tries_116 (by decide) (by decide) (by decide) (fun q => absurd q (by decide)) (fun c_116 => ?_)
        refine zt_goto (tgt := 159) dX11_tries_119 (by decide) ?_
        refine zt_iincv_14 (v := 1) dX11_tries_159 (by decide) rfl (by decide) ?_
        refine zt_goto (tgt := 106) dX11_tries_162 (by decide) ?_
        refine zt_iload dX11_tries_106 rfl ?_
        refine zt_iload_n dX11_tries_108 rfl ?_
        refine zt_icmp_gt (tgt := 165) dX11_tries_109 (by decide) (by decide) (by decide) (fun q => absurd q (by decide)) (fun c_109 => ?_)
        refine zt_iload dX11_tries_112 rfl ?_
        refine zt_iload dX11_tries_114 rfl ?_
        refine zt_icmp_ne (tgt := 122) dX11_tries_116 (by decide) (by decide) (by decide) (fun c_116 => ?_) (fun q => absurd q (by decide))
        refine zt_lload dX11_tries_122 rfl ?_
        refine zt_iload dX11_tries_124 rfl ?_
        refine zt_aload_n dX11_tries_126 rfl ?_
        refine zt_getv dX11_tries_127 fl_X11_131 (zs_38 hS) (rf_38_58 hR) ?_
        refine zt_iload dX11_tries_130 rfl ?_
        refine zt_ialoadv (v := p1) dX11_tries_132 (zs_77 hS) (by decide) (by decide) (by decide) hp1 ?_
        refine zt_isub dX11_tries_133 ?_
        refine zt_i2l dX11_tries_134 (by omega) ?_
        refine zt_lmul dX11_tries_135 ?_
        refine zt_lstore_10 dX11_tries_136 (by decide) rfl ?_
        refine zt_lload dX11_tries_138 rfl ?_
        refine zt_aload_n dX11_tries_140 rfl ?_
        refine zt_getv dX11_tries_141 fl_X11_131 (zs_38 hS) (rf_38_58 hR) ?_
        refine zt_iload dX11_tries_144 rfl ?_
        refine zt_ialoadv (v := p0) dX11_tries_146 (zs_77 hS) (by decide) (by decide) (by decide) hp0 ?_
        refine zt_aload_n dX11_tries_147 rfl ?_
        refine zt_getv dX11_tries_148 fl_X11_131 (zs_38 hS) (rf_38_58 hR) ?_
        refine zt_iload dX11_tries_151 rfl ?_
        refine zt_ialoadv (v := p1) dX11_tries_153 (zs_77 hS) (by decide) (by decide) (by decide) hp1 ?_
        refine zt_isub dX11_tries_154 ?_
        refine zt_i2l dX11_tries_155 (by omega) ?_
        refine zt_lmul dX11_tries_156 ?_
        refine zt_lstore_12 dX11_tries_157 (by decide) rfl ?_
        refine zt_iincv_14 (v := 2) dX11_tries_159 (by decide) rfl (by decide) ?_
        refine zt_goto (tgt := 106) dX11_tries_162 (by decide) ?_
        refine zt_iload dX11_tries_106 rfl ?_
        refine zt_iload_n dX11_tries_108 rfl ?_
        refine zt_icmp_gt (tgt := 165) dX11_tries_109 (by decide) (by decide) (by decide) (fun q => absurd q (by decide)) (fun c_109 => ?_)
        refine zt_iload dX11_tries_112 rfl ?_
        refine zt_iload dX11_tries_114 rfl ?_
        refine zt_icmp_ne (tgt := 122) dX11_tries_116 (by decide) (by decide) (by decide) (fun c_116 => ?_) (fun q => absurd q (by decide))
        refine zt_lload dX11_tries_122 rfl ?_
        refine zt_iload dX11_tries_124 rfl ?_
        refine zt_aload_n dX11_tries_126 rfl ?_
        refine zt_getv dX11_tries_127 fl_X11_131 (zs_38 hS) (rf_38_58 hR) ?_
        refine zt_iload dX11_tries_130 rfl ?_
        refine zt_ialoadv (v := p2) dX11_tries_132 (zs_77 hS) (by decide) (by decide) (by decide) hp2 ?_
        refine zt_isub dX11_tries_133 ?_
        refine zt_i2l dX11_tries_134 (by omega) ?_
        refine zt_lmul dX11_tries_135 ?_
        refine zt_lstore_10 dX11_tries_136 (by decide) rfl ?_
        refine zt_lload dX11_tries_138 rfl ?_
        refine zt_aload_n dX11_tries_140 rfl ?_
        refine zt_getv dX11_tries_141 fl_X11_131 (zs_38 hS) (rf_38_58 hR) ?_
        refine zt_iload dX11_tries_144 rfl ?_
        refine zt_ialoadv (v := p0) dX11_tries_146 (zs_77 hS) (by decide) (by decide) (by decide) hp0 ?_
        refine zt_aload_n dX11_tries_147 rfl ?_
        refine zt_getv dX11_tries_148 fl_X11_131 (zs_38 hS) (rf_38_58 hR) ?_
        refine zt_iload dX11_tries_151 rfl ?_
        refine zt_ialoadv (v := p2) dX11_tries_153 (zs_77 hS) (by decide) (by decide) (by decide) hp2 ?_
        refine zt_isub dX11_tries_154 ?_
        refine zt_i2l dX11_tries_155 (by omega) ?_
        refine zt_lmul dX11_tries_156 ?_
        refine zt_lstore_12 dX11_tries_157 (by decide) rfl ?_
        refine zt_iincv_14 (v := 3) dX11_tries_159 (by decide) rfl (by decide) ?_
        refine zt_goto (tgt := 106) dX11_tries_162 (by decide) ?_
        refine zt_iload dX11_tries_106 rfl ?_
        refine zt_iload_n dX11_tries_108 rfl ?_
        refine zt_icmp_gt (tgt := 165) dX11_tries_109 (by decide) (by decide) (by decide) (fun q => absurd q (by decide)) (fun c_109 => ?_)
        refine zt_iload dX11_tries_112 rfl ?_
        refine zt_iload dX11_tries_114 rfl ?_
        refine zt_icmp_ne (tgt := 122) dX11_tries_116 (by decide) (by decide) (by decide) (fun c_116 => ?_) (fun q => absurd q (by decide))
        refine zt_lload dX11_tries_122 rfl ?_
        refine zt_iload dX11_tries_124 rfl ?_
        refine zt_aload_n dX11_tries_126 rfl ?_
        refine zt_getv dX11_tries_127 fl_X11_131 (zs_38 hS) (rf_38_58 hR) ?_
        refine zt_iload dX11_tries_130 rfl ?_
        refine zt_ialoadv (v := p3) dX11_tries_132 (zs_77 hS) (by decide) (by decide) (by decide) hp3 ?_
        refine zt_isub dX11_tries_133 ?_
        refine zt_i2l dX11_tries_134 (by omega) ?_
        refine zt_lmul dX11_tries_135 ?_
        refine zt_lstore_10 dX11_tries_136 (by decide) rfl ?_
        refine zt_lload dX11_tries_138 rfl ?_
        refine zt_aload_n dX11_tries_140 rfl ?_
        refine zt_getv dX11_tries_141 fl_X11_131 (zs_38 hS) (rf_38_58 hR) ?_
        refine zt_iload dX11_tries_144 rfl ?_
        refine zt_ialoadv (v := p0) dX11_tries_146 (zs_77 hS) (by decide) (by decide) (by decide) hp0 ?_
        refine zt_aload_n dX11_tries_147 rfl ?_
        refine zt_getv dX11_tries_148 fl_X11_131 (zs_38 hS) (rf_38_58 hR) ?_
        refine zt_iload dX11_tries_151 rfl ?_
        refine zt_ialoadv (v := p3) dX11_tries_153 (zs_77 hS) (by decide) (by decide) (by decide) hp3 ?_
        refine zt_isub dX11_tries_154 ?_
        refine zt_i2l dX11_tries_155 (by omega) ?_
        refine zt_lmul dX11_tries_156 ?_
        refine zt_lstore_12 dX11_tries_157 (by decide) rfl ?_
        refine zt_iincv_14 (v := 4) dX11_tries_159 (by decide) rfl (by decide) ?_
        refine zt_goto (tgt := 106) dX11_tries_162 (by decide) ?_
        refine zt_iload dX11_tries_106 rfl ?_
        refine zt_iload_n dX11_tries_108 rfl ?_
        refine zt_icmp_gt (tgt := 165) dX11_tries_109 (by decide) (by decide) (by decide) (fun c_109 => ?_) (fun q => absurd q (by decide))
        refine zt_lload dX11_tries_165 rfl ?_
        refine zt_aload_n dX11_tries_167 rfl ?_
        refine zt_getv dX11_tries_168 fl_X11_112 (zs_38 hS) (rf_38_51 hR) ?_
        refine zt_aload_n dX11_tries_171 rfl ?_
        refine zt_getv dX11_tries_172 fl_X11_131 (zs_38 hS) (rf_38_58 hR) ?_
        refine zt_iload dX11_tries_175 rfl ?_
        refine zt_ialoadv (v := p0) dX11_tries_177 (zs_77 hS) (by decide) (by decide) (by decide) hp0 ?_
        refine zt_ialoadv (v := y0) dX11_tries_178 (zs_71 hS) (by decide) (by omega) (by omega) hy0 ?_
        refine zt_i2l dX11_tries_179 (by omega) ?_
        refine zt_lload dX11_tries_180 rfl ?_
        refine zt_lmul dX11_tries_182 ?_
        refine zt_lload_n dX11_tries_183 rfl ?_
        refine zt_lload dX11_tries_184 rfl ?_
        have hdb0 : -6859 ≤ ((1 * (p0 - p1)) * (p0 - p2)) * (p0 - p3) ∧ ((1 * (p0 - p1)) * (p0 - p2)) * (p0 - p3) ≤ 6859 := (zmb2 (zmb2 (zmb2 zb11 (show -19 ≤ p0 - p1 ∧ p0 - p1 ≤ 19 by omega) rfl) (show -19 ≤ p0 - p2 ∧ p0 - p2 ≤ 19 by omega) rfl) (show -19 ≤ p0 - p3 ∧ p0 - p3 ≤ 19 by omega) rfl)
        have hdn0 : ((1 * (p0 - p1)) * (p0 - p2)) * (p0 - p3) ≠ 0 := fun z => by have z2 := lid4_0 (p0 := p0) (p1 := p1) (p2 := p2) (p3 := p3); rw [z, Int.mul_zero] at z2; omega
        refine zt_ldiv dX11_tries_186 (by omega) (by omega) hdn0 ?_
        refine zt_topv (v := -(((1 * (p2 - p1)) * (p3 - p1)) * (p3 - p2))) (zex (show cV4 p0 p1 p2 p3 = _ from lid4_0) hdn0) ?_
        refine zt_lmul dX11_tries_187 ?_
        refine zt_ladd dX11_tries_188 ?_
        refine zt_lstore_7 dX11_tries_189 (by decide) rfl ?_
        refine zt_iincv_9 (v := 1) dX11_tries_191 (by decide) rfl (by decide) ?_
        refine zt_goto (tgt := 91) dX11_tries_194 (by decide) ?_
        refine zt_iload dX11_tries_91 rfl ?_
        refine zt_iload_n dX11_tries_93 rfl ?_
        refine zt_icmp_gt (tgt := 197) dX11_tries_94 (by decide) (by decide) (by decide) (fun q => absurd q (by decide)) (fun c_94 => ?_)
        refine zt_lconst (v := 1) dX11_tries_97 rfl ?_
        refine zt_lstore_10 dX11_tries_98 (by decide) rfl ?_
        refine zt_lconst (v := 1) dX11_tries_100 rfl ?_
        refine zt_lstore_12 dX11_tries_101 (by decide) rfl ?_
        refine zt_iconst dX11_tries_103 ?_
        refine zt_istore_14 dX11_tries_104 (by decide) rfl ?_
        refine zt_iload dX11_tries_106 rfl ?_
        refine zt_iload_n dX11_tries_108 rfl ?_
        refine zt_icmp_gt (tgt := 165) dX11_tries_109 (by decide) (by decide) (by decide) (fun q => absurd q (by decide)) (fun c_109 => ?_)
        refine zt_iload dX11_tries_112 rfl ?_
        refine zt_iload dX11_tries_114 rfl ?_
        refine zt_icmp_ne (tgt := 122) dX11_tries_116 (by decide) (by decide) (by decide) (fun c_116 => ?_) (fun q => absurd q (by decide))
        refine zt_lload dX11_tries_122 rfl ?_
        refine zt_iload dX11_tries_124 rfl ?_
        refine zt_aload_n dX11_tries_126 rfl ?_
        refine zt_getv dX11_tries_127 fl_X11_131 (zs_38 hS) (rf_38_58 hR) ?_
        refine zt_iload dX11_tries_130 rfl ?_
        refine zt_ialoadv (v := p0) dX11_tries_132 (zs_77 hS) (by decide) (by decide) (by decide) hp0 ?_
        refine zt_isub dX11_tries_133 ?_
        refine zt_i2l dX11_tries_134 (by omega) ?_
        refine zt_lmul dX11_tries_135 ?_
        refine zt_lstore_10 dX11_tries_136 (by decide) rfl ?_
        refine zt_lload dX11_tries_138 rfl ?_
        refine zt_aload_n dX11_tries_140 rfl ?_
        refine zt_getv dX11_tries_141 fl_X11_131 (zs_38 hS) (rf_38_58 hR) ?_
        refine zt_iload dX11_tries_144 rfl ?_
        refine zt_ialoadv (v := p1) dX11_tries_146 (zs_77 hS) (by decide) (by decide) (by decide) hp1 ?_
        refine zt_aload_n dX11_tries_147 rfl ?_
        refine zt_getv dX11_tries_148 fl_X11_131 (zs_38 hS) (rf_38_58 hR) ?_
        refine zt_iload dX11_tries_151 rfl ?_
        refine zt_ialoadv (v := p0) dX11_tries_153 (zs_77 hS) (by decide) (by decide) (by decide) hp0 ?_
        refine zt_isub dX11_tries_154 ?_
        refine zt_i2l dX11_tries_155 (by omega) ?_
        refine zt_lmul dX11_tries_156 ?_
        refine zt_lstore_12 dX11_tries_157 (by decide) rfl ?_
        refine zt_iincv_14 (v := 1) dX11_tries_159 (by decide) rfl (by decide) ?_
        refine zt_goto (tgt := 106) dX11_tries_162 (by decide) ?_
        refine zt_iload dX11_tries_106 rfl ?_
        refine zt_iload_n dX11_tries_108 rfl ?_
        refine zt_icmp_gt (tgt := 165) dX11_tries_109 (by decide) (by decide) (by decide) (fun q => absurd q (by decide)) (fun c_109 => ?_)
        refine zt_iload dX11_tries_112 rfl ?_
        refine zt_iload dX11_tries_114 rfl ?_
        refine zt_icmp_ne (tgt := 122) dX11_tries_116 (by decide) (by decide) (by decide) (fun q => absurd q (by decide)) (fun c_116 => ?_)
        refine zt_goto (tgt := 159) dX11_tries_119 (by decide) ?_
        refine zt_iincv_14 (v := 2) dX11_tries_159 (by decide) rfl (by decide) ?_
        refine zt_goto (tgt := 106) dX11_tries_162 (by decide) ?_
        refine zt_iload dX11_tries_106 rfl ?_
        refine zt_iload_n dX11_tries_108 rfl ?_
        refine zt_icmp_gt (tgt := 165) dX11_tries_109 (by decide) (by decide) (by decide) (fun q => absurd q (by decide)) (fun c_109 => ?_)
        refine zt_iload dX11_tries_112 rfl ?_
        refine zt_iload dX11_tries_114 rfl ?_
        refine zt_icmp_ne (tgt := 122) dX11_tries_116 (by decide) (by decide) (by decide) (fun c_116 => ?_) (fun q => absurd q (by decide))
        refine zt_lload dX11_tries_122 rfl ?_
        refine zt_iload dX11_tries_124 rfl ?_
        refine zt_aload_n dX11_tries_126 rfl ?_
        refine zt_getv dX11_tries_127 fl_X11_131 (zs_38 hS) (rf_38_58 hR) ?_
        refine zt_iload dX11_tries_130 rfl ?_
        refine zt_ialoadv (v := p2) dX11_tries_132 (zs_77 hS) (by decide) (by decide) (by decide) hp2 ?_
        refine zt_isub dX11_tries_133 ?_
        refine zt_i2l dX11_tries_134 (by omega) ?_
        refine zt_lmul dX11_tries_135 ?_
        refine zt_lstore_10 dX11_tries_136 (by decide) rfl ?_
        refine zt_lload dX11_tries_138 rfl ?_
        refine zt_aload_n dX11_tries_140 rfl ?_
        refine zt_getv dX11_tries_141 fl_X11_131 (zs_38 hS) (rf_38_58 hR) ?_
        refine zt_iload dX11_tries_144 rfl ?_
        refine zt_ialoadv (v := p1) dX11_tries_146 (zs_77 hS) (by decide) (by decide) (by decide) hp1 ?_
        refine zt_aload_n dX11_tries_147 rfl ?_
        refine zt_getv dX11_tries_148 fl_X11_131 (zs_38 hS) (rf_38_58 hR) ?_
        refine zt_iload dX11_tries_151 rfl ?_
        refine zt_ialoadv (v := p2) dX11_tries_153 (zs_77 hS) (by decide) (by decide) (by decide) hp2 ?_
        refine zt_isub dX11_tries_154 ?_
        refine zt_i2l dX11_tries_155 (by omega) ?_
        refine zt_lmul dX11_tries_156 ?_
        refine zt_lstore_12 dX11_tries_157 (by decide) rfl ?_
        refine zt_iincv_14 (v := 3) dX11_tries_159 (by decide) rfl (by decide) ?_
        refine zt_goto (tgt := 106) dX11_tries_162 (by decide) ?_
        refine zt_iload dX11_tries_106 rfl ?_
        refine zt_iload_n dX11_tries_108 rfl ?_
        refine zt_icmp_gt (tgt := 165) dX11_tries_109 (by decide) (by decide) (by decide) (fun q => absurd q (by decide)) (fun c_109 => ?_)
        refine zt_iload dX11_tries_112 rfl ?_
        refine zt_iload dX11_tries_114 rfl ?_
        refine zt_icmp_ne (tgt := 122) dX11_tries_116 (by decide) (by decide) (by decide) (fun c_116 => ?_) (fun q => absurd q (by decide))
        refine zt_lload dX11_tries_122 rfl ?_
        refine zt_iload dX11_tries_124 rfl ?_
        refine zt_aload_n dX11_tries_126 rfl ?_
        refine zt_getv dX11_tries_127 fl_X11_131 (zs_38 hS) (rf_38_58 hR) ?_
        refine zt_iload dX11_tries_130 rfl ?_
        refine zt_ialoadv (v := p3) dX11_tries_132 (zs_77 hS) (by decide) (by decide) (by decide) hp3 ?_
        refine zt_isub dX11_tries_133 ?_
        refine zt_i2l dX11_tries_134 (by omega) ?_
        refine zt_lmul dX11_tries_135 ?_
        refine zt_lstore_10 dX11_tries_136 (by decide) rfl ?_
        refine zt_lload dX11_tries_138 rfl ?_
        refine zt_aload_n dX11_tries_140 rfl ?_
        refine zt_getv dX11_tries_141 fl_X11_131 (zs_38 hS) (rf_38_58 hR) ?_
        refine zt_iload dX11_tries_144 rfl ?_
        refine zt_ialoadv (v := p1) dX11_tries_146 (zs_77 hS) (by decide) (by decide) (by decide) hp1 ?_
        refine zt_aload_n dX11_tries_147 rfl ?_
        refine zt_getv dX11_tries_148 fl_X11_131 (zs_38 hS) (rf_38_58 hR) ?_
        refine zt_iload dX11_tries_151 rfl ?_
        refine zt_ialoadv (v := p3) dX11_tries_153 (zs_77 hS) (by decide) (by decide) (by decide) hp3 ?_
        refine zt_isub dX11_tries_154 ?_
        refine zt_i2l dX11_tries_155 (by omega) ?_
        refine zt_lmul dX11_tries_156 ?_
        refine zt_lstore_12 dX11_tries_157 (by decide) rfl ?_
        refine zt_iincv_14 (v := 4) dX11_tries_159 (by decide) rfl (by decide) ?_
        refine zt_goto (tgt := 106) dX11_tries_162 (by decide) ?_
        refine zt_iload dX11_tries_106 rfl ?_
        refine zt_iload_n dX11_tries_108 rfl ?_
        refine zt_icmp_gt (tgt := 165) dX11_tries_109 (by decide) (by decide) (by decide) (fun c_109 => ?_) (fun q => absurd q (by decide))
        refine zt_lload dX11_tries_165 rfl ?_
        refine zt_aload_n dX11_tries_167 rfl ?_
        refine zt_getv dX11_tries_168 fl_X11_112 (zs_38 hS) (rf_38_51 hR) ?_
        refine zt_aload_n dX11_tries_171 rfl ?_
        refine zt_getv dX11_tries_172 fl_X11_131 (zs_38 hS) (rf_38_58 hR) ?_
        refine zt_iload dX11_tries_175 rfl ?_
        refine zt_ialoadv (v := p1) dX11_tries_177 (zs_77 hS) (by decide) (by decide) (by decide) hp1 ?_
        refine zt_ialoadv (v := y1) dX11_tries_178 (zs_71 hS) (by decide) (by omega) (by omega) hy1 ?_
        refine zt_i2l dX11_tries_179 (by omega) ?_
        refine zt_lload dX11_tries_180 rfl ?_
        refine zt_lmul dX11_tries_182 ?_
        refine zt_lload_n dX11_tries_183 rfl ?_
        refine zt_lload dX11_tries_184 rfl ?_
        have hdb1 : -6859 ≤ ((1 * (p1 - p0)) * (p1 - p2)) * (p1 - p3) ∧ ((1 * (p1 - p0)) * (p1 - p2)) * (p1 - p3) ≤ 6859 := (zmb2 (zmb2 (zmb2 zb11 (show -19 ≤ p1 - p0 ∧ p1 - p0 ≤ 19 by omega) rfl) (show -19 ≤ p1 - p2 ∧ p1 - p2 ≤ 19 by omega) rfl) (show -19 ≤ p1 - p3 ∧ p1 - p3 ≤ 19 by omega) rfl)
        have hdn1 : ((1 * (p1 - p0)) * (p1 - p2)) * (p1 - p3) ≠ 0 := fun z => by have z2 := lid4_1 (p0 := p0) (p1 := p1) (p2 := p2) (p3 := p3); rw [z, Int.mul_zero] at z2; omega
        refine zt_ldiv dX11_tries_186 (by omega) (by omega) hdn1 ?_
        refine zt_topv (v := ((1 * (p2 - p0)) * (p3 - p0)) * (p3 - p2)) (zex (show cV4 p0 p1 p2 p3 = _ from lid4_1) hdn1) ?_
        refine zt_lmul dX11_tries_187 ?_
        refine zt_ladd dX11_tries_188 ?_
        refine zt_lstore_7 dX11_tries_189 (by decide) rfl ?_
        refine zt_iincv_9 (v := 2) dX11_tries_191 (by decide) rfl (by decide) ?_
        refine zt_goto (tgt := 91) dX11_tries_194 (by decide) ?_
        refine zt_iload dX11_tries_91 rfl ?_
        refine zt_iload_n dX11_tries_93 rfl ?_
        refine zt_icmp_gt (tgt := 197) dX11_tries_94 (by decide) (by decide) (by decide) (fun q => absurd q (by decide)) (fun c_94 => ?_)
        refine zt_lconst (v := 1) dX11_tries_97 rfl ?_
        refine zt_lstore_10 dX11_tries_98 (by decide) rfl ?_
        refine zt_lconst (v := 1) dX11_tries_100 rfl ?_
        refine zt_lstore_12 dX11_tries_101 (by decide) rfl ?_
        refine zt_iconst dX11_tries_103 ?_
        refine zt_istore_14 dX11_tries_104 (by decide) rfl ?_
        refine zt_iload dX11_tries_106 rfl ?_
        refine zt_iload_n dX11_tries_108 rfl ?_
        refine zt_icmp_gt (tgt := 165) dX11_tries_109 (by decide) (by decide) (by decide) (fun q => absurd q (by decide)) (fun c_109 => ?_)
        refine zt_iload dX11_tries_112 rfl ?_
        refine zt_iload dX11_tries_114 rfl ?_
        refine zt_icmp_ne (tgt := 122) dX11_tries_116 (by decide) (by decide) (by decide) (fun c_116 => ?_) (fun q => absurd q (by decide))
        refine zt_lload dX11_tries_122 rfl ?_
        refine zt_iload dX11_tries_124 rfl ?_
        refine zt_aload_n dX11_tries_126 rfl ?_
        refine zt_getv dX11_tries_127 fl_X11_131 (zs_38 hS) (rf_38_58 hR) ?_
        refine zt_iload dX11_tries_130 rfl ?_
        refine zt_ialoadv (v := p0) dX11_tries_132 (zs_77 hS) (by decide) (by decide) (by decide) hp0 ?_
        refine zt_isub dX11_tries_133 ?_
        refine zt_i2l dX11_tries_134 (by omega) ?_
        refine zt_lmul dX11_tries_135 ?_
        refine zt_lstore_10 dX11_tries_136 (by decide) rfl ?_
        refine zt_lload dX11_tries_138 rfl ?_
        refine zt_aload_n dX11_tries_140 rfl ?_
        refine zt_getv dX11_tries_141 fl_X11_131 (zs_38 hS) (rf_38_58 hR) ?_
        refine zt_iload dX11_tries_144 rfl ?_
        refine zt_ialoadv (v := p2) dX11_tries_146 (zs_77 hS) (by decide) (by decide) (by decide) hp2 ?_
        refine zt_aload_n dX11_tries_147 rfl ?_
        refine zt_getv dX11_tries_148 fl_X11_131 (zs_38 hS) (rf_38_58 hR) ?_
        refine zt_iload dX11_tries_151 rfl ?_
        refine zt_ialoadv (v := p0) dX11_tries_153 (zs_77 hS) (by decide) (by decide) (by decide) hp0 ?_
        refine zt_isub dX11_tries_154 ?_
        refine zt_i2l dX11_tries_155 (by omega) ?_
        refine zt_lmul dX11_tries_156 ?_
        refine zt_lstore_12 dX11_tries_157 (by decide) rfl ?_
        refine zt_iincv_14 (v := 1) dX11_tries_159 (by decide) rfl (by decide) ?_
        refine zt_goto (tgt := 106) dX11_tries_162 (by decide) ?_
        refine zt_iload dX11_tries_106 rfl ?_
        refine zt_iload_n dX11_tries_108 rfl ?_
        refine zt_icmp_gt (tgt := 165) dX11_tries_109 (by decide) (by decide) (by decide) (fun q => absurd q (by decide)) (fun c_109 => ?_)
        refine zt_iload dX11_tries_112 rfl ?_
        refine zt_iload dX11_tries_114 rfl ?_
        refine zt_icmp_ne (tgt := 122) dX11_tries_116 (by decide) (by decide) (by decide) (fun c_116 => ?_) (fun q => absurd q (by decide))
        refine zt_lload dX11_tries_122 rfl ?_
        refine zt_iload dX11_tries_124 rfl ?_
        refine zt_aload_n dX11_tries_126 rfl ?_
        refine zt_getv dX11_tries_127 fl_X11_131 (zs_38 hS) (rf_38_58 hR) ?_
        refine zt_iload dX11_tries_130 rfl ?_
        refine zt_ialoadv (v := p1) dX11_tries_132 (zs_77 hS) (by decide) (by decide) (by decide) hp1 ?_
        refine zt_isub dX11_tries_133 ?_
        refine zt_i2l dX11_tries_134 (by omega) ?_
        refine zt_lmul dX11_tries_135 ?_
        refine zt_lstore_10 dX11_tries_136 (by decide) rfl ?_
        refine zt_lload dX11_tries_138 rfl ?_
        refine zt_aload_n dX11_tries_140 rfl ?_
        refine zt_getv dX11_tries_141 fl_X11_131 (zs_38 hS) (rf_38_58 hR) ?_
        refine zt_iload dX11_tries_144 rfl ?_
        refine zt_ialoadv (v := p2) dX11_tries_146 (zs_77 hS) (by decide) (by decide) (by decide) hp2 ?_
        refine zt_aload_n dX11_tries_147 rfl ?_
        refine zt_getv dX11_tries_148 fl_X11_131 (zs_38 hS) (rf_38_58 hR) ?_
        refine zt_iload dX11_tries_151 rfl ?_
        refine zt_ialoadv (v := p1) dX11_tries_153 (zs_77 hS) (by decide) (by decide) (by decide) hp1 ?_
        refine zt_isub dX11_tries_154 ?_
        refine zt_i2l dX11_tries_155 (by omega) ?_
        refine zt_lmul dX11_tries_156 ?_
        refine zt_lstore_12 dX11_tries_157 (by decide) rfl ?_
        refine zt_iincv_14 (v := 2) dX11_tries_159 (by decide) rfl (by decide) ?_
        refine zt_goto (tgt := 106) dX11_tries_162 (by decide) ?_
        refine zt_iload dX11_tries_106 rfl ?_
        refine zt_iload_n dX11_tries_108 rfl ?_
        refine zt_icmp_gt (tgt := 165) dX11_tries_109 (by decide) (by decide) (by decide) (fun q => absurd q (by decide)) (fun c_109 => ?_)
        refine zt_iload dX11_tries_112 rfl ?_
        refine zt_iload dX11_tries_114 rfl ?_
        refine zt_icmp_ne (tgt := 122) dX11_tries_116 (by decide) (by decide) (by decide) (fun q => absurd q (by decide)) (fun c_116 => ?_)
        refine zt_goto (tgt := 159) dX11_tries_119 (by decide) ?_
        refine zt_iincv_14 (v := 3) dX11_tries_159 (by decide) rfl (by decide) ?_
        refine zt_goto (tgt := 106) dX11_tries_162 (by decide) ?_
        refine zt_iload dX11_tries_106 rfl ?_
        refine zt_iload_n dX11_tries_108 rfl ?_
        refine zt_icmp_gt (tgt := 165) dX11_tries_109 (by decide) (by decide) (by decide) (fun q => absurd q (by decide)) (fun c_109 => ?_)
        refine zt_iload dX11_tries_112 rfl ?_
        refine zt_iload dX11_tries_114 rfl ?_
        refine zt_icmp_ne (tgt := 122) dX11_tries_116 (by decide) (by decide) (by decide) (fun c_116 => ?_) (fun q => absurd q (by decide))
        refine zt_lload dX11_tries_122 rfl ?_
        refine zt_iload dX11_tries_124 rfl ?_
        refine zt_aload_n dX11_tries_126 rfl ?_
        refine zt_getv dX11_tries_127 fl_X11_131 (zs_38 hS) (rf_38_58 hR) ?_
        refine zt_iload dX11_tries_130 rfl ?_
        refine zt_ialoadv (v := p3) dX11_tries_132 (zs_77 hS) (by decide) (by decide) (by decide) hp3 ?_
        refine zt_isub dX11_tries_133 ?_
        refine zt_i2l dX11_tries_134 (by omega) ?_
        refine zt_lmul dX11_tries_135 ?_
        refine zt_lstore_10 dX11_tries_136 (by decide) rfl ?_
        refine zt_lload dX11_tries_138 rfl ?_
        refine zt_aload_n dX11_tries_140 rfl ?_
        refine zt_getv dX11_tries_141 fl_X11_131 (zs_38 hS) (rf_38_58 hR) ?_
        refine zt_iload dX11_tries_144 rfl ?_
        refine zt_ialoadv (v := p2) dX11_tries_146 (zs_77 hS) (by decide) (by decide) (by decide) hp2 ?_
        refine zt_aload_n dX11_tries_147 rfl ?_
        refine zt_getv dX11_tries_148 fl_X11_131 (zs_38 hS) (rf_38_58 hR) ?_
        refine zt_iload dX11_tries_151 rfl ?_
        refine zt_ialoadv (v := p3) dX11_tries_153 (zs_77 hS) (by decide) (by decide) (by decide) hp3 ?_
        refine zt_isub dX11_tries_154 ?_
        refine zt_i2l dX11_tries_155 (by omega) ?_
        refine zt_lmul dX11_tries_156 ?_
        refine zt_lstore_12 dX11_tries_157 (by decide) rfl ?_
        refine zt_iincv_14 (v := 4) dX11_tries_159 (by decide) rfl (by decide) ?_
        refine zt_goto (tgt := 106) dX11_tries_162 (by decide) ?_
        refine zt_iload dX11_tries_106 rfl ?_
        refine zt_iload_n dX11_tries_108 rfl ?_
        refine zt_icmp_gt (tgt := 165) dX11_tries_109 (by decide) (by decide) (by decide) (fun c_109 => ?_) (fun q => absurd q (by decide))
        refine zt_lload dX11_tries_165 rfl ?_
        refine zt_aload_n dX11_tries_167 rfl ?_
        refine zt_getv dX11_tries_168 fl_X11_112 (zs_38 hS) (rf_38_51 hR) ?_
        refine zt_aload_n dX11_tries_171 rfl ?_
        refine zt_getv dX11_tries_172 fl_X11_131 (zs_38 hS) (rf_38_58 hR) ?_
        refine zt_iload dX11_tries_175 rfl ?_
        refine zt_ialoadv (v := p2) dX11_tries_177 (zs_77 hS) (by decide) (by decide) (by decide) hp2 ?_
        refine zt_ialoadv (v := y2) dX11_tries_178 (zs_71 hS) (by decide) (by omega) (by omega) hy2 ?_
        refine zt_i2l dX11_tries_179 (by omega) ?_
        refine zt_lload dX11_tries_180 rfl ?_
        refine zt_lmul dX11_tries_182 ?_
        refine zt_lload_n dX11_tries_183 rfl ?_
        refine zt_lload dX11_tries_184 rfl ?_
        have hdb2 : -6859 ≤ ((1 * (p2 - p0)) * (p2 - p1)) * (p2 - p3) ∧ ((1 * (p2 - p0)) * (p2 - p1)) * (p2 - p3) ≤ 6859 := (zmb2 (zmb2 (zmb2 zb11 (show -19 ≤ p2 - p0 ∧ p2 - p0 ≤ 19 by omega) rfl) (show -19 ≤ p2 - p1 ∧ p2 - p1 ≤ 19 by omega) rfl) (show -19 ≤ p2 - p3 ∧ p2 - p3 ≤ 19 by omega) rfl)
        have hdn2 : ((1 * (p2 - p0)) * (p2 - p1)) * (p2 - p3) ≠ 0 := fun z => by have z2 := lid4_2 (p0 := p0) (p1 := p1) (p2 := p2) (p3 := p3); rw [z, Int.mul_zero] at z2; omega
        refine zt_ldiv dX11_tries_186 (by omega) (by omega) hdn2 ?_
        refine zt_topv (v := -(((1 * (p1 - p0)) * (p3 - p0)) * (p3 - p1))) (zex (show cV4 p0 p1 p2 p3 = _ from lid4_2) hdn2) ?_
        refine zt_lmul dX11_tries_187 ?_
        refine zt_ladd dX11_tries_188 ?_
        refine zt_lstore_7 dX11_tries_189 (by decide) rfl ?_
        refine zt_iincv_9 (v := 3) dX11_tries_191 (by decide) rfl (by decide) ?_
        refine zt_goto (tgt := 91) dX11_tries_194 (by decide) ?_
        refine zt_iload dX11_tries_91 rfl ?_
        refine zt_iload_n dX11_tries_93 rfl ?_
        refine zt_icmp_gt (tgt := 197) dX11_tries_94 (by decide) (by decide) (by decide) (fun q => absurd q (by decide)) (fun c_94 => ?_)
        refine zt_lconst (v := 1) dX11_tries_97 rfl ?_
        refine zt_lstore_10 dX11_tries_98 (by decide) rfl ?_
        refine zt_lconst (v := 1) dX11_tries_100 rfl ?_
        refine zt_lstore_12 dX11_tries_101 (by decide) rfl ?_
        refine zt_iconst dX11_tries_103 ?_
        refine zt_istore_14 dX11_tries_104 (by decide) rfl ?_
        refine zt_iload dX11_tries_106 rfl ?_
        refine zt_iload_n dX11_tries_108 rfl ?_
        refine zt_icmp_gt (tgt := 165) dX11_tries_109 (by decide) (by decide) (by decide) (fun q => absurd q (by decide)) (fun c_109 => ?_)
        refine zt_iload dX11_tries_112 rfl ?_
        refine zt_iload dX11_tries_114 rfl ?_
        refine zt_icmp_ne (tgt := 122) dX11_tries_116 (by decide) (by decide) (by decide) (fun c_116 => ?_) (fun q => absurd q (by decide))
        refine zt_lload dX11_tries_122 rfl ?_
        refine zt_iload dX11_tries_124 rfl ?_
        refine zt_aload_n dX11_tries_126 rfl ?_
        refine zt_getv dX11_tries_127 fl_X11_131 (zs_38 hS) (rf_38_58 hR) ?_
        refine zt_iload dX11_tries_130 rfl ?_
        refine zt_ialoadv (v := p0) dX11_tries_132 (zs_77 hS) (by decide) (by decide) (by decide) hp0 ?_
        refine zt_isub dX11_tries_133 ?_
        refine zt_i2l dX11_tries_134 (by omega) ?_
        refine zt_lmul dX11_tries_135 ?_
        refine zt_lstore_10 dX11_tries_136 (by decide) rfl ?_
        refine zt_lload dX11_tries_138 rfl ?_
        refine zt_aload_n dX11_tries_140 rfl ?_
        refine zt_getv dX11_tries_141 fl_X11_131 (zs_38 hS) (rf_38_58 hR) ?_
        refine zt_iload dX11_tries_144 rfl ?_
        refine zt_ialoadv (v := p3) dX11_tries_146 (zs_77 hS) (by decide) (by decide) (by decide) hp3 ?_
        refine zt_aload_n dX11_tries_147 rfl ?_
        refine zt_getv dX11_tries_148 fl_X11_131 (zs_38 hS) (rf_38_58 hR) ?_
        refine zt_iload dX11_tries_151 rfl ?_
        refine zt_ialoadv (v := p0) dX11_tries_153 (zs_77 hS) (by decide) (by decide) (by decide) hp0 ?_
        refine zt_isub dX11_tries_154 ?_
        refine zt_i2l dX11_tries_155 (by omega) ?_
        refine zt_lmul dX11_tries_156 ?_
        refine zt_lstore_12 dX11_tries_157 (by decide) rfl ?_
        refine zt_iincv_14 (v := 1) dX11_tries_159 (by decide) rfl (by decide) ?_
        refine zt_goto (tgt := 106) dX11_tries_162 (by decide) ?_
        refine zt_iload dX11_tries_106 rfl ?_
        refine zt_iload_n dX11_tries_108 rfl ?_
        refine zt_icmp_gt (tgt := 165) dX11_tries_109 (by decide) (by decide) (by decide) (fun q => absurd q (by decide)) (fun c_109 => ?_)
        refine zt_iload dX11_tries_112 rfl ?_
        refine zt_iload dX11_tries_114 rfl ?_
        refine zt_icmp_ne (tgt := 122) dX11_tries_116 (by decide) (by decide) (by decide) (fun c_116 => ?_) (fun q => absurd q (by decide))
        refine zt_lload dX11_tries_122 rfl ?_
        refine zt_iload dX11_tries_124 rfl ?_
        refine zt_aload_n dX11_tries_126 rfl ?_
        refine zt_getv dX11_tries_127 fl_X11_131 (zs_38 hS) (rf_38_58 hR) ?_
        refine zt_iload dX11_tries_130 rfl ?_
        refine zt_ialoadv (v := p1) dX11_tries_132 (zs_77 hS) (by decide) (by decide) (by decide) hp1 ?_
        refine zt_isub dX11_tries_133 ?_
        refine zt_i2l dX11_tries_134 (by omega) ?_
        refine zt_lmul dX11_tries_135 ?_
        refine zt_lstore_10 dX11_tries_136 (by decide) rfl ?_
        refine zt_lload dX11_tries_138 rfl ?_
        refine zt_aload_n dX11_tries_140 rfl ?_
        refine zt_getv dX11_tries_141 fl_X11_131 (zs_38 hS) (rf_38_58 hR) ?_
        refine zt_iload dX11_tries_144 rfl ?_
        refine zt_ialoadv (v := p3) dX11_tries_146 (zs_77 hS) (by decide) (by decide) (by decide) hp3 ?_
        refine zt_aload_n dX11_tries_147 rfl ?_
        refine zt_getv dX11_tries_148 fl_X11_131 (zs_38 hS) (rf_38_58 hR) ?_
        refine zt_iload dX11_tries_151 rfl ?_
        refine zt_ialoadv (v := p1) dX11_tries_153 (zs_77 hS) (by decide) (by decide) (by decide) hp1 ?_
        refine zt_isub dX11_tries_154 ?_
        refine zt_i2l dX11_tries_155 (by omega) ?_
        refine zt_lmul dX11_tries_156 ?_
        refine zt_lstore_12 dX11_tries_157 (by decide) rfl ?_
        refine zt_iincv_14 (v := 2) dX11_tries_159 (by decide) rfl (by decide) ?_
        refine zt_goto (tgt := 106) dX11_tries_162 (by decide) ?_
        refine zt_iload dX11_tries_106 rfl ?_
        refine zt_iload_n dX11_tries_108 rfl ?_
        refine zt_icmp_gt (tgt := 165) dX11_tries_109 (by decide) (by decide) (by decide) (fun q => absurd q (by decide)) (fun c_109 => ?_)
        refine zt_iload dX11_tries_112 rfl ?_
        refine zt_iload dX11_tries_114 rfl ?_
        refine zt_icmp_ne (tgt := 122) dX11_tries_116 (by decide) (by decide) (by decide) (fun c_116 => ?_) (fun q => absurd q (by decide))
        refine zt_lload dX11_tries_122 rfl ?_
        refine zt_iload dX11_tries_124 rfl ?_
        refine zt_aload_n dX11_tries_126 rfl ?_
        refine zt_getv dX11_tries_127 fl_X11_131 (zs_38 hS) (rf_38_58 hR) ?_
        refine zt_iload dX11_tries_130 rfl ?_
        refine zt_ialoadv (v := p2) dX11_tries_132 (zs_77 hS) (by decide) (by decide) (by decide) hp2 ?_
        refine zt_isub dX11_tries_133 ?_
        refine zt_i2l dX11_tries_134 (by omega) ?_
        refine zt_lmul dX11_tries_135 ?_
        refine zt_lstore_10 dX11_tries_136 (by decide) rfl ?_
        refine zt_lload dX11_tries_138 rfl ?_
        refine zt_aload_n dX11_tries_140 rfl ?_
        refine zt_getv dX11_tries_141 fl_X11_131 (zs_38 hS) (rf_38_58 hR) ?_
        refine zt_iload dX11_tries_144 rfl ?_
        refine zt_ialoadv (v := p3) dX11_tries_146 (zs_77 hS) (by decide) (by decide) (by decide) hp3 ?_
        refine zt_aload_n dX11_tries_147 rfl ?_
        refine zt_getv dX11_tries_148 fl_X11_131 (zs_38 hS) (rf_38_58 hR) ?_
        refine zt_iload dX11_tries_151 rfl ?_
        refine zt_ialoadv (v := p2) dX11_tries_153 (zs_77 hS) (by decide) (by decide) (by decide) hp2 ?_
        refine zt_isub dX11_tries_154 ?_
        refine zt_i2l dX11_tries_155 (by omega) ?_
        refine zt_lmul dX11_tries_156 ?_
        refine zt_lstore_12 dX11_tries_157 (by decide) rfl ?_
        refine zt_iincv_14 (v := 3) dX11_tries_159 (by decide) rfl (by decide) ?_
        refine zt_goto (tgt := 106) dX11_tries_162 (by decide) ?_
        refine zt_iload dX11_tries_106 rfl ?_
        refine zt_iload_n dX11_tries_108 rfl ?_
        refine zt_icmp_gt (tgt := 165) dX11_tries_109 (by decide) (by decide) (by decide) (fun q => absurd q (by decide)) (fun c_109 => ?_)
        refine zt_iload dX11_tries_112 rfl ?_
        refine zt_iload dX11_tries_114 rfl ?_
        refine zt_icmp_ne (tgt := 122) dX11_tries_116 (by decide) (by decide) (by decide) (fun q => absurd q (by decide)) (fun c_116 => ?_)
        refine zt_goto (tgt := 159) dX11_tries_119 (by decide) ?_
        refine zt_iincv_14 (v := 4) dX11_tries_159 (by decide) rfl (by decide) ?_
        refine zt_goto (tgt := 106) dX11_tries_162 (by decide) ?_
        refine zt_iload dX11_tries_106 rfl ?_
        refine zt_iload_n dX11_tries_108 rfl ?_
        refine zt_icmp_gt (tgt := 165) dX11_tries_109 (by decide) (by decide) (by decide) (fun c_109 => ?_) (fun q => absurd q (by decide))
        refine zt_lload dX11_tries_165 rfl ?_
        refine zt_aload_n dX11_tries_167 rfl ?_
        refine zt_getv dX11_tries_168 fl_X11_112 (zs_38 hS) (rf_38_51 hR) ?_
        refine zt_aload_n dX11_tries_171 rfl ?_
        refine zt_getv dX11_tries_172 fl_X11_131 (zs_38 hS) (rf_38_58 hR) ?_
        refine zt_iload dX11_tries_175 rfl ?_
        refine zt_ialoadv (v := p3) dX11_tries_177 (zs_77 hS) (by decide) (by decide) (by decide) hp3 ?_
        refine zt_ialoadv (v := y3) dX11_tries_178 (zs_71 hS) (by decide) (by omega) (by omega) hy3 ?_
        refine zt_i2l dX11_tries_179 (by omega) ?_
        refine zt_lload dX11_tries_180 rfl ?_
        refine zt_lmul dX11_tries_182 ?_
        refine zt_lload_n dX11_tries_183 rfl ?_
        refine zt_lload dX11_tries_184 rfl ?_
        have hdb3 : -6859 ≤ ((1 * (p3 - p0)) * (p3 - p1)) * (p3 - p2) ∧ ((1 * (p3 - p0)) * (p3 - p1)) * (p3 - p2) ≤ 6859 := (zmb2 (zmb2 (zmb2 zb11 (show -19 ≤ p3 - p0 ∧ p3 - p0 ≤ 19 by omega) rfl) (show -19 ≤ p3 - p1 ∧ p3 - p1 ≤ 19 by omega) rfl) (show -19 ≤ p3 - p2 ∧ p3 - p2 ≤ 19 by omega) rfl)
        have hdn3 : ((1 * (p3 - p0)) * (p3 - p1)) * (p3 - p2) ≠ 0 := fun z => by have z2 := lid4_3 (p0 := p0) (p1 := p1) (p2 := p2) (p3 := p3); rw [z, Int.mul_zero] at z2; omega
        refine zt_ldiv dX11_tries_186 (by omega) (by omega) hdn3 ?_
        refine zt_topv (v := ((1 * (p1 - p0)) * (p2 - p0)) * (p2 - p1)) (zex (show cV4 p0 p1 p2 p3 = _ from lid4_3) hdn3) ?_
        refine zt_lmul dX11_tries_187 ?_
        refine zt_ladd dX11_tries_188 ?_
        refine zt_topv (v := cP4 p0 p1 p2 p3 y0 y1 y2 y3 i) rfl ?_
        refine zt_lstore_7 dX11_tries_189 (by decide) rfl ?_
        refine zt_iincv_9 (v := 4) dX11_tries_191 (by decide) rfl (by decide) ?_
        refine zt_goto (tgt := 91) dX11_tries_194 (by decide) ?_
        refine zt_iload dX11_tries_91 rfl ?_
        refine zt_iload_n dX11_tries_93 rfl ?_
        refine zt_icmp_gt (tgt := 197) dX11_tries_94 (by decide) (by decide) (by decide) (fun c_94 => ?_) (fun q => absurd q (by decide))
        refine zt_lload dX11_tries_197 rfl ?_
        refine zt_aload_n dX11_tries_199 rfl ?_
        refine zt_getv dX11_tries_200 fl_X11_112 (zs_38 hS) (rf_38_51 hR) ?_
        refine zt_iload dX11_tries_203 rfl ?_
        refine zt_iaload dX11_tries_205 (zs_71 hS) (by decide) (by omega) (by omega) ?_
        refine zt_i2l dX11_tries_206 (by omega) ?_
        refine zt_lload_n dX11_tries_207 rfl ?_
        refine zt_lmul dX11_tries_208 ?_
        refine zt_lsub dX11_tries_209 ?_
        refine zt_lstore_7 dX11_tries_210 (by decide) rfl ?_
        refine zt_lload dX11_tries_212 rfl ?_
        refine zt_iload_n dX11_tries_214 rfl ?_
        refine zt_i2l dX11_tries_215 (by omega) ?_
        refine zt_lload_n dX11_tries_216 rfl ?_
        refine zt_lmul dX11_tries_217 ?_
        refine zt_lc_gt (tgt := 233) dX11_tries_218 dX11_tries_219 (by decide) (by omega) (by omega) (fun c_218 => ?_) (fun c_218 => ?_)
        · refine zt_iload dX11_tries_233 rfl ?_
          refine zt_iconst dX11_tries_235 ?_
          refine zt_iload dX11_tries_236 rfl ?_
          refine zt_ishl dX11_tries_238 ?_
          refine zt_topv (v := 2 ^ i.toNat) (zshl1 ⟨by omega, by omega⟩) ?_
          refine zt_ior dX11_tries_239 ?_
          refine zt_topv (v := a + 2 ^ i.toNat) (zor2 ⟨by omega, by omega⟩ hab) ?_
          refine zt_istore_5 dX11_tries_240 (by decide) rfl ?_
          refine zt_iinc_6 dX11_tries_242 (by decide) rfl ?_
          refine zt_goto (tgt := 60) dX11_tries_245 (by decide) ?_
          refine zt_kill_7 ?_
          refine zt_kill_9 ?_
          refine zt_kill_10 ?_
          refine zt_kill_12 ?_
          refine zt_kill_14 ?_
          exact ih (i + 1) _ (by omega) (by omega) (by omega) (by rw [show (i + 1).toNat = i.toNat + 1 by omega]; symm; show hpN (qm (h 71) e [p0, p1, p2, p3]) (h 71) i.toNat + zite (h 71 (i.toNat : Int) ≠ -2147483648 ∧ qm (h 71) e [p0, p1, p2, p3] (i.toNat : Int)) (2 ^ i.toNat) 0 = _; rw [Int.toNat_of_nonneg h0, zite_t ⟨c_79, (hq i).mpr (by unfold zabs; split <;> omega)⟩, ← ha])
        · refine zt_lload dX11_tries_222 rfl ?_
          refine zt_lneg dX11_tries_224 ?_
          refine zt_iload_n dX11_tries_225 rfl ?_
          refine zt_i2l dX11_tries_226 (by omega) ?_
          refine zt_lload_n dX11_tries_227 rfl ?_
          refine zt_lmul dX11_tries_228 ?_
          refine zt_lc_le (tgt := 242) dX11_tries_229 dX11_tries_230 (by decide) (by omega) (by omega) (fun c_229 => ?_) (fun c_229 => ?_)
          · refine zt_iinc_6 dX11_tries_242 (by decide) rfl ?_
            refine zt_goto (tgt := 60) dX11_tries_245 (by decide) ?_
            refine zt_kill_7 ?_
            refine zt_kill_9 ?_
            refine zt_kill_10 ?_
            refine zt_kill_12 ?_
            refine zt_kill_14 ?_
            exact ih (i + 1) a (by omega) (by omega) (by omega) (by rw [show (i + 1).toNat = i.toNat + 1 by omega]; symm; show hpN (qm (h 71) e [p0, p1, p2, p3]) (h 71) i.toNat + zite (h 71 (i.toNat : Int) ≠ -2147483648 ∧ qm (h 71) e [p0, p1, p2, p3] (i.toNat : Int)) (2 ^ i.toNat) 0 = _; rw [Int.toNat_of_nonneg h0, zite_f (fun z => by first | exact z.1 c_79 | (have z2 := (hq i).mp z.2; unfold zabs at z2; split at z2 <;> omega)), ← ha, Int.add_zero])
          · refine zt_iload dX11_tries_233 rfl ?_
            refine zt_iconst dX11_tries_235 ?_
            refine zt_iload dX11_tries_236 rfl ?_
            refine zt_ishl dX11_tries_238 ?_
            refine zt_topv (v := 2 ^ i.toNat) (zshl1 ⟨by omega, by omega⟩) ?_
            refine zt_ior dX11_tries_239 ?_
            refine zt_topv (v := a + 2 ^ i.toNat) (zor2 ⟨by omega, by omega⟩ hab) ?_
            refine zt_istore_5 dX11_tries_240 (by decide) rfl ?_
            refine zt_iinc_6 dX11_tries_242 (by decide) rfl ?_
            refine zt_goto (tgt := 60) dX11_tries_245 (by decide) ?_
            refine zt_kill_7 ?_
            refine zt_kill_9 ?_
            refine zt_kill_10 ?_
            refine zt_kill_12 ?_
            refine zt_kill_14 ?_
            exact ih (i + 1) _ (by omega) (by omega) (by omega) (by rw [show (i + 1).toNat = i.toNat + 1 by omega]; symm; show hpN (qm (h 71) e [p0, p1, p2, p3]) (h 71) i.toNat + zite (h 71 (i.toNat : Int) ≠ -2147483648 ∧ qm (h 71) e [p0, p1, p2, p3] (i.toNat : Int)) (2 ^ i.toNat) 0 = _; rw [Int.toNat_of_nonneg h0, zite_t ⟨c_79, (hq i).mpr (by unfold zabs; split <;> omega)⟩, ← ha])
      · refine zt_goto (tgt := 242) dX11_tries_82 (by decide) ?_
        refine zt_iinc_6 dX11_tries_242 (by decide) rfl ?_
        refine zt_goto (tgt := 60) dX11_tries_245 (by decide) ?_
        exact ih (i + 1) a (by omega) (by omega) (by omega) (by rw [show (i + 1).toNat = i.toNat + 1 by omega]; symm; show hpN (qm (h 71) e [p0, p1, p2, p3]) (h 71) i.toNat + zite (h 71 (i.toNat : Int) ≠ -2147483648 ∧ qm (h 71) e [p0, p1, p2, p3] (i.toNat : Int)) (2 ^ i.toNat) 0 = _; rw [Int.toNat_of_nonneg h0, zite_f (fun z => by first | exact z.1 c_79 | (have z2 := (hq i).mp z.2; unfold zabs at z2; split at z2 <;> omega)), ← ha, Int.add_zero])

set_option maxRecDepth 100000 in
set_option maxHeartbeats 4000000 in
theorem c_try4 {d n : Nat} {sh : zSh} {h : zMem} {p0 p1 p2 p3 y0 y1 y2 y3 : Int} {e : Int} (hS : zShp sh) (hR : zRf h) (hL : 0 ≤ h 38 50 ∧ h 38 50 ≤ 20) (hr1 : ∀ i, 0 ≤ i → i < h 38 50 → h 71 i = -2147483648 ∨ (-999999 ≤ h 71 i ∧ h 71 i ≤ 999999)) (h61 : 0 ≤ h 38 61 ∧ h 38 61 < 5000) (h62 : h 38 62 = -1 ∨ (0 ≤ h 38 62 ∧ h 38 62 < 1048576)) (he : 0 ≤ e ∧ e ≤ 9) (hp0 : h 77 0 = p0) (hy0 : h 71 p0 = y0) (hb0 : -999999 ≤ y0 ∧ y0 ≤ 999999) (hp1 : h 77 1 = p1) (hy1 : h 71 p1 = y1) (hb1 : -999999 ≤ y1 ∧ y1 ≤ 999999) (hp2 : h 77 2 = p2) (hy2 : h 71 p2 = y2) (hb2 : -999999 ≤ y2 ∧ y2 ≤ 999999) (hp3 : h 77 3 = p3) (hy3 : h 71 p3 = y3) (hb3 : -999999 ≤ y3 ∧ y3 ≤ 999999) (hod : 0 ≤ p0 ∧ p0 < p1 ∧ p1 < p2 ∧ p2 < p3 ∧ p3 < 20)  : zF yX11_tries cX11_tries 15 none (d + 1) 0 0 [(2, 38), (0, 3), (0, e)] n sh h none n sh (jTr h (hpN (qm (h 71) e [p0, p1, p2, p3]) (h 71) (h 38 50).toNat)) := by
  refine zF.ofT (by decide +kernel) [some (2, 38), some (0, 3), some (0, e), none, none, none, none, none, none, none, none, none, none, none, none] rfl (Nat.le_of_ble_eq_true rfl) ?_
  refine zt_lconst (v := 1) dX11_tries_0 rfl ?_
  refine zt_lstore_n_3 dX11_tries_1 (by decide) rfl ?_
  refine zt_iconst dX11_tries_2 ?_
  refine zt_istore_5 dX11_tries_3 (by decide) rfl ?_
  refine zt_iload dX11_tries_5 rfl ?_
  refine zt_iload_n dX11_tries_7 rfl ?_
  refine zt_icmp_gt (tgt := 54) dX11_tries_8 (by decide) (by decide) (by decide) (fun q => absurd q (by decide)) (fun c_8 => ?_)
  refine zt_iload dX11_tries_11 rfl ?_
  refine zt_iconst dX11_tries_13 ?_
  refine zt_iadd dX11_tries_14 ?_
  refine zt_topv (v := 1) (by decide) ?_
  refine zt_istore_6 dX11_tries_15 (by decide) rfl ?_
  refine zt_iload dX11_tries_17 rfl ?_
  refine zt_iload_n dX11_tries_19 rfl ?_
  refine zt_icmp_gt (tgt := 48) dX11_tries_20 (by decide) (by decide) (by decide) (fun q => absurd q (by decide)) (fun c_20 => ?_)
  refine zt_lload_n dX11_tries_23 rfl ?_
  refine zt_aload_n dX11_tries_24 rfl ?_
  refine zt_getv dX11_tries_25 fl_X11_131 (zs_38 hS) (rf_38_58 hR) ?_
  refine zt_iload dX11_tries_28 rfl ?_
  refine zt_ialoadv (v := p1) dX11_tries_30 (zs_77 hS) (by decide) (by decide) (by decide) hp1 ?_
  refine zt_aload_n dX11_tries_31 rfl ?_
  refine zt_getv dX11_tries_32 fl_X11_131 (zs_38 hS) (rf_38_58 hR) ?_
  refine zt_iload dX11_tries_35 rfl ?_
  refine zt_ialoadv (v := p0) dX11_tries_37 (zs_77 hS) (by decide) (by decide) (by decide) hp0 ?_
  refine zt_isub dX11_tries_38 ?_
  refine zt_i2l dX11_tries_39 (by omega) ?_
  refine zt_lmul dX11_tries_40 ?_
  refine zt_lstore_n_3 dX11_tries_41 (by decide) rfl ?_
  refine zt_iincv_6 (v := 2) dX11_tries_42 (by decide) rfl (by decide) ?_
  refine zt_goto (tgt := 17) dX11_tries_45 (by decide) ?_
  refine zt_iload dX11_tries_17 rfl ?_
  refine zt_iload_n dX11_tries_19 rfl ?_
  refine zt_icmp_gt (tgt := 48) dX11_tries_20 (by decide) (by decide) (by decide) (fun q => absurd q (by decide)) (fun c_20 => ?_)
  refine zt_lload_n dX11_tries_23 rfl ?_
  refine zt_aload_n dX11_tries_24 rfl ?_
  refine zt_getv dX11_tries_25 fl_X11_131 (zs_38 hS) (rf_38_58 hR) ?_
  refine zt_iload dX11_tries_28 rfl ?_
  refine zt_ialoadv (v := p2) dX11_tries_30 (zs_77 hS) (by decide) (by decide) (by decide) hp2 ?_
  refine zt_aload_n dX11_tries_31 rfl ?_
  refine zt_getv dX11_tries_32 fl_X11_131 (zs_38 hS) (rf_38_58 hR) ?_
  refine zt_iload dX11_tries_35 rfl ?_
  refine zt_ialoadv (v := p0) dX11_tries_37 (zs_77 hS) (by decide) (by decide) (by decide) hp0 ?_
  refine zt_isub dX11_tries_38 ?_
  refine zt_i2l dX11_tries_39 (by omega) ?_
  refine zt_lmul dX11_tries_40 ?_
  refine zt_lstore_n_3 dX11_tries_41 (by decide) rfl ?_
  refine zt_iincv_6 (v := 3) dX11_tries_42 (by decide) rfl (by decide) ?_
  refine zt_goto (tgt := 17) dX11_tries_45 (by decide) ?_
  refine zt_iload dX11_tries_17 rfl ?_
  refine zt_iload_n dX11_tries_19 rfl ?_
  refine zt_icmp_gt (tgt := 48) dX11_tries_20 (by decide) (by decide) (by decide) (fun q => absurd q (by decide)) (fun c_20 => ?_)
  refine zt_lload_n dX11_tries_23 rfl ?_
  refine zt_aload_n dX11_tries_24 rfl ?_
  refine zt_getv dX11_tries_25 fl_X11_131 (zs_38 hS) (rf_38_58 hR) ?_
  refine zt_iload dX11_tries_28 rfl ?_
  refine zt_ialoadv (v := p3) dX11_tries_30 (zs_77 hS) (by decide) (by decide) (by decide) hp3 ?_
  refine zt_aload_n dX11_tries_31 rfl ?_
  refine zt_getv dX11_tries_32 fl_X11_131 (zs_38 hS) (rf_38_58 hR) ?_
  refine zt_iload dX11_tries_35 rfl ?_
  refine zt_ialoadv (v := p0) dX11_tries_37 (zs_77 hS) (by decide) (by decide) (by decide) hp0 ?_
  refine zt_isub dX11_tries_38 ?_
  refine zt_i2l dX11_tries_39 (by omega) ?_
  refine zt_lmul dX11_tries_40 ?_
  refine zt_lstore_n_3 dX11_tries_41 (by decide) rfl ?_
  refine zt_iincv_6 (v := 4) dX11_tries_42 (by decide) rfl (by decide) ?_
  refine zt_goto (tgt := 17) dX11_tries_45 (by decide) ?_
  refine zt_iload dX11_tries_17 rfl ?_
  refine zt_iload_n dX11_tries_19 rfl ?_
  refine zt_icmp_gt (tgt := 48) dX11_tries_20 (by decide) (by decide) (by decide) (fun c_20 => ?_) (fun q => absurd q (by decide))
  refine zt_iincv_5 (v := 1) dX11_tries_48 (by decide) rfl (by decide) ?_
  refine zt_goto (tgt := 5) dX11_tries_51 (by decide) ?_
  refine zt_iload dX11_tries_5 rfl ?_
  refine zt_iload_n dX11_tries_7 rfl ?_
  refine zt_icmp_gt (tgt := 54) dX11_tries_8 (by decide) (by decide) (by decide) (fun q => absurd q (by decide)) (fun c_8 => ?_)
  refine zt_iload dX11_tries_11 rfl ?_
  refine zt_iconst dX11_tries_13 ?_
  refine zt_iadd dX11_tries_14 ?_
  refine zt_topv (v := 2) (by decide) ?_
  refine zt_istore_6 dX11_tries_15 (by decide) rfl ?_
  refine zt_iload dX11_tries_17 rfl ?_
  refine zt_iload_n dX11_tries_19 rfl ?_
  refine zt_icmp_gt (tgt := 48) dX11_tries_20 (by decide) (by decide) (by decide) (fun q => absurd q (by decide)) (fun c_20 => ?_)
  refine zt_lload_n dX11_tries_23 rfl ?_
  refine zt_aload_n dX11_tries_24 rfl ?_
  refine zt_getv dX11_tries_25 fl_X11_131 (zs_38 hS) (rf_38_58 hR) ?_
  refine zt_iload dX11_tries_28 rfl ?_
  refine zt_ialoadv (v := p2) dX11_tries_30 (zs_77 hS) (by decide) (by decide) (by decide) hp2 ?_
  refine zt_aload_n dX11_tries_31 rfl ?_
  refine zt_getv dX11_tries_32 fl_X11_131 (zs_38 hS) (rf_38_58 hR) ?_
  refine zt_iload dX11_tries_35 rfl ?_
  refine zt_ialoadv (v := p1) dX11_tries_37 (zs_77 hS) (by decide) (by decide) (by decide) hp1 ?_
  refine zt_isub dX11_tries_38 ?_
  refine zt_i2l dX11_tries_39 (by omega) ?_
  refine zt_lmul dX11_tries_40 ?_
  refine zt_lstore_n_3 dX11_tries_41 (by decide) rfl ?_
  refine zt_iincv_6 (v := 3) dX11_tries_42 (by decide) rfl (by decide) ?_
  refine zt_goto (tgt := 17) dX11_tries_45 (by decide) ?_
  refine zt_iload dX11_tries_17 rfl ?_
  refine zt_iload_n dX11_tries_19 rfl ?_
  refine zt_icmp_gt (tgt := 48) dX11_tries_20 (by decide) (by decide) (by decide) (fun q => absurd q (by decide)) (fun c_20 => ?_)
  refine zt_lload_n dX11_tries_23 rfl ?_
  refine zt_aload_n dX11_tries_24 rfl ?_
  refine zt_getv dX11_tries_25 fl_X11_131 (zs_38 hS) (rf_38_58 hR) ?_
  refine zt_iload dX11_tries_28 rfl ?_
  refine zt_ialoadv (v := p3) dX11_tries_30 (zs_77 hS) (by decide) (by decide) (by decide) hp3 ?_
  refine zt_aload_n dX11_tries_31 rfl ?_
  refine zt_getv dX11_tries_32 fl_X11_131 (zs_38 hS) (rf_38_58 hR) ?_
  refine zt_iload dX11_tries_35 rfl ?_
  refine zt_ialoadv (v := p1) dX11_tries_37 (zs_77 hS) (by decide) (by decide) (by decide) hp1 ?_
  refine zt_isub dX11_tries_38 ?_
  refine zt_i2l dX11_tries_39 (by omega) ?_
  refine zt_lmul dX11_tries_40 ?_
  refine zt_lstore_n_3 dX11_tries_41 (by decide) rfl ?_
  refine zt_iincv_6 (v := 4) dX11_tries_42 (by decide) rfl (by decide) ?_
  refine zt_goto (tgt := 17) dX11_tries_45 (by decide) ?_
  refine zt_iload dX11_tries_17 rfl ?_
  refine zt_iload_n dX11_tries_19 rfl ?_
  refine zt_icmp_gt (tgt := 48) dX11_tries_20 (by decide) (by decide) (by decide) (fun c_20 => ?_) (fun q => absurd q (by decide))
  refine zt_iincv_5 (v := 2) dX11_tries_48 (by decide) rfl (by decide) ?_
  refine zt_goto (tgt := 5) dX11_tries_51 (by decide) ?_
  refine zt_iload dX11_tries_5 rfl ?_
  refine zt_iload_n dX11_tries_7 rfl ?_
  refine zt_icmp_gt (tgt := 54) dX11_tries_8 (by decide) (by decide) (by decide) (fun q => absurd q (by decide)) (fun c_8 => ?_)
  refine zt_iload dX11_tries_11 rfl ?_
  refine zt_iconst dX11_tries_13 ?_
  refine zt_iadd dX11_tries_14 ?_
  refine zt_topv (v := 3) (by decide) ?_
  refine zt_istore_6 dX11_tries_15 (by decide) rfl ?_
  refine zt_iload dX11_tries_17 rfl ?_
  refine zt_iload_n dX11_tries_19 rfl ?_
  refine zt_icmp_gt (tgt := 48) dX11_tries_20 (by decide) (by decide) (by decide) (fun q => absurd q (by decide)) (fun c_20 => ?_)
  refine zt_lload_n dX11_tries_23 rfl ?_
  refine zt_aload_n dX11_tries_24 rfl ?_
  refine zt_getv dX11_tries_25 fl_X11_131 (zs_38 hS) (rf_38_58 hR) ?_
  refine zt_iload dX11_tries_28 rfl ?_
  refine zt_ialoadv (v := p3) dX11_tries_30 (zs_77 hS) (by decide) (by decide) (by decide) hp3 ?_
  refine zt_aload_n dX11_tries_31 rfl ?_
  refine zt_getv dX11_tries_32 fl_X11_131 (zs_38 hS) (rf_38_58 hR) ?_
  refine zt_iload dX11_tries_35 rfl ?_
  refine zt_ialoadv (v := p2) dX11_tries_37 (zs_77 hS) (by decide) (by decide) (by decide) hp2 ?_
  refine zt_isub dX11_tries_38 ?_
  refine zt_i2l dX11_tries_39 (by omega) ?_
  refine zt_lmul dX11_tries_40 ?_
  refine zt_topv (v := cV4 p0 p1 p2 p3) rfl ?_
  refine zt_lstore_n_3 dX11_tries_41 (by decide) rfl ?_
  refine zt_iincv_6 (v := 4) dX11_tries_42 (by decide) rfl (by decide) ?_
  refine zt_goto (tgt := 17) dX11_tries_45 (by decide) ?_
  refine zt_iload dX11_tries_17 rfl ?_
  refine zt_iload_n dX11_tries_19 rfl ?_
  refine zt_icmp_gt (tgt := 48) dX11_tries_20 (by decide) (by decide) (by decide) (fun c_20 => ?_) (fun q => absurd q (by decide))
  refine zt_iincv_5 (v := 3) dX11_tries_48 (by decide) rfl (by decide) ?_
  refine zt_goto (tgt := 5) dX11_tries_51 (by decide) ?_
  refine zt_iload dX11_tries_5 rfl ?_
  refine zt_iload_n dX11_tries_7 rfl ?_
  refine zt_icmp_gt (tgt := 54) dX11_tries_8 (by decide) (by decide) (by decide) (fun q => absurd q (by decide)) (fun c_8 => ?_)
  refine zt_iload dX11_tries_11 rfl ?_
  refine zt_iconst dX11_tries_13 ?_
  refine zt_iadd dX11_tries_14 ?_
  refine zt_topv (v := 4) (by decide) ?_
  refine zt_istore_6 dX11_tries_15 (by decide) rfl ?_
  refine zt_iload dX11_tries_17 rfl ?_
  refine zt_iload_n dX11_tries_19 rfl ?_
  refine zt_icmp_gt (tgt := 48) dX11_tries_20 (by decide) (by decide) (by decide) (fun c_20 => ?_) (fun q => absurd q (by decide))
  refine zt_iincv_5 (v := 4) dX11_tries_48 (by decide) rfl (by decide) ?_
  refine zt_goto (tgt := 5) dX11_tries_51 (by decide) ?_
  refine zt_iload dX11_tries_5 rfl ?_
  refine zt_iload_n dX11_tries_7 rfl ?_
  refine zt_icmp_gt (tgt := 54) dX11_tries_8 (by decide) (by decide) (by decide) (fun c_8 => ?_) (fun q => absurd q (by decide))
  refine zt_iconst dX11_tries_54 ?_
  refine zt_istore_5 dX11_tries_55 (by decide) rfl ?_
  refine zt_iconst dX11_tries_57 ?_
  refine zt_istore_6 dX11_tries_58 (by decide) rfl ?_
  have hP : pOK [p0, p1, p2, p3] := ⟨show 0 ≤ p0 ∧ p0 + 1 ≤ p1 ∧ p1 + 1 ≤ p2 ∧ p2 + 1 ≤ p3 ∧ p3 + 1 ≤ 20 by omega, by simp, by simp⟩
  have hyP : yOK (h 71) [p0, p1, p2, p3] := fun p hp => by
    simp only [List.mem_cons, List.not_mem_nil, or_false] at hp
    rcases hp with rfl | rfl | rfl | rfl
    · rw [hy0]; exact hb0
    · rw [hy1]; exact hb1
    · rw [hy2]; exact hb2
    · rw [hy3]; exact hb3
  have hcb : ∀ x, cvP (h 71) x [p0, p1, p2, p3] = cP4 p0 p1 p2 p3 y0 y1 y2 y3 x := fun x => by show cP4 p0 p1 p2 p3 (h 71 p0) (h 71 p1) (h 71 p2) (h 71 p3) x = _; rw [hy0, hy1, hy2, hy3]
  exact l_try4 hS hR hL hr1 h61 h62 he hp0 hy0 hb0 hp1 hy1 hb1 hp2 hy2 hb2 hp3 hy3 hb3 hod (fun x => by unfold qm; rw [hcb]; exact Iff.rfl) (cvV_b hP) (fun x hx => by rw [← hcb]; exact cvP_b hx hP hyP) rfl 21 0 0 (by omega) (by omega) (by omega) rfl

