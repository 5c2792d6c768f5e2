def jRow (h : zMem) (r T i : Int) (v : Int → Int) : Int → Int := fun e => if 30 * T ≤ e ∧ e < 30 * T + i then v (e - 30 * T) else h r e
theorem jRow_0 {h : zMem} {r T : Int} {v : Int → Int} : jRow h r T 0 v = h r := by funext e; exact if_neg (by omega)
theorem jRow_s {h : zMem} {r T i y : Int} {v : Int → Int} (h0 : 0 ≤ i) : jRow h r T (i + 1) v y = if y = 30 * T + i then v i else jRow h r T i v y := by
  unfold jRow
  by_cases q : y = 30 * T + i
  · rw [if_pos q, if_pos (by omega), q, show 30 * T + i - 30 * T = i by omega]
  · rw [if_neg q]
    by_cases q2 : 30 * T ≤ y ∧ y < 30 * T + i
    · rw [if_pos q2, if_pos (by omega)]
    · rw [if_neg q2, if_neg (by omega)]
/-- a new TABLE T of N entries in the reference, i of them worked -/
def jTb (h g : zMem) (T N i : Int) (F : Int → Int) : Prop := (∀ x, x ≠ 38 → x ≠ 72 → x ≠ 73 → x ≠ 46 → x ≠ 47 → x ≠ 51 → x ≠ 54 → x ≠ 57 → x ≠ 66 → g x = h x) ∧ (∀ y, y ≠ 54 → y ≠ 17 → g 38 y = h 38 y) ∧ zRf g ∧ (∀ y, g 46 y = if y = T then N else h 46 y) ∧ g 47 = jRow h 47 T i F ∧ g 51 = jRow h 51 T i (fun _ => -1) ∧ g 54 = jRow h 54 T i (fun _ => -1) ∧ g 57 = jRow h 57 T i (fun _ => -1) ∧ g 66 = jRow h 66 T i (fun _ => -2147483648)
theorem zten_b {i : Int} (h : 0 ≤ i ∧ i ≤ 4) : 1 ≤ zten i ∧ zten i ≤ 10000 := by
  rcases (show i = 0 ∨ i = 1 ∨ i = 2 ∨ i = 3 ∨ i = 4 by omega) with rfl | rfl | rfl | rfl | rfl <;> decide
theorem frd_r {f : zFr} {p : Int} : frd f p = -2147483648 ∨ (-999999999 ≤ frd f p ∧ frd f p ≤ 999999999) := by
  unfold frd
  split
  · left; rfl
  · split
    · left; rfl
    · right; omega

theorem zne_r {n d : Int} (hn : -2000000000000000000 ≤ n ∧ n ≤ 2000000000000000000) (hd : 0 < d ∧ d ≤ 1000000000000000000) : -6000000000000000000 ≤ zne n d ∧ zne n d ≤ 6000000000000000000 := by
  have h1 := zne_qr hn hd
  have h2 := zabs_le hn
  unfold zne; split <;> omega

set_option maxRecDepth 100000 in
set_option maxHeartbeats 4000000 in
theorem l_jtb {d n : Nat} {sh : zSh} {h : zMem} {c f s z T : Int} {w : zFr → zFr} (hS : zShp sh) (hc : 0 ≤ c ∧ c ≤ 9) (hN : 0 ≤ h 45 c ∧ h 45 c ≤ 200) (hsg : mseg (h 43) (h 44) (200 * c) (200 * c + h 45 c) w) (hf : -1000 ≤ f ∧ f ≤ 1000) (hs : 0 ≤ s ∧ 1 ≤ s / 1000 ∧ s / 1000 ≤ 100 ∧ 1 ≤ s % 1000 ∧ s % 1000 ≤ 100) (hz : 0 ≤ z ∧ 4 ≤ z / 10 ∧ z / 10 ≤ 30 ∧ z % 10 ≤ 4) (hT : 0 ≤ T ∧ T < 5)  : ∀ (k : Nat) (i : Int) (g : zMem), z / 10 - i < (k : Int) → 0 ≤ i → i ≤ z / 10 → jTb h g T (z / 10) i (fun j => frd (w (fr (f + j * (s / 1000)) (s % 1000))) (z % 10)) → g 38 17 = T → zT yX11_table cX11_table 11 (some .int) (d + 4) 0 0 (fun r n1 sh1 h1 => r = some (0, T) ∧ n1 = n ∧ sh1 = sh ∧ ∃ g, jTb h g T (z / 10) (z / 10) (fun j => frd (w (fr (f + j * (s / 1000)) (s % 1000))) (z % 10)) ∧ g 38 17 = T ∧ h1 = zup g 38 17 (T + 1)) 155 [some (2, 38), some (0, c), some (0, f), some (0, s), some (0, z), some (1, zten (z % 10)), none, some (0, i), none, none, none] [] n sh g := by
  intro k
  induction k with
  | zero => intros; exfalso; omega
  | succ k ih =>
    intro i g hk h0 h1 hJ hg17
    refine zt_iload dX11_table_155 rfl ?_
    refine zt_aload_n dX11_table_157 rfl ?_
    refine zt_getv dX11_table_158 fl_X11_32 (zs_38 hS) (rf_38_18 hJ.2.2.1) ?_
    refine zt_aload_n dX11_table_161 rfl ?_
    refine zt_getv (v := T) dX11_table_162 fl_X11_298 (zs_38 hS) hg17 ?_
    refine zt_ialoadv (v := z / 10) dX11_table_165 (zs_46 hS) (by decide) (by omega) (by omega) ((hJ.2.2.2.1 T).trans (if_pos rfl)) ?_
    refine zt_icmp_ge (tgt := 308) dX11_table_166 (by decide) (by omega) (by omega) (fun c_166 => ?_) (fun c_166 => ?_)
    · refine zt_aload_n dX11_table_308 rfl ?_
      refine zt_dup dX11_table_309 (Nat.ne_of_beq_eq_false rfl) ?_
      refine zt_getv (v := T) dX11_table_310 fl_X11_298 (zs_38 hS) hg17 ?_
      refine zt_iconst dX11_table_313 ?_
      refine zt_iadd dX11_table_314 ?_
      refine zt_puti dX11_table_315 fl_X11_298 rfl (zs_38 hS) (by omega) ?_
      refine zt_aload_n dX11_table_318 rfl ?_
      refine zt_getv (v := T + 1) dX11_table_319 fl_X11_298 (zs_38 hS) zupE ?_
      refine zt_iconst dX11_table_322 ?_
      refine zt_isub dX11_table_323 ?_
      exact zt_iret dX11_table_324 ⟨by congr 2; omega, rfl, rfl, g, by rw [show z / 10 = i by omega]; rw [show z / 10 = i by omega] at hJ; exact hJ, hg17, rfl⟩
    · have e43 : g 43 = h 43 := hJ.1 43 (by decide) (by decide) (by decide) (by decide) (by decide) (by decide) (by decide) (by decide) (by decide)
      have e44 : g 44 = h 44 := hJ.1 44 (by decide) (by decide) (by decide) (by decide) (by decide) (by decide) (by decide) (by decide) (by decide)
      have e45 : g 45 = h 45 := hJ.1 45 (by decide) (by decide) (by decide) (by decide) (by decide) (by decide) (by decide) (by decide) (by decide)
      refine zt_bipush dX11_table_169 (by decide) ?_
      refine zt_aload_n dX11_table_171 rfl ?_
      refine zt_getv (v := T) dX11_table_172 fl_X11_298 (zs_38 hS) hg17 ?_
      refine zt_imul dX11_table_175 ?_
      refine zt_iload dX11_table_176 rfl ?_
      refine zt_iadd dX11_table_178 ?_
      refine zt_istore_8 dX11_table_179 (by decide) rfl ?_
      refine zt_aload_n dX11_table_181 rfl ?_
      refine zt_iload_n dX11_table_182 rfl ?_
      refine zt_iload_n dX11_table_183 rfl ?_
      refine zt_iload dX11_table_184 rfl ?_
      refine zt_iload_n dX11_table_186 rfl ?_
      refine zt_sipush dX11_table_187 (by decide) ?_
      refine zt_idiv dX11_table_190 (by omega) (by decide) (by decide) ?_
      refine zt_topv (v := s / 1000) (Int.tdiv_eq_ediv_of_nonneg (by omega)) ?_
      refine zt_imul dX11_table_191 ?_
      refine zt_iadd dX11_table_192 ?_
      have hi1 := zmb2 (x := i) (y := s / 1000) (A := 30) (B := 100) ⟨by omega, by omega⟩ ⟨by omega, by omega⟩ rfl
      refine zt_i2l dX11_table_193 (by omega) ?_
      refine zt_iload_n dX11_table_194 rfl ?_
      refine zt_sipush dX11_table_195 (by decide) ?_
      refine zt_irem dX11_table_198 (by omega) (by decide) (by decide) ?_
      refine zt_topv (v := s % 1000) (Int.tmod_eq_emod_of_nonneg (by omega)) ?_
      refine zt_i2l dX11_table_199 (by omega) ?_
      refine zt_callV3q dX11_table_200 ml_X11_284 (zs_38 hS) (Nat.le_of_ble_eq_true rfl) (c_works (w := w) hJ.2.2.1 hS hc (by rw [e45]; exact hN) (by omega) (by omega) (by rw [e43, e44, e45]; exact hsg)) ?_
      rintro r n1 sh1 h2 ⟨rfl, rfl, rfl, hz2, hs2⟩
      simp only [Option.toList, List.nil_append]
      have hs1 := mst1 hs2
      have hb2 := hs1.2.2.2.1
      have hto : h2 38 17 = T := (hz2.2.1 17 (by decide)).trans hg17
      have e46 : h2 46 = g 46 := hz2.1 46 (by decide)
      refine zt_aload_n dX11_table_203 rfl ?_
      refine zt_getv dX11_table_204 fl_X11_35 (zs_38 hS) (rf_38_19 hz2.2.2) ?_
      refine zt_iload dX11_table_207 rfl ?_
      refine zt_ldc_w dX11_table_209 kc_X11_283 ?_
      refine zt_iastore dX11_table_212 (zs_47 hS) (by decide) (by omega) (by omega) (by decide) ?_
      refine zt_aload_n dX11_table_213 rfl ?_
      refine zt_getv dX11_table_214 fl_X11_119 (zs_38 hS) (rf_38_53 (hz2.2.2.upA (by decide))) ?_
      refine zt_iconst dX11_table_217 ?_
      refine zt_laloadv (v := (w (fr (f + i * (s / 1000)) (s % 1000))).2) dX11_table_218 (zs_73 hS) (by decide) (by decide) (by decide) ((zupA (by decide)).trans hs1.1) ?_
      refine zt_lconst (v := 0) dX11_table_219 rfl ?_
      refine zt_lc_eq (tgt := 268) dX11_table_220 dX11_table_221 (by decide) (by omega) (by decide) (fun c_220 => ?_) (fun c_220 => ?_)
      · refine zt_aload_n dX11_table_268 rfl ?_
        refine zt_getv dX11_table_269 fl_X11_47 (zs_38 hS) (rf_38_25 (hz2.2.2.upA (by decide))) ?_
        refine zt_iload dX11_table_272 rfl ?_
        refine zt_iconst dX11_table_274 ?_
        refine zt_iastore dX11_table_275 (zs_51 hS) (by decide) (by omega) (by omega) (by decide) ?_
        refine zt_aload_n dX11_table_276 rfl ?_
        refine zt_getv dX11_table_277 fl_X11_56 (zs_38 hS) (rf_38_28 ((hz2.2.2.upA (by decide)).upA (by decide))) ?_
        refine zt_iload dX11_table_280 rfl ?_
        refine zt_iconst dX11_table_282 ?_
        refine zt_iastore dX11_table_283 (zs_54 hS) (by decide) (by omega) (by omega) (by decide) ?_
        refine zt_aload_n dX11_table_284 rfl ?_
        refine zt_getv dX11_table_285 fl_X11_65 (zs_38 hS) (rf_38_31 (((hz2.2.2.upA (by decide)).upA (by decide)).upA (by decide))) ?_
        refine zt_iload dX11_table_288 rfl ?_
        refine zt_iconst dX11_table_290 ?_
        refine zt_iastore dX11_table_291 (zs_57 hS) (by decide) (by omega) (by omega) (by decide) ?_
        refine zt_aload_n dX11_table_292 rfl ?_
        refine zt_getv dX11_table_293 fl_X11_97 (zs_38 hS) (rf_38_42 ((((hz2.2.2.upA (by decide)).upA (by decide)).upA (by decide)).upA (by decide))) ?_
        refine zt_iload dX11_table_296 rfl ?_
        refine zt_ldc_w dX11_table_298 kc_X11_283 ?_
        refine zt_iastore dX11_table_301 (zs_66 hS) (by decide) (by omega) (by omega) (by decide) ?_
        refine zt_iinc_7 dX11_table_302 (by decide) rfl ?_
        refine zt_goto (tgt := 155) dX11_table_305 (by decide) ?_
        refine zt_kill_8 ?_
        have hv : frd (w (fr (f + i * (s / 1000)) (s % 1000))) (z % 10) = -2147483648 := by unfold frd; first | (rw [if_pos c_220]; done) | (rw [if_neg c_220, if_pos (by omega)])
        have hJ2 : jTb h (zup (zup (zup (zup (zup h2 47 ((30 * T) + i) (-2147483648)) 51 ((30 * T) + i) (-1)) 54 ((30 * T) + i) (-1)) 57 ((30 * T) + i) (-1)) 66 ((30 * T) + i) (-2147483648)) T (z / 10) (i + 1) (fun j => frd (w (fr (f + j * (s / 1000)) (s % 1000))) (z % 10)) := ⟨fun x a1 a2 a3 a4 a5 a6 a7 a8 a9 => by (repeat rw [zup_ne (by assumption)]); rw [hz2.1 x ⟨a1, a2, a3⟩]; exact hJ.1 x a1 a2 a3 a4 a5 a6 a7 a8 a9, fun y a b => by (repeat rw [zupA (by decide)]); rw [hz2.2.1 y a]; exact hJ.2.1 y a b, (((((hz2.2.2.upA (by decide)).upA (by decide)).upA (by decide)).upA (by decide)).upA (by decide)), fun y => by (repeat rw [zupA (by decide)]); rw [hz2.1 46 (by decide)]; exact hJ.2.2.2.1 y, by funext y; (repeat rw [zupA (by decide)]); rw [jRow_s h0]; by_cases q : y = 30 * T + i; (subst q; rw [zupE, if_pos rfl]; exact hv.symm); (rw [if_neg q]; (repeat rw [zupJ q]); rw [hz2.1 47 (by decide)]; exact congrFun hJ.2.2.2.2.1 y), by funext y; (repeat rw [zupA (by decide)]); rw [jRow_s h0]; by_cases q : y = 30 * T + i; (subst q; (try rw [zupE]); rw [if_pos rfl]); (rw [if_neg q]; (repeat rw [zupJ q]); (repeat rw [zupA (by decide)]); rw [hz2.1 51 (by decide)]; exact congrFun hJ.2.2.2.2.2.1 y), by funext y; (repeat rw [zupA (by decide)]); rw [jRow_s h0]; by_cases q : y = 30 * T + i; (subst q; (try rw [zupE]); rw [if_pos rfl]); (rw [if_neg q]; (repeat rw [zupJ q]); (repeat rw [zupA (by decide)]); rw [hz2.1 54 (by decide)]; exact congrFun hJ.2.2.2.2.2.2.1 y), by funext y; (repeat rw [zupA (by decide)]); rw [jRow_s h0]; by_cases q : y = 30 * T + i; (subst q; (try rw [zupE]); rw [if_pos rfl]); (rw [if_neg q]; (repeat rw [zupJ q]); (repeat rw [zupA (by decide)]); rw [hz2.1 57 (by decide)]; exact congrFun hJ.2.2.2.2.2.2.2.1 y), by funext y; (repeat rw [zupA (by decide)]); rw [jRow_s h0]; by_cases q : y = 30 * T + i; (subst q; (try rw [zupE]); rw [if_pos rfl]); (rw [if_neg q]; (repeat rw [zupJ q]); (repeat rw [zupA (by decide)]); rw [hz2.1 66 (by decide)]; exact congrFun hJ.2.2.2.2.2.2.2.2 y)⟩
        exact ih (i + 1) _ (by omega) (by omega) (by omega) hJ2 (by (repeat rw [zupA (by decide)]); exact hto)
      · refine zt_aload_n dX11_table_224 rfl ?_
        refine zt_getv dX11_table_225 fl_X11_115 (zs_38 hS) (rf_38_52 (hz2.2.2.upA (by decide))) ?_
        refine zt_iconst dX11_table_228 ?_
        refine zt_laloadv (v := (w (fr (f + i * (s / 1000)) (s % 1000))).1) dX11_table_229 (zs_72 hS) (by decide) (by decide) (by decide) ((zupA (by decide)).trans (hs1.2.1 c_220)) ?_
        refine zt_lload dX11_table_230 rfl ?_
        refine zt_lmul dX11_table_232 ?_
        refine zt_aload_n dX11_table_233 rfl ?_
        refine zt_getv dX11_table_234 fl_X11_119 (zs_38 hS) (rf_38_53 (hz2.2.2.upA (by decide))) ?_
        refine zt_iconst dX11_table_237 ?_
        refine zt_laloadv (v := (w (fr (f + i * (s / 1000)) (s % 1000))).2) dX11_table_238 (zs_73 hS) (by decide) (by decide) (by decide) ((zupA (by decide)).trans hs1.1) ?_
        have hb1 := hs1.2.2.1
        have htb := zten_b (i := z % 10) (by omega)
        have hmb := zmb2 (x := (w (fr (f + i * (s / 1000)) (s % 1000))).1) (y := zten (z % 10)) (A := 1000000000) (B := 10000) ⟨by omega, by omega⟩ ⟨by omega, by omega⟩ rfl
        refine zt_callS2r dX11_table_239 ml_X11_303 (Nat.le_of_ble_eq_true rfl) (c_mnear ⟨by omega, by omega⟩ ⟨by omega, by omega⟩) ?_
        have hnr := zne_r (n := (w (fr (f + i * (s / 1000)) (s % 1000))).1 * zten (z % 10)) (d := (w (fr (f + i * (s / 1000)) (s % 1000))).2) ⟨by omega, by omega⟩ ⟨by omega, by omega⟩
        refine zt_lstore_9 dX11_table_242 (by decide) rfl ?_
        refine zt_lload dX11_table_244 rfl ?_
        refine zt_ldc2 dX11_table_246 kc_X11_306 ?_
        refine zt_ldc2 dX11_table_249 kc_X11_308 ?_
        refine zt_callS3r dX11_table_252 ml_X11_143 (Nat.le_of_ble_eq_true rfl) (c_min_ (x := zne ((w (fr (f + i * (s / 1000)) (s % 1000))).1 * zten (z % 10)) (w (fr (f + i * (s / 1000)) (s % 1000))).2) (y := -999999999) (z := 999999999) (by omega) (by decide) (by decide)) ?_
        refine zt_ifb_eq (tgt := 268) dX11_table_255 (by decide) (fun c_255 => ?_) (fun c_255 => ?_)
        · refine zt_aload_n dX11_table_268 rfl ?_
          refine zt_getv dX11_table_269 fl_X11_47 (zs_38 hS) (rf_38_25 (hz2.2.2.upA (by decide))) ?_
          refine zt_iload dX11_table_272 rfl ?_
          refine zt_iconst dX11_table_274 ?_
          refine zt_iastore dX11_table_275 (zs_51 hS) (by decide) (by omega) (by omega) (by decide) ?_
          refine zt_aload_n dX11_table_276 rfl ?_
          refine zt_getv dX11_table_277 fl_X11_56 (zs_38 hS) (rf_38_28 ((hz2.2.2.upA (by decide)).upA (by decide))) ?_
          refine zt_iload dX11_table_280 rfl ?_
          refine zt_iconst dX11_table_282 ?_
          refine zt_iastore dX11_table_283 (zs_54 hS) (by decide) (by omega) (by omega) (by decide) ?_
          refine zt_aload_n dX11_table_284 rfl ?_
          refine zt_getv dX11_table_285 fl_X11_65 (zs_38 hS) (rf_38_31 (((hz2.2.2.upA (by decide)).upA (by decide)).upA (by decide))) ?_
          refine zt_iload dX11_table_288 rfl ?_
          refine zt_iconst dX11_table_290 ?_
          refine zt_iastore dX11_table_291 (zs_57 hS) (by decide) (by omega) (by omega) (by decide) ?_
          refine zt_aload_n dX11_table_292 rfl ?_
          refine zt_getv dX11_table_293 fl_X11_97 (zs_38 hS) (rf_38_42 ((((hz2.2.2.upA (by decide)).upA (by decide)).upA (by decide)).upA (by decide))) ?_
          refine zt_iload dX11_table_296 rfl ?_
          refine zt_ldc_w dX11_table_298 kc_X11_283 ?_
          refine zt_iastore dX11_table_301 (zs_66 hS) (by decide) (by omega) (by omega) (by decide) ?_
          refine zt_iinc_7 dX11_table_302 (by decide) rfl ?_
          refine zt_goto (tgt := 155) dX11_table_305 (by decide) ?_
          refine zt_kill_8 ?_
          refine zt_kill_9 ?_
          have hv : frd (w (fr (f + i * (s / 1000)) (s % 1000))) (z % 10) = -2147483648 := by unfold frd; first | (rw [if_pos c_220]; done) | (rw [if_neg c_220, if_pos (by omega)])
          have hJ2 : jTb h (zup (zup (zup (zup (zup h2 47 ((30 * T) + i) (-2147483648)) 51 ((30 * T) + i) (-1)) 54 ((30 * T) + i) (-1)) 57 ((30 * T) + i) (-1)) 66 ((30 * T) + i) (-2147483648)) T (z / 10) (i + 1) (fun j => frd (w (fr (f + j * (s / 1000)) (s % 1000))) (z % 10)) := ⟨fun x a1 a2 a3 a4 a5 a6 a7 a8 a9 => by (repeat rw [zup_ne (by assumption)]); rw [hz2.1 x ⟨a1, a2, a3⟩]; exact hJ.1 x a1 a2 a3 a4 a5 a6 a7 a8 a9, fun y a b => by (repeat rw [zupA (by decide)]); rw [hz2.2.1 y a]; exact hJ.2.1 y a b, (((((hz2.2.2.upA (by decide)).upA (by decide)).upA (by decide)).upA (by decide)).upA (by decide)), fun y => by (repeat rw [zupA (by decide)]); rw [hz2.1 46 (by decide)]; exact hJ.2.2.2.1 y, by funext y; (repeat rw [zupA (by decide)]); rw [jRow_s h0]; by_cases q : y = 30 * T + i; (subst q; rw [zupE, if_pos rfl]; exact hv.symm); (rw [if_neg q]; (repeat rw [zupJ q]); rw [hz2.1 47 (by decide)]; exact congrFun hJ.2.2.2.2.1 y), by funext y; (repeat rw [zupA (by decide)]); rw [jRow_s h0]; by_cases q : y = 30 * T + i; (subst q; (try rw [zupE]); rw [if_pos rfl]); (rw [if_neg q]; (repeat rw [zupJ q]); (repeat rw [zupA (by decide)]); rw [hz2.1 51 (by decide)]; exact congrFun hJ.2.2.2.2.2.1 y), by funext y; (repeat rw [zupA (by decide)]); rw [jRow_s h0]; by_cases q : y = 30 * T + i; (subst q; (try rw [zupE]); rw [if_pos rfl]); (rw [if_neg q]; (repeat rw [zupJ q]); (repeat rw [zupA (by decide)]); rw [hz2.1 54 (by decide)]; exact congrFun hJ.2.2.2.2.2.2.1 y), by funext y; (repeat rw [zupA (by decide)]); rw [jRow_s h0]; by_cases q : y = 30 * T + i; (subst q; (try rw [zupE]); rw [if_pos rfl]); (rw [if_neg q]; (repeat rw [zupJ q]); (repeat rw [zupA (by decide)]); rw [hz2.1 57 (by decide)]; exact congrFun hJ.2.2.2.2.2.2.2.1 y), by funext y; (repeat rw [zupA (by decide)]); rw [jRow_s h0]; by_cases q : y = 30 * T + i; (subst q; (try rw [zupE]); rw [if_pos rfl]); (rw [if_neg q]; (repeat rw [zupJ q]); (repeat rw [zupA (by decide)]); rw [hz2.1 66 (by decide)]; exact congrFun hJ.2.2.2.2.2.2.2.2 y)⟩
          exact ih (i + 1) _ (by omega) (by omega) (by omega) hJ2 (by (repeat rw [zupA (by decide)]); exact hto)
        · refine zt_aload_n dX11_table_258 rfl ?_
          refine zt_getv dX11_table_259 fl_X11_35 (zs_38 hS) (rf_38_19 (hz2.2.2.upA (by decide))) ?_
          refine zt_iload dX11_table_262 rfl ?_
          refine zt_lload dX11_table_264 rfl ?_
          refine zt_l2i dX11_table_266 ?_
          refine zt_iastore dX11_table_267 (zs_47 hS) (by decide) (by omega) (by omega) (by omega) ?_
          refine zt_aload_n dX11_table_268 rfl ?_
          refine zt_getv dX11_table_269 fl_X11_47 (zs_38 hS) (rf_38_25 ((hz2.2.2.upA (by decide)).upA (by decide))) ?_
          refine zt_iload dX11_table_272 rfl ?_
          refine zt_iconst dX11_table_274 ?_
          refine zt_iastore dX11_table_275 (zs_51 hS) (by decide) (by omega) (by omega) (by decide) ?_
          refine zt_aload_n dX11_table_276 rfl ?_
          refine zt_getv dX11_table_277 fl_X11_56 (zs_38 hS) (rf_38_28 (((hz2.2.2.upA (by decide)).upA (by decide)).upA (by decide))) ?_
          refine zt_iload dX11_table_280 rfl ?_
          refine zt_iconst dX11_table_282 ?_
          refine zt_iastore dX11_table_283 (zs_54 hS) (by decide) (by omega) (by omega) (by decide) ?_
          refine zt_aload_n dX11_table_284 rfl ?_
          refine zt_getv dX11_table_285 fl_X11_65 (zs_38 hS) (rf_38_31 ((((hz2.2.2.upA (by decide)).upA (by decide)).upA (by decide)).upA (by decide))) ?_
          refine zt_iload dX11_table_288 rfl ?_
          refine zt_iconst dX11_table_290 ?_
          refine zt_iastore dX11_table_291 (zs_57 hS) (by decide) (by omega) (by omega) (by decide) ?_
          refine zt_aload_n dX11_table_292 rfl ?_
          refine zt_getv dX11_table_293 fl_X11_97 (zs_38 hS) (rf_38_42 (((((hz2.2.2.upA (by decide)).upA (by decide)).upA (by decide)).upA (by decide)).upA (by decide))) ?_
          refine zt_iload dX11_table_296 rfl ?_
          refine zt_ldc_w dX11_table_298 kc_X11_283 ?_
          refine zt_iastore dX11_table_301 (zs_66 hS) (by decide) (by omega) (by omega) (by decide) ?_
          refine zt_iinc_7 dX11_table_302 (by decide) rfl ?_
          refine zt_goto (tgt := 155) dX11_table_305 (by decide) ?_
          refine zt_kill_8 ?_
          refine zt_kill_9 ?_
          have hv : frd (w (fr (f + i * (s / 1000)) (s % 1000))) (z % 10) = zne ((w (fr (f + i * (s / 1000)) (s % 1000))).1 * zten (z % 10)) (w (fr (f + i * (s / 1000)) (s % 1000))).2 := by unfold frd; rw [if_neg c_220, if_neg (by omega)]
          have hJ2 : jTb h (zup (zup (zup (zup (zup (zup h2 47 ((30 * T) + i) (-2147483648)) 47 ((30 * T) + i) (zne ((w (fr (f + i * (s / 1000)) (s % 1000))).1 * zten (z % 10)) (w (fr (f + i * (s / 1000)) (s % 1000))).2)) 51 ((30 * T) + i) (-1)) 54 ((30 * T) + i) (-1)) 57 ((30 * T) + i) (-1)) 66 ((30 * T) + i) (-2147483648)) T (z / 10) (i + 1) (fun j => frd (w (fr (f + j * (s / 1000)) (s % 1000))) (z % 10)) := ⟨fun x a1 a2 a3 a4 a5 a6 a7 a8 a9 => by (repeat rw [zup_ne (by assumption)]); rw [hz2.1 x ⟨a1, a2, a3⟩]; exact hJ.1 x a1 a2 a3 a4 a5 a6 a7 a8 a9, fun y a b => by (repeat rw [zupA (by decide)]); rw [hz2.2.1 y a]; exact hJ.2.1 y a b, ((((((hz2.2.2.upA (by decide)).upA (by decide)).upA (by decide)).upA (by decide)).upA (by decide)).upA (by decide)), fun y => by (repeat rw [zupA (by decide)]); rw [hz2.1 46 (by decide)]; exact hJ.2.2.2.1 y, by funext y; (repeat rw [zupA (by decide)]); rw [jRow_s h0]; by_cases q : y = 30 * T + i; (subst q; rw [zupE, if_pos rfl]; exact hv.symm); (rw [if_neg q]; (repeat rw [zupJ q]); rw [hz2.1 47 (by decide)]; exact congrFun hJ.2.2.2.2.1 y), by funext y; (repeat rw [zupA (by decide)]); rw [jRow_s h0]; by_cases q : y = 30 * T + i; (subst q; (try rw [zupE]); rw [if_pos rfl]); (rw [if_neg q]; (repeat rw [zupJ q]); (repeat rw [zupA (by decide)]); rw [hz2.1 51 (by decide)]; exact congrFun hJ.2.2.2.2.2.1 y), by funext y; (repeat rw [zupA (by decide)]); rw [jRow_s h0]; by_cases q : y = 30 * T + i; (subst q; (try rw [zupE]); rw [if_pos rfl]); (rw [if_neg q]; (repeat rw [zupJ q]); (repeat rw [zupA (by decide)]); rw [hz2.1 54 (by decide)]; exact congrFun hJ.2.2.2.2.2.2.1 y), by funext y; (repeat rw [zupA (by decide)]); rw [jRow_s h0]; by_cases q : y = 30 * T + i; (subst q; (try rw [zupE]); rw [if_pos rfl]); (rw [if_neg q]; (repeat rw [zupJ q]); (repeat rw [zupA (by decide)]); rw [hz2.1 57 (by decide)]; exact congrFun hJ.2.2.2.2.2.2.2.1 y), by funext y; (repeat rw [zupA (by decide)]); rw [jRow_s h0]; by_cases q : y = 30 * T + i; (subst q; (try rw [zupE]); rw [if_pos rfl]); (rw [if_neg q]; (repeat rw [zupJ q]); (repeat rw [zupA (by decide)]); rw [hz2.1 66 (by decide)]; exact congrFun hJ.2.2.2.2.2.2.2.2 y)⟩
          exact ih (i + 1) _ (by omega) (by omega) (by omega) hJ2 (by (repeat rw [zupA (by decide)]); exact hto)

set_option maxRecDepth 100000 in
set_option maxHeartbeats 4000000 in
theorem l_jtt {d n : Nat} {sh : zSh} {h : zMem} {c f s z : Int} {Q : Option zV → Nat → zSh → zMem → Prop} (hz : 0 ≤ z ∧ z ≤ 2147483647 ∧ z % 10 ≤ 4) (hK : zT yX11_table cX11_table 11 (some .int) (d + 4) 0 0 Q 138 [some (2, 38), some (0, c), some (0, f), some (0, s), some (0, z), some (1, zten (z % 10)), none, none, none, none, none] [] n sh h)  : ∀ (k : Nat) (i : Int), z % 10 - i < (k : Int) → 0 ≤ i → i ≤ z % 10 → zT yX11_table cX11_table 11 (some .int) (d + 4) 0 0 Q 114 [some (2, 38), some (0, c), some (0, f), some (0, s), some (0, z), some (1, zten i), none, some (0, i), none, none, none] [] n sh h := by
  intro k
  induction k with
  | zero => intros; exfalso; omega
  | succ k ih =>
    intro i hk h0 h1
    refine zt_iload dX11_table_114 rfl ?_
    refine zt_iload dX11_table_116 rfl ?_
    refine zt_bipush dX11_table_118 (by decide) ?_
    refine zt_irem dX11_table_120 (by omega) (by decide) (by decide) ?_
    refine zt_topv (v := z % 10) (Int.tmod_eq_emod_of_nonneg (by omega)) ?_
    refine zt_icmp_ge (tgt := 138) dX11_table_121 (by decide) (by omega) (by omega) (fun c_121 => ?_) (fun c_121 => ?_)
    · refine zt_kill_7 ?_
      rw [show z % 10 = i by omega] at hK
      exact hK
    · refine zt_lload dX11_table_124 rfl ?_
      refine zt_ldc2 dX11_table_126 kc_X11_301 ?_
      refine zt_lmul dX11_table_129 ?_
      refine zt_topv (v := zten (i + 1)) (zten_s h0).symm ?_
      refine zt_lstore_5 dX11_table_130 (by decide) rfl ?_
      refine zt_iinc_7 dX11_table_132 (by decide) rfl ?_
      refine zt_goto (tgt := 114) dX11_table_135 (by decide) ?_
      exact ih (i + 1) (by omega) (by omega) (by omega)

set_option maxRecDepth 100000 in
set_option maxHeartbeats 4000000 in
theorem c_jtab {d n : Nat} {sh : zSh} {h : zMem} {c f s z : Int} {w : zFr → zFr} (hS : zShp sh) (hR : zRf h) (hB : mB h) (hc : zi32 c) (hf : zi32 f) (hs : zi32 s) (hz : zi32 z) (hN : ∀ c, 0 ≤ c → c < h 38 12 → 0 ≤ h 45 c ∧ h 45 c ≤ 200) (hsg : (0 ≤ c ∧ c < h 38 12) → mseg (h 43) (h 44) (200 * c) (200 * c + h 45 c) w) : zM yX11_table cX11_table 11 (some .int) (d + 4) 0 0 [(2, 38), (0, c), (0, f), (0, s), (0, z)] n sh h (fun r n1 sh1 h1 => n1 = n ∧ sh1 = sh ∧ ((((0 ≤ c ∧ c < h 38 12) ∧ (-1000 ≤ f ∧ f ≤ 1000) ∧ (0 ≤ s ∧ 1 ≤ s / 1000 ∧ s / 1000 ≤ 100 ∧ 1 ≤ s % 1000 ∧ s % 1000 ≤ 100) ∧ (0 ≤ z ∧ 4 ≤ z / 10 ∧ z / 10 ≤ 30 ∧ z % 10 ≤ 4) ∧ h 38 17 < 5) ∧ r = some (0, h 38 17) ∧ ∃ g, jTb h g (h 38 17) (z / 10) (z / 10) (fun j => frd (w (fr (f + j * (s / 1000)) (s % 1000))) (z % 10)) ∧ g 38 17 = h 38 17 ∧ h1 = zup g 38 17 (h 38 17 + 1)) ∨ (¬ ((0 ≤ c ∧ c < h 38 12) ∧ (-1000 ≤ f ∧ f ≤ 1000) ∧ (0 ≤ s ∧ 1 ≤ s / 1000 ∧ s / 1000 ≤ 100 ∧ 1 ≤ s % 1000 ∧ s % 1000 ≤ 100) ∧ (0 ≤ z ∧ 4 ≤ z / 10 ∧ z / 10 ≤ 30 ∧ z % 10 ≤ 4) ∧ h 38 17 < 5) ∧ r = some (0, -1) ∧ h1 = h))) := by
  refine zM.ofT2 (by decide +kernel) [some (2, 38), some (0, c), some (0, f), some (0, s), some (0, z), none, none, none, none, none, none] rfl (Nat.le_of_ble_eq_true rfl) ?_
  refine zt_rg (fun hm => ?_)
  have b1 := hB.1
  have b3 := hB.2.2.1
  have b4 := hB.2.2.2.1
  have b5 := hB.2.2.2.2.1
  have b6 := hB.2.2.2.2.2.1
  have b7 := hB.2.2.2.2.2.2.1
  have b8 := hB.2.2.2.2.2.2.2.1
  have b9 := hB.2.2.2.2.2.2.2.2.1
  have b10 := hB.2.2.2.2.2.2.2.2.2.1
  have b11 := hB.2.2.2.2.2.2.2.2.2.2
  refine zt_iload_n dX11_table_0 rfl ?_
  refine zt_i2l dX11_table_1 (by omega) ?_
  refine zt_lconst (v := 0) dX11_table_2 rfl ?_
  refine zt_aload_n dX11_table_3 rfl ?_
  refine zt_get dX11_table_4 fl_X11_239 (zs_38 hS) ?_
  refine zt_iconst dX11_table_7 ?_
  refine zt_isub dX11_table_8 ?_
  refine zt_i2l dX11_table_9 (by omega) ?_
  refine zt_callS3r dX11_table_10 ml_X11_143 (Nat.le_of_ble_eq_true rfl) (c_min_ (x := c) (y := 0) (z := (h 38 12) - 1) (by omega) (by decide) (by omega)) ?_
  refine zt_ifb_eq (tgt := 106) dX11_table_13 (by decide) (fun c_13 => ?_) (fun c_13 => ?_)
  · refine zt_iconst dX11_table_106 ?_
    exact zt_iret dX11_table_107 ⟨rfl, rfl, Or.inr ⟨fun q => by have q1 := q.1; have q2 := q.2.1; have q3 := q.2.2.1; have q4 := q.2.2.2.1; have q5 := q.2.2.2.2; omega, rfl, rfl⟩⟩
  · refine zt_iload_n dX11_table_16 rfl ?_
    refine zt_i2l dX11_table_17 (by omega) ?_
    refine zt_ldc2 dX11_table_18 kc_X11_290 ?_
    refine zt_ldc2 dX11_table_21 kc_X11_292 ?_
    refine zt_callS3r dX11_table_24 ml_X11_143 (Nat.le_of_ble_eq_true rfl) (c_min_ (x := f) (y := -1000) (z := 1000) (by omega) (by decide) (by decide)) ?_
    refine zt_ifb_eq (tgt := 106) dX11_table_27 (by decide) (fun c_27 => ?_) (fun c_27 => ?_)
    · refine zt_iconst dX11_table_106 ?_
      exact zt_iret dX11_table_107 ⟨rfl, rfl, Or.inr ⟨fun q => by have q1 := q.1; have q2 := q.2.1; have q3 := q.2.2.1; have q4 := q.2.2.2.1; have q5 := q.2.2.2.2; omega, rfl, rfl⟩⟩
    · refine zt_iload_n dX11_table_30 rfl ?_
      refine zt_if_lt (tgt := 106) dX11_table_31 (by decide) (by omega) (fun c_31 => ?_) (fun c_31 => ?_)
      · refine zt_iconst dX11_table_106 ?_
        exact zt_iret dX11_table_107 ⟨rfl, rfl, Or.inr ⟨fun q => by have q1 := q.1; have q2 := q.2.1; have q3 := q.2.2.1; have q4 := q.2.2.2.1; have q5 := q.2.2.2.2; omega, rfl, rfl⟩⟩
      · refine zt_iload_n dX11_table_34 rfl ?_
        refine zt_sipush dX11_table_35 (by decide) ?_
        refine zt_idiv dX11_table_38 (by omega) (by decide) (by decide) ?_
        refine zt_topv (v := s / 1000) (Int.tdiv_eq_ediv_of_nonneg (by omega)) ?_
        refine zt_i2l dX11_table_39 (by omega) ?_
        refine zt_lconst (v := 1) dX11_table_40 rfl ?_
        refine zt_ldc2 dX11_table_41 kc_X11_270 ?_
        refine zt_callS3r dX11_table_44 ml_X11_143 (Nat.le_of_ble_eq_true rfl) (c_min_ (x := s / 1000) (y := 1) (z := 100) (by omega) (by decide) (by decide)) ?_
        refine zt_ifb_eq (tgt := 106) dX11_table_47 (by decide) (fun c_47 => ?_) (fun c_47 => ?_)
        · refine zt_iconst dX11_table_106 ?_
          exact zt_iret dX11_table_107 ⟨rfl, rfl, Or.inr ⟨fun q => by have q1 := q.1; have q2 := q.2.1; have q3 := q.2.2.1; have q4 := q.2.2.2.1; have q5 := q.2.2.2.2; omega, rfl, rfl⟩⟩
        · refine zt_iload_n dX11_table_50 rfl ?_
          refine zt_sipush dX11_table_51 (by decide) ?_
          refine zt_irem dX11_table_54 (by omega) (by decide) (by decide) ?_
          refine zt_topv (v := s % 1000) (Int.tmod_eq_emod_of_nonneg (by omega)) ?_
          refine zt_i2l dX11_table_55 (by omega) ?_
          refine zt_lconst (v := 1) dX11_table_56 rfl ?_
          refine zt_ldc2 dX11_table_57 kc_X11_270 ?_
          refine zt_callS3r dX11_table_60 ml_X11_143 (Nat.le_of_ble_eq_true rfl) (c_min_ (x := s % 1000) (y := 1) (z := 100) (by omega) (by decide) (by decide)) ?_
          refine zt_ifb_eq (tgt := 106) dX11_table_63 (by decide) (fun c_63 => ?_) (fun c_63 => ?_)
          · refine zt_iconst dX11_table_106 ?_
            exact zt_iret dX11_table_107 ⟨rfl, rfl, Or.inr ⟨fun q => by have q1 := q.1; have q2 := q.2.1; have q3 := q.2.2.1; have q4 := q.2.2.2.1; have q5 := q.2.2.2.2; omega, rfl, rfl⟩⟩
          · refine zt_iload dX11_table_66 rfl ?_
            refine zt_if_lt (tgt := 106) dX11_table_68 (by decide) (by omega) (fun c_68 => ?_) (fun c_68 => ?_)
            · refine zt_iconst dX11_table_106 ?_
              exact zt_iret dX11_table_107 ⟨rfl, rfl, Or.inr ⟨fun q => by have q1 := q.1; have q2 := q.2.1; have q3 := q.2.2.1; have q4 := q.2.2.2.1; have q5 := q.2.2.2.2; omega, rfl, rfl⟩⟩
            · refine zt_iload dX11_table_71 rfl ?_
              refine zt_bipush dX11_table_73 (by decide) ?_
              refine zt_idiv dX11_table_75 (by omega) (by decide) (by decide) ?_
              refine zt_topv (v := z / 10) (Int.tdiv_eq_ediv_of_nonneg (by omega)) ?_
              refine zt_i2l dX11_table_76 (by omega) ?_
              refine zt_ldc2 dX11_table_77 kc_X11_294 ?_
              refine zt_ldc2 dX11_table_80 kc_X11_296 ?_
              refine zt_callS3r dX11_table_83 ml_X11_143 (Nat.le_of_ble_eq_true rfl) (c_min_ (x := z / 10) (y := 4) (z := 30) (by omega) (by decide) (by decide)) ?_
              refine zt_ifb_eq (tgt := 106) dX11_table_86 (by decide) (fun c_86 => ?_) (fun c_86 => ?_)
              · refine zt_iconst dX11_table_106 ?_
                exact zt_iret dX11_table_107 ⟨rfl, rfl, Or.inr ⟨fun q => by have q1 := q.1; have q2 := q.2.1; have q3 := q.2.2.1; have q4 := q.2.2.2.1; have q5 := q.2.2.2.2; omega, rfl, rfl⟩⟩
              · refine zt_iload dX11_table_89 rfl ?_
                refine zt_bipush dX11_table_91 (by decide) ?_
                refine zt_irem dX11_table_93 (by omega) (by decide) (by decide) ?_
                refine zt_topv (v := z % 10) (Int.tmod_eq_emod_of_nonneg (by omega)) ?_
                refine zt_iconst dX11_table_94 ?_
                refine zt_icmp_gt (tgt := 106) dX11_table_95 (by decide) (by omega) (by decide) (fun c_95 => ?_) (fun c_95 => ?_)
                · refine zt_iconst dX11_table_106 ?_
                  exact zt_iret dX11_table_107 ⟨rfl, rfl, Or.inr ⟨fun q => by have q1 := q.1; have q2 := q.2.1; have q3 := q.2.2.1; have q4 := q.2.2.2.1; have q5 := q.2.2.2.2; omega, rfl, rfl⟩⟩
                · refine zt_aload_n dX11_table_98 rfl ?_
                  refine zt_get dX11_table_99 fl_X11_298 (zs_38 hS) ?_
                  refine zt_iconst dX11_table_102 ?_
                  refine zt_icmp_ne (tgt := 108) dX11_table_103 (by decide) (by omega) (by decide) (fun c_103 => ?_) (fun c_103 => ?_)
                  · refine zt_lconst (v := 1) dX11_table_108 rfl ?_
                    refine zt_lstore_5 dX11_table_109 (by decide) rfl ?_
                    refine zt_iconst dX11_table_111 ?_
                    refine zt_istore_7 dX11_table_112 (by decide) rfl ?_
                    refine l_jtt ⟨by omega, by omega, by omega⟩ ?_ 5 0 (by omega) (by omega) (by omega)
                    refine zt_aload_n dX11_table_138 rfl ?_
                    refine zt_getv dX11_table_139 fl_X11_32 (zs_38 hS) (rf_38_18 hR) ?_
                    refine zt_aload_n dX11_table_142 rfl ?_
                    refine zt_get dX11_table_143 fl_X11_298 (zs_38 hS) ?_
                    refine zt_iload dX11_table_146 rfl ?_
                    refine zt_bipush dX11_table_148 (by decide) ?_
                    refine zt_idiv dX11_table_150 (by omega) (by decide) (by decide) ?_
                    refine zt_topv (v := z / 10) (Int.tdiv_eq_ediv_of_nonneg (by omega)) ?_
                    refine zt_iastore dX11_table_151 (zs_46 hS) (by decide) (by omega) (by omega) (by omega) ?_
                    refine zt_iconst dX11_table_152 ?_
                    refine zt_istore_7 dX11_table_153 (by decide) rfl ?_
                    have hC : ((0 ≤ c ∧ c < h 38 12) ∧ (-1000 ≤ f ∧ f ≤ 1000) ∧ (0 ≤ s ∧ 1 ≤ s / 1000 ∧ s / 1000 ≤ 100 ∧ 1 ≤ s % 1000 ∧ s % 1000 ≤ 100) ∧ (0 ≤ z ∧ 4 ≤ z / 10 ∧ z / 10 ≤ 30 ∧ z % 10 ≤ 4) ∧ h 38 17 < 5) := ⟨by omega, by omega, by omega, by omega, by omega⟩
                    have hJ : jTb h (zup h 46 (h 38 17) (z / 10)) (h 38 17) (z / 10) 0 (fun j => frd (w (fr (f + j * (s / 1000)) (s % 1000))) (z % 10)) := ⟨fun x a1 a2 a3 a4 a5 a6 a7 a8 a9 => by rw [zup_ne a4], fun y a b => by rw [zupA (by decide)], (hR.upA (by decide)), fun y => by by_cases q : y = h 38 17; (rw [if_pos q, q, zupE]); (rw [if_neg q, zupJ q]), by rw [jRow_0, zup_ne (by decide)], by rw [jRow_0, zup_ne (by decide)], by rw [jRow_0, zup_ne (by decide)], by rw [jRow_0, zup_ne (by decide)], by rw [jRow_0, zup_ne (by decide)]⟩
                    refine zt_mono (fun r n1 sh1 h1 q => ⟨q.2.1, q.2.2.1, Or.inl ⟨hC, q.1, q.2.2.2⟩⟩) (l_jtb (h := h) (w := w) hS (by omega) (hN c (by omega) (by omega)) (hsg (by omega)) hC.2.1 hC.2.2.1 hC.2.2.2.1 (by omega) 31 0 _ (by omega) (by omega) (by omega) hJ (by rw [zupA (by decide)]))
                  · refine zt_iconst dX11_table_106 ?_
                    exact zt_iret dX11_table_107 ⟨rfl, rfl, Or.inr ⟨fun q => by have q1 := q.1; have q2 := q.2.1; have q3 := q.2.2.1; have q4 := q.2.2.2.1; have q5 := q.2.2.2.2; omega, rfl, rfl⟩⟩

