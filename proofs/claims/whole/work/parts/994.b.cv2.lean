/-- what stands in the reference after the heaps R (the last one first) -/
def mvV (h g : zMem) (R : List Int) : Prop := (∀ x, x ≠ 38 → x ≠ 77 → x ≠ 79 → g x = h x) ∧ (∀ y, y ≠ 61 → y ≠ 62 → g 38 y = h 38 y) ∧ zRf g ∧ g 38 61 = R.length ∧ (R = [] → g 38 62 = -1) ∧ (R ≠ [] → g 38 62 = (sB R).2) ∧ (∀ k : Nat, k < R.length → g 79 k = R.reverse.getD k 0) ∧ ∀ x ∈ R, 0 ≤ x ∧ x < 1048576
def alp (y : Int → Int) (c : List Int) : Bool := c.all (fun x => decide (y x ≠ -2147483648))
noncomputable def mF (y : Int → Int) (e : Int) (L : Nat) (c : List Int) : Int := hpN (qm y e c) y L
noncomputable def mAll (y : Int → Int) (e : Int) (L K : Nat) : List Int := ((CL (iot 0 L) K).filter (alp y)).map (mF y e L)
def mvA (y : Int → Int) (e : Int) (L K : Nat) (o : Int) (c R : List Int) : Prop := (o = 1 ∧ chF L 0 c ∧ mAll y e L K = R.reverse ++ ((rem L c).filter (alp y)).map (mF y e L)) ∨ (o = 0 ∧ mAll y e L K = R.reverse)
theorem mvV_b {h g : zMem} {R : List Int} (q : mvV h g R) : g 38 62 = -1 ∨ (0 ≤ g 38 62 ∧ g 38 62 < 1048576) := by
  by_cases c : R = []
  · exact Or.inl (q.2.2.2.2.1 c)
  · rw [q.2.2.2.2.2.1 c]; exact Or.inr (q.2.2.2.2.2.2.2 _ (sB_mem R c).1)
theorem jTr_38 {h : zMem} {H y : Int} (h1 : y ≠ 61) (h2 : y ≠ 62) : jTr h H 38 y = h 38 y := by
  unfold jTr
  rw [zupJ h1, zupA (by decide)]
  split
  · exact zupJ h2
  · rfl
theorem jTr_ne {h : zMem} {H x : Int} (h1 : x ≠ 38) (h2 : x ≠ 79) : jTr h H x = h x := by
  unfold jTr
  rw [zup_ne h1, zup_ne h2]
  split
  · exact zup_ne h1
  · rfl
theorem jTr_rf {h : zMem} {H : Int} (hR : zRf h) : zRf (jTr h H) := by
  unfold jTr
  refine zRf.up (zRf.upA ?_ (by decide)) (by decide)
  split
  · exact hR.up (by decide)
  · exact hR
theorem mvV_add {h g : zMem} {R : List Int} {H : Int} (q : mvV h g R) (hH : 0 ≤ H ∧ H < 1048576) : mvV h (jTr g H) (H :: R) := by
  obtain ⟨q1, q2, q3, q4, q5, q6, q7, q8⟩ := q
  refine ⟨fun x a b c => (jTr_ne a c).trans (q1 x a b c), fun y a b => (jTr_38 a b).trans (q2 y a b), jTr_rf q3, ?_, fun z => absurd z (by simp), fun _ => ?_, fun k hk => ?_, srV_mem hH q8⟩
  · unfold jTr; rw [zupE, q4, List.length_cons]; omega
  · have hb := bts_20 H
    show (zup (zup _ 79 _ H) 38 61 _) 38 62 = _
    rw [zupJ (by decide), zupA (by decide)]
    by_cases c : R = []
    · have e := q5 c
      rw [if_pos (Or.inl e), zupE, c]
      rw [sB_lt (show bts H < (sB []).1 by show bts H < 21; omega)]
    · have e := q6 c
      have hm := sB_mem R c
      have hr := q8 _ hm.1
      by_cases c2 : bts H < (sB R).1
      · rw [if_pos (Or.inr (by rw [e, hm.2]; exact c2)), zupE, sB_lt c2]
      · rw [if_neg (fun z => by
          rcases z with z | z
          · omega
          · rw [e, hm.2] at z; exact c2 z), sB_ge (by omega)]
        exact e
  · unfold jTr
    rw [List.length_cons] at hk
    rw [zupA (by decide), List.reverse_cons]
    by_cases c : k = R.length
    · rw [c, q4, zupE, List.getD_eq_getElem?_getD, List.getElem?_append_right (by rw [List.length_reverse]; exact Nat.le_refl _)]
      simp
    · rw [zupJ (by rw [q4]; omega)]
      have e : (if g 38 62 = -1 ∨ bts H < bts (g 38 62) then zup g 38 62 H else g) 79 k = g 79 k := by
        split
        · exact zupA (by decide)
        · rfl
      rw [e, q7 k (by omega), List.getD_eq_getElem?_getD, List.getD_eq_getElem?_getD, List.getElem?_append_left (by rw [List.length_reverse]; omega)]
theorem mvV_77 {h g : zMem} {R : List Int} {j v : Int} (q : mvV h g R) : mvV h (zup g 77 j v) R := by
  obtain ⟨q1, q2, q3, q4, q5, q6, q7, q8⟩ := q
  exact ⟨fun x a b c => by rw [zup_ne b]; exact q1 x a b c, fun y a b => by rw [zupA (by decide)]; exact q2 y a b, q3.upA (by decide), by rw [zupA (by decide)]; exact q4, fun z => by rw [zupA (by decide)]; exact q5 z, fun z => by rw [zupA (by decide)]; exact q6 z, fun k hk => by rw [zupA (by decide)]; exact q7 k hk, q8⟩
theorem mvA_len {y : Int → Int} {e o : Int} {L K : Nat} {c R : List Int} (hK : K ≤ 4) (hl : L ≤ 20) (h : mvA y e L K o c R) : R.length ≤ 4845 := by
  have hc := cnb_le L (by omega) K (by omega)
  have h1 : (mAll y e L K).length ≤ cnb L K := by
    unfold mAll
    rw [List.length_map]
    refine Nat.le_trans (List.length_filter_le _ _) ?_
    rw [CL_len, iot_len]; exact Nat.le_refl _
  have h2 : R.length ≤ (mAll y e L K).length := by
    rcases h with ⟨_, _, h⟩ | ⟨_, h⟩
    · rw [h, List.length_append, List.length_reverse]; omega
    · rw [h, List.length_reverse]; exact Nat.le_refl _
  omega
/-- before the next choice: c is done -/
def mvB (y : Int → Int) (e : Int) (L K : Nat) (c R : List Int) : Prop := mAll y e L K = R.reverse ++ ((match nx L c with | none => [] | some r => rem L r).filter (alp y)).map (mF y e L)
theorem mvB_yes {y : Int → Int} {e : Int} {L K : Nat} {c R : List Int} (ha : mAll y e L K = R.reverse ++ ((rem L c).filter (alp y)).map (mF y e L)) (hp : alp y c = true) : mvB y e L K c (mF y e L c :: R) := by
  unfold mvB
  rw [ha, rem_nx, List.filter_cons_of_pos hp]
  cases nx (L : Int) c <;> simp
theorem mvB_no {y : Int → Int} {e : Int} {L K : Nat} {c R : List Int} (ha : mAll y e L K = R.reverse ++ ((rem L c).filter (alp y)).map (mF y e L)) (hp : ¬ alp y c = true) : mvB y e L K c R := by
  unfold mvB
  rw [ha, rem_nx, List.filter_cons_of_neg hp]
  cases nx (L : Int) c <;> simp
theorem mvA_some {y : Int → Int} {e : Int} {L K : Nat} {c c' R : List Int} (hc : chF L 0 c) (hb : mvB y e L K c R) (hn : nx L c = some c') : mvA y e L K 1 c' R := by
  refine Or.inl ⟨rfl, chF_nx c 0 c' hc hn, ?_⟩
  unfold mvB at hb
  rw [hn] at hb
  exact hb
theorem mvA_none {y : Int → Int} {e : Int} {L K : Nat} {c c' R : List Int} (hb : mvB y e L K c R) (hn : nx L c = none) : mvA y e L K 0 c' R := by
  refine Or.inr ⟨rfl, ?_⟩
  unfold mvB at hb
  rw [hn] at hb
  simpa using hb
theorem rem_lt {L : Int} {c c' : List Int} (hn : nx L c = some c') : (rem L c').length < (rem L c).length := by
  rw [rem_nx L c, hn]; simp

set_option maxRecDepth 100000 in
set_option maxHeartbeats 4000000 in
theorem l_cvn1 {d n : Nat} {sh : zSh} {h g : zMem} {Q : Option zV → Nat → zSh → zMem → Prop} {e th : Int} {R : List Int} (hS : zShp sh) (hL : 0 ≤ h 38 50 ∧ h 38 50 ≤ 20) (hr1 : ∀ i, 0 ≤ i → i < h 38 50 → h 71 i = -2147483648 ∨ (-999999 ≤ h 71 i ∧ h 71 i ≤ 999999)) (he : 0 ≤ e ∧ e ≤ 9) (hih : ∀ (o : Int) (g1 : zMem), mvV h g1 R → mvA (h 71) e (h 38 50).toNat 1 o (lst (g1 77) 1) R → (o = 1 → (rem (h 38 50).toNat (lst (g1 77) 1)).length < (rem (h 38 50).toNat (lst (g 77) 1)).length) → zT yX11_curves cX11_curves 8 (some .boolean) (d + 2) 0 0 Q 111 [some (2, 38), some (0, 0), some (0, e), some (0, th), some (0, o), none, none, none] [] n sh g1) (hV : mvV h g R) (hch : chF (h 38 50).toNat 0 (lst (g 77) 1)) (hB : mvB (h 71) e (h 38 50).toNat 1 (lst (g 77) 1) R) : zT yX11_curves cX11_curves 8 (some .boolean) (d + 2) 0 0 Q 175 [some (2, 38), some (0, 0), some (0, e), some (0, th), some (0, 1), none, none, none] [] n sh g := by
  have hc : 0 ≤ g 77 0 ∧ g 77 0 + 1 ≤ ((h 38 50).toNat : Int) := hch
  have e50 : g 38 50 = h 38 50 := hV.2.1 50 (by decide) (by decide)
  have eL : (((h 38 50).toNat : Nat) : Int) = h 38 50 := by omega
  rw [eL] at hc
  refine zt_iload_n dX11_curves_175 rfl ?_
  refine zt_istore_6 dX11_curves_176 (by decide) rfl ?_
  refine zt_iload dX11_curves_178 rfl ?_
  refine zt_if_lt (tgt := 210) dX11_curves_180 (by decide) (by decide) (fun q => absurd q (by decide)) (fun c_180 => ?_)
  refine zt_aload_n dX11_curves_183 rfl ?_
  refine zt_getv dX11_curves_184 fl_X11_131 (zs_38 hS) (rf_38_58 hV.2.2.1) ?_
  refine zt_iload dX11_curves_187 rfl ?_
  refine zt_iaload dX11_curves_189 (zs_77 hS) (by decide) (by decide) (by decide) ?_
  refine zt_aload_n dX11_curves_190 rfl ?_
  refine zt_getv (v := h 38 50) dX11_curves_191 fl_X11_388 (zs_38 hS) e50 ?_
  refine zt_iconst dX11_curves_194 ?_
  refine zt_isub dX11_curves_195 ?_
  refine zt_iload_n dX11_curves_196 rfl ?_
  refine zt_iload dX11_curves_197 rfl ?_
  refine zt_isub dX11_curves_199 ?_
  refine zt_topv (v := 0) (by decide) ?_
  refine zt_isub dX11_curves_200 ?_
  refine zt_icmp_ne (tgt := 210) dX11_curves_201 (by decide) (by omega) (by omega) (fun c_201 => ?_) (fun c_201 => ?_)
  · refine zt_iload dX11_curves_210 rfl ?_
    refine zt_if_lt (tgt := 219) dX11_curves_212 (by decide) (by decide) (fun q => absurd q (by decide)) (fun c_212 => ?_)
    refine zt_iconst dX11_curves_215 ?_
    refine zt_goto (tgt := 220) dX11_curves_216 (by decide) ?_
    refine zt_istore_4 dX11_curves_220 (by decide) rfl ?_
    refine zt_iload dX11_curves_222 rfl ?_
    refine zt_if_ne (tgt := 230) dX11_curves_224 (by decide) (by decide) (fun c_224 => ?_) (fun q => absurd q (by decide))
    refine zt_aload_n dX11_curves_230 rfl ?_
    refine zt_getv dX11_curves_231 fl_X11_131 (zs_38 hS) (rf_38_58 hV.2.2.1) ?_
    refine zt_iload dX11_curves_234 rfl ?_
    refine zt_dup2 dX11_curves_236 (Nat.ne_of_beq_eq_false rfl) (Nat.ne_of_beq_eq_false rfl) ?_
    refine zt_iaload dX11_curves_237 (zs_77 hS) (by decide) (by decide) (by decide) ?_
    refine zt_iconst dX11_curves_238 ?_
    refine zt_iadd dX11_curves_239 ?_
    refine zt_iastore dX11_curves_240 (zs_77 hS) (by decide) (by decide) (by decide) (by omega) ?_
    refine zt_iload dX11_curves_241 rfl ?_
    refine zt_iconst dX11_curves_243 ?_
    refine zt_iadd dX11_curves_244 ?_
    refine zt_topv (v := 1) (by decide) ?_
    refine zt_istore_7 dX11_curves_245 (by decide) rfl ?_
    refine zt_iload dX11_curves_247 rfl ?_
    refine zt_iload_n dX11_curves_249 rfl ?_
    refine zt_icmp_gt (tgt := 277) dX11_curves_250 (by decide) (by decide) (by decide) (fun c_250 => ?_) (fun q => absurd q (by decide))
    refine zt_goto (tgt := 111) dX11_curves_277 (by decide) ?_
    refine zt_kill_5 (zt_kill_6 (zt_kill_7 ?_))
    have hz : nx (((h 38 50).toNat : Nat) : Int) (lst (g 77) 1) = some (lst ((zup g 77 0 ((g 77 0) + 1)) 77) 1) := by
      show nx (((h 38 50).toNat : Nat) : Int) [g 77 0] = some [(zup g 77 0 ((g 77 0) + 1)) 77 0]
      (repeat first | rw [zupE] | rw [zupA (by decide)] | rw [zupJ (by decide)])
      rw [nx1]
      (repeat rw [if_neg (by omega)])
      rw [if_pos (by omega)]
      (try simp only [Int.add_assoc, Int.reduceAdd])
    exact hih 1 _ (mvV_77 hV) (mvA_some hch hB hz) (fun _ => rem_lt hz)
  · refine zt_iincv_6 (v := -1) dX11_curves_204 (by decide) rfl (by decide) ?_
    refine zt_goto (tgt := 178) dX11_curves_207 (by decide) ?_
    refine zt_iload dX11_curves_178 rfl ?_
    refine zt_if_lt (tgt := 210) dX11_curves_180 (by decide) (by decide) (fun c_180 => ?_) (fun q => absurd q (by decide))
    refine zt_iload dX11_curves_210 rfl ?_
    refine zt_if_lt (tgt := 219) dX11_curves_212 (by decide) (by decide) (fun c_212 => ?_) (fun q => absurd q (by decide))
    refine zt_iconst dX11_curves_219 ?_
    refine zt_istore_4 dX11_curves_220 (by decide) rfl ?_
    refine zt_iload dX11_curves_222 rfl ?_
    refine zt_if_ne (tgt := 230) dX11_curves_224 (by decide) (by decide) (fun q => absurd q (by decide)) (fun c_224 => ?_)
    refine zt_goto (tgt := 111) dX11_curves_227 (by decide) ?_
    refine zt_kill_5 (zt_kill_6 (zt_kill_7 ?_))
    have hz : nx (((h 38 50).toNat : Nat) : Int) (lst (g 77) 1) = none := by
      show nx (((h 38 50).toNat : Nat) : Int) [g 77 0] = none
      rw [nx1]
      (repeat rw [if_neg (by omega)])
    exact hih 0 _ hV (mvA_none hB hz) (fun z => absurd z (by decide))


set_option maxRecDepth 100000 in
set_option maxHeartbeats 4000000 in
theorem l_cvw1 {d n : Nat} {sh : zSh} {h : zMem} {e th : Int} (hS : zShp sh) (hL : 0 ≤ h 38 50 ∧ h 38 50 ≤ 20) (hr1 : ∀ i, 0 ≤ i → i < h 38 50 → h 71 i = -2147483648 ∨ (-999999 ≤ h 71 i ∧ h 71 i ≤ 999999)) (he : 0 ≤ e ∧ e ≤ 9)  : ∀ (k : Nat) (o : Int) (g : zMem) (R : List Int), (o = 1 → (rem (h 38 50).toNat (lst (g 77) 1)).length < k) → 0 < k → mvV h g R → mvA (h 71) e (h 38 50).toNat 1 o (lst (g 77) 1) R → zT yX11_curves cX11_curves 8 (some .boolean) (d + 2) 0 0 (fun r n1 sh1 h1 => r = some (0, 1) ∧ n1 = n ∧ sh1 = sh ∧ mvV h h1 (mAll (h 71) e (h 38 50).toNat 1).reverse) 111 [some (2, 38), some (0, 0), some (0, e), some (0, th), some (0, o), none, none, none] [] n sh g := by
  intro k
  induction k with
  | zero => intro o g R hk hk0; omega
  | succ k ih =>
    intro o g R hk hk0 hV hA
    refine zt_iload dX11_curves_111 rfl ?_
    have ho01 : o = 0 ∨ o = 1 := by rcases hA with q | q; exact Or.inr q.1; exact Or.inl q.1
    refine zt_if_eq (tgt := 280) dX11_curves_113 (by decide) (by omega) (fun c_113 => ?_) (fun c_113 => ?_)
    · refine zt_iconst dX11_curves_280 ?_
      exact zt_zret dX11_curves_281 (by decide) ⟨rfl, rfl, rfl, by rcases hA with ⟨q, _⟩ | ⟨_, q⟩; (exfalso; omega); (rw [q, List.reverse_reverse]; exact hV)⟩
    · have ho : o = 1 := by rcases hA with q | q; exact q.1; omega
      subst ho
      obtain ⟨_, hch, hall⟩ : _ ∧ chF (h 38 50).toNat 0 (lst (g 77) 1) ∧ _ := by rcases hA with q | q; exact q; exact absurd q.1 (by decide)
      have hc : 0 ≤ g 77 0 ∧ g 77 0 + 1 ≤ ((h 38 50).toNat : Int) := hch
      have eL : (((h 38 50).toNat : Nat) : Int) = h 38 50 := by omega
      rw [eL] at hc
      have e71 : g 71 = h 71 := hV.1 71 (by decide) (by decide) (by decide)
      have e50 : g 38 50 = h 38 50 := hV.2.1 50 (by decide) (by decide)
      refine zt_iconst dX11_curves_116 ?_
      refine zt_istore_5 dX11_curves_117 (by decide) rfl ?_
      refine zt_iconst dX11_curves_119 ?_
      refine zt_istore_6 dX11_curves_120 (by decide) rfl ?_
      refine zt_iload dX11_curves_122 rfl ?_
      refine zt_iload_n dX11_curves_124 rfl ?_
      refine zt_icmp_gt (tgt := 164) dX11_curves_125 (by decide) (by decide) (by decide) (fun q => absurd q (by decide)) (fun c_125 => ?_)
      refine zt_iload dX11_curves_128 rfl ?_
      refine zt_if_eq (tgt := 155) dX11_curves_130 (by decide) (by decide) (fun q => absurd q (by decide)) (fun c_130 => ?_)
      refine zt_aload_n dX11_curves_133 rfl ?_
      refine zt_getv dX11_curves_134 fl_X11_112 (zs_38 hS) (rf_38_51 hV.2.2.1) ?_
      refine zt_aload_n dX11_curves_137 rfl ?_
      refine zt_getv dX11_curves_138 fl_X11_131 (zs_38 hS) (rf_38_58 hV.2.2.1) ?_
      refine zt_iload dX11_curves_141 rfl ?_
      refine zt_iaload dX11_curves_143 (zs_77 hS) (by decide) (by decide) (by decide) ?_
      refine zt_ialoadv (v := h 71 (g 77 0)) dX11_curves_144 (zs_71 hS) (by decide) (by omega) (by omega) (congrFun e71 _) ?_
      refine zt_ldc_w dX11_curves_145 kc_X11_283 ?_
      refine zt_icmp_eq (tgt := 155) dX11_curves_148 (by decide) (by rcases hr1 (g 77 0) (by omega) (by omega) with q | q <;> omega) (by decide) (fun c_148 => ?_) (fun c_148 => ?_)
      · have v0 := c_148
        refine zt_iconst dX11_curves_155 ?_
        refine zt_istore_5 dX11_curves_156 (by decide) rfl ?_
        refine zt_iincv_6 (v := 1) dX11_curves_158 (by decide) rfl (by decide) ?_
        refine zt_goto (tgt := 122) dX11_curves_161 (by decide) ?_
        refine zt_iload dX11_curves_122 rfl ?_
        refine zt_iload_n dX11_curves_124 rfl ?_
        refine zt_icmp_gt (tgt := 164) dX11_curves_125 (by decide) (by decide) (by decide) (fun c_125 => ?_) (fun q => absurd q (by decide))
        have hp : ¬ alp (h 71) (lst (g 77) 1) = true := by
          show ¬ List.all [g 77 0] _ = true
          simp only [List.all_cons, List.all_nil, Bool.and_true, Bool.and_eq_true, decide_eq_true_eq]
          intro z
          first | exact z v0
        refine zt_iload dX11_curves_164 rfl ?_
        refine zt_if_eq (tgt := 175) dX11_curves_166 (by decide) (by decide) (fun c_166 => ?_) (fun q => absurd q (by decide))
        refine zt_kill_5 (zt_kill_6 ?_)
        exact l_cvn1 hS hL hr1 he (fun o g1 q1 q2 q3 => ih o g1 _ (fun z => by have := q3 z; have := hk rfl; omega) (by have := hk rfl; have e := rem_nx (((h 38 50).toNat : Nat) : Int) (lst (g 77) 1); rw [e, List.length_cons] at this; omega) q1 q2) hV hch (mvB_no hall hp)
      · have v0 := c_148
        refine zt_iconst dX11_curves_151 ?_
        refine zt_goto (tgt := 156) dX11_curves_152 (by decide) ?_
        refine zt_istore_5 dX11_curves_156 (by decide) rfl ?_
        refine zt_iincv_6 (v := 1) dX11_curves_158 (by decide) rfl (by decide) ?_
        refine zt_goto (tgt := 122) dX11_curves_161 (by decide) ?_
        refine zt_iload dX11_curves_122 rfl ?_
        refine zt_iload_n dX11_curves_124 rfl ?_
        refine zt_icmp_gt (tgt := 164) dX11_curves_125 (by decide) (by decide) (by decide) (fun c_125 => ?_) (fun q => absurd q (by decide))
        have hp : alp (h 71) (lst (g 77) 1) = true := by
          show List.all [g 77 0] _ = true
          simp only [List.all_cons, List.all_nil, Bool.and_true, Bool.and_eq_true, decide_eq_true_eq]
          exact v0
        refine zt_iload dX11_curves_164 rfl ?_
        refine zt_if_eq (tgt := 175) dX11_curves_166 (by decide) (by decide) (fun q => absurd q (by decide)) (fun c_166 => ?_)
        refine zt_aload_n dX11_curves_169 rfl ?_
        refine zt_iload_n dX11_curves_170 rfl ?_
        refine zt_iload_n dX11_curves_171 rfl ?_
        refine zt_callV2v dX11_curves_172 ml_X11_403 (zs_38 hS) (Nat.le_of_ble_eq_true rfl) (zF.of_eq rfl rfl rfl (show jTr g (hpN (qm (g 71) e [g 77 0]) (g 71) (g 38 50).toNat) = jTr g (mF (h 71) e (h 38 50).toNat (lst (g 77) 1)) by rw [e71, e50]; rfl) (c_try1 hS hV.2.2.1 (by rw [e50]; exact hL) (by rw [e50, e71]; exact hr1) (by have := mvA_len (by decide) (by omega) hA; have := hV.2.2.2.1; omega) (mvV_b hV) he rfl rfl (by rw [e71]; rcases hr1 (g 77 0) (by omega) (by omega) with q | q; exact absurd q v0; exact q) (by omega))) ?_
        have e77 : jTr g (mF (h 71) e (h 38 50).toNat (lst (g 77) 1)) 77 = g 77 := jTr_ne (by decide) (by decide)
        have hHb : 0 ≤ mF (h 71) e (h 38 50).toNat (lst (g 77) 1) ∧ mF (h 71) e (h 38 50).toNat (lst (g 77) 1) < 1048576 := by
          have q := hpN_b (q := qm (h 71) e (lst (g 77) 1)) (g := h 71) (h 38 50).toNat
          have q2 := zpw_le (show (h 38 50).toNat ≤ 20 by omega)
          have q3 : (2 : Int) ^ 20 = 1048576 := by decide
          unfold mF; omega
        refine zt_kill_5 (zt_kill_6 ?_)
        exact l_cvn1 hS hL hr1 he (fun o g1 q1 q2 q3 => ih o g1 _ (fun z => by have := q3 z; rw [e77] at this; have := hk rfl; omega) (by have := hk rfl; have e := rem_nx (((h 38 50).toNat : Nat) : Int) (lst (g 77) 1); rw [e, List.length_cons] at this; omega) q1 q2) (mvV_add hV hHb) (by rw [e77]; exact hch) (by rw [e77]; exact mvB_yes hall hp)

set_option maxRecDepth 100000 in
set_option maxHeartbeats 4000000 in
theorem l_cvn2 {d n : Nat} {sh : zSh} {h g : zMem} {Q : Option zV → Nat → zSh → zMem → Prop} {e th : Int} {R : List Int} (hS : zShp sh) (hL : 0 ≤ h 38 50 ∧ h 38 50 ≤ 20) (hr1 : ∀ i, 0 ≤ i → i < h 38 50 → h 71 i = -2147483648 ∨ (-999999 ≤ h 71 i ∧ h 71 i ≤ 999999)) (he : 0 ≤ e ∧ e ≤ 9) (hih : ∀ (o : Int) (g1 : zMem), mvV h g1 R → mvA (h 71) e (h 38 50).toNat 2 o (lst (g1 77) 2) R → (o = 1 → (rem (h 38 50).toNat (lst (g1 77) 2)).length < (rem (h 38 50).toNat (lst (g 77) 2)).length) → zT yX11_curves cX11_curves 8 (some .boolean) (d + 2) 0 0 Q 111 [some (2, 38), some (0, 1), some (0, e), some (0, th), some (0, o), none, none, none] [] n sh g1) (hV : mvV h g R) (hch : chF (h 38 50).toNat 0 (lst (g 77) 2)) (hB : mvB (h 71) e (h 38 50).toNat 2 (lst (g 77) 2) R) : zT yX11_curves cX11_curves 8 (some .boolean) (d + 2) 0 0 Q 175 [some (2, 38), some (0, 1), some (0, e), some (0, th), some (0, 1), none, none, none] [] n sh g := by
  have hc : 0 ≤ g 77 0 ∧ g 77 0 + 1 ≤ g 77 1 ∧ g 77 1 + 1 ≤ ((h 38 50).toNat : Int) := hch
  have e50 : g 38 50 = h 38 50 := hV.2.1 50 (by decide) (by decide)
  have eL : (((h 38 50).toNat : Nat) : Int) = h 38 50 := by omega
  rw [eL] at hc
  refine zt_iload_n dX11_curves_175 rfl ?_
  refine zt_istore_6 dX11_curves_176 (by decide) rfl ?_
  refine zt_iload dX11_curves_178 rfl ?_
  refine zt_if_lt (tgt := 210) dX11_curves_180 (by decide) (by decide) (fun q => absurd q (by decide)) (fun c_180 => ?_)
  refine zt_aload_n dX11_curves_183 rfl ?_
  refine zt_getv dX11_curves_184 fl_X11_131 (zs_38 hS) (rf_38_58 hV.2.2.1) ?_
  refine zt_iload dX11_curves_187 rfl ?_
  refine zt_iaload dX11_curves_189 (zs_77 hS) (by decide) (by decide) (by decide) ?_
  refine zt_aload_n dX11_curves_190 rfl ?_
  refine zt_getv (v := h 38 50) dX11_curves_191 fl_X11_388 (zs_38 hS) e50 ?_
  refine zt_iconst dX11_curves_194 ?_
  refine zt_isub dX11_curves_195 ?_
  refine zt_iload_n dX11_curves_196 rfl ?_
  refine zt_iload dX11_curves_197 rfl ?_
  refine zt_isub dX11_curves_199 ?_
  refine zt_topv (v := 0) (by decide) ?_
  refine zt_isub dX11_curves_200 ?_
  refine zt_icmp_ne (tgt := 210) dX11_curves_201 (by decide) (by omega) (by omega) (fun c_201 => ?_) (fun c_201 => ?_)
  · refine zt_iload dX11_curves_210 rfl ?_
    refine zt_if_lt (tgt := 219) dX11_curves_212 (by decide) (by decide) (fun q => absurd q (by decide)) (fun c_212 => ?_)
    refine zt_iconst dX11_curves_215 ?_
    refine zt_goto (tgt := 220) dX11_curves_216 (by decide) ?_
    refine zt_istore_4 dX11_curves_220 (by decide) rfl ?_
    refine zt_iload dX11_curves_222 rfl ?_
    refine zt_if_ne (tgt := 230) dX11_curves_224 (by decide) (by decide) (fun c_224 => ?_) (fun q => absurd q (by decide))
    refine zt_aload_n dX11_curves_230 rfl ?_
    refine zt_getv dX11_curves_231 fl_X11_131 (zs_38 hS) (rf_38_58 hV.2.2.1) ?_
    refine zt_iload dX11_curves_234 rfl ?_
    refine zt_dup2 dX11_curves_236 (Nat.ne_of_beq_eq_false rfl) (Nat.ne_of_beq_eq_false rfl) ?_
    refine zt_iaload dX11_curves_237 (zs_77 hS) (by decide) (by decide) (by decide) ?_
    refine zt_iconst dX11_curves_238 ?_
    refine zt_iadd dX11_curves_239 ?_
    refine zt_iastore dX11_curves_240 (zs_77 hS) (by decide) (by decide) (by decide) (by omega) ?_
    refine zt_iload dX11_curves_241 rfl ?_
    refine zt_iconst dX11_curves_243 ?_
    refine zt_iadd dX11_curves_244 ?_
    refine zt_topv (v := 2) (by decide) ?_
    refine zt_istore_7 dX11_curves_245 (by decide) rfl ?_
    refine zt_iload dX11_curves_247 rfl ?_
    refine zt_iload_n dX11_curves_249 rfl ?_
    refine zt_icmp_gt (tgt := 277) dX11_curves_250 (by decide) (by decide) (by decide) (fun c_250 => ?_) (fun q => absurd q (by decide))
    refine zt_goto (tgt := 111) dX11_curves_277 (by decide) ?_
    refine zt_kill_5 (zt_kill_6 (zt_kill_7 ?_))
    have hz : nx (((h 38 50).toNat : Nat) : Int) (lst (g 77) 2) = some (lst ((zup g 77 1 ((g 77 1) + 1)) 77) 2) := by
      show nx (((h 38 50).toNat : Nat) : Int) [g 77 0, g 77 1] = some [(zup g 77 1 ((g 77 1) + 1)) 77 0, (zup g 77 1 ((g 77 1) + 1)) 77 1]
      (repeat first | rw [zupE] | rw [zupA (by decide)] | rw [zupJ (by decide)])
      rw [nx2]
      (repeat rw [if_neg (by omega)])
      rw [if_pos (by omega)]
      (try simp only [Int.add_assoc, Int.reduceAdd])
    exact hih 1 _ (mvV_77 hV) (mvA_some hch hB hz) (fun _ => rem_lt hz)
  · refine zt_iincv_6 (v := 0) dX11_curves_204 (by decide) rfl (by decide) ?_
    refine zt_goto (tgt := 178) dX11_curves_207 (by decide) ?_
    refine zt_iload dX11_curves_178 rfl ?_
    refine zt_if_lt (tgt := 210) dX11_curves_180 (by decide) (by decide) (fun q => absurd q (by decide)) (fun c_180 => ?_)
    refine zt_aload_n dX11_curves_183 rfl ?_
    refine zt_getv dX11_curves_184 fl_X11_131 (zs_38 hS) (rf_38_58 hV.2.2.1) ?_
    refine zt_iload dX11_curves_187 rfl ?_
    refine zt_iaload dX11_curves_189 (zs_77 hS) (by decide) (by decide) (by decide) ?_
    refine zt_aload_n dX11_curves_190 rfl ?_
    refine zt_getv (v := h 38 50) dX11_curves_191 fl_X11_388 (zs_38 hS) e50 ?_
    refine zt_iconst dX11_curves_194 ?_
    refine zt_isub dX11_curves_195 ?_
    refine zt_iload_n dX11_curves_196 rfl ?_
    refine zt_iload dX11_curves_197 rfl ?_
    refine zt_isub dX11_curves_199 ?_
    refine zt_topv (v := 1) (by decide) ?_
    refine zt_isub dX11_curves_200 ?_
    refine zt_icmp_ne (tgt := 210) dX11_curves_201 (by decide) (by omega) (by omega) (fun c_201 => ?_) (fun c_201 => ?_)
    · refine zt_iload dX11_curves_210 rfl ?_
      refine zt_if_lt (tgt := 219) dX11_curves_212 (by decide) (by decide) (fun q => absurd q (by decide)) (fun c_212 => ?_)
      refine zt_iconst dX11_curves_215 ?_
      refine zt_goto (tgt := 220) dX11_curves_216 (by decide) ?_
      refine zt_istore_4 dX11_curves_220 (by decide) rfl ?_
      refine zt_iload dX11_curves_222 rfl ?_
      refine zt_if_ne (tgt := 230) dX11_curves_224 (by decide) (by decide) (fun c_224 => ?_) (fun q => absurd q (by decide))
      refine zt_aload_n dX11_curves_230 rfl ?_
      refine zt_getv dX11_curves_231 fl_X11_131 (zs_38 hS) (rf_38_58 hV.2.2.1) ?_
      refine zt_iload dX11_curves_234 rfl ?_
      refine zt_dup2 dX11_curves_236 (Nat.ne_of_beq_eq_false rfl) (Nat.ne_of_beq_eq_false rfl) ?_
      refine zt_iaload dX11_curves_237 (zs_77 hS) (by decide) (by decide) (by decide) ?_
      refine zt_iconst dX11_curves_238 ?_
      refine zt_iadd dX11_curves_239 ?_
      refine zt_iastore dX11_curves_240 (zs_77 hS) (by decide) (by decide) (by decide) (by omega) ?_
      refine zt_iload dX11_curves_241 rfl ?_
      refine zt_iconst dX11_curves_243 ?_
      refine zt_iadd dX11_curves_244 ?_
      refine zt_topv (v := 1) (by decide) ?_
      refine zt_istore_7 dX11_curves_245 (by decide) rfl ?_
      refine zt_iload dX11_curves_247 rfl ?_
      refine zt_iload_n dX11_curves_249 rfl ?_
      refine zt_icmp_gt (tgt := 277) dX11_curves_250 (by decide) (by decide) (by decide) (fun q => absurd q (by decide)) (fun c_250 => ?_)
      refine zt_aload_n dX11_curves_253 rfl ?_
      refine zt_getv dX11_curves_254 fl_X11_131 (zs_38 hS) (rf_38_58 (hV.2.2.1.upA (by decide))) ?_
      refine zt_iload dX11_curves_257 rfl ?_
      refine zt_aload_n dX11_curves_259 rfl ?_
      refine zt_getv dX11_curves_260 fl_X11_131 (zs_38 hS) (rf_38_58 (hV.2.2.1.upA (by decide))) ?_
      refine zt_iload dX11_curves_263 rfl ?_
      refine zt_iconst dX11_curves_265 ?_
      refine zt_isub dX11_curves_266 ?_
      refine zt_topv (v := 0) (by decide) ?_
      refine zt_ialoadv (v := (g 77 0) + 1) dX11_curves_267 (zs_77 hS) (by decide) (by decide) (by decide) zupE ?_
      refine zt_iconst dX11_curves_268 ?_
      refine zt_iadd dX11_curves_269 ?_
      refine zt_iastore dX11_curves_270 (zs_77 hS) (by decide) (by decide) (by decide) (by omega) ?_
      refine zt_iincv_7 (v := 2) dX11_curves_271 (by decide) rfl (by decide) ?_
      refine zt_goto (tgt := 247) dX11_curves_274 (by decide) ?_
      refine zt_iload dX11_curves_247 rfl ?_
      refine zt_iload_n dX11_curves_249 rfl ?_
      refine zt_icmp_gt (tgt := 277) dX11_curves_250 (by decide) (by decide) (by decide) (fun c_250 => ?_) (fun q => absurd q (by decide))
      refine zt_goto (tgt := 111) dX11_curves_277 (by decide) ?_
      refine zt_kill_5 (zt_kill_6 (zt_kill_7 ?_))
      have hz : nx (((h 38 50).toNat : Nat) : Int) (lst (g 77) 2) = some (lst ((zup (zup g 77 0 ((g 77 0) + 1)) 77 1 (((g 77 0) + 1) + 1)) 77) 2) := by
        show nx (((h 38 50).toNat : Nat) : Int) [g 77 0, g 77 1] = some [(zup (zup g 77 0 ((g 77 0) + 1)) 77 1 (((g 77 0) + 1) + 1)) 77 0, (zup (zup g 77 0 ((g 77 0) + 1)) 77 1 (((g 77 0) + 1) + 1)) 77 1]
        (repeat first | rw [zupE] | rw [zupA (by decide)] | rw [zupJ (by decide)])
        rw [nx2]
        (repeat rw [if_neg (by omega)])
        rw [if_pos (by omega)]
        (try simp only [Int.add_assoc, Int.reduceAdd])
      exact hih 1 _ (mvV_77 (mvV_77 hV)) (mvA_some hch hB hz) (fun _ => rem_lt hz)
    · refine zt_iincv_6 (v := -1) dX11_curves_204 (by decide) rfl (by decide) ?_
      refine zt_goto (tgt := 178) dX11_curves_207 (by decide) ?_
      refine zt_iload dX11_curves_178 rfl ?_
      refine zt_if_lt (tgt := 210) dX11_curves_180 (by decide) (by decide) (fun c_180 => ?_) (fun q => absurd q (by decide))
      refine zt_iload dX11_curves_210 rfl ?_
      refine zt_if_lt (tgt := 219) dX11_curves_212 (by decide) (by decide) (fun c_212 => ?_) (fun q => absurd q (by decide))
      refine zt_iconst dX11_curves_219 ?_
      refine zt_istore_4 dX11_curves_220 (by decide) rfl ?_
      refine zt_iload dX11_curves_222 rfl ?_
      refine zt_if_ne (tgt := 230) dX11_curves_224 (by decide) (by decide) (fun q => absurd q (by decide)) (fun c_224 => ?_)
      refine zt_goto (tgt := 111) dX11_curves_227 (by decide) ?_
      refine zt_kill_5 (zt_kill_6 (zt_kill_7 ?_))
      have hz : nx (((h 38 50).toNat : Nat) : Int) (lst (g 77) 2) = none := by
        show nx (((h 38 50).toNat : Nat) : Int) [g 77 0, g 77 1] = none
        rw [nx2]
        (repeat rw [if_neg (by omega)])
      exact hih 0 _ hV (mvA_none hB hz) (fun z => absurd z (by decide))


set_option maxRecDepth 100000 in
set_option maxHeartbeats 4000000 in
theorem l_cvw2 {d n : Nat} {sh : zSh} {h : zMem} {e th : Int} (hS : zShp sh) (hL : 0 ≤ h 38 50 ∧ h 38 50 ≤ 20) (hr1 : ∀ i, 0 ≤ i → i < h 38 50 → h 71 i = -2147483648 ∨ (-999999 ≤ h 71 i ∧ h 71 i ≤ 999999)) (he : 0 ≤ e ∧ e ≤ 9)  : ∀ (k : Nat) (o : Int) (g : zMem) (R : List Int), (o = 1 → (rem (h 38 50).toNat (lst (g 77) 2)).length < k) → 0 < k → mvV h g R → mvA (h 71) e (h 38 50).toNat 2 o (lst (g 77) 2) R → zT yX11_curves cX11_curves 8 (some .boolean) (d + 2) 0 0 (fun r n1 sh1 h1 => r = some (0, 1) ∧ n1 = n ∧ sh1 = sh ∧ mvV h h1 (mAll (h 71) e (h 38 50).toNat 2).reverse) 111 [some (2, 38), some (0, 1), some (0, e), some (0, th), some (0, o), none, none, none] [] n sh g := by
  intro k
  induction k with
  | zero => intro o g R hk hk0; omega
  | succ k ih =>
    intro o g R hk hk0 hV hA
    refine zt_iload dX11_curves_111 rfl ?_
    have ho01 : o = 0 ∨ o = 1 := by rcases hA with q | q; exact Or.inr q.1; exact Or.inl q.1
    refine zt_if_eq (tgt := 280) dX11_curves_113 (by decide) (by omega) (fun c_113 => ?_) (fun c_113 => ?_)
    · refine zt_iconst dX11_curves_280 ?_
      exact zt_zret dX11_curves_281 (by decide) ⟨rfl, rfl, rfl, by rcases hA with ⟨q, _⟩ | ⟨_, q⟩; (exfalso; omega); (rw [q, List.reverse_reverse]; exact hV)⟩
    · have ho : o = 1 := by rcases hA with q | q; exact q.1; omega
      subst ho
      obtain ⟨_, hch, hall⟩ : _ ∧ chF (h 38 50).toNat 0 (lst (g 77) 2) ∧ _ := by rcases hA with q | q; exact q; exact absurd q.1 (by decide)
      have hc : 0 ≤ g 77 0 ∧ g 77 0 + 1 ≤ g 77 1 ∧ g 77 1 + 1 ≤ ((h 38 50).toNat : Int) := hch
      have eL : (((h 38 50).toNat : Nat) : Int) = h 38 50 := by omega
      rw [eL] at hc
      have e71 : g 71 = h 71 := hV.1 71 (by decide) (by decide) (by decide)
      have e50 : g 38 50 = h 38 50 := hV.2.1 50 (by decide) (by decide)
      refine zt_iconst dX11_curves_116 ?_
      refine zt_istore_5 dX11_curves_117 (by decide) rfl ?_
      refine zt_iconst dX11_curves_119 ?_
      refine zt_istore_6 dX11_curves_120 (by decide) rfl ?_
      refine zt_iload dX11_curves_122 rfl ?_
      refine zt_iload_n dX11_curves_124 rfl ?_
      refine zt_icmp_gt (tgt := 164) dX11_curves_125 (by decide) (by decide) (by decide) (fun q => absurd q (by decide)) (fun c_125 => ?_)
      refine zt_iload dX11_curves_128 rfl ?_
      refine zt_if_eq (tgt := 155) dX11_curves_130 (by decide) (by decide) (fun q => absurd q (by decide)) (fun c_130 => ?_)
      refine zt_aload_n dX11_curves_133 rfl ?_
      refine zt_getv dX11_curves_134 fl_X11_112 (zs_38 hS) (rf_38_51 hV.2.2.1) ?_
      refine zt_aload_n dX11_curves_137 rfl ?_
      refine zt_getv dX11_curves_138 fl_X11_131 (zs_38 hS) (rf_38_58 hV.2.2.1) ?_
      refine zt_iload dX11_curves_141 rfl ?_
      refine zt_iaload dX11_curves_143 (zs_77 hS) (by decide) (by decide) (by decide) ?_
      refine zt_ialoadv (v := h 71 (g 77 0)) dX11_curves_144 (zs_71 hS) (by decide) (by omega) (by omega) (congrFun e71 _) ?_
      refine zt_ldc_w dX11_curves_145 kc_X11_283 ?_
      refine zt_icmp_eq (tgt := 155) dX11_curves_148 (by decide) (by rcases hr1 (g 77 0) (by omega) (by omega) with q | q <;> omega) (by decide) (fun c_148 => ?_) (fun c_148 => ?_)
      · have v0 := c_148
        refine zt_iconst dX11_curves_155 ?_
        refine zt_istore_5 dX11_curves_156 (by decide) rfl ?_
        refine zt_iincv_6 (v := 1) dX11_curves_158 (by decide) rfl (by decide) ?_
        refine zt_goto (tgt := 122) dX11_curves_161 (by decide) ?_
        refine zt_iload dX11_curves_122 rfl ?_
        refine zt_iload_n dX11_curves_124 rfl ?_
        refine zt_icmp_gt (tgt := 164) dX11_curves_125 (by decide) (by decide) (by decide) (fun q => absurd q (by decide)) (fun c_125 => ?_)
        refine zt_iload dX11_curves_128 rfl ?_
        refine zt_if_eq (tgt := 155) dX11_curves_130 (by decide) (by decide) (fun c_130 => ?_) (fun q => absurd q (by decide))
        refine zt_iconst dX11_curves_155 ?_
        refine zt_istore_5 dX11_curves_156 (by decide) rfl ?_
        refine zt_iincv_6 (v := 2) dX11_curves_158 (by decide) rfl (by decide) ?_
        refine zt_goto (tgt := 122) dX11_curves_161 (by decide) ?_
        refine zt_iload dX11_curves_122 rfl ?_
        refine zt_iload_n dX11_curves_124 rfl ?_
        refine zt_icmp_gt (tgt := 164) dX11_curves_125 (by decide) (by decide) (by decide) (fun c_125 => ?_) (fun q => absurd q (by decide))
        have hp : ¬ alp (h 71) (lst (g 77) 2) = true := by
          show ¬ List.all [g 77 0, g 77 1] _ = true
          simp only [List.all_cons, List.all_nil, Bool.and_true, Bool.and_eq_true, decide_eq_true_eq]
          intro z
          first | exact z.1 v0 | exact z.2 v1
        refine zt_iload dX11_curves_164 rfl ?_
        refine zt_if_eq (tgt := 175) dX11_curves_166 (by decide) (by decide) (fun c_166 => ?_) (fun q => absurd q (by decide))
        refine zt_kill_5 (zt_kill_6 ?_)
        exact l_cvn2 hS hL hr1 he (fun o g1 q1 q2 q3 => ih o g1 _ (fun z => by have := q3 z; have := hk rfl; omega) (by have := hk rfl; have e := rem_nx (((h 38 50).toNat : Nat) : Int) (lst (g 77) 2); rw [e, List.length_cons] at this; omega) q1 q2) hV hch (mvB_no hall hp)
      · have v0 := c_148
        refine zt_iconst dX11_curves_151 ?_
        refine zt_goto (tgt := 156) dX11_curves_152 (by decide) ?_
        refine zt_istore_5 dX11_curves_156 (by decide) rfl ?_
        refine zt_iincv_6 (v := 1) dX11_curves_158 (by decide) rfl (by decide) ?_
        refine zt_goto (tgt := 122) dX11_curves_161 (by decide) ?_
        refine zt_iload dX11_curves_122 rfl ?_
        refine zt_iload_n dX11_curves_124 rfl ?_
        refine zt_icmp_gt (tgt := 164) dX11_curves_125 (by decide) (by decide) (by decide) (fun q => absurd q (by decide)) (fun c_125 => ?_)
        refine zt_iload dX11_curves_128 rfl ?_
        refine zt_if_eq (tgt := 155) dX11_curves_130 (by decide) (by decide) (fun q => absurd q (by decide)) (fun c_130 => ?_)
        refine zt_aload_n dX11_curves_133 rfl ?_
        refine zt_getv dX11_curves_134 fl_X11_112 (zs_38 hS) (rf_38_51 hV.2.2.1) ?_
        refine zt_aload_n dX11_curves_137 rfl ?_
        refine zt_getv dX11_curves_138 fl_X11_131 (zs_38 hS) (rf_38_58 hV.2.2.1) ?_
        refine zt_iload dX11_curves_141 rfl ?_
        refine zt_iaload dX11_curves_143 (zs_77 hS) (by decide) (by decide) (by decide) ?_
        refine zt_ialoadv (v := h 71 (g 77 1)) dX11_curves_144 (zs_71 hS) (by decide) (by omega) (by omega) (congrFun e71 _) ?_
        refine zt_ldc_w dX11_curves_145 kc_X11_283 ?_
        refine zt_icmp_eq (tgt := 155) dX11_curves_148 (by decide) (by rcases hr1 (g 77 1) (by omega) (by omega) with q | q <;> omega) (by decide) (fun c_148 => ?_) (fun c_148 => ?_)
        · have v1 := c_148
          refine zt_iconst dX11_curves_155 ?_
          refine zt_istore_5 dX11_curves_156 (by decide) rfl ?_
          refine zt_iincv_6 (v := 2) dX11_curves_158 (by decide) rfl (by decide) ?_
          refine zt_goto (tgt := 122) dX11_curves_161 (by decide) ?_
          refine zt_iload dX11_curves_122 rfl ?_
          refine zt_iload_n dX11_curves_124 rfl ?_
          refine zt_icmp_gt (tgt := 164) dX11_curves_125 (by decide) (by decide) (by decide) (fun c_125 => ?_) (fun q => absurd q (by decide))
          have hp : ¬ alp (h 71) (lst (g 77) 2) = true := by
            show ¬ List.all [g 77 0, g 77 1] _ = true
            simp only [List.all_cons, List.all_nil, Bool.and_true, Bool.and_eq_true, decide_eq_true_eq]
            intro z
            first | exact z.1 v0 | exact z.2 v1
          refine zt_iload dX11_curves_164 rfl ?_
          refine zt_if_eq (tgt := 175) dX11_curves_166 (by decide) (by decide) (fun c_166 => ?_) (fun q => absurd q (by decide))
          refine zt_kill_5 (zt_kill_6 ?_)
          exact l_cvn2 hS hL hr1 he (fun o g1 q1 q2 q3 => ih o g1 _ (fun z => by have := q3 z; have := hk rfl; omega) (by have := hk rfl; have e := rem_nx (((h 38 50).toNat : Nat) : Int) (lst (g 77) 2); rw [e, List.length_cons] at this; omega) q1 q2) hV hch (mvB_no hall hp)
        · have v1 := c_148
          refine zt_iconst dX11_curves_151 ?_
          refine zt_goto (tgt := 156) dX11_curves_152 (by decide) ?_
          refine zt_istore_5 dX11_curves_156 (by decide) rfl ?_
          refine zt_iincv_6 (v := 2) dX11_curves_158 (by decide) rfl (by decide) ?_
          refine zt_goto (tgt := 122) dX11_curves_161 (by decide) ?_
          refine zt_iload dX11_curves_122 rfl ?_
          refine zt_iload_n dX11_curves_124 rfl ?_
          refine zt_icmp_gt (tgt := 164) dX11_curves_125 (by decide) (by decide) (by decide) (fun c_125 => ?_) (fun q => absurd q (by decide))
          have hp : alp (h 71) (lst (g 77) 2) = true := by
            show List.all [g 77 0, g 77 1] _ = true
            simp only [List.all_cons, List.all_nil, Bool.and_true, Bool.and_eq_true, decide_eq_true_eq]
            exact ⟨v0, v1⟩
          refine zt_iload dX11_curves_164 rfl ?_
          refine zt_if_eq (tgt := 175) dX11_curves_166 (by decide) (by decide) (fun q => absurd q (by decide)) (fun c_166 => ?_)
          refine zt_aload_n dX11_curves_169 rfl ?_
          refine zt_iload_n dX11_curves_170 rfl ?_
          refine zt_iload_n dX11_curves_171 rfl ?_
          refine zt_callV2v dX11_curves_172 ml_X11_403 (zs_38 hS) (Nat.le_of_ble_eq_true rfl) (zF.of_eq rfl rfl rfl (show jTr g (hpN (qm (g 71) e [g 77 0, g 77 1]) (g 71) (g 38 50).toNat) = jTr g (mF (h 71) e (h 38 50).toNat (lst (g 77) 2)) by rw [e71, e50]; rfl) (c_try2 hS hV.2.2.1 (by rw [e50]; exact hL) (by rw [e50, e71]; exact hr1) (by have := mvA_len (by decide) (by omega) hA; have := hV.2.2.2.1; omega) (mvV_b hV) he rfl rfl (by rw [e71]; rcases hr1 (g 77 0) (by omega) (by omega) with q | q; exact absurd q v0; exact q) rfl rfl (by rw [e71]; rcases hr1 (g 77 1) (by omega) (by omega) with q | q; exact absurd q v1; exact q) (by omega))) ?_
          have e77 : jTr g (mF (h 71) e (h 38 50).toNat (lst (g 77) 2)) 77 = g 77 := jTr_ne (by decide) (by decide)
          have hHb : 0 ≤ mF (h 71) e (h 38 50).toNat (lst (g 77) 2) ∧ mF (h 71) e (h 38 50).toNat (lst (g 77) 2) < 1048576 := by
            have q := hpN_b (q := qm (h 71) e (lst (g 77) 2)) (g := h 71) (h 38 50).toNat
            have q2 := zpw_le (show (h 38 50).toNat ≤ 20 by omega)
            have q3 : (2 : Int) ^ 20 = 1048576 := by decide
            unfold mF; omega
          refine zt_kill_5 (zt_kill_6 ?_)
          exact l_cvn2 hS hL hr1 he (fun o g1 q1 q2 q3 => ih o g1 _ (fun z => by have := q3 z; rw [e77] at this; have := hk rfl; omega) (by have := hk rfl; have e := rem_nx (((h 38 50).toNat : Nat) : Int) (lst (g 77) 2); rw [e, List.length_cons] at this; omega) q1 q2) (mvV_add hV hHb) (by rw [e77]; exact hch) (by rw [e77]; exact mvB_yes hall hp)

set_option maxRecDepth 100000 in
set_option maxHeartbeats 4000000 in
theorem l_cvn3 {d n : Nat} {sh : zSh} {h g : zMem} {Q : Option zV → Nat → zSh → zMem → Prop} {e th : Int} {R : List Int} (hS : zShp sh) (hL : 0 ≤ h 38 50 ∧ h 38 50 ≤ 20) (hr1 : ∀ i, 0 ≤ i → i < h 38 50 → h 71 i = -2147483648 ∨ (-999999 ≤ h 71 i ∧ h 71 i ≤ 999999)) (he : 0 ≤ e ∧ e ≤ 9) (hih : ∀ (o : Int) (g1 : zMem), mvV h g1 R → mvA (h 71) e (h 38 50).toNat 3 o (lst (g1 77) 3) R → (o = 1 → (rem (h 38 50).toNat (lst (g1 77) 3)).length < (rem (h 38 50).toNat (lst (g 77) 3)).length) → zT yX11_curves cX11_curves 8 (some .boolean) (d + 2) 0 0 Q 111 [some (2, 38), some (0, 2), some (0, e), some (0, th), some (0, o), none, none, none] [] n sh g1) (hV : mvV h g R) (hch : chF (h 38 50).toNat 0 (lst (g 77) 3)) (hB : mvB (h 71) e (h 38 50).toNat 3 (lst (g 77) 3) R) : zT yX11_curves cX11_curves 8 (some .boolean) (d + 2) 0 0 Q 175 [some (2, 38), some (0, 2), some (0, e), some (0, th), some (0, 1), none, none, none] [] n sh g := by
  have hc : 0 ≤ g 77 0 ∧ g 77 0 + 1 ≤ g 77 1 ∧ g 77 1 + 1 ≤ g 77 2 ∧ g 77 2 + 1 ≤ ((h 38 50).toNat : Int) := hch
  have e50 : g 38 50 = h 38 50 := hV.2.1 50 (by decide) (by decide)
  have eL : (((h 38 50).toNat : Nat) : Int) = h 38 50 := by omega
  rw [eL] at hc
  refine zt_iload_n dX11_curves_175 rfl ?_
  refine zt_istore_6 dX11_curves_176 (by decide) rfl ?_
  refine zt_iload dX11_curves_178 rfl ?_
  refine zt_if_lt (tgt := 210) dX11_curves_180 (by decide) (by decide) (fun q => absurd q (by decide)) (fun c_180 => ?_)
  refine zt_aload_n dX11_curves_183 rfl ?_
  refine zt_getv dX11_curves_184 fl_X11_131 (zs_38 hS) (rf_38_58 hV.2.2.1) ?_
  refine zt_iload dX11_curves_187 rfl ?_
  refine zt_iaload dX11_curves_189 (zs_77 hS) (by decide) (by decide) (by decide) ?_
  refine zt_aload_n dX11_curves_190 rfl ?_
  refine zt_getv (v := h 38 50) dX11_curves_191 fl_X11_388 (zs_38 hS) e50 ?_
  refine zt_iconst dX11_curves_194 ?_
  refine zt_isub dX11_curves_195 ?_
  refine zt_iload_n dX11_curves_196 rfl ?_
  refine zt_iload dX11_curves_197 rfl ?_
  refine zt_isub dX11_curves_199 ?_
  refine zt_topv (v := 0) (by decide) ?_
  refine zt_isub dX11_curves_200 ?_
  refine zt_icmp_ne (tgt := 210) dX11_curves_201 (by decide) (by omega) (by omega) (fun c_201 => ?_) (fun c_201 => ?_)
  · refine zt_iload dX11_curves_210 rfl ?_
    refine zt_if_lt (tgt := 219) dX11_curves_212 (by decide) (by decide) (fun q => absurd q (by decide)) (fun c_212 => ?_)
    refine zt_iconst dX11_curves_215 ?_
    refine zt_goto (tgt := 220) dX11_curves_216 (by decide) ?_
    refine zt_istore_4 dX11_curves_220 (by decide) rfl ?_
    refine zt_iload dX11_curves_222 rfl ?_
    refine zt_if_ne (tgt := 230) dX11_curves_224 (by decide) (by decide) (fun c_224 => ?_) (fun q => absurd q (by decide))
    refine zt_aload_n dX11_curves_230 rfl ?_
    refine zt_getv dX11_curves_231 fl_X11_131 (zs_38 hS) (rf_38_58 hV.2.2.1) ?_
    refine zt_iload dX11_curves_234 rfl ?_
    refine zt_dup2 dX11_curves_236 (Nat.ne_of_beq_eq_false rfl) (Nat.ne_of_beq_eq_false rfl) ?_
    refine zt_iaload dX11_curves_237 (zs_77 hS) (by decide) (by decide) (by decide) ?_
    refine zt_iconst dX11_curves_238 ?_
    refine zt_iadd dX11_curves_239 ?_
    refine zt_iastore dX11_curves_240 (zs_77 hS) (by decide) (by decide) (by decide) (by omega) ?_
    refine zt_iload dX11_curves_241 rfl ?_
    refine zt_iconst dX11_curves_243 ?_
    refine zt_iadd dX11_curves_244 ?_
    refine zt_topv (v := 3) (by decide) ?_
    refine zt_istore_7 dX11_curves_245 (by decide) rfl ?_
    refine zt_iload dX11_curves_247 rfl ?_
    refine zt_iload_n dX11_curves_249 rfl ?_
    refine zt_icmp_gt (tgt := 277) dX11_curves_250 (by decide) (by decide) (by decide) (fun c_250 => ?_) (fun q => absurd q (by decide))
    refine zt_goto (tgt := 111) dX11_curves_277 (by decide) ?_
    refine zt_kill_5 (zt_kill_6 (zt_kill_7 ?_))
    have hz : nx (((h 38 50).toNat : Nat) : Int) (lst (g 77) 3) = some (lst ((zup g 77 2 ((g 77 2) + 1)) 77) 3) := by
      show nx (((h 38 50).toNat : Nat) : Int) [g 77 0, g 77 1, g 77 2] = some [(zup g 77 2 ((g 77 2) + 1)) 77 0, (zup g 77 2 ((g 77 2) + 1)) 77 1, (zup g 77 2 ((g 77 2) + 1)) 77 2]
      (repeat first | rw [zupE] | rw [zupA (by decide)] | rw [zupJ (by decide)])
      rw [nx3]
      (repeat rw [if_neg (by omega)])
      rw [if_pos (by omega)]
      (try simp only [Int.add_assoc, Int.reduceAdd])
    exact hih 1 _ (mvV_77 hV) (mvA_some hch hB hz) (fun _ => rem_lt hz)
  · refine zt_iincv_6 (v := 1) dX11_curves_204 (by decide) rfl (by decide) ?_
    refine zt_goto (tgt := 178) dX11_curves_207 (by decide) ?_
    refine zt_iload dX11_curves_178 rfl ?_
    refine zt_if_lt (tgt := 210) dX11_curves_180 (by decide) (by decide) (fun q => absurd q (by decide)) (fun c_180 => ?_)
    refine zt_aload_n dX11_curves_183 rfl ?_
    refine zt_getv dX11_curves_184 fl_X11_131 (zs_38 hS) (rf_38_58 hV.2.2.1) ?_
    refine zt_iload dX11_curves_187 rfl ?_
    refine zt_iaload dX11_curves_189 (zs_77 hS) (by decide) (by decide) (by decide) ?_
    refine zt_aload_n dX11_curves_190 rfl ?_
    refine zt_getv (v := h 38 50) dX11_curves_191 fl_X11_388 (zs_38 hS) e50 ?_
    refine zt_iconst dX11_curves_194 ?_
    refine zt_isub dX11_curves_195 ?_
    refine zt_iload_n dX11_curves_196 rfl ?_
    refine zt_iload dX11_curves_197 rfl ?_
    refine zt_isub dX11_curves_199 ?_
    refine zt_topv (v := 1) (by decide) ?_
    refine zt_isub dX11_curves_200 ?_
    refine zt_icmp_ne (tgt := 210) dX11_curves_201 (by decide) (by omega) (by omega) (fun c_201 => ?_) (fun c_201 => ?_)
    · refine zt_iload dX11_curves_210 rfl ?_
      refine zt_if_lt (tgt := 219) dX11_curves_212 (by decide) (by decide) (fun q => absurd q (by decide)) (fun c_212 => ?_)
      refine zt_iconst dX11_curves_215 ?_
      refine zt_goto (tgt := 220) dX11_curves_216 (by decide) ?_
      refine zt_istore_4 dX11_curves_220 (by decide) rfl ?_
      refine zt_iload dX11_curves_222 rfl ?_
      refine zt_if_ne (tgt := 230) dX11_curves_224 (by decide) (by decide) (fun c_224 => ?_) (fun q => absurd q (by decide))
      refine zt_aload_n dX11_curves_230 rfl ?_
      refine zt_getv dX11_curves_231 fl_X11_131 (zs_38 hS) (rf_38_58 hV.2.2.1) ?_
      refine zt_iload dX11_curves_234 rfl ?_
      refine zt_dup2 dX11_curves_236 (Nat.ne_of_beq_eq_false rfl) (Nat.ne_of_beq_eq_false rfl) ?_
      refine zt_iaload dX11_curves_237 (zs_77 hS) (by decide) (by decide) (by decide) ?_
      refine zt_iconst dX11_curves_238 ?_
      refine zt_iadd dX11_curves_239 ?_
      refine zt_iastore dX11_curves_240 (zs_77 hS) (by decide) (by decide) (by decide) (by omega) ?_
      refine zt_iload dX11_curves_241 rfl ?_
      refine zt_iconst dX11_curves_243 ?_
      refine zt_iadd dX11_curves_244 ?_
      refine zt_topv (v := 2) (by decide) ?_
      refine zt_istore_7 dX11_curves_245 (by decide) rfl ?_
      refine zt_iload dX11_curves_247 rfl ?_
      refine zt_iload_n dX11_curves_249 rfl ?_
      refine zt_icmp_gt (tgt := 277) dX11_curves_250 (by decide) (by decide) (by decide) (fun q => absurd q (by decide)) (fun c_250 => ?_)
      refine zt_aload_n dX11_curves_253 rfl ?_
      refine zt_getv dX11_curves_254 fl_X11_131 (zs_38 hS) (rf_38_58 (hV.2.2.1.upA (by decide))) ?_
      refine zt_iload dX11_curves_257 rfl ?_
      refine zt_aload_n dX11_curves_259 rfl ?_
      refine zt_getv dX11_curves_260 fl_X11_131 (zs_38 hS) (rf_38_58 (hV.2.2.1.upA (by decide))) ?_
      refine zt_iload dX11_curves_263 rfl ?_
      refine zt_iconst dX11_curves_265 ?_
      refine zt_isub dX11_curves_266 ?_
      refine zt_topv (v := 1) (by decide) ?_
      refine zt_ialoadv (v := (g 77 1) + 1) dX11_curves_267 (zs_77 hS) (by decide) (by decide) (by decide) zupE ?_
      refine zt_iconst dX11_curves_268 ?_
      refine zt_iadd dX11_curves_269 ?_
      refine zt_iastore dX11_curves_270 (zs_77 hS) (by decide) (by decide) (by decide) (by omega) ?_
      refine zt_iincv_7 (v := 3) dX11_curves_271 (by decide) rfl (by decide) ?_
      refine zt_goto (tgt := 247) dX11_curves_274 (by decide) ?_
      refine zt_iload dX11_curves_247 rfl ?_
      refine zt_iload_n dX11_curves_249 rfl ?_
      refine zt_icmp_gt (tgt := 277) dX11_curves_250 (by decide) (by decide) (by decide) (fun c_250 => ?_) (fun q => absurd q (by decide))
      refine zt_goto (tgt := 111) dX11_curves_277 (by decide) ?_
      refine zt_kill_5 (zt_kill_6 (zt_kill_7 ?_))
      have hz : nx (((h 38 50).toNat : Nat) : Int) (lst (g 77) 3) = some (lst ((zup (zup g 77 1 ((g 77 1) + 1)) 77 2 (((g 77 1) + 1) + 1)) 77) 3) := by
        show nx (((h 38 50).toNat : Nat) : Int) [g 77 0, g 77 1, g 77 2] = some [(zup (zup g 77 1 ((g 77 1) + 1)) 77 2 (((g 77 1) + 1) + 1)) 77 0, (zup (zup g 77 1 ((g 77 1) + 1)) 77 2 (((g 77 1) + 1) + 1)) 77 1, (zup (zup g 77 1 ((g 77 1) + 1)) 77 2 (((g 77 1) + 1) + 1)) 77 2]
        (repeat first | rw [zupE] | rw [zupA (by decide)] | rw [zupJ (by decide)])
        rw [nx3]
        (repeat rw [if_neg (by omega)])
        rw [if_pos (by omega)]
        (try simp only [Int.add_assoc, Int.reduceAdd])
      exact hih 1 _ (mvV_77 (mvV_77 hV)) (mvA_some hch hB hz) (fun _ => rem_lt hz)
    · refine zt_iincv_6 (v := 0) dX11_curves_204 (by decide) rfl (by decide) ?_
      refine zt_goto (tgt := 178) dX11_curves_207 (by decide) ?_
      refine zt_iload dX11_curves_178 rfl ?_
      refine zt_if_lt (tgt := 210) dX11_curves_180 (by decide) (by decide) (fun q => absurd q (by decide)) (fun c_180 => ?_)
      refine zt_aload_n dX11_curves_183 rfl ?_
      refine zt_getv dX11_curves_184 fl_X11_131 (zs_38 hS) (rf_38_58 hV.2.2.1) ?_
      refine zt_iload dX11_curves_187 rfl ?_
      refine zt_iaload dX11_curves_189 (zs_77 hS) (by decide) (by decide) (by decide) ?_
      refine zt_aload_n dX11_curves_190 rfl ?_
      refine zt_getv (v := h 38 50) dX11_curves_191 fl_X11_388 (zs_38 hS) e50 ?_
      refine zt_iconst dX11_curves_194 ?_
      refine zt_isub dX11_curves_195 ?_
      refine zt_iload_n dX11_curves_196 rfl ?_
      refine zt_iload dX11_curves_197 rfl ?_
      refine zt_isub dX11_curves_199 ?_
      refine zt_topv (v := 2) (by decide) ?_
      refine zt_isub dX11_curves_200 ?_
      refine zt_icmp_ne (tgt := 210) dX11_curves_201 (by decide) (by omega) (by omega) (fun c_201 => ?_) (fun c_201 => ?_)
      · refine zt_iload dX11_curves_210 rfl ?_
        refine zt_if_lt (tgt := 219) dX11_curves_212 (by decide) (by decide) (fun q => absurd q (by decide)) (fun c_212 => ?_)
        refine zt_iconst dX11_curves_215 ?_
        refine zt_goto (tgt := 220) dX11_curves_216 (by decide) ?_
        refine zt_istore_4 dX11_curves_220 (by decide) rfl ?_
        refine zt_iload dX11_curves_222 rfl ?_
        refine zt_if_ne (tgt := 230) dX11_curves_224 (by decide) (by decide) (fun c_224 => ?_) (fun q => absurd q (by decide))
        refine zt_aload_n dX11_curves_230 rfl ?_
        refine zt_getv dX11_curves_231 fl_X11_131 (zs_38 hS) (rf_38_58 hV.2.2.1) ?_
        refine zt_iload dX11_curves_234 rfl ?_
        refine zt_dup2 dX11_curves_236 (Nat.ne_of_beq_eq_false rfl) (Nat.ne_of_beq_eq_false rfl) ?_
        refine zt_iaload dX11_curves_237 (zs_77 hS) (by decide) (by decide) (by decide) ?_
        refine zt_iconst dX11_curves_238 ?_
        refine zt_iadd dX11_curves_239 ?_
        refine zt_iastore dX11_curves_240 (zs_77 hS) (by decide) (by decide) (by decide) (by omega) ?_
        refine zt_iload dX11_curves_241 rfl ?_
        refine zt_iconst dX11_curves_243 ?_
        refine zt_iadd dX11_curves_244 ?_
        refine zt_topv (v := 1) (by decide) ?_
        refine zt_istore_7 dX11_curves_245 (by decide) rfl ?_
        refine zt_iload dX11_curves_247 rfl ?_
        refine zt_iload_n dX11_curves_249 rfl ?_
        refine zt_icmp_gt (tgt := 277) dX11_curves_250 (by decide) (by decide) (by decide) (fun q => absurd q (by decide)) (fun c_250 => ?_)
        refine zt_aload_n dX11_curves_253 rfl ?_
        refine zt_getv dX11_curves_254 fl_X11_131 (zs_38 hS) (rf_38_58 (hV.2.2.1.upA (by decide))) ?_
        refine zt_iload dX11_curves_257 rfl ?_
        refine zt_aload_n dX11_curves_259 rfl ?_
        refine zt_getv dX11_curves_260 fl_X11_131 (zs_38 hS) (rf_38_58 (hV.2.2.1.upA (by decide))) ?_
        refine zt_iload dX11_curves_263 rfl ?_
        refine zt_iconst dX11_curves_265 ?_
        refine zt_isub dX11_curves_266 ?_
        refine zt_topv (v := 0) (by decide) ?_
        refine zt_ialoadv (v := (g 77 0) + 1) dX11_curves_267 (zs_77 hS) (by decide) (by decide) (by decide) zupE ?_
        refine zt_iconst dX11_curves_268 ?_
        refine zt_iadd dX11_curves_269 ?_
        refine zt_iastore dX11_curves_270 (zs_77 hS) (by decide) (by decide) (by decide) (by omega) ?_
        refine zt_iincv_7 (v := 2) dX11_curves_271 (by decide) rfl (by decide) ?_
        refine zt_goto (tgt := 247) dX11_curves_274 (by decide) ?_
        refine zt_iload dX11_curves_247 rfl ?_
        refine zt_iload_n dX11_curves_249 rfl ?_
        refine zt_icmp_gt (tgt := 277) dX11_curves_250 (by decide) (by decide) (by decide) (fun q => absurd q (by decide)) (fun c_250 => ?_)
        refine zt_aload_n dX11_curves_253 rfl ?_
        refine zt_getv dX11_curves_254 fl_X11_131 (zs_38 hS) (rf_38_58 ((hV.2.2.1.upA (by decide)).upA (by decide))) ?_
        refine zt_iload dX11_curves_257 rfl ?_
        refine zt_aload_n dX11_curves_259 rfl ?_
        refine zt_getv dX11_curves_260 fl_X11_131 (zs_38 hS) (rf_38_58 ((hV.2.2.1.upA (by decide)).upA (by decide))) ?_
        refine zt_iload dX11_curves_263 rfl ?_
        refine zt_iconst dX11_curves_265 ?_
        refine zt_isub dX11_curves_266 ?_
        refine zt_topv (v := 1) (by decide) ?_
        refine zt_ialoadv (v := ((g 77 0) + 1) + 1) dX11_curves_267 (zs_77 hS) (by decide) (by decide) (by decide) zupE ?_
        refine zt_iconst dX11_curves_268 ?_
        refine zt_iadd dX11_curves_269 ?_
        refine zt_iastore dX11_curves_270 (zs_77 hS) (by decide) (by decide) (by decide) (by omega) ?_
        refine zt_iincv_7 (v := 3) dX11_curves_271 (by decide) rfl (by decide) ?_
        refine zt_goto (tgt := 247) dX11_curves_274 (by decide) ?_
        refine zt_iload dX11_curves_247 rfl ?_
        refine zt_iload_n dX11_curves_249 rfl ?_
        refine zt_icmp_gt (tgt := 277) dX11_curves_250 (by decide) (by decide) (by decide) (fun c_250 => ?_) (fun q => absurd q (by decide))
        refine zt_goto (tgt := 111) dX11_curves_277 (by decide) ?_
        refine zt_kill_5 (zt_kill_6 (zt_kill_7 ?_))
        have hz : nx (((h 38 50).toNat : Nat) : Int) (lst (g 77) 3) = some (lst ((zup (zup (zup g 77 0 ((g 77 0) + 1)) 77 1 (((g 77 0) + 1) + 1)) 77 2 ((((g 77 0) + 1) + 1) + 1)) 77) 3) := by
          show nx (((h 38 50).toNat : Nat) : Int) [g 77 0, g 77 1, g 77 2] = some [(zup (zup (zup g 77 0 ((g 77 0) + 1)) 77 1 (((g 77 0) + 1) + 1)) 77 2 ((((g 77 0) + 1) + 1) + 1)) 77 0, (zup (zup (zup g 77 0 ((g 77 0) + 1)) 77 1 (((g 77 0) + 1) + 1)) 77 2 ((((g 77 0) + 1) + 1) + 1)) 77 1, (zup (zup (zup g 77 0 ((g 77 0) + 1)) 77 1 (((g 77 0) + 1) + 1)) 77 2 ((((g 77 0) + 1) + 1) + 1)) 77 2]
          (repeat first | rw [zupE] | rw [zupA (by decide)] | rw [zupJ (by decide)])
          rw [nx3]
          (repeat rw [if_neg (by omega)])
          rw [if_pos (by omega)]
          (try simp only [Int.add_assoc, Int.reduceAdd])
        exact hih 1 _ (mvV_77 (mvV_77 (mvV_77 hV))) (mvA_some hch hB hz) (fun _ => rem_lt hz)
      · refine zt_iincv_6 (v := -1) dX11_curves_204 (by decide) rfl (by decide) ?_
        refine zt_goto (tgt := 178) dX11_curves_207 (by decide) ?_
        refine zt_iload dX11_curves_178 rfl ?_
        refine zt_if_lt (tgt := 210) dX11_curves_180 (by decide) (by decide) (fun c_180 => ?_) (fun q => absurd q (by decide))
        refine zt_iload dX11_curves_210 rfl ?_
        refine zt_if_lt (tgt := 219) dX11_curves_212 (by decide) (by decide) (fun c_212 => ?_) (fun q => absurd q (by decide))
        refine zt_iconst dX11_curves_219 ?_
        refine zt_istore_4 dX11_curves_220 (by decide) rfl ?_
        refine zt_iload dX11_curves_222 rfl ?_
        refine zt_if_ne (tgt := 230) dX11_curves_224 (by decide) (by decide) (fun q => absurd q (by decide)) (fun c_224 => ?_)
        refine zt_goto (tgt := 111) dX11_curves_227 (by decide) ?_
        refine zt_kill_5 (zt_kill_6 (zt_kill_7 ?_))
        have hz : nx (((h 38 50).toNat : Nat) : Int) (lst (g 77) 3) = none := by
          show nx (((h 38 50).toNat : Nat) : Int) [g 77 0, g 77 1, g 77 2] = none
          rw [nx3]
          (repeat rw [if_neg (by omega)])
        exact hih 0 _ hV (mvA_none hB hz) (fun z => absurd z (by decide))


set_option maxRecDepth 100000 in
set_option maxHeartbeats 4000000 in
theorem l_cvw3 {d n : Nat} {sh : zSh} {h : zMem} {e th : Int} (hS : zShp sh) (hL : 0 ≤ h 38 50 ∧ h 38 50 ≤ 20) (hr1 : ∀ i, 0 ≤ i → i < h 38 50 → h 71 i = -2147483648 ∨ (-999999 ≤ h 71 i ∧ h 71 i ≤ 999999)) (he : 0 ≤ e ∧ e ≤ 9)  : ∀ (k : Nat) (o : Int) (g : zMem) (R : List Int), (o = 1 → (rem (h 38 50).toNat (lst (g 77) 3)).length < k) → 0 < k → mvV h g R → mvA (h 71) e (h 38 50).toNat 3 o (lst (g 77) 3) R → zT yX11_curves cX11_curves 8 (some .boolean) (d + 2) 0 0 (fun r n1 sh1 h1 => r = some (0, 1) ∧ n1 = n ∧ sh1 = sh ∧ mvV h h1 (mAll (h 71) e (h 38 50).toNat 3).reverse) 111 [some (2, 38), some (0, 2), some (0, e), some (0, th), some (0, o), none, none, none] [] n sh g := by
  intro k
  induction k with
  | zero => intro o g R hk hk0; omega
  | succ k ih =>
    intro o g R hk hk0 hV hA
    refine zt_iload dX11_curves_111 rfl ?_
    have ho01 : o = 0 ∨ o = 1 := by rcases hA with q | q; exact Or.inr q.1; exact Or.inl q.1
    refine zt_if_eq (tgt := 280) dX11_curves_113 (by decide) (by omega) (fun c_113 => ?_) (fun c_113 => ?_)
    · refine zt_iconst dX11_curves_280 ?_
      exact zt_zret dX11_curves_281 (by decide) ⟨rfl, rfl, rfl, by rcases hA with ⟨q, _⟩ | ⟨_, q⟩; (exfalso; omega); (rw [q, List.reverse_reverse]; exact hV)⟩
    · have ho : o = 1 := by rcases hA with q | q; exact q.1; omega
      subst ho
      obtain ⟨_, hch, hall⟩ : _ ∧ chF (h 38 50).toNat 0 (lst (g 77) 3) ∧ _ := by rcases hA with q | q; exact q; exact absurd q.1 (by decide)
      have hc : 0 ≤ g 77 0 ∧ g 77 0 + 1 ≤ g 77 1 ∧ g 77 1 + 1 ≤ g 77 2 ∧ g 77 2 + 1 ≤ ((h 38 50).toNat : Int) := hch
      have eL : (((h 38 50).toNat : Nat) : Int) = h 38 50 := by omega
      rw [eL] at hc
      have e71 : g 71 = h 71 := hV.1 71 (by decide) (by decide) (by decide)
      have e50 : g 38 50 = h 38 50 := hV.2.1 50 (by decide) (by decide)
      refine zt_iconst dX11_curves_116 ?_
      refine zt_istore_5 dX11_curves_117 (by decide) rfl ?_
      refine zt_iconst dX11_curves_119 ?_
      refine zt_istore_6 dX11_curves_120 (by decide) rfl ?_
      refine zt_iload dX11_curves_122 rfl ?_
      refine zt_iload_n dX11_curves_124 rfl ?_
      refine zt_icmp_gt (tgt := 164) dX11_curves_125 (by decide) (by decide) (by decide) (fun q => absurd q (by decide)) (fun c_125 => ?_)
      refine zt_iload dX11_curves_128 rfl ?_
      refine zt_if_eq (tgt := 155) dX11_curves_130 (by decide) (by decide) (fun q => absurd q (by decide)) (fun c_130 => ?_)
      refine zt_aload_n dX11_curves_133 rfl ?_
      refine zt_getv dX11_curves_134 fl_X11_112 (zs_38 hS) (rf_38_51 hV.2.2.1) ?_
      refine zt_aload_n dX11_curves_137 rfl ?_
      refine zt_getv dX11_curves_138 fl_X11_131 (zs_38 hS) (rf_38_58 hV.2.2.1) ?_
      refine zt_iload dX11_curves_141 rfl ?_
      refine zt_iaload dX11_curves_143 (zs_77 hS) (by decide) (by decide) (by decide) ?_
      refine zt_ialoadv (v := h 71 (g 77 0)) dX11_curves_144 (zs_71 hS) (by decide) (by omega) (by omega) (congrFun e71 _) ?_
      refine zt_ldc_w dX11_curves_145 kc_X11_283 ?_
      refine zt_icmp_eq (tgt := 155) dX11_curves_148 (by decide) (by rcases hr1 (g 77 0) (by omega) (by omega) with q | q <;> omega) (by decide) (fun c_148 => ?_) (fun c_148 => ?_)
      · have v0 := c_148
        refine zt_iconst dX11_curves_155 ?_
        refine zt_istore_5 dX11_curves_156 (by decide) rfl ?_
        refine zt_iincv_6 (v := 1) dX11_curves_158 (by decide) rfl (by decide) ?_
        refine zt_goto (tgt := 122) dX11_curves_161 (by decide) ?_
        refine zt_iload dX11_curves_122 rfl ?_
        refine zt_iload_n dX11_curves_124 rfl ?_
        refine zt_icmp_gt (tgt := 164) dX11_curves_125 (by decide) (by decide) (by decide) (fun q => absurd q (by decide)) (fun c_125 => ?_)
        refine zt_iload dX11_curves_128 rfl ?_
        refine zt_if_eq (tgt := 155) dX11_curves_130 (by decide) (by decide) (fun c_130 => ?_) (fun q => absurd q (by decide))
        refine zt_iconst dX11_curves_155 ?_
        refine zt_istore_5 dX11_curves_156 (by decide) rfl ?_
        refine zt_iincv_6 (v := 2) dX11_curves_158 (by decide) rfl (by decide) ?_
        refine zt_goto (tgt := 122) dX11_curves_161 (by decide) ?_
        refine zt_iload dX11_curves_122 rfl ?_
        refine zt_iload_n dX11_curves_124 rfl ?_
        refine zt_icmp_gt (tgt := 164) dX11_curves_125 (by decide) (by decide) (by decide) (fun q => absurd q (by decide)) (fun c_125 => ?_)
        refine zt_iload dX11_curves_128 rfl ?_
        refine zt_if_eq (tgt := 155) dX11_curves_130 (by decide) (by decide) (fun c_130 => ?_) (fun q => absurd q (by decide))
        refine zt_iconst dX11_curves_155 ?_
        refine zt_istore_5 dX11_curves_156 (by decide) rfl ?_
        refine zt_iincv_6 (v := 3) dX11_curves_158 (by decide) rfl (by decide) ?_
        refine zt_goto (tgt := 122) dX11_curves_161 (by decide) ?_
        refine zt_iload dX11_curves_122 rfl ?_
        refine zt_iload_n dX11_curves_124 rfl ?_
        refine zt_icmp_gt (tgt := 164) dX11_curves_125 (by decide) (by decide) (by decide) (fun c_125 => ?_) (fun q => absurd q (by decide))
        have hp : ¬ alp (h 71) (lst (g 77) 3) = true := by
          show ¬ List.all [g 77 0, g 77 1, g 77 2] _ = true
          simp only [List.all_cons, List.all_nil, Bool.and_true, Bool.and_eq_true, decide_eq_true_eq]
          intro z
          first | exact z.1 v0 | exact z.2.1 v1 | exact z.2.2 v2
        refine zt_iload dX11_curves_164 rfl ?_
        refine zt_if_eq (tgt := 175) dX11_curves_166 (by decide) (by decide) (fun c_166 => ?_) (fun q => absurd q (by decide))
        refine zt_kill_5 (zt_kill_6 ?_)
        exact l_cvn3 hS hL hr1 he (fun o g1 q1 q2 q3 => ih o g1 _ (fun z => by have := q3 z; have := hk rfl; omega) (by have := hk rfl; have e := rem_nx (((h 38 50).toNat : Nat) : Int) (lst (g 77) 3); rw [e, List.length_cons] at this; omega) q1 q2) hV hch (mvB_no hall hp)
      · have v0 := c_148
        refine zt_iconst dX11_curves_151 ?_
        refine zt_goto (tgt := 156) dX11_curves_152 (by decide) ?_
        refine zt_istore_5 dX11_curves_156 (by decide) rfl ?_
        refine zt_iincv_6 (v := 1) dX11_curves_158 (by decide) rfl (by decide) ?_
        refine zt_goto (tgt := 122) dX11_curves_161 (by decide) ?_
        refine zt_iload dX11_curves_122 rfl ?_
        refine zt_iload_n dX11_curves_124 rfl ?_
        refine zt_icmp_gt (tgt := 164) dX11_curves_125 (by decide) (by decide) (by decide) (fun q => absurd q (by decide)) (fun c_125 => ?_)
        refine zt_iload dX11_curves_128 rfl ?_
        refine zt_if_eq (tgt := 155) dX11_curves_130 (by decide) (by decide) (fun q => absurd q (by decide)) (fun c_130 => ?_)
        refine zt_aload_n dX11_curves_133 rfl ?_
        refine zt_getv dX11_curves_134 fl_X11_112 (zs_38 hS) (rf_38_51 hV.2.2.1) ?_
        refine zt_aload_n dX11_curves_137 rfl ?_
        refine zt_getv dX11_curves_138 fl_X11_131 (zs_38 hS) (rf_38_58 hV.2.2.1) ?_
        refine zt_iload dX11_curves_141 rfl ?_
        refine zt_iaload dX11_curves_143 (zs_77 hS) (by decide) (by decide) (by decide) ?_
        refine zt_ialoadv (v := h 71 (g 77 1)) dX11_curves_144 (zs_71 hS) (by decide) (by omega) (by omega) (congrFun e71 _) ?_
        refine zt_ldc_w dX11_curves_145 kc_X11_283 ?_
        refine zt_icmp_eq (tgt := 155) dX11_curves_148 (by decide) (by rcases hr1 (g 77 1) (by omega) (by omega) with q | q <;> omega) (by decide) (fun c_148 => ?_) (fun c_148 => ?_)
        · have v1 := c_148
          refine zt_iconst dX11_curves_155 ?_
          refine zt_istore_5 dX11_curves_156 (by decide) rfl ?_
          refine zt_iincv_6 (v := 2) dX11_curves_158 (by decide) rfl (by decide) ?_
          refine zt_goto (tgt := 122) dX11_curves_161 (by decide) ?_
          refine zt_iload dX11_curves_122 rfl ?_
          refine zt_iload_n dX11_curves_124 rfl ?_
          refine zt_icmp_gt (tgt := 164) dX11_curves_125 (by decide) (by decide) (by decide) (fun q => absurd q (by decide)) (fun c_125 => ?_)
          refine zt_iload dX11_curves_128 rfl ?_
          refine zt_if_eq (tgt := 155) dX11_curves_130 (by decide) (by decide) (fun c_130 => ?_) (fun q => absurd q (by decide))
          refine zt_iconst dX11_curves_155 ?_
          refine zt_istore_5 dX11_curves_156 (by decide) rfl ?_
          refine zt_iincv_6 (v := 3) dX11_curves_158 (by decide) rfl (by decide) ?_
          refine zt_goto (tgt := 122) dX11_curves_161 (by decide) ?_
          refine zt_iload dX11_curves_122 rfl ?_
          refine zt_iload_n dX11_curves_124 rfl ?_
          refine zt_icmp_gt (tgt := 164) dX11_curves_125 (by decide) (by decide) (by decide) (fun c_125 => ?_) (fun q => absurd q (by decide))
          have hp : ¬ alp (h 71) (lst (g 77) 3) = true := by
            show ¬ List.all [g 77 0, g 77 1, g 77 2] _ = true
            simp only [List.all_cons, List.all_nil, Bool.and_true, Bool.and_eq_true, decide_eq_true_eq]
            intro z
            first | exact z.1 v0 | exact z.2.1 v1 | exact z.2.2 v2
          refine zt_iload dX11_curves_164 rfl ?_
          refine zt_if_eq (tgt := 175) dX11_curves_166 (by decide) (by decide) (fun c_166 => ?_) (fun q => absurd q (by decide))
          refine zt_kill_5 (zt_kill_6 ?_)
          exact l_cvn3 hS hL hr1 he (fun o g1 q1 q2 q3 => ih o g1 _ (fun z => by have := q3 z; have := hk rfl; omega) (by have := hk rfl; have e := rem_nx (((h 38 50).toNat : Nat) : Int) (lst (g 77) 3); rw [e, List.length_cons] at this; omega) q1 q2) hV hch (mvB_no hall hp)
        · have v1 := c_148
          refine zt_iconst dX11_curves_151 ?_
          refine zt_goto (tgt := 156) dX11_curves_152 (by decide) ?_
          refine zt_istore_5 dX11_curves_156 (by decide) rfl ?_
          refine zt_iincv_6 (v := 2) dX11_curves_158 (by decide) rfl (by decide) ?_
          refine zt_goto (tgt := 122) dX11_curves_161 (by decide) ?_
          refine zt_iload dX11_curves_122 rfl ?_
          refine zt_iload_n dX11_curves_124 rfl ?_
          refine zt_icmp_gt (tgt := 164) dX11_curves_125 (by decide) (by decide) (by decide) (fun q => absurd q (by decide)) (fun c_125 => ?_)
          refine zt_iload dX11_curves_128 rfl ?_
          refine zt_if_eq (tgt := 155) dX11_curves_130 (by decide) (by decide) (fun q => absurd q (by decide)) (fun c_130 => ?_)
          refine zt_aload_n dX11_curves_133 rfl ?_
          refine zt_getv dX11_curves_134 fl_X11_112 (zs_38 hS) (rf_38_51 hV.2.2.1) ?_
          refine zt_aload_n dX11_curves_137 rfl ?_
          refine zt_getv dX11_curves_138 fl_X11_131 (zs_38 hS) (rf_38_58 hV.2.2.1) ?_
          refine zt_iload dX11_curves_141 rfl ?_
          refine zt_iaload dX11_curves_143 (zs_77 hS) (by decide) (by decide) (by decide) ?_
          refine zt_ialoadv (v := h 71 (g 77 2)) dX11_curves_144 (zs_71 hS) (by decide) (by omega) (by omega) (congrFun e71 _) ?_
          refine zt_ldc_w dX11_curves_145 kc_X11_283 ?_
          refine zt_icmp_eq (tgt := 155) dX11_curves_148 (by decide) (by rcases hr1 (g 77 2) (by omega) (by omega) with q | q <;> omega) (by decide) (fun c_148 => ?_) (fun c_148 => ?_)
          · have v2 := c_148
            refine zt_iconst dX11_curves_155 ?_
            refine zt_istore_5 dX11_curves_156 (by decide) rfl ?_
            refine zt_iincv_6 (v := 3) dX11_curves_158 (by decide) rfl (by decide) ?_
            refine zt_goto (tgt := 122) dX11_curves_161 (by decide) ?_
            refine zt_iload dX11_curves_122 rfl ?_
            refine zt_iload_n dX11_curves_124 rfl ?_
            refine zt_icmp_gt (tgt := 164) dX11_curves_125 (by decide) (by decide) (by decide) (fun c_125 => ?_) (fun q => absurd q (by decide))
            have hp : ¬ alp (h 71) (lst (g 77) 3) = true := by
              show ¬ List.all [g 77 0, g 77 1, g 77 2] _ = true
              simp only [List.all_cons, List.all_nil, Bool.and_true, Bool.and_eq_true, decide_eq_true_eq]
              intro z
              first | exact z.1 v0 | exact z.2.1 v1 | exact z.2.2 v2
            refine zt_iload dX11_curves_164 rfl ?_
            refine zt_if_eq (tgt := 175) dX11_curves_166 (by decide) (by decide) (fun c_166 => ?_) (fun q => absurd q (by decide))
            refine zt_kill_5 (zt_kill_6 ?_)
            exact l_cvn3 hS hL hr1 he (fun o g1 q1 q2 q3 => ih o g1 _ (fun z => by have := q3 z; have := hk rfl; omega) (by have := hk rfl; have e := rem_nx (((h 38 50).toNat : Nat) : Int) (lst (g 77) 3); rw [e, List.length_cons] at this; omega) q1 q2) hV hch (mvB_no hall hp)
          · have v2 := c_148
            refine zt_iconst dX11_curves_151 ?_
            refine zt_goto (tgt := 156) dX11_curves_152 (by decide) ?_
            refine zt_istore_5 dX11_curves_156 (by decide) rfl ?_
            refine zt_iincv_6 (v := 3) dX11_curves_158 (by decide) rfl (by decide) ?_
            refine zt_goto (tgt := 122) dX11_curves_161 (by decide) ?_
            refine zt_iload dX11_curves_122 rfl ?_
            refine zt_iload_n dX11_curves_124 rfl ?_
            refine zt_icmp_gt (tgt := 164) dX11_curves_125 (by decide) (by decide) (by decide) (fun c_125 => ?_) (fun q => absurd q (by decide))
            have hp : alp (h 71) (lst (g 77) 3) = true := by
              show List.all [g 77 0, g 77 1, g 77 2] _ = true
              simp only [List.all_cons, List.all_nil, Bool.and_true, Bool.and_eq_true, decide_eq_true_eq]
              exact ⟨v0, v1, v2⟩
            refine zt_iload dX11_curves_164 rfl ?_
            refine zt_if_eq (tgt := 175) dX11_curves_166 (by decide) (by decide) (fun q => absurd q (by decide)) (fun c_166 => ?_)
            refine zt_aload_n dX11_curves_169 rfl ?_
            refine zt_iload_n dX11_curves_170 rfl ?_
            refine zt_iload_n dX11_curves_171 rfl ?_
            refine zt_callV2v dX11_curves_172 ml_X11_403 (zs_38 hS) (Nat.le_of_ble_eq_true rfl) (zF.of_eq rfl rfl rfl (show jTr g (hpN (qm (g 71) e [g 77 0, g 77 1, g 77 2]) (g 71) (g 38 50).toNat) = jTr g (mF (h 71) e (h 38 50).toNat (lst (g 77) 3)) by rw [e71, e50]; rfl) (c_try3 hS hV.2.2.1 (by rw [e50]; exact hL) (by rw [e50, e71]; exact hr1) (by have := mvA_len (by decide) (by omega) hA; have := hV.2.2.2.1; omega) (mvV_b hV) he rfl rfl (by rw [e71]; rcases hr1 (g 77 0) (by omega) (by omega) with q | q; exact absurd q v0; exact q) rfl rfl (by rw [e71]; rcases hr1 (g 77 1) (by omega) (by omega) with q | q; exact absurd q v1; exact q) rfl rfl (by rw [e71]; rcases hr1 (g 77 2) (by omega) (by omega) with q | q; exact absurd q v2; exact q) (by omega))) ?_
            have e77 : jTr g (mF (h 71) e (h 38 50).toNat (lst (g 77) 3)) 77 = g 77 := jTr_ne (by decide) (by decide)
            have hHb : 0 ≤ mF (h 71) e (h 38 50).toNat (lst (g 77) 3) ∧ mF (h 71) e (h 38 50).toNat (lst (g 77) 3) < 1048576 := by
              have q := hpN_b (q := qm (h 71) e (lst (g 77) 3)) (g := h 71) (h 38 50).toNat
              have q2 := zpw_le (show (h 38 50).toNat ≤ 20 by omega)
              have q3 : (2 : Int) ^ 20 = 1048576 := by decide
              unfold mF; omega
            refine zt_kill_5 (zt_kill_6 ?_)
            exact l_cvn3 hS hL hr1 he (fun o g1 q1 q2 q3 => ih o g1 _ (fun z => by have := q3 z; rw [e77] at this; have := hk rfl; omega) (by have := hk rfl; have e := rem_nx (((h 38 50).toNat : Nat) : Int) (lst (g 77) 3); rw [e, List.length_cons] at this; omega) q1 q2) (mvV_add hV hHb) (by rw [e77]; exact hch) (by rw [e77]; exact mvB_yes hall hp)

set_option maxRecDepth 100000 in
set_option maxHeartbeats 4000000 in
theorem l_cvn4 {d n : Nat} {sh : zSh} {h g : zMem} {Q : Option zV → Nat → zSh → zMem → Prop} {e th : Int} {R : List Int} (hS : zShp sh) (hL : 0 ≤ h 38 50 ∧ h 38 50 ≤ 20) (hr1 : ∀ i, 0 ≤ i → i < h 38 50 → h 71 i = -2147483648 ∨ (-999999 ≤ h 71 i ∧ h 71 i ≤ 999999)) (he : 0 ≤ e ∧ e ≤ 9) (hih : ∀ (o : Int) (g1 : zMem), mvV h g1 R → mvA (h 71) e (h 38 50).toNat 4 o (lst (g1 77) 4) R → (o = 1 → (rem (h 38 50).toNat (lst (g1 77) 4)).length < (rem (h 38 50).toNat (lst (g 77) 4)).length) → zT yX11_curves cX11_curves 8 (some .boolean) (d + 2) 0 0 Q 111 [some (2, 38), some (0, 3), some (0, e), some (0, th), some (0, o), none, none, none] [] n sh g1) (hV : mvV h g R) (hch : chF (h 38 50).toNat 0 (lst (g 77) 4)) (hB : mvB (h 71) e (h 38 50).toNat 4 (lst (g 77) 4) R) : zT yX11_curves cX11_curves 8 (some .boolean) (d + 2) 0 0 Q 175 [some (2, 38), some (0, 3), some (0, e), some (0, th), some (0, 1), none, none, none] [] n sh g := by
  have hc : 0 ≤ g 77 0 ∧ g 77 0 + 1 ≤ g 77 1 ∧ g 77 1 + 1 ≤ g 77 2 ∧ g 77 2 + 1 ≤ g 77 3 ∧ g 77 3 + 1 ≤ ((h 38 50).toNat : Int) := hch
  have e50 : g 38 50 = h 38 50 := hV.2.1 50 (by decide) (by decide)
  have eL : (((h 38 50).toNat : Nat) : Int) = h 38 50 := by omega
  rw [eL] at hc
  refine zt_iload_n dX11_curves_175 rfl ?_
  refine zt_istore_6 dX11_curves_176 (by decide) rfl ?_
  refine zt_iload dX11_curves_178 rfl ?_
  refine zt_if_lt (tgt := 210) dX11_curves_180 (by decide) (by decide) (fun q => absurd q (by decide)) (fun c_180 => ?_)
  refine zt_aload_n dX11_curves_183 rfl ?_
  refine zt_getv dX11_curves_184 fl_X11_131 (zs_38 hS) (rf_38_58 hV.2.2.1) ?_
  refine zt_iload dX11_curves_187 rfl ?_
  refine zt_iaload dX11_curves_189 (zs_77 hS) (by decide) (by decide) (by decide) ?_
  refine zt_aload_n dX11_curves_190 rfl ?_
  refine zt_getv (v := h 38 50) dX11_curves_191 fl_X11_388 (zs_38 hS) e50 ?_
  refine zt_iconst dX11_curves_194 ?_
  refine zt_isub dX11_curves_195 ?_
  refine zt_iload_n dX11_curves_196 rfl ?_
  refine zt_iload dX11_curves_197 rfl ?_
  refine zt_isub dX11_curves_199 ?_
  refine zt_topv (v := 0) (by decide) ?_
  refine zt_isub dX11_curves_200 ?_
  refine zt_icmp_ne (tgt := 210) dX11_curves_201 (by decide) (by omega) (by omega) (fun c_201 => ?_) (fun c_201 => ?_)
  · refine zt_iload dX11_curves_210 rfl ?_
    refine zt_if_lt (tgt := 219) dX11_curves_212 (by decide) (by decide) (fun q => absurd q (by decide)) (fun c_212 => ?_)
    refine zt_iconst dX11_curves_215 ?_
    refine zt_goto (tgt := 220) dX11_curves_216 (by decide) ?_
    refine zt_istore_4 dX11_curves_220 (by decide) rfl ?_
    refine zt_iload dX11_curves_222 rfl ?_
    refine zt_if_ne (tgt := 230) dX11_curves_224 (by decide) (by decide) (fun c_224 => ?_) (fun q => absurd q (by decide))
    refine zt_aload_n dX11_curves_230 rfl ?_
    refine zt_getv dX11_curves_231 fl_X11_131 (zs_38 hS) (rf_38_58 hV.2.2.1) ?_
    refine zt_iload dX11_curves_234 rfl ?_
    refine zt_dup2 dX11_curves_236 (Nat.ne_of_beq_eq_false rfl) (Nat.ne_of_beq_eq_false rfl) ?_
    refine zt_iaload dX11_curves_237 (zs_77 hS) (by decide) (by decide) (by decide) ?_
    refine zt_iconst dX11_curves_238 ?_
    refine zt_iadd dX11_curves_239 ?_
    refine zt_iastore dX11_curves_240 (zs_77 hS) (by decide) (by decide) (by decide) (by omega) ?_
    refine zt_iload dX11_curves_241 rfl ?_
    refine zt_iconst dX11_curves_243 ?_
    refine zt_iadd dX11_curves_244 ?_
    refine zt_topv (v := 4) (by decide) ?_
    refine zt_istore_7 dX11_curves_245 (by decide) rfl ?_
    refine zt_iload dX11_curves_247 rfl ?_
    refine zt_iload_n dX11_curves_249 rfl ?_
    refine zt_icmp_gt (tgt := 277) dX11_curves_250 (by decide) (by decide) (by decide) (fun c_250 => ?_) (fun q => absurd q (by decide))
    refine zt_goto (tgt := 111) dX11_curves_277 (by decide) ?_
    refine zt_kill_5 (zt_kill_6 (zt_kill_7 ?_))
    have hz : nx (((h 38 50).toNat : Nat) : Int) (lst (g 77) 4) = some (lst ((zup g 77 3 ((g 77 3) + 1)) 77) 4) := by
      show nx (((h 38 50).toNat : Nat) : Int) [g 77 0, g 77 1, g 77 2, g 77 3] = some [(zup g 77 3 ((g 77 3) + 1)) 77 0, (zup g 77 3 ((g 77 3) + 1)) 77 1, (zup g 77 3 ((g 77 3) + 1)) 77 2, (zup g 77 3 ((g 77 3) + 1)) 77 3]
      (repeat first | rw [zupE] | rw [zupA (by decide)] | rw [zupJ (by decide)])
      rw [nx4]
      (repeat rw [if_neg (by omega)])
      rw [if_pos (by omega)]
      (try simp only [Int.add_assoc, Int.reduceAdd])
    exact hih 1 _ (mvV_77 hV) (mvA_some hch hB hz) (fun _ => rem_lt hz)
  · refine zt_iincv_6 (v := 2) dX11_curves_204 (by decide) rfl (by decide) ?_
    refine zt_goto (tgt := 178) dX11_curves_207 (by decide) ?_
    refine zt_iload dX11_curves_178 rfl ?_
    refine zt_if_lt (tgt := 210) dX11_curves_180 (by decide) (by decide) (fun q => absurd q (by decide)) (fun c_180 => ?_)
    refine zt_aload_n dX11_curves_183 rfl ?_
    refine zt_getv dX11_curves_184 fl_X11_131 (zs_38 hS) (rf_38_58 hV.2.2.1) ?_
    refine zt_iload dX11_curves_187 rfl ?_
    refine zt_iaload dX11_curves_189 (zs_77 hS) (by decide) (by decide) (by decide) ?_
    refine zt_aload_n dX11_curves_190 rfl ?_
    refine zt_getv (v := h 38 50) dX11_curves_191 fl_X11_388 (zs_38 hS) e50 ?_
    refine zt_iconst dX11_curves_194 ?_
    refine zt_isub dX11_curves_195 ?_
    refine zt_iload_n dX11_curves_196 rfl ?_
    refine zt_iload dX11_curves_197 rfl ?_
    refine zt_isub dX11_curves_199 ?_
    refine zt_topv (v := 1) (by decide) ?_
    refine zt_isub dX11_curves_200 ?_
    refine zt_icmp_ne (tgt := 210) dX11_curves_201 (by decide) (by omega) (by omega) (fun c_201 => ?_) (fun c_201 => ?_)
    · refine zt_iload dX11_curves_210 rfl ?_
      refine zt_if_lt (tgt := 219) dX11_curves_212 (by decide) (by decide) (fun q => absurd q (by decide)) (fun c_212 => ?_)
      refine zt_iconst dX11_curves_215 ?_
      refine zt_goto (tgt := 220) dX11_curves_216 (by decide) ?_
      refine zt_istore_4 dX11_curves_220 (by decide) rfl ?_
      refine zt_iload dX11_curves_222 rfl ?_
      refine zt_if_ne (tgt := 230) dX11_curves_224 (by decide) (by decide) (fun c_224 => ?_) (fun q => absurd q (by decide))
      refine zt_aload_n dX11_curves_230 rfl ?_
      refine zt_getv dX11_curves_231 fl_X11_131 (zs_38 hS) (rf_38_58 hV.2.2.1) ?_
      refine zt_iload dX11_curves_234 rfl ?_
      refine zt_dup2 dX11_curves_236 (Nat.ne_of_beq_eq_false rfl) (Nat.ne_of_beq_eq_false rfl) ?_
      refine zt_iaload dX11_curves_237 (zs_77 hS) (by decide) (by decide) (by decide) ?_
      refine zt_iconst dX11_curves_238 ?_
      refine zt_iadd dX11_curves_239 ?_
      refine zt_iastore dX11_curves_240 (zs_77 hS) (by decide) (by decide) (by decide) (by omega) ?_
      refine zt_iload dX11_curves_241 rfl ?_
      refine zt_iconst dX11_curves_243 ?_
      refine zt_iadd dX11_curves_244 ?_
      refine zt_topv (v := 3) (by decide) ?_
      refine zt_istore_7 dX11_curves_245 (by decide) rfl ?_
      refine zt_iload dX11_curves_247 rfl ?_
      refine zt_iload_n dX11_curves_249 rfl ?_
      refine zt_icmp_gt (tgt := 277) dX11_curves_250 (by decide) (by decide) (by decide) (fun q => absurd q (by decide)) (fun c_250 => ?_)
      refine zt_aload_n dX11_curves_253 rfl ?_
      refine zt_getv dX11_curves_254 fl_X11_131 (zs_38 hS) (rf_38_58 (hV.2.2.1.upA (by decide))) ?_
      refine zt_iload dX11_curves_257 rfl ?_
      refine zt_aload_n dX11_curves_259 rfl ?_
      refine zt_getv dX11_curves_260 fl_X11_131 (zs_38 hS) (rf_38_58 (hV.2.2.1.upA (by decide))) ?_
      refine zt_iload dX11_curves_263 rfl ?_
      refine zt_iconst dX11_curves_265 ?_
      refine zt_isub dX11_curves_266 ?_
      refine zt_topv (v := 2) (by decide) ?_
      refine zt_ialoadv (v := (g 77 2) + 1) dX11_curves_267 (zs_77 hS) (by decide) (by decide) (by decide) zupE ?_
      refine zt_iconst dX11_curves_268 ?_
      refine zt_iadd dX11_curves_269 ?_
      refine zt_iastore dX11_curves_270 (zs_77 hS) (by decide) (by decide) (by decide) (by omega) ?_
      refine zt_iincv_7 (v := 4) dX11_curves_271 (by decide) rfl (by decide) ?_
      refine zt_goto (tgt := 247) dX11_curves_274 (by decide) ?_
      refine zt_iload dX11_curves_247 rfl ?_
      refine zt_iload_n dX11_curves_249 rfl ?_
      refine zt_icmp_gt (tgt := 277) dX11_curves_250 (by decide) (by decide) (by decide) (fun c_250 => ?_) (fun q => absurd q (by decide))
      refine zt_goto (tgt := 111) dX11_curves_277 (by decide) ?_
      refine zt_kill_5 (zt_kill_6 (zt_kill_7 ?_))
      have hz : nx (((h 38 50).toNat : Nat) : Int) (lst (g 77) 4) = some (lst ((zup (zup g 77 2 ((g 77 2) + 1)) 77 3 (((g 77 2) + 1) + 1)) 77) 4) := by
        show nx (((h 38 50).toNat : Nat) : Int) [g 77 0, g 77 1, g 77 2, g 77 3] = some [(zup (zup g 77 2 ((g 77 2) + 1)) 77 3 (((g 77 2) + 1) + 1)) 77 0, (zup (zup g 77 2 ((g 77 2) + 1)) 77 3 (((g 77 2) + 1) + 1)) 77 1, (zup (zup g 77 2 ((g 77 2) + 1)) 77 3 (((g 77 2) + 1) + 1)) 77 2, (zup (zup g 77 2 ((g 77 2) + 1)) 77 3 (((g 77 2) + 1) + 1)) 77 3]
        (repeat first | rw [zupE] | rw [zupA (by decide)] | rw [zupJ (by decide)])
        rw [nx4]
        (repeat rw [if_neg (by omega)])
        rw [if_pos (by omega)]
        (try simp only [Int.add_assoc, Int.reduceAdd])
      exact hih 1 _ (mvV_77 (mvV_77 hV)) (mvA_some hch hB hz) (fun _ => rem_lt hz)
    · refine zt_iincv_6 (v := 1) dX11_curves_204 (by decide) rfl (by decide) ?_
      refine zt_goto (tgt := 178) dX11_curves_207 (by decide) ?_
      refine zt_iload dX11_curves_178 rfl ?_
      refine zt_if_lt (tgt := 210) dX11_curves_180 (by decide) (by decide) (fun q => absurd q (by decide)) (fun c_180 => ?_)
      refine zt_aload_n dX11_curves_183 rfl ?_
      refine zt_getv dX11_curves_184 fl_X11_131 (zs_38 hS) (rf_38_58 hV.2.2.1) ?_
      refine zt_iload dX11_curves_187 rfl ?_
      refine zt_iaload dX11_curves_189 (zs_77 hS) (by decide) (by decide) (by decide) ?_
      refine zt_aload_n dX11_curves_190 rfl ?_
      refine zt_getv (v := h 38 50) dX11_curves_191 fl_X11_388 (zs_38 hS) e50 ?_
      refine zt_iconst dX11_curves_194 ?_
      refine zt_isub dX11_curves_195 ?_
      refine zt_iload_n dX11_curves_196 rfl ?_
      refine zt_iload dX11_curves_197 rfl ?_
      refine zt_isub dX11_curves_199 ?_
      refine zt_topv (v := 2) (by decide) ?_
      refine zt_isub dX11_curves_200 ?_
      refine zt_icmp_ne (tgt := 210) dX11_curves_201 (by decide) (by omega) (by omega) (fun c_201 => ?_) (fun c_201 => ?_)
      · refine zt_iload dX11_curves_210 rfl ?_
        refine zt_if_lt (tgt := 219) dX11_curves_212 (by decide) (by decide) (fun q => absurd q (by decide)) (fun c_212 => ?_)
        refine zt_iconst dX11_curves_215 ?_
        refine zt_goto (tgt := 220) dX11_curves_216 (by decide) ?_
        refine zt_istore_4 dX11_curves_220 (by decide) rfl ?_
        refine zt_iload dX11_curves_222 rfl ?_
        refine zt_if_ne (tgt := 230) dX11_curves_224 (by decide) (by decide) (fun c_224 => ?_) (fun q => absurd q (by decide))
        refine zt_aload_n dX11_curves_230 rfl ?_
        refine zt_getv dX11_curves_231 fl_X11_131 (zs_38 hS) (rf_38_58 hV.2.2.1) ?_
        refine zt_iload dX11_curves_234 rfl ?_
        refine zt_dup2 dX11_curves_236 (Nat.ne_of_beq_eq_false rfl) (Nat.ne_of_beq_eq_false rfl) ?_
        refine zt_iaload dX11_curves_237 (zs_77 hS) (by decide) (by decide) (by decide) ?_
        refine zt_iconst dX11_curves_238 ?_
        refine zt_iadd dX11_curves_239 ?_
        refine zt_iastore dX11_curves_240 (zs_77 hS) (by decide) (by decide) (by decide) (by omega) ?_
        refine zt_iload dX11_curves_241 rfl ?_
        refine zt_iconst dX11_curves_243 ?_
        refine zt_iadd dX11_curves_244 ?_
        refine zt_topv (v := 2) (by decide) ?_
        refine zt_istore_7 dX11_curves_245 (by decide) rfl ?_
        refine zt_iload dX11_curves_247 rfl ?_
        refine zt_iload_n dX11_curves_249 rfl ?_
        refine zt_icmp_gt (tgt := 277) dX11_curves_250 (by decide) (by decide) (by decide) (fun q => absurd q (by decide)) (fun c_250 => ?_)
        refine zt_aload_n dX11_curves_253 rfl ?_
        refine zt_getv dX11_curves_254 fl_X11_131 (zs_38 hS) (rf_38_58 (hV.2.2.1.upA (by decide))) ?_
        refine zt_iload dX11_curves_257 rfl ?_
        refine zt_aload_n dX11_curves_259 rfl ?_
        refine zt_getv dX11_curves_260 fl_X11_131 (zs_38 hS) (rf_38_58 (hV.2.2.1.upA (by decide))) ?_
        refine zt_iload dX11_curves_263 rfl ?_
        refine zt_iconst dX11_curves_265 ?_
        refine zt_isub dX11_curves_266 ?_
        refine zt_topv (v := 1) (by decide) ?_
        refine zt_ialoadv (v := (g 77 1) + 1) dX11_curves_267 (zs_77 hS) (by decide) (by decide) (by decide) zupE ?_
        refine zt_iconst dX11_curves_268 ?_
        refine zt_iadd dX11_curves_269 ?_
        refine zt_iastore dX11_curves_270 (zs_77 hS) (by decide) (by decide) (by decide) (by omega) ?_
        refine zt_iincv_7 (v := 3) dX11_curves_271 (by decide) rfl (by decide) ?_
        refine zt_goto (tgt := 247) dX11_curves_274 (by decide) ?_
        refine zt_iload dX11_curves_247 rfl ?_
        refine zt_iload_n dX11_curves_249 rfl ?_
        refine zt_icmp_gt (tgt := 277) dX11_curves_250 (by decide) (by decide) (by decide) (fun q => absurd q (by decide)) (fun c_250 => ?_)
        refine zt_aload_n dX11_curves_253 rfl ?_
        refine zt_getv dX11_curves_254 fl_X11_131 (zs_38 hS) (rf_38_58 ((hV.2.2.1.upA (by decide)).upA (by decide))) ?_
        refine zt_iload dX11_curves_257 rfl ?_
        refine zt_aload_n dX11_curves_259 rfl ?_
        refine zt_getv dX11_curves_260 fl_X11_131 (zs_38 hS) (rf_38_58 ((hV.2.2.1.upA (by decide)).upA (by decide))) ?_
        refine zt_iload dX11_curves_263 rfl ?_
        refine zt_iconst dX11_curves_265 ?_
        refine zt_isub dX11_curves_266 ?_
        refine zt_topv (v := 2) (by decide) ?_
        refine zt_ialoadv (v := ((g 77 1) + 1) + 1) dX11_curves_267 (zs_77 hS) (by decide) (by decide) (by decide) zupE ?_
        refine zt_iconst dX11_curves_268 ?_
        refine zt_iadd dX11_curves_269 ?_
        refine zt_iastore dX11_curves_270 (zs_77 hS) (by decide) (by decide) (by decide) (by omega) ?_
        refine zt_iincv_7 (v := 4) dX11_curves_271 (by decide) rfl (by decide) ?_
        refine zt_goto (tgt := 247) dX11_curves_274 (by decide) ?_
        refine zt_iload dX11_curves_247 rfl ?_
        refine zt_iload_n dX11_curves_249 rfl ?_
        refine zt_icmp_gt (tgt := 277) dX11_curves_250 (by decide) (by decide) (by decide) (fun c_250 => ?_) (fun q => absurd q (by decide))
        refine zt_goto (tgt := 111) dX11_curves_277 (by decide) ?_
        refine zt_kill_5 (zt_kill_6 (zt_kill_7 ?_))
        have hz : nx (((h 38 50).toNat : Nat) : Int) (lst (g 77) 4) = some (lst ((zup (zup (zup g 77 1 ((g 77 1) + 1)) 77 2 (((g 77 1) + 1) + 1)) 77 3 ((((g 77 1) + 1) + 1) + 1)) 77) 4) := by
          show nx (((h 38 50).toNat : Nat) : Int) [g 77 0, g 77 1, g 77 2, g 77 3] = some [(zup (zup (zup g 77 1 ((g 77 1) + 1)) 77 2 (((g 77 1) + 1) + 1)) 77 3 ((((g 77 1) + 1) + 1) + 1)) 77 0, (zup (zup (zup g 77 1 ((g 77 1) + 1)) 77 2 (((g 77 1) + 1) + 1)) 77 3 ((((g 77 1) + 1) + 1) + 1)) 77 1, (zup (zup (zup g 77 1 ((g 77 1) + 1)) 77 2 (((g 77 1) + 1) + 1)) 77 3 ((((g 77 1) + 1) + 1) + 1)) 77 2, (zup (zup (zup g 77 1 ((g 77 1) + 1)) 77 2 (((g 77 1) + 1) + 1)) 77 3 ((((g 77 1) + 1) + 1) + 1)) 77 3]
          (repeat first | rw [zupE] | rw [zupA (by decide)] | rw [zupJ (by decide)])
          rw [nx4]
          (repeat rw [if_neg (by omega)])
          rw [if_pos (by omega)]
          (try simp only [Int.add_assoc, Int.reduceAdd])
        exact hih 1 _ (mvV_77 (mvV_77 (mvV_77 hV))) (mvA_some hch hB hz) (fun _ => rem_lt hz)
      · refine zt_iincv_6 (v := 0) dX11_curves_204 (by decide) rfl (by decide) ?_
        refine zt_goto (tgt := 178) dX11_curves_207 (by decide) ?_
        refine zt_iload dX11_curves_178 rfl ?_
        refine zt_if_lt (tgt := 210) dX11_curves_180 (by decide) (by decide) (fun q => absurd q (by decide)) (fun c_180 => ?_)
        refine zt_aload_n dX11_curves_183 rfl ?_
        refine zt_getv dX11_curves_184 fl_X11_131 (zs_38 hS) (rf_38_58 hV.2.2.1) ?_
        refine zt_iload dX11_curves_187 rfl ?_
        refine zt_iaload dX11_curves_189 (zs_77 hS) (by decide) (by decide) (by decide) ?_
        refine zt_aload_n dX11_curves_190 rfl ?_
        refine zt_getv (v := h 38 50) dX11_curves_191 fl_X11_388 (zs_38 hS) e50 ?_
        refine zt_iconst dX11_curves_194 ?_
        refine zt_isub dX11_curves_195 ?_
        refine zt_iload_n dX11_curves_196 rfl ?_
        refine zt_iload dX11_curves_197 rfl ?_
        refine zt_isub dX11_curves_199 ?_
        refine zt_topv (v := 3) (by decide) ?_
        refine zt_isub dX11_curves_200 ?_
        refine zt_icmp_ne (tgt := 210) dX11_curves_201 (by decide) (by omega) (by omega) (fun c_201 => ?_) (fun c_201 => ?_)
        · refine zt_iload dX11_curves_210 rfl ?_
          refine zt_if_lt (tgt := 219) dX11_curves_212 (by decide) (by decide) (fun q => absurd q (by decide)) (fun c_212 => ?_)
          refine zt_iconst dX11_curves_215 ?_
          refine zt_goto (tgt := 220) dX11_curves_216 (by decide) ?_
          refine zt_istore_4 dX11_curves_220 (by decide) rfl ?_
          refine zt_iload dX11_curves_222 rfl ?_
          refine zt_if_ne (tgt := 230) dX11_curves_224 (by decide) (by decide) (fun c_224 => ?_) (fun q => absurd q (by decide))
          refine zt_aload_n dX11_curves_230 rfl ?_
          refine zt_getv dX11_curves_231 fl_X11_131 (zs_38 hS) (rf_38_58 hV.2.2.1) ?_
          refine zt_iload dX11_curves_234 rfl ?_
          refine zt_dup2 dX11_curves_236 (Nat.ne_of_beq_eq_false rfl) (Nat.ne_of_beq_eq_false rfl) ?_
          refine zt_iaload dX11_curves_237 (zs_77 hS) (by decide) (by decide) (by decide) ?_
          refine zt_iconst dX11_curves_238 ?_
          refine zt_iadd dX11_curves_239 ?_
          refine zt_iastore dX11_curves_240 (zs_77 hS) (by decide) (by decide) (by decide) (by omega) ?_
          refine zt_iload dX11_curves_241 rfl ?_
          refine zt_iconst dX11_curves_243 ?_
          refine zt_iadd dX11_curves_244 ?_
          refine zt_topv (v := 1) (by decide) ?_
          refine zt_istore_7 dX11_curves_245 (by decide) rfl ?_
          refine zt_iload dX11_curves_247 rfl ?_
          refine zt_iload_n dX11_curves_249 rfl ?_
          refine zt_icmp_gt (tgt := 277) dX11_curves_250 (by decide) (by decide) (by decide) (fun q => absurd q (by decide)) (fun c_250 => ?_)
          refine zt_aload_n dX11_curves_253 rfl ?_
          refine zt_getv dX11_curves_254 fl_X11_131 (zs_38 hS) (rf_38_58 (hV.2.2.1.upA (by decide))) ?_
          refine zt_iload dX11_curves_257 rfl ?_
          refine zt_aload_n dX11_curves_259 rfl ?_
          refine zt_getv dX11_curves_260 fl_X11_131 (zs_38 hS) (rf_38_58 (hV.2.2.1.upA (by decide))) ?_
          refine zt_iload dX11_curves_263 rfl ?_
          refine zt_iconst dX11_curves_265 ?_
          refine zt_isub dX11_curves_266 ?_
          refine zt_topv (v := 0) (by decide) ?_
          refine zt_ialoadv (v := (g 77 0) + 1) dX11_curves_267 (zs_77 hS) (by decide) (by decide) (by decide) zupE ?_
          refine zt_iconst dX11_curves_268 ?_
          refine zt_iadd dX11_curves_269 ?_
          refine zt_iastore dX11_curves_270 (zs_77 hS) (by decide) (by decide) (by decide) (by omega) ?_
          refine zt_iincv_7 (v := 2) dX11_curves_271 (by decide) rfl (by decide) ?_
          refine zt_goto (tgt := 247) dX11_curves_274 (by decide) ?_
          refine zt_iload dX11_curves_247 rfl ?_
          refine zt_iload_n dX11_curves_249 rfl ?_
          refine zt_icmp_gt (tgt := 277) dX11_curves_250 (by decide) (by decide) (by decide) (fun q => absurd q (by decide)) (fun c_250 => ?_)
          refine zt_aload_n dX11_curves_253 rfl ?_
          refine zt_getv dX11_curves_254 fl_X11_131 (zs_38 hS) (rf_38_58 ((hV.2.2.1.upA (by decide)).upA (by decide))) ?_
          refine zt_iload dX11_curves_257 rfl ?_
          refine zt_aload_n dX11_curves_259 rfl ?_
          refine zt_getv dX11_curves_260 fl_X11_131 (zs_38 hS) (rf_38_58 ((hV.2.2.1.upA (by decide)).upA (by decide))) ?_
          refine zt_iload dX11_curves_263 rfl ?_
          refine zt_iconst dX11_curves_265 ?_
          refine zt_isub dX11_curves_266 ?_
          refine zt_topv (v := 1) (by decide) ?_
          refine zt_ialoadv (v := ((g 77 0) + 1) + 1) dX11_curves_267 (zs_77 hS) (by decide) (by decide) (by decide) zupE ?_
          refine zt_iconst dX11_curves_268 ?_
          refine zt_iadd dX11_curves_269 ?_
          refine zt_iastore dX11_curves_270 (zs_77 hS) (by decide) (by decide) (by decide) (by omega) ?_
          refine zt_iincv_7 (v := 3) dX11_curves_271 (by decide) rfl (by decide) ?_
          refine zt_goto (tgt := 247) dX11_curves_274 (by decide) ?_
          refine zt_iload dX11_curves_247 rfl ?_
          refine zt_iload_n dX11_curves_249 rfl ?_
          refine zt_icmp_gt (tgt := 277) dX11_curves_250 (by decide) (by decide) (by decide) (fun q => absurd q (by decide)) (fun c_250 => ?_)
          refine zt_aload_n dX11_curves_253 rfl ?_
          refine zt_getv dX11_curves_254 fl_X11_131 (zs_38 hS) (rf_38_58 (((hV.2.2.1.upA (by decide)).upA (by decide)).upA (by decide))) ?_
          refine zt_iload dX11_curves_257 rfl ?_
          refine zt_aload_n dX11_curves_259 rfl ?_
          refine zt_getv dX11_curves_260 fl_X11_131 (zs_38 hS) (rf_38_58 (((hV.2.2.1.upA (by decide)).upA (by decide)).upA (by decide))) ?_
          refine zt_iload dX11_curves_263 rfl ?_
          refine zt_iconst dX11_curves_265 ?_
          refine zt_isub dX11_curves_266 ?_
          refine zt_topv (v := 2) (by decide) ?_
          refine zt_ialoadv (v := (((g 77 0) + 1) + 1) + 1) dX11_curves_267 (zs_77 hS) (by decide) (by decide) (by decide) zupE ?_
          refine zt_iconst dX11_curves_268 ?_
          refine zt_iadd dX11_curves_269 ?_
          refine zt_iastore dX11_curves_270 (zs_77 hS) (by decide) (by decide) (by decide) (by omega) ?_
          refine zt_iincv_7 (v := 4) dX11_curves_271 (by decide) rfl (by decide) ?_
          refine zt_goto (tgt := 247) dX11_curves_274 (by decide) ?_
          refine zt_iload dX11_curves_247 rfl ?_
          refine zt_iload_n dX11_curves_249 rfl ?_
          refine zt_icmp_gt (tgt := 277) dX11_curves_250 (by decide) (by decide) (by decide) (fun c_250 => ?_) (fun q => absurd q (by decide))
          refine zt_goto (tgt := 111) dX11_curves_277 (by decide) ?_
          refine zt_kill_5 (zt_kill_6 (zt_kill_7 ?_))
          have hz : nx (((h 38 50).toNat : Nat) : Int) (lst (g 77) 4) = some (lst ((zup (zup (zup (zup g 77 0 ((g 77 0) + 1)) 77 1 (((g 77 0) + 1) + 1)) 77 2 ((((g 77 0) + 1) + 1) + 1)) 77 3 (((((g 77 0) + 1) + 1) + 1) + 1)) 77) 4) := by
            show nx (((h 38 50).toNat : Nat) : Int) [g 77 0, g 77 1, g 77 2, g 77 3] = some [(zup (zup (zup (zup g 77 0 ((g 77 0) + 1)) 77 1 (((g 77 0) + 1) + 1)) 77 2 ((((g 77 0) + 1) + 1) + 1)) 77 3 (((((g 77 0) + 1) + 1) + 1) + 1)) 77 0, (zup (zup (zup (zup g 77 0 ((g 77 0) + 1)) 77 1 (((g 77 0) + 1) + 1)) 77 2 ((((g 77 0) + 1) + 1) + 1)) 77 3 (((((g 77 0) + 1) + 1) + 1) + 1)) 77 1, (zup (zup (zup (zup g 77 0 ((g 77 0) + 1)) 77 1 (((g 77 0) + 1) + 1)) 77 2 ((((g 77 0) + 1) + 1) + 1)) 77 3 (((((g 77 0) + 1) + 1) + 1) + 1)) 77 2, (zup (zup (zup (zup g 77 0 ((g 77 0) + 1)) 77 1 (((g 77 0) + 1) + 1)) 77 2 ((((g 77 0) + 1) + 1) + 1)) 77 3 (((((g 77 0) + 1) + 1) + 1) + 1)) 77 3]
            (repeat first | rw [zupE] | rw [zupA (by decide)] | rw [zupJ (by decide)])
            rw [nx4]
            (repeat rw [if_neg (by omega)])
            rw [if_pos (by omega)]
            (try simp only [Int.add_assoc, Int.reduceAdd])
          exact hih 1 _ (mvV_77 (mvV_77 (mvV_77 (mvV_77 hV)))) (mvA_some hch hB hz) (fun _ => rem_lt hz)
        · refine zt_iincv_6 (v := -1) dX11_curves_204 (by decide) rfl (by decide) ?_
          refine zt_goto (tgt := 178) dX11_curves_207 (by decide) ?_
          refine zt_iload dX11_curves_178 rfl ?_
          refine zt_if_lt (tgt := 210) dX11_curves_180 (by decide) (by decide) (fun c_180 => ?_) (fun q => absurd q (by decide))
          refine zt_iload dX11_curves_210 rfl ?_
          refine zt_if_lt (tgt := 219) dX11_curves_212 (by decide) (by decide) (fun c_212 => ?_) (fun q => absurd q (by decide))
          refine zt_iconst dX11_curves_219 ?_
          refine zt_istore_4 dX11_curves_220 (by decide) rfl ?_
          refine zt_iload dX11_curves_222 rfl ?_
          refine zt_if_ne (tgt := 230) dX11_curves_224 (by decide) (by decide) (fun q => absurd q (by decide)) (fun c_224 => ?_)
          refine zt_goto (tgt := 111) dX11_curves_227 (by decide) ?_
          refine zt_kill_5 (zt_kill_6 (zt_kill_7 ?_))
          have hz : nx (((h 38 50).toNat : Nat) : Int) (lst (g 77) 4) = none := by
            show nx (((h 38 50).toNat : Nat) : Int) [g 77 0, g 77 1, g 77 2, g 77 3] = none
            rw [nx4]
            (repeat rw [if_neg (by omega)])
          exact hih 0 _ hV (mvA_none hB hz) (fun z => absurd z (by decide))


set_option maxRecDepth 100000 in
set_option maxHeartbeats 4000000 in
theorem l_cvw4 {d n : Nat} {sh : zSh} {h : zMem} {e th : Int} (hS : zShp sh) (hL : 0 ≤ h 38 50 ∧ h 38 50 ≤ 20) (hr1 : ∀ i, 0 ≤ i → i < h 38 50 → h 71 i = -2147483648 ∨ (-999999 ≤ h 71 i ∧ h 71 i ≤ 999999)) (he : 0 ≤ e ∧ e ≤ 9)  : ∀ (k : Nat) (o : Int) (g : zMem) (R : List Int), (o = 1 → (rem (h 38 50).toNat (lst (g 77) 4)).length < k) → 0 < k → mvV h g R → mvA (h 71) e (h 38 50).toNat 4 o (lst (g 77) 4) R → zT yX11_curves cX11_curves 8 (some .boolean) (d + 2) 0 0 (fun r n1 sh1 h1 => r = some (0, 1) ∧ n1 = n ∧ sh1 = sh ∧ mvV h h1 (mAll (h 71) e (h 38 50).toNat 4).reverse) 111 [some (2, 38), some (0, 3), some (0, e), some (0, th), some (0, o), none, none, none] [] n sh g := by
  intro k
  induction k with
  | zero => intro o g R hk hk0; omega
  | succ k ih =>
    intro o g R hk hk0 hV hA
    refine zt_iload dX11_curves_111 rfl ?_
    have ho01 : o = 0 ∨ o = 1 := by rcases hA with q | q; exact Or.inr q.1; exact Or.inl q.1
    refine zt_if_eq (tgt := 280) dX11_curves_113 (by decide) (by omega) (fun c_113 => ?_) (fun c_113 => ?_)
    · refine zt_iconst dX11_curves_280 ?_
      exact zt_zret dX11_curves_281 (by decide) ⟨rfl, rfl, rfl, by rcases hA with ⟨q, _⟩ | ⟨_, q⟩; (exfalso; omega); (rw [q, List.reverse_reverse]; exact hV)⟩
    · have ho : o = 1 := by rcases hA with q | q; exact q.1; omega
      subst ho
      obtain ⟨_, hch, hall⟩ : _ ∧ chF (h 38 50).toNat 0 (lst (g 77) 4) ∧ _ := by rcases hA with q | q; exact q; exact absurd q.1 (by decide)
      have hc : 0 ≤ g 77 0 ∧ g 77 0 + 1 ≤ g 77 1 ∧ g 77 1 + 1 ≤ g 77 2 ∧ g 77 2 + 1 ≤ g 77 3 ∧ g 77 3 + 1 ≤ ((h 38 50).toNat : Int) := hch
      have eL : (((h 38 50).toNat : Nat) : Int) = h 38 50 := by omega
      rw [eL] at hc
      have e71 : g 71 = h 71 := hV.1 71 (by decide) (by decide) (by decide)
      have e50 : g 38 50 = h 38 50 := hV.2.1 50 (by decide) (by decide)
      refine zt_iconst dX11_curves_116 ?_
      refine zt_istore_5 dX11_curves_117 (by decide) rfl ?_
      refine zt_iconst dX11_curves_119 ?_
      refine zt_istore_6 dX11_curves_120 (by decide) rfl ?_
      refine zt_iload dX11_curves_122 rfl ?_
      refine zt_iload_n dX11_curves_124 rfl ?_
      refine zt_icmp_gt (tgt := 164) dX11_curves_125 (by decide) (by decide) (by decide) (fun q => absurd q (by decide)) (fun c_125 => ?_)
      refine zt_iload dX11_curves_128 rfl ?_
      refine zt_if_eq (tgt := 155) dX11_curves_130 (by decide) (by decide) (fun q => absurd q (by decide)) (fun c_130 => ?_)
      refine zt_aload_n dX11_curves_133 rfl ?_
      refine zt_getv dX11_curves_134 fl_X11_112 (zs_38 hS) (rf_38_51 hV.2.2.1) ?_
      refine zt_aload_n dX11_curves_137 rfl ?_
      refine zt_getv dX11_curves_138 fl_X11_131 (zs_38 hS) (rf_38_58 hV.2.2.1) ?_
      refine zt_iload dX11_curves_141 rfl ?_
      refine zt_iaload dX11_curves_143 (zs_77 hS) (by decide) (by decide) (by decide) ?_
      refine zt_ialoadv (v := h 71 (g 77 0)) dX11_curves_144 (zs_71 hS) (by decide) (by omega) (by omega) (congrFun e71 _) ?_
      refine zt_ldc_w dX11_curves_145 kc_X11_283 ?_
      refine zt_icmp_eq (tgt := 155) dX11_curves_148 (by decide) (by rcases hr1 (g 77 0) (by omega) (by omega) with q | q <;> omega) (by decide) (fun c_148 => ?_) (fun c_148 => ?_)
      · have v0 := c_148
        refine zt_iconst dX11_curves_155 ?_
        refine zt_istore_5 dX11_curves_156 (by decide) rfl ?_
        refine zt_iincv_6 (v := 1) dX11_curves_158 (by decide) rfl (by decide) ?_
        refine zt_goto (tgt := 122) dX11_curves_161 (by decide) ?_
        refine zt_iload dX11_curves_122 rfl ?_
        refine zt_iload_n dX11_curves_124 rfl ?_
        refine zt_icmp_gt (tgt := 164) dX11_curves_125 (by decide) (by decide) (by decide) (fun q => absurd q (by decide)) (fun c_125 => ?_)
        refine zt_iload dX11_curves_128 rfl ?_
        refine zt_if_eq (tgt := 155) dX11_curves_130 (by decide) (by decide) (fun c_130 => ?_) (fun q => absurd q (by decide))
        refine zt_iconst dX11_curves_155 ?_
        refine zt_istore_5 dX11_curves_156 (by decide) rfl ?_
        refine zt_iincv_6 (v := 2) dX11_curves_158 (by decide) rfl (by decide) ?_
        refine zt_goto (tgt := 122) dX11_curves_161 (by decide) ?_
        refine zt_iload dX11_curves_122 rfl ?_
        refine zt_iload_n dX11_curves_124 rfl ?_
        refine zt_icmp_gt (tgt := 164) dX11_curves_125 (by decide) (by decide) (by decide) (fun q => absurd q (by decide)) (fun c_125 => ?_)
        refine zt_iload dX11_curves_128 rfl ?_
        refine zt_if_eq (tgt := 155) dX11_curves_130 (by decide) (by decide) (fun c_130 => ?_) (fun q => absurd q (by decide))
        refine zt_iconst dX11_curves_155 ?_
        refine zt_istore_5 dX11_curves_156 (by decide) rfl ?_
        refine zt_iincv_6 (v := 3) dX11_curves_158 (by decide) rfl (by decide) ?_
        refine zt_goto (tgt := 122) dX11_curves_161 (by decide) ?_
        refine zt_iload dX11_curves_122 rfl ?_
        refine zt_iload_n dX11_curves_124 rfl ?_
        refine zt_icmp_gt (tgt := 164) dX11_curves_125 (by decide) (by decide) (by decide) (fun q => absurd q (by decide)) (fun c_125 => ?_)
        refine zt_iload dX11_curves_128 rfl ?_
        refine zt_if_eq (tgt := 155) dX11_curves_130 (by decide) (by decide) (fun c_130 => ?_) (fun q => absurd q (by decide))
        refine zt_iconst dX11_curves_155 ?_
        refine zt_istore_5 dX11_curves_156 (by decide) rfl ?_
        refine zt_iincv_6 (v := 4) dX11_curves_158 (by decide) rfl (by decide) ?_
        refine zt_goto (tgt := 122) dX11_curves_161 (by decide) ?_
        refine zt_iload dX11_curves_122 rfl ?_
        refine zt_iload_n dX11_curves_124 rfl ?_
        refine zt_icmp_gt (tgt := 164) dX11_curves_125 (by decide) (by decide) (by decide) (fun c_125 => ?_) (fun q => absurd q (by decide))
        have hp : ¬ alp (h 71) (lst (g 77) 4) = true := by
          show ¬ List.all [g 77 0, g 77 1, g 77 2, g 77 3] _ = true
          simp only [List.all_cons, List.all_nil, Bool.and_true, Bool.and_eq_true, decide_eq_true_eq]
          intro z
          first | exact z.1 v0 | exact z.2.1 v1 | exact z.2.2.1 v2 | exact z.2.2.2 v3
        refine zt_iload dX11_curves_164 rfl ?_
        refine zt_if_eq (tgt := 175) dX11_curves_166 (by decide) (by decide) (fun c_166 => ?_) (fun q => absurd q (by decide))
        refine zt_kill_5 (zt_kill_6 ?_)
        exact l_cvn4 hS hL hr1 he (fun o g1 q1 q2 q3 => ih o g1 _ (fun z => by have := q3 z; have := hk rfl; omega) (by have := hk rfl; have e := rem_nx (((h 38 50).toNat : Nat) : Int) (lst (g 77) 4); rw [e, List.length_cons] at this; omega) q1 q2) hV hch (mvB_no hall hp)
      · have v0 := c_148
        refine zt_iconst dX11_curves_151 ?_
        refine zt_goto (tgt := 156) dX11_curves_152 (by decide) ?_
        refine zt_istore_5 dX11_curves_156 (by decide) rfl ?_
        refine zt_iincv_6 (v := 1) dX11_curves_158 (by decide) rfl (by decide) ?_
        refine zt_goto (tgt := 122) dX11_curves_161 (by decide) ?_
        refine zt_iload dX11_curves_122 rfl ?_
        refine zt_iload_n dX11_curves_124 rfl ?_
        refine zt_icmp_gt (tgt := 164) dX11_curves_125 (by decide) (by decide) (by decide) (fun q => absurd q (by decide)) (fun c_125 => ?_)
        refine zt_iload dX11_curves_128 rfl ?_
        refine zt_if_eq (tgt := 155) dX11_curves_130 (by decide) (by decide) (fun q => absurd q (by decide)) (fun c_130 => ?_)
        refine zt_aload_n dX11_curves_133 rfl ?_
        refine zt_getv dX11_curves_134 fl_X11_112 (zs_38 hS) (rf_38_51 hV.2.2.1) ?_
        refine zt_aload_n dX11_curves_137 rfl ?_
        refine zt_getv dX11_curves_138 fl_X11_131 (zs_38 hS) (rf_38_58 hV.2.2.1) ?_
        refine zt_iload dX11_curves_141 rfl ?_
        refine zt_iaload dX11_curves_143 (zs_77 hS) (by decide) (by decide) (by decide) ?_
        refine zt_ialoadv (v := h 71 (g 77 1)) dX11_curves_144 (zs_71 hS) (by decide) (by omega) (by omega) (congrFun e71 _) ?_
        refine zt_ldc_w dX11_curves_145 kc_X11_283 ?_
        refine zt_icmp_eq (tgt := 155) dX11_curves_148 (by decide) (by rcases hr1 (g 77 1) (by omega) (by omega) with q | q <;> omega) (by decide) (fun c_148 => ?_) (fun c_148 => ?_)
        · have v1 := c_148
          refine zt_iconst dX11_curves_155 ?_
          refine zt_istore_5 dX11_curves_156 (by decide) rfl ?_
          refine zt_iincv_6 (v := 2) dX11_curves_158 (by decide) rfl (by decide) ?_
          refine zt_goto (tgt := 122) dX11_curves_161 (by decide) ?_
          refine zt_iload dX11_curves_122 rfl ?_
          refine zt_iload_n dX11_curves_124 rfl ?_
          refine zt_icmp_gt (tgt := 164) dX11_curves_125 (by decide) (by decide) (by decide) (fun q => absurd q (by decide)) (fun c_125 => ?_)
          refine zt_iload dX11_curves_128 rfl ?_
          refine zt_if_eq (tgt := 155) dX11_curves_130 (by decide) (by decide) (fun c_130 => ?_) (fun q => absurd q (by decide))
          refine zt_iconst dX11_curves_155 ?_
          refine zt_istore_5 dX11_curves_156 (by decide) rfl ?_
          refine zt_iincv_6 (v := 3) dX11_curves_158 (by decide) rfl (by decide) ?_
          refine zt_goto (tgt := 122) dX11_curves_161 (by decide) ?_
          refine zt_iload dX11_curves_122 rfl ?_
          refine zt_iload_n dX11_curves_124 rfl ?_
          refine zt_icmp_gt (tgt := 164) dX11_curves_125 (by decide) (by decide) (by decide) (fun q => absurd q (by decide)) (fun c_125 => ?_)
          refine zt_iload dX11_curves_128 rfl ?_
          refine zt_if_eq (tgt := 155) dX11_curves_130 (by decide) (by decide) (fun c_130 => ?_) (fun q => absurd q (by decide))
          refine zt_iconst dX11_curves_155 ?_
          refine zt_istore_5 dX11_curves_156 (by decide) rfl ?_
          refine zt_iincv_6 (v := 4) dX11_curves_158 (by decide) rfl (by decide) ?_
          refine zt_goto (tgt := 122) dX11_curves_161 (by decide) ?_
          refine zt_iload dX11_curves_122 rfl ?_
          refine zt_iload_n dX11_curves_124 rfl ?_
          refine zt_icmp_gt (tgt := 164) dX11_curves_125 (by decide) (by decide) (by decide) (fun c_125 => ?_) (fun q => absurd q (by decide))
          have hp : ¬ alp (h 71) (lst (g 77) 4) = true := by
            show ¬ List.all [g 77 0, g 77 1, g 77 2, g 77 3] _ = true
            simp only [List.all_cons, List.all_nil, Bool.and_true, Bool.and_eq_true, decide_eq_true_eq]
            intro z
            first | exact z.1 v0 | exact z.2.1 v1 | exact z.2.2.1 v2 | exact z.2.2.2 v3
          refine zt_iload dX11_curves_164 rfl ?_
          refine zt_if_eq (tgt := 175) dX11_curves_166 (by decide) (by decide) (fun c_166 => ?_) (fun q => absurd q (by decide))
          refine zt_kill_5 (zt_kill_6 ?_)
          exact l_cvn4 hS hL hr1 he (fun o g1 q1 q2 q3 => ih o g1 _ (fun z => by have := q3 z; have := hk rfl; omega) (by have := hk rfl; have e := rem_nx (((h 38 50).toNat : Nat) : Int) (lst (g 77) 4); rw [e, List.length_cons] at this; omega) q1 q2) hV hch (mvB_no hall hp)
        · have v1 := c_148
          refine zt_iconst dX11_curves_151 ?_
          refine zt_goto (tgt := 156) dX11_curves_152 (by decide) ?_
          refine zt_istore_5 dX11_curves_156 (by decide) rfl ?_
          refine zt_iincv_6 (v := 2) dX11_curves_158 (by decide) rfl (by decide) ?_
          refine zt_goto (tgt := 122) dX11_curves_161 (by decide) ?_
          refine zt_iload dX11_curves_122 rfl ?_
          refine zt_iload_n dX11_curves_124 rfl ?_
          refine zt_icmp_gt (tgt := 164) dX11_curves_125 (by decide) (by decide) (by decide) (fun q => absurd q (by decide)) (fun c_125 => ?_)
          refine zt_iload dX11_curves_128 rfl ?_
          refine zt_if_eq (tgt := 155) dX11_curves_130 (by decide) (by decide) (fun q => absurd q (by decide)) (fun c_130 => ?_)
          refine zt_aload_n dX11_curves_133 rfl ?_
          refine zt_getv dX11_curves_134 fl_X11_112 (zs_38 hS) (rf_38_51 hV.2.2.1) ?_
          refine zt_aload_n dX11_curves_137 rfl ?_
          refine zt_getv dX11_curves_138 fl_X11_131 (zs_38 hS) (rf_38_58 hV.2.2.1) ?_
          refine zt_iload dX11_curves_141 rfl ?_
          refine zt_iaload dX11_curves_143 (zs_77 hS) (by decide) (by decide) (by decide) ?_
          refine zt_ialoadv (v := h 71 (g 77 2)) dX11_curves_144 (zs_71 hS) (by decide) (by omega) (by omega) (congrFun e71 _) ?_
          refine zt_ldc_w dX11_curves_145 kc_X11_283 ?_
          refine zt_icmp_eq (tgt := 155) dX11_curves_148 (by decide) (by rcases hr1 (g 77 2) (by omega) (by omega) with q | q <;> omega) (by decide) (fun c_148 => ?_) (fun c_148 => ?_)
          · have v2 := c_148
            refine zt_iconst dX11_curves_155 ?_
            refine zt_istore_5 dX11_curves_156 (by decide) rfl ?_
            refine zt_iincv_6 (v := 3) dX11_curves_158 (by decide) rfl (by decide) ?_
            refine zt_goto (tgt := 122) dX11_curves_161 (by decide) ?_
            refine zt_iload dX11_curves_122 rfl ?_
            refine zt_iload_n dX11_curves_124 rfl ?_
            refine zt_icmp_gt (tgt := 164) dX11_curves_125 (by decide) (by decide) (by decide) (fun q => absurd q (by decide)) (fun c_125 => ?_)
            refine zt_iload dX11_curves_128 rfl ?_
            refine zt_if_eq (tgt := 155) dX11_curves_130 (by decide) (by decide) (fun c_130 => ?_) (fun q => absurd q (by decide))
            refine zt_iconst dX11_curves_155 ?_
            refine zt_istore_5 dX11_curves_156 (by decide) rfl ?_
            refine zt_iincv_6 (v := 4) dX11_curves_158 (by decide) rfl (by decide) ?_
            refine zt_goto (tgt := 122) dX11_curves_161 (by decide) ?_
            refine zt_iload dX11_curves_122 rfl ?_
            refine zt_iload_n dX11_curves_124 rfl ?_
            refine zt_icmp_gt (tgt := 164) dX11_curves_125 (by decide) (by decide) (by decide) (fun c_125 => ?_) (fun q => absurd q (by decide))
            have hp : ¬ alp (h 71) (lst (g 77) 4) = true := by
              show ¬ List.all [g 77 0, g 77 1, g 77 2, g 77 3] _ = true
              simp only [List.all_cons, List.all_nil, Bool.and_true, Bool.and_eq_true, decide_eq_true_eq]
              intro z
              first | exact z.1 v0 | exact z.2.1 v1 | exact z.2.2.1 v2 | exact z.2.2.2 v3
            refine zt_iload dX11_curves_164 rfl ?_
            refine zt_if_eq (tgt := 175) dX11_curves_166 (by decide) (by decide) (fun c_166 => ?_) (fun q => absurd q (by decide))
            refine zt_kill_5 (zt_kill_6 ?_)
            exact l_cvn4 hS hL hr1 he (fun o g1 q1 q2 q3 => ih o g1 _ (fun z => by have := q3 z; have := hk rfl; omega) (by have := hk rfl; have e := rem_nx (((h 38 50).toNat : Nat) : Int) (lst (g 77) 4); rw [e, List.length_cons] at this; omega) q1 q2) hV hch (mvB_no hall hp)
          · have v2 := c_148
            refine zt_iconst dX11_curves_151 ?_
            refine zt_goto (tgt := 156) dX11_curves_152 (by decide) ?_
            refine zt_istore_5 dX11_curves_156 (by decide) rfl ?_
            refine zt_iincv_6 (v := 3) dX11_curves_158 (by decide) rfl (by decide) ?_
            refine zt_goto (tgt := 122) dX11_curves_161 (by decide) ?_
            refine zt_iload dX11_curves_122 rfl ?_
            refine zt_iload_n dX11_curves_124 rfl ?_
            refine zt_icmp_gt (tgt := 164) dX11_curves_125 (by decide) (by decide) (by decide) (fun q => absurd q (by decide)) (fun c_125 => ?_)
            refine zt_iload dX11_curves_128 rfl ?_
            refine zt_if_eq (tgt := 155) dX11_curves_130 (by decide) (by decide) (fun q => absurd q (by decide)) (fun c_130 => ?_)
            refine zt_aload_n dX11_curves_133 rfl ?_
            refine zt_getv dX11_curves_134 fl_X11_112 (zs_38 hS) (rf_38_51 hV.2.2.1) ?_
            refine zt_aload_n dX11_curves_137 rfl ?_
            refine zt_getv dX11_curves_138 fl_X11_131 (zs_38 hS) (rf_38_58 hV.2.2.1) ?_
            refine zt_iload dX11_curves_141 rfl ?_
            refine zt_iaload dX11_curves_143 (zs_77 hS) (by decide) (by decide) (by decide) ?_
            refine zt_ialoadv (v := h 71 (g 77 3)) dX11_curves_144 (zs_71 hS) (by decide) (by omega) (by omega) (congrFun e71 _) ?_
            refine zt_ldc_w dX11_curves_145 kc_X11_283 ?_
            refine zt_icmp_eq (tgt := 155) dX11_curves_148 (by decide) (by rcases hr1 (g 77 3) (by omega) (by omega) with q | q <;> omega) (by decide) (fun c_148 => ?_) (fun c_148 => ?_)
            · have v3 := c_148
              refine zt_iconst dX11_curves_155 ?_
              refine zt_istore_5 dX11_curves_156 (by decide) rfl ?_
              refine zt_iincv_6 (v := 4) dX11_curves_158 (by decide) rfl (by decide) ?_
              refine zt_goto (tgt := 122) dX11_curves_161 (by decide) ?_
              refine zt_iload dX11_curves_122 rfl ?_
              refine zt_iload_n dX11_curves_124 rfl ?_
              refine zt_icmp_gt (tgt := 164) dX11_curves_125 (by decide) (by decide) (by decide) (fun c_125 => ?_) (fun q => absurd q (by decide))
              have hp : ¬ alp (h 71) (lst (g 77) 4) = true := by
                show ¬ List.all [g 77 0, g 77 1, g 77 2, g 77 3] _ = true
                simp only [List.all_cons, List.all_nil, Bool.and_true, Bool.and_eq_true, decide_eq_true_eq]
                intro z
                first | exact z.1 v0 | exact z.2.1 v1 | exact z.2.2.1 v2 | exact z.2.2.2 v3
              refine zt_iload dX11_curves_164 rfl ?_
              refine zt_if_eq (tgt := 175) dX11_curves_166 (by decide) (by decide) (fun c_166 => ?_) (fun q => absurd q (by decide))
              refine zt_kill_5 (zt_kill_6 ?_)
              exact l_cvn4 hS hL hr1 he (fun o g1 q1 q2 q3 => ih o g1 _ (fun z => by have := q3 z; have := hk rfl; omega) (by have := hk rfl; have e := rem_nx (((h 38 50).toNat : Nat) : Int) (lst (g 77) 4); rw [e, List.length_cons] at this; omega) q1 q2) hV hch (mvB_no hall hp)
            · have v3 := c_148
              refine zt_iconst dX11_curves_151 ?_
              refine zt_goto (tgt := 156) dX11_curves_152 (by decide) ?_
              refine zt_istore_5 dX11_curves_156 (by decide) rfl ?_
              refine zt_iincv_6 (v := 4) dX11_curves_158 (by decide) rfl (by decide) ?_
              refine zt_goto (tgt := 122) dX11_curves_161 (by decide) ?_
              refine zt_iload dX11_curves_122 rfl ?_
              refine zt_iload_n dX11_curves_124 rfl ?_
              refine zt_icmp_gt (tgt := 164) dX11_curves_125 (by decide) (by decide) (by decide) (fun c_125 => ?_) (fun q => absurd q (by decide))
              have hp : alp (h 71) (lst (g 77) 4) = true := by
                show List.all [g 77 0, g 77 1, g 77 2, g 77 3] _ = true
                simp only [List.all_cons, List.all_nil, Bool.and_true, Bool.and_eq_true, decide_eq_true_eq]
                exact ⟨v0, v1, v2, v3⟩
              refine zt_iload dX11_curves_164 rfl ?_
              refine zt_if_eq (tgt := 175) dX11_curves_166 (by decide) (by decide) (fun q => absurd q (by decide)) (fun c_166 => ?_)
              refine zt_aload_n dX11_curves_169 rfl ?_
              refine zt_iload_n dX11_curves_170 rfl ?_
              refine zt_iload_n dX11_curves_171 rfl ?_
              refine zt_callV2v dX11_curves_172 ml_X11_403 (zs_38 hS) (Nat.le_of_ble_eq_true rfl) (zF.of_eq rfl rfl rfl (show jTr g (hpN (qm (g 71) e [g 77 0, g 77 1, g 77 2, g 77 3]) (g 71) (g 38 50).toNat) = jTr g (mF (h 71) e (h 38 50).toNat (lst (g 77) 4)) by rw [e71, e50]; rfl) (c_try4 hS hV.2.2.1 (by rw [e50]; exact hL) (by rw [e50, e71]; exact hr1) (by have := mvA_len (by decide) (by omega) hA; have := hV.2.2.2.1; omega) (mvV_b hV) he rfl rfl (by rw [e71]; rcases hr1 (g 77 0) (by omega) (by omega) with q | q; exact absurd q v0; exact q) rfl rfl (by rw [e71]; rcases hr1 (g 77 1) (by omega) (by omega) with q | q; exact absurd q v1; exact q) rfl rfl (by rw [e71]; rcases hr1 (g 77 2) (by omega) (by omega) with q | q; exact absurd q v2; exact q) rfl rfl (by rw [e71]; rcases hr1 (g 77 3) (by omega) (by omega) with q | q; exact absurd q v3; exact q) (by omega))) ?_
              have e77 : jTr g (mF (h 71) e (h 38 50).toNat (lst (g 77) 4)) 77 = g 77 := jTr_ne (by decide) (by decide)
              have hHb : 0 ≤ mF (h 71) e (h 38 50).toNat (lst (g 77) 4) ∧ mF (h 71) e (h 38 50).toNat (lst (g 77) 4) < 1048576 := by
                have q := hpN_b (q := qm (h 71) e (lst (g 77) 4)) (g := h 71) (h 38 50).toNat
                have q2 := zpw_le (show (h 38 50).toNat ≤ 20 by omega)
                have q3 : (2 : Int) ^ 20 = 1048576 := by decide
                unfold mF; omega
              refine zt_kill_5 (zt_kill_6 ?_)
              exact l_cvn4 hS hL hr1 he (fun o g1 q1 q2 q3 => ih o g1 _ (fun z => by have := q3 z; rw [e77] at this; have := hk rfl; omega) (by have := hk rfl; have e := rem_nx (((h 38 50).toNat : Nat) : Int) (lst (g 77) 4); rw [e, List.length_cons] at this; omega) q1 q2) (mvV_add hV hHb) (by rw [e77]; exact hch) (by rw [e77]; exact mvB_yes hall hp)

