theorem zM_mono {y : MethodName} {cc : ByteArray} {mL : Nat} {rt : Option FieldType} {d kc ks : Nat} {av : List zV} {n : Nat} {sh : zSh} {h : zMem} {Q Q' : Option zV → Nat → zSh → zMem → Prop} (hq : ∀ r n1 sh1 h1, Q r n1 sh1 h1 → Q' r n1 sh1 h1) (k : zM y cc mL rt d kc ks av n sh h Q) : zM y cc mL rt d kc ks av n sh h Q' := by
  intro l D cA φ n0 hφ
  have k1 := k l D cA φ n0 hφ
  intro p e ha hc hk s m args below hf happ hP ht
  obtain ⟨k, o, h1, h2, h3, ⟨⟨r, n', sh', h', q1, q2, q3⟩, q4⟩, q5⟩ := k1 p e ha hc hk s m args below hf happ hP ht
  exact ⟨k, o, h1, h2, h3, ⟨⟨r, n', sh', h', q1, hq _ _ _ _ q2, q3⟩, q4⟩, q5⟩
def stI (A : Int → Int) : List Int → Prop
  | [] => True
  | x :: s => A s.length = x ∧ stI A s
theorem stI_up {A B : Int → Int} : ∀ {s : List Int}, (∀ i : Int, 0 ≤ i → i < s.length → B i = A i) → stI A s → stI B s
  | [], _, _ => trivial
  | x :: s, e, q => ⟨by rw [e s.length (by omega) (by rw [List.length_cons]; omega)]; exact q.1, stI_up (fun i a b => e i a (by rw [List.length_cons]; omega)) q.2⟩
/-- the reference's reader: at the token from p on, w still to come, d deep, m parts of code cf -/
def mS (h0 h : zMem) (p : Int) (w : List Int) (d m : Int) (cf : Int → Int × Int) : Prop :=
  ((∀ x, x ≠ 38 → x ≠ 40 → x ≠ 41 → x ≠ 42 → h x = h0 x) ∧ zRf h ∧ ∀ y, y ≠ 2 ∧ y ≠ 3 ∧ y ≠ 4 ∧ y ≠ 5 ∧ y ≠ 7 ∧ y ≠ 8 ∧ y ≠ 11 → h 38 y = h0 38 y) ∧
  (h 38 2 = kE (h0 (-2002)) (h0 (-2001) 1) p ∧ h 38 4 = kS (h0 (-2002)) (h0 (-2001) 1) p ∧ mtk (kK (h0 (-2002)) (h0 (-2001) 1) p) (kN (h0 (-2002)) (h0 (-2001) 1) p) (h 38 3) (h 38 5)) ∧
  (h 38 7 = w.length ∧ stI (h 40) w) ∧ h 38 8 = d ∧ h 38 11 = m ∧ ∀ j, 0 ≤ j → j < m → h 41 j = (cf j).1 ∧ h 42 j = (cf j).2
theorem mS.tx {h0 h : zMem} {p d m : Int} {w : List Int} {cf : Int → Int × Int} (hX : mTg h0) (s : mS h0 h p w d m cf) : mTg h := by
  obtain ⟨⟨s1, s2, s3⟩, -⟩ := s
  refine ⟨by rw [s1 (-2001) (by decide) (by decide) (by decide) (by decide), s1 (-2002) (by decide) (by decide) (by decide) (by decide)]; exact hX.1, ?_, ?_⟩
  · rw [s3 1 (by decide), s1 (-2001) (by decide) (by decide) (by decide) (by decide)]; exact hX.2.1
  · rw [s1 (-2001) (by decide) (by decide) (by decide) (by decide), s1 (-2002) (by decide) (by decide) (by decide) (by decide), s1 39 (by decide) (by decide) (by decide) (by decide)]; exact hX.2.2
def mPu (h : zMem) (x : Int) : zMem := zup (zup h 40 (h 38 7) x) 38 7 (h 38 7 + 1)
def mEm (h : zMem) (x y : Int) : zMem := zup (zup (zup h 41 (h 38 11) x) 42 (h 38 11) y) 38 11 (h 38 11 + 1)
theorem mS.push {h0 h : zMem} {p d m x : Int} {w : List Int} {cf : Int → Int × Int} (s : mS h0 h p w d m cf) : mS h0 (mPu h x) p (x :: w) d m cf := by
  obtain ⟨⟨s1, s2, s3⟩, s4, ⟨s5, s6⟩, s7, s8, s9⟩ := s
  have e : ∀ y, y ≠ 7 → mPu h x 38 y = h 38 y := fun y hy => (zupJ hy).trans (zupA (by decide))
  refine ⟨⟨fun a a1 a2 a3 a4 => (zup_ne a1).trans ((zup_ne a2).trans (s1 a a1 a2 a3 a4)), (s2.upA (by decide)).up (by decide), fun y hy => (e y hy.2.2.2.2.1).trans (s3 y hy)⟩, ?_, ⟨?_, ?_, ?_⟩, ?_, ?_, ?_⟩
  · rw [e 2 (by decide), e 4 (by decide), e 3 (by decide), e 5 (by decide)]; exact s4
  · unfold mPu; rw [zupE, s5, List.length_cons]; omega
  · show zup (zup h 40 (h 38 7) x) 38 7 _ 40 w.length = x
    rw [zupA (by decide), ← s5, zupE]
  · refine stI_up (fun i a b => ?_) s6
    show zup (zup h 40 (h 38 7) x) 38 7 _ 40 i = h 40 i
    rw [zupA (by decide), zupJ (by omega)]
  · rw [e 8 (by decide)]; exact s7
  · rw [e 11 (by decide)]; exact s8
  · intro j a b
    rw [show mPu h x 41 = h 41 from (zup_ne (by decide)).trans (zup_ne (by decide)), show mPu h x 42 = h 42 from (zup_ne (by decide)).trans (zup_ne (by decide))]; exact s9 j a b
theorem mS.emit {h0 h : zMem} {p d m x y : Int} {w : List Int} {cf : Int → Int × Int} (s : mS h0 h p w d m cf) : mS h0 (mEm h x y) p w d (m + 1) (fun j => if j < m then cf j else (x, y)) := by
  obtain ⟨⟨s1, s2, s3⟩, s4, ⟨s5, s6⟩, s7, s8, s9⟩ := s
  have e : ∀ q, q ≠ 11 → mEm h x y 38 q = h 38 q := fun q hq => (zupJ hq).trans ((zupA (by decide)).trans (zupA (by decide)))
  refine ⟨⟨fun a a1 a2 a3 a4 => (zup_ne a1).trans ((zup_ne a4).trans ((zup_ne a3).trans (s1 a a1 a2 a3 a4))), ((s2.upA (by decide)).upA (by decide)).up (by decide), fun q hq => (e q hq.2.2.2.2.2.2).trans (s3 q hq)⟩, ?_, ⟨?_, ?_⟩, ?_, ?_, ?_⟩
  · rw [e 2 (by decide), e 4 (by decide), e 3 (by decide), e 5 (by decide)]; exact s4
  · rw [e 7 (by decide)]; exact s5
  · rw [show mEm h x y 40 = h 40 from (zup_ne (by decide)).trans ((zup_ne (by decide)).trans (zup_ne (by decide)))]; exact s6
  · rw [e 8 (by decide)]; exact s7
  · unfold mEm; rw [zupE, s8]
  · intro j a b
    rw [show mEm h x y 41 j = if j = m then x else h 41 j by unfold mEm; rw [zupA (by decide), zupA (by decide), zup_at, s8], show mEm h x y 42 j = if j = m then y else h 42 j by unfold mEm; rw [zupA (by decide), zup_at, zupA (by decide), s8]]
    by_cases q : j < m
    · rw [if_neg (by omega), if_neg (by omega)]
      show _ = (if j < m then cf j else (x, y)).1 ∧ _ = (if j < m then cf j else (x, y)).2
      rw [if_pos q]; exact s9 j a q
    · rw [if_pos (by omega), if_pos (by omega)]
      show _ = (if j < m then cf j else (x, y)).1 ∧ _ = (if j < m then cf j else (x, y)).2
      rw [if_neg q]; exact ⟨rfl, rfl⟩
theorem mS.deep {h0 h : zMem} {p d m x : Int} {w : List Int} {cf : Int → Int × Int} (s : mS h0 h p w d m cf) : mS h0 (zup h 38 8 x) p w x m cf := by
  obtain ⟨⟨s1, s2, s3⟩, s4, ⟨s5, s6⟩, s7, s8, s9⟩ := s
  have e : ∀ y, y ≠ 8 → zup h 38 8 x 38 y = h 38 y := fun y hy => zupJ hy
  refine ⟨⟨fun a a1 a2 a3 a4 => (zup_ne a1).trans (s1 a a1 a2 a3 a4), s2.up (by decide), fun y hy => (e y hy.2.2.2.2.2.1).trans (s3 y hy)⟩, ?_, ⟨?_, ?_⟩, zupE, ?_, ?_⟩
  · rw [e 2 (by decide), e 4 (by decide), e 3 (by decide), e 5 (by decide)]; exact s4
  · rw [e 7 (by decide)]; exact s5
  · rw [zup_ne (by decide)]; exact s6
  · rw [e 11 (by decide)]; exact s8
  · rw [zup_ne (by decide), zup_ne (by decide)]; exact s9
theorem mS.pop {h0 h : zMem} {p d m x : Int} {w : List Int} {cf : Int → Int × Int} (s : mS h0 h p (x :: w) d m cf) : mS h0 (zup h 38 7 (h 38 7 - 1)) p w d m cf ∧ h 38 7 = w.length + 1 ∧ zup h 38 7 (h 38 7 - 1) 40 w.length = x := by
  obtain ⟨⟨s1, s2, s3⟩, s4, ⟨s5, s6⟩, s7, s8, s9⟩ := s
  rw [List.length_cons] at s5
  have e : ∀ y, y ≠ 7 → zup h 38 7 (h 38 7 - 1) 38 y = h 38 y := fun y hy => zupJ hy
  refine ⟨⟨⟨fun a a1 a2 a3 a4 => (zup_ne a1).trans (s1 a a1 a2 a3 a4), s2.up (by decide), fun y hy => (e y hy.2.2.2.2.1).trans (s3 y hy)⟩, ?_, ⟨?_, ?_⟩, ?_, ?_, ?_⟩, by omega, ?_⟩
  · rw [e 2 (by decide), e 4 (by decide), e 3 (by decide), e 5 (by decide)]; exact s4
  · rw [zupE]; omega
  · rw [zup_ne (by decide)]; exact s6.2
  · rw [e 8 (by decide)]; exact s7
  · rw [e 11 (by decide)]; exact s8
  · rw [zup_ne (by decide), zup_ne (by decide)]; exact s9
  · rw [zup_ne (by decide)]; exact s6.1
theorem mS.next {h0 h : zMem} {p p1 d m v t : Int} {w : List Int} {cf : Int → Int × Int} (s : mS h0 h p w d m cf) (hk : mtk (kK (h0 (-2002)) (h0 (-2001) 1) p1) (kN (h0 (-2002)) (h0 (-2001) 1) p1) t v) : mS h0 (nM h (kE (h0 (-2002)) (h0 (-2001) 1) p1) (kS (h0 (-2002)) (h0 (-2001) 1) p1) v t) p1 w d m cf := by
  obtain ⟨⟨s1, s2, s3⟩, s4, ⟨s5, s6⟩, s7, s8, s9⟩ := s
  refine ⟨⟨fun a a1 a2 a3 a4 => (nM_n a1).trans (s1 a a1 a2 a3 a4), nM_rf s2, fun y hy => (nM_o ⟨hy.1, hy.2.1, hy.2.2.1, hy.2.2.2.1⟩).trans (s3 y hy)⟩, ?_, ⟨?_, ?_⟩, ?_, ?_, ?_⟩
  · refine ⟨nM_38, nM_38, ?_⟩
    rw [show nM h (kE (h0 (-2002)) (h0 (-2001) 1) p1) (kS (h0 (-2002)) (h0 (-2001) 1) p1) v t 38 3 = t from nM_38, show nM h (kE (h0 (-2002)) (h0 (-2001) 1) p1) (kS (h0 (-2002)) (h0 (-2001) 1) p1) v t 38 5 = v from nM_38]; exact hk
  · rw [nM_o (by decide)]; exact s5
  · rw [nM_n (by decide)]; exact s6
  · rw [nM_o (by decide)]; exact s7
  · rw [nM_o (by decide)]; exact s8
  · rw [nM_n (by decide), nM_n (by decide)]; exact s9
theorem mS.cong {h0 h : zMem} {p d m : Int} {w : List Int} {cf cg : Int → Int × Int} (s : mS h0 h p w d m cf) (e : ∀ j, 0 ≤ j → j < m → cf j = cg j) : mS h0 h p w d m cg := by
  obtain ⟨s0, s4, s5, s7, s8, s9⟩ := s
  exact ⟨s0, s4, s5, s7, s8, fun j a b => by rw [← e j a b]; exact s9 j a b⟩

set_option maxRecDepth 100000 in
set_option maxHeartbeats 4000000 in
theorem c_mpu {d n : Nat} {sh : zSh} {h : zMem} {x : Int} (hS : zShp sh) (hR : zRf h) (hq : 0 ≤ h 38 7 ∧ h 38 7 < 800) (hx : zi32 x) : zF yX11_push cX11_push 2 none (d + 0) 0 0 [(2, 38), (0, x)] n sh h none n sh (mPu h x) := by
  refine zF.ofT (by decide +kernel) [some (2, 38), some (0, x)] rfl (Nat.le_of_ble_eq_true rfl) ?_
  refine zt_aload_n dX11_push_0 rfl ?_
  refine zt_getv dX11_push_1 fl_X11_13 (zs_38 hS) (rf_38_6 hR) ?_
  refine zt_aload_n dX11_push_4 rfl ?_
  refine zt_get dX11_push_5 fl_X11_183 (zs_38 hS) ?_
  refine zt_iload_n dX11_push_8 rfl ?_
  refine zt_iastore dX11_push_9 (zs_40 hS) (by decide) (by omega) (by omega) (by omega) ?_
  refine zt_aload_n dX11_push_10 rfl ?_
  refine zt_dup dX11_push_11 (Nat.ne_of_beq_eq_false rfl) ?_
  refine zt_getv (v := h 38 7) dX11_push_12 fl_X11_183 (zs_38 hS) ((zupA (by decide)).trans rfl) ?_
  refine zt_iconst dX11_push_15 ?_
  refine zt_iadd dX11_push_16 ?_
  refine zt_puti dX11_push_17 fl_X11_183 rfl (zs_38 hS) (by omega) ?_
  exact zt_vret dX11_push_20 ⟨rfl, rfl, rfl, rfl⟩

set_option maxRecDepth 100000 in
set_option maxHeartbeats 4000000 in
theorem c_mem {d n : Nat} {sh : zSh} {h : zMem} {x y : Int} (hS : zShp sh) (hR : zRf h) (hq : 0 ≤ h 38 11 ∧ h 38 11 < 200) (hx : zi32 x) (hy : zi32 y) : zF yX11_emits cX11_emits 3 none (d + 0) 0 0 [(2, 38), (0, x), (0, y)] n sh h none n sh (mEm h x y) := by
  refine zF.ofT (by decide +kernel) [some (2, 38), some (0, x), some (0, y)] rfl (Nat.le_of_ble_eq_true rfl) ?_
  refine zt_aload_n dX11_emits_0 rfl ?_
  refine zt_getv dX11_emits_1 fl_X11_17 (zs_38 hS) (rf_38_9 hR) ?_
  refine zt_aload_n dX11_emits_4 rfl ?_
  refine zt_get dX11_emits_5 fl_X11_186 (zs_38 hS) ?_
  refine zt_iload_n dX11_emits_8 rfl ?_
  refine zt_iastore dX11_emits_9 (zs_41 hS) (by decide) (by omega) (by omega) (by omega) ?_
  refine zt_aload_n dX11_emits_10 rfl ?_
  refine zt_getv dX11_emits_11 fl_X11_20 (zs_38 hS) (rf_38_10 (hR.upA (by decide))) ?_
  refine zt_aload_n dX11_emits_14 rfl ?_
  refine zt_getv (v := h 38 11) dX11_emits_15 fl_X11_186 (zs_38 hS) ((zupA (by decide)).trans rfl) ?_
  refine zt_iload_n dX11_emits_18 rfl ?_
  refine zt_iastore dX11_emits_19 (zs_42 hS) (by decide) (by omega) (by omega) (by omega) ?_
  refine zt_aload_n dX11_emits_20 rfl ?_
  refine zt_dup dX11_emits_21 (Nat.ne_of_beq_eq_false rfl) ?_
  refine zt_getv (v := h 38 11) dX11_emits_22 fl_X11_186 (zs_38 hS) ((zupA (by decide)).trans ((zupA (by decide)).trans rfl)) ?_
  refine zt_iconst dX11_emits_25 ?_
  refine zt_iadd dX11_emits_26 ?_
  refine zt_puti dX11_emits_27 fl_X11_186 rfl (zs_38 hS) (by omega) ?_
  exact zt_vret dX11_emits_30 ⟨rfl, rfl, rfl, rfl⟩

set_option maxRecDepth 100000 in
set_option maxHeartbeats 4000000 in
theorem c_msg {d n : Nat} {sh : zSh} {h : zMem} {x : Int} (hS : zShp sh) (hR : zRf h) (hx : zi32 x) : zF yX11_isSign cX11_isSign 2 (some .boolean) (d + 0) 0 0 [(2, 38), (0, x)] n sh h (some (0, zb (h 38 3 = 3 ∧ h 38 5 = x))) n sh h := by
  refine zF.ofT (by decide +kernel) [some (2, 38), some (0, x)] rfl (Nat.le_of_ble_eq_true rfl) ?_
  refine zt_rg (fun hm => ?_)
  refine zt_aload_n dX11_isSign_0 rfl ?_
  refine zt_get dX11_isSign_1 fl_X11_168 (zs_38 hS) ?_
  refine zt_iconst dX11_isSign_4 ?_
  refine zt_icmp_ne (tgt := 20) dX11_isSign_5 (by decide) (hm.fld (j := 3) (zs_38 hS) (by decide) (by decide) (by decide)) (by decide) (fun c_5 => ?_) (fun c_5 => ?_)
  · refine zt_iconst dX11_isSign_20 ?_
    exact zt_zret dX11_isSign_21 (by decide) ⟨zb0 (by omega), rfl, rfl, rfl⟩
  · refine zt_aload_n dX11_isSign_8 rfl ?_
    refine zt_get dX11_isSign_9 fl_X11_165 (zs_38 hS) ?_
    refine zt_iload_n dX11_isSign_12 rfl ?_
    refine zt_icmp_ne (tgt := 20) dX11_isSign_13 (by decide) (hm.fld (j := 5) (zs_38 hS) (by decide) (by decide) (by decide)) (by omega) (fun c_13 => ?_) (fun c_13 => ?_)
    · refine zt_iconst dX11_isSign_20 ?_
      exact zt_zret dX11_isSign_21 (by decide) ⟨zb0 (by omega), rfl, rfl, rfl⟩
    · refine zt_iconst dX11_isSign_16 ?_
      refine zt_goto (tgt := 21) dX11_isSign_17 (by decide) ?_
      exact zt_zret dX11_isSign_21 (by decide) ⟨zb1 (by omega), rfl, rfl, rfl⟩

set_option maxRecDepth 100000 in
set_option maxHeartbeats 4000000 in
theorem c_mwo {d n : Nat} {sh : zSh} {h : zMem} {x : Int} (hS : zShp sh) (hR : zRf h) (hx : zi32 x) : zF yX11_isWord cX11_isWord 2 (some .boolean) (d + 0) 0 0 [(2, 38), (0, x)] n sh h (some (0, zb (h 38 3 = 2 ∧ h 38 5 = x))) n sh h := by
  refine zF.ofT (by decide +kernel) [some (2, 38), some (0, x)] rfl (Nat.le_of_ble_eq_true rfl) ?_
  refine zt_rg (fun hm => ?_)
  refine zt_aload_n dX11_isWord_0 rfl ?_
  refine zt_get dX11_isWord_1 fl_X11_168 (zs_38 hS) ?_
  refine zt_iconst dX11_isWord_4 ?_
  refine zt_icmp_ne (tgt := 20) dX11_isWord_5 (by decide) (hm.fld (j := 3) (zs_38 hS) (by decide) (by decide) (by decide)) (by decide) (fun c_5 => ?_) (fun c_5 => ?_)
  · refine zt_iconst dX11_isWord_20 ?_
    exact zt_zret dX11_isWord_21 (by decide) ⟨zb0 (by omega), rfl, rfl, rfl⟩
  · refine zt_aload_n dX11_isWord_8 rfl ?_
    refine zt_get dX11_isWord_9 fl_X11_165 (zs_38 hS) ?_
    refine zt_iload_n dX11_isWord_12 rfl ?_
    refine zt_icmp_ne (tgt := 20) dX11_isWord_13 (by decide) (hm.fld (j := 5) (zs_38 hS) (by decide) (by decide) (by decide)) (by omega) (fun c_13 => ?_) (fun c_13 => ?_)
    · refine zt_iconst dX11_isWord_20 ?_
      exact zt_zret dX11_isWord_21 (by decide) ⟨zb0 (by omega), rfl, rfl, rfl⟩
    · refine zt_iconst dX11_isWord_16 ?_
      refine zt_goto (tgt := 21) dX11_isWord_17 (by decide) ?_
      exact zt_zret dX11_isWord_21 (by decide) ⟨zb1 (by omega), rfl, rfl, rfl⟩

theorem c_next2 {d n : Nat} {sh : zSh} {h0 h : zMem} {p d0 m : Int} {w : List Int} {cf : Int → Int × Int} (hS : zShp sh) (hX : mTg h0) (hs : mS h0 h p w d0 m cf) (hp : 0 ≤ p ∧ p ≤ h0 (-2001) 1) : zM yX11_next cX11_next 2 none (d + 5) 0 0 [(2, 38)] n sh h (fun r n1 sh1 h1 => r = none ∧ n1 = n ∧ sh1 = sh ∧ mS h0 h1 (kE (h0 (-2002)) (h0 (-2001) 1) p) w d0 m cf) := by
  have e1 := hs.1.1 (-2001) (by decide) (by decide) (by decide) (by decide)
  have e2 := hs.1.1 (-2002) (by decide) (by decide) (by decide) (by decide)
  have hb := kE_b (T := h0 (-2002)) (L := h0 (-2001) 1) (p := p) hp.2
  have k := c_next (d := d) (n := n) (p := kE (h0 (-2002)) (h0 (-2001) 1) p) hS hs.1.2.1 (hs.tx hX) (by rw [e1]; omega) hs.2.1.1
  rw [e1, e2] at k
  exact zM_mono (fun r n1 sh1 h1 q => by
    obtain ⟨q1, q2, q3, v, t, rfl, q5⟩ := q
    exact ⟨q1, q2, q3, hs.next q5⟩) k

theorem c_mtk {d n : Nat} {sh : zSh} {h0 h : zMem} {p d0 m : Int} {w : List Int} {cf : Int → Int × Int} (hS : zShp sh) (hX : mTg h0) (hs : mS h0 h p w d0 m cf) (hp : 0 ≤ p ∧ p ≤ h0 (-2001) 1) : zM yX11_takes cX11_takes 1 (some .boolean) (d + 6) 0 0 [(2, 38)] n sh h (fun r n1 sh1 h1 => r = some (0, 1) ∧ n1 = n ∧ sh1 = sh ∧ mS h0 h1 (kE (h0 (-2002)) (h0 (-2001) 1) p) w d0 m cf) := by
  refine zM.ofT2 (by decide +kernel) [some (2, 38)] rfl (Nat.le_of_ble_eq_true rfl) ?_
  refine zt_aload_n dX11_takes_0 rfl ?_
  refine zt_callV0q dX11_takes_1 ml_X11_189 (zs_38 hS) (Nat.le_of_ble_eq_true rfl) (c_next2 hS hX hs (by omega)) ?_
  rintro r n1 sh1 g1 ⟨rfl, rfl, rfl, s1⟩
  simp only [Option.toList, List.nil_append]
  refine zt_iconst dX11_takes_4 ?_
  exact zt_zret dX11_takes_5 (by decide) ⟨rfl, rfl, rfl, s1⟩
