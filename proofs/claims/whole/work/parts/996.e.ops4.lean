set_option maxRecDepth 100000 in
set_option maxHeartbeats 4000000 in
theorem c_jflt {d n : Nat} {sh : zSh} {h : zMem} (hS : zShp sh) (hR : zRf h) (hX : mTx h) : zM yX11_fault cX11_fault 1 (some .int) (d + 10) 0 0 [(2, 38)] n sh h (fun r n1 sh1 h1 => n1 = n ∧ sh1 = sh ∧ (∀ x, x ≠ 38 → x ≠ 40 → x ≠ 41 → x ≠ 42 → h1 x = h x) ∧ zRf h1 ∧ (∀ y, y ≠ 2 ∧ y ≠ 3 ∧ y ≠ 4 ∧ y ≠ 5 ∧ y ≠ 7 ∧ y ≠ 8 ∧ y ≠ 11 → h1 38 y = h 38 y) ∧ mEnd (pAl (h 2) (h 1 1)) r h1) := by
  refine zM.ofT2 (by decide +kernel) [some (2, 38)] rfl (Nat.le_of_ble_eq_true rfl) ?_
  refine zt_aload_n dX11_fault_0 rfl ?_
  refine zt_callV0q dX11_fault_1 ml_X11_236 (zs_38 hS) (Nat.le_of_ble_eq_true rfl) (c_reads (T := h 2) (L := h 1 1) hS hR hX) ?_
  rintro r n1 sh1 h1 ⟨rfl, rfl, hz, hR1, hy, hpe⟩
  obtain ⟨v, rfl⟩ : ∃ v, r = some (0, v) := by cases e : pAl (h 2) (h 1 1) with
    | inl e1 => rw [e] at hpe; exact ⟨_, hpe⟩
    | inr q => rw [e] at hpe; exact ⟨_, hpe.1⟩
  simp only [Option.toList, List.cons_append, List.nil_append]
  exact zt_iret dX11_fault_4 ⟨rfl, rfl, hz, hR1, hy, hpe⟩

theorem ch_row {R : List Int} {h h' : zMem} (e : ∀ x, x ∉ R → h' x = h x) : zCh R [] h h' := fun x y hx _ => by rw [e x hx]
theorem ch_mod {R : List Int} {S : List Int} {h h' : zMem} (e : ∀ x, x ∉ R → x ≠ 38 → h' x = h x) (e2 : ∀ y, y ∉ S → h' 38 y = h 38 y) : zCh R (S.map (fun j => ((38 : Int), j))) h h' := fun x y hx hy => by
  by_cases c : x = 38
  · subst c; exact e2 y (fun q => hy (List.mem_map.mpr ⟨y, q, rfl⟩))
  · rw [e x hx c]

set_option maxRecDepth 100000 in
set_option maxHeartbeats 4000000 in
theorem op_fault {q : Int} {n : Nat} {sh : zSh} {h : zMem} (hI : INV q n sh h) (hq6 : q ≤ 520)  : oOK q n sh h (fun Q => zM yX10_fault cX10_fault 1 (some .int) 70 0 0 [(2, 0)] n sh h Q) (fun n1 sh1 h1 Q => zM yX11_fault cX11_fault 1 (some .int) 70 0 0 [(2, 38)] n1 sh1 h1 Q) := by
  obtain ⟨⟨hS, hR, hn, hq⟩, hB, hX, hSh, hT, hV, hE, hRw, hN, hU, hG, hL, hTk, hW⟩ := id hI
  have hTb := hI.xTb
  refine ⟨_, c_xflt (d := 9) hS hR hTb hX.1, ?_⟩
  rintro r n1 sh1 h1 ⟨rfl, rfl, hz, hR1, hpe⟩
  have c1 : zCh [3, 4] [] h h1 := ch_row (fun x hx => hz x (fun z => hx (by rw [z]; decide)) (fun z => hx (by rw [z]; decide)))
  have e2 : h1 2 = h 2 := hz 2 (by decide) (by decide)
  have e1 : h1 1 1 = h 1 1 := congrFun (hz 1 (by decide) (by decide)) 1
  have hX1 : mTx h1 := mTx_c c1.lo (by decide) hX
  obtain ⟨v, hv, hm⟩ : ∃ v, r = some (0, v) ∧ ∀ r2 h2, mEnd (pAl (h1 2) (h1 1 1)) r2 h2 → r2 = some (0, v) := by
    rw [e2, e1]
    cases e : pAl (h 2) (h 1 1) with
    | inl e1 => rw [e] at hpe; exact ⟨_, hpe, fun r2 h2 q => q⟩
    | inr q => rw [e] at hpe; exact ⟨_, hpe.1, fun r2 h2 q => q.1⟩
  refine ⟨⟨rfl, c1.lo.r (DR := [-1000]) (DS := []) (by decide) (by decide)⟩, v, hv, _, c_jflt (d := 60) hS hR1 hX1, ?_⟩
  rintro r2 n2 sh2 h2 ⟨rfl, rfl, hz2, hR2, hy2, hpe2⟩
  have c2 : zCh [40, 41, 42] [(38, 2), (38, 3), (38, 4), (38, 5), (38, 7), (38, 8), (38, 11)] h1 h2 := ch_mod (S := [2, 3, 4, 5, 7, 8, 11]) (fun x hx h38 => hz2 x h38 (fun z => hx (by rw [z]; decide)) (fun z => hx (by rw [z]; decide)) (fun z => hx (by rw [z]; decide))) (fun y hy => hy2 y ⟨fun z => hy (by rw [z]; decide), fun z => hy (by rw [z]; decide), fun z => hy (by rw [z]; decide), fun z => hy (by rw [z]; decide), fun z => hy (by rw [z]; decide), fun z => hy (by rw [z]; decide), fun z => hy (by rw [z]; decide)⟩)
  have cc := c1.trans c2
  exact ⟨hm _ _ hpe2, ⟨rfl, cc.lo.r (DR := [-1000]) (DS := []) (by decide) (by decide)⟩, hI.keep cc (by decide) (by decide) hR2 (by decide) (by rw [cc.lo.r (DR := [75]) (DS := []) (by decide) (by decide)]; exact hL)⟩

set_option maxRecDepth 100000 in
set_option maxHeartbeats 4000000 in
theorem op_value {q : Int} {n : Nat} {sh : zSh} {h : zMem} {c x y g : Int} (hI : INV q n sh h) (hq6 : q ≤ 520) (hc_ : zi32 c) (hx_ : zi32 x) (hy_ : zi32 y) (hg_ : zi32 g) : oOK q n sh h (fun Q => zM yX10_value cX10_value 6 (some .int) 70 0 0 [(2, 0), (0, c), (0, x), (0, y), (0, g)] n sh h Q) (fun n1 sh1 h1 Q => zM yX11_value cX11_value 5 (some .int) 70 0 0 [(2, 38), (0, c), (0, x), (0, y), (0, g)] n1 sh1 h1 Q) := by
  obtain ⟨⟨hS, hR, hn, hq⟩, hB, hX, hSh, hT, hV, hE, hRw, hN, hU, hG, hL, hTk, hW⟩ := id hI
  have hTb := hI.xTb
  obtain ⟨W, hSs, hms⟩ := hSh.2
  refine ⟨_, c_xval (d := 65) (W := W) hS hR hSs hc_ hx_ hy_ hg_, ?_⟩
  rintro r n1 sh1 h1 ⟨rfl, rfl, hz, hR1, rfl⟩
  have c1 : zCh [5, 6, 7] [] h h1 := ch_row (fun x hx => hz x ⟨fun z => hx (by rw [z]; decide), fun z => hx (by rw [z]; decide), fun z => hx (by rw [z]; decide)⟩)
  have hB1 : mB h1 := mB_c c1.lo (by decide) hB
  have e12 : h1 38 12 = h 0 10 := (congrFun (hz 38 (by decide)) 12).trans hSh.1
  have e43 : h1 43 = h 43 := hz 43 (by decide)
  have e44 : h1 44 = h 44 := hz 44 (by decide)
  have e45 : h1 45 = h 45 := hz 45 (by decide)
  refine ⟨⟨rfl, c1.lo.r (DR := [-1000]) (DS := []) (by decide) (by decide)⟩, _, rfl, _, c_jval (d := 66) (w := W c) hS hR1 hB1 hc_ hx_ hy_ hg_ (fun k a b => by rw [e45]; rw [e12] at b; exact (hms k a b).1) (fun k => by rw [e12] at k; rw [e43, e44, e45]; exact (hms c k.1 k.2).2), ?_⟩
  rintro r2 n2 sh2 h2 ⟨rfl, rfl, hz2, rfl⟩
  have c2 : zCh [72, 73] [(38, 54)] h1 h2 := ch_mod (S := [54]) (fun x hx h38 => hz2.1 x ⟨h38, fun z => hx (by rw [z]; decide), fun z => hx (by rw [z]; decide)⟩) (fun y hy => hz2.2.1 y (fun z => hy (by rw [z]; decide)))
  have cc := c1.trans c2
  refine ⟨?_, ⟨rfl, cc.lo.r (DR := [-1000]) (DS := []) (by decide) (by decide)⟩, hI.keep cc (by decide) (by decide) hz2.2.2 (by decide) (by rw [cc.lo.r (DR := [75]) (DS := []) (by decide) (by decide)]; exact hL)⟩
  rw [e12]
  congr 2
  by_cases k : (0 ≤ c ∧ c < h 0 10) ∧ (1 ≤ y ∧ y ≤ 1000000) ∧ (0 ≤ g ∧ g ≤ 1)
  · rw [if_pos k, if_pos k]
    unfold fval
    by_cases k2 : (fr x y).2 = 0
    · rw [if_pos k2, if_pos k2]; rfl
    · rw [if_neg k2, if_neg k2]
  · rw [if_neg k, if_neg k]

theorem kStep_rg {h : zMem} {t x i : Int} {C : Int → Int} (hE : 4 ≤ h 46 t ∧ h 46 t ≤ 30) (hi : 0 ≤ i ∧ i < h 46 t) (hL : lRg C) (hb : C (i + 1) ≤ 30 * (h 46 t - (i + 1))) : lRg (kStep h t x i C) ∧ kStep h t x i C i ≤ 30 * (h 46 t - i) := by
  have hc := hL (i + 1) (by omega) (by omega)
  unfold kStep
  split
  · exact ⟨kset_rg hL (by omega), by rw [kset_at]; omega⟩
  · have hF : ∀ (k : Nat) (g : Int) (D : Int → Int), 5 - g ≤ k → 1 ≤ g → lRg D → lRg (zFor (kRuns h t x i) g 5 D) := by
      intro k
      induction k with
      | zero => intro g D hk _ hD; rw [zFor_e (by omega)]; exact hD
      | succ k ih =>
        intro g D hk hg hD
        by_cases c : g < 5
        · rw [zFor_s c]; exact ih (g + 1) _ (by omega) (by omega) (kRuns_rg hE.2 hi hg hD).1
        · rw [zFor_e (by omega)]; exact hD
    refine ⟨hF 4 1 _ (by omega) (by omega) (kset_rg hL (by omega)), ?_⟩
    have := kF_leC (h := h) (t := t) (x := x) (i := i) (y := i) 4 1 (kset C i (C (i + 1) + 30)) (by omega)
    rw [kset_at] at this
    omega
theorem kDn_rg {h : zMem} {t x : Int} (hE : 4 ≤ h 46 t ∧ h 46 t ≤ 30) : ∀ (k : Nat) (C : Int → Int), (k : Int) ≤ h 46 t → lRg C → C k ≤ 30 * (h 46 t - k) → lRg (kDn h t x k C)
  | 0, C, _, hL, _ => hL
  | k + 1, C, hk, hL, hb => by
    have q := kStep_rg (x := x) hE (i := k) (by omega) hL (by rw [show (k : Int) + 1 = ((k + 1 : Nat) : Int) by omega]; exact hb)
    exact kDn_rg hE k _ (by omega) q.1 q.2

set_option maxRecDepth 100000 in
set_option maxHeartbeats 4000000 in
theorem op_settings {q : Int} {n : Nat} {sh : zSh} {h : zMem} {p x : Int} (hI : INV q n sh h) (hq6 : q ≤ 520) (hp_ : zi32 p) (hx_ : zi32 x) : oOK q n sh h (fun Q => zM yX10_settings cX10_settings 4 (some .int) 70 0 0 [(2, 0), (0, p), (0, x)] n sh h Q) (fun n1 sh1 h1 Q => zM yX11_settings cX11_settings 6 (some .int) 70 0 0 [(2, 38), (0, p), (0, x)] n1 sh1 h1 Q) := by
  obtain ⟨⟨hS, hR, hn, hq⟩, hB, hX, hSh, hT, hV, hE, hRw, hN, hU, hG, hL, hTk, hW⟩ := id hI
  have hTb := hI.xTb
  refine ⟨_, c_xset2 (d := 65) hS hR hTb hp_ hx_, ?_⟩
  rintro r n1 sh1 h1 ⟨rfl, rfl, hz⟩
  have e17 := hT.1
  have c1 : zCh [24, 25] [] h h1 := by
    rcases hz with ⟨_, _, c1, rfl⟩ | ⟨_, _, rfl⟩
    · exact ch_row (fun x hx => lM_ne ⟨fun z => hx (by rw [z]; decide), fun z => hx (by rw [z]; decide)⟩)
    · exact ch_row (fun _ _ => rfl)
  have hR1 : zRf h1 := zRf_c c1.lo (by decide) hR
  have hB1 : mB h1 := mB_c c1.lo (by decide) hB
  have hTk1 : vTok h1 := vTok_c c1.lo (by decide) hTk
  have eR := fun x hx => c1.lo.r (x := x) (DR := [46, 47, 38, 75, -1000]) (DS := []) (by decide) hx
  have hL1 : lRg (h1 75) := by rw [eR 75 (by decide)]; exact hL
  obtain ⟨v, rfl, hv⟩ : ∃ v, r = some (0, v) ∧ ((xT h p ∧ 0 ≤ x ∧ x ≤ 99) ∧ v = lAll h (xAt h p) x (h (xAt h p) 0) ∨ ¬ (xT h p ∧ 0 ≤ x ∧ x ≤ 99) ∧ v = -1) := by
    rcases hz with ⟨k, rfl, _⟩ | ⟨k, rfl, _⟩
    · exact ⟨_, rfl, Or.inl ⟨k, rfl⟩⟩
    · exact ⟨_, rfl, Or.inr ⟨k, rfl⟩⟩
  refine ⟨⟨rfl, eR (-1000) (by decide)⟩, v, rfl, _, c_jsts (d := 66) hS hR1 hB1 hTk1 hL1 hp_ hx_, ?_⟩
  rintro r2 n2 sh2 h2 ⟨rfl, rfl, hz2⟩
  have e38 : h1 38 17 = h 0 11 := (congrFun (eR 38 (by decide)) 17).trans e17
  rcases hz2 with ⟨k, rfl, c1', rfl⟩ | ⟨k, rfl, rfl⟩
  · have k' : xT h p ∧ 0 ≤ x ∧ x ≤ 99 := by unfold jT at k; rw [e38] at k; exact k
    obtain ⟨ea, ⟨hZ, ⟨e46, e58, e59, e60⟩, hbd, hwn, hen⟩, hp17, hp5⟩ := iT_at hI k'.1
    have hE := hZ.2.2.1
    have hs : sLk h h1 (xAt h p) p := ⟨by rw [eR 46 (by decide)]; exact e46.symm, by rw [e38]; exact k'.1, fun i a b => by
      rw [eR 46 (by decide), e46] at b
      rw [eR 47 (by decide)]; exact (hen i a b).1.1⟩
    have h46 : h1 46 p = h (xAt h p) 0 := by rw [eR 46 (by decide)]; exact e46
    have c2 : zCh [76, 75] [] h1 (kM h1 c1' (kDn h1 p x (h1 46 p).toNat (kset (h1 75) (h1 46 p) 0))) := ch_row (fun x hx => kM_ne ⟨fun z => hx (by rw [z]; decide), fun z => hx (by rw [z]; decide)⟩)
    have cc := c1.trans c2
    refine ⟨?_, ⟨rfl, cc.lo.r (DR := [-1000]) (DS := []) (by decide) (by decide)⟩, hI.keep cc (by decide) (by decide) (kM_rf hR1) (by decide) (by rw [kM_75]; exact kDn_rg (by omega) _ _ (by omega) (kset_rg hL1 (by omega)) (by rw [show (((h1 46 p).toNat : Nat) : Int) = h1 46 p by omega, kset_at]; omega))⟩
    rcases hv with ⟨_, rfl⟩ | ⟨q, _⟩
    · rw [sts_eq hs (by omega)]
    · exact absurd k' q
  · have k' : ¬ (xT h p ∧ 0 ≤ x ∧ x ≤ 99) := by unfold jT at k; rw [e38] at k; exact k
    refine ⟨?_, ⟨rfl, eR (-1000) (by decide)⟩, hI.keep c1 (by decide) (by decide) hR1 (by decide) hL1⟩
    rcases hv with ⟨q, _⟩ | ⟨_, rfl⟩
    · exact absurd q k'
    · rfl

theorem zFor_in {f : Int → Int → Int} {P : Int → Prop} {N : Int} (hf : ∀ j s, P s → P (f j s)) : ∀ (k : Nat) (i s : Int), N - i ≤ k → P s → P (zFor f i N s) := by
  intro k
  induction k with
  | zero => intro i s hk hs; rw [zFor_e (by omega)]; exact hs
  | succ k ih =>
    intro i s hk hs
    by_cases c : i < N
    · rw [zFor_s c]; exact ih (i + 1) _ (by omega) (hf i s hs)
    · rw [zFor_e (by omega)]; exact hs
theorem zFor_in2 {f : Int → Int → Int} {P : Int → Prop} {N : Int} : ∀ (k : Nat) (i s : Int), N - i ≤ k → (∀ j s, i ≤ j → j < N → P s → P (f j s)) → P s → P (zFor f i N s) := by
  intro k
  induction k with
  | zero => intro i s hk _ hs; rw [zFor_e (by omega)]; exact hs
  | succ k ih =>
    intro i s hk hf hs
    by_cases c : i < N
    · rw [zFor_s c]; exact ih (i + 1) _ (by omega) (fun j s a b => hf j s (by omega) b) (hf i s (Int.le_refl _) c hs)
    · rw [zFor_e (by omega)]; exact hs

set_option maxRecDepth 100000 in
set_option maxHeartbeats 4000000 in
theorem op_misses {q : Int} {n : Nat} {sh : zSh} {h : zMem} {x : Int} (hI : INV q n sh h) (hq6 : q ≤ 520) (hx_ : zi32 x) : oOK q n sh h (fun Q => zM yX10_misses cX10_misses 6 (some .int) 70 0 0 [(2, 0), (0, x)] n sh h Q) (fun n1 sh1 h1 Q => zM yX11_misses cX11_misses 2 (some .int) 70 0 0 [(2, 38), (0, x)] n1 sh1 h1 Q) := by
  obtain ⟨⟨hS, hR, hn, hq⟩, hB, hX, hSh, hT, hV, hE, hRw, hN, hU, hG, hL, hTk, hW⟩ := id hI
  have hTb := hI.xTb
  have e17 := hT.1
  have h32 : 0 ≤ h 32 0 ∧ h 32 0 ≤ 40 := by rw [← hU.1]; exact hB.2.2.2.2.2.1
  have hxe : 0 ≤ x → x < h 32 0 → xT h (h 33 x) := fun a b => by have := (hU.2 x a b).2.1; omega
  by_cases c : 0 ≤ x ∧ x < h 32 0
  · have hk0 := hU.2 x c.1 c.2
    have hp := hxe c.1 c.2
    obtain ⟨ea, ⟨hZ, ⟨e46, e58, e59, e60⟩, hbd, hwn, hen⟩, hp17, hp5⟩ := iT_at hI hp
    have hE30 := hZ.2.2.1
    have c2 : 0 ≤ h 34 x ∧ h 34 x < h (xAt h (h 33 x)) 0 := by have := hk0.2.2.1; omega
    have hq2 := hen (h 34 x) c2.1 c2.2
    have e8 := hq2.1.2.2.2.1
    have e62 := hk0.1.1
    have h57 : h 57 (30 * h 33 x + h 34 x) ≠ -1 := by rw [← e62]; exact hk0.2.2.2.1
    have h3 := hq2.2.1 (hq2.2.2.2.2.2 h57).1
    have hf : tFig h (xAt h (h 33 x)) (h 34 x) = h 53 (h 62 x) := by rw [e62]; exact (if_pos ⟨c2, by omega⟩).trans h3.2.1
    have hcg : zFor (eAp h (h 33 x) (h 34 x) 999) 0 x (tFig h (xAt h (h 33 x)) (h 34 x)) = zFor (jAp h (h 62 x) 999) 0 x (h 53 (h 62 x)) := by
      rw [hf]
      refine zFor_cg 40 0 _ (by omega) (fun k s a b => ?_)
      have hk := hU.2 k a (by omega)
      have h46 := hB.2.1 (h 33 k) hk.2.1.1 hk.2.1.2
      unfold jAp eAp
      rw [hk.1.2.1, hk.1.2.2.1]
      have e5 := hk.1.2.2.2
      have e6 := hk.1.1
      have e7 := hk.2.2.1
      by_cases c4 : (h 33 k = h 33 x ∧ h 34 k = h 34 x ∧ h 37 k ≤ 999) ∧ h 35 k = s
      · rw [if_pos c4, if_pos (by omega)]
      · rw [if_neg c4, if_neg (by omega)]
    have hzf : zi32 (zFor (eAp h (h 33 x) (h 34 x) 999) 0 x (tFig h (xAt h (h 33 x)) (h 34 x))) := by
      refine zFor_in2 (P := fun s => zi32 s) 40 0 _ (by omega) (fun j s a b hs => ?_) (by rw [hf, e62]; have := h3.2.2; show zi32 _; omega)
      have hk := hU.2 j a (by omega)
      unfold eAp
      split
      · have := hk.2.2.2.2.2; have := hk.1.2.2.1; show zi32 _; omega
      · exact hs
    have a := zF.of_eq (n := n) (r' := some (0, if h 63 x = zFor (jAp h (h 62 x) 999) 0 x (h 53 (h 62 x)) then 0 else 1)) (h1' := h) (congrArg (fun z => some ((0, z) : zV)) ((if_pos c).trans (by rw [hcg, hk0.1.2.1]; by_cases z : zFor (jAp h (h 62 x) 999) 0 x (h 53 (h 62 x)) = h 35 x; (rw [if_pos z, if_pos z.symm]); (rw [if_neg z, if_neg (fun w => z w.symm)])))) rfl rfl rfl (c_xms (d := 67) hS hR hTb hx_ h32 hxe (fun _ _ => hzf))
    have hE : ∀ k, 0 ≤ k → k < h 38 37 → (0 ≤ h 62 k ∧ h 62 k < 150) ∧ h 65 k ≤ 999 := fun k a b => by
      have hk := hU.2 k a (by rw [← hU.1]; exact b)
      have h46 := hB.2.1 (h 33 k) hk.2.1.1 hk.2.1.2
      have h5 := hB.1
      have e6 := hk.1.1
      have e7 := hk.2.2.1
      exact ⟨by omega, hk.2.2.2.2.1⟩
    have b := zF.of_eq (n := n) (r' := some (0, if h 63 x = zFor (jAp h (h 62 x) 999) 0 x (h 53 (h 62 x)) then 0 else 1)) (congrArg (fun z => some ((0, z) : zV)) (if_pos (by rw [hU.1]; exact c))) rfl rfl (if_pos (by rw [hU.1]; exact c)) (c_jms (d := 69) hS hR hB hE hx_)
    have c2' : zCh [] [(38, 63)] h (zup h 38 63 (if h 63 x = zFor (jAp h (h 62 x) 999) 0 x (h 53 (h 62 x)) then 0 else 1)) := zCh.up
    exact oOK.FF a b rfl zChL.refl c2'.lo (by decide) (by decide) (hI.keep c2' (by decide) (by decide) (hR.up (by decide)) (by decide) (by rw [zup_ne (by decide)]; exact hL))
  · have hE : ∀ k, 0 ≤ k → k < h 38 37 → (0 ≤ h 62 k ∧ h 62 k < 150) ∧ h 65 k ≤ 999 := fun k a b => by
      have hk := hU.2 k a (by rw [← hU.1]; exact b)
      have h46 := hB.2.1 (h 33 k) hk.2.1.1 hk.2.1.2
      have h5 := hB.1
      have e6 := hk.1.1
      have e7 := hk.2.2.1
      exact ⟨by omega, hk.2.2.2.2.1⟩
    have a := zF.of_eq (n := n) (r' := some (0, -1)) (h1' := h) (congrArg (fun z => some ((0, z) : zV)) (if_neg c)) rfl rfl rfl (c_xms (d := 67) hS hR hTb hx_ h32 hxe (fun z1 z2 => absurd ⟨z1, z2⟩ c))
    have b := zF.of_eq (n := n) (r' := some (0, -1)) (h1' := h) (congrArg (fun z => some ((0, z) : zV)) (if_neg (by rw [hU.1]; exact c))) rfl rfl (if_neg (by rw [hU.1]; exact c)) (c_jms (d := 69) hS hR hB hE hx_)
    exact oOK.FF a b rfl zChL.refl zChL.refl (by decide) (by decide) (hI.keep zCh.refl (by decide) (by decide) hR (by decide) hL)

