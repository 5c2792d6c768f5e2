theorem seg_of {n : Int} {cc : Int → Int → Int} {v : zFr → zFr} {m : Nat} {g : Int → Int} (h : csg n cc v m) (hm : m ≤ 64) (hg : ∀ j, 0 ≤ j → j < n → g j = cc 0 j) : seg g n v := fun x hx J hc hj => by
  have := h x g n J hx hc 0 [] (by omega) (by omega) (fun j a b => hg j a (by omega)) (by show 0 + m ≤ 64; omega)
  rw [Int.zero_add] at this
  exact this hj
theorem mseg_of {n b : Int} {cc : Int → Int → Int × Int} {v : zFr → zFr} {m : Nat} {g w : Int → Int} (h : msg n cc v m) (hm : m ≤ 200) (hg : ∀ j, 0 ≤ j → j < n → g (b + j) = (cc 0 j).1 ∧ w (b + j) = (cc 0 j).2) : mseg g w b (b + n) v := fun x hx J hc hj => by
  have k := h x (fun j => g (b + j)) (fun j => w (b + j)) n (fun a s => J (b + a) s) hx ⟨?_, ?_, ?_, ?_, ?_⟩ 0 [] (by omega) (fun j a c => hg j a (by omega)) (by show 0 + m ≤ 200; omega)
  · simp only [Int.zero_add, Int.add_zero] at k
    exact k hj
  · exact fun a s ha h1 h2 h3 h4 => hc.1 (b + a) s (by omega) h1 h2 h3 (by rw [show b + a + 1 = b + (a + 1) by omega]; exact h4)
  · exact fun a s ha h1 h2 h4 => hc.2.1 (b + a) s (by omega) h1 h2 (by rw [show b + a + 1 = b + (a + 1) by omega]; exact h4)
  · exact fun a s f ha h1 h2 h4 => hc.2.2.1 (b + a) s f (by omega) h1 h2 (by rw [show b + a + 1 = b + (a + 1) by omega]; exact h4)
  · exact fun a s f e ha h1 h2 h4 => hc.2.2.2.1 (b + a) s f e (by omega) h1 h2 (by rw [show b + a + 1 = b + (a + 1) by omega]; exact h4)
  · exact fun a s f e t z ha h1 h2 h4 => hc.2.2.2.2 (b + a) s f e t z (by omega) h1 h2 (by rw [show b + a + 1 = b + (a + 1) by omega]; exact h4)
/-- what a whole TEXT comes to is good -/
theorem pAl_gd {T : Int → Int} {L : Int} {r : zPR} (hL : 0 ≤ L) (h : pAl T L = .inr r) : gd L 35 64 0 r := by
  unfold pAl at h
  split at h
  · cases h
  · rename_i a e
    split at h
    · injection h with h; subst h
      exact gE_gd (fun p r hp e => pF_gd 10 p r hp e) (by omega) 0 a hL e
    · cases h
/-- reads() has changed no more -/
def mRo (h h1 : zMem) : Prop := (∀ x, x ≠ 38 → x ≠ 40 → x ≠ 41 → x ≠ 42 → h1 x = h x) ∧ zRf h1 ∧ ∀ y, y ≠ 2 ∧ y ≠ 3 ∧ y ≠ 4 ∧ y ≠ 5 ∧ y ≠ 7 ∧ y ≠ 8 ∧ y ≠ 11 → h1 38 y = h 38 y
theorem mRo.refl {h : zMem} (hR : zRf h) : mRo h h := ⟨fun _ _ _ _ _ => rfl, hR, fun _ _ => rfl⟩
/-- code copied to the sheets: k parts -/
def jCm (g : zMem) (s k : Int) : zMem := fun x y => if (x = 43 ∨ x = 44) ∧ 200 * s ≤ y ∧ y < 200 * s + k then g (x - 2) (y - 200 * s) else g x y
theorem jCm_0 {g : zMem} {s : Int} : jCm g s 0 = g := zmem_ext (fun x y => if_neg (by omega))
theorem jCm_s {g : zMem} {s k : Int} (h0 : 0 ≤ k) : zup (zup (jCm g s k) 43 (200 * s + k) (g 41 k)) 44 (200 * s + k) (g 42 k) = jCm g s (k + 1) := zmem_ext (fun x y => by
  unfold zup jCm
  by_cases h1 : x = 44 ∧ y = 200 * s + k
  · obtain ⟨rfl, rfl⟩ := h1
    rw [if_pos ⟨rfl, rfl⟩, if_pos (by omega), show (200 * s + k - 200 * s) = k by omega]; rfl
  · rw [if_neg h1]
    by_cases h2 : x = 43 ∧ y = 200 * s + k
    · obtain ⟨rfl, rfl⟩ := h2
      rw [if_pos ⟨rfl, rfl⟩, if_pos (by omega), show (200 * s + k - 200 * s) = k by omega]; rfl
    · rw [if_neg h2]
      by_cases h3 : (x = 43 ∨ x = 44) ∧ 200 * s ≤ y ∧ y < 200 * s + k
      · rw [if_pos h3, if_pos (by omega)]
      · rw [if_neg h3, if_neg (by omega)])
theorem jCm_n {g : zMem} {s k x : Int} (hx : x ≠ 43 ∧ x ≠ 44) : jCm g s k x = g x := by funext y; exact if_neg (by omega)
theorem jCm_rf {g : zMem} {s k : Int} (hR : zRf g) : zRf (jCm g s k) := fun q hq => by
  have h1 : ∀ q ∈ zrf0, q.1 ≠ 43 ∧ q.1 ≠ 44 := by decide
  rw [jCm_n (h1 q hq)]; exact hR q hq
def jSm (g : zMem) (s k : Int) : zMem := zup (zup (zup (jCm g s k) 45 s k) 38 1 0) 38 12 (s + 1)

set_option maxRecDepth 100000 in
set_option maxHeartbeats 4000000 in
theorem l_jshe {d n : Nat} {sh : zSh}  {g : zMem} {s m : Int} (hS : zShp sh) (hR : zRf g) (hm : zMok sh g) (hdo : g 38 11 = m) (hsh : g 38 12 = s) (hs : 0 ≤ s ∧ s < 10) (hmm : 0 ≤ m ∧ m ≤ 200)  : ∀ (k : Nat) (k0 : Int), m - k0 < (k : Int) → 0 ≤ k0 → k0 ≤ m → zT yX11_sheet cX11_sheet 2 (some .int) (d + 10) 0 0 (zq (some (0, s)) n sh (jSm g s m)) 21 [some (2, 38), some (0, k0)] [] n sh (jCm g s k0) := by
  intro k
  induction k with
  | zero => intros; exfalso; omega
  | succ k ih =>
    intro k0 hk h0 h1
    refine zt_iload_n dX11_sheet_21 rfl ?_
    refine zt_aload_n dX11_sheet_22 rfl ?_
    refine zt_getv (v := m) dX11_sheet_23 fl_X11_186 (zs_38 hS) ((congrFun (jCm_n (by decide)) _).trans hdo) ?_
    refine zt_icmp_ge (tgt := 77) dX11_sheet_26 (by decide) (by omega) (by omega) (fun c_26 => ?_) (fun c_26 => ?_)
    · refine zt_aload_n dX11_sheet_77 rfl ?_
      refine zt_getv dX11_sheet_78 fl_X11_29 (zs_38 hS) (rf_38_15 (jCm_rf hR)) ?_
      refine zt_aload_n dX11_sheet_81 rfl ?_
      refine zt_getv (v := s) dX11_sheet_82 fl_X11_239 (zs_38 hS) ((congrFun (jCm_n (by decide)) _).trans hsh) ?_
      refine zt_aload_n dX11_sheet_85 rfl ?_
      refine zt_getv (v := m) dX11_sheet_86 fl_X11_186 (zs_38 hS) ((congrFun (jCm_n (by decide)) _).trans hdo) ?_
      refine zt_iastore dX11_sheet_89 (zs_45 hS) (by decide) (by omega) (by omega) (by omega) ?_
      refine zt_aload_n dX11_sheet_90 rfl ?_
      refine zt_iconst dX11_sheet_91 ?_
      refine zt_puti dX11_sheet_92 fl_X11_140 rfl (zs_38 hS) (by decide) ?_
      refine zt_aload_n dX11_sheet_95 rfl ?_
      refine zt_dup dX11_sheet_96 (Nat.ne_of_beq_eq_false rfl) ?_
      refine zt_getv (v := s) dX11_sheet_97 fl_X11_239 (zs_38 hS) ((zupJ (by decide)).trans ((zupA (by decide)).trans ((congrFun (jCm_n (by decide)) _).trans hsh))) ?_
      refine zt_iconst dX11_sheet_100 ?_
      refine zt_iadd dX11_sheet_101 ?_
      refine zt_puti dX11_sheet_102 fl_X11_239 rfl (zs_38 hS) (by omega) ?_
      refine zt_aload_n dX11_sheet_105 rfl ?_
      refine zt_getv (v := s + 1) dX11_sheet_106 fl_X11_239 (zs_38 hS) zupE ?_
      refine zt_iconst dX11_sheet_109 ?_
      refine zt_isub dX11_sheet_110 ?_
      exact zt_iret dX11_sheet_111 ⟨by congr 2; omega, rfl, rfl, by unfold jSm; rw [show k0 = m by omega]⟩
    · refine zt_aload_n dX11_sheet_29 rfl ?_
      refine zt_getv dX11_sheet_30 fl_X11_23 (zs_38 hS) (rf_38_13 (jCm_rf hR)) ?_
      refine zt_sipush dX11_sheet_33 (by decide) ?_
      refine zt_aload_n dX11_sheet_36 rfl ?_
      refine zt_getv (v := s) dX11_sheet_37 fl_X11_239 (zs_38 hS) ((congrFun (jCm_n (by decide)) _).trans hsh) ?_
      refine zt_imul dX11_sheet_40 ?_
      refine zt_iload_n dX11_sheet_41 rfl ?_
      refine zt_iadd dX11_sheet_42 ?_
      refine zt_aload_n dX11_sheet_43 rfl ?_
      refine zt_getv dX11_sheet_44 fl_X11_17 (zs_38 hS) (rf_38_9 (jCm_rf hR)) ?_
      refine zt_iload_n dX11_sheet_47 rfl ?_
      refine zt_ialoadv (v := g 41 k0) dX11_sheet_48 (zs_41 hS) (by decide) (by omega) (by omega) (congrFun (jCm_n (by decide)) _) ?_
      refine zt_iastore dX11_sheet_49 (zs_43 hS) (by decide) (by omega) (by omega) (hm.int (zs_41 hS) (by omega) (by omega)) ?_
      refine zt_aload_n dX11_sheet_50 rfl ?_
      refine zt_getv dX11_sheet_51 fl_X11_26 (zs_38 hS) (rf_38_14 ((jCm_rf hR).upA (by decide))) ?_
      refine zt_sipush dX11_sheet_54 (by decide) ?_
      refine zt_aload_n dX11_sheet_57 rfl ?_
      refine zt_getv (v := s) dX11_sheet_58 fl_X11_239 (zs_38 hS) ((zupA (by decide)).trans ((congrFun (jCm_n (by decide)) _).trans hsh)) ?_
      refine zt_imul dX11_sheet_61 ?_
      refine zt_iload_n dX11_sheet_62 rfl ?_
      refine zt_iadd dX11_sheet_63 ?_
      refine zt_aload_n dX11_sheet_64 rfl ?_
      refine zt_getv dX11_sheet_65 fl_X11_20 (zs_38 hS) (rf_38_10 ((jCm_rf hR).upA (by decide))) ?_
      refine zt_iload_n dX11_sheet_68 rfl ?_
      refine zt_ialoadv (v := g 42 k0) dX11_sheet_69 (zs_42 hS) (by decide) (by omega) (by omega) ((zupA (by decide)).trans (congrFun (jCm_n (by decide)) _)) ?_
      refine zt_iastore dX11_sheet_70 (zs_44 hS) (by decide) (by omega) (by omega) (hm.int (zs_42 hS) (by omega) (by omega)) ?_
      refine zt_iinc_1 dX11_sheet_71 (by decide) rfl ?_
      refine zt_goto (tgt := 21) dX11_sheet_74 (by decide) ?_
      rw [jCm_s h0]
      exact ih (k0 + 1) (by omega) (by omega) (by omega)

theorem pF_l {T : Int → Int} {L : Int} : True := trivial

set_option maxRecDepth 100000 in
set_option maxHeartbeats 4000000 in
theorem c_jshe {d n : Nat} {sh : zSh} {h : zMem} {T : Int → Int} {L : Int} (hS : zShp sh) (hR : zRf h) (hB : mB h) (hX : mTt h T L) (pAl_l : ∀ {x : Int}, (0 ≤ L ∧ L ≤ 200) → pAl T (L) = .inl x → 0 ≤ x ∧ x ≤ 200) : zM yX11_sheet cX11_sheet 2 (some .int) (d + 10) 0 0 [(2, 38)] n sh h (fun r n1 sh1 h1 => n1 = n ∧ sh1 = sh ∧ ((∃ e, pAl T (L) = .inl e) ∨ h 38 12 = 10 → r = some (0, -1) ∧ mRo h h1) ∧ ∀ q, pAl T (L) = .inr q → h 38 12 < 10 → ∃ g, mRo h g ∧ (∀ j, 0 ≤ j → j < q.2.2.2.1 → g 41 j = (q.2.2.2.2.1 0 j).1 ∧ g 42 j = (q.2.2.2.2.1 0 j).2) ∧ r = some (0, h 38 12) ∧ h1 = jSm g (h 38 12) q.2.2.2.1) := by
  refine zM.ofT2 (by decide +kernel) [some (2, 38), none] rfl (Nat.le_of_ble_eq_true rfl) ?_
  refine zt_rg (fun hm => ?_)
  have b1 := hB.1
  have b3 := hB.2.2.1
  have b4 := hB.2.2.2.1
  have b5 := hB.2.2.2.2.1
  have b6 := hB.2.2.2.2.2.1
  have b7 := hB.2.2.2.2.2.2.1
  have b8 := hB.2.2.2.2.2.2.2.1
  have b9 := hB.2.2.2.2.2.2.2.2.1
  have b10 := hB.2.2.2.2.2.2.2.2.2.1
  have b11 := hB.2.2.2.2.2.2.2.2.2.2
  refine zt_aload_n dX11_sheet_0 rfl ?_
  refine zt_get dX11_sheet_1 fl_X11_239 (zs_38 hS) ?_
  refine zt_bipush dX11_sheet_4 (by decide) ?_
  refine zt_icmp_eq (tgt := 17) dX11_sheet_6 (by decide) (hm.fld (j := 12) (zs_38 hS) (by decide) (by decide) (by decide)) (by decide) (fun c_6 => ?_) (fun c_6 => ?_)
  · refine zt_iconst dX11_sheet_17 ?_
    exact zt_iret dX11_sheet_18 ⟨rfl, rfl, fun _ => ⟨rfl, mRo.refl hR⟩, fun q _ hq => by omega⟩
  · refine zt_aload_n dX11_sheet_9 rfl ?_
    refine zt_callV0q dX11_sheet_10 ml_X11_236 (zs_38 hS) (Nat.le_of_ble_eq_true rfl) (c_reads hS hR hX) ?_
    rintro r n1 sh1 g ⟨e1, e2, ho, hR1, h38, hend⟩
    have e1 := e1.symm
    subst e1
    have e2 := e2.symm
    subst e2
    obtain ⟨R0, hR0⟩ : ∃ R0, R0 = pAl T (L) := ⟨_, rfl⟩
    rw [← hR0] at hend
    cases R0 with
    | inl x =>
      have hend : r = some (0, x) := hend
      subst hend
      simp only [Option.toList, List.cons_append, List.nil_append]
      have hx : 0 ≤ x ∧ x ≤ 200 := pAl_l hX.1.1 hR0.symm
      refine zt_iconst dX11_sheet_13 ?_
      refine zt_icmp_eq (tgt := 19) dX11_sheet_14 (by decide) (by omega) (by decide) (fun q => by omega) (fun _ => ?_)
      refine zt_iconst dX11_sheet_17 ?_
      exact zt_iret dX11_sheet_18 ⟨rfl, rfl, fun _ => ⟨rfl, ho, hR1, h38⟩, fun q hq => by rw [← hR0] at hq; cases hq⟩
    | inr q =>
      obtain ⟨rfl, hd1, hd2⟩ := hend
      simp only [Option.toList, List.cons_append, List.nil_append]
      have hg := pAl_gd hX.1.1.1 hR0.symm
      have hg1 := hg.1.1
      have hg3 := hg.1.2.2
      have hL := hX.1.1
      refine zt_iconst dX11_sheet_13 ?_
      refine zt_icmp_eq (tgt := 19) dX11_sheet_14 (by decide) (by decide) (by decide) (fun _ => ?_) (fun q => absurd rfl q)
      refine zt_iconst dX11_sheet_19 ?_
      refine zt_istore_n_1 dX11_sheet_20 (by decide) rfl ?_
      refine zt_rg (fun hm => ?_)
      refine zt_mono (fun r n1 sh1 h1 qq => ?_) (zt_mem (h1 := jCm g (h 38 12) 0) jCm_0.symm (l_jshe (d := d) (m := q.2.2.2.1) hS hR1 hm hd1 (h38 12 (by decide)) (by omega) (by omega) 201 0 (by omega) (by omega) (by omega)))
      obtain ⟨rfl, rfl, rfl, rfl⟩ := qq
      refine ⟨rfl, rfl, fun hq => ?_, fun q' hq' _ => ?_⟩
      · rcases hq with ⟨e, he⟩ | he
        · rw [← hR0] at he; cases he
        · omega
      · rw [← hR0] at hq'; injection hq' with hq'; subst hq'
        exact ⟨g, ⟨ho, hR1, h38⟩, hd2, rfl, rfl⟩
