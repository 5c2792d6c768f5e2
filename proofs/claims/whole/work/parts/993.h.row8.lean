theorem srA_c {y : Int → Int} {e : Int} {K : Nat} {PL c c2 R : List Int} (h : srA y e K PL 0 c R) : srA y e K PL 0 c2 R := by
  rcases h with ⟨h, _⟩ | h
  · omega
  · exact Or.inr h

theorem iot_mem : ∀ (k : Nat) (a j : Int), a ≤ j → j < a + k → j ∈ iot a k
  | 0, a, j, h0, h1 => by omega
  | k + 1, a, j, h0, h1 => by
    by_cases c : j = a
    · subst c; exact List.mem_cons_self
    · exact List.mem_cons_of_mem _ (iot_mem k (a + 1) j (by omega) (by omega))
theorem lst_mem {g : Int → Int} {K : Nat} {j : Int} (h0 : 0 ≤ j) (h1 : j < (K : Int)) : g j ∈ lst g K := List.mem_map.mpr ⟨j, iot_mem K 0 j h0 (by omega), rfl⟩
theorem lst_len {g : Int → Int} {K : Nat} : (lst g K).length = K := by unfold lst; rw [List.length_map, iot_len]

set_option maxRecDepth 100000 in
set_option maxHeartbeats 4000000 in
theorem l_srn {d n : Nat} {sh : zSh} {h g g0 : zMem} {Q : Option zV → Nat → zSh → zMem → Prop} {kc ks : Nat} {m e b s : Int} {K : Nat} {PL : List Int} {f i : Int} {R T : List Int} (hS : zShp sh) (hPL : chF 20 0 PL) (hlen : PL.length ≤ 20) (hpl : ∀ q, 0 ≤ q → q < (PL.length : Int) → h 28 q = zgt PL q) (h5 : h 26 5 = PL.length) (hyL : yOK (h 27) PL) (hK0 : 1 ≤ K ∧ K ≤ 4) (he : 0 ≤ e ∧ e ≤ 9) (hb : b = 0 ∨ b = 1) (hs80 : s = -1 ∨ 80 ≤ s) (hs1 : h 26 11 = s) (hsb : b = 1 → 80 ≤ s ∧ sh s = (100, 8192)) (hih : ∀ (f o : Int) (g : zMem) (T : List Int), srV h s b K f g (hO (h 27) e PL (lst (g0 29) K) :: R) T → srA (h 27) e K PL o (lst (g 29) K) (hO (h 27) e PL (lst (g0 29) K) :: R) → zT yX6_search cX6_search 9 (some .boolean) (d + 2) kc ks Q 62 [some (2, 26), some (0, m), some (0, e), some (0, b), some (0, f), some (0, o), some (0, i + 1), none, none] [] n sh g) (hg : g 29 = g0 29) (hV : srV h s b K f g (hO (h 27) e PL (lst (g0 29) K) :: R) T) (hch : chF PL.length 0 (lst (g 29) K)) (hall : (CL (iot 0 PL.length) K).map (hO (h 27) e PL) = R.reverse ++ (rem PL.length (lst (g 29) K)).map (hO (h 27) e PL)) : zT yX6_search cX6_search 9 (some .boolean) (d + 2) kc ks Q 150 [some (2, 26), some (0, m), some (0, e), some (0, b), some (0, f), some (0, 1), some (0, i), none, none] [] n sh g := by
  have hg5 : g 26 5 = PL.length := (hV.1.2.1 5 (by decide) (by decide) (by decide) (by decide)).trans h5
  have hrc : ∀ j, 0 ≤ j → j < (K : Int) → 0 ≤ g 29 j ∧ g 29 j ≤ 100 := fun j a b => by
    have := chF_mem _ _ hch (g 29 j) (lst_mem a b)
    omega
  rw [← hg] at hih hV
  refine zt_aload_n dX6_search_150 rfl ?_
  refine zt_callV0q dX6_search_151 ml_X6_90 (zs_26 hS) (Nat.le_of_ble_eq_true rfl) (c_nxc hS hV.1.2.2.1 hK0 hV.1.2.2.2 ⟨by rw [hg5]; omega, by rw [hg5]; omega⟩ hrc) ?_
  rintro r n1 sh1 g3 ⟨rfl, rfl, hro, h26, hz⟩
  have hk3 : g3 26 7 = K := by rw [h26]; exact hV.1.2.2.2
  rcases hz with ⟨rfl, hz⟩ | ⟨rfl, hz⟩
  all_goals simp only [Option.toList, List.cons_append, List.nil_append]
  · skip
    refine zt_istore_5 dX6_search_154 (by decide) rfl ?_
    refine zt_iinc_6 dX6_search_156 (by decide) rfl ?_
    refine zt_goto (tgt := 62) dX6_search_159 (by decide) ?_
    exact hih f 1 g3 T (hV.ro hro hk3 hs80) (by rw [hg5] at hz; exact srA_some hch hall hz)
  · skip
    refine zt_istore_5 dX6_search_154 (by decide) rfl ?_
    refine zt_iinc_6 dX6_search_156 (by decide) rfl ?_
    refine zt_goto (tgt := 62) dX6_search_159 (by decide) ?_
    exact hih f 0 g3 T (hV.ro hro hk3 hs80) (by rw [hg5] at hz; exact srA_c (srA_none hall hz))

set_option maxRecDepth 100000 in
set_option maxHeartbeats 4000000 in
theorem l_sr {d n : Nat} {sh : zSh} {h : zMem} {kc ks : Nat} {m e b s : Int} {K : Nat} {PL : List Int} (hS : zShp sh) (hPL : chF 20 0 PL) (hlen : PL.length ≤ 20) (hpl : ∀ q, 0 ≤ q → q < (PL.length : Int) → h 28 q = zgt PL q) (h5 : h 26 5 = PL.length) (hyL : yOK (h 27) PL) (hK0 : 1 ≤ K ∧ K ≤ 4) (he : 0 ≤ e ∧ e ≤ 9) (hb : b = 0 ∨ b = 1) (hs80 : s = -1 ∨ 80 ≤ s) (hs1 : h 26 11 = s) (hsb : b = 1 → 80 ≤ s ∧ sh s = (100, 8192))  : ∀ (k : Nat) (i : Int) (f : Int) (o : Int) (g : zMem) (R : List Int) (T : List Int), 4846 - i < (k : Int) → 0 ≤ i ∧ i ≤ 4845 → i = R.length → srV h s b K f g R T → srA (h 27) e K PL o (lst (g 29) K) R → zT yX6_search cX6_search 9 (some .boolean) (d + 2) kc ks (fun r n1 sh1 h1 => r = some (0, 1) ∧ n1 = n ∧ sh1 = sh ∧ ∃ (f : Int) (T : List Int), srV h s b K f h1 ((CL (iot 0 PL.length) K).map (hO (h 27) e PL)).reverse T) 62 [some (2, 26), some (0, m), some (0, e), some (0, b), some (0, f), some (0, o), some (0, i), none, none] [] n sh g := by
  intro k
  induction k with
  | zero => intros; exfalso; omega
  | succ k ih =>
    intro i f o g R T hk h0 hiR hV hA
    refine zt_iload dX6_search_62 rfl ?_
    refine zt_sipush dX6_search_64 (by decide) ?_
    refine zt_icmp_ge (tgt := 162) dX6_search_67 (by decide) (by omega) (by decide) (fun c_67 => ?_) (fun c_67 => ?_)
    · have hfin : o = 0 := by
        rcases hA with ⟨q, hq⟩ | ⟨q, _⟩
        · have := srA_len hK0.2 hlen (Or.inl ⟨rfl, hq⟩ : srA (h 27) e K PL 1 (lst (g 29) K) R)
          omega
        · exact q
      refine zt_iconst dX6_search_162 ?_
      exact zt_zret dX6_search_163 (by decide) ⟨rfl, rfl, rfl, f, T, by rcases hA with ⟨q, _⟩ | ⟨_, q⟩; (exfalso; omega); (rw [q, List.reverse_reverse]; exact hV)⟩
    · have ho01 : o = 0 ∨ o = 1 := by rcases hA with q | q; exact Or.inr q.1; exact Or.inl q.1
      refine zt_iload dX6_search_70 rfl ?_
      refine zt_if_eq (tgt := 162) dX6_search_72 (by decide) (by omega) (fun c_72 => ?_) (fun c_72 => ?_)
      · have hfin : o = 0 := by
          rcases hA with ⟨q, hq⟩ | ⟨q, _⟩
          · have := srA_len hK0.2 hlen (Or.inl ⟨rfl, hq⟩ : srA (h 27) e K PL 1 (lst (g 29) K) R)
            omega
          · exact q
        refine zt_iconst dX6_search_162 ?_
        exact zt_zret dX6_search_163 (by decide) ⟨rfl, rfl, rfl, f, T, by rcases hA with ⟨q, _⟩ | ⟨_, q⟩; (exfalso; omega); (rw [q, List.reverse_reverse]; exact hV)⟩
      · have ho : o = 1 := by rcases hA with q | q; exact q.1; omega
        subst ho
        obtain ⟨_, hch, hall⟩ : _ ∧ chF PL.length 0 (lst (g 29) K) ∧ _ := by rcases hA with q | q; exact q; exact absurd q.1 (by decide)
        have eg27 : g 27 = h 27 := hV.1.1 27 (by decide) (by decide) (by decide) (by decide) (by omega)
        have eg28 : g 28 = h 28 := hV.1.1 28 (by decide) (by decide) (by decide) (by decide) (by omega)
        have eg5 : g 26 5 = h 26 5 := hV.1.2.1 5 (by decide) (by decide) (by decide) (by decide)
        refine zt_aload_n dX6_search_75 rfl ?_
        refine zt_callV0q dX6_search_76 ml_X6_70 (zs_26 hS) (Nat.le_of_ble_eq_true rfl) (c_draw hS hV.1.2.2.1 hK0 hV.1.2.2.2 hPL hlen (fun q a c => by rw [eg28]; exact hpl q a c) (by rw [eg5]; exact h5) (by rw [eg27]; exact hyL) hch) ?_
        rintro r n1 sh1 g1 ⟨rfl, rfl, rfl, hro, h29, hk1, hv1, ho1⟩
        simp only [Option.toList, List.nil_append]
        have hV1 := hV.ro hro hk1 hs80
        have e27 : g1 27 = h 27 := hV1.1.1 27 (by decide) (by decide) (by decide) (by decide) (by omega)
        have e28 : g1 28 = h 28 := hV1.1.1 28 (by decide) (by decide) (by decide) (by decide) (by omega)
        have e5 : g1 26 5 = h 26 5 := hV1.1.2.1 5 (by decide) (by decide) (by decide) (by decide)
        have e11 : g1 26 11 = s := (hV1.1.2.1 11 (by decide) (by decide) (by decide) (by decide)).trans hs1
        have hP : pOK ((lst (g 29) K).map (zgt PL)) := ⟨chF_w _ _ _ (by split; exact (chF_mem PL 0 hPL _ (zgt_mem (Int.le_refl _) (by assumption))).1; omega) (chF_map hPL _ 0 (Int.le_refl _) hch), by rw [List.length_map, lst_len]; exact hK0.1, by rw [List.length_map, lst_len]; exact hK0.2⟩
        have hyP : yOK (h 27) ((lst (g 29) K).map (zgt PL)) := fun p hp => by
          obtain ⟨c, hc, rfl⟩ := List.mem_map.mp hp
          have := chF_mem _ _ hch c hc
          exact hyL _ (zgt_mem this.1 this.2)
        have hHb := hO_b (y := h 27) (e := e) (c := lst (g 29) K) hPL
        rw [eg27] at ho1
        refine zt_aload_n dX6_search_79 rfl ?_
        refine zt_iload_n dX6_search_80 rfl ?_
        refine zt_iload dX6_search_81 rfl ?_
        refine zt_callV2q dX6_search_83 ml_X6_73 (zs_26 hS) (Nat.le_of_ble_eq_true rfl) (zF.of_eq (show some (0, mRv f (hpS (qm (g1 27) e ((lst (g 29) K).map (zgt PL))) PL)) = some (0, mRv f (hO (h 27) e PL (lst (g 29) K))) by rw [e27]; rfl) rfl rfl rfl (c_mis (P := (lst (g 29) K).map (zgt PL)) hS hro.2.2 hPL hlen (fun q a c => by rw [e28]; exact hpl q a c) (by rw [e5]; exact h5) (by rw [e27]; exact hyL) hP (by rw [e27]; exact hyP) (by rw [hk1, List.length_map, lst_len]) hv1 (by rw [e27]; exact ho1) he (by have := sB_1 R; have := hV.2.1; omega))) ?_
        rintro r n1 sh1 g1 ⟨rfl, rfl, rfl, rfl⟩
        simp only [Option.toList, List.cons_append, List.nil_append]
        have hmv : (mRv f (hO (h 27) e PL (lst (g 29) K)) = -1 ∧ f < bts (hO (h 27) e PL (lst (g 29) K))) ∨ (mRv f (hO (h 27) e PL (lst (g 29) K)) = hO (h 27) e PL (lst (g 29) K) ∧ bts (hO (h 27) e PL (lst (g 29) K)) ≤ f) := by unfold mRv; split; (left; exact ⟨rfl, by assumption⟩); (right; exact ⟨rfl, by omega⟩)
        rcases hmv with ⟨e1, hcs⟩ | ⟨e1, hcs⟩ <;> rw [e1]
        · skip
          refine zt_istore_7 dX6_search_86 (by decide) rfl ?_
          refine zt_iload dX6_search_88 rfl ?_
          refine zt_iconst dX6_search_90 ?_
          refine zt_icmp_eq (tgt := 150) dX6_search_91 (by decide) (by decide) (by decide) (fun c_91 => ?_) (fun q => absurd q (by decide))
          refine zt_kill_7 (zt_kill_8 ?_)
          exact l_srn (g0 := g) hS hPL hlen hpl h5 hyL hK0 he hb hs80 hs1 hsb (fun f o g T q1 q2 => ih (i + 1) f o g _ T (by omega) (by omega) (by rw [List.length_cons]; omega) q1 q2) h29 (srV_A hV1 hcs hHb) (by rw [show g1 29 = g 29 from h29]; exact hch) (by rw [show g1 29 = g 29 from h29]; exact hall)
        · skip
          refine zt_istore_7 dX6_search_86 (by decide) rfl ?_
          refine zt_iload dX6_search_88 rfl ?_
          refine zt_iconst dX6_search_90 ?_
          refine zt_icmp_eq (tgt := 150) dX6_search_91 (by decide) (by omega) (by decide) (fun c_91 => ?_) (fun c_91 => ?_)
          · exfalso
            omega
          · have hbb := bts_20 (hO (h 27) e PL (lst (g 29) K))
            have hb0 : 0 ≤ bts (hO (h 27) e PL (lst (g 29) K)) := (bt_b 20 _).1
            have hfr := sB_1 R
            have hff := hV.2.1
            refine zt_rg (fun hm => ?_)
            refine zt_iload dX6_search_94 rfl ?_
            refine zt_callS1r dX6_search_96 ml_X6_76 (Nat.le_of_ble_eq_true rfl) (c_bitc hHb.1 hHb.2) ?_
            refine zt_istore_8 dX6_search_99 (by decide) rfl ?_
            refine zt_iload dX6_search_101 rfl ?_
            refine zt_iload dX6_search_103 rfl ?_
            refine zt_icmp_ge (tgt := 123) dX6_search_105 (by decide) (by omega) (by omega) (fun c_105 => ?_) (fun c_105 => ?_)
            · refine zt_aload_n dX6_search_123 rfl ?_
              refine zt_dup dX6_search_124 (Nat.ne_of_beq_eq_false rfl) ?_
              refine zt_get dX6_search_125 fl_X6_84 (zs_26 hS) ?_
              refine zt_iload_n dX6_search_128 rfl ?_
              refine zt_if_eq (tgt := 145) dX6_search_129 (by decide) (by omega) (fun c_129 => ?_) (fun c_129 => ?_)
              · refine zt_iconst dX6_search_145 ?_
                refine zt_iadd dX6_search_146 ?_
                have hz2 : zi32 (g1 26 2) := hm.fld (j := 2) (zs_26 hS) (by decide) (by decide) (by decide)
                refine zt_puti dX6_search_147 fl_X6_84 rfl (zs_26 hS) (by omega) ?_
                refine zt_kill_7 (zt_kill_8 ?_)
                exact l_srn (g0 := g) hS hPL hlen hpl h5 hyL hK0 he hb hs80 hs1 hsb (fun f o g T q1 q2 => ih (i + 1) f o g _ T (by omega) (by omega) (by rw [List.length_cons]; omega) q1 q2) (by (repeat first | rw [zup_ne (by decide)] | rw [znew_ne (by omega)]); exact h29) (srV_B0 hV1 (by omega) (by omega) hHb) (by rw [show (zup g1 26 2 ((g1 26 2) + 0)) 29 = g 29 from (by (repeat first | rw [zup_ne (by decide)] | rw [znew_ne (by omega)]); exact h29)]; exact hch) (by rw [show (zup g1 26 2 ((g1 26 2) + 0)) 29 = g 29 from (by (repeat first | rw [zup_ne (by decide)] | rw [znew_ne (by omega)]); exact h29)]; exact hall)
              · refine zt_aload_n dX6_search_132 rfl ?_
                refine zt_iload dX6_search_133 rfl ?_
                have hb1 : b = 1 := by omega
                have hS2 := hsb hb1
                refine zt_callV1q dX6_search_135 ml_X6_87 (zs_26 hS) (Nat.le_of_ble_eq_true rfl) (c_isn (T := T) hS hro.2.2 e11 hS2.2 hS2.1 (hV1.2.2.2.2 hb1).2.1 (by have := (hV1.2.2.2.2 hb1).2.2.2.2; omega) hHb) ?_
                rintro r n1 sh1 g1 ⟨rfl, rfl, hz⟩
                rcases hz with ⟨hT, rfl, rfl⟩ | ⟨hT, rfl, gn, rfl, htb⟩
                all_goals simp only [Option.toList, List.cons_append, List.nil_append]
                · skip
                  refine zt_if_eq (tgt := 145) dX6_search_138 (by decide) (by decide) (fun c_138 => ?_) (fun q => absurd q (by decide))
                  refine zt_iconst dX6_search_145 ?_
                  refine zt_iadd dX6_search_146 ?_
                  have hz2 : zi32 (g1 26 2) := hm.fld (j := 2) (zs_26 hS) (by decide) (by decide) (by decide)
                  refine zt_puti dX6_search_147 fl_X6_84 rfl (zs_26 hS) (by omega) ?_
                  refine zt_kill_7 (zt_kill_8 ?_)
                  exact l_srn (g0 := g) hS hPL hlen hpl h5 hyL hK0 he hb hs80 hs1 hsb (fun f o g T q1 q2 => ih (i + 1) f o g _ T (by omega) (by omega) (by rw [List.length_cons]; omega) q1 q2) (by (repeat first | rw [zup_ne (by decide)] | rw [znew_ne (by omega)]); exact h29) (srV_B1 hV1 (by omega) (by omega) hHb hT (by omega)) (by rw [show (zup g1 26 2 ((g1 26 2) + 0)) 29 = g 29 from (by (repeat first | rw [zup_ne (by decide)] | rw [znew_ne (by omega)]); exact h29)]; exact hch) (by rw [show (zup g1 26 2 ((g1 26 2) + 0)) 29 = g 29 from (by (repeat first | rw [zup_ne (by decide)] | rw [znew_ne (by omega)]); exact h29)]; exact hall)
                · skip
                  refine zt_if_eq (tgt := 145) dX6_search_138 (by decide) (by decide) (fun q => absurd q (by decide)) (fun c_138 => ?_)
                  refine zt_iconst dX6_search_141 ?_
                  refine zt_goto (tgt := 146) dX6_search_142 (by decide) ?_
                  refine zt_iadd dX6_search_146 ?_
                  have hz2 : zi32 (g1 26 2) := hm.fld (j := 2) (zs_26 hS) (by decide) (by decide) (by decide)
                  have hdc := dC_b R f
                  have hdq := (hV1.2.2.2.2 hb1).1 (srV_ne (x := hO (h 27) e PL (lst (g 29) K)) (by omega))
                  refine zt_puti dX6_search_147 fl_X6_84 rfl (zs_26 hS) (by omega) ?_
                  refine zt_kill_7 (zt_kill_8 ?_)
                  exact l_srn (g0 := g) hS hPL hlen hpl h5 hyL hK0 he hb hs80 hs1 hsb (fun f o g T q1 q2 => ih (i + 1) f o g _ T (by omega) (by omega) (by rw [List.length_cons]; omega) q1 q2) (by (repeat first | rw [zup_ne (by decide)] | rw [znew_ne (by omega)]); exact h29) (srV_B2 hV1 hb1 (by omega) hHb hT hS2.1 htb) (by rw [show (zup (znew g1 s gn) 26 2 ((g1 26 2) + 1)) 29 = g 29 from (by (repeat first | rw [zup_ne (by decide)] | rw [znew_ne (by omega)]); exact h29)]; exact hch) (by rw [show (zup (znew g1 s gn) 26 2 ((g1 26 2) + 1)) 29 = g 29 from (by (repeat first | rw [zup_ne (by decide)] | rw [znew_ne (by omega)]); exact h29)]; exact hall)
            · refine zt_iload dX6_search_108 rfl ?_
              refine zt_istore_4 dX6_search_110 (by decide) rfl ?_
              refine zt_aload_n dX6_search_112 rfl ?_
              refine zt_iload dX6_search_113 rfl ?_
              refine zt_puti dX6_search_115 fl_X6_81 rfl (zs_26 hS) (by omega) ?_
              refine zt_aload_n dX6_search_118 rfl ?_
              refine zt_iconst dX6_search_119 ?_
              refine zt_puti dX6_search_120 fl_X6_84 rfl (zs_26 hS) (by decide) ?_
              refine zt_aload_n dX6_search_123 rfl ?_
              refine zt_dup dX6_search_124 (Nat.ne_of_beq_eq_false rfl) ?_
              refine zt_getv (v := 0) dX6_search_125 fl_X6_84 (zs_26 hS) zupE ?_
              refine zt_iload_n dX6_search_128 rfl ?_
              refine zt_if_eq (tgt := 145) dX6_search_129 (by decide) (by omega) (fun c_129 => ?_) (fun c_129 => ?_)
              · refine zt_iconst dX6_search_145 ?_
                refine zt_iadd dX6_search_146 ?_
                refine zt_topv (v := 0) (by decide) ?_
                refine zt_puti dX6_search_147 fl_X6_84 rfl (zs_26 hS) (by decide) ?_
                refine zt_kill_7 (zt_kill_8 ?_)
                exact l_srn (g0 := g) hS hPL hlen hpl h5 hyL hK0 he hb hs80 hs1 hsb (fun f o g T q1 q2 => ih (i + 1) f o g _ T (by omega) (by omega) (by rw [List.length_cons]; omega) q1 q2) (by (repeat first | rw [zup_ne (by decide)] | rw [znew_ne (by omega)]); exact h29) (srV_C0 hV1 (by omega) (by omega) hHb) (by rw [show (zup (zup (zup g1 26 1 (hO (h 27) e PL (lst (g 29) K))) 26 2 0) 26 2 0) 29 = g 29 from (by (repeat first | rw [zup_ne (by decide)] | rw [znew_ne (by omega)]); exact h29)]; exact hch) (by rw [show (zup (zup (zup g1 26 1 (hO (h 27) e PL (lst (g 29) K))) 26 2 0) 26 2 0) 29 = g 29 from (by (repeat first | rw [zup_ne (by decide)] | rw [znew_ne (by omega)]); exact h29)]; exact hall)
              · refine zt_aload_n dX6_search_132 rfl ?_
                refine zt_iload dX6_search_133 rfl ?_
                have hb1 : b = 1 := by omega
                have hS2 := hsb hb1
                refine zt_callV1q dX6_search_135 ml_X6_87 (zs_26 hS) (Nat.le_of_ble_eq_true rfl) (c_isn (T := T) hS ((hro.2.2.up (by decide)).up (by decide)) ((zupJ (by decide)).trans ((zupJ (by decide)).trans e11)) hS2.2 hS2.1 (by (repeat rw [zup_ne (by omega)]); exact (hV1.2.2.2.2 hb1).2.1) (by have := (hV1.2.2.2.2 hb1).2.2.2.2; omega) hHb) ?_
                rintro r n1 sh1 g1 ⟨rfl, rfl, hz⟩
                rcases hz with ⟨hT, rfl, rfl⟩ | ⟨hT, rfl, gn, rfl, htb⟩
                all_goals simp only [Option.toList, List.cons_append, List.nil_append]
                · skip
                  refine zt_if_eq (tgt := 145) dX6_search_138 (by decide) (by decide) (fun c_138 => ?_) (fun q => absurd q (by decide))
                  refine zt_iconst dX6_search_145 ?_
                  refine zt_iadd dX6_search_146 ?_
                  refine zt_topv (v := 0) (by decide) ?_
                  refine zt_puti dX6_search_147 fl_X6_84 rfl (zs_26 hS) (by decide) ?_
                  exact (srV_no hV1 hb1 (by omega) hT).elim
                · skip
                  refine zt_if_eq (tgt := 145) dX6_search_138 (by decide) (by decide) (fun q => absurd q (by decide)) (fun c_138 => ?_)
                  refine zt_iconst dX6_search_141 ?_
                  refine zt_goto (tgt := 146) dX6_search_142 (by decide) ?_
                  refine zt_iadd dX6_search_146 ?_
                  refine zt_topv (v := 1) (by decide) ?_
                  refine zt_puti dX6_search_147 fl_X6_84 rfl (zs_26 hS) (by decide) ?_
                  refine zt_kill_7 (zt_kill_8 ?_)
                  exact l_srn (g0 := g) hS hPL hlen hpl h5 hyL hK0 he hb hs80 hs1 hsb (fun f o g T q1 q2 => ih (i + 1) f o g _ T (by omega) (by omega) (by rw [List.length_cons]; omega) q1 q2) (by (repeat first | rw [zup_ne (by decide)] | rw [znew_ne (by omega)]); exact h29) (srV_C2 hV1 hb1 (by omega) hHb hT hS2.1 htb) (by rw [show (zup (znew (zup (zup g1 26 1 (hO (h 27) e PL (lst (g 29) K))) 26 2 0) s gn) 26 2 1) 29 = g 29 from (by (repeat first | rw [zup_ne (by decide)] | rw [znew_ne (by omega)]); exact h29)]; exact hch) (by rw [show (zup (znew (zup (zup g1 26 1 (hO (h 27) e PL (lst (g 29) K))) 26 2 0) s gn) 26 2 1) 29 = g 29 from (by (repeat first | rw [zup_ne (by decide)] | rw [znew_ne (by omega)]); exact h29)]; exact hall)

