def fval (w : zFr → zFr) (x : zFr) : zFr := if x.2 = 0 then (0, 0) else w x
/-- the code g of N parts works out w -/
def seg (g : Int → Int) (N : Int) (w : zFr → zFr) : Prop := ∀ x : zFr, fok x → ∀ J : Int → List zFr → Prop, clo g N x J → J N [w x] → J 0 []
theorem cPush_T {h : zMem} {x y : Int} : cT (cPush h x y) = (x, y) := by
  unfold cT; rw [cPush_t, Int.add_sub_cancel, cPush_6, if_pos rfl, cPush_7, if_pos rfl]

set_option maxRecDepth 100000 in
set_option maxHeartbeats 4000000 in
theorem l_ev0 {d n : Nat} {sh : zSh} {h h1 : zMem} {c u v xn xd i : Int} {N : Nat} {w : zFr → zFr} (hc : sh c = (100, N)) (hN : N ≤ 600) (ho : zoC h h1) (hR : zRf h1) (hs : stk h1 [fval w (fr u v)]) (hi : 0 ≤ i ∧ i ≤ N) : zT yX0_evaluate cX0_evaluate 13 none (d + 4) 0 0 (fun r n1 sh1 h2 => r = none ∧ n1 = n ∧ sh1 = sh ∧ zoC h h2 ∧ zRf h2 ∧ stk h2 [fval w (fr u v)]) 49 [some (2, 5), some (2, c), some (1, u), none, some (1, v), none, some (1, xn), none, some (1, xd), none, some (0, (N : Int)), some (0, i), none] [] n sh h1 := by
  refine zt_iload dX0_evaluate_49 rfl ?_
  refine zt_aload_n dX0_evaluate_51 rfl ?_
  refine zt_alenv (v := (N : Int)) dX0_evaluate_52 hc (by decide) (by decide) rfl ?_
  refine zt_icmp_ge (tgt := 167) dX0_evaluate_53 (by decide) (by omega) (by omega) (fun c_53 => ?_) (fun c_53 => ?_)
  · exact zt_vret dX0_evaluate_167 ⟨rfl, rfl, rfl, ho, hR, hs⟩
  · refine zt_iload dX0_evaluate_56 rfl ?_
    refine zt_if_lt (tgt := 167) dX0_evaluate_58 (by decide) (by omega) (fun c_58 => ?_) (fun c_58 => ?_)
    · exact zt_vret dX0_evaluate_167 ⟨rfl, rfl, rfl, ho, hR, hs⟩
    · refine zt_iload dX0_evaluate_61 rfl ?_
      refine zt_aload_n dX0_evaluate_63 rfl ?_
      refine zt_alenv (v := (N : Int)) dX0_evaluate_64 hc (by decide) (by decide) rfl ?_
      refine zt_icmp_ge (tgt := 167) dX0_evaluate_65 (by decide) (by omega) (by omega) (fun c_65 => ?_) (fun c_65 => ?_)
      · exact zt_vret dX0_evaluate_167 ⟨rfl, rfl, rfl, ho, hR, hs⟩
      · exfalso
        omega

set_option maxRecDepth 100000 in
set_option maxHeartbeats 4000000 in
theorem c_eval {d n : Nat} {sh : zSh} {h : zMem} {c u v : Int} {N : Nat} {w : zFr → zFr} (hS : zShp sh) (hR : zRf h) (hc : sh c = (100, N)) (hc8 : 80 ≤ c) (hN : N ≤ 600) (hu : -2000000000000000000 ≤ u ∧ u ≤ 2000000000000000000) (hv : -2000000000000000000 ≤ v ∧ v ≤ 2000000000000000000) (hseg : seg (h c) N w) : zM yX0_evaluate cX0_evaluate 13 none (d + 4) 0 0 [(2, 5), (2, c), (1, u), (1, v)] n sh h (fun r n1 sh1 h2 => r = none ∧ n1 = n ∧ sh1 = sh ∧ zoC h h2 ∧ zRf h2 ∧ stk h2 [fval w (fr u v)]) := by
  refine zM.ofT2 (by decide +kernel) [some (2, 5), some (2, c), some (1, u), none, some (1, v), none, none, none, none, none, none, none, none] rfl (Nat.le_of_ble_eq_true rfl) ?_
  refine zt_rg (fun hm => ?_)
  refine zt_aload_n dX0_evaluate_0 rfl ?_
  refine zt_iconst dX0_evaluate_1 ?_
  refine zt_puti dX0_evaluate_2 fl_X0_18 rfl (zs_5 hS) (by decide) ?_
  refine zt_aload_n dX0_evaluate_5 rfl ?_
  refine zt_lload_n dX0_evaluate_6 rfl ?_
  refine zt_lload dX0_evaluate_7 rfl ?_
  refine zt_callV2v dX0_evaluate_9 ml_X0_22 (zs_5 hS) (Nat.le_of_ble_eq_true rfl) (c_cpr hS (hR.up (by decide)) (by rw [zupE]; decide) hu hv) ?_
  obtain ⟨xn, hxn⟩ : ∃ xn, xn = (fr u v).1 := ⟨_, rfl⟩
  obtain ⟨xd, hxd⟩ : ∃ xd, xd = (fr u v).2 := ⟨_, rfl⟩
  have hxe : fr u v = (xn, xd) := by rw [hxn, hxd]
  have hx0 : fok (xn, xd) := hxe ▸ fr_ok u v
  have hx1 := hx0.1
  have hx2 := hx0.2.1
  simp only [] at hx1 hx2
  refine zt_aload_n dX0_evaluate_12 rfl ?_
  refine zt_callV0r dX0_evaluate_13 ml_X0_26 (zs_5 hS) (Nat.le_of_ble_eq_true rfl) (zF.of_eq (r' := some (1, xn)) (by congr 2; rw [hxn]; have t := congrArg Prod.fst (cPush_T (h := zup h 5 2 0) (x := (fr u v).1) (y := (fr u v).2)); exact t) rfl rfl rfl (c_cnum hS (cPush_rf (hR.up (by decide))) (by rw [cPush_t, zupE]; decide))) ?_
  refine zt_lstore_6 dX0_evaluate_16 (by decide) rfl ?_
  refine zt_aload_n dX0_evaluate_18 rfl ?_
  refine zt_callV0r dX0_evaluate_19 ml_X0_30 (zs_5 hS) (Nat.le_of_ble_eq_true rfl) (zF.of_eq (r' := some (1, xd)) (by congr 2; rw [hxd]; have t := congrArg Prod.snd (cPush_T (h := zup h 5 2 0) (x := (fr u v).1) (y := (fr u v).2)); exact t) rfl rfl rfl (c_cden hS (cPush_rf (hR.up (by decide))) (by rw [cPush_t, zupE]; decide))) ?_
  refine zt_lstore_8 dX0_evaluate_22 (by decide) rfl ?_
  refine zt_aload_n dX0_evaluate_24 rfl ?_
  refine zt_iconst dX0_evaluate_25 ?_
  refine zt_puti dX0_evaluate_26 fl_X0_18 rfl (zs_5 hS) (by decide) ?_
  refine zt_lload dX0_evaluate_29 rfl ?_
  refine zt_lconst (v := 0) dX0_evaluate_31 rfl ?_
  refine zt_lc_ne (tgt := 43) dX0_evaluate_32 dX0_evaluate_33 (by decide) (by omega) (by decide) (fun c_32 => ?_) (fun c_32 => ?_)
  · refine zt_iconst dX0_evaluate_43 ?_
    refine zt_istore_10 dX0_evaluate_44 (by decide) rfl ?_
    refine zt_iconst dX0_evaluate_46 ?_
    refine zt_istore_11 dX0_evaluate_47 (by decide) rfl ?_
    have hsg := hseg (xn, xd) hx0 (fun a s => ∀ (h2 : zMem) (j : Int), zoC h h2 → zRf h2 → stk h2 s → (0 ≤ j ∧ j ≤ a) → zT yX0_evaluate cX0_evaluate 13 none (d + 4) 0 0 (fun r n1 sh1 h2 => r = none ∧ n1 = n ∧ sh1 = sh ∧ zoC h h2 ∧ zRf h2 ∧ stk h2 [fval w (fr u v)]) 49 [some (2, 5), some (2, c), some (1, u), none, some (1, v), none, some (1, xn), none, some (1, xd), none, some (0, a), some (0, j), none] [] n sh h2)
    refine hsg ⟨?_, ?_, ?_, ?_, ?_, ?_, ?_, ?_⟩ ?_ _ 0 ?_ ?_ ?_ ?_
    · exact fun a s ha hp hl hok k h2 j ho hR hs hj => l_ev1 hS hc hc8 hN hx0 ho hR hs hj ha hp hl hok k
    · exact fun a s ha hp hl k h2 j ho hR hs hj => l_ev2 hS hc hc8 hN hx0 ho hR hs hj ha hp hl k
    · exact fun a s ha hp hg k h2 j ho hR hs hj => l_ev3 hS hc hc8 hN hx0 ho hR hs hj ha hp hg k
    · exact fun a s f e ha hp hl hg hz k h2 j ho hR hs hj => l_ev4 hS hc hc8 hN hx0 ho hR hs hj ha hp hl hg hz k
    · exact fun a s f e ha hp hl hz hh k h2 j ho hR hs hj => l_ev5 hS hc hc8 hN hx0 ho hR hs hj ha hp hl hz hh k
    · exact fun a s f e ha hp hl hg hz hh k h2 j ho hR hs hj => l_ev6 hS hc hc8 hN hx0 ho hR hs hj ha hp hl hg hz hh k
    · exact fun a s f ha hp hl k h2 j ho hR hs hj => l_ev7 hS hc hc8 hN hx0 ho hR hs hj ha hp hl k
    · exact fun a s f e ha hp hl k h2 j ho hR hs hj => l_ev8 hS hc hc8 hN hx0 ho hR hs hj ha hp hl k
    · exact fun h2 j ho hR hs hj => l_ev0 hc hN ho hR (by unfold fval; rw [hxe, if_neg (show ¬ ((xn, xd) : zFr).2 = 0 from c_32)]; exact hs) hj
    · exact fun a ha => (zup_ne ha.1).trans ((funext fun b => cPush_n ha).trans (zup_ne ha.1))
    · exact (cPush_rf (hR.up (by decide))).up (by decide)
    · exact ⟨zupE, trivial⟩
    · exact ⟨by decide, by decide⟩
  · refine zt_aload_n dX0_evaluate_36 rfl ?_
    refine zt_lconst (v := 0) dX0_evaluate_37 rfl ?_
    refine zt_lconst (v := 0) dX0_evaluate_38 rfl ?_
    refine zt_callV2v dX0_evaluate_39 ml_X0_33 (zs_5 hS) (Nat.le_of_ble_eq_true rfl) (c_cpush hS ((cPush_rf (hR.up (by decide))).up (by decide)) (by rw [zupE]; decide) (by decide) (by decide)) ?_
    exact zt_vret dX0_evaluate_42 ⟨rfl, rfl, rfl, zoC.push (fun a ha => (zup_ne ha.1).trans ((funext fun b => cPush_n ha).trans (zup_ne ha.1))), cPush_rf ((cPush_rf (hR.up (by decide))).up (by decide)), by unfold fval; rw [hxe, if_pos (show ((xn, xd) : zFr).2 = 0 from c_32)]; exact stk.push (f := (0, 0)) (s := []) ⟨zupE, trivial⟩ fok_0⟩
