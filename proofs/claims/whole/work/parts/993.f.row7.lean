set_option maxRecDepth 100000 in
set_option maxHeartbeats 4000000 in
theorem l_isn {d n : Nat} {sh : zSh} {h : zMem} {s x : Int} {T : List Int} (hS : zShp sh) (hR : zRf h) (hs1 : h 26 11 = s) (hs : sh s = (100, 8192)) (hs80 : 80 ≤ s) (hT : tbI (h s) T) (hTl : T.length ≤ 4845) (hx : 0 ≤ x ∧ x < 1048576) (hm : zMok sh h)  : ∀ (k : Nat) (i : Int), 8192 - i < (k : Int) → 0 ≤ i → i ≤ 8192 → (∀ k, 0 ≤ k → k < i → h s ((hsh x + k) % 8192) ≠ 0 ∧ h s ((hsh x + k) % 8192) ≠ x + 1) → zT yX6_isNewHeap cX6_isNewHeap 5 (some .boolean) (d + 0) 0 0 (fun r n1 sh1 h1 => n1 = n ∧ sh1 = sh ∧ ((x ∈ T ∧ r = some (0, 0) ∧ h1 = h) ∨ (x ∉ T ∧ r = some (0, 1) ∧ ∃ g, h1 = znew h s g ∧ tbI g (x :: T)))) 19 [some (2, 26), some (0, x), some (0, hsh x), some (0, i), none] [] n sh h := by
  intro k
  induction k with
  | zero => intros; exfalso; omega
  | succ k ih =>
    intro i hk h0 h1 hp
    refine zt_iload_n dX6_isNewHeap_19 rfl ?_
    refine zt_sipush dX6_isNewHeap_20 (by decide) ?_
    refine zt_icmp_ge (tgt := 88) dX6_isNewHeap_23 (by decide) (by omega) (by decide) (fun c_23 => ?_) (fun c_23 => ?_)
    · refine zt_iconst dX6_isNewHeap_88 ?_
      exact zt_zret dX6_isNewHeap_89 (by decide) (tbI_full hT (by omega) (fun k a b => (hp k a (by omega)).1)).elim
    · refine zt_iload_n dX6_isNewHeap_26 rfl ?_
      refine zt_iload_n dX6_isNewHeap_27 rfl ?_
      refine zt_iadd dX6_isNewHeap_28 ?_
      refine zt_sipush dX6_isNewHeap_29 (by decide) ?_
      refine zt_iand dX6_isNewHeap_32 ?_
      have hhb := hsh_b x
      refine zt_topv (v := (hsh x + i) % 8192) (zand8 ⟨by omega, by omega⟩) ?_
      refine zt_istore_4 dX6_isNewHeap_33 (by decide) rfl ?_
      refine zt_iload dX6_isNewHeap_35 rfl ?_
      refine zt_aload_n dX6_isNewHeap_37 rfl ?_
      refine zt_getv (v := s) dX6_isNewHeap_38 fl_X6_94 (zs_26 hS) hs1 ?_
      refine zt_alenv (v := 8192) dX6_isNewHeap_41 hs (by decide) (by decide) rfl ?_
      refine zt_icmp_ge (tgt := 58) dX6_isNewHeap_42 (by decide) (by omega) (by decide) (fun c_42 => ?_) (fun c_42 => ?_)
      · exfalso
        omega
      · refine zt_aload_n dX6_isNewHeap_45 rfl ?_
        refine zt_getv (v := s) dX6_isNewHeap_46 fl_X6_94 (zs_26 hS) hs1 ?_
        refine zt_iload dX6_isNewHeap_49 rfl ?_
        refine zt_iaload dX6_isNewHeap_51 hs (by decide) (by omega) (by omega) ?_
        refine zt_iload_n dX6_isNewHeap_52 rfl ?_
        refine zt_iconst dX6_isNewHeap_53 ?_
        refine zt_iadd dX6_isNewHeap_54 ?_
        refine zt_icmp_ne (tgt := 60) dX6_isNewHeap_55 (by decide) (hm.int hs (by omega) (by omega)) (by omega) (fun c_55 => ?_) (fun c_55 => ?_)
        · refine zt_aload_n dX6_isNewHeap_60 rfl ?_
          refine zt_getv (v := s) dX6_isNewHeap_61 fl_X6_94 (zs_26 hS) hs1 ?_
          refine zt_iload dX6_isNewHeap_64 rfl ?_
          refine zt_iaload dX6_isNewHeap_66 hs (by decide) (by omega) (by omega) ?_
          refine zt_if_ne (tgt := 82) dX6_isNewHeap_67 (by decide) (hm.int hs (by omega) (by omega)) (fun c_67 => ?_) (fun c_67 => ?_)
          · refine zt_iinc_3 dX6_isNewHeap_82 (by decide) rfl ?_
            refine zt_goto (tgt := 19) dX6_isNewHeap_85 (by decide) ?_
            refine zt_kill_4 ?_
            exact ih (i + 1) (by omega) (by omega) (by omega) (fun k a b => by by_cases e : k = i; (subst e; exact ⟨c_67, c_55⟩); exact hp k a (by omega))
          · refine zt_aload_n dX6_isNewHeap_70 rfl ?_
            refine zt_getv (v := s) dX6_isNewHeap_71 fl_X6_94 (zs_26 hS) hs1 ?_
            refine zt_iload dX6_isNewHeap_74 rfl ?_
            refine zt_iload_n dX6_isNewHeap_76 rfl ?_
            refine zt_iconst dX6_isNewHeap_77 ?_
            refine zt_iadd dX6_isNewHeap_78 ?_
            refine zt_iastore dX6_isNewHeap_79 hs (by decide) (by omega) (by omega) (by omega) ?_
            refine zt_iconst dX6_isNewHeap_80 ?_
            exact zt_zret dX6_isNewHeap_81 (by decide) ⟨rfl, rfl, Or.inr ⟨tbI_out hT ⟨h0, by omega⟩ c_67 hp, rfl, _, zup_new, tbI_add hT ⟨h0, by omega⟩ c_67 hp hx.1⟩⟩
        · refine zt_iconst dX6_isNewHeap_58 ?_
          exact zt_zret dX6_isNewHeap_59 (by decide) ⟨rfl, rfl, Or.inl ⟨tbI_in hT ⟨h0, by omega⟩ c_55 hx.1, rfl, rfl⟩⟩

set_option maxRecDepth 100000 in
set_option maxHeartbeats 4000000 in
theorem c_isn {d n : Nat} {sh : zSh} {h : zMem} {s x : Int} {T : List Int} (hS : zShp sh) (hR : zRf h) (hs1 : h 26 11 = s) (hs : sh s = (100, 8192)) (hs80 : 80 ≤ s) (hT : tbI (h s) T) (hTl : T.length ≤ 4845) (hx : 0 ≤ x ∧ x < 1048576) : zM yX6_isNewHeap cX6_isNewHeap 5 (some .boolean) (d + 0) 0 0 [(2, 26), (0, x)] n sh h (fun r n1 sh1 h1 => n1 = n ∧ sh1 = sh ∧ ((x ∈ T ∧ r = some (0, 0) ∧ h1 = h) ∨ (x ∉ T ∧ r = some (0, 1) ∧ ∃ g, h1 = znew h s g ∧ tbI g (x :: T)))) := by
  refine zM.ofT2 (by decide +kernel) [some (2, 26), some (0, x), none, none, none] rfl (Nat.le_of_ble_eq_true rfl) ?_
  refine zt_rg (fun hm => ?_)
  refine zt_aload_n dX6_isNewHeap_0 rfl ?_
  refine zt_getv (v := s) dX6_isNewHeap_1 fl_X6_94 (zs_26 hS) hs1 ?_
  refine zt_ifnonnull (tgt := 9) dX6_isNewHeap_4 (by decide) (fun c_4 => ?_) (fun c_4 => ?_)
  · refine zt_iload_n dX6_isNewHeap_9 rfl ?_
    refine zt_ldc dX6_isNewHeap_10 kc_X6_103 ?_
    refine zt_imul dX6_isNewHeap_12 ?_
    refine zt_bipush dX6_isNewHeap_13 (by decide) ?_
    refine zt_iushr dX6_isNewHeap_15 ?_
    refine zt_topv (v := hsh x) rfl ?_
    refine zt_istore_n_2 dX6_isNewHeap_16 (by decide) rfl ?_
    refine zt_iconst dX6_isNewHeap_17 ?_
    refine zt_istore_n_3 dX6_isNewHeap_18 (by decide) rfl ?_
    exact l_isn hS hR hs1 hs hs80 hT hTl hx hm 8193 0 (by omega) (by omega) (by omega) (fun k a b => by omega)
  · exfalso
    omega

theorem zShp.new {sh : zSh} {a : Int} {s : Nat × Nat} (h : zShp sh) (ha : 80 ≤ a) : zShp (zshn sh a s) := fun k hk => by rw [zshn_ne (by omega)]; exact h k hk

theorem zfil_rf {h : zMem} {a N v : Int} (hR : zRf h) (ha : 80 ≤ a) : zRf (zfil h a N v) := fun q hq => by
  have h1 : ∀ q ∈ zrf0, q.1 < 80 := by decide
  have := h1 q hq
  show (if q.1 = a ∧ 0 ≤ q.2.1 ∧ q.2.1 < N then v else h q.1 q.2.1) = _
  rw [if_neg (by omega)]; exact hR q hq

set_option maxRecDepth 100000 in
set_option maxHeartbeats 4000000 in
theorem c_free {d n : Nat} {sh : zSh} {h : zMem} (hS : zShp sh) (hR : zRf h) (hsn : h 26 11 = -1 ∨ (80 ≤ h 26 11 ∧ sh (h 26 11) = (100, 8192))) (hn : 80 ≤ n) : zM yX6_freeSlots cX6_freeSlots 1 none (d + 1) 1 8192 [(2, 26)] n sh h (fun r n1 sh1 h1 => r = none ∧ ∃ s, h1 26 11 = s ∧ (80 ≤ s ∧ sh1 s = (100, 8192)) ∧ (∀ x, x ≠ 26 → x ≠ s → h1 x = h x) ∧ (∀ y, y ≠ 11 → h1 26 y = h 26 y) ∧ zRf h1 ∧ zShp sh1 ∧ (∀ j, 0 ≤ j → j < 8192 → h1 s j = 0) ∧ ((n1 = n ∧ sh1 = sh ∧ s = h 26 11) ∨ (n1 = n + 1 ∧ sh1 = zshn sh n (100, 8192) ∧ s = n ∧ h 26 11 = -1))) := by
  refine zM.ofT2 (by decide +kernel) [some (2, 26)] rfl (Nat.le_of_ble_eq_true rfl) ?_
  refine zt_aload_n dX6_freeSlots_0 rfl ?_
  refine zt_get dX6_freeSlots_1 fl_X6_94 (zs_26 hS) ?_
  refine zt_ifnonnull (tgt := 19) dX6_freeSlots_4 (by decide) (fun c_4 => ?_) (fun c_4 => ?_)
  · have hs : 80 ≤ h 26 11 ∧ sh (h 26 11) = (100, 8192) := by rcases hsn with q | q; exact absurd q c_4; exact q
    refine zt_aload_n dX6_freeSlots_19 rfl ?_
    refine zt_get dX6_freeSlots_20 fl_X6_94 (zs_26 hS) ?_
    refine zt_iconst dX6_freeSlots_23 ?_
    refine zt_callS2v dX6_freeSlots_24 ml_X6_97 (Nat.le_of_ble_eq_true rfl) (c_fillI (N0 := 8192) hs.2 (by decide) (by decide)) ?_
    exact zt_vret dX6_freeSlots_27 ⟨rfl, h 26 11, if_neg (by omega), hs, fun x q1 q2 => by funext y; exact if_neg (by omega), fun y q => if_neg (by omega), zfil_rf hR hs.1, hS, fun j a b => if_pos ⟨rfl, a, b⟩, Or.inl ⟨rfl, rfl, rfl⟩⟩
  · refine zt_aload_n dX6_freeSlots_7 rfl ?_
    refine zt_sipush dX6_freeSlots_8 (by decide) ?_
    refine zt_newa_int (N0 := 8192) dX6_freeSlots_11 zac_int rfl (by decide) ?_
    refine zt_putr dX6_freeSlots_13 fl_X6_94 rfl ((zshn_ne (by omega)).trans (zs_26 hS)) ?_
    refine zt_goto (tgt := 27) dX6_freeSlots_16 (by decide) ?_
    exact zt_vret dX6_freeSlots_27 ⟨rfl, (n : Int), zupE, ⟨by omega, zshn_at⟩, fun x q1 q2 => by rw [zup_ne q1, znew_ne q2], fun y q => by rw [zupJ q, znew_ne (by omega)], ((hR.new (by simp only [List.mem_cons, List.not_mem_nil, or_false]; omega)).up (by decide)), hS.new (by omega), fun j a b => by rw [zupA (by omega), znew_at], Or.inr ⟨rfl, rfl, rfl, by omega⟩⟩

