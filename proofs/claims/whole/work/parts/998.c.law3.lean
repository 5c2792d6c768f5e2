set_option maxRecDepth 100000 in
set_option maxHeartbeats 4000000 in
/-- THE LAW answers true -/
theorem c_law {L : Nat} {sh : zSh} {h : zMem} (hL : L ≤ 3072) (hs : sh (-1000) = (160, L)) (hk : ∀ a : Int, 106 ≤ (sh a).1) : zT yL_law cL_law 4 (some .boolean) 71 (12 * 512 + 80) (8400 * 512 + 14997) lwQ 0 [some (2, -1000), none, none, none] [] 0 sh h := by
  refine zt_room (kc' := 12 * 512 + 41 + 1 + 37 + 1) (ks' := 8400 * 512 + 12713 + 64 + 2206 + 14) (by decide) (by decide) ?_
  refine zi_new (kc := 12 * 512 + 41 + 1 + 37) (ks := 8400 * 512 + 12713 + 64 + 2206) (ci := 10) (N0 := 14) (a := 0) (m := 1) dL_law_0 cl_L_7 rfl rfl ?_
  refine zt_dup dL_law_3 (Nat.ne_of_beq_eq_false rfl) ?_
  refine zt_callI0v (kc := 12 * 512 + 41 + 1) (ks := 8400 * 512 + 12713 + 64) (kc' := 37) (ks' := 2206) dL_law_4 ml_L_9 (by rw [zshn_at]; decide) (Nat.le_of_ble_eq_true rfl) (c_in10 (d := 68) zshn_at) ?_
  refine zt_astore_n_1 dL_law_7 (by decide) rfl ?_
  refine zi_new (kc := 12 * 512 + 41) (ks := 8400 * 512 + 12713) (ci := 11) (N0 := 64) (a := 38) (m := 39) dL_law_8 cl_L_10 rfl rfl ?_
  refine zt_dup dL_law_11 (Nat.ne_of_beq_eq_false rfl) ?_
  refine zt_callI0v (kc := 12 * 512) (ks := 8400 * 512) (kc' := 41) (ks' := 12713) dL_law_12 ml_L_12 (by rw [zshn_at]; decide) (Nat.le_of_ble_eq_true rfl) (c_in11 (d := 69) zshn_at) ?_
  refine zt_astore_n_2 dL_law_15 (by decide) rfl ?_
  refine zt_iconst dL_law_16 ?_
  refine zt_istore_n_3 dL_law_17 (by decide) rfl ?_
  exact l_law (scr := h (-1000)) hL 512 0 0 80 (s80 sh) (h80 h) (by omega) (by decide) (by decide) (inv80 hk) (by decide) (s80_x.trans hs) h80_x
