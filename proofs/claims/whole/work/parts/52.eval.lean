def stkA (A B : Int → Int) : List zFr → Prop
  | [] => True
  | f :: s => (A s.length = f.1 ∧ B s.length = f.2) ∧ fok f ∧ stkA A B s
/-- the Calculator's stack, the top first -/
def stk (h : zMem) (s : List zFr) : Prop := h 5 2 = s.length ∧ stkA (h 6) (h 7) s
theorem stkA_up {A B A' B' : Int → Int} : ∀ {s : List zFr}, (∀ i : Int, 0 ≤ i → i < s.length → A' i = A i ∧ B' i = B i) → stkA A B s → stkA A' B' s
  | [], _, _ => trivial
  | f :: s, e, q => by
    have h1 := e s.length (by omega) (by rw [List.length_cons]; omega)
    refine ⟨⟨by rw [h1.1]; exact q.1.1, by rw [h1.2]; exact q.1.2⟩, q.2.1, stkA_up (fun i a b => e i a (by rw [List.length_cons]; omega)) q.2.2⟩
theorem stk.top {h : zMem} {f : zFr} {s : List zFr} (q : stk h (f :: s)) : cT h = f ∧ fok f ∧ 0 < h 5 2 := by
  have e := q.1
  rw [List.length_cons] at e
  refine ⟨?_, q.2.2.1, by omega⟩
  unfold cT
  rw [show h 5 2 - 1 = (s.length : Int) by omega, q.2.1.1, q.2.1.2]
theorem stk.drop {h : zMem} {f : zFr} {s : List zFr} (q : stk h (f :: s)) : stk (cDrop h) s := by
  have e := q.1
  rw [List.length_cons] at e
  refine ⟨by rw [cDrop_t]; omega, stkA_up (fun i a b => ?_) q.2.2.2⟩
  exact ⟨cDrop_n (by decide), cDrop_n (by decide)⟩
theorem stk.push {h : zMem} {f : zFr} {s : List zFr} (q : stk h s) (hf : fok f) : stk (cPush h f.1 f.2) (f :: s) := by
  refine ⟨by rw [cPush_t, q.1, List.length_cons]; omega, ⟨?_, ?_⟩, hf, stkA_up (fun i a b => ?_) q.2⟩
  · rw [cPush_6, if_pos q.1.symm]
  · rw [cPush_7, if_pos q.1.symm]
  · rw [cPush_6, cPush_7, if_neg (by rw [q.1]; omega), if_neg (by rw [q.1]; omega)]; exact ⟨rfl, rfl⟩
/-- nothing but the Calculator's cells has changed -/
def zoC (h h' : zMem) : Prop := ∀ a : Int, a ≠ 5 ∧ a ≠ 6 ∧ a ≠ 7 → h' a = h a
theorem zoC.push {h h' : zMem} {x y : Int} (q : zoC h h') : zoC h (cPush h' x y) := fun a ha => by
  rw [← q a ha]; funext b; exact cPush_n ha
theorem zoC.drop {h h' : zMem} (q : zoC h h') : zoC h (cDrop h') := fun a ha => by
  rw [← q a ha]; funext b; exact cDrop_n ha.1
theorem frt_ok (x y : Int) : fok (frt x y) := by unfold frt; split; exact fok_0; exact fr_ok _ _
theorem f1_ok {p : Int} {f : zFr} (h : fok f) : fok (f1 p f) := by
  unfold f1; split
  · exact fok_neg h
  · split
    · exact frt_ok _ _
    · split
      · exact fr_ok _ _
      · exact fok_0
theorem fon_ok {b : Int} {f g : zFr} (h : fok f) (h2 : fok g) : fok (fon b f g) := by
  unfold fon; split
  · exact fok_0
  · split <;> assumption
theorem f2_ok {p : Int} {f g : zFr} (h : fok f) (h2 : fok g) : fok (f2 p f g) := by
  unfold f2
  split; exact fr_ok _ _
  split; exact fr_ok _ _
  split; exact fr_ok _ _
  split; exact fr_ok _ _
  split <;> exact fon_ok h h2
/-- how the code g of N parts is worked, backwards: J of what comes gives J of what is -/
def clo (g : Int → Int) (N : Int) (x : zFr) (J : Int → List zFr → Prop) : Prop :=
  (∀ a s, (0 ≤ a ∧ a < N) → 0 ≤ g a → s.length < 64 → fok (g a, 1) → J (a + 1) ((g a, 1) :: s) → J a s) ∧
  (∀ a s, (0 ≤ a ∧ a < N) → g a = -1 → s.length < 64 → J (a + 1) (x :: s) → J a s) ∧
  (∀ a s, (0 ≤ a ∧ a + 1 < N) → g a = -14 → a < g (a + 1) → J (g (a + 1)) s → J a s) ∧
  (∀ a s f e, (0 ≤ a ∧ a + 2 < N) → (g a = -11 ∨ g a = -12 ∨ g a = -13) → s.length < 62 → a < g (a + 2) → (f.2 = 0 ∨ e.2 = 0) → J (g (a + 2)) ((0, 0) :: s) → J a (e :: f :: s)) ∧
  (∀ a s f e, (0 ≤ a ∧ a + 2 < N) → (g a = -11 ∨ g a = -12 ∨ g a = -13) → s.length < 62 → ¬ (f.2 = 0 ∨ e.2 = 0) → fhd (g a) f e → J (a + 3) s → J a (e :: f :: s)) ∧
  (∀ a s f e, (0 ≤ a ∧ a + 2 < N) → (g a = -11 ∨ g a = -12 ∨ g a = -13) → s.length < 62 → a < g (a + 1) → ¬ (f.2 = 0 ∨ e.2 = 0) → ¬ fhd (g a) f e → J (g (a + 1)) s → J a (e :: f :: s)) ∧
  (∀ a s f, (0 ≤ a ∧ a < N) → (g a = -6 ∨ g a = -7 ∨ g a = -8) → s.length < 63 → J (a + 1) (f1 (g a) f :: s) → J a (f :: s)) ∧
  (∀ a s f e, (0 ≤ a ∧ a < N) → ((-5 ≤ g a ∧ g a ≤ -2) ∨ g a = -9 ∨ g a = -10) → s.length < 62 → J (a + 1) (f2 (g a) f e :: s) → J a (e :: f :: s))

set_option maxRecDepth 100000 in
set_option maxHeartbeats 4000000 in
theorem l_ev1 {d n : Nat} {sh : zSh} {h h1 : zMem} {Q : Option zV → Nat → zSh → zMem → Prop} {c u v xn xd a i : Int} {N : Nat} {s : List zFr} (hS : zShp sh) (hc : sh c = (100, N)) (hc8 : 80 ≤ c) (hN : N ≤ 600) (hx : fok (xn, xd)) (ho : zoC h h1) (hR : zRf h1) (hs : stk h1 (s)) (hi : 0 ≤ i ∧ i ≤ a) (ha : 0 ≤ a ∧ a < N) (hp : 0 ≤ h c a) (hl : s.length < 64) (hok : fok (h c a, 1)) (K : ∀ (h2 : zMem) (j : Int), zoC h h2 → zRf h2 → stk h2 ((h c a, 1) :: s) → (0 ≤ j ∧ j ≤ a + 1) → zT yX0_evaluate cX0_evaluate 13 none (d + 4) 0 0 Q 49 [some (2, 5), some (2, c), some (1, u), none, some (1, v), none, some (1, xn), none, some (1, xd), none, some (0, a + 1), some (0, j), none] [] n sh h2) : zT yX0_evaluate cX0_evaluate 13 none (d + 4) 0 0 Q 49 [some (2, 5), some (2, c), some (1, u), none, some (1, v), none, some (1, xn), none, some (1, xd), none, some (0, a), some (0, i), none] [] n sh h1 := by
  have hx1 := hx.1
  have hx2 := hx.2.1
  simp only [] at hx1 hx2
  have hl0 := hs.1
  try rw [List.length_cons] at hl0
  try rw [List.length_cons] at hl0
  refine zt_rg (fun hm => ?_)
  have hpr : zi32 (h c a) := by rw [← ho c (by omega)]; exact hm.int hc (by omega) (by omega)
  refine zt_iload dX0_evaluate_49 rfl ?_
  refine zt_aload_n dX0_evaluate_51 rfl ?_
  refine zt_alenv (v := (N : Int)) dX0_evaluate_52 hc (by decide) (by decide) rfl ?_
  refine zt_icmp_ge (tgt := 167) dX0_evaluate_53 (by decide) (by omega) (by omega) (fun c_53 => ?_) (fun c_53 => ?_)
  · exfalso
    omega
  · refine zt_iload dX0_evaluate_56 rfl ?_
    refine zt_if_lt (tgt := 167) dX0_evaluate_58 (by decide) (by omega) (fun c_58 => ?_) (fun c_58 => ?_)
    · exfalso
      omega
    · refine zt_iload dX0_evaluate_61 rfl ?_
      refine zt_aload_n dX0_evaluate_63 rfl ?_
      refine zt_alenv (v := (N : Int)) dX0_evaluate_64 hc (by decide) (by decide) rfl ?_
      refine zt_icmp_ge (tgt := 167) dX0_evaluate_65 (by decide) (by omega) (by omega) (fun c_65 => ?_) (fun c_65 => ?_)
      · exfalso
        omega
      · refine zt_aload_n dX0_evaluate_68 rfl ?_
        refine zt_iload dX0_evaluate_69 rfl ?_
        refine zt_ialoadv (v := h c a) dX0_evaluate_71 hc (by omega) (by omega) (by omega) (by rw [ho c (by omega)]) ?_
        refine zt_istore_12 dX0_evaluate_72 (by decide) rfl ?_
        refine zt_iload dX0_evaluate_74 rfl ?_
        refine zt_if_lt (tgt := 93) dX0_evaluate_76 (by decide) hpr (fun c_76 => ?_) (fun c_76 => ?_)
        · exfalso
          omega
        · refine zt_aload_n dX0_evaluate_79 rfl ?_
          refine zt_iload dX0_evaluate_80 rfl ?_
          refine zt_i2l dX0_evaluate_82 hpr ?_
          refine zt_lconst (v := 1) dX0_evaluate_83 rfl ?_
          refine zt_callV2v dX0_evaluate_84 ml_X0_33 (zs_5 hS) (Nat.le_of_ble_eq_true rfl) (c_cpush hS hR (by omega) (by omega) (by decide)) ?_
          refine zt_iinc_10 dX0_evaluate_87 (by decide) rfl ?_
          refine zt_goto (tgt := 161) dX0_evaluate_90 (by decide) ?_
          refine zt_iinc_11 dX0_evaluate_161 (by decide) rfl ?_
          refine zt_goto (tgt := 49) dX0_evaluate_164 (by decide) ?_
          refine zt_kill_12 ?_
          exact K _ _ ho.push (cPush_rf hR) (hs.push hok) (by omega)

set_option maxRecDepth 100000 in
set_option maxHeartbeats 4000000 in
theorem l_ev2 {d n : Nat} {sh : zSh} {h h1 : zMem} {Q : Option zV → Nat → zSh → zMem → Prop} {c u v xn xd a i : Int} {N : Nat} {s : List zFr} (hS : zShp sh) (hc : sh c = (100, N)) (hc8 : 80 ≤ c) (hN : N ≤ 600) (hx : fok (xn, xd)) (ho : zoC h h1) (hR : zRf h1) (hs : stk h1 (s)) (hi : 0 ≤ i ∧ i ≤ a) (ha : 0 ≤ a ∧ a < N) (hp : h c a = -1) (hl : s.length < 64) (K : ∀ (h2 : zMem) (j : Int), zoC h h2 → zRf h2 → stk h2 ((xn, xd) :: s) → (0 ≤ j ∧ j ≤ a + 1) → zT yX0_evaluate cX0_evaluate 13 none (d + 4) 0 0 Q 49 [some (2, 5), some (2, c), some (1, u), none, some (1, v), none, some (1, xn), none, some (1, xd), none, some (0, a + 1), some (0, j), none] [] n sh h2) : zT yX0_evaluate cX0_evaluate 13 none (d + 4) 0 0 Q 49 [some (2, 5), some (2, c), some (1, u), none, some (1, v), none, some (1, xn), none, some (1, xd), none, some (0, a), some (0, i), none] [] n sh h1 := by
  have hx1 := hx.1
  have hx2 := hx.2.1
  simp only [] at hx1 hx2
  have hl0 := hs.1
  try rw [List.length_cons] at hl0
  try rw [List.length_cons] at hl0
  refine zt_rg (fun hm => ?_)
  have hpr : zi32 (h c a) := by rw [← ho c (by omega)]; exact hm.int hc (by omega) (by omega)
  refine zt_iload dX0_evaluate_49 rfl ?_
  refine zt_aload_n dX0_evaluate_51 rfl ?_
  refine zt_alenv (v := (N : Int)) dX0_evaluate_52 hc (by decide) (by decide) rfl ?_
  refine zt_icmp_ge (tgt := 167) dX0_evaluate_53 (by decide) (by omega) (by omega) (fun c_53 => ?_) (fun c_53 => ?_)
  · exfalso
    omega
  · refine zt_iload dX0_evaluate_56 rfl ?_
    refine zt_if_lt (tgt := 167) dX0_evaluate_58 (by decide) (by omega) (fun c_58 => ?_) (fun c_58 => ?_)
    · exfalso
      omega
    · refine zt_iload dX0_evaluate_61 rfl ?_
      refine zt_aload_n dX0_evaluate_63 rfl ?_
      refine zt_alenv (v := (N : Int)) dX0_evaluate_64 hc (by decide) (by decide) rfl ?_
      refine zt_icmp_ge (tgt := 167) dX0_evaluate_65 (by decide) (by omega) (by omega) (fun c_65 => ?_) (fun c_65 => ?_)
      · exfalso
        omega
      · refine zt_aload_n dX0_evaluate_68 rfl ?_
        refine zt_iload dX0_evaluate_69 rfl ?_
        refine zt_ialoadv (v := h c a) dX0_evaluate_71 hc (by omega) (by omega) (by omega) (by rw [ho c (by omega)]) ?_
        refine zt_istore_12 dX0_evaluate_72 (by decide) rfl ?_
        refine zt_iload dX0_evaluate_74 rfl ?_
        refine zt_if_lt (tgt := 93) dX0_evaluate_76 (by decide) hpr (fun c_76 => ?_) (fun c_76 => ?_)
        · refine zt_iload dX0_evaluate_93 rfl ?_
          refine zt_iconst dX0_evaluate_95 ?_
          refine zt_icmp_ne (tgt := 113) dX0_evaluate_96 (by decide) hpr (by decide) (fun c_96 => ?_) (fun c_96 => ?_)
          · exfalso
            omega
          · refine zt_aload_n dX0_evaluate_99 rfl ?_
            refine zt_lload dX0_evaluate_100 rfl ?_
            refine zt_lload dX0_evaluate_102 rfl ?_
            refine zt_callV2v dX0_evaluate_104 ml_X0_33 (zs_5 hS) (Nat.le_of_ble_eq_true rfl) (c_cpush hS hR (by omega) (by omega) (by omega)) ?_
            refine zt_iinc_10 dX0_evaluate_107 (by decide) rfl ?_
            refine zt_goto (tgt := 161) dX0_evaluate_110 (by decide) ?_
            refine zt_iinc_11 dX0_evaluate_161 (by decide) rfl ?_
            refine zt_goto (tgt := 49) dX0_evaluate_164 (by decide) ?_
            refine zt_kill_12 ?_
            exact K _ _ ho.push (cPush_rf hR) (hs.push hx) (by omega)
        · exfalso
          omega

set_option maxRecDepth 100000 in
set_option maxHeartbeats 4000000 in
theorem l_ev3 {d n : Nat} {sh : zSh} {h h1 : zMem} {Q : Option zV → Nat → zSh → zMem → Prop} {c u v xn xd a i : Int} {N : Nat} {s : List zFr} (hS : zShp sh) (hc : sh c = (100, N)) (hc8 : 80 ≤ c) (hN : N ≤ 600) (hx : fok (xn, xd)) (ho : zoC h h1) (hR : zRf h1) (hs : stk h1 (s)) (hi : 0 ≤ i ∧ i ≤ a) (ha : 0 ≤ a ∧ a + 1 < N) (hp : h c a = -14) (hg : a < h c (a + 1)) (K : ∀ (h2 : zMem) (j : Int), zoC h h2 → zRf h2 → stk h2 (s) → (0 ≤ j ∧ j ≤ h c (a + 1)) → zT yX0_evaluate cX0_evaluate 13 none (d + 4) 0 0 Q 49 [some (2, 5), some (2, c), some (1, u), none, some (1, v), none, some (1, xn), none, some (1, xd), none, some (0, h c (a + 1)), some (0, j), none] [] n sh h2) : zT yX0_evaluate cX0_evaluate 13 none (d + 4) 0 0 Q 49 [some (2, 5), some (2, c), some (1, u), none, some (1, v), none, some (1, xn), none, some (1, xd), none, some (0, a), some (0, i), none] [] n sh h1 := by
  have hx1 := hx.1
  have hx2 := hx.2.1
  simp only [] at hx1 hx2
  have hl0 := hs.1
  try rw [List.length_cons] at hl0
  try rw [List.length_cons] at hl0
  refine zt_rg (fun hm => ?_)
  have hpr : zi32 (h c a) := by rw [← ho c (by omega)]; exact hm.int hc (by omega) (by omega)
  refine zt_iload dX0_evaluate_49 rfl ?_
  refine zt_aload_n dX0_evaluate_51 rfl ?_
  refine zt_alenv (v := (N : Int)) dX0_evaluate_52 hc (by decide) (by decide) rfl ?_
  refine zt_icmp_ge (tgt := 167) dX0_evaluate_53 (by decide) (by omega) (by omega) (fun c_53 => ?_) (fun c_53 => ?_)
  · exfalso
    omega
  · refine zt_iload dX0_evaluate_56 rfl ?_
    refine zt_if_lt (tgt := 167) dX0_evaluate_58 (by decide) (by omega) (fun c_58 => ?_) (fun c_58 => ?_)
    · exfalso
      omega
    · refine zt_iload dX0_evaluate_61 rfl ?_
      refine zt_aload_n dX0_evaluate_63 rfl ?_
      refine zt_alenv (v := (N : Int)) dX0_evaluate_64 hc (by decide) (by decide) rfl ?_
      refine zt_icmp_ge (tgt := 167) dX0_evaluate_65 (by decide) (by omega) (by omega) (fun c_65 => ?_) (fun c_65 => ?_)
      · exfalso
        omega
      · refine zt_aload_n dX0_evaluate_68 rfl ?_
        refine zt_iload dX0_evaluate_69 rfl ?_
        refine zt_ialoadv (v := h c a) dX0_evaluate_71 hc (by omega) (by omega) (by omega) (by rw [ho c (by omega)]) ?_
        refine zt_istore_12 dX0_evaluate_72 (by decide) rfl ?_
        refine zt_iload dX0_evaluate_74 rfl ?_
        refine zt_if_lt (tgt := 93) dX0_evaluate_76 (by decide) hpr (fun c_76 => ?_) (fun c_76 => ?_)
        · refine zt_iload dX0_evaluate_93 rfl ?_
          refine zt_iconst dX0_evaluate_95 ?_
          refine zt_icmp_ne (tgt := 113) dX0_evaluate_96 (by decide) hpr (by decide) (fun c_96 => ?_) (fun c_96 => ?_)
          · refine zt_iload dX0_evaluate_113 rfl ?_
            refine zt_bipush dX0_evaluate_115 (by decide) ?_
            refine zt_icmp_ne (tgt := 133) dX0_evaluate_117 (by decide) hpr (by decide) (fun c_117 => ?_) (fun c_117 => ?_)
            · exfalso
              omega
            · refine zt_aload_n dX0_evaluate_120 rfl ?_
              refine zt_iload dX0_evaluate_121 rfl ?_
              refine zt_iconst dX0_evaluate_123 ?_
              refine zt_iadd dX0_evaluate_124 ?_
              refine zt_callS2r dX0_evaluate_125 ml_X0_38 (Nat.le_of_ble_eq_true rfl) (zF.of_eq (r' := some (0, h c (a + 1))) (by rw [ho c (by omega)]) rfl rfl rfl (c_plin hc hN (by omega))) ?_
              refine zt_istore_10 dX0_evaluate_128 (by decide) rfl ?_
              refine zt_goto (tgt := 161) dX0_evaluate_130 (by decide) ?_
              refine zt_iinc_11 dX0_evaluate_161 (by decide) rfl ?_
              refine zt_goto (tgt := 49) dX0_evaluate_164 (by decide) ?_
              refine zt_kill_12 ?_
              exact K _ _ ho hR hs (by omega)
          · exfalso
            omega
        · exfalso
          omega

set_option maxRecDepth 100000 in
set_option maxHeartbeats 4000000 in
theorem l_ev4 {d n : Nat} {sh : zSh} {h h1 : zMem} {Q : Option zV → Nat → zSh → zMem → Prop} {c u v xn xd a i : Int} {N : Nat} {s : List zFr} {f e : zFr} (hS : zShp sh) (hc : sh c = (100, N)) (hc8 : 80 ≤ c) (hN : N ≤ 600) (hx : fok (xn, xd)) (ho : zoC h h1) (hR : zRf h1) (hs : stk h1 (e :: f :: s)) (hi : 0 ≤ i ∧ i ≤ a) (ha : 0 ≤ a ∧ a + 2 < N) (hp : h c a = -11 ∨ h c a = -12 ∨ h c a = -13) (hl : s.length < 62) (hg : a < h c (a + 2)) (hz : f.2 = 0 ∨ e.2 = 0) (K : ∀ (h2 : zMem) (j : Int), zoC h h2 → zRf h2 → stk h2 ((0, 0) :: s) → (0 ≤ j ∧ j ≤ h c (a + 2)) → zT yX0_evaluate cX0_evaluate 13 none (d + 4) 0 0 Q 49 [some (2, 5), some (2, c), some (1, u), none, some (1, v), none, some (1, xn), none, some (1, xd), none, some (0, h c (a + 2)), some (0, j), none] [] n sh h2) : zT yX0_evaluate cX0_evaluate 13 none (d + 4) 0 0 Q 49 [some (2, 5), some (2, c), some (1, u), none, some (1, v), none, some (1, xn), none, some (1, xd), none, some (0, a), some (0, i), none] [] n sh h1 := by
  have hx1 := hx.1
  have hx2 := hx.2.1
  simp only [] at hx1 hx2
  have hl0 := hs.1
  try rw [List.length_cons] at hl0
  try rw [List.length_cons] at hl0
  refine zt_rg (fun hm => ?_)
  have hpr : zi32 (h c a) := by rw [← ho c (by omega)]; exact hm.int hc (by omega) (by omega)
  refine zt_iload dX0_evaluate_49 rfl ?_
  refine zt_aload_n dX0_evaluate_51 rfl ?_
  refine zt_alenv (v := (N : Int)) dX0_evaluate_52 hc (by decide) (by decide) rfl ?_
  refine zt_icmp_ge (tgt := 167) dX0_evaluate_53 (by decide) (by omega) (by omega) (fun c_53 => ?_) (fun c_53 => ?_)
  · exfalso
    omega
  · refine zt_iload dX0_evaluate_56 rfl ?_
    refine zt_if_lt (tgt := 167) dX0_evaluate_58 (by decide) (by omega) (fun c_58 => ?_) (fun c_58 => ?_)
    · exfalso
      omega
    · refine zt_iload dX0_evaluate_61 rfl ?_
      refine zt_aload_n dX0_evaluate_63 rfl ?_
      refine zt_alenv (v := (N : Int)) dX0_evaluate_64 hc (by decide) (by decide) rfl ?_
      refine zt_icmp_ge (tgt := 167) dX0_evaluate_65 (by decide) (by omega) (by omega) (fun c_65 => ?_) (fun c_65 => ?_)
      · exfalso
        omega
      · refine zt_aload_n dX0_evaluate_68 rfl ?_
        refine zt_iload dX0_evaluate_69 rfl ?_
        refine zt_ialoadv (v := h c a) dX0_evaluate_71 hc (by omega) (by omega) (by omega) (by rw [ho c (by omega)]) ?_
        refine zt_istore_12 dX0_evaluate_72 (by decide) rfl ?_
        refine zt_iload dX0_evaluate_74 rfl ?_
        refine zt_if_lt (tgt := 93) dX0_evaluate_76 (by decide) hpr (fun c_76 => ?_) (fun c_76 => ?_)
        · refine zt_iload dX0_evaluate_93 rfl ?_
          refine zt_iconst dX0_evaluate_95 ?_
          refine zt_icmp_ne (tgt := 113) dX0_evaluate_96 (by decide) hpr (by decide) (fun c_96 => ?_) (fun c_96 => ?_)
          · refine zt_iload dX0_evaluate_113 rfl ?_
            refine zt_bipush dX0_evaluate_115 (by decide) ?_
            refine zt_icmp_ne (tgt := 133) dX0_evaluate_117 (by decide) hpr (by decide) (fun c_117 => ?_) (fun c_117 => ?_)
            · refine zt_iload dX0_evaluate_133 rfl ?_
              refine zt_bipush dX0_evaluate_135 (by decide) ?_
              refine zt_icmp_gt (tgt := 152) dX0_evaluate_137 (by decide) hpr (by decide) (fun c_137 => ?_) (fun c_137 => ?_)
              · exfalso
                omega
              · refine zt_aload_n dX0_evaluate_140 rfl ?_
                refine zt_aload_n dX0_evaluate_141 rfl ?_
                refine zt_iload dX0_evaluate_142 rfl ?_
                have hl0 := hs.1
                rw [List.length_cons, List.length_cons] at hl0
                have t1 := hs.top
                have t2 := hs.drop.top
                refine zt_callV2r dX0_evaluate_144 ml_X0_42 (zs_5 hS) (Nat.le_of_ble_eq_true rfl) (zF.of_eq (r' := some (0, h c (a + 2))) (h1' := (cPush (cDrop (cDrop h1)) 0 0)) (by congr 2; rw [t1.1, t2.1]; unfold chA; rw [ho c (by omega)]; exact if_pos hz) rfl rfl (by rw [t1.1, t2.1]; exact if_pos hz) (c_choo hS hR hc hc8 hN (by omega) (by rw [t1.1]; exact t1.2.1) (by rw [t2.1]; exact t2.2.1) (by omega))) ?_
                refine zt_istore_10 dX0_evaluate_147 (by decide) rfl ?_
                refine zt_goto (tgt := 161) dX0_evaluate_149 (by decide) ?_
                refine zt_iinc_11 dX0_evaluate_161 (by decide) rfl ?_
                refine zt_goto (tgt := 49) dX0_evaluate_164 (by decide) ?_
                refine zt_kill_12 ?_
                exact K _ _ ho.drop.drop.push (cPush_rf (cDrop_rf (cDrop_rf hR))) (hs.drop.drop.push fok_0) (by omega)
            · exfalso
              omega
          · exfalso
            omega
        · exfalso
          omega

set_option maxRecDepth 100000 in
set_option maxHeartbeats 4000000 in
theorem l_ev5 {d n : Nat} {sh : zSh} {h h1 : zMem} {Q : Option zV → Nat → zSh → zMem → Prop} {c u v xn xd a i : Int} {N : Nat} {s : List zFr} {f e : zFr} (hS : zShp sh) (hc : sh c = (100, N)) (hc8 : 80 ≤ c) (hN : N ≤ 600) (hx : fok (xn, xd)) (ho : zoC h h1) (hR : zRf h1) (hs : stk h1 (e :: f :: s)) (hi : 0 ≤ i ∧ i ≤ a) (ha : 0 ≤ a ∧ a + 2 < N) (hp : h c a = -11 ∨ h c a = -12 ∨ h c a = -13) (hl : s.length < 62) (hz : ¬ (f.2 = 0 ∨ e.2 = 0)) (hh : fhd (h c a) f e) (K : ∀ (h2 : zMem) (j : Int), zoC h h2 → zRf h2 → stk h2 (s) → (0 ≤ j ∧ j ≤ a + 3) → zT yX0_evaluate cX0_evaluate 13 none (d + 4) 0 0 Q 49 [some (2, 5), some (2, c), some (1, u), none, some (1, v), none, some (1, xn), none, some (1, xd), none, some (0, a + 3), some (0, j), none] [] n sh h2) : zT yX0_evaluate cX0_evaluate 13 none (d + 4) 0 0 Q 49 [some (2, 5), some (2, c), some (1, u), none, some (1, v), none, some (1, xn), none, some (1, xd), none, some (0, a), some (0, i), none] [] n sh h1 := by
  have hx1 := hx.1
  have hx2 := hx.2.1
  simp only [] at hx1 hx2
  have hl0 := hs.1
  try rw [List.length_cons] at hl0
  try rw [List.length_cons] at hl0
  refine zt_rg (fun hm => ?_)
  have hpr : zi32 (h c a) := by rw [← ho c (by omega)]; exact hm.int hc (by omega) (by omega)
  refine zt_iload dX0_evaluate_49 rfl ?_
  refine zt_aload_n dX0_evaluate_51 rfl ?_
  refine zt_alenv (v := (N : Int)) dX0_evaluate_52 hc (by decide) (by decide) rfl ?_
  refine zt_icmp_ge (tgt := 167) dX0_evaluate_53 (by decide) (by omega) (by omega) (fun c_53 => ?_) (fun c_53 => ?_)
  · exfalso
    omega
  · refine zt_iload dX0_evaluate_56 rfl ?_
    refine zt_if_lt (tgt := 167) dX0_evaluate_58 (by decide) (by omega) (fun c_58 => ?_) (fun c_58 => ?_)
    · exfalso
      omega
    · refine zt_iload dX0_evaluate_61 rfl ?_
      refine zt_aload_n dX0_evaluate_63 rfl ?_
      refine zt_alenv (v := (N : Int)) dX0_evaluate_64 hc (by decide) (by decide) rfl ?_
      refine zt_icmp_ge (tgt := 167) dX0_evaluate_65 (by decide) (by omega) (by omega) (fun c_65 => ?_) (fun c_65 => ?_)
      · exfalso
        omega
      · refine zt_aload_n dX0_evaluate_68 rfl ?_
        refine zt_iload dX0_evaluate_69 rfl ?_
        refine zt_ialoadv (v := h c a) dX0_evaluate_71 hc (by omega) (by omega) (by omega) (by rw [ho c (by omega)]) ?_
        refine zt_istore_12 dX0_evaluate_72 (by decide) rfl ?_
        refine zt_iload dX0_evaluate_74 rfl ?_
        refine zt_if_lt (tgt := 93) dX0_evaluate_76 (by decide) hpr (fun c_76 => ?_) (fun c_76 => ?_)
        · refine zt_iload dX0_evaluate_93 rfl ?_
          refine zt_iconst dX0_evaluate_95 ?_
          refine zt_icmp_ne (tgt := 113) dX0_evaluate_96 (by decide) hpr (by decide) (fun c_96 => ?_) (fun c_96 => ?_)
          · refine zt_iload dX0_evaluate_113 rfl ?_
            refine zt_bipush dX0_evaluate_115 (by decide) ?_
            refine zt_icmp_ne (tgt := 133) dX0_evaluate_117 (by decide) hpr (by decide) (fun c_117 => ?_) (fun c_117 => ?_)
            · refine zt_iload dX0_evaluate_133 rfl ?_
              refine zt_bipush dX0_evaluate_135 (by decide) ?_
              refine zt_icmp_gt (tgt := 152) dX0_evaluate_137 (by decide) hpr (by decide) (fun c_137 => ?_) (fun c_137 => ?_)
              · exfalso
                omega
              · refine zt_aload_n dX0_evaluate_140 rfl ?_
                refine zt_aload_n dX0_evaluate_141 rfl ?_
                refine zt_iload dX0_evaluate_142 rfl ?_
                have hl0 := hs.1
                rw [List.length_cons, List.length_cons] at hl0
                have t1 := hs.top
                have t2 := hs.drop.top
                refine zt_callV2r dX0_evaluate_144 ml_X0_42 (zs_5 hS) (Nat.le_of_ble_eq_true rfl) (zF.of_eq (r' := some (0, a + 3)) (h1' := (cDrop (cDrop h1))) (by congr 2; rw [t1.1, t2.1]; unfold chA; rw [ho c (by omega)]; exact (if_neg hz).trans (if_pos hh)) rfl rfl (by rw [t1.1, t2.1]; exact if_neg hz) (c_choo hS hR hc hc8 hN (by omega) (by rw [t1.1]; exact t1.2.1) (by rw [t2.1]; exact t2.2.1) (by omega))) ?_
                refine zt_istore_10 dX0_evaluate_147 (by decide) rfl ?_
                refine zt_goto (tgt := 161) dX0_evaluate_149 (by decide) ?_
                refine zt_iinc_11 dX0_evaluate_161 (by decide) rfl ?_
                refine zt_goto (tgt := 49) dX0_evaluate_164 (by decide) ?_
                refine zt_kill_12 ?_
                exact K _ _ ho.drop.drop (cDrop_rf (cDrop_rf hR)) hs.drop.drop (by omega)
            · exfalso
              omega
          · exfalso
            omega
        · exfalso
          omega

set_option maxRecDepth 100000 in
set_option maxHeartbeats 4000000 in
theorem l_ev6 {d n : Nat} {sh : zSh} {h h1 : zMem} {Q : Option zV → Nat → zSh → zMem → Prop} {c u v xn xd a i : Int} {N : Nat} {s : List zFr} {f e : zFr} (hS : zShp sh) (hc : sh c = (100, N)) (hc8 : 80 ≤ c) (hN : N ≤ 600) (hx : fok (xn, xd)) (ho : zoC h h1) (hR : zRf h1) (hs : stk h1 (e :: f :: s)) (hi : 0 ≤ i ∧ i ≤ a) (ha : 0 ≤ a ∧ a + 2 < N) (hp : h c a = -11 ∨ h c a = -12 ∨ h c a = -13) (hl : s.length < 62) (hg : a < h c (a + 1)) (hz : ¬ (f.2 = 0 ∨ e.2 = 0)) (hh : ¬ fhd (h c a) f e) (K : ∀ (h2 : zMem) (j : Int), zoC h h2 → zRf h2 → stk h2 (s) → (0 ≤ j ∧ j ≤ h c (a + 1)) → zT yX0_evaluate cX0_evaluate 13 none (d + 4) 0 0 Q 49 [some (2, 5), some (2, c), some (1, u), none, some (1, v), none, some (1, xn), none, some (1, xd), none, some (0, h c (a + 1)), some (0, j), none] [] n sh h2) : zT yX0_evaluate cX0_evaluate 13 none (d + 4) 0 0 Q 49 [some (2, 5), some (2, c), some (1, u), none, some (1, v), none, some (1, xn), none, some (1, xd), none, some (0, a), some (0, i), none] [] n sh h1 := by
  have hx1 := hx.1
  have hx2 := hx.2.1
  simp only [] at hx1 hx2
  have hl0 := hs.1
  try rw [List.length_cons] at hl0
  try rw [List.length_cons] at hl0
  refine zt_rg (fun hm => ?_)
  have hpr : zi32 (h c a) := by rw [← ho c (by omega)]; exact hm.int hc (by omega) (by omega)
  refine zt_iload dX0_evaluate_49 rfl ?_
  refine zt_aload_n dX0_evaluate_51 rfl ?_
  refine zt_alenv (v := (N : Int)) dX0_evaluate_52 hc (by decide) (by decide) rfl ?_
  refine zt_icmp_ge (tgt := 167) dX0_evaluate_53 (by decide) (by omega) (by omega) (fun c_53 => ?_) (fun c_53 => ?_)
  · exfalso
    omega
  · refine zt_iload dX0_evaluate_56 rfl ?_
    refine zt_if_lt (tgt := 167) dX0_evaluate_58 (by decide) (by omega) (fun c_58 => ?_) (fun c_58 => ?_)
    · exfalso
      omega
    · refine zt_iload dX0_evaluate_61 rfl ?_
      refine zt_aload_n dX0_evaluate_63 rfl ?_
      refine zt_alenv (v := (N : Int)) dX0_evaluate_64 hc (by decide) (by decide) rfl ?_
      refine zt_icmp_ge (tgt := 167) dX0_evaluate_65 (by decide) (by omega) (by omega) (fun c_65 => ?_) (fun c_65 => ?_)
      · exfalso
        omega
      · refine zt_aload_n dX0_evaluate_68 rfl ?_
        refine zt_iload dX0_evaluate_69 rfl ?_
        refine zt_ialoadv (v := h c a) dX0_evaluate_71 hc (by omega) (by omega) (by omega) (by rw [ho c (by omega)]) ?_
        refine zt_istore_12 dX0_evaluate_72 (by decide) rfl ?_
        refine zt_iload dX0_evaluate_74 rfl ?_
        refine zt_if_lt (tgt := 93) dX0_evaluate_76 (by decide) hpr (fun c_76 => ?_) (fun c_76 => ?_)
        · refine zt_iload dX0_evaluate_93 rfl ?_
          refine zt_iconst dX0_evaluate_95 ?_
          refine zt_icmp_ne (tgt := 113) dX0_evaluate_96 (by decide) hpr (by decide) (fun c_96 => ?_) (fun c_96 => ?_)
          · refine zt_iload dX0_evaluate_113 rfl ?_
            refine zt_bipush dX0_evaluate_115 (by decide) ?_
            refine zt_icmp_ne (tgt := 133) dX0_evaluate_117 (by decide) hpr (by decide) (fun c_117 => ?_) (fun c_117 => ?_)
            · refine zt_iload dX0_evaluate_133 rfl ?_
              refine zt_bipush dX0_evaluate_135 (by decide) ?_
              refine zt_icmp_gt (tgt := 152) dX0_evaluate_137 (by decide) hpr (by decide) (fun c_137 => ?_) (fun c_137 => ?_)
              · exfalso
                omega
              · refine zt_aload_n dX0_evaluate_140 rfl ?_
                refine zt_aload_n dX0_evaluate_141 rfl ?_
                refine zt_iload dX0_evaluate_142 rfl ?_
                have hl0 := hs.1
                rw [List.length_cons, List.length_cons] at hl0
                have t1 := hs.top
                have t2 := hs.drop.top
                refine zt_callV2r dX0_evaluate_144 ml_X0_42 (zs_5 hS) (Nat.le_of_ble_eq_true rfl) (zF.of_eq (r' := some (0, h c (a + 1))) (h1' := (cDrop (cDrop h1))) (by congr 2; rw [t1.1, t2.1]; unfold chA; rw [ho c (by omega)]; exact (if_neg hz).trans (if_neg hh)) rfl rfl (by rw [t1.1, t2.1]; exact if_neg hz) (c_choo hS hR hc hc8 hN (by omega) (by rw [t1.1]; exact t1.2.1) (by rw [t2.1]; exact t2.2.1) (by omega))) ?_
                refine zt_istore_10 dX0_evaluate_147 (by decide) rfl ?_
                refine zt_goto (tgt := 161) dX0_evaluate_149 (by decide) ?_
                refine zt_iinc_11 dX0_evaluate_161 (by decide) rfl ?_
                refine zt_goto (tgt := 49) dX0_evaluate_164 (by decide) ?_
                refine zt_kill_12 ?_
                exact K _ _ ho.drop.drop (cDrop_rf (cDrop_rf hR)) hs.drop.drop (by omega)
            · exfalso
              omega
          · exfalso
            omega
        · exfalso
          omega

set_option maxRecDepth 100000 in
set_option maxHeartbeats 4000000 in
theorem l_ev7 {d n : Nat} {sh : zSh} {h h1 : zMem} {Q : Option zV → Nat → zSh → zMem → Prop} {c u v xn xd a i : Int} {N : Nat} {s : List zFr} {f : zFr} (hS : zShp sh) (hc : sh c = (100, N)) (hc8 : 80 ≤ c) (hN : N ≤ 600) (hx : fok (xn, xd)) (ho : zoC h h1) (hR : zRf h1) (hs : stk h1 (f :: s)) (hi : 0 ≤ i ∧ i ≤ a) (ha : 0 ≤ a ∧ a < N) (hp : h c a = -6 ∨ h c a = -7 ∨ h c a = -8) (hl : s.length < 63) (K : ∀ (h2 : zMem) (j : Int), zoC h h2 → zRf h2 → stk h2 (f1 (h c a) f :: s) → (0 ≤ j ∧ j ≤ a + 1) → zT yX0_evaluate cX0_evaluate 13 none (d + 4) 0 0 Q 49 [some (2, 5), some (2, c), some (1, u), none, some (1, v), none, some (1, xn), none, some (1, xd), none, some (0, a + 1), some (0, j), none] [] n sh h2) : zT yX0_evaluate cX0_evaluate 13 none (d + 4) 0 0 Q 49 [some (2, 5), some (2, c), some (1, u), none, some (1, v), none, some (1, xn), none, some (1, xd), none, some (0, a), some (0, i), none] [] n sh h1 := by
  have hx1 := hx.1
  have hx2 := hx.2.1
  simp only [] at hx1 hx2
  have hl0 := hs.1
  try rw [List.length_cons] at hl0
  try rw [List.length_cons] at hl0
  refine zt_rg (fun hm => ?_)
  have hpr : zi32 (h c a) := by rw [← ho c (by omega)]; exact hm.int hc (by omega) (by omega)
  refine zt_iload dX0_evaluate_49 rfl ?_
  refine zt_aload_n dX0_evaluate_51 rfl ?_
  refine zt_alenv (v := (N : Int)) dX0_evaluate_52 hc (by decide) (by decide) rfl ?_
  refine zt_icmp_ge (tgt := 167) dX0_evaluate_53 (by decide) (by omega) (by omega) (fun c_53 => ?_) (fun c_53 => ?_)
  · exfalso
    omega
  · refine zt_iload dX0_evaluate_56 rfl ?_
    refine zt_if_lt (tgt := 167) dX0_evaluate_58 (by decide) (by omega) (fun c_58 => ?_) (fun c_58 => ?_)
    · exfalso
      omega
    · refine zt_iload dX0_evaluate_61 rfl ?_
      refine zt_aload_n dX0_evaluate_63 rfl ?_
      refine zt_alenv (v := (N : Int)) dX0_evaluate_64 hc (by decide) (by decide) rfl ?_
      refine zt_icmp_ge (tgt := 167) dX0_evaluate_65 (by decide) (by omega) (by omega) (fun c_65 => ?_) (fun c_65 => ?_)
      · exfalso
        omega
      · refine zt_aload_n dX0_evaluate_68 rfl ?_
        refine zt_iload dX0_evaluate_69 rfl ?_
        refine zt_ialoadv (v := h c a) dX0_evaluate_71 hc (by omega) (by omega) (by omega) (by rw [ho c (by omega)]) ?_
        refine zt_istore_12 dX0_evaluate_72 (by decide) rfl ?_
        refine zt_iload dX0_evaluate_74 rfl ?_
        refine zt_if_lt (tgt := 93) dX0_evaluate_76 (by decide) hpr (fun c_76 => ?_) (fun c_76 => ?_)
        · refine zt_iload dX0_evaluate_93 rfl ?_
          refine zt_iconst dX0_evaluate_95 ?_
          refine zt_icmp_ne (tgt := 113) dX0_evaluate_96 (by decide) hpr (by decide) (fun c_96 => ?_) (fun c_96 => ?_)
          · refine zt_iload dX0_evaluate_113 rfl ?_
            refine zt_bipush dX0_evaluate_115 (by decide) ?_
            refine zt_icmp_ne (tgt := 133) dX0_evaluate_117 (by decide) hpr (by decide) (fun c_117 => ?_) (fun c_117 => ?_)
            · refine zt_iload dX0_evaluate_133 rfl ?_
              refine zt_bipush dX0_evaluate_135 (by decide) ?_
              refine zt_icmp_gt (tgt := 152) dX0_evaluate_137 (by decide) hpr (by decide) (fun c_137 => ?_) (fun c_137 => ?_)
              · refine zt_aload_n dX0_evaluate_152 rfl ?_
                refine zt_iload dX0_evaluate_153 rfl ?_
                have t1 := hs.top
                refine zt_callV1v dX0_evaluate_155 ml_X0_45 (zs_5 hS) (Nat.le_of_ble_eq_true rfl) (zF.of_eq (h1' := cPush (cDrop h1) (f1 (h c a) f).1 (f1 (h c a) f).2) rfl rfl rfl (by rw [t1.1]) (c_ap1 hS hR (by omega) (by rw [t1.1]; exact t1.2.1) hp)) ?_
                refine zt_iinc_10 dX0_evaluate_158 (by decide) rfl ?_
                refine zt_iinc_11 dX0_evaluate_161 (by decide) rfl ?_
                refine zt_goto (tgt := 49) dX0_evaluate_164 (by decide) ?_
                refine zt_kill_12 ?_
                exact K _ _ ho.drop.push (cPush_rf (cDrop_rf hR)) (hs.drop.push (f1_ok t1.2.1)) (by omega)
              · exfalso
                omega
            · exfalso
              omega
          · exfalso
            omega
        · exfalso
          omega

set_option maxRecDepth 100000 in
set_option maxHeartbeats 4000000 in
theorem l_ev8 {d n : Nat} {sh : zSh} {h h1 : zMem} {Q : Option zV → Nat → zSh → zMem → Prop} {c u v xn xd a i : Int} {N : Nat} {s : List zFr} {f e : zFr} (hS : zShp sh) (hc : sh c = (100, N)) (hc8 : 80 ≤ c) (hN : N ≤ 600) (hx : fok (xn, xd)) (ho : zoC h h1) (hR : zRf h1) (hs : stk h1 (e :: f :: s)) (hi : 0 ≤ i ∧ i ≤ a) (ha : 0 ≤ a ∧ a < N) (hp : (-5 ≤ h c a ∧ h c a ≤ -2) ∨ h c a = -9 ∨ h c a = -10) (hl : s.length < 62) (K : ∀ (h2 : zMem) (j : Int), zoC h h2 → zRf h2 → stk h2 (f2 (h c a) f e :: s) → (0 ≤ j ∧ j ≤ a + 1) → zT yX0_evaluate cX0_evaluate 13 none (d + 4) 0 0 Q 49 [some (2, 5), some (2, c), some (1, u), none, some (1, v), none, some (1, xn), none, some (1, xd), none, some (0, a + 1), some (0, j), none] [] n sh h2) : zT yX0_evaluate cX0_evaluate 13 none (d + 4) 0 0 Q 49 [some (2, 5), some (2, c), some (1, u), none, some (1, v), none, some (1, xn), none, some (1, xd), none, some (0, a), some (0, i), none] [] n sh h1 := by
  have hx1 := hx.1
  have hx2 := hx.2.1
  simp only [] at hx1 hx2
  have hl0 := hs.1
  try rw [List.length_cons] at hl0
  try rw [List.length_cons] at hl0
  refine zt_rg (fun hm => ?_)
  have hpr : zi32 (h c a) := by rw [← ho c (by omega)]; exact hm.int hc (by omega) (by omega)
  refine zt_iload dX0_evaluate_49 rfl ?_
  refine zt_aload_n dX0_evaluate_51 rfl ?_
  refine zt_alenv (v := (N : Int)) dX0_evaluate_52 hc (by decide) (by decide) rfl ?_
  refine zt_icmp_ge (tgt := 167) dX0_evaluate_53 (by decide) (by omega) (by omega) (fun c_53 => ?_) (fun c_53 => ?_)
  · exfalso
    omega
  · refine zt_iload dX0_evaluate_56 rfl ?_
    refine zt_if_lt (tgt := 167) dX0_evaluate_58 (by decide) (by omega) (fun c_58 => ?_) (fun c_58 => ?_)
    · exfalso
      omega
    · refine zt_iload dX0_evaluate_61 rfl ?_
      refine zt_aload_n dX0_evaluate_63 rfl ?_
      refine zt_alenv (v := (N : Int)) dX0_evaluate_64 hc (by decide) (by decide) rfl ?_
      refine zt_icmp_ge (tgt := 167) dX0_evaluate_65 (by decide) (by omega) (by omega) (fun c_65 => ?_) (fun c_65 => ?_)
      · exfalso
        omega
      · refine zt_aload_n dX0_evaluate_68 rfl ?_
        refine zt_iload dX0_evaluate_69 rfl ?_
        refine zt_ialoadv (v := h c a) dX0_evaluate_71 hc (by omega) (by omega) (by omega) (by rw [ho c (by omega)]) ?_
        refine zt_istore_12 dX0_evaluate_72 (by decide) rfl ?_
        refine zt_iload dX0_evaluate_74 rfl ?_
        refine zt_if_lt (tgt := 93) dX0_evaluate_76 (by decide) hpr (fun c_76 => ?_) (fun c_76 => ?_)
        · refine zt_iload dX0_evaluate_93 rfl ?_
          refine zt_iconst dX0_evaluate_95 ?_
          refine zt_icmp_ne (tgt := 113) dX0_evaluate_96 (by decide) hpr (by decide) (fun c_96 => ?_) (fun c_96 => ?_)
          · refine zt_iload dX0_evaluate_113 rfl ?_
            refine zt_bipush dX0_evaluate_115 (by decide) ?_
            refine zt_icmp_ne (tgt := 133) dX0_evaluate_117 (by decide) hpr (by decide) (fun c_117 => ?_) (fun c_117 => ?_)
            · refine zt_iload dX0_evaluate_133 rfl ?_
              refine zt_bipush dX0_evaluate_135 (by decide) ?_
              refine zt_icmp_gt (tgt := 152) dX0_evaluate_137 (by decide) hpr (by decide) (fun c_137 => ?_) (fun c_137 => ?_)
              · refine zt_aload_n dX0_evaluate_152 rfl ?_
                refine zt_iload dX0_evaluate_153 rfl ?_
                have t1 := hs.top
                have t2 := hs.drop.top
                refine zt_callV1v dX0_evaluate_155 ml_X0_45 (zs_5 hS) (Nat.le_of_ble_eq_true rfl) (zF.of_eq (h1' := cPush (cDrop (cDrop h1)) (f2 (h c a) f e).1 (f2 (h c a) f e).2) rfl rfl rfl (by rw [t1.1, t2.1]) (c_ap2 hS hR (by omega) (by rw [t1.1]; exact t1.2.1) (by rw [t2.1]; exact t2.2.1) hpr (by omega))) ?_
                refine zt_iinc_10 dX0_evaluate_158 (by decide) rfl ?_
                refine zt_iinc_11 dX0_evaluate_161 (by decide) rfl ?_
                refine zt_goto (tgt := 49) dX0_evaluate_164 (by decide) ?_
                refine zt_kill_12 ?_
                exact K _ _ ho.drop.drop.push (cPush_rf (cDrop_rf (cDrop_rf hR))) (hs.drop.drop.push (f2_ok t2.2.1 t1.2.1)) (by omega)
              · exfalso
                omega
            · exfalso
              omega
          · exfalso
            omega
        · exfalso
          omega
