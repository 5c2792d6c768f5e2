def fz (f : zFr) : Prop := f.2 = 0 → f.1 = 0
theorem frB_pos {n d : Int} (hd : d ≠ 0) : 1 ≤ frB n d := by
  unfold frB
  have h1 := zgcd_pos (x := n) hd
  have h2 := zgcd_le (x := n) hd
  rw [Int.tdiv_eq_ediv_of_nonneg (by omega)]
  exact (Int.le_ediv_iff_mul_le h1).mpr (by omega)
theorem fr_fz (n d : Int) : fz (fr n d) := fun h => by
  by_cases q : d ≠ 0 ∧ (-1000000000 ≤ frA n d ∧ frA n d ≤ 1000000000) ∧ frB n d ≤ 1000000000
  · rw [fr_p q] at h; have := frB_pos (n := n) q.1; replace h : frB n d = 0 := h; omega
  · rw [fr_n q]
theorem fz_0 : fz (0, 0) := fun _ => rfl
theorem f1_fz {p : Int} {f : zFr} (h : fz f) : fz (f1 p f) := by
  unfold f1; split
  · exact fun q => by have := h q; show -f.1 = 0; omega
  · split
    · unfold frt; split; exact fz_0; exact fr_fz _ _
    · split
      · exact fr_fz _ _
      · exact fz_0
theorem fon_fz {b : Int} {f g : zFr} (h : fz f) (h2 : fz g) : fz (fon b f g) := by
  unfold fon; split
  · exact fz_0
  · split <;> assumption
theorem f2_fz {p : Int} {f g : zFr} (h : fz f) (h2 : fz g) : fz (f2 p f g) := by
  unfold f2
  split; exact fr_fz _ _
  split; exact fr_fz _ _
  split; exact fr_fz _ _
  split; exact fr_fz _ _
  split <;> exact fon_fz h h2
theorem fIf_p {P : zFr → Prop} {c : Int} {a b t e : zFr} (h0 : P (0, 0)) (ht : P t) (he : P e) : P (fIf c a b t e) := by
  unfold fIf; split
  · exact h0
  · split <;> assumption
def mstA (A B : Int → Int) : List zFr → Prop
  | [] => True
  | f :: s => (B s.length = f.2 ∧ (f.2 ≠ 0 → A s.length = f.1)) ∧ (fok f ∧ fz f) ∧ mstA A B s
/-- the reference's stack, the top first -/
def mst (h : zMem) (s : List zFr) : Prop := h 38 54 = s.length ∧ mstA (h 72) (h 73) s
theorem mstA_up {A B A' B' : Int → Int} : ∀ {s : List zFr}, (∀ i : Int, 0 ≤ i → i < s.length → A' i = A i ∧ B' i = B i) → mstA A B s → mstA A' B' s
  | [], _, _ => trivial
  | f :: s, e, q => by
    have h1 := e s.length (by omega) (by rw [List.length_cons]; omega)
    refine ⟨⟨by rw [h1.2]; exact q.1.1, by rw [h1.1]; exact q.1.2⟩, q.2.1, mstA_up (fun i a b => e i a (by rw [List.length_cons]; omega)) q.2.2⟩
/-- nothing but the reference's stack has changed -/
def zoM (h h' : zMem) : Prop := (∀ a : Int, a ≠ 38 ∧ a ≠ 72 ∧ a ≠ 73 → h' a = h a) ∧ (∀ y, y ≠ 54 → h' 38 y = h 38 y) ∧ zRf h'
def mPut (h : zMem) (k x y : Int) : zMem := zup (zup h 72 k x) 73 k y
theorem mPut_2 {h : zMem} {k x y a b : Int} : zup (zup (zup (zup h 72 k a) 73 k b) 72 k x) 73 k y = mPut h k x y := zmem_ext (fun p q => by
  unfold mPut zup
  by_cases h1 : p = 73 ∧ q = k
  · simp [h1]
  · by_cases h2 : p = 72 ∧ q = k
    · simp [h2]
    · simp [h1, h2])
theorem mPut_rf {h : zMem} {k x y : Int} (hR : zRf h) : zRf (mPut h k x y) := (hR.upA (by decide)).upA (by decide)
theorem zoM.refl {h : zMem} (hR : zRf h) : zoM h h := ⟨fun _ _ => rfl, fun _ _ => rfl, hR⟩
theorem zoM.trans {h1 h2 h3 : zMem} (a : zoM h1 h2) (b : zoM h2 h3) : zoM h1 h3 := ⟨fun x hx => (b.1 x hx).trans (a.1 x hx), fun y hy => (b.2.1 y hy).trans (a.2.1 y hy), b.2.2⟩
theorem zoM.put {h : zMem} {k x y : Int} (hR : zRf h) : zoM h (mPut h k x y) := ⟨fun a ha => (zup_ne ha.2.2).trans (zup_ne ha.2.1), fun _ _ => (zupA (by decide)).trans (zupA (by decide)), mPut_rf hR⟩
theorem zoM.nil {h : zMem} {k : Int} (hR : zRf h) : zoM h (zup h 73 k 0) := ⟨fun a ha => zup_ne ha.2.2, fun _ _ => zupA (by decide), hR.upA (by decide)⟩
theorem zoM.top {h : zMem} {z : Int} (hR : zRf h) : zoM h (zup h 38 54 z) := ⟨fun a ha => zup_ne ha.1, fun _ hy => zupJ hy, hR.up (by decide)⟩
theorem mPut_t {h : zMem} {k x y : Int} : mPut h k x y 38 54 = h 38 54 := (zupA (by decide)).trans (zupA (by decide))
theorem mPut_72 {h : zMem} {k x y i : Int} : mPut h k x y 72 i = if i = k then x else h 72 i := by unfold mPut; rw [zupA (by decide), zup_at]
theorem mPut_73 {h : zMem} {k x y i : Int} : mPut h k x y 73 i = if i = k then y else h 73 i := by unfold mPut; rw [zup_at, zupA (by decide)]
theorem mst.put {h : zMem} {f g : zFr} {s : List zFr} {k : Int} (q : mst h (f :: s)) (hk : k = s.length) (hg : fok g) (hz : fz g) : mst (mPut h k g.1 g.2) (g :: s) := by
  subst hk
  refine ⟨by rw [mPut_t, q.1, List.length_cons, List.length_cons], ⟨?_, fun _ => ?_⟩, ⟨hg, hz⟩, mstA_up (fun i a b => ?_) q.2.2.2⟩
  · rw [mPut_73, if_pos rfl]
  · rw [mPut_72, if_pos rfl]
  · rw [mPut_72, mPut_73, if_neg (by omega), if_neg (by omega)]; exact ⟨rfl, rfl⟩
theorem mst.nil {h : zMem} {f : zFr} {s : List zFr} {k : Int} (q : mst h (f :: s)) (hk : k = s.length) : mst (zup h 73 k 0) ((0, 0) :: s) := by
  subst hk
  refine ⟨by rw [zupA (by decide), q.1, List.length_cons, List.length_cons], ⟨zupE, fun z => absurd rfl z⟩, ⟨fok_0, fz_0⟩, mstA_up (fun i a b => ?_) q.2.2.2⟩
  exact ⟨zupA (by decide), zupJ (by omega)⟩
/-- f2 of none -/
theorem f2_none {p : Int} {a b : zFr} (ha : fz a) (hb : fz b) (h : a.2 = 0 ∨ b.2 = 0) : (f2 p a b).2 = 0 := by
  have e0 : a.2 * b.2 = 0 := by rcases h with h | h <;> rw [h] <;> simp
  have e1 : a.2 * b.1 = 0 := by
    rcases h with h | h
    · rw [h]; simp
    · rw [hb h]; simp
  unfold f2
  split; rw [e0, fr_x0]
  split; rw [e0, fr_x0]
  split; rw [e0, fr_x0]
  split; rw [e1, fr_x0]
  split
  · unfold fon; rw [if_pos h]
  · unfold fon; rw [if_pos h]
theorem fr_i {f : zFr} (h : fok f) (h0 : f.2 ≠ 0) : fr f.1 f.2 = f := fr_self h h0

set_option maxRecDepth 100000 in
set_option maxHeartbeats 4000000 in
theorem l_com {d n : Nat} {sh : zSh} {h : zMem} {a b : Int}  : ∀ (k : Nat) (x : Int) (y : Int), gm x y < 2 ^ k → (0 ≤ x ∧ x ≤ 2000000000000000000) → (0 ≤ y ∧ y ≤ 2000000000000000000) → zgcd x y = zgcd a b → zT yX11_common cX11_common 10 (some .long) (d + 0) 0 0 (zq (some (1, zgcd a b)) n sh h) 28 [some (1, a), none, some (1, b), none, some (1, x), none, some (1, y), none, none, none] [] n sh h := by
  intro k
  induction k with
  | zero => intro x y hk hx hy hg; have := gm_pos hx.1 hy.1; have e : (2 : Int) ^ 0 = 1 := rfl; omega
  | succ k ih =>
    intro x y hk hx hy hg
    refine zt_lload dX11_common_28 rfl ?_
    refine zt_lconst (v := 0) dX11_common_30 rfl ?_
    refine zt_lc_eq (tgt := 53) dX11_common_31 dX11_common_32 (by decide) (by omega) (by decide) (fun c_31 => ?_) (fun c_31 => ?_)
    · refine zt_lload dX11_common_53 rfl ?_
      exact zt_lret dX11_common_55 ⟨by rw [← hg, show y = 0 from c_31, zgcd_0 hx.1], rfl, rfl, rfl⟩
    · refine zt_lload dX11_common_35 rfl ?_
      refine zt_lload dX11_common_37 rfl ?_
      refine zt_lrem dX11_common_39 (by omega) (by omega) (by omega) ?_
      refine zt_lstore_8 dX11_common_40 (by decide) rfl ?_
      refine zt_lload dX11_common_42 rfl ?_
      refine zt_lstore_4 dX11_common_44 (by decide) rfl ?_
      refine zt_lload dX11_common_46 rfl ?_
      refine zt_lstore_6 dX11_common_48 (by decide) rfl ?_
      refine zt_goto (tgt := 28) dX11_common_50 (by decide) ?_
      refine zt_kill_8 ?_
      exact ih y (Int.tmod x y) (gm_s hx.1 hy.1 c_31 hk) hy (by have e : Int.tmod x y = x % y := Int.tmod_eq_emod_of_nonneg hx.1; have h1 := Int.emod_nonneg x c_31; have h2 := Int.emod_lt_of_pos x (show 0 < y by omega); omega) ((zgcd_s hx.1 hy.1).trans hg)

set_option maxRecDepth 100000 in
set_option maxHeartbeats 4000000 in
theorem c_com {d n : Nat} {sh : zSh} {h : zMem} {a b : Int} (ha : -2000000000000000000 ≤ a ∧ a ≤ 2000000000000000000) (hb : -2000000000000000000 ≤ b ∧ b ≤ 2000000000000000000) : zF yX11_common cX11_common 10 (some .long) (d + 0) 0 0 [(1, a), (1, b)] n sh h (some (1, zgcd a b)) n sh h := by
  refine zF.ofT (by decide +kernel) [some (1, a), none, some (1, b), none, none, none, none, none, none, none] rfl (Nat.le_of_ble_eq_true rfl) ?_
  refine zt_lload_n dX11_common_0 rfl ?_
  refine zt_lconst (v := 0) dX11_common_1 rfl ?_
  refine zt_lc_ge (tgt := 11) dX11_common_2 dX11_common_3 (by decide) (by omega) (by decide) (fun c_2 => ?_) (fun c_2 => ?_)
  · refine zt_lload_n dX11_common_11 rfl ?_
    refine zt_topv (v := zabs a) (by unfold zabs; first | rw [if_pos (by omega)] | rw [if_neg (by omega)]) ?_
    refine zt_lstore_4 dX11_common_12 (by decide) rfl ?_
    refine zt_lload_n dX11_common_14 rfl ?_
    refine zt_lconst (v := 0) dX11_common_15 rfl ?_
    refine zt_lc_ge (tgt := 25) dX11_common_16 dX11_common_17 (by decide) (by omega) (by decide) (fun c_16 => ?_) (fun c_16 => ?_)
    · refine zt_lload_n dX11_common_25 rfl ?_
      refine zt_topv (v := zabs b) (by unfold zabs; first | rw [if_pos (by omega)] | rw [if_neg (by omega)]) ?_
      refine zt_lstore_6 dX11_common_26 (by decide) rfl ?_
      exact l_com 124 (zabs a) (zabs b) (gm_le (zabs_le ha) (zabs_le hb)) (zabs_le ha) (zabs_le hb) (zgcd_abs a b)
    · refine zt_lload_n dX11_common_20 rfl ?_
      refine zt_lneg dX11_common_21 ?_
      refine zt_goto (tgt := 26) dX11_common_22 (by decide) ?_
      refine zt_topv (v := zabs b) (by unfold zabs; first | rw [if_pos (by omega)] | rw [if_neg (by omega)]) ?_
      refine zt_lstore_6 dX11_common_26 (by decide) rfl ?_
      exact l_com 124 (zabs a) (zabs b) (gm_le (zabs_le ha) (zabs_le hb)) (zabs_le ha) (zabs_le hb) (zgcd_abs a b)
  · refine zt_lload_n dX11_common_6 rfl ?_
    refine zt_lneg dX11_common_7 ?_
    refine zt_goto (tgt := 12) dX11_common_8 (by decide) ?_
    refine zt_topv (v := zabs a) (by unfold zabs; first | rw [if_pos (by omega)] | rw [if_neg (by omega)]) ?_
    refine zt_lstore_4 dX11_common_12 (by decide) rfl ?_
    refine zt_lload_n dX11_common_14 rfl ?_
    refine zt_lconst (v := 0) dX11_common_15 rfl ?_
    refine zt_lc_ge (tgt := 25) dX11_common_16 dX11_common_17 (by decide) (by omega) (by decide) (fun c_16 => ?_) (fun c_16 => ?_)
    · refine zt_lload_n dX11_common_25 rfl ?_
      refine zt_topv (v := zabs b) (by unfold zabs; first | rw [if_pos (by omega)] | rw [if_neg (by omega)]) ?_
      refine zt_lstore_6 dX11_common_26 (by decide) rfl ?_
      exact l_com 124 (zabs a) (zabs b) (gm_le (zabs_le ha) (zabs_le hb)) (zabs_le ha) (zabs_le hb) (zgcd_abs a b)
    · refine zt_lload_n dX11_common_20 rfl ?_
      refine zt_lneg dX11_common_21 ?_
      refine zt_goto (tgt := 26) dX11_common_22 (by decide) ?_
      refine zt_topv (v := zabs b) (by unfold zabs; first | rw [if_pos (by omega)] | rw [if_neg (by omega)]) ?_
      refine zt_lstore_6 dX11_common_26 (by decide) rfl ?_
      exact l_com 124 (zabs a) (zabs b) (gm_le (zabs_le ha) (zabs_le hb)) (zabs_le ha) (zabs_le hb) (zgcd_abs a b)

set_option maxRecDepth 100000 in
set_option maxHeartbeats 4000000 in
theorem c_puts {d n : Nat} {sh : zSh} {h : zMem} {k x y : Int} (hS : zShp sh) (hR : zRf h) (hk : 0 ≤ k ∧ k < 200) (hx : -2000000000000000000 ≤ x ∧ x ≤ 2000000000000000000) (hy : -2000000000000000000 ≤ y ∧ y ≤ 2000000000000000000)  : zF yX11_puts cX11_puts 12 none (d + 1) 0 0 [(2, 38), (0, k), (1, x), (1, y)] n sh h none n sh (mPut h k (fr x y).1 (fr x y).2) := by
  refine zF.ofT (by decide +kernel) [some (2, 38), some (0, k), some (1, x), none, some (1, y), none, none, none, none, none, none, none] rfl (Nat.le_of_ble_eq_true rfl) ?_
  refine zt_aload_n dX11_puts_0 rfl ?_
  refine zt_getv dX11_puts_1 fl_X11_115 (zs_38 hS) (rf_38_52 hR) ?_
  refine zt_iload_n dX11_puts_4 rfl ?_
  refine zt_lconst (v := 0) dX11_puts_5 rfl ?_
  refine zt_lastore dX11_puts_6 (zs_72 hS) (by decide) (by omega) (by omega) (by decide) ?_
  refine zt_aload_n dX11_puts_7 rfl ?_
  refine zt_getv dX11_puts_8 fl_X11_119 (zs_38 hS) (rf_38_53 (hR.upA (by decide))) ?_
  refine zt_iload_n dX11_puts_11 rfl ?_
  refine zt_lconst (v := 0) dX11_puts_12 rfl ?_
  refine zt_lastore dX11_puts_13 (zs_73 hS) (by decide) (by omega) (by omega) (by decide) ?_
  refine zt_lload dX11_puts_14 rfl ?_
  refine zt_lconst (v := 0) dX11_puts_16 rfl ?_
  refine zt_lc_ne (tgt := 22) dX11_puts_17 dX11_puts_18 (by decide) (by omega) (by decide) (fun c_17 => ?_) (fun c_17 => ?_)
  · refine zt_lload_n dX11_puts_22 rfl ?_
    refine zt_lload dX11_puts_23 rfl ?_
    refine zt_callS2r dX11_puts_25 ml_X11_242 (Nat.le_of_ble_eq_true rfl) (c_com hx hy) ?_
    have hA := frA_bd (n := x) (d := y) (B := 2000000000000000000) hx c_17
    have hB := frB_bd (n := x) (d := y) (B := 2000000000000000000) hy c_17
    have hg := zgcd_pos (x := x) c_17
    have hg2 := zgcd_le (x := x) c_17
    have hg3 := zabs_le hy
    refine zt_lstore_6 dX11_puts_28 (by decide) rfl ?_
    refine zt_lload dX11_puts_30 rfl ?_
    refine zt_lconst (v := 0) dX11_puts_32 rfl ?_
    refine zt_lc_ge (tgt := 45) dX11_puts_33 dX11_puts_34 (by decide) (by omega) (by decide) (fun c_33 => ?_) (fun c_33 => ?_)
    · refine zt_lload_n dX11_puts_45 rfl ?_
      refine zt_lload dX11_puts_46 rfl ?_
      refine zt_ldiv dX11_puts_48 (by omega) (by omega) (by omega) ?_
      refine zt_topv (v := frA x y) (by unfold frA; first | rw [if_pos (by omega)] | rw [if_neg (by omega)]) ?_
      refine zt_lstore_8 dX11_puts_49 (by decide) rfl ?_
      refine zt_lload dX11_puts_51 rfl ?_
      refine zt_lconst (v := 0) dX11_puts_53 rfl ?_
      refine zt_lc_ge (tgt := 67) dX11_puts_54 dX11_puts_55 (by decide) (by omega) (by decide) (fun c_54 => ?_) (fun c_54 => ?_)
      · refine zt_lload dX11_puts_67 rfl ?_
        refine zt_lload dX11_puts_69 rfl ?_
        refine zt_ldiv dX11_puts_71 (by omega) (by omega) (by omega) ?_
        refine zt_topv (v := frB x y) (by first | (exfalso; omega) | (unfold frB zabs; first | rw [if_pos (by omega)] | rw [if_neg (by omega)])) ?_
        refine zt_lstore_10 dX11_puts_72 (by decide) rfl ?_
        refine zt_lload dX11_puts_74 rfl ?_
        refine zt_ldc2 dX11_puts_76 kc_X11_246 ?_
        refine zt_ldc2 dX11_puts_79 kc_X11_248 ?_
        refine zt_callS3r dX11_puts_82 ml_X11_143 (Nat.le_of_ble_eq_true rfl) (c_min_ (x := frA x y) (by omega) (by decide) (by decide)) ?_
        refine zt_ifb_eq (tgt := 97) dX11_puts_85 (by decide) (fun c_85 => ?_) (fun c_85 => ?_)
        · exact zt_vret dX11_puts_97 ⟨rfl, rfl, rfl, by rw [fr_n (by omega)]; rfl⟩
        · refine zt_lload dX11_puts_88 rfl ?_
          refine zt_ldc2 dX11_puts_90 kc_X11_248 ?_
          refine zt_lc_le (tgt := 98) dX11_puts_93 dX11_puts_94 (by decide) (by omega) (by decide) (fun c_93 => ?_) (fun c_93 => ?_)
          · refine zt_aload_n dX11_puts_98 rfl ?_
            refine zt_getv dX11_puts_99 fl_X11_115 (zs_38 hS) (rf_38_52 ((hR.upA (by decide)).upA (by decide))) ?_
            refine zt_iload_n dX11_puts_102 rfl ?_
            refine zt_lload dX11_puts_103 rfl ?_
            refine zt_lastore dX11_puts_105 (zs_72 hS) (by decide) (by omega) (by omega) (by omega) ?_
            refine zt_aload_n dX11_puts_106 rfl ?_
            refine zt_getv dX11_puts_107 fl_X11_119 (zs_38 hS) (rf_38_53 (((hR.upA (by decide)).upA (by decide)).upA (by decide))) ?_
            refine zt_iload_n dX11_puts_110 rfl ?_
            refine zt_lload dX11_puts_111 rfl ?_
            refine zt_lastore dX11_puts_113 (zs_73 hS) (by decide) (by omega) (by omega) (by omega) ?_
            exact zt_vret dX11_puts_114 ⟨rfl, rfl, rfl, by rw [fr_p (by omega)]; exact mPut_2⟩
          · exact zt_vret dX11_puts_97 ⟨rfl, rfl, rfl, by rw [fr_n (by omega)]; rfl⟩
      · refine zt_lload dX11_puts_58 rfl ?_
        refine zt_lneg dX11_puts_60 ?_
        refine zt_lload dX11_puts_61 rfl ?_
        refine zt_ldiv dX11_puts_63 (by omega) (by omega) (by omega) ?_
        refine zt_goto (tgt := 72) dX11_puts_64 (by decide) ?_
        refine zt_topv (v := frB x y) (by first | (exfalso; omega) | (unfold frB zabs; first | rw [if_pos (by omega)] | rw [if_neg (by omega)])) ?_
        refine zt_lstore_10 dX11_puts_72 (by decide) rfl ?_
        refine zt_lload dX11_puts_74 rfl ?_
        refine zt_ldc2 dX11_puts_76 kc_X11_246 ?_
        refine zt_ldc2 dX11_puts_79 kc_X11_248 ?_
        refine zt_callS3r dX11_puts_82 ml_X11_143 (Nat.le_of_ble_eq_true rfl) (c_min_ (x := frA x y) (by omega) (by decide) (by decide)) ?_
        refine zt_ifb_eq (tgt := 97) dX11_puts_85 (by decide) (fun c_85 => ?_) (fun c_85 => ?_)
        · exact zt_vret dX11_puts_97 ⟨rfl, rfl, rfl, by rw [fr_n (by omega)]; rfl⟩
        · refine zt_lload dX11_puts_88 rfl ?_
          refine zt_ldc2 dX11_puts_90 kc_X11_248 ?_
          refine zt_lc_le (tgt := 98) dX11_puts_93 dX11_puts_94 (by decide) (by omega) (by decide) (fun c_93 => ?_) (fun c_93 => ?_)
          · refine zt_aload_n dX11_puts_98 rfl ?_
            refine zt_getv dX11_puts_99 fl_X11_115 (zs_38 hS) (rf_38_52 ((hR.upA (by decide)).upA (by decide))) ?_
            refine zt_iload_n dX11_puts_102 rfl ?_
            refine zt_lload dX11_puts_103 rfl ?_
            refine zt_lastore dX11_puts_105 (zs_72 hS) (by decide) (by omega) (by omega) (by omega) ?_
            refine zt_aload_n dX11_puts_106 rfl ?_
            refine zt_getv dX11_puts_107 fl_X11_119 (zs_38 hS) (rf_38_53 (((hR.upA (by decide)).upA (by decide)).upA (by decide))) ?_
            refine zt_iload_n dX11_puts_110 rfl ?_
            refine zt_lload dX11_puts_111 rfl ?_
            refine zt_lastore dX11_puts_113 (zs_73 hS) (by decide) (by omega) (by omega) (by omega) ?_
            exact zt_vret dX11_puts_114 ⟨rfl, rfl, rfl, by rw [fr_p (by omega)]; exact mPut_2⟩
          · exact zt_vret dX11_puts_97 ⟨rfl, rfl, rfl, by rw [fr_n (by omega)]; rfl⟩
    · refine zt_lload_n dX11_puts_37 rfl ?_
      refine zt_lneg dX11_puts_38 ?_
      refine zt_lload dX11_puts_39 rfl ?_
      refine zt_ldiv dX11_puts_41 (by omega) (by omega) (by omega) ?_
      refine zt_goto (tgt := 49) dX11_puts_42 (by decide) ?_
      refine zt_topv (v := frA x y) (by unfold frA; first | rw [if_pos (by omega)] | rw [if_neg (by omega)]) ?_
      refine zt_lstore_8 dX11_puts_49 (by decide) rfl ?_
      refine zt_lload dX11_puts_51 rfl ?_
      refine zt_lconst (v := 0) dX11_puts_53 rfl ?_
      refine zt_lc_ge (tgt := 67) dX11_puts_54 dX11_puts_55 (by decide) (by omega) (by decide) (fun c_54 => ?_) (fun c_54 => ?_)
      · refine zt_lload dX11_puts_67 rfl ?_
        refine zt_lload dX11_puts_69 rfl ?_
        refine zt_ldiv dX11_puts_71 (by omega) (by omega) (by omega) ?_
        refine zt_topv (v := frB x y) (by first | (exfalso; omega) | (unfold frB zabs; first | rw [if_pos (by omega)] | rw [if_neg (by omega)])) ?_
        refine zt_lstore_10 dX11_puts_72 (by decide) rfl ?_
        refine zt_lload dX11_puts_74 rfl ?_
        refine zt_ldc2 dX11_puts_76 kc_X11_246 ?_
        refine zt_ldc2 dX11_puts_79 kc_X11_248 ?_
        refine zt_callS3r dX11_puts_82 ml_X11_143 (Nat.le_of_ble_eq_true rfl) (c_min_ (x := frA x y) (by omega) (by decide) (by decide)) ?_
        refine zt_ifb_eq (tgt := 97) dX11_puts_85 (by decide) (fun c_85 => ?_) (fun c_85 => ?_)
        · exact zt_vret dX11_puts_97 ⟨rfl, rfl, rfl, by rw [fr_n (by omega)]; rfl⟩
        · refine zt_lload dX11_puts_88 rfl ?_
          refine zt_ldc2 dX11_puts_90 kc_X11_248 ?_
          refine zt_lc_le (tgt := 98) dX11_puts_93 dX11_puts_94 (by decide) (by omega) (by decide) (fun c_93 => ?_) (fun c_93 => ?_)
          · refine zt_aload_n dX11_puts_98 rfl ?_
            refine zt_getv dX11_puts_99 fl_X11_115 (zs_38 hS) (rf_38_52 ((hR.upA (by decide)).upA (by decide))) ?_
            refine zt_iload_n dX11_puts_102 rfl ?_
            refine zt_lload dX11_puts_103 rfl ?_
            refine zt_lastore dX11_puts_105 (zs_72 hS) (by decide) (by omega) (by omega) (by omega) ?_
            refine zt_aload_n dX11_puts_106 rfl ?_
            refine zt_getv dX11_puts_107 fl_X11_119 (zs_38 hS) (rf_38_53 (((hR.upA (by decide)).upA (by decide)).upA (by decide))) ?_
            refine zt_iload_n dX11_puts_110 rfl ?_
            refine zt_lload dX11_puts_111 rfl ?_
            refine zt_lastore dX11_puts_113 (zs_73 hS) (by decide) (by omega) (by omega) (by omega) ?_
            exact zt_vret dX11_puts_114 ⟨rfl, rfl, rfl, by rw [fr_p (by omega)]; exact mPut_2⟩
          · exact zt_vret dX11_puts_97 ⟨rfl, rfl, rfl, by rw [fr_n (by omega)]; rfl⟩
      · refine zt_lload dX11_puts_58 rfl ?_
        refine zt_lneg dX11_puts_60 ?_
        refine zt_lload dX11_puts_61 rfl ?_
        refine zt_ldiv dX11_puts_63 (by omega) (by omega) (by omega) ?_
        refine zt_goto (tgt := 72) dX11_puts_64 (by decide) ?_
        refine zt_topv (v := frB x y) (by first | (exfalso; omega) | (unfold frB zabs; first | rw [if_pos (by omega)] | rw [if_neg (by omega)])) ?_
        refine zt_lstore_10 dX11_puts_72 (by decide) rfl ?_
        refine zt_lload dX11_puts_74 rfl ?_
        refine zt_ldc2 dX11_puts_76 kc_X11_246 ?_
        refine zt_ldc2 dX11_puts_79 kc_X11_248 ?_
        refine zt_callS3r dX11_puts_82 ml_X11_143 (Nat.le_of_ble_eq_true rfl) (c_min_ (x := frA x y) (by omega) (by decide) (by decide)) ?_
        refine zt_ifb_eq (tgt := 97) dX11_puts_85 (by decide) (fun c_85 => ?_) (fun c_85 => ?_)
        · exact zt_vret dX11_puts_97 ⟨rfl, rfl, rfl, by rw [fr_n (by omega)]; rfl⟩
        · refine zt_lload dX11_puts_88 rfl ?_
          refine zt_ldc2 dX11_puts_90 kc_X11_248 ?_
          refine zt_lc_le (tgt := 98) dX11_puts_93 dX11_puts_94 (by decide) (by omega) (by decide) (fun c_93 => ?_) (fun c_93 => ?_)
          · refine zt_aload_n dX11_puts_98 rfl ?_
            refine zt_getv dX11_puts_99 fl_X11_115 (zs_38 hS) (rf_38_52 ((hR.upA (by decide)).upA (by decide))) ?_
            refine zt_iload_n dX11_puts_102 rfl ?_
            refine zt_lload dX11_puts_103 rfl ?_
            refine zt_lastore dX11_puts_105 (zs_72 hS) (by decide) (by omega) (by omega) (by omega) ?_
            refine zt_aload_n dX11_puts_106 rfl ?_
            refine zt_getv dX11_puts_107 fl_X11_119 (zs_38 hS) (rf_38_53 (((hR.upA (by decide)).upA (by decide)).upA (by decide))) ?_
            refine zt_iload_n dX11_puts_110 rfl ?_
            refine zt_lload dX11_puts_111 rfl ?_
            refine zt_lastore dX11_puts_113 (zs_73 hS) (by decide) (by omega) (by omega) (by omega) ?_
            exact zt_vret dX11_puts_114 ⟨rfl, rfl, rfl, by rw [fr_p (by omega)]; exact mPut_2⟩
          · exact zt_vret dX11_puts_97 ⟨rfl, rfl, rfl, by rw [fr_n (by omega)]; rfl⟩
  · exact zt_vret dX11_puts_21 ⟨rfl, rfl, rfl, by rw [fr_n (fun q => q.1 c_17)]; rfl⟩

def pw2 : Nat → Int
  | 0 => 0
  | k + 1 => 2 ^ k
theorem pw2_h : ∀ k, Int.tdiv (pw2 (k + 1)) 2 = pw2 k
  | 0 => by decide
  | k + 1 => by show Int.tdiv (2 ^ (k + 1)) 2 = 2 ^ k; rw [Int.pow_succ, Int.mul_tdiv_cancel _ (by decide)]
theorem pw2_p (k : Nat) : 1 ≤ pw2 (k + 1) := by show (1 : Int) ≤ 2 ^ k; have := Int.pow_pos (n := 2) (m := k) (by decide); omega
theorem pw2_le : ∀ k, k < 24 → pw2 k ≤ 4194304 := by decide
theorem pw2_i (k : Nat) : pw2 (k + 1) = if k = 0 then 1 else 2 * pw2 k := by
  cases k with
  | zero => rfl
  | succ k => rw [if_neg (by omega)]; show (2 : Int) ^ (k + 1) = 2 * 2 ^ k; rw [Int.pow_succ]; omega
theorem pw2_d (k : Nat) : 2 * pw2 k ≤ pw2 (k + 1) := by
  cases k with
  | zero => decide
  | succ k => show 2 * (2 : Int) ^ k ≤ 2 ^ (k + 1); rw [Int.pow_succ]; omega
theorem pw2_2 (k : Nat) : (k = 0 ∧ pw2 (k + 1) = 1) ∨ pw2 (k + 1) = 2 * pw2 k := by
  cases k with
  | zero => left; exact ⟨rfl, rfl⟩
  | succ k => right; show (2 : Int) ^ (k + 1) = 2 * 2 ^ k; rw [Int.pow_succ]; omega

set_option maxRecDepth 100000 in
set_option maxHeartbeats 4000000 in
theorem l_mrt {d n : Nat} {sh : zSh} {h : zMem} {v : Int} (hv : 0 ≤ v ∧ v ≤ 10000000000000) : ∀ (k : Nat) (u : Int), k < 24 → (0 ≤ u ∧ u + 2 * pw2 k ≤ 8388608) → u * u ≤ v → v < (u + (if k = 0 then 1 else 2 * pw2 k)) * (u + (if k = 0 then 1 else 2 * pw2 k)) → zT yX11_rootOf cX11_rootOf 6 (some .long) (d + 0) 0 0 (zq (some (1, isq v)) n sh h) 7 [some (1, v), none, some (1, u), none, some (1, pw2 k), none] [] n sh h := by
  intro k
  induction k with
  | zero =>
    intro u hk hu hlo hhi
    rw [if_pos rfl] at hhi
    refine zt_forget (ls2 := [some (1, v), none, some (1, u), none, some (1, 0), none]) (fun j v0 hj => hj) ?_
    refine zt_lload dX11_rootOf_7 rfl ?_
    refine zt_lconst (v := 0) dX11_rootOf_9 rfl ?_
    refine zt_lc_le (tgt := 44) dX11_rootOf_10 dX11_rootOf_11 (by decide) (by decide) (by decide) (fun c_10 => ?_) (fun c_10 => ?_)
    · refine zt_lload_n dX11_rootOf_44 rfl ?_
      exact zt_lret dX11_rootOf_45 ⟨by rw [isq_eq hu.1 hlo hhi], rfl, rfl, rfl⟩
    · exfalso
      omega
  | succ k ih =>
    intro u hk hu hlo hhi
    have hpd := pw2_d k
    have hpp := pw2_p k
    have hpl := pw2_le (k + 1) (by omega)
    have hmm := zmb (A := 8400000) (B := 8400000) (x := u + pw2 (k + 1)) (y := u + pw2 (k + 1)) (by omega) (by omega)
    refine zt_lload dX11_rootOf_7 rfl ?_
    refine zt_lconst (v := 0) dX11_rootOf_9 rfl ?_
    refine zt_lc_le (tgt := 44) dX11_rootOf_10 dX11_rootOf_11 (by decide) (by omega) (by decide) (fun c_10 => ?_) (fun c_10 => ?_)
    · exfalso
      omega
    · refine zt_lload_n dX11_rootOf_14 rfl ?_
      refine zt_lload dX11_rootOf_15 rfl ?_
      refine zt_ladd dX11_rootOf_17 ?_
      refine zt_lload_n dX11_rootOf_18 rfl ?_
      refine zt_lload dX11_rootOf_19 rfl ?_
      refine zt_ladd dX11_rootOf_21 ?_
      refine zt_lmul dX11_rootOf_22 ?_
      refine zt_lload_n dX11_rootOf_23 rfl ?_
      refine zt_lc_gt (tgt := 33) dX11_rootOf_24 dX11_rootOf_25 (by decide) (by omega) (by omega) (fun c_24 => ?_) (fun c_24 => ?_)
      · refine zt_lload dX11_rootOf_33 rfl ?_
        refine zt_ldc2 dX11_rootOf_35 kc_X11_252 ?_
        refine zt_ldiv dX11_rootOf_38 (by omega) (by decide) (by decide) ?_
        refine zt_lstore_4 dX11_rootOf_39 (by decide) rfl ?_
        refine zt_goto (tgt := 7) dX11_rootOf_41 (by decide) ?_
        rw [pw2_h]
        exact ih u (by omega) (by omega) hlo (by rw [← pw2_i]; exact c_24)
      · refine zt_lload_n dX11_rootOf_28 rfl ?_
        refine zt_lload dX11_rootOf_29 rfl ?_
        refine zt_ladd dX11_rootOf_31 ?_
        refine zt_lstore_n_2 dX11_rootOf_32 (by decide) rfl ?_
        refine zt_lload dX11_rootOf_33 rfl ?_
        refine zt_ldc2 dX11_rootOf_35 kc_X11_252 ?_
        refine zt_ldiv dX11_rootOf_38 (by omega) (by decide) (by decide) ?_
        refine zt_lstore_4 dX11_rootOf_39 (by decide) rfl ?_
        refine zt_goto (tgt := 7) dX11_rootOf_41 (by decide) ?_
        rw [pw2_h]
        rw [if_neg (by omega)] at hhi
        exact ih (u + pw2 (k + 1)) (by omega) (by omega) c_24 (by rw [← pw2_i, show u + pw2 (k + 1) + pw2 (k + 1) = u + 2 * pw2 (k + 1) by omega]; exact hhi)

set_option maxRecDepth 100000 in
set_option maxHeartbeats 4000000 in
theorem c_mrt {d n : Nat} {sh : zSh} {h : zMem} {v : Int} (hv : 0 ≤ v ∧ v ≤ 10000000000000) : zF yX11_rootOf cX11_rootOf 6 (some .long) (d + 0) 0 0 [(1, v)] n sh h (some (1, isq v)) n sh h := by
  refine zF.ofT (by decide +kernel) [some (1, v), none, none, none, none, none] rfl (Nat.le_of_ble_eq_true rfl) ?_
  refine zt_lconst (v := 0) dX11_rootOf_0 rfl ?_
  refine zt_lstore_n_2 dX11_rootOf_1 (by decide) rfl ?_
  refine zt_ldc2 dX11_rootOf_2 kc_X11_250 ?_
  refine zt_lstore_4 dX11_rootOf_5 (by decide) rfl ?_
  exact l_mrt hv 23 0 (by decide) (by decide) (by omega) (by rw [if_neg (by decide)]; show v < (0 + 2 * 2 ^ 22) * (0 + 2 * 2 ^ 22); omega)
