theorem ztm10 {x : Int} (hx : 0 ≤ x) : Int.tmod x 10 = x % 10 := Int.tmod_eq_emod_of_nonneg hx
theorem ztd100 {x : Int} (hx : 0 ≤ x) : Int.tdiv x 100 = x / 100 := Int.tdiv_eq_ediv_of_nonneg hx
theorem ztdm10 {x : Int} (hx : 0 ≤ x) : Int.tmod (Int.tdiv x 10) 10 = x / 10 % 10 := by rw [Int.tdiv_eq_ediv_of_nonneg hx, Int.tmod_eq_emod_of_nonneg (by omega)]
theorem ztm_i32 {x : Int} (hx : zi32 x) : zi32 (Int.tmod x 10) ∧ zi32 (Int.tdiv x 10) ∧ zi32 (Int.tmod (Int.tdiv x 10) 10) := by
  have a1 : ∀ y : Int, zi32 y → zi32 (Int.tmod y 10) ∧ zi32 (Int.tdiv y 10) := fun y hy => by
    have h1 := Int.mul_tdiv_add_tmod y 10
    rcases (show 0 ≤ y ∨ y < 0 by omega) with h | h
    · have := ztm_p (x := y) (y := 10) (by decide) h; omega
    · have := ztm_n (x := y) (y := 10) (by decide) h; omega
  exact ⟨(a1 x hx).1, (a1 x hx).2, (a1 _ (a1 x hx).2).1⟩
/-- HABITS are in order -/
def hbOK (h : zMem) : Prop := (0 ≤ h 10 0 ∧ h 10 0 ≤ 8) ∧ (0 ≤ h 10 1 ∧ h 10 1 ≤ 24) ∧ ∀ i, 0 ≤ i → i < h 10 1 → (∃ p, 0 ≤ p ∧ p ≤ 8 ∧ h 14 i = zten p) ∧ (0 ≤ h 15 i ∧ h 15 i ≤ 9) ∧ (0 ≤ h 16 i ∧ h 16 i ≤ 9)
/-- a habit at work on a number -/
def zhs (A : Prop) [Decidable A] (u g b s : Int) : Int := if A ∧ s / u % 10 = g then s + (b - g) * u else s
theorem zhs_r {A : Prop} [Decidable A] {u g b s p : Int} (hp : 0 ≤ p ∧ p ≤ 8) (hu : u = zten p) (hg : 0 ≤ g ∧ g ≤ 9) (hb : 0 ≤ b ∧ b ≤ 9) (hs : 0 ≤ s ∧ s ≤ 999999999) : 0 ≤ zhs A u g b s ∧ zhs A u g b s ≤ 999999999 := by
  unfold zhs
  split
  · rename_i h
    have h2 := h.2
    subst hu
    rcases (show p = 0 ∨ p = 1 ∨ p = 2 ∨ p = 3 ∨ p = 4 ∨ p = 5 ∨ p = 6 ∨ p = 7 ∨ p = 8 by omega) with rfl | rfl | rfl | rfl | rfl | rfl | rfl | rfl | rfl <;> simp only [zten, ztenN, Int.toNat] at h2 ⊢ <;> omega
  · exact hs
/-- i, i + 1, .. below N: each changes what is so far -/
def zfold {β : Type} (f : Int → β → β) : Nat → Int → β → β
  | 0, _, s => s
  | k + 1, i, s => zfold f k (i + 1) (f i s)
def zFor {β : Type} (f : Int → β → β) (i N : Int) (s : β) : β := zfold f (N - i).toNat i s
theorem zFor_e {β : Type} {f : Int → β → β} {i N : Int} {s : β} (h : N ≤ i) : zFor f i N s = s := by
  unfold zFor; rw [show (N - i).toNat = 0 by omega]; rfl
theorem zFor_s {β : Type} {f : Int → β → β} {i N : Int} {s : β} (h : i < N) : zFor f i N s = zFor f (i + 1) N (f i s) := by
  unfold zFor; rw [show (N - i).toNat = (N - (i + 1)).toNat + 1 by omega]; rfl
def hHs (h : zMem) (a w i s : Int) : Int := zhs (h 12 i = a ∧ h 13 i = w) (h 14 i) (h 15 i) (h 16 i) s
/-- what a HAND writes by a WAY for TRUE x -/
def hWr (h : zMem) (a w x : Int) : Int := if x = -2147483648 then -2147483648 else if x < 0 then -(zFor (hHs h a w) 0 (h 10 1) (zabs x)) else zFor (hHs h a w) 0 (h 10 1) (zabs x)
theorem hHs_r {h : zMem} {a w i s : Int} (hb : hbOK h) (h0 : 0 ≤ i) (h1 : i < h 10 1) (hs : 0 ≤ s ∧ s ≤ 999999999) : 0 ≤ hHs h a w i s ∧ hHs h a w i s ≤ 999999999 := by
  obtain ⟨⟨p, a1, a2, a3⟩, a4, a5⟩ := hb.2.2 i h0 h1
  exact zhs_r ⟨a1, a2⟩ a3 a4 a5 hs
theorem zFor_r {h : zMem} {a w : Int} (hb : hbOK h) : ∀ (k : Nat) (i s : Int), h 10 1 - i ≤ k → 0 ≤ i → (0 ≤ s ∧ s ≤ 999999999) → 0 ≤ zFor (hHs h a w) i (h 10 1) s ∧ zFor (hHs h a w) i (h 10 1) s ≤ 999999999 := by
  intro k
  induction k with
  | zero => intro i s hk h0 hs; rw [zFor_e (by omega)]; exact hs
  | succ k ih =>
    intro i s hk h0 hs
    by_cases hi : i < h 10 1
    · rw [zFor_s hi]; exact ih (i + 1) _ (by omega) (by omega) (hHs_r hb h0 hi hs)
    · rw [zFor_e (by omega)]; exact hs
theorem hWr_r {h : zMem} {a w x : Int} (hb : hbOK h) (hx : x = -2147483648 ∨ (-999999999 ≤ x ∧ x ≤ 999999999)) : (hWr h a w x = -2147483648 ∧ x = -2147483648) ∨ (-999999999 ≤ hWr h a w x ∧ hWr h a w x ≤ 999999999 ∧ x ≠ -2147483648) := by
  unfold hWr
  by_cases h1 : x = -2147483648
  · rw [if_pos h1]; left; exact ⟨rfl, h1⟩
  · rw [if_neg h1]
    have h2 := zabs_le (B := 999999999) (n := x) (by omega)
    have h3 := zFor_r (a := a) (w := w) hb 24 0 (zabs x) (by have := hb.2.1; omega) (by omega) h2
    right
    split <;> omega

set_option maxRecDepth 100000 in
set_option maxHeartbeats 4000000 in
theorem c_hhas {d n : Nat} {sh : zSh} {h : zMem} {a w : Int} (hS : zShp sh) (hR : zRf h) (ha : zi32 a) (hw : zi32 w) : zF yX3_has cX3_has 3 (some .boolean) (d + 0) 0 0 [(2, 10), (0, a), (0, w)] n sh h (some (0, zb ((0 ≤ a ∧ a < h 10 0) ∧ 0 ≤ w ∧ w < 3))) n sh h := by
  refine zF.ofT (by decide +kernel) [some (2, 10), some (0, a), some (0, w)] rfl (Nat.le_of_ble_eq_true rfl) ?_
  refine zt_rg (fun hm => ?_)
  refine zt_iload_n dX3_has_0 rfl ?_
  refine zt_if_lt (tgt := 25) dX3_has_1 (by decide) (by omega) (fun c_1 => ?_) (fun c_1 => ?_)
  · refine zt_iconst dX3_has_25 ?_
    exact zt_zret dX3_has_26 (by decide) ⟨zb0 (by omega), rfl, rfl, rfl⟩
  · refine zt_iload_n dX3_has_4 rfl ?_
    refine zt_aload_n dX3_has_5 rfl ?_
    refine zt_get dX3_has_6 fl_X3_33 (zs_10 hS) ?_
    refine zt_icmp_ge (tgt := 25) dX3_has_9 (by decide) (by omega) (hm.fld (j := 0) (zs_10 hS) (by decide) (by decide) (by decide)) (fun c_9 => ?_) (fun c_9 => ?_)
    · refine zt_iconst dX3_has_25 ?_
      exact zt_zret dX3_has_26 (by decide) ⟨zb0 (by omega), rfl, rfl, rfl⟩
    · refine zt_iload_n dX3_has_12 rfl ?_
      refine zt_if_lt (tgt := 25) dX3_has_13 (by decide) (by omega) (fun c_13 => ?_) (fun c_13 => ?_)
      · refine zt_iconst dX3_has_25 ?_
        exact zt_zret dX3_has_26 (by decide) ⟨zb0 (by omega), rfl, rfl, rfl⟩
      · refine zt_iload_n dX3_has_16 rfl ?_
        refine zt_iconst dX3_has_17 ?_
        refine zt_icmp_ge (tgt := 25) dX3_has_18 (by decide) (by omega) (by decide) (fun c_18 => ?_) (fun c_18 => ?_)
        · refine zt_iconst dX3_has_25 ?_
          exact zt_zret dX3_has_26 (by decide) ⟨zb0 (by omega), rfl, rfl, rfl⟩
        · refine zt_iconst dX3_has_21 ?_
          refine zt_goto (tgt := 26) dX3_has_22 (by decide) ?_
          exact zt_zret dX3_has_26 (by decide) ⟨zb1 (by omega), rfl, rfl, rfl⟩

def hTell (h : zMem) (a w x : Int) : zMem := (zup (zup (zup (zup (zup (zup h 12 (h 10 1) a) 13 (h 10 1) w) 14 (h 10 1) (zten (x / 100))) 15 (h 10 1) (x / 10 % 10)) 16 (h 10 1) (x % 10)) 10 1 (h 10 1 + 1))
abbrev hTok (h : zMem) (x : Int) : Prop := h 10 1 < 24 ∧ 0 ≤ x ∧ x < 900 ∧ x / 10 % 10 ≠ x % 10

set_option maxRecDepth 100000 in
set_option maxHeartbeats 4000000 in
theorem c_htell {d n : Nat} {sh : zSh} {h : zMem} {a w x : Int} (hS : zShp sh) (hR : zRf h) (ha : zi32 a) (hw : zi32 w) (hx : zi32 x) (hb : hbOK h) : zF yX3_tellHabit cX3_tellHabit 6 (some .boolean) (d + 1) 0 0 [(2, 10), (0, a), (0, w), (0, x)] n sh h (some (0, zb (hTok h x))) n sh (if hTok h x then hTell h a w x else h) := by
  refine zF.ofT (by decide +kernel) [some (2, 10), some (0, a), some (0, w), some (0, x), none, none] rfl (Nat.le_of_ble_eq_true rfl) ?_
  have hi := ztm_i32 hx
  have hb1 := hb.2.1
  refine zt_rg (fun hm => ?_)
  refine zt_iload_n dX3_tellHabit_0 rfl ?_
  refine zt_bipush dX3_tellHabit_1 (by decide) ?_
  refine zt_idiv dX3_tellHabit_3 hx (by decide) (by decide) ?_
  refine zt_bipush dX3_tellHabit_4 (by decide) ?_
  refine zt_irem dX3_tellHabit_6 hi.2.1 (by decide) (by decide) ?_
  refine zt_istore_4 dX3_tellHabit_7 (by decide) rfl ?_
  refine zt_iload_n dX3_tellHabit_9 rfl ?_
  refine zt_bipush dX3_tellHabit_10 (by decide) ?_
  refine zt_irem dX3_tellHabit_12 hx (by decide) (by decide) ?_
  refine zt_istore_5 dX3_tellHabit_13 (by decide) rfl ?_
  refine zt_aload_n dX3_tellHabit_15 rfl ?_
  refine zt_get dX3_tellHabit_16 fl_X3_37 (zs_10 hS) ?_
  refine zt_bipush dX3_tellHabit_19 (by decide) ?_
  refine zt_icmp_ge (tgt := 42) dX3_tellHabit_21 (by decide) (hm.fld (j := 1) (zs_10 hS) (by decide) (by decide) (by decide)) (by decide) (fun c_21 => ?_) (fun c_21 => ?_)
  · refine zt_iconst dX3_tellHabit_42 ?_
    exact zt_zret dX3_tellHabit_43 (by decide) ⟨zb0 (by omega), rfl, rfl, by rw [if_neg (by omega)]⟩
  · refine zt_iload_n dX3_tellHabit_24 rfl ?_
    refine zt_if_lt (tgt := 42) dX3_tellHabit_25 (by decide) hx (fun c_25 => ?_) (fun c_25 => ?_)
    · refine zt_iconst dX3_tellHabit_42 ?_
      exact zt_zret dX3_tellHabit_43 (by decide) ⟨zb0 (by omega), rfl, rfl, by rw [if_neg (by omega)]⟩
    · have e1 := ztdm10 c_25
      have e2 := ztm10 c_25
      have e3 := ztd100 c_25
      refine zt_iload_n dX3_tellHabit_28 rfl ?_
      refine zt_sipush dX3_tellHabit_29 (by decide) ?_
      refine zt_icmp_ge (tgt := 42) dX3_tellHabit_32 (by decide) hx (by decide) (fun c_32 => ?_) (fun c_32 => ?_)
      · refine zt_iconst dX3_tellHabit_42 ?_
        exact zt_zret dX3_tellHabit_43 (by decide) ⟨zb0 (by omega), rfl, rfl, by rw [if_neg (by omega)]⟩
      · refine zt_iload dX3_tellHabit_35 rfl ?_
        refine zt_iload dX3_tellHabit_37 rfl ?_
        refine zt_icmp_ne (tgt := 44) dX3_tellHabit_39 (by decide) hi.2.2 hi.1 (fun c_39 => ?_) (fun c_39 => ?_)
        · refine zt_aload_n dX3_tellHabit_44 rfl ?_
          refine zt_getv dX3_tellHabit_45 fl_X3_15 (zs_10 hS) (rf_10_3 hR) ?_
          refine zt_aload_n dX3_tellHabit_48 rfl ?_
          refine zt_get dX3_tellHabit_49 fl_X3_37 (zs_10 hS) ?_
          refine zt_iload_n dX3_tellHabit_52 rfl ?_
          refine zt_iastore dX3_tellHabit_53 (zs_12 hS) (by decide) (by omega) (by omega) (by omega) ?_
          refine zt_aload_n dX3_tellHabit_54 rfl ?_
          refine zt_getv dX3_tellHabit_55 fl_X3_18 (zs_10 hS) (rf_10_4 (hR.upA (by decide))) ?_
          refine zt_aload_n dX3_tellHabit_58 rfl ?_
          refine zt_getv (v := h 10 1) dX3_tellHabit_59 fl_X3_37 (zs_10 hS) ((zupA (by decide)).trans rfl) ?_
          refine zt_iload_n dX3_tellHabit_62 rfl ?_
          refine zt_iastore dX3_tellHabit_63 (zs_13 hS) (by decide) (by omega) (by omega) (by omega) ?_
          refine zt_aload_n dX3_tellHabit_64 rfl ?_
          refine zt_getv dX3_tellHabit_65 fl_X3_21 (zs_10 hS) (rf_10_5 ((hR.upA (by decide)).upA (by decide))) ?_
          refine zt_aload_n dX3_tellHabit_68 rfl ?_
          refine zt_getv (v := h 10 1) dX3_tellHabit_69 fl_X3_37 (zs_10 hS) ((zupA (by decide)).trans ((zupA (by decide)).trans rfl)) ?_
          refine zt_iload_n dX3_tellHabit_72 rfl ?_
          refine zt_bipush dX3_tellHabit_73 (by decide) ?_
          refine zt_idiv dX3_tellHabit_75 hx (by decide) (by decide) ?_
          refine zt_topv e3 ?_
          refine zt_callSN1r dX3_tellHabit_76 ml_X3_40 (Nat.le_of_ble_eq_true rfl) (c_tenTo (by omega)) ?_
          have q1 := zten_pos (x / 100)
          have q2 := zten_le8 (p := x / 100) (by omega)
          refine zt_iastore dX3_tellHabit_79 (zs_14 hS) (by decide) (by omega) (by omega) (by omega) ?_
          refine zt_aload_n dX3_tellHabit_80 rfl ?_
          refine zt_getv dX3_tellHabit_81 fl_X3_24 (zs_10 hS) (rf_10_6 (((hR.upA (by decide)).upA (by decide)).upA (by decide))) ?_
          refine zt_aload_n dX3_tellHabit_84 rfl ?_
          refine zt_getv (v := h 10 1) dX3_tellHabit_85 fl_X3_37 (zs_10 hS) ((zupA (by decide)).trans ((zupA (by decide)).trans ((zupA (by decide)).trans rfl))) ?_
          refine zt_iload dX3_tellHabit_88 rfl ?_
          refine zt_topv e1 ?_
          refine zt_iastore dX3_tellHabit_90 (zs_15 hS) (by decide) (by omega) (by omega) (by omega) ?_
          refine zt_aload_n dX3_tellHabit_91 rfl ?_
          refine zt_getv dX3_tellHabit_92 fl_X3_27 (zs_10 hS) (rf_10_7 ((((hR.upA (by decide)).upA (by decide)).upA (by decide)).upA (by decide))) ?_
          refine zt_aload_n dX3_tellHabit_95 rfl ?_
          refine zt_getv (v := h 10 1) dX3_tellHabit_96 fl_X3_37 (zs_10 hS) ((zupA (by decide)).trans ((zupA (by decide)).trans ((zupA (by decide)).trans ((zupA (by decide)).trans rfl)))) ?_
          refine zt_iload dX3_tellHabit_99 rfl ?_
          refine zt_topv e2 ?_
          refine zt_iastore dX3_tellHabit_101 (zs_16 hS) (by decide) (by omega) (by omega) (by omega) ?_
          refine zt_aload_n dX3_tellHabit_102 rfl ?_
          refine zt_dup dX3_tellHabit_103 (Nat.ne_of_beq_eq_false rfl) ?_
          refine zt_getv (v := h 10 1) dX3_tellHabit_104 fl_X3_37 (zs_10 hS) ((zupA (by decide)).trans ((zupA (by decide)).trans ((zupA (by decide)).trans ((zupA (by decide)).trans ((zupA (by decide)).trans rfl))))) ?_
          refine zt_iconst dX3_tellHabit_107 ?_
          refine zt_iadd dX3_tellHabit_108 ?_
          refine zt_puti dX3_tellHabit_109 fl_X3_37 rfl (zs_10 hS) (by omega) ?_
          refine zt_iconst dX3_tellHabit_112 ?_
          exact zt_zret dX3_tellHabit_113 (by decide) ⟨zb1 (by omega), rfl, rfl, by rw [if_pos (by omega)]; rfl⟩
        · refine zt_iconst dX3_tellHabit_42 ?_
          exact zt_zret dX3_tellHabit_43 (by decide) ⟨zb0 (by omega), rfl, rfl, by rw [if_neg (by omega)]⟩

set_option maxRecDepth 100000 in
set_option maxHeartbeats 4000000 in
theorem l_hwr {d n : Nat} {sh : zSh} {h : zMem} {a w x : Int} (hS : zShp sh) (hR : zRf h) (hm : zMok sh h) (hb : hbOK h) (ha : zi32 a) (hw : zi32 w) (hx : zi32 x) (hx0 : ¬ x = -2147483648) (hb1 : 0 ≤ h 10 1 ∧ h 10 1 ≤ 24) : ∀ (k : Nat) (i : Int) (s : Int), h 10 1 - i < (k : Int) → 0 ≤ i → i ≤ h 10 1 → 0 ≤ s ∧ s ≤ 999999999 → zFor (hHs h a w) 0 (h 10 1) (zabs x) = zFor (hHs h a w) i (h 10 1) s → zT yX3_writes cX3_writes 6 (some .int) (d + 1) 0 0 (zq (some (0, hWr h a w x)) n sh h) 18 [some (2, 10), some (0, a), some (0, w), some (0, x), some (0, s), some (0, i)] [] n sh h := by
  intro k
  induction k with
  | zero => intros; exfalso; omega
  | succ k ih =>
    intro i s hk h0 h1 hs hr
    refine zt_iload dX3_writes_18 rfl ?_
    refine zt_aload_n dX3_writes_20 rfl ?_
    refine zt_get dX3_writes_21 fl_X3_37 (zs_10 hS) ?_
    refine zt_icmp_ge (tgt := 123) dX3_writes_24 (by decide) (by omega) (hm.fld (j := 1) (zs_10 hS) (by decide) (by decide) (by decide)) (fun c_24 => ?_) (fun c_24 => ?_)
    · refine zt_iload_n dX3_writes_123 rfl ?_
      refine zt_if_ge (tgt := 133) dX3_writes_124 (by decide) (by omega) (fun c_124 => ?_) (fun c_124 => ?_)
      · refine zt_iload dX3_writes_133 rfl ?_
        exact zt_iret dX3_writes_135 ⟨by unfold hWr; rw [if_neg hx0, if_neg (by omega), hr, zFor_e (by omega)], rfl, rfl, rfl⟩
      · refine zt_iload dX3_writes_127 rfl ?_
        refine zt_ineg dX3_writes_129 ?_
        refine zt_goto (tgt := 135) dX3_writes_130 (by decide) ?_
        exact zt_iret dX3_writes_135 ⟨by unfold hWr; rw [if_neg hx0, if_pos (by omega), hr, zFor_e (by omega)], rfl, rfl, rfl⟩
    · refine zt_iload dX3_writes_27 rfl ?_
      refine zt_bipush dX3_writes_29 (by decide) ?_
      refine zt_icmp_ge (tgt := 123) dX3_writes_31 (by decide) (by omega) (by decide) (fun c_31 => ?_) (fun c_31 => ?_)
      · refine zt_iload_n dX3_writes_123 rfl ?_
        refine zt_if_ge (tgt := 133) dX3_writes_124 (by decide) (by omega) (fun c_124 => ?_) (fun c_124 => ?_)
        · refine zt_iload dX3_writes_133 rfl ?_
          exact zt_iret dX3_writes_135 ⟨by unfold hWr; rw [if_neg hx0, if_neg (by omega), hr, zFor_e (by omega)], rfl, rfl, rfl⟩
        · refine zt_iload dX3_writes_127 rfl ?_
          refine zt_ineg dX3_writes_129 ?_
          refine zt_goto (tgt := 135) dX3_writes_130 (by decide) ?_
          exact zt_iret dX3_writes_135 ⟨by unfold hWr; rw [if_neg hx0, if_pos (by omega), hr, zFor_e (by omega)], rfl, rfl, rfl⟩
      · refine zt_aload_n dX3_writes_34 rfl ?_
        refine zt_getv dX3_writes_35 fl_X3_15 (zs_10 hS) (rf_10_3 hR) ?_
        refine zt_iload dX3_writes_38 rfl ?_
        refine zt_iaload dX3_writes_40 (zs_12 hS) (by decide) (by omega) (by omega) ?_
        refine zt_iload_n dX3_writes_41 rfl ?_
        refine zt_icmp_ne (tgt := 117) dX3_writes_42 (by decide) (hm.int (zs_12 hS) (by omega) (by omega)) (by omega) (fun c_42 => ?_) (fun c_42 => ?_)
        · refine zt_iinc_5 dX3_writes_117 (by decide) rfl ?_
          refine zt_goto (tgt := 18) dX3_writes_120 (by decide) ?_
          exact ih (i + 1) s (by omega) (by omega) (by omega) hs (by rw [hr, zFor_s (by omega)]; congr 1; unfold hHs zhs; rw [if_neg (by omega)])
        · refine zt_aload_n dX3_writes_45 rfl ?_
          refine zt_getv dX3_writes_46 fl_X3_18 (zs_10 hS) (rf_10_4 hR) ?_
          refine zt_iload dX3_writes_49 rfl ?_
          refine zt_iaload dX3_writes_51 (zs_13 hS) (by decide) (by omega) (by omega) ?_
          refine zt_iload_n dX3_writes_52 rfl ?_
          refine zt_icmp_ne (tgt := 117) dX3_writes_53 (by decide) (hm.int (zs_13 hS) (by omega) (by omega)) (by omega) (fun c_53 => ?_) (fun c_53 => ?_)
          · refine zt_iinc_5 dX3_writes_117 (by decide) rfl ?_
            refine zt_goto (tgt := 18) dX3_writes_120 (by decide) ?_
            exact ih (i + 1) s (by omega) (by omega) (by omega) hs (by rw [hr, zFor_s (by omega)]; congr 1; unfold hHs zhs; rw [if_neg (by omega)])
          · refine zt_aload_n dX3_writes_56 rfl ?_
            refine zt_getv dX3_writes_57 fl_X3_21 (zs_10 hS) (rf_10_5 hR) ?_
            refine zt_iload dX3_writes_60 rfl ?_
            refine zt_iaload dX3_writes_62 (zs_14 hS) (by decide) (by omega) (by omega) ?_
            refine zt_if_le (tgt := 117) dX3_writes_63 (by decide) (hm.int (zs_14 hS) (by omega) (by omega)) (fun c_63 => ?_) (fun c_63 => ?_)
            · exfalso; obtain ⟨⟨p, _, _, e⟩, _⟩ := hb.2.2 i h0 (by omega); have := zten_pos p; omega
            · refine zt_iload dX3_writes_66 rfl ?_
              refine zt_aload_n dX3_writes_68 rfl ?_
              refine zt_getv dX3_writes_69 fl_X3_21 (zs_10 hS) (rf_10_5 hR) ?_
              refine zt_iload dX3_writes_72 rfl ?_
              refine zt_iaload dX3_writes_74 (zs_14 hS) (by decide) (by omega) (by omega) ?_
              refine zt_idiv dX3_writes_75 (by omega) (hm.int (zs_14 hS) (by omega) (by omega)) (by omega) ?_
              have hp := (hb.2.2 i h0 (by omega)).1
              have hu : 0 < h 14 i := by obtain ⟨p, _, _, e⟩ := hp; rw [e]; exact zten_pos p
              have hq : 0 ≤ s / h 14 i ∧ s / h 14 i ≤ s := ⟨Int.ediv_nonneg (by omega) (by omega), Int.ediv_le_self _ (by omega)⟩
              refine zt_topv (ztm_p hu (by omega)).2 ?_
              refine zt_bipush dX3_writes_76 (by decide) ?_
              refine zt_irem dX3_writes_78 (by omega) (by decide) (by decide) ?_
              refine zt_topv (ztm_p (by decide) (Int.ediv_nonneg (by omega) (by omega))).1 ?_
              refine zt_aload_n dX3_writes_79 rfl ?_
              refine zt_getv dX3_writes_80 fl_X3_24 (zs_10 hS) (rf_10_6 hR) ?_
              refine zt_iload dX3_writes_83 rfl ?_
              refine zt_iaload dX3_writes_85 (zs_15 hS) (by decide) (by omega) (by omega) ?_
              refine zt_icmp_ne (tgt := 117) dX3_writes_86 (by decide) (by omega) (hm.int (zs_15 hS) (by omega) (by omega)) (fun c_86 => ?_) (fun c_86 => ?_)
              · refine zt_iinc_5 dX3_writes_117 (by decide) rfl ?_
                refine zt_goto (tgt := 18) dX3_writes_120 (by decide) ?_
                exact ih (i + 1) s (by omega) (by omega) (by omega) hs (by rw [hr, zFor_s (by omega)]; congr 1; unfold hHs zhs; rw [if_neg (by omega)])
              · refine zt_iload dX3_writes_89 rfl ?_
                refine zt_aload_n dX3_writes_91 rfl ?_
                refine zt_getv dX3_writes_92 fl_X3_27 (zs_10 hS) (rf_10_7 hR) ?_
                refine zt_iload dX3_writes_95 rfl ?_
                refine zt_iaload dX3_writes_97 (zs_16 hS) (by decide) (by omega) (by omega) ?_
                refine zt_aload_n dX3_writes_98 rfl ?_
                refine zt_getv dX3_writes_99 fl_X3_24 (zs_10 hS) (rf_10_6 hR) ?_
                refine zt_iload dX3_writes_102 rfl ?_
                refine zt_iaload dX3_writes_104 (zs_15 hS) (by decide) (by omega) (by omega) ?_
                refine zt_isub dX3_writes_105 ?_
                refine zt_aload_n dX3_writes_106 rfl ?_
                refine zt_getv dX3_writes_107 fl_X3_21 (zs_10 hS) (rf_10_5 hR) ?_
                refine zt_iload dX3_writes_110 rfl ?_
                refine zt_iaload dX3_writes_112 (zs_14 hS) (by decide) (by omega) (by omega) ?_
                refine zt_imul dX3_writes_113 ?_
                refine zt_iadd dX3_writes_114 ?_
                refine zt_istore_4 dX3_writes_115 (by decide) rfl ?_
                refine zt_iinc_5 dX3_writes_117 (by decide) rfl ?_
                refine zt_goto (tgt := 18) dX3_writes_120 (by decide) ?_
                have hn := hHs_r (a := a) (w := w) hb h0 (by omega) hs
                have he : hHs h a w i s = s + (h 16 i - h 15 i) * h 14 i := by unfold hHs zhs; rw [if_pos (by omega)]
                exact ih (i + 1) _ (by omega) (by omega) (by omega) (by rw [← he]; exact hn) (by rw [hr, zFor_s (by omega), he])

set_option maxRecDepth 100000 in
set_option maxHeartbeats 4000000 in
theorem c_hwr {d n : Nat} {sh : zSh} {h : zMem} {a w x : Int} (hS : zShp sh) (hR : zRf h) (ha : zi32 a) (hw : zi32 w) (hx : x = -2147483648 ∨ (-999999999 ≤ x ∧ x ≤ 999999999)) (hb : hbOK h) : zF yX3_writes cX3_writes 6 (some .int) (d + 1) 0 0 [(2, 10), (0, a), (0, w), (0, x)] n sh h (some (0, hWr h a w x)) n sh h := by
  refine zF.ofT (by decide +kernel) [some (2, 10), some (0, a), some (0, w), some (0, x), none, none] rfl (Nat.le_of_ble_eq_true rfl) ?_
  refine zt_rg (fun hm => ?_)
  refine zt_iload_n dX3_writes_0 rfl ?_
  refine zt_ldc dX3_writes_1 kc_X3_44 ?_
  refine zt_icmp_ne (tgt := 9) dX3_writes_3 (by decide) (by omega) (by decide) (fun c_3 => ?_) (fun c_3 => ?_)
  · refine zt_iload_n dX3_writes_9 rfl ?_
    refine zt_callS1r dX3_writes_10 ml_X3_45 (Nat.le_of_ble_eq_true rfl) (c_abs (by omega)) ?_
    refine zt_istore_4 dX3_writes_13 (by decide) rfl ?_
    refine zt_iconst dX3_writes_15 ?_
    refine zt_istore_5 dX3_writes_16 (by decide) rfl ?_
    exact l_hwr hS hR hm hb ha hw (by omega) c_3 hb.2.1 25 0 (zabs x) (by have := hb.2.1; omega) (by omega) (by have := hb.2.1; omega) (zabs_le (B := 999999999) (by omega)) rfl
  · refine zt_ldc dX3_writes_6 kc_X3_44 ?_
    exact zt_iret dX3_writes_8 ⟨by unfold hWr; rw [if_pos c_3], rfl, rfl, rfl⟩

set_option maxRecDepth 100000 in
set_option maxHeartbeats 4000000 in
theorem c_slot {d n : Nat} {sh : zSh} {h : zMem} {a w e : Int}  : zF yX3_slotOf cX3_slotOf 3 (some .int) (d + 0) 0 0 [(0, a), (0, w), (0, e)] n sh h (some (0, (a * 3 + w) * 30 + e)) n sh h := by
  refine zF.ofT (by decide +kernel) [some (0, a), some (0, w), some (0, e)] rfl (Nat.le_of_ble_eq_true rfl) ?_
  refine zt_iload_n dX3_slotOf_0 rfl ?_
  refine zt_iconst dX3_slotOf_1 ?_
  refine zt_imul dX3_slotOf_2 ?_
  refine zt_iload_n dX3_slotOf_3 rfl ?_
  refine zt_iadd dX3_slotOf_4 ?_
  refine zt_bipush dX3_slotOf_5 (by decide) ?_
  refine zt_imul dX3_slotOf_7 ?_
  refine zt_iload_n dX3_slotOf_8 rfl ?_
  refine zt_iadd dX3_slotOf_9 ?_
  exact zt_iret dX3_slotOf_10 ⟨rfl, rfl, rfl, rfl⟩
