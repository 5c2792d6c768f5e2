/-- copies one by one: the count, and how often all digits were worn -/
def zpr (hd : Int) : Nat → Int → Int → Int × Int
  | 0, s, w => (s, w)
  | k + 1, s, w => if s + 1 < hd then zpr hd k (s + 1) w else zpr hd k 0 (w + 1)
theorem zpr_small {hd : Int} : ∀ (k : Nat) (s w : Int), (k = 0 ∨ s + k < hd) → zpr hd k s w = (s + k, w)
  | 0, s, w, _ => by show (s, w) = _; simp
  | k + 1, s, w, h => by
    show (if s + 1 < hd then zpr hd k (s + 1) w else zpr hd k 0 (w + 1)) = _
    rw [if_pos (by omega), zpr_small k (s + 1) w (by omega)]
    congr 1; omega
theorem zpr_big {hd : Int} : ∀ (u : Nat) (k : Nat) (s w : Int), ((u : Int) + 1 = hd - s ∨ (u = 0 ∧ hd - s ≤ 1)) → zpr hd (k + (u + 1)) s w = zpr hd k 0 (w + 1)
  | 0, k, s, w, h => by
    show (if s + 1 < hd then _ else zpr hd k 0 (w + 1)) = _
    rw [if_neg (by omega)]
  | u + 1, k, s, w, h => by
    show (if s + 1 < hd then zpr hd (k + (u + 1)) (s + 1) w else _) = _
    rw [if_pos (by omega), zpr_big u k (s + 1) w (by omega)]
theorem zpr_r {hd : Int} (h0 : 1 ≤ hd) : ∀ (k : Nat) (s w : Int), 0 ≤ s → 0 ≤ w → 0 ≤ (zpr hd k s w).1 ∧ ((zpr hd k s w).1 ≤ s ∨ (zpr hd k s w).1 < hd) ∧ w ≤ (zpr hd k s w).2 ∧ (zpr hd k s w).2 ≤ w + k
  | 0, s, w, h1, h2 => by show 0 ≤ s ∧ (s ≤ s ∨ s < hd) ∧ w ≤ w ∧ w ≤ w + (0 : Nat); omega
  | k + 1, s, w, h1, h2 => by
    show 0 ≤ (if s + 1 < hd then zpr hd k (s + 1) w else zpr hd k 0 (w + 1)).1 ∧ _
    by_cases h3 : s + 1 < hd
    · have := zpr_r h0 k (s + 1) w (by omega) h2
      have e : zpr hd (k + 1) s w = zpr hd k (s + 1) w := if_pos h3
      rw [if_pos h3, e]; omega
    · have := zpr_r h0 k 0 (w + 1) (by omega) (by omega)
      have e : zpr hd (k + 1) s w = zpr hd k 0 (w + 1) := if_neg h3
      rw [if_neg h3, e]; omega
/-- a plate's memory: copies, the count, the digits' steps -/
def pM (h : zMem) (t c s w : Int) : zMem := fun x y => if x = t ∧ y = 12 then c else if x = t ∧ y = 13 then s else if x = t + 9 ∧ 0 ≤ y ∧ y < 30 then h x y + w else h x y
theorem pM_13 {h : zMem} {t c s w : Int} : pM h t c s w t 13 = s := by unfold pM; rw [if_neg (by omega), if_pos ⟨rfl, rfl⟩]
theorem pM_t {h : zMem} {t c s w j : Int} (hj : j < 12) : pM h t c s w t j = h t j := by unfold pM; rw [if_neg (by omega), if_neg (by omega), if_neg (by omega)]
theorem pM_9 {h : zMem} {t c s w j : Int} (hj : 0 ≤ j ∧ j < 30) : pM h t c s w (t + 9) j = h (t + 9) j + w := by unfold pM; rw [if_neg (by omega), if_neg (by omega), if_pos ⟨rfl, hj⟩]
theorem pM_up {h : zMem} {t c s w z : Int} : zup (pM h t c s w) t 13 z = pM h t c z w := zmem_ext (fun x y => by
  unfold zup pM
  by_cases h1 : x = t ∧ y = 13
  · rw [if_pos h1, if_neg (by omega), if_pos h1]
  · rw [if_neg h1, if_neg h1, if_neg h1])
theorem pM_wr {h : zMem} {t c s w : Int} : zwr (pM h t c s w) (t + 9) 30 = pM h t c s (w + 1) := zmem_ext (fun x y => by
  unfold zwr
  by_cases h1 : x = t + 9 ∧ 0 ≤ y ∧ y < 30
  · obtain ⟨rfl, h2⟩ := h1
    rw [if_pos ⟨rfl, h2⟩, pM_9 h2, pM_9 h2, Int.add_assoc]
  · rw [if_neg h1]; unfold pM; rw [if_neg h1, if_neg h1])
theorem pM_0 {h : zMem} {t c : Int} : zup h t 12 c = pM h t c (h t 13) 0 := zmem_ext (fun x y => by
  unfold zup pM
  by_cases h1 : x = t ∧ y = 12
  · rw [if_pos h1, if_pos h1]
  · rw [if_neg h1, if_neg h1]
    by_cases h2 : x = t ∧ y = 13
    · rw [if_pos h2, h2.1, h2.2]
    · rw [if_neg h2]; split <;> simp)
theorem zTab.pm {sh : zSh} {h : zMem} {t c s w : Int} (hT : zTab sh h t) : zTab sh (pM h t c s w) t := by
  refine ⟨hT.1, hT.2.1, by rw [pM_t (by omega)]; exact hT.2.2.1, fun j h1 h2 => ?_⟩
  rw [pM_t (by omega)]; exact hT.2.2.2 j h1 h2

set_option maxRecDepth 100000 in
set_option maxHeartbeats 4000000 in
theorem l_print {d n : Nat} {sh : zSh} {h : zMem} {t m g c sF wF : Int} (hT : zTab sh h t) (hmm : 1 ≤ m ∧ m ≤ 5000) (hg : 100 ≤ g ∧ g ≤ 5000) (hw : ∀ j : Int, 0 ≤ j → j < 30 → 0 ≤ h (t + 9) j ∧ h (t + 9) j ≤ 100000) : ∀ (k : Nat) (i : Int) (f : Int) (s : Int) (w : Int), m - i < (k : Int) → 0 ≤ i → 0 ≤ f ∧ f + i ≤ m → 0 ≤ s ∧ s ≤ 5000 → 0 ≤ w → w + f ≤ 5000 → (sF, wF) = zpr g f.toNat s w → zT yX8_printCopies cX8_printCopies 6 none (d + 1) 0 0 (zq none n sh (pM h t c sF wF)) 15 [some (2, t), some (0, m), some (0, g), some (0, f), some (0, i), none] [] n sh (pM h t c s w) := by
  intro k
  induction k with
  | zero => intros; exfalso; omega
  | succ k ih =>
    intro i f s w hk h0 hfi hs hw0 hwf hF
    refine zt_iload dX8_printCopies_15 rfl ?_
    refine zt_iload_n dX8_printCopies_17 rfl ?_
    refine zt_icmp_gt (tgt := 78) dX8_printCopies_18 (by decide) (by omega) (by omega) (fun c_18 => ?_) (fun c_18 => ?_)
    · exfalso
      omega
    · refine zt_iload_n dX8_printCopies_21 rfl ?_
      refine zt_if_le (tgt := 78) dX8_printCopies_22 (by decide) (by omega) (fun c_22 => ?_) (fun c_22 => ?_)
      · exact zt_vret dX8_printCopies_78 ⟨rfl, rfl, rfl, by rw [show f = 0 by omega] at hF; rw [show sF = s from congrArg Prod.fst hF, show wF = w from congrArg Prod.snd hF]⟩
      · refine zt_iconst dX8_printCopies_25 ?_
        refine zt_iload_n dX8_printCopies_26 rfl ?_
        refine zt_aload_n dX8_printCopies_27 rfl ?_
        refine zt_getv (v := s) dX8_printCopies_28 fl_X8_96 hT.sh pM_13 ?_
        refine zt_isub dX8_printCopies_31 ?_
        refine zt_callS2r dX8_printCopies_32 ml_X8_15 (Nat.le_of_ble_eq_true rfl) (c_max (by decide) (by omega)) ?_
        have hu : (zmx 1 (g - s) = 1 ∧ g - s ≤ 1) ∨ (zmx 1 (g - s) = g - s ∧ 1 < g - s) := by unfold zmx; split <;> omega
        refine zt_istore_5 dX8_printCopies_35 (by decide) rfl ?_
        refine zt_iload_n dX8_printCopies_37 rfl ?_
        refine zt_iload dX8_printCopies_38 rfl ?_
        refine zt_icmp_ge (tgt := 58) dX8_printCopies_40 (by decide) (by omega) (by omega) (fun c_40 => ?_) (fun c_40 => ?_)
        · refine zt_iload_n dX8_printCopies_58 rfl ?_
          refine zt_iload dX8_printCopies_59 rfl ?_
          refine zt_isub dX8_printCopies_61 ?_
          refine zt_istore_n_3 dX8_printCopies_62 (by decide) rfl ?_
          refine zt_aload_n dX8_printCopies_63 rfl ?_
          refine zt_iconst dX8_printCopies_64 ?_
          refine zt_puti dX8_printCopies_65 fl_X8_96 rfl hT.sh (by decide) ?_
          refine zt_aload_n dX8_printCopies_68 rfl ?_
          rw [pM_up]
          refine zt_callV0v dX8_printCopies_69 ml_X8_99 hT.sh (Nat.le_of_ble_eq_true rfl) (c_wear hT.pm (fun j h1 h2 => by rw [pM_9 ⟨h1, h2⟩]; have := hw j h1 h2; omega)) ?_
          rw [pM_wr]
          refine zt_iinc_4 dX8_printCopies_72 (by decide) rfl ?_
          refine zt_goto (tgt := 15) dX8_printCopies_75 (by decide) ?_
          refine zt_kill_5 ?_
          exact ih (i + 1) (f - zmx 1 (g - s)) 0 (w + 1) (by omega) (by omega) (by omega) (by omega) (by omega) (by omega) (by rw [hF, show f.toNat = (f - zmx 1 (g - s)).toNat + ((zmx 1 (g - s) - 1).toNat + 1) by omega]; exact zpr_big _ _ _ _ (by omega))
        · refine zt_aload_n dX8_printCopies_43 rfl ?_
          refine zt_dup dX8_printCopies_44 (Nat.ne_of_beq_eq_false rfl) ?_
          refine zt_getv (v := s) dX8_printCopies_45 fl_X8_96 hT.sh pM_13 ?_
          refine zt_iload_n dX8_printCopies_48 rfl ?_
          refine zt_iadd dX8_printCopies_49 ?_
          refine zt_puti dX8_printCopies_50 fl_X8_96 rfl hT.sh (by omega) ?_
          refine zt_iconst dX8_printCopies_53 ?_
          refine zt_istore_n_3 dX8_printCopies_54 (by decide) rfl ?_
          refine zt_goto (tgt := 72) dX8_printCopies_55 (by decide) ?_
          refine zt_iinc_4 dX8_printCopies_72 (by decide) rfl ?_
          refine zt_goto (tgt := 15) dX8_printCopies_75 (by decide) ?_
          refine zt_kill_5 ?_
          rw [pM_up]
          exact ih (i + 1) 0 (s + f) w (by omega) (by omega) (by omega) (by omega) (by omega) (by omega) (by rw [hF, zpr_small f.toNat s w (by omega)]; show (s + (f.toNat : Int), w) = (s + f, w); rw [Int.toNat_of_nonneg (by omega)])

set_option maxRecDepth 100000 in
set_option maxHeartbeats 4000000 in
theorem c_print {d n : Nat} {sh : zSh} {h : zMem} {t m g : Int} (hT : zTab sh h t) (hmm : 1 ≤ m ∧ m ≤ 5000) (hg : 100 ≤ g ∧ g ≤ 5000) (hw : ∀ j : Int, 0 ≤ j → j < 30 → 0 ≤ h (t + 9) j ∧ h (t + 9) j ≤ 100000) (hc : 0 ≤ h t 12 ∧ h t 12 ≤ 100000) (hs : 0 ≤ h t 13 ∧ h t 13 ≤ 5000) : zF yX8_printCopies cX8_printCopies 6 none (d + 1) 0 0 [(2, t), (0, m), (0, g)] n sh h none n sh (pM h t (h t 12 + m) (zpr g m.toNat (h t 13) 0).1 (zpr g m.toNat (h t 13) 0).2) := by
  refine zF.ofT (by decide +kernel) [some (2, t), some (0, m), some (0, g), none, none, none] rfl (Nat.le_of_ble_eq_true rfl) ?_
  refine zt_aload_n dX8_printCopies_0 rfl ?_
  refine zt_dup dX8_printCopies_1 (Nat.ne_of_beq_eq_false rfl) ?_
  refine zt_get dX8_printCopies_2 fl_X8_93 hT.sh ?_
  refine zt_iload_n dX8_printCopies_5 rfl ?_
  refine zt_iadd dX8_printCopies_6 ?_
  refine zt_puti dX8_printCopies_7 fl_X8_93 rfl hT.sh (by omega) ?_
  refine zt_iload_n dX8_printCopies_10 rfl ?_
  refine zt_istore_n_3 dX8_printCopies_11 (by decide) rfl ?_
  refine zt_iconst dX8_printCopies_12 ?_
  refine zt_istore_4 dX8_printCopies_13 (by decide) rfl ?_
  rw [pM_0]
  exact l_print hT hmm hg hw 5001 0 m (h t 13) 0 (by omega) (by omega) (by omega) (by omega) (by omega) (by omega) rfl

theorem zS_mono {p q : Int → Int} {N : Int} : ∀ (k : Nat) (i : Int), N - i ≤ k → (∀ j, i ≤ j → j < N → p j ≤ q j) → zS p i N ≤ zS q i N := by
  intro k
  induction k with
  | zero => intro i hk h; rw [zS_e (by omega), zS_e (by omega)]; omega
  | succ k ih =>
    intro i hk h
    by_cases hi : i < N
    · rw [zS_s hi, zS_s hi]
      have h1 := h i (by omega) hi
      have h2 := ih (i + 1) (by omega) (fun j h1 h2 => h j (by omega) h2)
      omega
    · rw [zS_e (by omega), zS_e (by omega)]; omega
theorem zS_bd {p : Int → Int} {N B : Int} : ∀ (k : Nat) (i : Int), N - i ≤ k → 0 ≤ B → (∀ j, i ≤ j → j < N → 0 ≤ p j ∧ p j ≤ B) → 0 ≤ zS p i N ∧ zS p i N ≤ k * B := by
  intro k
  induction k with
  | zero => intro i hk hB h; rw [zS_e (by omega)]; omega
  | succ k ih =>
    intro i hk hB h
    by_cases hi : i < N
    · rw [zS_s hi]
      have h1 := h i (by omega) hi
      have h2 := ih (i + 1) (by omega) hB (fun j h1 h2 => h j (by omega) h2)
      rw [show ((k + 1 : Nat) : Int) * B = (k : Int) * B + B by rw [Int.natCast_add, Int.add_mul]; simp]
      omega
    · rw [zS_e (by omega)]
      exact ⟨Int.le_refl 0, Int.mul_nonneg (by omega) hB⟩
theorem zb_01 (P : Prop) [Decidable P] : 0 ≤ zb P ∧ zb P ≤ 1 := by rcases zb_or P with e | e <;> rw [e] <;> decide
theorem zb_mono {P R : Prop} [Decidable P] [Decidable R] (h : P → R) : zb P ≤ zb R := by
  by_cases hp : P
  · rw [zb_t hp, zb_t (h hp)]; omega
  · rw [zb_f hp]; exact (zb_01 R).1
/-- so many heaps have as many of the o as k -/
def zcp (n f o k : Int) : Int := zbi o k * zbi (n - o) (f - k)
theorem zcp_r {n f o k : Int} (hn : 0 ≤ o ∧ o ≤ n ∧ n ≤ 30) : 0 ≤ zcp n f o k ∧ zcp n f o k ≤ 1073741824 := by
  have h1 := zbi_le (a := o) (s := k) (by omega)
  have h2 := zbi_le (a := n - o) (s := f - k) (by omega)
  refine ⟨Int.mul_nonneg h1.1 h2.1, ?_⟩
  have h3 : zbi o k * zbi (n - o) (f - k) ≤ 2 ^ o.toNat * 2 ^ (n - o).toNat := Int.mul_le_mul h1.2 h2.2 h2.1 (Int.le_of_lt (Int.pow_pos (by omega)))
  rw [← Int.pow_add] at h3
  have h4 : (2 : Int) ^ (o.toNat + (n - o).toNat) ≤ 2 ^ 30 := by
    have : ∀ q, q < 31 → (2 : Int) ^ q ≤ 2 ^ 30 := by decide
    exact this _ (by omega)
  exact Int.le_trans h3 h4
abbrev tcN (h : zMem) (t : Int) : Int := zS (fun j => zb (h (t + 10) j ≠ -2147483648)) 0 (h t 0)
abbrev tcF (h : zMem) (t : Int) : Int := zS (fun j => zb (h (t + 10) j ≠ -2147483648 ∧ h (t + 10) j ≠ h (t + 1) j)) 0 (h t 0)
abbrev tcO (h : zMem) (t : Int) : Int := zS (fun j => zb (h (t + 10) j ≠ -2147483648 ∧ tFa h t j)) 0 (h t 0)
abbrev tcS (h : zMem) (t : Int) : Int := zS (fun j => zb (tFa h t j ∧ h (t + 10) j = h (t + 4) j)) 0 (h t 0)
def tCop (h : zMem) (t : Int) : Prop := zS (zcp (tcN h t) (tcF h t) (tcO h t)) (tcS h t) (tcF h t + 1) * 100 < zbi (tcN h t) (tcF h t)
theorem tc_r {h : zMem} {t : Int} (hE : 4 ≤ h t 0 ∧ h t 0 ≤ 30) : (0 ≤ tcF h t ∧ tcF h t ≤ 30) ∧ (0 ≤ tcO h t ∧ tcO h t ≤ tcN h t ∧ tcN h t ≤ 30) ∧ (0 ≤ tcS h t ∧ tcS h t ≤ 30) := by
  have a1 := zS_le (p := fun j => zb (h (t + 10) j ≠ -2147483648)) 30 0 (by omega) (fun j _ _ => zb_01 _) (by omega : 0 ≤ h t 0)
  have a2 := zS_le (p := fun j => zb (h (t + 10) j ≠ -2147483648 ∧ h (t + 10) j ≠ h (t + 1) j)) 30 0 (by omega) (fun j _ _ => zb_01 _) (by omega : 0 ≤ h t 0)
  have a3 := zS_le (p := fun j => zb (h (t + 10) j ≠ -2147483648 ∧ tFa h t j)) 30 0 (by omega) (fun j _ _ => zb_01 _) (by omega : 0 ≤ h t 0)
  have a4 := zS_le (p := fun j => zb (tFa h t j ∧ h (t + 10) j = h (t + 4) j)) 30 0 (by omega) (fun j _ _ => zb_01 _) (by omega : 0 ≤ h t 0)
  have a5 := zS_mono (p := fun j => zb (h (t + 10) j ≠ -2147483648 ∧ tFa h t j)) (q := fun j => zb (h (t + 10) j ≠ -2147483648)) (N := h t 0) 30 0 (by omega) (fun j _ _ => zb_mono (fun q => q.1))
  unfold tcF tcO tcN tcS
  omega

set_option maxRecDepth 100000 in
set_option maxHeartbeats 4000000 in
theorem l_cop2 {d n : Nat} {sh : zSh} {h : zMem} {t nn f oo R : Int} (hT : zTab sh h t) (hf : 0 ≤ f ∧ f ≤ 30) (hn : 0 ≤ oo ∧ oo ≤ nn ∧ nn ≤ 30) (hR : 0 ≤ R ∧ R ≤ 40000000000) : ∀ (k : Nat) (i : Int) (v : Int), 31 - i < (k : Int) → 0 ≤ i → i ≤ 31 → R = v + zS (zcp nn f oo) i (f + 1) → zT yX8_isCopied cX8_isCopied 7 (some .boolean) (d + 1) 0 0 (zq (some (0, zb (R * 100 < zbi nn f))) n sh h) 90 [some (2, t), some (0, nn), some (0, f), some (0, oo), some (1, v), none, some (0, i)] [] n sh h := by
  intro k
  induction k with
  | zero => intros; exfalso; omega
  | succ k ih =>
    intro i v hk h0 h1 hr
    refine zt_iload dX8_isCopied_90 rfl ?_
    refine zt_iload_n dX8_isCopied_92 rfl ?_
    refine zt_icmp_gt (tgt := 124) dX8_isCopied_93 (by decide) (by omega) (by omega) (fun c_93 => ?_) (fun c_93 => ?_)
    · refine zt_lload dX8_isCopied_124 rfl ?_
      refine zt_ldc2 dX8_isCopied_126 kc_X8_119 ?_
      refine zt_lmul dX8_isCopied_129 ?_
      refine zt_iload_n dX8_isCopied_130 rfl ?_
      refine zt_iload_n dX8_isCopied_131 rfl ?_
      refine zt_callS2r dX8_isCopied_132 ml_X8_115 (Nat.le_of_ble_eq_true rfl) (c_heaps (by omega) (by omega)) ?_
      refine zt_lc_ge (tgt := 143) dX8_isCopied_135 dX8_isCopied_136 (by decide) (by rw [zS_e (by omega)] at hr; omega) (by have := zbi_le (a := nn) (s := f) (by omega); have h4 : (2 : Int) ^ nn.toNat ≤ 2 ^ 30 := (show ∀ q, q < 31 → (2 : Int) ^ q ≤ 2 ^ 30 by decide) _ (by omega); omega) (fun c_135 => ?_) (fun c_135 => ?_)
      · refine zt_iconst dX8_isCopied_143 ?_
        exact zt_zret dX8_isCopied_144 (by decide) ⟨zb0 (by rw [zS_e (by omega)] at hr; rw [hr]; omega), rfl, rfl, rfl⟩
      · refine zt_iconst dX8_isCopied_139 ?_
        refine zt_goto (tgt := 144) dX8_isCopied_140 (by decide) ?_
        exact zt_zret dX8_isCopied_144 (by decide) ⟨zb1 (by rw [zS_e (by omega)] at hr; rw [hr]; omega), rfl, rfl, rfl⟩
    · refine zt_lload dX8_isCopied_96 rfl ?_
      refine zt_iload_n dX8_isCopied_98 rfl ?_
      refine zt_iload dX8_isCopied_99 rfl ?_
      refine zt_callS2r dX8_isCopied_101 ml_X8_115 (Nat.le_of_ble_eq_true rfl) (c_heaps (by omega) (by omega)) ?_
      refine zt_iload_n dX8_isCopied_104 rfl ?_
      refine zt_iload_n dX8_isCopied_105 rfl ?_
      refine zt_isub dX8_isCopied_106 ?_
      refine zt_iload_n dX8_isCopied_107 rfl ?_
      refine zt_iload dX8_isCopied_108 rfl ?_
      refine zt_isub dX8_isCopied_110 ?_
      refine zt_callS2r dX8_isCopied_111 ml_X8_115 (Nat.le_of_ble_eq_true rfl) (c_heaps (by omega) (by omega)) ?_
      refine zt_lmul dX8_isCopied_114 ?_
      refine zt_ladd dX8_isCopied_115 ?_
      refine zt_lstore_4 dX8_isCopied_116 (by decide) rfl ?_
      refine zt_iinc_6 dX8_isCopied_118 (by decide) rfl ?_
      refine zt_goto (tgt := 90) dX8_isCopied_121 (by decide) ?_
      exact ih (i + 1) _ (by omega) (by omega) (by omega) (by rw [hr, zS_s (by omega)]; show _ = v + zcp nn f oo i + _; omega)

set_option maxRecDepth 100000 in
set_option maxHeartbeats 4000000 in
theorem l_cop1 {d n : Nat} {sh : zSh} {h : zMem} {t : Int} (hT : zTab sh h t) (hm : zMok sh h) (hE : 4 ≤ h t 0 ∧ h t 0 ≤ 30) : ∀ (k : Nat) (i : Int) (nn : Int) (f : Int) (oo : Int), h t 0 - i < (k : Int) → 0 ≤ i → i ≤ h t 0 → tcN h t = nn + zS (fun j => zb (h (t + 10) j ≠ -2147483648)) i (h t 0) → tcF h t = f + zS (fun j => zb (h (t + 10) j ≠ -2147483648 ∧ h (t + 10) j ≠ h (t + 1) j)) i (h t 0) → tcO h t = oo + zS (fun j => zb (h (t + 10) j ≠ -2147483648 ∧ tFa h t j)) i (h t 0) → zT yX8_isCopied cX8_isCopied 7 (some .boolean) (d + 4) 0 0 (zq (some (0, zb (zS (zcp (tcN h t) (tcF h t) (tcO h t)) (tcS h t) (tcF h t + 1) * 100 < zbi (tcN h t) (tcF h t)))) n sh h) 9 [some (2, t), some (0, nn), some (0, f), some (0, oo), some (0, i), none, none] [] n sh h := by
  intro k
  induction k with
  | zero => intros; exfalso; omega
  | succ k ih =>
    intro i nn f oo hk h0 h1 h2 h3 h4
    refine zt_iload dX8_isCopied_9 rfl ?_
    refine zt_aload_n dX8_isCopied_11 rfl ?_
    refine zt_get dX8_isCopied_12 fl_X8_18 hT.sh ?_
    refine zt_icmp_ge (tgt := 81) dX8_isCopied_15 (by decide) (by omega) (hm.fld (j := 0) hT.sh (by decide) (by decide) (by decide)) (fun c_15 => ?_) (fun c_15 => ?_)
    · rw [zS_e (by omega)] at h2 h3 h4
      have hr := tc_r (h := h) (t := t) hE
      have e1 : nn = tcN h t := by omega
      have e2 : f = tcF h t := by omega
      have e3 : oo = tcO h t := by omega
      subst e1 e2 e3
      refine zt_lconst (v := 0) dX8_isCopied_81 rfl ?_
      refine zt_lstore_4 dX8_isCopied_82 (by decide) rfl ?_
      refine zt_aload_n dX8_isCopied_84 rfl ?_
      refine zt_callV0r dX8_isCopied_85 ml_X8_111 hT.sh (Nat.le_of_ble_eq_true rfl) (c_tshf hT) ?_
      refine zt_istore_6 dX8_isCopied_88 (by decide) rfl ?_
      have hb := zS_bd (p := zcp (tcN h t) (tcF h t) (tcO h t)) (N := tcF h t + 1) (B := 1073741824) 31 (tcS h t) (by omega) (by omega) (fun j _ _ => zcp_r (by omega))
      exact l_cop2 hT (by omega) (by omega) (by omega) 32 (tcS h t) 0 (by omega) (by omega) (by omega) (by omega)
    · refine zt_aload_n dX8_isCopied_18 rfl ?_
      refine zt_getv (v := t + 10) dX8_isCopied_19 fl_X8_57 hT.sh (hT.rf 10 (by decide) (by decide)) ?_
      refine zt_iload dX8_isCopied_22 rfl ?_
      refine zt_iaload dX8_isCopied_24 (hT.ar 10 (by decide) (by decide)) (by decide) (by omega) (by omega) ?_
      refine zt_ldc dX8_isCopied_25 kc_X8_24 ?_
      refine zt_icmp_eq (tgt := 75) dX8_isCopied_27 (by decide) (hm.int (hT.ar 10 (by decide) (by decide)) (by omega) (by omega)) (by decide) (fun c_27 => ?_) (fun c_27 => ?_)
      · refine zt_iinc_4 dX8_isCopied_75 (by decide) rfl ?_
        refine zt_goto (tgt := 9) dX8_isCopied_78 (by decide) ?_
        exact ih (i + 1) nn f oo (by omega) (by omega) (by omega) (by rw [zS_s (by omega)] at h2; first | (rw [zb_t (by omega)] at h2; omega) | (rw [zb_f (by omega)] at h2; omega)) (by rw [zS_s (by omega)] at h3; first | (rw [zb_t (by omega)] at h3; omega) | (rw [zb_f (by omega)] at h3; omega)) (by rw [zS_s (by omega)] at h4; first | (rw [zb_t (by omega)] at h4; omega) | (rw [zb_f (by omega)] at h4; omega))
      · refine zt_iinc_1 dX8_isCopied_30 (by decide) rfl ?_
        refine zt_iload_n dX8_isCopied_33 rfl ?_
        refine zt_aload_n dX8_isCopied_34 rfl ?_
        refine zt_getv (v := t + 10) dX8_isCopied_35 fl_X8_57 hT.sh (hT.rf 10 (by decide) (by decide)) ?_
        refine zt_iload dX8_isCopied_38 rfl ?_
        refine zt_iaload dX8_isCopied_40 (hT.ar 10 (by decide) (by decide)) (by decide) (by omega) (by omega) ?_
        refine zt_aload_n dX8_isCopied_41 rfl ?_
        refine zt_getv (v := t + 1) dX8_isCopied_42 fl_X8_29 hT.sh (hT.rf 1 (by decide) (by decide)) ?_
        refine zt_iload dX8_isCopied_45 rfl ?_
        refine zt_iaload dX8_isCopied_47 (hT.ar 1 (by decide) (by decide)) (by decide) (by omega) (by omega) ?_
        refine zt_icmp_eq (tgt := 55) dX8_isCopied_48 (by decide) (hm.int (hT.ar 10 (by decide) (by decide)) (by omega) (by omega)) (hm.int (hT.ar 1 (by decide) (by decide)) (by omega) (by omega)) (fun c_48 => ?_) (fun c_48 => ?_)
        · refine zt_iconst dX8_isCopied_55 ?_
          refine zt_iadd dX8_isCopied_56 ?_
          refine zt_istore_n_2 dX8_isCopied_57 (by decide) rfl ?_
          refine zt_iload_n dX8_isCopied_58 rfl ?_
          refine zt_aload_n dX8_isCopied_59 rfl ?_
          refine zt_iload dX8_isCopied_60 rfl ?_
          refine zt_callV1r dX8_isCopied_62 ml_X8_73 hT.sh (Nat.le_of_ble_eq_true rfl) (c_tfa hT (by omega)) ?_
          refine zt_ifb_eq (tgt := 72) dX8_isCopied_65 (by decide) (fun c_65 => ?_) (fun c_65 => ?_)
          · refine zt_iconst dX8_isCopied_72 ?_
            refine zt_iadd dX8_isCopied_73 ?_
            refine zt_istore_n_3 dX8_isCopied_74 (by decide) rfl ?_
            refine zt_iinc_4 dX8_isCopied_75 (by decide) rfl ?_
            refine zt_goto (tgt := 9) dX8_isCopied_78 (by decide) ?_
            exact ih (i + 1) (nn + 1) (f + 0) (oo + 0) (by omega) (by omega) (by omega) (by rw [zS_s (by omega)] at h2; first | (rw [zb_t (by omega)] at h2; omega) | (rw [zb_f (by omega)] at h2; omega)) (by rw [zS_s (by omega)] at h3; first | (rw [zb_t (by omega)] at h3; omega) | (rw [zb_f (by omega)] at h3; omega)) (by rw [zS_s (by omega)] at h4; first | (rw [zb_t (by omega)] at h4; omega) | (rw [zb_f (by omega)] at h4; omega))
          · refine zt_iconst dX8_isCopied_68 ?_
            refine zt_goto (tgt := 73) dX8_isCopied_69 (by decide) ?_
            refine zt_iadd dX8_isCopied_73 ?_
            refine zt_istore_n_3 dX8_isCopied_74 (by decide) rfl ?_
            refine zt_iinc_4 dX8_isCopied_75 (by decide) rfl ?_
            refine zt_goto (tgt := 9) dX8_isCopied_78 (by decide) ?_
            exact ih (i + 1) (nn + 1) (f + 0) (oo + 1) (by omega) (by omega) (by omega) (by rw [zS_s (by omega)] at h2; first | (rw [zb_t (by omega)] at h2; omega) | (rw [zb_f (by omega)] at h2; omega)) (by rw [zS_s (by omega)] at h3; first | (rw [zb_t (by omega)] at h3; omega) | (rw [zb_f (by omega)] at h3; omega)) (by rw [zS_s (by omega)] at h4; first | (rw [zb_t (by omega)] at h4; omega) | (rw [zb_f (by omega)] at h4; omega))
        · refine zt_iconst dX8_isCopied_51 ?_
          refine zt_goto (tgt := 56) dX8_isCopied_52 (by decide) ?_
          refine zt_iadd dX8_isCopied_56 ?_
          refine zt_istore_n_2 dX8_isCopied_57 (by decide) rfl ?_
          refine zt_iload_n dX8_isCopied_58 rfl ?_
          refine zt_aload_n dX8_isCopied_59 rfl ?_
          refine zt_iload dX8_isCopied_60 rfl ?_
          refine zt_callV1r dX8_isCopied_62 ml_X8_73 hT.sh (Nat.le_of_ble_eq_true rfl) (c_tfa hT (by omega)) ?_
          refine zt_ifb_eq (tgt := 72) dX8_isCopied_65 (by decide) (fun c_65 => ?_) (fun c_65 => ?_)
          · refine zt_iconst dX8_isCopied_72 ?_
            refine zt_iadd dX8_isCopied_73 ?_
            refine zt_istore_n_3 dX8_isCopied_74 (by decide) rfl ?_
            refine zt_iinc_4 dX8_isCopied_75 (by decide) rfl ?_
            refine zt_goto (tgt := 9) dX8_isCopied_78 (by decide) ?_
            exact ih (i + 1) (nn + 1) (f + 1) (oo + 0) (by omega) (by omega) (by omega) (by rw [zS_s (by omega)] at h2; first | (rw [zb_t (by omega)] at h2; omega) | (rw [zb_f (by omega)] at h2; omega)) (by rw [zS_s (by omega)] at h3; first | (rw [zb_t (by omega)] at h3; omega) | (rw [zb_f (by omega)] at h3; omega)) (by rw [zS_s (by omega)] at h4; first | (rw [zb_t (by omega)] at h4; omega) | (rw [zb_f (by omega)] at h4; omega))
          · refine zt_iconst dX8_isCopied_68 ?_
            refine zt_goto (tgt := 73) dX8_isCopied_69 (by decide) ?_
            refine zt_iadd dX8_isCopied_73 ?_
            refine zt_istore_n_3 dX8_isCopied_74 (by decide) rfl ?_
            refine zt_iinc_4 dX8_isCopied_75 (by decide) rfl ?_
            refine zt_goto (tgt := 9) dX8_isCopied_78 (by decide) ?_
            exact ih (i + 1) (nn + 1) (f + 1) (oo + 1) (by omega) (by omega) (by omega) (by rw [zS_s (by omega)] at h2; first | (rw [zb_t (by omega)] at h2; omega) | (rw [zb_f (by omega)] at h2; omega)) (by rw [zS_s (by omega)] at h3; first | (rw [zb_t (by omega)] at h3; omega) | (rw [zb_f (by omega)] at h3; omega)) (by rw [zS_s (by omega)] at h4; first | (rw [zb_t (by omega)] at h4; omega) | (rw [zb_f (by omega)] at h4; omega))

set_option maxRecDepth 100000 in
set_option maxHeartbeats 4000000 in
theorem c_tcop {d n : Nat} {sh : zSh} {h : zMem} {t : Int} (hT : zTab sh h t) : zF yX8_isCopied cX8_isCopied 7 (some .boolean) (d + 4) 0 0 [(2, t)] n sh h (some (0, zb (zS (zcp (tcN h t) (tcF h t) (tcO h t)) (tcS h t) (tcF h t + 1) * 100 < zbi (tcN h t) (tcF h t)))) n sh h := by
  refine zF.ofT (by decide +kernel) [some (2, t), none, none, none, none, none, none] rfl (Nat.le_of_ble_eq_true rfl) ?_
  have hE := hT.2.2.1
  refine zt_rg (fun hm => ?_)
  refine zt_iconst dX8_isCopied_0 ?_
  refine zt_istore_n_1 dX8_isCopied_1 (by decide) rfl ?_
  refine zt_iconst dX8_isCopied_2 ?_
  refine zt_istore_n_2 dX8_isCopied_3 (by decide) rfl ?_
  refine zt_iconst dX8_isCopied_4 ?_
  refine zt_istore_n_3 dX8_isCopied_5 (by decide) rfl ?_
  refine zt_iconst dX8_isCopied_6 ?_
  refine zt_istore_4 dX8_isCopied_7 (by decide) rfl ?_
  exact l_cop1 hT hm hE 31 0 0 0 0 (by omega) (by omega) (by omega) (by rw [Int.zero_add]) (by rw [Int.zero_add]) (by rw [Int.zero_add])
