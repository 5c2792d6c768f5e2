/-- copies one by one: the count, and how often all digits were worn -/
def zpr (hd : Int) : Nat → Int → Int → Int × Int
  | 0, s, w => (s, w)
  | k + 1, s, w => if s + 1 < hd then zpr hd k (s + 1) w else zpr hd k 0 (w + 1)
theorem zpr_small {hd : Int} : ∀ (k : Nat) (s w : Int), (k = 0 ∨ s + k < hd) → zpr hd k s w = (s + k, w)
  | 0, s, w, _ => by show (s, w) = _; simp
  | k + 1, s, w, h => by
    show (if s + 1 < hd then zpr hd k (s + 1) w else zpr hd k 0 (w + 1)) = _
    rw [if_pos (by omega), zpr_small k (s + 1) w (by omega)]
    congr 1; omega
theorem zpr_big {hd : Int} : ∀ (u : Nat) (k : Nat) (s w : Int), ((u : Int) + 1 = hd - s ∨ (u = 0 ∧ hd - s ≤ 1)) → zpr hd (k + (u + 1)) s w = zpr hd k 0 (w + 1)
  | 0, k, s, w, h => by
    show (if s + 1 < hd then _ else zpr hd k 0 (w + 1)) = _
    rw [if_neg (by omega)]
  | u + 1, k, s, w, h => by
    show (if s + 1 < hd then zpr hd (k + (u + 1)) (s + 1) w else _) = _
    rw [if_pos (by omega), zpr_big u k (s + 1) w (by omega)]
theorem zpr_r {hd : Int} (h0 : 1 ≤ hd) : ∀ (k : Nat) (s w : Int), 0 ≤ s → 0 ≤ w → 0 ≤ (zpr hd k s w).1 ∧ ((zpr hd k s w).1 ≤ s ∨ (zpr hd k s w).1 < hd) ∧ w ≤ (zpr hd k s w).2 ∧ (zpr hd k s w).2 ≤ w + k
  | 0, s, w, h1, h2 => by show 0 ≤ s ∧ (s ≤ s ∨ s < hd) ∧ w ≤ w ∧ w ≤ w + (0 : Nat); omega
  | k + 1, s, w, h1, h2 => by
    show 0 ≤ (if s + 1 < hd then zpr hd k (s + 1) w else zpr hd k 0 (w + 1)).1 ∧ _
    by_cases h3 : s + 1 < hd
    · have := zpr_r h0 k (s + 1) w (by omega) h2
      have e : zpr hd (k + 1) s w = zpr hd k (s + 1) w := if_pos h3
      rw [if_pos h3, e]; omega
    · have := zpr_r h0 k 0 (w + 1) (by omega) (by omega)
      have e : zpr hd (k + 1) s w = zpr hd k 0 (w + 1) := if_neg h3
      rw [if_neg h3, e]; omega
/-- a plate's memory: copies, the count, the digits' steps -/
def pM (h : zMem) (t c s w : Int) : zMem := fun x y => if x = t ∧ y = 12 then c else if x = t ∧ y = 13 then s else if x = t + 9 ∧ 0 ≤ y ∧ y < 30 then h x y + w else h x y
theorem pM_13 {h : zMem} {t c s w : Int} : pM h t c s w t 13 = s := by unfold pM; rw [if_neg (by omega), if_pos ⟨rfl, rfl⟩]
theorem pM_t {h : zMem} {t c s w j : Int} (hj : j < 12) : pM h t c s w t j = h t j := by unfold pM; rw [if_neg (by omega), if_neg (by omega), if_neg (by omega)]
theorem pM_9 {h : zMem} {t c s w j : Int} (hj : 0 ≤ j ∧ j < 30) : pM h t c s w (t + 9) j = h (t + 9) j + w := by unfold pM; rw [if_neg (by omega), if_neg (by omega), if_pos ⟨rfl, hj⟩]
theorem pM_up {h : zMem} {t c s w z : Int} : zup (pM h t c s w) t 13 z = pM h t c z w := zmem_ext (fun x y => by
  unfold zup pM
  by_cases h1 : x = t ∧ y = 13
  · rw [if_pos h1, if_neg (by omega), if_pos h1]
  · rw [if_neg h1, if_neg h1, if_neg h1])
theorem pM_wr {h : zMem} {t c s w : Int} : zwr (pM h t c s w) (t + 9) 30 = pM h t c s (w + 1) := zmem_ext (fun x y => by
  unfold zwr
  by_cases h1 : x = t + 9 ∧ 0 ≤ y ∧ y < 30
  · obtain ⟨rfl, h2⟩ := h1
    rw [if_pos ⟨rfl, h2⟩, pM_9 h2, pM_9 h2, Int.add_assoc]
  · rw [if_neg h1]; unfold pM; rw [if_neg h1, if_neg h1])
theorem pM_0 {h : zMem} {t c : Int} : zup h t 12 c = pM h t c (h t 13) 0 := zmem_ext (fun x y => by
  unfold zup pM
  by_cases h1 : x = t ∧ y = 12
  · rw [if_pos h1, if_pos h1]
  · rw [if_neg h1, if_neg h1]
    by_cases h2 : x = t ∧ y = 13
    · rw [if_pos h2, h2.1, h2.2]
    · rw [if_neg h2]; split <;> simp)
theorem zTab.pm {sh : zSh} {h : zMem} {t c s w : Int} (hT : zTab sh h t) : zTab sh (pM h t c s w) t := by
  refine ⟨hT.1, hT.2.1, by rw [pM_t (by omega)]; exact hT.2.2.1, fun j h1 h2 => ?_⟩
  rw [pM_t (by omega)]; exact hT.2.2.2 j h1 h2

set_option maxRecDepth 100000 in
set_option maxHeartbeats 4000000 in
theorem l_print {d n : Nat} {sh : zSh} {h : zMem} {t m g c sF wF : Int} (hT : zTab sh h t) (hmm : 1 ≤ m ∧ m ≤ 5000) (hg : 100 ≤ g ∧ g ≤ 5000) (hw : ∀ j : Int, 0 ≤ j → j < 30 → 0 ≤ h (t + 9) j ∧ h (t + 9) j ≤ 100000) : ∀ (k : Nat) (i : Int) (f : Int) (s : Int) (w : Int), m - i < (k : Int) → 0 ≤ i → 0 ≤ f ∧ f + i ≤ m → 0 ≤ s ∧ s ≤ 5000 → 0 ≤ w → w + f ≤ 5000 → (sF, wF) = zpr g f.toNat s w → zT yX8_printCopies cX8_printCopies 6 none (d + 1) 0 0 (zq none n sh (pM h t c sF wF)) 15 [some (2, t), some (0, m), some (0, g), some (0, f), some (0, i), none] [] n sh (pM h t c s w) := by
  intro k
  induction k with
  | zero => intros; exfalso; omega
  | succ k ih =>
    intro i f s w hk h0 hfi hs hw0 hwf hF
    refine zt_iload dX8_printCopies_15 rfl ?_
    refine zt_iload_n dX8_printCopies_17 rfl ?_
    refine zt_icmp_gt (tgt := 78) dX8_printCopies_18 (by decide) (by omega) (by omega) (fun c_18 => ?_) (fun c_18 => ?_)
    · exfalso
      omega
    · refine zt_iload_n dX8_printCopies_21 rfl ?_
      refine zt_if_le (tgt := 78) dX8_printCopies_22 (by decide) (by omega) (fun c_22 => ?_) (fun c_22 => ?_)
      · exact zt_vret dX8_printCopies_78 ⟨rfl, rfl, rfl, by rw [show f = 0 by omega] at hF; rw [show sF = s from congrArg Prod.fst hF, show wF = w from congrArg Prod.snd hF]⟩
      · refine zt_iconst dX8_printCopies_25 ?_
        refine zt_iload_n dX8_printCopies_26 rfl ?_
        refine zt_aload_n dX8_printCopies_27 rfl ?_
        refine zt_getv (v := s) dX8_printCopies_28 fl_X8_96 hT.sh pM_13 ?_
        refine zt_isub dX8_printCopies_31 ?_
        refine zt_callS2r dX8_printCopies_32 ml_X8_15 (Nat.le_of_ble_eq_true rfl) (c_max (by decide) (by omega)) ?_
        have hu : (zmx 1 (g - s) = 1 ∧ g - s ≤ 1) ∨ (zmx 1 (g - s) = g - s ∧ 1 < g - s) := by unfold zmx; split <;> omega
        refine zt_istore_5 dX8_printCopies_35 (by decide) rfl ?_
        refine zt_iload_n dX8_printCopies_37 rfl ?_
        refine zt_iload dX8_printCopies_38 rfl ?_
        refine zt_icmp_ge (tgt := 58) dX8_printCopies_40 (by decide) (by omega) (by omega) (fun c_40 => ?_) (fun c_40 => ?_)
        · refine zt_iload_n dX8_printCopies_58 rfl ?_
          refine zt_iload dX8_printCopies_59 rfl ?_
          refine zt_isub dX8_printCopies_61 ?_
          refine zt_istore_n_3 dX8_printCopies_62 (by decide) rfl ?_
          refine zt_aload_n dX8_printCopies_63 rfl ?_
          refine zt_iconst dX8_printCopies_64 ?_
          refine zt_puti dX8_printCopies_65 fl_X8_96 rfl hT.sh (by decide) ?_
          refine zt_aload_n dX8_printCopies_68 rfl ?_
          rw [pM_up]
          refine zt_callV0v dX8_printCopies_69 ml_X8_99 hT.sh (Nat.le_of_ble_eq_true rfl) (c_wear hT.pm (fun j h1 h2 => by rw [pM_9 ⟨h1, h2⟩]; have := hw j h1 h2; omega)) ?_
          rw [pM_wr]
          refine zt_iinc_4 dX8_printCopies_72 (by decide) rfl ?_
          refine zt_goto (tgt := 15) dX8_printCopies_75 (by decide) ?_
          refine zt_kill_5 ?_
          exact ih (i + 1) (f - zmx 1 (g - s)) 0 (w + 1) (by omega) (by omega) (by omega) (by omega) (by omega) (by omega) (by rw [hF, show f.toNat = (f - zmx 1 (g - s)).toNat + ((zmx 1 (g - s) - 1).toNat + 1) by omega]; exact zpr_big _ _ _ _ (by omega))
        · refine zt_aload_n dX8_printCopies_43 rfl ?_
          refine zt_dup dX8_printCopies_44 (Nat.ne_of_beq_eq_false rfl) ?_
          refine zt_getv (v := s) dX8_printCopies_45 fl_X8_96 hT.sh pM_13 ?_
          refine zt_iload_n dX8_printCopies_48 rfl ?_
          refine zt_iadd dX8_printCopies_49 ?_
          refine zt_puti dX8_printCopies_50 fl_X8_96 rfl hT.sh (by omega) ?_
          refine zt_iconst dX8_printCopies_53 ?_
          refine zt_istore_n_3 dX8_printCopies_54 (by decide) rfl ?_
          refine zt_goto (tgt := 72) dX8_printCopies_55 (by decide) ?_
          refine zt_iinc_4 dX8_printCopies_72 (by decide) rfl ?_
          refine zt_goto (tgt := 15) dX8_printCopies_75 (by decide) ?_
          refine zt_kill_5 ?_
          rw [pM_up]
          exact ih (i + 1) 0 (s + f) w (by omega) (by omega) (by omega) (by omega) (by omega) (by omega) (by rw [hF, zpr_small f.toNat s w (by omega)]; show (s + (f.toNat : Int), w) = (s + f, w); rw [Int.toNat_of_nonneg (by omega)])

set_option maxRecDepth 100000 in
set_option maxHeartbeats 4000000 in
theorem c_print {d n : Nat} {sh : zSh} {h : zMem} {t m g : Int} (hT : zTab sh h t) (hmm : 1 ≤ m ∧ m ≤ 5000) (hg : 100 ≤ g ∧ g ≤ 5000) (hw : ∀ j : Int, 0 ≤ j → j < 30 → 0 ≤ h (t + 9) j ∧ h (t + 9) j ≤ 100000) (hc : 0 ≤ h t 12 ∧ h t 12 ≤ 100000) (hs : 0 ≤ h t 13 ∧ h t 13 ≤ 5000) : zF yX8_printCopies cX8_printCopies 6 none (d + 1) 0 0 [(2, t), (0, m), (0, g)] n sh h none n sh (pM h t (h t 12 + m) (zpr g m.toNat (h t 13) 0).1 (zpr g m.toNat (h t 13) 0).2) := by
  refine zF.ofT (by decide +kernel) [some (2, t), some (0, m), some (0, g), none, none, none] rfl (Nat.le_of_ble_eq_true rfl) ?_
  refine zt_aload_n dX8_printCopies_0 rfl ?_
  refine zt_dup dX8_printCopies_1 (Nat.ne_of_beq_eq_false rfl) ?_
  refine zt_get dX8_printCopies_2 fl_X8_93 hT.sh ?_
  refine zt_iload_n dX8_printCopies_5 rfl ?_
  refine zt_iadd dX8_printCopies_6 ?_
  refine zt_puti dX8_printCopies_7 fl_X8_93 rfl hT.sh (by omega) ?_
  refine zt_iload_n dX8_printCopies_10 rfl ?_
  refine zt_istore_n_3 dX8_printCopies_11 (by decide) rfl ?_
  refine zt_iconst dX8_printCopies_12 ?_
  refine zt_istore_4 dX8_printCopies_13 (by decide) rfl ?_
  rw [pM_0]
  exact l_print hT hmm hg hw 5001 0 m (h t 13) 0 (by omega) (by omega) (by omega) (by omega) (by omega) (by omega) rfl
