noncomputable def zite {α : Type} (P : Prop) (a b : α) : α := @ite α P (Classical.propDecidable P) a b
theorem zite_t {α : Type} {P : Prop} {a b : α} (h : P) : zite P a b = a := @if_pos P (Classical.propDecidable P) h α a b
theorem zite_f {α : Type} {P : Prop} {a b : α} (h : ¬ P) : zite P a b = b := @if_neg P (Classical.propDecidable P) h α a b
/-- a wheel of column k -/
noncomputable def eW (S : Int → Prop) (k w : Int) (x : (Int → Int) × Int) : (Int → Int) × Int :=
  zite (S (k * 9 + w)) (x.1, 0) (fun y => if y = k * 9 + w then (x.1 (k * 9 + w) + x.1 (k * 9 + w + 9) + x.2) % 10 else x.1 y, (x.1 (k * 9 + w) + x.1 (k * 9 + w + 9) + x.2) / 10)
/-- the next column added to column k -/
noncomputable def eC (S : Int → Prop) (k : Int) (g : Int → Int) : (Int → Int) × Int := zFor (eW S k) 0 9 (g, 0)
/-- a TURN: the digits, the bell -/
noncomputable def eK (S : Int → Prop) (k : Int) (x : (Int → Int) × Int) : (Int → Int) × Int := ((eC S k x.1).1, x.2 + (eC S k x.1).2)
noncomputable def eT (S : Int → Prop) (g : Int → Int) (b : Int) : (Int → Int) × Int := zFor (eK S) 0 4 (g, b)
def eDig (g : Int → Int) : Prop := ∀ y, 0 ≤ y → y < 45 → 0 ≤ g y ∧ g y ≤ 9
theorem eW_dig {S : Int → Prop} {k w : Int} {x : (Int → Int) × Int} (hk : 0 ≤ k ∧ k ≤ 3) (hw : 0 ≤ w ∧ w ≤ 8) (hg : eDig x.1) (hc : 0 ≤ x.2 ∧ x.2 ≤ 1) : eDig (eW S k w x).1 ∧ 0 ≤ (eW S k w x).2 ∧ (eW S k w x).2 ≤ 1 := by
  have h1 := hg (k * 9 + w) (by omega) (by omega)
  have h2 := hg (k * 9 + w + 9) (by omega) (by omega)
  by_cases hs : S (k * 9 + w)
  · unfold eW; rw [zite_t hs]; exact ⟨hg, by show (0 : Int) ≤ 0; omega, by show (0 : Int) ≤ 1; omega⟩
  · unfold eW; rw [zite_f hs]
    refine ⟨fun y h0 h3 => ?_, ?_, ?_⟩
    · show 0 ≤ (if y = k * 9 + w then _ else _) ∧ (if y = k * 9 + w then _ else _) ≤ 9
      split
      · omega
      · exact hg y h0 h3
    · show 0 ≤ (x.1 (k * 9 + w) + x.1 (k * 9 + w + 9) + x.2) / 10; omega
    · show (x.1 (k * 9 + w) + x.1 (k * 9 + w + 9) + x.2) / 10 ≤ 1; omega
theorem eF_dig {S : Int → Prop} {k : Int} (hk : 0 ≤ k ∧ k ≤ 3) : ∀ (f : Nat) (w : Int) (x : (Int → Int) × Int), 9 - w ≤ f → 0 ≤ w → eDig x.1 → (0 ≤ x.2 ∧ x.2 ≤ 1) → eDig (zFor (eW S k) w 9 x).1 ∧ 0 ≤ (zFor (eW S k) w 9 x).2 ∧ (zFor (eW S k) w 9 x).2 ≤ 1 := by
  intro f
  induction f with
  | zero => intro w x hf h0 hg hc; rw [zFor_e (by omega)]; exact ⟨hg, hc⟩
  | succ f ih =>
    intro w x hf h0 hg hc
    by_cases hw : w < 9
    · rw [zFor_s hw]
      have h1 := eW_dig (S := S) hk (w := w) (by omega) hg hc
      exact ih (w + 1) _ (by omega) (by omega) h1.1 h1.2
    · rw [zFor_e (by omega)]; exact ⟨hg, hc⟩
theorem eC_dig {S : Int → Prop} {k : Int} {g : Int → Int} (hk : 0 ≤ k ∧ k ≤ 3) (hg : eDig g) : eDig (eC S k g).1 ∧ 0 ≤ (eC S k g).2 ∧ (eC S k g).2 ≤ 1 := eF_dig hk 9 0 (g, 0) (by omega) (by omega) hg (by show (0 : Int) ≤ 0 ∧ (0 : Int) ≤ 1; omega)
theorem eKF_dig {S : Int → Prop} : ∀ (f : Nat) (k : Int) (x : (Int → Int) × Int), 4 - k ≤ f → 0 ≤ k → eDig x.1 → eDig (zFor (eK S) k 4 x).1 ∧ x.2 ≤ (zFor (eK S) k 4 x).2 ∧ (zFor (eK S) k 4 x).2 ≤ x.2 + f := by
  intro f
  induction f with
  | zero => intro k x hf h0 hg; rw [zFor_e (by omega)]; exact ⟨hg, by omega⟩
  | succ f ih =>
    intro k x hf h0 hg
    by_cases hk : k < 4
    · rw [zFor_s hk]
      have h1 := eC_dig (S := S) (k := k) (by omega) hg
      have h2 := ih (k + 1) (eK S k x) (by omega) (by omega) h1.1
      have h3 : (eK S k x).2 = x.2 + (eC S k x.1).2 := rfl
      rw [h3] at h2
      exact ⟨h2.1, by omega, by omega⟩
    · rw [zFor_e (by omega)]; exact ⟨hg, by omega, by omega⟩
theorem eT_dig {S : Int → Prop} {g : Int → Int} {b : Int} (hg : eDig g) : eDig (eT S g b).1 ∧ b ≤ (eT S g b).2 ∧ (eT S g b).2 ≤ b + 4 := eKF_dig 4 0 (g, b) (by omega) (by omega) hg
/-- a column's number -/
def eNm (g : Int → Int) (b : Int) : Nat → Int → Int
  | 0, v => v
  | w + 1, v => eNm g b w (v * 10 + g (b + w))
def eNum (g : Int → Int) (k : Int) : Int := eNm g (k * 9) 9 0
theorem eNm_r {g : Int → Int} {k : Int} (hk : 0 ≤ k ∧ k ≤ 4) (hg : eDig g) : ∀ (w : Nat) (v : Int), w ≤ 9 → (0 ≤ v ∧ (v + 1) * ztenN w ≤ 1000000000) → 0 ≤ eNm g (k * 9) w v ∧ eNm g (k * 9) w v + 1 ≤ 1000000000
  | 0, v, _, hv => by show 0 ≤ v ∧ v + 1 ≤ 1000000000; have : ztenN 0 = 1 := rfl; rw [this] at hv; omega
  | w + 1, v, hw, hv => by
    have h1 := hg (k * 9 + w) (by omega) (by omega)
    refine eNm_r hk hg w (v * 10 + g (k * 9 + w)) (by omega) ⟨by omega, ?_⟩
    have h2 : ztenN (w + 1) = ztenN w * 10 := rfl
    rw [h2] at hv
    have h3 : 0 < ztenN w := zten_pos (w : Int)
    have h4 : (v * 10 + g (k * 9 + w) + 1) * ztenN w ≤ (v * 10 + 10) * ztenN w := Int.mul_le_mul_of_nonneg_right (by omega) (by omega)
    have h5 : (v * 10 + 10) * ztenN w = (v + 1) * (ztenN w * 10) := by rw [show v * 10 + 10 = (v + 1) * 10 by omega, Int.mul_assoc, Int.mul_comm 10]
    omega
theorem eNum_r {g : Int → Int} {k : Int} (hk : 0 ≤ k ∧ k ≤ 4) (hg : eDig g) : 0 ≤ eNum g k ∧ eNum g k ≤ 999999999 := by
  have := eNm_r hk hg 9 0 (by omega) (by decide)
  unfold eNum; omega
/-- which wheels stick now -/
def eStk (h : zMem) (y : Int) : Prop := ∃ i, (0 ≤ i ∧ i < h 18 6) ∧ (h 21 i ≤ h 18 1 ∧ h 18 1 < h 22 i) ∧ h 20 i = y
def eOK (h : zMem) : Prop := (0 ≤ h 18 6 ∧ h 18 6 ≤ 12) ∧ (0 ≤ h 18 1 ∧ h 18 1 ≤ 100000) ∧ (0 ≤ h 18 0 ∧ h 18 0 ≤ 1000000) ∧ eDig (h 19) ∧ ∀ i, 0 ≤ i → i < h 18 6 → 0 ≤ h 20 i ∧ h 20 i < 45
/-- a bit of a long -/
def zlb (m y : Int) : Prop := (Int64.ofInt m).toBitVec.getLsbD y.toNat = true
theorem zlb_0 {y : Int} : ¬ zlb 0 y := by unfold zlb; simp
theorem zlb_cnt : ∀ q : Fin 64, (((Int32.ofInt (q.val : Int)).toInt64 &&& 63).toBitVec.smod 64).toNat = q.val ∧ (((Int32.ofInt (q.val : Int)).toInt64.toUInt64 &&& Int64.toUInt64 63).toBitVec % 64).toNat = q.val := by decide +kernel
theorem zlb_or {m w y : Int} (hw : 0 ≤ w ∧ w < 45) (hy : 0 ≤ y ∧ y < 45) : zlb ((Int64.ofInt m ||| Int64.ofInt ((Int64.ofInt 1 <<< ((Int32.ofInt w).toInt64 &&& 63)).toInt)).toInt) y ↔ zlb m y ∨ w = y := by
  obtain ⟨q, rfl⟩ : ∃ q : Nat, w = q := ⟨w.toNat, by omega⟩
  obtain ⟨r, rfl⟩ : ∃ r : Nat, y = r := ⟨y.toNat, by omega⟩
  have hc := (zlb_cnt ⟨q, by omega⟩).1
  unfold zlb
  rw [Int64.ofInt_toInt, Int64.ofInt_toInt, Int64.toBitVec_or, BitVec.getLsbD_or, Int64.toBitVec_shiftLeft, BitVec.shiftLeft_eq', BitVec.getLsbD_shiftLeft]
  simp only [] at hc
  rw [hc, Int.toNat_natCast]
  have h1 : (Int64.ofInt 1).toBitVec = 1#64 := by decide
  rw [h1, BitVec.getLsbD_one]
  constructor
  · intro h2
    rcases Bool.or_eq_true_iff.mp h2 with h3 | h3
    · exact Or.inl h3
    · simp only [Bool.and_eq_true, decide_eq_true_eq, Bool.not_eq_true', decide_eq_false_iff_not] at h3
      right; omega
  · rintro (h2 | h2)
    · rw [h2]; rfl
    · have : r = q := by omega
      subst this
      simp; omega
theorem zlb_t {m y : Int} (hy : 0 ≤ y ∧ y < 45) : (Int64.ofInt ((((Int64.ofInt m).toUInt64 >>> ((Int32.ofInt y).toInt64.toUInt64 &&& Int64.toUInt64 63)).toInt64).toInt) &&& Int64.ofInt 1).toInt = 1 ↔ zlb m y := by
  obtain ⟨r, rfl⟩ : ∃ r : Nat, y = r := ⟨y.toNat, by omega⟩
  have hc := (zlb_cnt ⟨r, by omega⟩).2
  simp only [] at hc
  unfold zlb
  rw [Int64.ofInt_toInt, show (1 : Int) = (Int64.ofInt 1).toInt by decide, Int64.toInt_inj, ← Int64.toBitVec_inj, Int64.toBitVec_and]
  have h1 : (Int64.ofInt 1).toBitVec = 1#64 := by decide
  rw [show (Int64.ofInt (Int64.ofInt 1).toInt).toBitVec = 1#64 by decide, h1]
  have h2 : (((Int64.ofInt m).toUInt64 >>> ((Int32.ofInt (r : Int)).toInt64.toUInt64 &&& Int64.toUInt64 63)).toInt64).toBitVec = (Int64.ofInt m).toBitVec >>> r := by
    show ((Int64.ofInt m).toUInt64 >>> ((Int32.ofInt (r : Int)).toInt64.toUInt64 &&& Int64.toUInt64 63)).toBitVec = _
    rw [UInt64.toBitVec_shiftRight, BitVec.ushiftRight_eq', hc]
    rfl
  rw [h2, Int.toNat_natCast]
  constructor
  · intro h3
    have h4 := congrArg (fun b => BitVec.getLsbD b 0) h3
    simp only [BitVec.getLsbD_and, BitVec.getLsbD_ushiftRight, Nat.add_zero] at h4
    simpa using h4
  · intro h3
    apply BitVec.eq_of_getLsbD_eq
    intro i hi
    rw [BitVec.getLsbD_and, BitVec.getLsbD_ushiftRight, BitVec.getLsbD_one]
    by_cases h0 : i = 0
    · subst h0; simp; exact h3
    · simp [show ¬ (0 = i) by omega, h0]

set_option maxRecDepth 100000 in
set_option maxHeartbeats 4000000 in
theorem l_stk {d n : Nat} {sh : zSh} {h : zMem} (hS : zShp sh) (hR : zRf h) (he : eOK h) (hm : zMok sh h) (he1 : 0 ≤ h 18 6 ∧ h 18 6 ≤ 12)  : ∀ (k : Nat) (i : Int) (m : Int), h 18 6 - i < (k : Int) → 0 ≤ i → i ≤ h 18 6 → (∀ y, (0 ≤ y ∧ y < 45) → (zlb m y ↔ ∃ j, (0 ≤ j ∧ j < i) ∧ (h 21 j ≤ h 18 1 ∧ h 18 1 < h 22 j) ∧ h 20 j = y)) → zT yX1_stuckNow cX1_stuckNow 4 (some .long) (d + 0) 0 0 (fun r n1 sh1 h1 => n1 = n ∧ sh1 = sh ∧ h1 = h ∧ ∃ m, r = some (1, m) ∧ ∀ y, (0 ≤ y ∧ y < 45) → (zlb m y ↔ eStk h y)) 4 [some (2, 18), some (1, m), none, some (0, i)] [] n sh h := by
  intro k
  induction k with
  | zero => intros; exfalso; omega
  | succ k ih =>
    intro i m hk h0 h1 hp
    refine zt_iload_n dX1_stuckNow_4 rfl ?_
    refine zt_aload_n dX1_stuckNow_5 rfl ?_
    refine zt_get dX1_stuckNow_6 fl_X1_33 (zs_18 hS) ?_
    refine zt_icmp_ge (tgt := 61) dX1_stuckNow_9 (by decide) (by omega) (hm.fld (j := 6) (zs_18 hS) (by decide) (by decide) (by decide)) (fun c_9 => ?_) (fun c_9 => ?_)
    · refine zt_lload_n dX1_stuckNow_61 rfl ?_
      exact zt_lret dX1_stuckNow_62 ⟨rfl, rfl, rfl, m, rfl, fun y hy => (hp y hy).trans ⟨fun ⟨j, a, b, c⟩ => ⟨j, ⟨a.1, by omega⟩, b, c⟩, fun ⟨j, a, b, c⟩ => ⟨j, ⟨a.1, by omega⟩, b, c⟩⟩⟩
    · refine zt_iload_n dX1_stuckNow_12 rfl ?_
      refine zt_bipush dX1_stuckNow_13 (by decide) ?_
      refine zt_icmp_ge (tgt := 61) dX1_stuckNow_15 (by decide) (by omega) (by decide) (fun c_15 => ?_) (fun c_15 => ?_)
      · refine zt_lload_n dX1_stuckNow_61 rfl ?_
        exact zt_lret dX1_stuckNow_62 ⟨rfl, rfl, rfl, m, rfl, fun y hy => (hp y hy).trans ⟨fun ⟨j, a, b, c⟩ => ⟨j, ⟨a.1, by omega⟩, b, c⟩, fun ⟨j, a, b, c⟩ => ⟨j, ⟨a.1, by omega⟩, b, c⟩⟩⟩
      · refine zt_aload_n dX1_stuckNow_18 rfl ?_
        refine zt_get dX1_stuckNow_19 fl_X1_30 (zs_18 hS) ?_
        refine zt_aload_n dX1_stuckNow_22 rfl ?_
        refine zt_getv dX1_stuckNow_23 fl_X1_18 (zs_18 hS) (rf_18_4 hR) ?_
        refine zt_iload_n dX1_stuckNow_26 rfl ?_
        refine zt_iaload dX1_stuckNow_27 (zs_21 hS) (by decide) (by omega) (by omega) ?_
        refine zt_icmp_lt (tgt := 55) dX1_stuckNow_28 (by decide) (hm.fld (j := 1) (zs_18 hS) (by decide) (by decide) (by decide)) (hm.int (zs_21 hS) (by omega) (by omega)) (fun c_28 => ?_) (fun c_28 => ?_)
        · refine zt_iinc_3 dX1_stuckNow_55 (by decide) rfl ?_
          refine zt_goto (tgt := 4) dX1_stuckNow_58 (by decide) ?_
          exact ih (i + 1) m (by omega) (by omega) (by omega) (fun y hy => (hp y hy).trans ⟨fun ⟨j, a, b, c⟩ => ⟨j, ⟨a.1, by omega⟩, b, c⟩, fun ⟨j, a, b, c⟩ => ⟨j, ⟨a.1, by rcases (show j < i ∨ j = i by omega) with q | q; exact q; (subst q; omega)⟩, b, c⟩⟩)
        · refine zt_aload_n dX1_stuckNow_31 rfl ?_
          refine zt_get dX1_stuckNow_32 fl_X1_30 (zs_18 hS) ?_
          refine zt_aload_n dX1_stuckNow_35 rfl ?_
          refine zt_getv dX1_stuckNow_36 fl_X1_21 (zs_18 hS) (rf_18_5 hR) ?_
          refine zt_iload_n dX1_stuckNow_39 rfl ?_
          refine zt_iaload dX1_stuckNow_40 (zs_22 hS) (by decide) (by omega) (by omega) ?_
          refine zt_icmp_ge (tgt := 55) dX1_stuckNow_41 (by decide) (hm.fld (j := 1) (zs_18 hS) (by decide) (by decide) (by decide)) (hm.int (zs_22 hS) (by omega) (by omega)) (fun c_41 => ?_) (fun c_41 => ?_)
          · refine zt_iinc_3 dX1_stuckNow_55 (by decide) rfl ?_
            refine zt_goto (tgt := 4) dX1_stuckNow_58 (by decide) ?_
            exact ih (i + 1) m (by omega) (by omega) (by omega) (fun y hy => (hp y hy).trans ⟨fun ⟨j, a, b, c⟩ => ⟨j, ⟨a.1, by omega⟩, b, c⟩, fun ⟨j, a, b, c⟩ => ⟨j, ⟨a.1, by rcases (show j < i ∨ j = i by omega) with q | q; exact q; (subst q; omega)⟩, b, c⟩⟩)
          · refine zt_lload_n dX1_stuckNow_44 rfl ?_
            refine zt_lconst (v := 1) dX1_stuckNow_45 rfl ?_
            refine zt_aload_n dX1_stuckNow_46 rfl ?_
            refine zt_getv dX1_stuckNow_47 fl_X1_15 (zs_18 hS) (rf_18_3 hR) ?_
            refine zt_iload_n dX1_stuckNow_50 rfl ?_
            refine zt_iaload dX1_stuckNow_51 (zs_20 hS) (by decide) (by omega) (by omega) ?_
            refine zt_lshl dX1_stuckNow_52 ?_
            refine zt_lor dX1_stuckNow_53 ?_
            refine zt_lstore_n_1 dX1_stuckNow_54 (by decide) rfl ?_
            refine zt_iinc_3 dX1_stuckNow_55 (by decide) rfl ?_
            refine zt_goto (tgt := 4) dX1_stuckNow_58 (by decide) ?_
            exact ih (i + 1) _ (by omega) (by omega) (by omega) (fun y hy => (zlb_or (he.2.2.2.2 i h0 (by omega)) hy).trans ⟨fun q => q.elim (fun q => let ⟨j, a, b, c⟩ := (hp y hy).mp q; ⟨j, ⟨a.1, by omega⟩, b, c⟩) (fun q => ⟨i, ⟨h0, by omega⟩, ⟨by omega, by omega⟩, q⟩), fun ⟨j, a, b, c⟩ => by rcases (show j < i ∨ j = i by omega) with q | q; exact Or.inl ((hp y hy).mpr ⟨j, ⟨a.1, q⟩, b, c⟩); (subst q; exact Or.inr c)⟩)

set_option maxRecDepth 100000 in
set_option maxHeartbeats 4000000 in
theorem c_stk {d n : Nat} {sh : zSh} {h : zMem} (hS : zShp sh) (hR : zRf h) (he : eOK h) : zM yX1_stuckNow cX1_stuckNow 4 (some .long) (d + 0) 0 0 [(2, 18)] n sh h (fun r n1 sh1 h1 => n1 = n ∧ sh1 = sh ∧ h1 = h ∧ ∃ m, r = some (1, m) ∧ ∀ y, (0 ≤ y ∧ y < 45) → (zlb m y ↔ eStk h y)) := by
  refine zM.ofT2 (by decide +kernel) [some (2, 18), none, none, none] rfl (Nat.le_of_ble_eq_true rfl) ?_
  refine zt_rg (fun hm => ?_)
  refine zt_lconst (v := 0) dX1_stuckNow_0 rfl ?_
  refine zt_lstore_n_1 dX1_stuckNow_1 (by decide) rfl ?_
  refine zt_iconst dX1_stuckNow_2 ?_
  refine zt_istore_n_3 dX1_stuckNow_3 (by decide) rfl ?_
  exact l_stk hS hR he hm he.1 13 0 0 (by have := he.1; omega) (by omega) he.1.1 (fun y hy => ⟨fun q => absurd q zlb_0, fun ⟨j, a, _⟩ => by omega⟩)

theorem zup_znew {h : zMem} {a b j z : Int} {g : Int → Int} (hn : b ≠ a) : zup (znew h a g) b j z = znew (zup h b j z) a g := zmem_ext (fun x y => by
  unfold zup znew
  by_cases h1 : x = a
  · rw [if_neg (by omega), if_pos h1, if_pos h1]
  · rw [if_neg h1, if_neg h1])
theorem znew_new {h : zMem} {a : Int} {f g : Int → Int} : znew (znew h a f) a g = znew h a g := zmem_ext (fun x y => by
  unfold znew
  by_cases h1 : x = a
  · rw [if_pos h1, if_pos h1]
  · rw [if_neg h1, if_neg h1, if_neg h1])

set_option maxRecDepth 100000 in
set_option maxHeartbeats 4000000 in
theorem l_anc {d n : Nat} {sh : zSh} {h : zMem} {a m : Int} {S : Int → Prop} {g0 : Int → Int} (hS : zShp sh) (hR : zRf h) (hbell : 0 ≤ h 18 0 ∧ h 18 0 ≤ 2000000) (ha : 0 ≤ a ∧ a ≤ 3) (hp : ∀ y, (0 ≤ y ∧ y < 45) → (zlb m y ↔ S y))  : ∀ (k : Nat) (w : Int) (c : Int) (g : Int → Int), 9 - w < (k : Int) → 0 ≤ w → w ≤ 9 → 0 ≤ c ∧ c ≤ 1 → eDig g → eC S a g0 = zFor (eW S a) w 9 (g, c) → zT yX1_addNextColumn cX1_addNextColumn 8 none (d + 0) 0 0 (zq none n sh (znew (zup h 18 0 (h 18 0 + (eC S a g0).2)) 19 (eC S a g0).1)) 6 [some (2, 18), some (0, a), some (1, m), none, some (0, c), some (0, w), none, none] [] n sh (znew h 19 g) := by
  intro k
  induction k with
  | zero => intros; exfalso; omega
  | succ k ih =>
    intro w c g hk h0 h1 hc hd hr
    refine zt_iload dX1_addNextColumn_6 rfl ?_
    refine zt_bipush dX1_addNextColumn_8 (by decide) ?_
    refine zt_icmp_ge (tgt := 106) dX1_addNextColumn_10 (by decide) (by omega) (by decide) (fun c_10 => ?_) (fun c_10 => ?_)
    · refine zt_aload_n dX1_addNextColumn_106 rfl ?_
      refine zt_dup dX1_addNextColumn_107 (Nat.ne_of_beq_eq_false rfl) ?_
      refine zt_getv (v := h 18 0) dX1_addNextColumn_108 fl_X1_26 (zs_18 hS) (congrFun (znew_ne (by decide)) _) ?_
      refine zt_iload dX1_addNextColumn_111 rfl ?_
      refine zt_iadd dX1_addNextColumn_113 ?_
      refine zt_puti dX1_addNextColumn_114 fl_X1_26 rfl (zs_18 hS) (by omega) ?_
      exact zt_vret dX1_addNextColumn_117 ⟨rfl, rfl, rfl, by rw [zFor_e (by omega)] at hr; rw [hr]; exact zup_znew (by decide)⟩
    · refine zt_iload_n dX1_addNextColumn_13 rfl ?_
      refine zt_bipush dX1_addNextColumn_14 (by decide) ?_
      refine zt_imul dX1_addNextColumn_16 ?_
      refine zt_iload dX1_addNextColumn_17 rfl ?_
      refine zt_iadd dX1_addNextColumn_19 ?_
      refine zt_istore_6 dX1_addNextColumn_20 (by decide) rfl ?_
      refine zt_iload dX1_addNextColumn_22 rfl ?_
      refine zt_if_lt (tgt := 40) dX1_addNextColumn_24 (by decide) (by omega) (fun c_24 => ?_) (fun c_24 => ?_)
      · exfalso
        omega
      · refine zt_iload dX1_addNextColumn_27 rfl ?_
        refine zt_bipush dX1_addNextColumn_29 (by decide) ?_
        refine zt_iadd dX1_addNextColumn_31 ?_
        refine zt_aload_n dX1_addNextColumn_32 rfl ?_
        refine zt_getv dX1_addNextColumn_33 fl_X1_11 (zs_18 hS) (rf_18_2 (hR.new (by decide))) ?_
        refine zt_alenv (v := 45) dX1_addNextColumn_36 (zs_19 hS) (by decide) (by decide) rfl ?_
        refine zt_icmp_lt (tgt := 41) dX1_addNextColumn_37 (by decide) (by omega) (by decide) (fun c_37 => ?_) (fun c_37 => ?_)
        · refine zt_lload_n dX1_addNextColumn_41 rfl ?_
          refine zt_iload dX1_addNextColumn_42 rfl ?_
          refine zt_lushr dX1_addNextColumn_44 ?_
          refine zt_lconst (v := 1) dX1_addNextColumn_45 rfl ?_
          refine zt_land dX1_addNextColumn_46 ?_
          refine zt_lconst (v := 1) dX1_addNextColumn_47 rfl ?_
          refine zt_lc_ne (tgt := 58) dX1_addNextColumn_48 dX1_addNextColumn_49 (by decide) (zi64_in _) (by decide) (fun c_48 => ?_) (fun c_48 => ?_)
          · have q1 := hd (a * 9 + w) (by omega) (by omega)
            have q2 := hd (a * 9 + w + 9) (by omega) (by omega)
            refine zt_aload_n dX1_addNextColumn_58 rfl ?_
            refine zt_getv dX1_addNextColumn_59 fl_X1_11 (zs_18 hS) (rf_18_2 (hR.new (by decide))) ?_
            refine zt_iload dX1_addNextColumn_62 rfl ?_
            refine zt_ialoadv (v := g ((a * 9) + w)) dX1_addNextColumn_64 (zs_19 hS) (by decide) (by omega) (by omega) (congrFun znew_at _) ?_
            refine zt_aload_n dX1_addNextColumn_65 rfl ?_
            refine zt_getv dX1_addNextColumn_66 fl_X1_11 (zs_18 hS) (rf_18_2 (hR.new (by decide))) ?_
            refine zt_iload dX1_addNextColumn_69 rfl ?_
            refine zt_bipush dX1_addNextColumn_71 (by decide) ?_
            refine zt_iadd dX1_addNextColumn_73 ?_
            refine zt_ialoadv (v := g (((a * 9) + w) + 9)) dX1_addNextColumn_74 (zs_19 hS) (by decide) (by omega) (by omega) (congrFun znew_at _) ?_
            refine zt_iadd dX1_addNextColumn_75 ?_
            refine zt_iload dX1_addNextColumn_76 rfl ?_
            refine zt_iadd dX1_addNextColumn_78 ?_
            refine zt_istore_7 dX1_addNextColumn_79 (by decide) rfl ?_
            refine zt_aload_n dX1_addNextColumn_81 rfl ?_
            refine zt_getv dX1_addNextColumn_82 fl_X1_11 (zs_18 hS) (rf_18_2 (hR.new (by decide))) ?_
            refine zt_iload dX1_addNextColumn_85 rfl ?_
            refine zt_iload dX1_addNextColumn_87 rfl ?_
            refine zt_bipush dX1_addNextColumn_89 (by decide) ?_
            refine zt_irem dX1_addNextColumn_91 (by omega) (by decide) (by decide) ?_
            refine zt_topv (ztm10 (by omega)) ?_
            refine zt_iastore dX1_addNextColumn_92 (zs_19 hS) (by decide) (by omega) (by omega) (by omega) ?_
            refine zt_iload dX1_addNextColumn_93 rfl ?_
            refine zt_bipush dX1_addNextColumn_95 (by decide) ?_
            refine zt_idiv dX1_addNextColumn_97 (by omega) (by decide) (by decide) ?_
            refine zt_topv (ztm_p (by decide) (by omega)).2 ?_
            refine zt_istore_4 dX1_addNextColumn_98 (by decide) rfl ?_
            refine zt_iinc_5 dX1_addNextColumn_100 (by decide) rfl ?_
            refine zt_goto (tgt := 6) dX1_addNextColumn_103 (by decide) ?_
            refine zt_kill_6 ?_
            refine zt_kill_7 ?_
            rw [znew_up]
            have hn := eW_dig (S := S) (k := a) (w := w) (x := (g, c)) (by omega) (by omega) hd (by show 0 ≤ c ∧ c ≤ 1; omega)
            have hx : eW S a w (g, c) = (fun y => if y = a * 9 + w then (g (a * 9 + w) + g (a * 9 + w + 9) + c) % 10 else g y, (g (a * 9 + w) + g (a * 9 + w + 9) + c) / 10) := by unfold eW; rw [zite_f (fun q => c_48 ((zlb_t (by omega)).mpr ((hp _ (by omega)).mpr q)))]
            rw [hx] at hn
            exact ih (w + 1) _ _ (by omega) (by omega) (by omega) hn.2 hn.1 (by rw [hr, zFor_s (by omega), hx])
          · refine zt_iconst dX1_addNextColumn_52 ?_
            refine zt_istore_4 dX1_addNextColumn_53 (by decide) rfl ?_
            refine zt_goto (tgt := 100) dX1_addNextColumn_55 (by decide) ?_
            refine zt_iinc_5 dX1_addNextColumn_100 (by decide) rfl ?_
            refine zt_goto (tgt := 6) dX1_addNextColumn_103 (by decide) ?_
            refine zt_kill_6 ?_
            exact ih (w + 1) 0 g (by omega) (by omega) (by omega) (by omega) hd (by rw [hr, zFor_s (by omega)]; congr 1; unfold eW; rw [zite_t ((hp _ (by omega)).mp ((zlb_t (by omega)).mp c_48))])
        · exfalso
          omega

set_option maxRecDepth 100000 in
set_option maxHeartbeats 4000000 in
theorem c_anc {d n : Nat} {sh : zSh} {h : zMem} {a m : Int} {S : Int → Prop} (hS : zShp sh) (hR : zRf h) (hbell : 0 ≤ h 18 0 ∧ h 18 0 ≤ 2000000) (ha : 0 ≤ a ∧ a ≤ 3) (hp : ∀ y, (0 ≤ y ∧ y < 45) → (zlb m y ↔ S y)) (hdg : eDig (h 19)) : zF yX1_addNextColumn cX1_addNextColumn 8 none (d + 0) 0 0 [(2, 18), (0, a), (1, m)] n sh h none n sh (znew (zup h 18 0 (h 18 0 + (eC S a (h 19)).2)) 19 (eC S a (h 19)).1) := by
  refine zF.ofT (by decide +kernel) [some (2, 18), some (0, a), some (1, m), none, none, none, none, none] rfl (Nat.le_of_ble_eq_true rfl) ?_
  refine zt_iconst dX1_addNextColumn_0 ?_
  refine zt_istore_4 dX1_addNextColumn_1 (by decide) rfl ?_
  refine zt_iconst dX1_addNextColumn_3 ?_
  refine zt_istore_5 dX1_addNextColumn_4 (by decide) rfl ?_
  have e := l_anc (n := n) (d := d) hS hR hbell ha hp (g0 := h 19) 10 0 0 (h 19) (by omega) (by omega) (by omega) (by omega) hdg rfl
  rw [znew_self] at e
  exact e

/-- the engine's memory: bell, digits -/
def eM (h : zMem) (x : (Int → Int) × Int) : zMem := znew (zup h 18 0 x.2) 19 x.1
theorem eM_19 {h : zMem} {x : (Int → Int) × Int} : eM h x 19 = x.1 := znew_at
theorem eM_b {h : zMem} {x : (Int → Int) × Int} : eM h x 18 0 = x.2 := by unfold eM; rw [znew_ne (by decide)]; exact zupE
theorem eM_ne {h : zMem} {x : (Int → Int) × Int} {a j : Int} (ha : a ≠ 19) (hj : a ≠ 18 ∨ j ≠ 0) : eM h x a j = h a j := by
  unfold eM; rw [znew_ne ha]
  rcases hj with q | q
  · exact zupA q
  · exact zupJ q
theorem eM_0 {h : zMem} : eM h (h 19, h 18 0) = h := by
  unfold eM
  have : zup h 18 0 (h 18 0) = h := zmem_ext (fun x y => by unfold zup; split; (rename_i q; rw [q.1, q.2]); rfl)
  rw [this]; exact znew_self
theorem eM_s {h : zMem} {S : Int → Prop} {k : Int} {x : (Int → Int) × Int} : znew (zup (eM h x) 18 0 (eM h x 18 0 + (eC S k (eM h x 19)).2)) 19 (eC S k (eM h x 19)).1 = eM h (eK S k x) := by
  rw [eM_19, eM_b]
  unfold eM eK
  rw [zup_znew (by decide), znew_new]
  congr 1
  exact zmem_ext (fun a b => by unfold zup; split <;> rfl)
theorem eM_rf {h : zMem} {x : (Int → Int) × Int} (hR : zRf h) : zRf (eM h x) := (hR.up (by decide)).new (by decide)

set_option maxRecDepth 100000 in
set_option maxHeartbeats 4000000 in
theorem l_turn {d n : Nat} {sh : zSh} {h : zMem} {m : Int} {S : Int → Prop} {X : (Int → Int) × Int} (hS : zShp sh) (hR : zRf h) (ht : 0 ≤ h 18 1 ∧ h 18 1 ≤ 100000) (hp : ∀ y, (0 ≤ y ∧ y < 45) → (zlb m y ↔ S y))  : ∀ (k : Nat) (i : Int) (x : (Int → Int) × Int), 4 - i < (k : Int) → 0 ≤ i → i ≤ 4 → eDig x.1 → 0 ≤ x.2 ∧ x.2 ≤ 1000000 + i → X = zFor (eK S) i 4 x → zT yX1_turnOnce cX1_turnOnce 4 none (d + 1) 0 0 (zq none n sh (zup (eM h X) 18 1 (h 18 1 + 1))) 7 [some (2, 18), some (1, m), none, some (0, i)] [] n sh (eM h x) := by
  intro k
  induction k with
  | zero => intros; exfalso; omega
  | succ k ih =>
    intro i x hk h0 h1 hd hb hr
    refine zt_iload_n dX1_turnOnce_7 rfl ?_
    refine zt_iconst dX1_turnOnce_8 ?_
    refine zt_icmp_ge (tgt := 24) dX1_turnOnce_9 (by decide) (by omega) (by decide) (fun c_9 => ?_) (fun c_9 => ?_)
    · refine zt_aload_n dX1_turnOnce_24 rfl ?_
      refine zt_dup dX1_turnOnce_25 (Nat.ne_of_beq_eq_false rfl) ?_
      refine zt_getv (v := h 18 1) dX1_turnOnce_26 fl_X1_30 (zs_18 hS) (eM_ne (by decide) (Or.inr (by decide))) ?_
      refine zt_iconst dX1_turnOnce_29 ?_
      refine zt_iadd dX1_turnOnce_30 ?_
      refine zt_puti dX1_turnOnce_31 fl_X1_30 rfl (zs_18 hS) (by omega) ?_
      exact zt_vret dX1_turnOnce_34 ⟨rfl, rfl, rfl, by rw [hr, zFor_e (by omega)]⟩
    · refine zt_aload_n dX1_turnOnce_12 rfl ?_
      refine zt_iload_n dX1_turnOnce_13 rfl ?_
      refine zt_lload_n dX1_turnOnce_14 rfl ?_
      refine zt_callV2v dX1_turnOnce_15 ml_X1_40 (zs_18 hS) (Nat.le_of_ble_eq_true rfl) (zF.of_eq rfl rfl rfl eM_s (c_anc hS (eM_rf hR) (by rw [eM_b]; omega) (by omega) hp (by rw [eM_19]; exact hd))) ?_
      refine zt_iinc_3 dX1_turnOnce_18 (by decide) rfl ?_
      refine zt_goto (tgt := 7) dX1_turnOnce_21 (by decide) ?_
      have h9 := eC_dig (S := S) (k := i) (by omega) hd
      exact ih (i + 1) (eK S i x) (by omega) (by omega) (by omega) h9.1 (by have e : (eK S i x).2 = x.2 + (eC S i x.1).2 := rfl; omega) (by rw [hr, zFor_s (by omega)])

set_option maxRecDepth 100000 in
set_option maxHeartbeats 4000000 in
theorem c_turn {d n : Nat} {sh : zSh} {h : zMem} (hS : zShp sh) (hR : zRf h) (he : eOK h)  : zF yX1_turnOnce cX1_turnOnce 4 none (d + 1) 0 0 [(2, 18)] n sh h none n sh (zup (eM h (eT (eStk h) (h 19) (h 18 0))) 18 1 (h 18 1 + 1)) := by
  refine zF.ofT (by decide +kernel) [some (2, 18), none, none, none] rfl (Nat.le_of_ble_eq_true rfl) ?_
  refine zt_aload_n dX1_turnOnce_0 rfl ?_
  refine zt_callV0q dX1_turnOnce_1 ml_X1_36 (zs_18 hS) (Nat.le_of_ble_eq_true rfl) (c_stk hS hR he) ?_
  rintro r n1 sh1 h1 ⟨rfl, rfl, rfl, m, rfl, hp⟩
  simp only [Option.toList, List.cons_append, List.nil_append]
  refine zt_lstore_n_1 dX1_turnOnce_4 (by decide) rfl ?_
  refine zt_iconst dX1_turnOnce_5 ?_
  refine zt_istore_n_3 dX1_turnOnce_6 (by decide) rfl ?_
  have e := l_turn (d := d) (n := n1) (X := eT (eStk h1) (h1 19) (h1 18 0)) hS hR he.2.1 hp 5 0 (h1 19, h1 18 0) (by omega) (by omega) (by omega) he.2.2.2.1 (by have := he.2.2.1; show 0 ≤ h1 18 0 ∧ h1 18 0 ≤ 1000000 + 0; omega) rfl
  rw [eM_0] at e
  exact e

set_option maxRecDepth 100000 in
set_option maxHeartbeats 4000000 in
theorem l_num {d n : Nat} {sh : zSh} {h : zMem} {a : Int} (hS : zShp sh) (hR : zRf h) (ha : 0 ≤ a ∧ a ≤ 4)  : ∀ (k : Nat) (w : Int) (v : Int), w + 1 < (k : Int) → -1 ≤ w → w ≤ 8 → eNum (h 19) a = eNm (h 19) (a * 9) (w + 1).toNat v → zT yX1_numberOf cX1_numberOf 4 (some .int) (d + 0) 0 0 (zq (some (0, eNum (h 19) a)) n sh h) 16 [some (2, 18), some (0, a), some (0, v), some (0, w)] [] n sh h := by
  intro k
  induction k with
  | zero => intros; exfalso; omega
  | succ k ih =>
    intro w v hk h0 h1 hr
    refine zt_iload_n dX1_numberOf_16 rfl ?_
    refine zt_if_lt (tgt := 43) dX1_numberOf_17 (by decide) (by omega) (fun c_17 => ?_) (fun c_17 => ?_)
    · refine zt_iload_n dX1_numberOf_43 rfl ?_
      exact zt_iret dX1_numberOf_44 ⟨by rw [hr, show (w + 1).toNat = 0 by omega]; rfl, rfl, rfl, rfl⟩
    · refine zt_iload_n dX1_numberOf_20 rfl ?_
      refine zt_bipush dX1_numberOf_21 (by decide) ?_
      refine zt_imul dX1_numberOf_23 ?_
      refine zt_aload_n dX1_numberOf_24 rfl ?_
      refine zt_getv dX1_numberOf_25 fl_X1_11 (zs_18 hS) (rf_18_2 hR) ?_
      refine zt_iload_n dX1_numberOf_28 rfl ?_
      refine zt_bipush dX1_numberOf_29 (by decide) ?_
      refine zt_imul dX1_numberOf_31 ?_
      refine zt_iload_n dX1_numberOf_32 rfl ?_
      refine zt_iadd dX1_numberOf_33 ?_
      refine zt_iaload dX1_numberOf_34 (zs_19 hS) (by decide) (by omega) (by omega) ?_
      refine zt_iadd dX1_numberOf_35 ?_
      refine zt_istore_n_2 dX1_numberOf_36 (by decide) rfl ?_
      refine zt_iinc_3 dX1_numberOf_37 (by decide) rfl ?_
      refine zt_goto (tgt := 16) dX1_numberOf_40 (by decide) ?_
      exact ih (w + (-1)) _ (by omega) (by omega) (by omega) (by rw [hr, show (w + 1).toNat = (w + (-1) + 1).toNat + 1 by omega]; show eNm _ _ (w + (-1) + 1).toNat (v * 10 + h 19 (a * 9 + ((w + (-1) + 1).toNat : Int))) = _; rw [show ((w + (-1) + 1).toNat : Int) = w by omega])

set_option maxRecDepth 100000 in
set_option maxHeartbeats 4000000 in
theorem c_num {d n : Nat} {sh : zSh} {h : zMem} {a : Int} (hS : zShp sh) (hR : zRf h) (ha : 0 ≤ a ∧ a ≤ 4) : zF yX1_numberOf cX1_numberOf 4 (some .int) (d + 0) 0 0 [(2, 18), (0, a)] n sh h (some (0, eNum (h 19) a)) n sh h := by
  refine zF.ofT (by decide +kernel) [some (2, 18), some (0, a), none, none] rfl (Nat.le_of_ble_eq_true rfl) ?_
  refine zt_iload_n dX1_numberOf_0 rfl ?_
  refine zt_if_lt (tgt := 9) dX1_numberOf_1 (by decide) (by omega) (fun c_1 => ?_) (fun c_1 => ?_)
  · exfalso
    omega
  · refine zt_iload_n dX1_numberOf_4 rfl ?_
    refine zt_iconst dX1_numberOf_5 ?_
    refine zt_icmp_lt (tgt := 11) dX1_numberOf_6 (by decide) (by omega) (by decide) (fun c_6 => ?_) (fun c_6 => ?_)
    · refine zt_iconst dX1_numberOf_11 ?_
      refine zt_istore_n_2 dX1_numberOf_12 (by decide) rfl ?_
      refine zt_bipush dX1_numberOf_13 (by decide) ?_
      refine zt_istore_n_3 dX1_numberOf_15 (by decide) rfl ?_
      exact l_num hS hR ha 10 8 0 (by omega) (by omega) (by omega) rfl
    · exfalso
      omega

def eTel (h : zMem) (x a b : Int) : zMem := zup (zup (zup (zup h 20 (h 18 6) (x / 10 * 9 + x % 10)) 21 (h 18 6) (h 18 1 + a)) 22 (h 18 6) (h 18 1 + a + b)) 18 6 (h 18 6 + 1)
abbrev eTok (h : zMem) (x : Int) : Prop := h 18 6 < 12 ∧ 0 ≤ x ∧ x / 10 < 5 ∧ x % 10 < 9

set_option maxRecDepth 100000 in
set_option maxHeartbeats 4000000 in
theorem c_tst {d n : Nat} {sh : zSh} {h : zMem} {x a b : Int} (hS : zShp sh) (hR : zRf h) (he : eOK h) (hx : zi32 x) (ha : 0 ≤ a ∧ a ≤ 50) (hb : 1 ≤ b ∧ b ≤ 50) : zF yX1_tellStick cX1_tellStick 4 (some .boolean) (d + 0) 0 0 [(2, 18), (0, x), (0, a), (0, b)] n sh h (some (0, zb (eTok h x))) n sh (if eTok h x then eTel h x a b else h) := by
  refine zF.ofT (by decide +kernel) [some (2, 18), some (0, x), some (0, a), some (0, b)] rfl (Nat.le_of_ble_eq_true rfl) ?_
  have he1 := he.1
  have he2 := he.2.1
  refine zt_aload_n dX1_tellStick_0 rfl ?_
  refine zt_get dX1_tellStick_1 fl_X1_33 (zs_18 hS) ?_
  refine zt_bipush dX1_tellStick_4 (by decide) ?_
  refine zt_icmp_ge (tgt := 30) dX1_tellStick_6 (by decide) (by omega) (by decide) (fun c_6 => ?_) (fun c_6 => ?_)
  · refine zt_iconst dX1_tellStick_30 ?_
    exact zt_zret dX1_tellStick_31 (by decide) ⟨zb0 (by omega), rfl, rfl, by rw [if_neg (by omega)]⟩
  · refine zt_iload_n dX1_tellStick_9 rfl ?_
    refine zt_if_lt (tgt := 30) dX1_tellStick_10 (by decide) (by omega) (fun c_10 => ?_) (fun c_10 => ?_)
    · refine zt_iconst dX1_tellStick_30 ?_
      exact zt_zret dX1_tellStick_31 (by decide) ⟨zb0 (by omega), rfl, rfl, by rw [if_neg (by omega)]⟩
    · refine zt_iload_n dX1_tellStick_13 rfl ?_
      refine zt_bipush dX1_tellStick_14 (by decide) ?_
      refine zt_idiv dX1_tellStick_16 (by omega) (by decide) (by decide) ?_
      refine zt_topv (ztm_p (by decide) (by omega)).2 ?_
      refine zt_iconst dX1_tellStick_17 ?_
      refine zt_icmp_ge (tgt := 30) dX1_tellStick_18 (by decide) (by omega) (by decide) (fun c_18 => ?_) (fun c_18 => ?_)
      · refine zt_iconst dX1_tellStick_30 ?_
        exact zt_zret dX1_tellStick_31 (by decide) ⟨zb0 (by omega), rfl, rfl, by rw [if_neg (by omega)]⟩
      · refine zt_iload_n dX1_tellStick_21 rfl ?_
        refine zt_bipush dX1_tellStick_22 (by decide) ?_
        refine zt_irem dX1_tellStick_24 (by omega) (by decide) (by decide) ?_
        refine zt_topv (ztm10 (by omega)) ?_
        refine zt_bipush dX1_tellStick_25 (by decide) ?_
        refine zt_icmp_lt (tgt := 32) dX1_tellStick_27 (by decide) (by omega) (by decide) (fun c_27 => ?_) (fun c_27 => ?_)
        · refine zt_aload_n dX1_tellStick_32 rfl ?_
          refine zt_getv dX1_tellStick_33 fl_X1_15 (zs_18 hS) (rf_18_3 hR) ?_
          refine zt_aload_n dX1_tellStick_36 rfl ?_
          refine zt_get dX1_tellStick_37 fl_X1_33 (zs_18 hS) ?_
          refine zt_iload_n dX1_tellStick_40 rfl ?_
          refine zt_bipush dX1_tellStick_41 (by decide) ?_
          refine zt_idiv dX1_tellStick_43 (by omega) (by decide) (by decide) ?_
          refine zt_topv (ztm_p (by decide) (by omega)).2 ?_
          refine zt_bipush dX1_tellStick_44 (by decide) ?_
          refine zt_imul dX1_tellStick_46 ?_
          refine zt_iload_n dX1_tellStick_47 rfl ?_
          refine zt_bipush dX1_tellStick_48 (by decide) ?_
          refine zt_irem dX1_tellStick_50 (by omega) (by decide) (by decide) ?_
          refine zt_topv (ztm10 (by omega)) ?_
          refine zt_iadd dX1_tellStick_51 ?_
          refine zt_iastore dX1_tellStick_52 (zs_20 hS) (by decide) (by omega) (by omega) (by omega) ?_
          refine zt_aload_n dX1_tellStick_53 rfl ?_
          refine zt_getv dX1_tellStick_54 fl_X1_18 (zs_18 hS) (rf_18_4 (hR.upA (by decide))) ?_
          refine zt_aload_n dX1_tellStick_57 rfl ?_
          refine zt_getv (v := h 18 6) dX1_tellStick_58 fl_X1_33 (zs_18 hS) ((zupA (by decide)).trans rfl) ?_
          refine zt_aload_n dX1_tellStick_61 rfl ?_
          refine zt_getv (v := h 18 1) dX1_tellStick_62 fl_X1_30 (zs_18 hS) ((zupA (by decide)).trans rfl) ?_
          refine zt_iload_n dX1_tellStick_65 rfl ?_
          refine zt_iadd dX1_tellStick_66 ?_
          refine zt_iastore dX1_tellStick_67 (zs_21 hS) (by decide) (by omega) (by omega) (by omega) ?_
          refine zt_aload_n dX1_tellStick_68 rfl ?_
          refine zt_getv dX1_tellStick_69 fl_X1_21 (zs_18 hS) (rf_18_5 ((hR.upA (by decide)).upA (by decide))) ?_
          refine zt_aload_n dX1_tellStick_72 rfl ?_
          refine zt_getv (v := h 18 6) dX1_tellStick_73 fl_X1_33 (zs_18 hS) ((zupA (by decide)).trans ((zupA (by decide)).trans rfl)) ?_
          refine zt_aload_n dX1_tellStick_76 rfl ?_
          refine zt_getv (v := h 18 1) dX1_tellStick_77 fl_X1_30 (zs_18 hS) ((zupA (by decide)).trans ((zupA (by decide)).trans rfl)) ?_
          refine zt_iload_n dX1_tellStick_80 rfl ?_
          refine zt_iadd dX1_tellStick_81 ?_
          refine zt_iload_n dX1_tellStick_82 rfl ?_
          refine zt_iadd dX1_tellStick_83 ?_
          refine zt_iastore dX1_tellStick_84 (zs_22 hS) (by decide) (by omega) (by omega) (by omega) ?_
          refine zt_aload_n dX1_tellStick_85 rfl ?_
          refine zt_dup dX1_tellStick_86 (Nat.ne_of_beq_eq_false rfl) ?_
          refine zt_getv (v := h 18 6) dX1_tellStick_87 fl_X1_33 (zs_18 hS) ((zupA (by decide)).trans ((zupA (by decide)).trans ((zupA (by decide)).trans rfl))) ?_
          refine zt_iconst dX1_tellStick_90 ?_
          refine zt_iadd dX1_tellStick_91 ?_
          refine zt_puti dX1_tellStick_92 fl_X1_33 rfl (zs_18 hS) (by omega) ?_
          refine zt_iconst dX1_tellStick_95 ?_
          exact zt_zret dX1_tellStick_96 (by decide) ⟨zb1 (by omega), rfl, rfl, by rw [if_pos (by omega)]; rfl⟩
        · refine zt_iconst dX1_tellStick_30 ?_
          exact zt_zret dX1_tellStick_31 (by decide) ⟨zb0 (by omega), rfl, rfl, by rw [if_neg (by omega)]⟩

def eSd (c : Int → Int) (y : Int) : Int := c (y / 9) / zten (y % 9) % 10
theorem zten_div {x w : Int} (hx : 0 ≤ x) (hw : 0 ≤ w) : x / zten w / 10 = x / zten (w + 1) := by rw [zten_s hw, Int.ediv_ediv_of_nonneg (Int.le_of_lt (zten_pos w))]

set_option maxRecDepth 100000 in
set_option maxHeartbeats 4000000 in
theorem l_set1 {d n : Nat} {sh : zSh} {h : zMem} {i : Int} {Q : Option zV → Nat → zSh → zMem → Prop} (hS : zShp sh) (hR : zRf h) (hc : ∀ k, 0 ≤ k → k ≤ 4 → 0 ≤ h 24 k ∧ h 24 k < 1000000000) (hi0 : 0 ≤ i ∧ i ≤ 4) (hK : ∀ g1 : Int → Int, (∀ y, 0 ≤ y → y < (i + 1) * 9 → g1 y = eSd (h 24) y) → zT yX1_setTo cX1_setTo 6 none (d + 0) 0 0 Q 61 [some (2, 18), some (2, 24), some (0, i), none, none, none] [] n sh (znew h 19 g1))  : ∀ (k : Nat) (w : Int) (g : Int → Int), 9 - w < (k : Int) → 0 ≤ w → w ≤ 9 → (∀ y, 0 ≤ y → y < i * 9 + w → g y = eSd (h 24) y) → zT yX1_setTo cX1_setTo 6 none (d + 0) 0 0 Q 24 [some (2, 18), some (2, 24), some (0, i), some (1, h 24 i / zten w), none, some (0, w)] [] n sh (znew h 19 g) := by
  intro k
  induction k with
  | zero => intros; exfalso; omega
  | succ k ih =>
    intro w g hk h0 h1 hg
    have hi := hc i (by omega) (by omega)
    have hq : 0 ≤ h 24 i / zten w ∧ h 24 i / zten w ≤ h 24 i := ⟨Int.ediv_nonneg (by omega) (Int.le_of_lt (zten_pos w)), Int.ediv_le_self _ (by omega)⟩
    refine zt_iload dX1_setTo_24 rfl ?_
    refine zt_bipush dX1_setTo_26 (by decide) ?_
    refine zt_icmp_ge (tgt := 61) dX1_setTo_28 (by decide) (by omega) (by decide) (fun c_28 => ?_) (fun c_28 => ?_)
    · refine zt_kill_5 ?_
      refine zt_kill_3 ?_
      exact hK g (fun y a b => hg y a (by omega))
    · refine zt_aload_n dX1_setTo_31 rfl ?_
      refine zt_getv dX1_setTo_32 fl_X1_11 (zs_18 hS) (rf_18_2 (hR.new (by decide))) ?_
      refine zt_iload_n dX1_setTo_35 rfl ?_
      refine zt_bipush dX1_setTo_36 (by decide) ?_
      refine zt_imul dX1_setTo_38 ?_
      refine zt_iload dX1_setTo_39 rfl ?_
      refine zt_iadd dX1_setTo_41 ?_
      refine zt_lload_n dX1_setTo_42 rfl ?_
      refine zt_ldc2 dX1_setTo_43 kc_X1_24 ?_
      refine zt_lrem dX1_setTo_46 (by omega) (by decide) (by decide) ?_
      refine zt_topv (ztm_p (by decide) (by omega)).1 ?_
      refine zt_l2i dX1_setTo_47 ?_
      refine zt_iastore dX1_setTo_48 (zs_19 hS) (by decide) (by omega) (by omega) (by omega) ?_
      refine zt_lload_n dX1_setTo_49 rfl ?_
      refine zt_ldc2 dX1_setTo_50 kc_X1_24 ?_
      refine zt_ldiv dX1_setTo_53 (by omega) (by decide) (by decide) ?_
      refine zt_topv ((ztm_p (by decide) (by omega)).2.trans (zten_div (by omega) h0)) ?_
      refine zt_lstore_n_3 dX1_setTo_54 (by decide) rfl ?_
      refine zt_iinc_5 dX1_setTo_55 (by decide) rfl ?_
      refine zt_goto (tgt := 24) dX1_setTo_58 (by decide) ?_
      rw [znew_up]
      exact ih (w + 1) _ (by omega) (by omega) (by omega) (fun y a b => by show (if y = i * 9 + w then _ else _) = _; by_cases q : y = i * 9 + w; (rw [if_pos q]; unfold eSd; rw [show y / 9 = i by omega, show y % 9 = w by omega]); (rw [if_neg q]; exact hg y a (by omega)))

set_option maxRecDepth 100000 in
set_option maxHeartbeats 4000000 in
theorem l_set2 {d n : Nat} {sh : zSh} {h : zMem} (hS : zShp sh) (hR : zRf h) (hc : ∀ k, 0 ≤ k → k ≤ 4 → 0 ≤ h 24 k ∧ h 24 k < 1000000000)  : ∀ (k : Nat) (i : Int) (g : Int → Int), 5 - i < (k : Int) → 0 ≤ i → i ≤ 5 → (∀ y, 0 ≤ y → y < i * 9 → g y = eSd (h 24) y) → zT yX1_setTo cX1_setTo 6 none (d + 0) 0 0 (fun r n1 sh1 h1 => r = none ∧ n1 = n ∧ sh1 = sh ∧ ∃ g : Int → Int, (∀ y, 0 ≤ y → y < 45 → g y = eSd (h 24) y) ∧ h1 = zup (zup (zup (znew h 19 g) 18 0 0) 18 1 0) 18 6 0) 2 [some (2, 18), some (2, 24), some (0, i), none, none, none] [] n sh (znew h 19 g) := by
  intro k
  induction k with
  | zero => intros; exfalso; omega
  | succ k ih =>
    intro i g hk h0 h1 hg
    refine zt_iload_n dX1_setTo_2 rfl ?_
    refine zt_iconst dX1_setTo_3 ?_
    refine zt_icmp_ge (tgt := 67) dX1_setTo_4 (by decide) (by omega) (by decide) (fun c_4 => ?_) (fun c_4 => ?_)
    · refine zt_aload_n dX1_setTo_67 rfl ?_
      refine zt_iconst dX1_setTo_68 ?_
      refine zt_puti dX1_setTo_69 fl_X1_26 rfl (zs_18 hS) (by decide) ?_
      refine zt_aload_n dX1_setTo_72 rfl ?_
      refine zt_iconst dX1_setTo_73 ?_
      refine zt_puti dX1_setTo_74 fl_X1_30 rfl (zs_18 hS) (by decide) ?_
      refine zt_aload_n dX1_setTo_77 rfl ?_
      refine zt_iconst dX1_setTo_78 ?_
      refine zt_puti dX1_setTo_79 fl_X1_33 rfl (zs_18 hS) (by decide) ?_
      exact zt_vret dX1_setTo_82 ⟨rfl, rfl, rfl, g, fun y a b => hg y a (by omega), rfl⟩
    · refine zt_iload_n dX1_setTo_7 rfl ?_
      refine zt_aload_n dX1_setTo_8 rfl ?_
      refine zt_alenv (v := 5) dX1_setTo_9 (zs_24 hS) (by decide) (by decide) rfl ?_
      refine zt_icmp_ge (tgt := 19) dX1_setTo_10 (by decide) (by omega) (by decide) (fun c_10 => ?_) (fun c_10 => ?_)
      · exfalso
        omega
      · refine zt_aload_n dX1_setTo_13 rfl ?_
        refine zt_iload_n dX1_setTo_14 rfl ?_
        refine zt_laloadv (v := h 24 i) dX1_setTo_15 (zs_24 hS) (by decide) (by omega) (by omega) (congrFun (znew_ne (by decide)) _) ?_
        refine zt_goto (tgt := 20) dX1_setTo_16 (by decide) ?_
        refine zt_lstore_n_3 dX1_setTo_20 (by decide) rfl ?_
        refine zt_iconst dX1_setTo_21 ?_
        refine zt_istore_5 dX1_setTo_22 (by decide) rfl ?_
        refine zt_mem rfl ?_
        have hq0 : h 24 i = h 24 i / zten 0 := by rw [show zten 0 = 1 from rfl, Int.ediv_one]
        rw [hq0]
        refine l_set1 hS hR hc (by omega) (fun g1 hg1 => ?_) 10 0 g (by omega) (by omega) (by omega) (fun y a b => hg y a (by omega))
        refine zt_iinc_2 dX1_setTo_61 (by decide) rfl ?_
        refine zt_goto (tgt := 2) dX1_setTo_64 (by decide) ?_
        exact ih (i + 1) g1 (by omega) (by omega) (by omega) (fun y a b => hg1 y a (by omega))

set_option maxRecDepth 100000 in
set_option maxHeartbeats 4000000 in
theorem c_setTo {d n : Nat} {sh : zSh} {h : zMem} (hS : zShp sh) (hR : zRf h) (hc : ∀ k, 0 ≤ k → k ≤ 4 → 0 ≤ h 24 k ∧ h 24 k < 1000000000) : zM yX1_setTo cX1_setTo 6 none (d + 0) 0 0 [(2, 18), (2, 24)] n sh h (fun r n1 sh1 h1 => r = none ∧ n1 = n ∧ sh1 = sh ∧ ∃ g : Int → Int, (∀ y, 0 ≤ y → y < 45 → g y = eSd (h 24) y) ∧ h1 = zup (zup (zup (znew h 19 g) 18 0 0) 18 1 0) 18 6 0) := by
  refine zM.ofT2 (by decide +kernel) [some (2, 18), some (2, 24), none, none, none, none] rfl (Nat.le_of_ble_eq_true rfl) ?_
  refine zt_iconst dX1_setTo_0 ?_
  refine zt_istore_n_2 dX1_setTo_1 (by decide) rfl ?_
  have e := l_set2 (d := d) (n := n) hS hR hc 6 0 (h 19) (by omega) (by omega) (by omega) (fun y a b => by omega)
  rw [znew_self] at e
  exact e
