def scn (u v : Int) (T : Int → Int) (L : Int) : Nat → Int → Int
  | 0, p => p
  | f + 1, p => if p < L ∧ u ≤ T p ∧ T p ≤ v then scn u v T L f (p + 1) else p
/-- the first place from p on whose byte isn't from u to v -/
def sc (u v : Int) (T : Int → Int) (L p : Int) : Int := scn u v T L (L - p).toNat p
theorem sc_s {u v L p : Int} {T : Int → Int} (h : p < L ∧ u ≤ T p ∧ T p ≤ v) : sc u v T L p = sc u v T L (p + 1) := by
  unfold sc; rw [show (L - p).toNat = (L - (p + 1)).toNat + 1 by omega, scn, if_pos h]
theorem sc_e {u v L p : Int} {T : Int → Int} (h : ¬ (p < L ∧ u ≤ T p ∧ T p ≤ v)) : sc u v T L p = p := by
  unfold sc
  cases (L - p).toNat with
  | zero => rfl
  | succ f => rw [scn, if_neg h]
theorem sc_ok {u v L : Int} {T : Int → Int} : ∀ (k : Nat) (p : Int), L - p ≤ k → p ≤ L → (p ≤ sc u v T L p ∧ sc u v T L p ≤ L) ∧ ¬ (sc u v T L p < L ∧ u ≤ T (sc u v T L p) ∧ T (sc u v T L p) ≤ v) ∧ ∀ j, p ≤ j → j < sc u v T L p → u ≤ T j ∧ T j ≤ v
  | 0, p, h, h2 => by
    rw [sc_e (by omega)]; exact ⟨by omega, by omega, fun j a b => by omega⟩
  | k + 1, p, h, h2 => by
    by_cases q : p < L ∧ u ≤ T p ∧ T p ≤ v
    · rw [sc_s q]
      have ih := sc_ok (u := u) (v := v) (L := L) (T := T) k (p + 1) (by omega) (by omega)
      refine ⟨by omega, ih.2.1, fun j a b => ?_⟩
      by_cases e : j = p
      · subst e; exact q.2
      · exact ih.2.2 j (by omega) b
    · rw [sc_e q]; exact ⟨by omega, q, fun j a b => by omega⟩
theorem sc_bd {u v L p : Int} {T : Int → Int} (h : p ≤ L) : p ≤ sc u v T L p ∧ sc u v T L p ≤ L := (sc_ok (L - p).toNat p (by omega) h).1
theorem sc_stop {u v L p : Int} {T : Int → Int} (h : p ≤ L) : ¬ (sc u v T L p < L ∧ u ≤ T (sc u v T L p) ∧ T (sc u v T L p) ≤ v) := (sc_ok (L - p).toNat p (by omega) h).2.1
def nmn (T : Int → Int) (L : Int) : Nat → Int → Int → Int
  | 0, _, a => a
  | f + 1, p, a => if p < L ∧ 48 ≤ T p ∧ T p ≤ 57 then nmn T L f (p + 1) (if a * 10 + T p - 48 < 1000000 then a * 10 + T p - 48 else 1000000) else a
/-- the number whose digits stand from p on, a being ahead; 1000000 for all above 999999 -/
def nv (T : Int → Int) (L p a : Int) : Int := nmn T L (L - p).toNat p a
theorem nv_s {L p a : Int} {T : Int → Int} (h : p < L ∧ 48 ≤ T p ∧ T p ≤ 57) : nv T L p a = nv T L (p + 1) (if a * 10 + T p - 48 < 1000000 then a * 10 + T p - 48 else 1000000) := by
  unfold nv; rw [show (L - p).toNat = (L - (p + 1)).toNat + 1 by omega, nmn, if_pos h]
theorem nv_e {L p a : Int} {T : Int → Int} (h : ¬ (p < L ∧ 48 ≤ T p ∧ T p ≤ 57)) : nv T L p a = a := by
  unfold nv
  cases (L - p).toNat with
  | zero => rfl
  | succ f => rw [nmn, if_neg h]
theorem nmn_b {T : Int → Int} {L : Int} : ∀ (f : Nat) (p a : Int), 0 ≤ a ∧ a ≤ 1000000 → 0 ≤ nmn T L f p a ∧ nmn T L f p a ≤ 1000000
  | 0, p, a, h => h
  | f + 1, p, a, h => by
    unfold nmn; split
    · exact nmn_b f _ _ (by split <;> omega)
    · exact h
theorem nv_b {T : Int → Int} {L p : Int} : 0 ≤ nv T L p 0 ∧ nv T L p 0 ≤ 1000000 := nmn_b _ _ _ (by decide)
/-- the word from s to e is the i-th -/
def isw (T : Int → Int) (i : Nat) (s e : Int) : Prop := ((zStrL.getD i 0 : Nat) : Int) = e - s ∧ ∀ j : Int, 0 ≤ j → j < ((zStrL.getD i 0 : Nat) : Int) → zsb i j = T (s + j)
noncomputable def wit (T : Int → Int) (i : Nat) (s e x z : Int) : Int := @ite Int (isw T i s e) (Classical.propDecidable _) x z
theorem wit_t {T : Int → Int} {i : Nat} {s e x z : Int} (h : isw T i s e) : wit T i s e x z = x := if_pos h
theorem wit_f {T : Int → Int} {i : Nat} {s e x z : Int} (h : ¬ isw T i s e) : wit T i s e x z = z := if_neg h
theorem wit_or {T : Int → Int} {i : Nat} {s e x z : Int} : wit T i s e x z = x ∨ wit T i s e x z = z := by
  by_cases h : isw T i s e
  · left; exact wit_t h
  · right; exact wit_f h
/-- the number of the word, -1 for others -/
noncomputable def wix (T : Int → Int) (s e : Int) : Int := wit T 0 s e 0 (wit T 1 s e 1 (wit T 2 s e 2 (wit T 3 s e 3 (wit T 4 s e 4 (wit T 5 s e 5 (wit T 6 s e 6 (wit T 7 s e 7 (-1))))))))
theorem wix_b {T : Int → Int} {s e : Int} : -1 ≤ wix T s e ∧ wix T s e ≤ 7 := by
  unfold wix
  rcases wit_or (T := T) (i := 0) (s := s) (e := e) (x := 0) with h | h <;> rw [h]; omega
  rcases wit_or (T := T) (i := 1) (s := s) (e := e) (x := 1) with h | h <;> rw [h]; omega
  rcases wit_or (T := T) (i := 2) (s := s) (e := e) (x := 2) with h | h <;> rw [h]; omega
  rcases wit_or (T := T) (i := 3) (s := s) (e := e) (x := 3) with h | h <;> rw [h]; omega
  rcases wit_or (T := T) (i := 4) (s := s) (e := e) (x := 4) with h | h <;> rw [h]; omega
  rcases wit_or (T := T) (i := 5) (s := s) (e := e) (x := 5) with h | h <;> rw [h]; omega
  rcases wit_or (T := T) (i := 6) (s := s) (e := e) (x := 6) with h | h <;> rw [h]; omega
  rcases wit_or (T := T) (i := 7) (s := s) (e := e) (x := 7) with h | h <;> rw [h] <;> omega
/-- TOKENS: where one begins, its end, its kind, its number -/
def kS (T : Int → Int) (L p : Int) : Int := sc 32 32 T L p
def kE (T : Int → Int) (L p : Int) : Int := let s := kS T L p
  if L ≤ s then s else if 97 ≤ T s ∧ T s ≤ 122 then sc 97 122 T L s else if 48 ≤ T s ∧ T s ≤ 57 then sc 48 57 T L s else s + 1
noncomputable def kK (T : Int → Int) (L p : Int) : Int := let s := kS T L p
  if L ≤ s then 0 else if 97 ≤ T s ∧ T s ≤ 122 then (if wix T s (sc 97 122 T L s) = -1 then 1 else 3 + wix T s (sc 97 122 T L s))
  else if 48 ≤ T s ∧ T s ≤ 57 then (if 999999 < nv T L s 0 then 1 else 2) else if 0 ≤ sgI (T s) then T s else 1
def kN (T : Int → Int) (L p : Int) : Int := nv T L (kS T L p) 0
theorem tat_x {h h' : zMem} {p : Int} (e1 : h' 1 = h 1) (e2 : h' 2 = h 2) : tat h' p = tat h p := by unfold tat; rw [e1, e2]
theorem tat_i {h : zMem} {p u v : Int} (h0 : 0 ≤ p) (hu : 0 ≤ u) : (u ≤ tat h p ∧ tat h p ≤ v) ↔ (p < h 1 1 ∧ u ≤ h 2 p ∧ h 2 p ≤ v) := by
  unfold tat; split <;> omega
/-- the TEXT's bytes -/
def tOK (h : zMem) : Prop := (0 ≤ h 1 1 ∧ h 1 1 ≤ 200) ∧ ∀ p, 0 ≤ p → p < h 1 1 → 0 ≤ h 2 p ∧ h 2 p ≤ 255
theorem tat_r {h : zMem} {p : Int} (hT : tOK h) : -1 ≤ tat h p ∧ tat h p ≤ 255 := by
  unfold tat; split
  · rename_i q; have := hT.2 p q.1 q.2; omega
  · omega
theorem zup_as {h : zMem} {a j z : Int} : zup h a j z = znew h a (fun y => if y = j then z else h a y) := zmem_ext (fun x y => by
  unfold zup znew
  by_cases q : x = a
  · subst q; simp
  · simp [q])
/-- a Parser's fields -/
def lxW (h : zMem) (e k : Int) : zMem := znew h 3 (fun y => if y = 3 then e else if y = 5 then k else h 3 y)
def lxN (h : zMem) (e k z : Int) : zMem := znew h 3 (fun y => if y = 3 then e else if y = 5 then k else if y = 6 then z else h 3 y)

set_option maxRecDepth 100000 in
set_option maxHeartbeats 4000000 in
theorem l_isw {d n : Nat} {sh : zSh} {h : zMem} {b : Int} {i : Nat} (hS : zShp sh) (hR : zRf h) (hT : tOK h) (hb : zSc b i) (hp : 0 ≤ h 3 4 ∧ h 3 4 ≤ h 3 3 ∧ h 3 3 ≤ h 1 1) (hl : 0 ≤ h 1 1 ∧ h 1 1 ≤ 200) (hz : zStrL.getD i 0 ≤ 36) (hle : ((zStrL.getD i 0 : Nat) : Int) = h 3 3 - h 3 4)  : ∀ (k : Nat) (j : Int), ((zStrL.getD i 0 : Nat) : Int) - j < (k : Int) → (0 ≤ j ∧ j ≤ ((zStrL.getD i 0 : Nat) : Int)) → (∀ q, 0 ≤ q → q < j → zsb i q = h 2 (h 3 4 + q)) → zT yX4_isWord cX4_isWord 3 (some .boolean) (d + 4) 0 0 (zq (some (0, zbp (isw (h 2) i (h 3 4) (h 3 3)))) n sh h) 20 [some (2, 3), some (2, b), some (0, j)] [] n sh h := by
  intro k
  induction k with
  | zero => intros; exfalso; omega
  | succ k ih =>
    intro j hk h0 ha
    refine zt_iload_n dX4_isWord_20 rfl ?_
    refine zt_aload_n dX4_isWord_21 rfl ?_
    refine zt_callVS0r dX4_isWord_22 ml_X4_128 hb (Nat.le_of_ble_eq_true rfl) (c_slen hb) ?_
    refine zt_icmp_ge (tgt := 57) dX4_isWord_25 (by decide) (by omega) (by omega) (fun c_25 => ?_) (fun c_25 => ?_)
    · refine zt_iconst dX4_isWord_57 ?_
      exact zt_zret dX4_isWord_58 (by decide) ⟨by rw [zbp_t (P := isw (h 2) i (h 3 4) (h 3 3)) ⟨hle, fun q a b => ha q a (by omega)⟩], rfl, rfl, rfl⟩
    · refine zt_aload_n dX4_isWord_28 rfl ?_
      refine zt_iload_n dX4_isWord_29 rfl ?_
      refine zt_callVS1r dX4_isWord_30 ml_X4_131 hb (Nat.le_of_ble_eq_true rfl) (c_sch hb (by omega)) ?_
      have hzs := zsb_r hb.2 (k := j) (by omega) (by omega)
      refine zt_aload_n dX4_isWord_33 rfl ?_
      refine zt_getv dX4_isWord_34 fl_X4_15 (zs_3 hS) (rf_3_2 hR) ?_
      refine zt_aload_n dX4_isWord_37 rfl ?_
      refine zt_get dX4_isWord_38 fl_X4_36 (zs_3 hS) ?_
      refine zt_iload_n dX4_isWord_41 rfl ?_
      refine zt_iadd dX4_isWord_42 ?_
      refine zt_callV1r dX4_isWord_43 ml_X4_76 (zs_1 hS) (Nat.le_of_ble_eq_true rfl) (zF.of_eq (r' := some (0, tat h ((h 3 4) + j))) (by rw [tat_x (h := h) (rfl) (rfl)]) rfl rfl rfl (c_at hS hR (by omega) (by rw [show h 1 1 = h 1 1 from congrFun (rfl) 1]; omega))) ?_
      refine zt_icmp_eq (tgt := 51) dX4_isWord_46 (by decide) (by omega) (by have := tat_r (p := h 3 4 + j) hT; omega) (fun c_46 => ?_) (fun c_46 => ?_)
      · refine zt_iinc_2 dX4_isWord_51 (by decide) rfl ?_
        refine zt_goto (tgt := 20) dX4_isWord_54 (by decide) ?_
        exact ih (j + 1) (by omega) (by omega) (fun q a b => by by_cases c : q < j; exact ha q a c; rw [show q = j by omega, c_46]; unfold tat; rw [if_pos (by omega)])
      · refine zt_iconst dX4_isWord_49 ?_
        exact zt_zret dX4_isWord_50 (by decide) ⟨by rw [zbp_f (P := isw (h 2) i (h 3 4) (h 3 3)) (fun q => c_46 (by have := q.2 j (by omega) (by omega); rw [this]; unfold tat; rw [if_pos (by omega)]))], rfl, rfl, rfl⟩

set_option maxRecDepth 100000 in
set_option maxHeartbeats 4000000 in
theorem c_isw {d n : Nat} {sh : zSh} {h : zMem} {b : Int} {i : Nat} (hS : zShp sh) (hR : zRf h) (hT : tOK h) (hb : zSc b i) (hp : 0 ≤ h 3 4 ∧ h 3 4 ≤ h 3 3 ∧ h 3 3 ≤ h 1 1)  : zF yX4_isWord cX4_isWord 3 (some .boolean) (d + 4) 0 0 [(2, 3), (2, b)] n sh h (some (0, zbp (isw (h 2) i (h 3 4) (h 3 3)))) n sh h := by
  refine zF.ofT (by decide +kernel) [some (2, 3), some (2, b), none] rfl (Nat.le_of_ble_eq_true rfl) ?_
  have hz0 := zStrL_b i hb.2
  have hl := hT.1
  refine zt_rg (fun hm => ?_)
  refine zt_aload_n dX4_isWord_0 rfl ?_
  refine zt_callVS0r dX4_isWord_1 ml_X4_128 hb (Nat.le_of_ble_eq_true rfl) (c_slen hb) ?_
  refine zt_aload_n dX4_isWord_4 rfl ?_
  refine zt_get dX4_isWord_5 fl_X4_23 (zs_3 hS) ?_
  refine zt_aload_n dX4_isWord_8 rfl ?_
  refine zt_get dX4_isWord_9 fl_X4_36 (zs_3 hS) ?_
  refine zt_isub dX4_isWord_12 ?_
  refine zt_icmp_eq (tgt := 18) dX4_isWord_13 (by decide) (by omega) (by omega) (fun c_13 => ?_) (fun c_13 => ?_)
  · refine zt_iconst dX4_isWord_18 ?_
    refine zt_istore_n_2 dX4_isWord_19 (by decide) rfl ?_
    exact l_isw hS hR hT hb hp hT.1 (zStrL_b i hb.2) c_13 37 0 (by have := zStrL_b i hb.2; omega) (by omega) (fun q a b => by omega)
  · refine zt_iconst dX4_isWord_16 ?_
    exact zt_zret dX4_isWord_17 (by decide) ⟨by rw [zbp_f (P := isw (h 2) i (h 3 4) (h 3 3)) (fun q => c_13 q.1)], rfl, rfl, rfl⟩
