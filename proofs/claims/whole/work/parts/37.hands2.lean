theorem znew_up {h : zMem} {a j z : Int} {g : Int → Int} : zup (znew h a g) a j z = znew h a (fun y => if y = j then z else g y) := zmem_ext (fun x y => by
  unfold zup znew
  by_cases h1 : x = a
  · by_cases h2 : y = j
    · rw [if_pos ⟨h1, h2⟩, if_pos h1]; exact (if_pos h2).symm
    · rw [if_neg (fun q => h2 q.2), if_pos h1, if_pos h1]; exact (if_neg h2).symm
  · rw [if_neg (fun q => h1 q.1), if_neg h1, if_neg h1])
theorem znew_self {h : zMem} {a : Int} : znew h a (h a) = h := zmem_ext (fun x y => by
  unfold znew
  by_cases h1 : x = a
  · rw [if_pos h1, h1]
  · rw [if_neg h1])
theorem zRf.new {h : zMem} (hR : zRf h) {a : Int} {g : Int → Int} (hn : a ∉ [0, 1, 3, 5, 10, 18, 23, 26, 32, 38]) : zRf (znew h a g) := fun q hq => by
  have h1 : ∀ q ∈ zrf0, q.1 ∈ ([0, 1, 3, 5, 10, 18, 23, 26, 32, 38] : List Int) := by decide
  rw [znew_ne (fun e => hn (by rw [← e]; exact h1 q hq))]
  exact hR q hq
theorem zTab.new {sh : zSh} {h : zMem} {t a : Int} {g : Int → Int} (hT : zTab sh h t) (hn : a < 80) : zTab sh (znew h a g) t := by
  have h80 := hT.1
  have e : znew h a g t = h t := znew_ne (by omega)
  refine ⟨hT.1, hT.2.1, by rw [e]; exact hT.2.2.1, fun j h1 h2 => ?_⟩
  rw [e]; exact hT.2.2.2 j h1 h2
theorem hbOK.new {h : zMem} {a : Int} {g : Int → Int} (hb : hbOK h) (hn : a ≠ 10 ∧ a ≠ 14 ∧ a ≠ 15 ∧ a ≠ 16) : hbOK (znew h a g) := by
  unfold hbOK
  rw [znew_ne (x := 10) (by omega), znew_ne (x := 14) (by omega), znew_ne (x := 15) (by omega), znew_ne (x := 16) (by omega)]
  exact hb
theorem hWr_new {h : zMem} {a w x c : Int} {g : Int → Int} (hn : c ≠ 10 ∧ c ≠ 12 ∧ c ≠ 13 ∧ c ≠ 14 ∧ c ≠ 15 ∧ c ≠ 16) : hWr (znew h c g) a w x = hWr h a w x := by
  have e : hHs (znew h c g) a w = hHs h a w := by
    funext i s
    unfold hHs
    rw [znew_ne (x := 12) (by omega), znew_ne (x := 13) (by omega), znew_ne (x := 14) (by omega), znew_ne (x := 15) (by omega), znew_ne (x := 16) (by omega)]
  unfold hWr
  rw [e, znew_ne (x := 10) (by omega)]
/-- TRUE is a number that can be written, or VOID -/
def tTok (h : zMem) (t : Int) : Prop := ∀ i, 0 ≤ i → i < h t 0 → h (t + 1) i = -2147483648 ∨ (-999999999 ≤ h (t + 1) i ∧ h (t + 1) i ≤ 999999999)
/-- what is filled in so far -/
def hFl (h : zMem) (t : Int) (g : Int → Int) (s : Int) : Prop := ∀ a w i, (0 ≤ a ∧ a < h 10 0) → (0 ≤ w ∧ w < 3) → (0 ≤ i ∧ i < h t 0) → (a * 3 + w) * 30 + i < s → g ((a * 3 + w) * 30 + i) = hWr h a w (h (t + 1) i)

set_option maxRecDepth 100000 in
set_option maxHeartbeats 4000000 in
theorem l_fw1 {d n : Nat} {sh : zSh} {h : zMem} {t a w : Int} {Q : Option zV → Nat → zSh → zMem → Prop} (hS : zShp sh) (hR : zRf h) (hT : zTab sh h t) (hb : hbOK h) (hok : tTok h t) (ha : 0 ≤ a ∧ a < h 10 0) (hw : 0 ≤ w ∧ w < 3) (hE : 4 ≤ h t 0 ∧ h t 0 ≤ 30) (h80 : 80 ≤ t) (hb0 : 0 ≤ h 10 0 ∧ h 10 0 ≤ 8) (hK : ∀ g1 : Int → Int, hFl h t g1 ((a * 3 + w + 1) * 30) → zT yX3_fillWouldWrite cX3_fillWouldWrite 6 none (d + 2) 0 0 Q 73 [some (2, 10), some (2, t), some (0, a), some (0, w), none, none] [] n sh (znew h 17 g1))  : ∀ (k : Nat) (i : Int) (g : Int → Int), h t 0 - i < (k : Int) → 0 ≤ i → i ≤ h t 0 → hFl h t g ((a * 3 + w) * 30 + i) → zT yX3_fillWouldWrite cX3_fillWouldWrite 6 none (d + 2) 0 0 Q 20 [some (2, 10), some (2, t), some (0, a), some (0, w), some (0, i), none] [] n sh (znew h 17 g) := by
  intro k
  induction k with
  | zero => intros; exfalso; omega
  | succ k ih =>
    intro i g hk h0 h1 hg
    refine zt_iload dX3_fillWouldWrite_20 rfl ?_
    refine zt_aload_n dX3_fillWouldWrite_22 rfl ?_
    refine zt_getv (v := h t 0) dX3_fillWouldWrite_23 fl_X3_58 hT.sh (congrFun (znew_ne (by omega)) _) ?_
    refine zt_icmp_ge (tgt := 73) dX3_fillWouldWrite_26 (by decide) (by omega) (by omega) (fun c_26 => ?_) (fun c_26 => ?_)
    · refine zt_kill_4 ?_
      exact hK g (fun a' w' i' p1 p2 p3 p4 => hg a' w' i' p1 p2 p3 (by omega))
    · refine zt_iload_n dX3_fillWouldWrite_29 rfl ?_
      refine zt_iload_n dX3_fillWouldWrite_30 rfl ?_
      refine zt_iload dX3_fillWouldWrite_31 rfl ?_
      refine zt_callS3r dX3_fillWouldWrite_33 ml_X3_63 (Nat.le_of_ble_eq_true rfl) (c_slot) ?_
      refine zt_istore_5 dX3_fillWouldWrite_36 (by decide) rfl ?_
      refine zt_iload dX3_fillWouldWrite_38 rfl ?_
      refine zt_aload_n dX3_fillWouldWrite_40 rfl ?_
      refine zt_getv dX3_fillWouldWrite_41 fl_X3_30 (zs_10 hS) (rf_10_8 (hR.new (by decide))) ?_
      refine zt_alenv (v := 720) dX3_fillWouldWrite_44 (zs_17 hS) (by decide) (by decide) rfl ?_
      refine zt_icmp_ge (tgt := 67) dX3_fillWouldWrite_45 (by decide) (by omega) (by decide) (fun c_45 => ?_) (fun c_45 => ?_)
      · exfalso
        omega
      · refine zt_aload_n dX3_fillWouldWrite_48 rfl ?_
        refine zt_getv dX3_fillWouldWrite_49 fl_X3_30 (zs_10 hS) (rf_10_8 (hR.new (by decide))) ?_
        refine zt_iload dX3_fillWouldWrite_52 rfl ?_
        refine zt_aload_n dX3_fillWouldWrite_54 rfl ?_
        refine zt_iload_n dX3_fillWouldWrite_55 rfl ?_
        refine zt_iload_n dX3_fillWouldWrite_56 rfl ?_
        refine zt_aload_n dX3_fillWouldWrite_57 rfl ?_
        refine zt_iload dX3_fillWouldWrite_58 rfl ?_
        refine zt_callV1r dX3_fillWouldWrite_60 ml_X3_67 hT.sh (Nat.le_of_ble_eq_true rfl) (c_ttrJ (hT.new (by decide)) (by rw [znew_ne (by omega)]; omega) (congrFun (znew_ne (by omega)) _)) ?_
        refine zt_callV3r dX3_fillWouldWrite_63 ml_X3_70 (zs_10 hS) (Nat.le_of_ble_eq_true rfl) (zF.of_eq (by rw [hWr_new (by decide)]) rfl rfl rfl (c_hwr hS (hR.new (by decide)) (by omega) (by omega) (hok i (by omega) (by omega)) (hb.new (by decide)))) ?_
        refine zt_iastore dX3_fillWouldWrite_66 (zs_17 hS) (by decide) (by omega) (by omega) (by have := hWr_r (a := a) (w := w) hb (hok i (by omega) (by omega)); omega) ?_
        refine zt_iinc_4 dX3_fillWouldWrite_67 (by decide) rfl ?_
        refine zt_goto (tgt := 20) dX3_fillWouldWrite_70 (by decide) ?_
        refine zt_kill_5 ?_
        rw [znew_up]
        exact ih (i + 1) _ (by omega) (by omega) (by omega) (fun a' w' i' p1 p2 p3 p4 => by
          show (if (a' * 3 + w') * 30 + i' = (a * 3 + w) * 30 + i then _ else _) = _
          by_cases q : (a' * 3 + w') * 30 + i' = (a * 3 + w) * 30 + i
          · rw [if_pos q, show a' = a by omega, show w' = w by omega, show i' = i by omega]
          · rw [if_neg q]; exact hg a' w' i' p1 p2 p3 (by omega))

set_option maxRecDepth 100000 in
set_option maxHeartbeats 4000000 in
theorem l_fw2 {d n : Nat} {sh : zSh} {h : zMem} {t a : Int} {Q : Option zV → Nat → zSh → zMem → Prop} (hS : zShp sh) (hR : zRf h) (hT : zTab sh h t) (hb : hbOK h) (hok : tTok h t) (ha : 0 ≤ a ∧ a < h 10 0) (hE : 4 ≤ h t 0 ∧ h t 0 ≤ 30) (h80 : 80 ≤ t) (hb0 : 0 ≤ h 10 0 ∧ h 10 0 ≤ 8) (hK : ∀ g1 : Int → Int, hFl h t g1 ((a + 1) * 90) → zT yX3_fillWouldWrite cX3_fillWouldWrite 6 none (d + 2) 0 0 Q 79 [some (2, 10), some (2, t), some (0, a), none, none, none] [] n sh (znew h 17 g1))  : ∀ (k : Nat) (w : Int) (g : Int → Int), 3 - w < (k : Int) → 0 ≤ w → w ≤ 3 → hFl h t g ((a * 3 + w) * 30) → zT yX3_fillWouldWrite cX3_fillWouldWrite 6 none (d + 2) 0 0 Q 12 [some (2, 10), some (2, t), some (0, a), some (0, w), none, none] [] n sh (znew h 17 g) := by
  intro k
  induction k with
  | zero => intros; exfalso; omega
  | succ k ih =>
    intro w g hk h0 h1 hg
    refine zt_iload_n dX3_fillWouldWrite_12 rfl ?_
    refine zt_iconst dX3_fillWouldWrite_13 ?_
    refine zt_icmp_ge (tgt := 79) dX3_fillWouldWrite_14 (by decide) (by omega) (by decide) (fun c_14 => ?_) (fun c_14 => ?_)
    · refine zt_kill_3 ?_
      exact hK g (fun a' w' i' p1 p2 p3 p4 => hg a' w' i' p1 p2 p3 (by omega))
    · refine zt_iconst dX3_fillWouldWrite_17 ?_
      refine zt_istore_4 dX3_fillWouldWrite_18 (by decide) rfl ?_
      refine l_fw1 hS hR hT hb hok ha (by omega) hE h80 hb0 (fun g1 hg1 => ?_) 31 0 g (by omega) (by omega) (by omega) (fun a' w' i' p1 p2 p3 p4 => hg a' w' i' p1 p2 p3 (by omega))
      refine zt_iinc_3 dX3_fillWouldWrite_73 (by decide) rfl ?_
      refine zt_goto (tgt := 12) dX3_fillWouldWrite_76 (by decide) ?_
      exact ih (w + 1) g1 (by omega) (by omega) (by omega) (fun a' w' i' p1 p2 p3 p4 => hg1 a' w' i' p1 p2 p3 (by omega))

set_option maxRecDepth 100000 in
set_option maxHeartbeats 4000000 in
theorem l_fw3 {d n : Nat} {sh : zSh} {h : zMem} {t : Int} (hS : zShp sh) (hR : zRf h) (hT : zTab sh h t) (hb : hbOK h) (hok : tTok h t) (hE : 4 ≤ h t 0 ∧ h t 0 ≤ 30) (h80 : 80 ≤ t) (hb0 : 0 ≤ h 10 0 ∧ h 10 0 ≤ 8)  : ∀ (k : Nat) (a : Int) (g : Int → Int), h 10 0 - a < (k : Int) → 0 ≤ a → a ≤ h 10 0 → hFl h t g (a * 90) → zT yX3_fillWouldWrite cX3_fillWouldWrite 6 none (d + 2) 0 0 (fun r n1 sh1 h1 => r = none ∧ n1 = n ∧ sh1 = sh ∧ ∃ g : Int → Int, h1 = znew h 17 g ∧ hFl h t g ((h 10 0) * 90)) 2 [some (2, 10), some (2, t), some (0, a), none, none, none] [] n sh (znew h 17 g) := by
  intro k
  induction k with
  | zero => intros; exfalso; omega
  | succ k ih =>
    intro a g hk h0 h1 hg
    refine zt_iload_n dX3_fillWouldWrite_2 rfl ?_
    refine zt_aload_n dX3_fillWouldWrite_3 rfl ?_
    refine zt_getv (v := h 10 0) dX3_fillWouldWrite_4 fl_X3_33 (zs_10 hS) (congrFun (znew_ne (by omega)) _) ?_
    refine zt_icmp_ge (tgt := 85) dX3_fillWouldWrite_7 (by decide) (by omega) (by omega) (fun c_7 => ?_) (fun c_7 => ?_)
    · exact zt_vret dX3_fillWouldWrite_85 ⟨rfl, rfl, rfl, g, rfl, fun a' w' i' p1 p2 p3 p4 => hg a' w' i' p1 p2 p3 (by omega)⟩
    · refine zt_iconst dX3_fillWouldWrite_10 ?_
      refine zt_istore_n_3 dX3_fillWouldWrite_11 (by decide) rfl ?_
      refine l_fw2 hS hR hT hb hok (by omega) hE h80 hb0 (fun g1 hg1 => ?_) 4 0 g (by omega) (by omega) (by omega) (fun a' w' i' p1 p2 p3 p4 => hg a' w' i' p1 p2 p3 (by omega))
      refine zt_iinc_2 dX3_fillWouldWrite_79 (by decide) rfl ?_
      refine zt_goto (tgt := 2) dX3_fillWouldWrite_82 (by decide) ?_
      exact ih (a + 1) g1 (by omega) (by omega) (by omega) (fun a' w' i' p1 p2 p3 p4 => hg1 a' w' i' p1 p2 p3 (by omega))

set_option maxRecDepth 100000 in
set_option maxHeartbeats 4000000 in
theorem c_fillww {d n : Nat} {sh : zSh} {h : zMem} {t : Int} (hS : zShp sh) (hR : zRf h) (hT : zTab sh h t) (hb : hbOK h) (hok : tTok h t) : zM yX3_fillWouldWrite cX3_fillWouldWrite 6 none (d + 2) 0 0 [(2, 10), (2, t)] n sh h (fun r n1 sh1 h1 => r = none ∧ n1 = n ∧ sh1 = sh ∧ ∃ g : Int → Int, h1 = znew h 17 g ∧ hFl h t g ((h 10 0) * 90)) := by
  refine zM.ofT2 (by decide +kernel) [some (2, 10), some (2, t), none, none, none, none] rfl (Nat.le_of_ble_eq_true rfl) ?_
  have hE := hT.2.2.1
  have h80 := hT.1
  have hb0 := hb.1
  refine zt_iconst dX3_fillWouldWrite_0 ?_
  refine zt_istore_n_2 dX3_fillWouldWrite_1 (by decide) rfl ?_
  have e := l_fw3 (d := d) (n := n) hS hR hT hb hok hE h80 hb0 9 0 (h 17) (by omega) (by omega) (by omega) (fun a' w' i' p1 p2 p3 p4 => by omega)
  rw [znew_self] at e
  exact e
