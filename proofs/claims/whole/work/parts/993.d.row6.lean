/-- the curve as it is drawn -/
def cvO (h : zMem) (y : Int → Int) : List Int → Prop
  | [p0] => (h 30 0 = p0 ∧ h 31 0 = cD1_00 p0 (y p0))
  | [p0, p1] => (h 30 0 = p0 ∧ h 31 0 = cD2_00 p0 p1 (y p0) (y p1)) ∧ (h 30 1 = p1 ∧ h 31 1 = cD2_11 p0 p1 (y p0) (y p1))
  | [p0, p1, p2] => (h 30 0 = p0 ∧ h 31 0 = cD3_00 p0 p1 p2 (y p0) (y p1) (y p2)) ∧ (h 30 1 = p1 ∧ h 31 1 = cD3_11 p0 p1 p2 (y p0) (y p1) (y p2)) ∧ (h 30 2 = p2 ∧ h 31 2 = cD3_22 p0 p1 p2 (y p0) (y p1) (y p2))
  | [p0, p1, p2, p3] => (h 30 0 = p0 ∧ h 31 0 = cD4_00 p0 p1 p2 p3 (y p0) (y p1) (y p2) (y p3)) ∧ (h 30 1 = p1 ∧ h 31 1 = cD4_11 p0 p1 p2 p3 (y p0) (y p1) (y p2) (y p3)) ∧ (h 30 2 = p2 ∧ h 31 2 = cD4_22 p0 p1 p2 p3 (y p0) (y p1) (y p2) (y p3)) ∧ (h 30 3 = p3 ∧ h 31 3 = cD4_33 p0 p1 p2 p3 (y p0) (y p1) (y p2) (y p3))
  | _ => False

theorem c_cvat {d n : Nat} {sh : zSh} {h : zMem} {y : Int → Int} {x : Int} (hS : zShp sh) (hR : zRf h) (hx : 0 ≤ x ∧ x < 20) : ∀ {P : List Int}, pOK P → h 26 7 = P.length → cvO h y P → zF yX6_curveAt cX6_curveAt 5 (some .long) (d + 0) 0 0 [(2, 26), (0, x)] n sh h (some (1, cvP y x P)) n sh h
  | [], hP, _, _ => by have := hP.2.1; simp at this
  | [p0], hP, hK, ho => by
    have c : 0 ≤ p0 ∧ p0 + 1 ≤ 20 := hP.1
    exact c_cvat1 hS hR hK ho.1 (by omega) ho.2 hx
  | [p0, p1], hP, hK, ho => by
    have c : 0 ≤ p0 ∧ p0 + 1 ≤ p1 ∧ p1 + 1 ≤ 20 := hP.1
    exact c_cvat2 hS hR hK ho.1.1 (by omega) ho.1.2 ho.2.1 (by omega) ho.2.2 hx
  | [p0, p1, p2], hP, hK, ho => by
    have c : 0 ≤ p0 ∧ p0 + 1 ≤ p1 ∧ p1 + 1 ≤ p2 ∧ p2 + 1 ≤ 20 := hP.1
    exact c_cvat3 hS hR hK ho.1.1 (by omega) ho.1.2 ho.2.1.1 (by omega) ho.2.1.2 ho.2.2.1 (by omega) ho.2.2.2 hx
  | [p0, p1, p2, p3], hP, hK, ho => by
    have c : 0 ≤ p0 ∧ p0 + 1 ≤ p1 ∧ p1 + 1 ≤ p2 ∧ p2 + 1 ≤ p3 ∧ p3 + 1 ≤ 20 := hP.1
    exact c_cvat4 hS hR hK ho.1.1 (by omega) ho.1.2 ho.2.1.1 (by omega) ho.2.1.2 ho.2.2.1.1 (by omega) ho.2.2.1.2 ho.2.2.2.1 (by omega) ho.2.2.2.2 hx
  | _ :: _ :: _ :: _ :: _ :: _, hP, _, _ => by have := hP.2.2; simp at this; (try omega)

theorem c_draw {d n : Nat} {sh : zSh} {h : zMem} {K : Nat} {PL : List Int} (hS : zShp sh) (hR : zRf h) (hK0 : 1 ≤ K ∧ K ≤ 4) (hK : h 26 7 = K) (hPL : chF 20 0 PL) (hlen : PL.length ≤ 20) (hpl : ∀ q, 0 ≤ q → q < (PL.length : Int) → h 28 q = zgt PL q) (h5 : h 26 5 = PL.length) (hyL : yOK (h 27) PL) (hc : chF PL.length 0 (lst (h 29) K)) : zM yX6_drawCurve cX6_drawCurve 4 none (d + 1) 0 0 [(2, 26)] n sh h (fun r n1 sh1 h1 => r = none ∧ n1 = n ∧ sh1 = sh ∧ rO h h1 ∧ h1 29 = h 29 ∧ h1 26 7 = (K : Nat) ∧ h1 26 10 = cvV ((lst (h 29) K).map (zgt PL)) ∧ cvO h1 (h 27) ((lst (h 29) K).map (zgt PL))) := by
  rcases (show K = 1 ∨ K = 2 ∨ K = 3 ∨ K = 4 by omega) with rfl | rfl | rfl | rfl
  · have c : 0 ≤ h 29 0 ∧ h 29 0 + 1 ≤ PL.length := hc
    have e0 := hpl (h 29 0) (by omega) (by omega)
    have m0 := zgt_mem (l := PL) (i := h 29 0) (by omega) (by omega)
    have b0 := chF_mem PL 0 hPL _ m0
    have z := c_draw1 (d := d) (n := n) hS hR hK e0 rfl (hyL _ m0) (by omega) (by omega) (by omega)
    exact z
  · have c : 0 ≤ h 29 0 ∧ h 29 0 + 1 ≤ h 29 1 ∧ h 29 1 + 1 ≤ PL.length := hc
    have e0 := hpl (h 29 0) (by omega) (by omega)
    have m0 := zgt_mem (l := PL) (i := h 29 0) (by omega) (by omega)
    have b0 := chF_mem PL 0 hPL _ m0
    have e1 := hpl (h 29 1) (by omega) (by omega)
    have m1 := zgt_mem (l := PL) (i := h 29 1) (by omega) (by omega)
    have b1 := chF_mem PL 0 hPL _ m1
    have l1 := chF_zgt hPL (i := h 29 0) (j := h 29 1) (by omega) (by omega) (by omega)
    have z := c_draw2 (d := d) (n := n) hS hR hK e0 rfl (hyL _ m0) (by omega) e1 rfl (hyL _ m1) (by omega) (by omega) (by omega)
    exact z
  · have c : 0 ≤ h 29 0 ∧ h 29 0 + 1 ≤ h 29 1 ∧ h 29 1 + 1 ≤ h 29 2 ∧ h 29 2 + 1 ≤ PL.length := hc
    have e0 := hpl (h 29 0) (by omega) (by omega)
    have m0 := zgt_mem (l := PL) (i := h 29 0) (by omega) (by omega)
    have b0 := chF_mem PL 0 hPL _ m0
    have e1 := hpl (h 29 1) (by omega) (by omega)
    have m1 := zgt_mem (l := PL) (i := h 29 1) (by omega) (by omega)
    have b1 := chF_mem PL 0 hPL _ m1
    have l1 := chF_zgt hPL (i := h 29 0) (j := h 29 1) (by omega) (by omega) (by omega)
    have e2 := hpl (h 29 2) (by omega) (by omega)
    have m2 := zgt_mem (l := PL) (i := h 29 2) (by omega) (by omega)
    have b2 := chF_mem PL 0 hPL _ m2
    have l2 := chF_zgt hPL (i := h 29 1) (j := h 29 2) (by omega) (by omega) (by omega)
    have z := c_draw3 (d := d) (n := n) hS hR hK e0 rfl (hyL _ m0) (by omega) e1 rfl (hyL _ m1) (by omega) e2 rfl (hyL _ m2) (by omega) (by omega) (by omega)
    exact z
  · have c : 0 ≤ h 29 0 ∧ h 29 0 + 1 ≤ h 29 1 ∧ h 29 1 + 1 ≤ h 29 2 ∧ h 29 2 + 1 ≤ h 29 3 ∧ h 29 3 + 1 ≤ PL.length := hc
    have e0 := hpl (h 29 0) (by omega) (by omega)
    have m0 := zgt_mem (l := PL) (i := h 29 0) (by omega) (by omega)
    have b0 := chF_mem PL 0 hPL _ m0
    have e1 := hpl (h 29 1) (by omega) (by omega)
    have m1 := zgt_mem (l := PL) (i := h 29 1) (by omega) (by omega)
    have b1 := chF_mem PL 0 hPL _ m1
    have l1 := chF_zgt hPL (i := h 29 0) (j := h 29 1) (by omega) (by omega) (by omega)
    have e2 := hpl (h 29 2) (by omega) (by omega)
    have m2 := zgt_mem (l := PL) (i := h 29 2) (by omega) (by omega)
    have b2 := chF_mem PL 0 hPL _ m2
    have l2 := chF_zgt hPL (i := h 29 1) (j := h 29 2) (by omega) (by omega) (by omega)
    have e3 := hpl (h 29 3) (by omega) (by omega)
    have m3 := zgt_mem (l := PL) (i := h 29 3) (by omega) (by omega)
    have b3 := chF_mem PL 0 hPL _ m3
    have l3 := chF_zgt hPL (i := h 29 2) (j := h 29 3) (by omega) (by omega) (by omega)
    have z := c_draw4 (d := d) (n := n) hS hR hK e0 rfl (hyL _ m0) (by omega) e1 rfl (hyL _ m1) (by omega) e2 rfl (hyL _ m2) (by omega) e3 rfl (hyL _ m3) (by omega) (by omega) (by omega)
    exact z

theorem zshl1 {k : Int} (hk : 0 ≤ k ∧ k < 20) : (Int32.ofInt 1 <<< (Int32.ofInt k &&& 31)).toInt = 2 ^ k.toNat := by
  obtain ⟨m, rfl⟩ : ∃ m : Nat, k = m := ⟨k.toNat, by omega⟩
  have h : ∀ m : Nat, m < 20 → (Int32.ofInt 1 <<< (Int32.ofInt (m : Int) &&& 31)).toInt = 2 ^ ((m : Int)).toNat := by decide +kernel
  exact h m (by omega)
theorem zorN {a b : Nat} (ha : a < 1073741824) (hb : b < 1073741824) (hab : a ||| b < 1073741824) : (Int32.ofInt (a : Int) ||| Int32.ofInt (b : Int)).toInt = ((a ||| b : Nat) : Int) := by
  have h1 : (Int32.ofInt (a : Int) ||| Int32.ofInt (b : Int)) = nI (a ||| b) := by
    show Int32.ofBitVec (BitVec.ofInt 32 (a : Int) ||| BitVec.ofInt 32 (b : Int)) = Int32.ofBitVec _
    congr 1
    apply BitVec.eq_of_toNat_eq
    rw [BitVec.toNat_or, BitVec.toNat_ofInt, BitVec.toNat_ofInt]
    have e1 : ((a : Int) % ((2 ^ 32 : Nat) : Int)).toNat = a := by omega
    have e2 : ((b : Int) % ((2 ^ 32 : Nat) : Int)).toNat = b := by omega
    rw [e1, e2]
    show _ = (BitVec.ofInt 32 ((a ||| b : Nat) : Int)).toNat
    rw [BitVec.toNat_ofInt]; omega
  rw [h1]; exact znI (by omega)
theorem zor2 {a k : Int} (hk : 0 ≤ k ∧ k < 20) (ha : 0 ≤ a ∧ a < 2 ^ k.toNat) : (Int32.ofInt a ||| Int32.ofInt (2 ^ k.toNat)).toInt = a + 2 ^ k.toNat := by
  obtain ⟨m, rfl⟩ : ∃ m : Nat, k = m := ⟨k.toNat, by omega⟩
  obtain ⟨b, rfl⟩ : ∃ b : Nat, a = b := ⟨a.toNat, by omega⟩
  rw [Int.toNat_natCast] at ha ⊢
  have hb : b < 2 ^ m := by have := ha.2; exact_mod_cast this
  have e := Nat.two_pow_add_eq_or_of_lt hb 1
  have hm : (2 : Nat) ^ m ≤ 2 ^ 19 := Nat.pow_le_pow_right (by decide) (by omega)
  have e2 : (2 : Nat) ^ 19 = 524288 := by decide
  rw [Nat.mul_one, Nat.or_comm] at e
  have := zorN (a := b) (b := 2 ^ m) (by omega) (by omega) (by omega)
  rw [← e] at this
  rw [show (2 : Int) ^ m = ((2 ^ m : Nat) : Int) by norm_cast, this]
  omega
noncomputable def mRv (w H : Int) : Int := if w < bts H then -1 else H

set_option maxRecDepth 100000 in
set_option maxHeartbeats 4000000 in
theorem l_mis {d n : Nat} {sh : zSh} {h : zMem} {e w H : Int} {PL P : List Int} (hS : zShp sh) (hR : zRf h) (hPL : chF 20 0 PL) (hlen : PL.length ≤ 20) (hpl : ∀ q, 0 ≤ q → q < (PL.length : Int) → h 28 q = zgt PL q) (h5 : h 26 5 = PL.length) (hyL : yOK (h 27) PL) (hP : pOK P) (hyP : yOK (h 27) P) (hK : h 26 7 = P.length) (hV : h 26 10 = cvV P) (ho : cvO h (h 27) P) (he : 0 ≤ e ∧ e ≤ 9) (hw : 0 ≤ w ∧ w ≤ 21)  : ∀ (k : Nat) (i : Int) (a : Int) (c : Int), (PL.length : Int) - i < (k : Int) → 0 ≤ i → i ≤ PL.length → (0 ≤ a ∧ ∃ b, 0 ≤ b ∧ a < 2 ^ b.toNat ∧ chF 20 b (PL.drop i.toNat)) → H = a + hpS (qm (h 27) e P) (PL.drop i.toNat) → c = bts a → c ≤ w → zT yX6_missedBy cX6_missedBy 7 (some .int) (d + 1) 0 0 (zq (some (0, mRv w H)) n sh h) 8 [some (2, 26), some (0, e), some (0, w), some (0, a), some (0, c), some (0, i), none] [] n sh h := by
  intro k
  induction k with
  | zero => intros; exfalso; omega
  | succ k ih =>
    intro i a c hk h0 h1 ha hH hc hcw
    refine zt_iload dX6_missedBy_8 rfl ?_
    refine zt_aload_n dX6_missedBy_10 rfl ?_
    refine zt_getv (v := (PL.length : Int)) dX6_missedBy_11 fl_X6_60 (zs_26 hS) h5 ?_
    refine zt_icmp_ge (tgt := 93) dX6_missedBy_14 (by decide) (by omega) (by omega) (fun c_14 => ?_) (fun c_14 => ?_)
    · refine zt_iload_n dX6_missedBy_93 rfl ?_
      exact zt_iret dX6_missedBy_94 ⟨by congr 2; have h7 : H = a := (by rw [hH, List.drop_eq_nil_of_le (by omega)]; exact Int.add_zero a); have h6 : c = bt 20 a := hc; unfold mRv; rw [h7, if_neg (show ¬ w < bt 20 a by omega)], rfl, rfl, rfl⟩
    · refine zt_iload dX6_missedBy_17 rfl ?_
      refine zt_aload_n dX6_missedBy_19 rfl ?_
      refine zt_getv dX6_missedBy_20 fl_X6_15 (zs_26 hS) (rf_26_4 hR) ?_
      refine zt_alenv (v := 20) dX6_missedBy_23 (zs_28 hS) (by decide) (by decide) rfl ?_
      refine zt_icmp_ge (tgt := 93) dX6_missedBy_24 (by decide) (by omega) (by decide) (fun c_24 => ?_) (fun c_24 => ?_)
      · exfalso
        omega
      · have hcl : 0 ≤ c := by rw [hc]; exact (bt_b 20 a).1
        obtain ⟨hA0, b, hb0, hb1, hb2⟩ := ha
        rw [zdrop h0 (by omega)] at hb2 hH
        have hzm := zgt_mem (l := PL) (i := i) h0 (by omega)
        have hpx := chF_mem PL 0 hPL _ hzm
        have hbx := hb2.1
        have hpw := zpw_le (show b.toNat ≤ (zgt PL i).toNat by omega)
        have hps := zpw_s (zgt PL i).toNat
        have hpp := zpw_pos (zgt PL i).toNat
        have hpm := zpw_le (show (zgt PL i).toNat ≤ 19 by omega)
        have hto : (zgt PL i + 1).toNat = (zgt PL i).toNat + 1 := by omega
        have hcb := cvP_b (y := h 27) (x := zgt PL i) (by omega) hP hyP
        have hVb := cvV_b hP
        have hyb := hyL _ hzm
        have hm1 := zmb2 (x := h 27 (zgt PL i)) (y := cvV P) (A := 999999) (B := 47045881) hyb ⟨by omega, by omega⟩ rfl
        have hm2 := zmb2 (x := e) (y := cvV P) (A := 9) (B := 47045881) ⟨by omega, by omega⟩ ⟨by omega, by omega⟩ rfl
        have hzb := zabs_le (B := 300000000000000) (n := cvP (h 27) (zgt PL i) P - h 27 (zgt PL i) * cvV P) ⟨by omega, by omega⟩
        refine zt_aload_n dX6_missedBy_27 rfl ?_
        refine zt_getv dX6_missedBy_28 fl_X6_15 (zs_26 hS) (rf_26_4 hR) ?_
        refine zt_iload dX6_missedBy_31 rfl ?_
        refine zt_ialoadv (v := zgt PL i) dX6_missedBy_33 (zs_28 hS) (by decide) (by omega) (by omega) (hpl i h0 (by omega)) ?_
        refine zt_istore_6 dX6_missedBy_34 (by decide) rfl ?_
        refine zt_aload_n dX6_missedBy_36 rfl ?_
        refine zt_iload dX6_missedBy_37 rfl ?_
        refine zt_callV1r dX6_missedBy_39 ml_X6_114 (zs_26 hS) (Nat.le_of_ble_eq_true rfl) (c_cvat hS hR ⟨by omega, by omega⟩ hP hK ho) ?_
        refine zt_aload_n dX6_missedBy_42 rfl ?_
        refine zt_iload dX6_missedBy_43 rfl ?_
        refine zt_callV1r dX6_missedBy_45 ml_X6_111 (zs_26 hS) (Nat.le_of_ble_eq_true rfl) (c_rnum hS hR ⟨by omega, by omega⟩) ?_
        refine zt_i2l dX6_missedBy_48 (by omega) ?_
        refine zt_aload_n dX6_missedBy_49 rfl ?_
        refine zt_getv (v := cvV P) dX6_missedBy_50 fl_X6_107 (zs_26 hS) hV ?_
        refine zt_lmul dX6_missedBy_53 ?_
        refine zt_lsub dX6_missedBy_54 ?_
        refine zt_callS1r dX6_missedBy_55 ml_X6_118 (Nat.le_of_ble_eq_true rfl) (c_labs (by omega)) ?_
        refine zt_iload_n dX6_missedBy_58 rfl ?_
        refine zt_i2l dX6_missedBy_59 (by omega) ?_
        refine zt_aload_n dX6_missedBy_60 rfl ?_
        refine zt_getv (v := cvV P) dX6_missedBy_61 fl_X6_107 (zs_26 hS) hV ?_
        refine zt_lmul dX6_missedBy_64 ?_
        refine zt_lc_le (tgt := 87) dX6_missedBy_65 dX6_missedBy_66 (by decide) (by omega) (by omega) (fun c_65 => ?_) (fun c_65 => ?_)
        · refine zt_iinc_5 dX6_missedBy_87 (by decide) rfl ?_
          refine zt_goto (tgt := 8) dX6_missedBy_90 (by decide) ?_
          refine zt_kill_6 ?_
          exact ih (i + 1) a c (by omega) (by omega) (by omega) ⟨hA0, zgt PL i + 1, by omega, by rw [hto]; omega, hb2.2⟩ (by rw [hH]; show a + (zite _ _ _ + _) = _; rw [zite_f (show ¬ qm (h 27) e P (zgt PL i) by unfold qm; omega), Int.zero_add]) hc hcw
        · refine zt_iload_n dX6_missedBy_69 rfl ?_
          refine zt_iconst dX6_missedBy_70 ?_
          refine zt_iload dX6_missedBy_71 rfl ?_
          refine zt_ishl dX6_missedBy_73 ?_
          refine zt_topv (v := 2 ^ (zgt PL i).toNat) (zshl1 ⟨by omega, by omega⟩) ?_
          refine zt_ior dX6_missedBy_74 ?_
          refine zt_topv (v := a + 2 ^ (zgt PL i).toNat) (zor2 ⟨by omega, by omega⟩ ⟨hA0, by omega⟩) ?_
          refine zt_istore_n_3 dX6_missedBy_75 (by decide) rfl ?_
          refine zt_iinc_4 dX6_missedBy_76 (by decide) rfl ?_
          refine zt_iload dX6_missedBy_79 rfl ?_
          refine zt_iload_n dX6_missedBy_81 rfl ?_
          refine zt_icmp_le (tgt := 87) dX6_missedBy_82 (by decide) (by omega) (by omega) (fun c_82 => ?_) (fun c_82 => ?_)
          · refine zt_iinc_5 dX6_missedBy_87 (by decide) rfl ?_
            refine zt_goto (tgt := 8) dX6_missedBy_90 (by decide) ?_
            refine zt_kill_6 ?_
            exact ih (i + 1) (a + 2 ^ (zgt PL i).toNat) (c + 1) (by omega) (by omega) (by omega) ⟨by omega, zgt PL i + 1, by omega, by rw [hto]; omega, hb2.2⟩ (by rw [hH]; show a + (zite _ _ _ + _) = _; rw [zite_t (show qm (h 27) e P (zgt PL i) by unfold qm; omega), Int.add_assoc]) (by rw [hc]; exact (bt_add 20 (zgt PL i).toNat a (by omega) hA0 (by omega)).symm) (by omega)
          · refine zt_iconst dX6_missedBy_85 ?_
            exact zt_iret dX6_missedBy_86 ⟨by congr 2; have h9 := bt_add 20 (zgt PL i).toNat a (by omega) hA0 (by omega); have h8 : bt 20 (a + 2 ^ (zgt PL i).toNat) ≤ bt 20 (a + 2 ^ (zgt PL i).toNat + hpS (qm (h 27) e P) (PL.drop (i + 1).toNat)) := (hpS_acc (q := qm (h 27) e P) (PL.drop (i + 1).toNat) (zgt PL i + 1) (a + 2 ^ (zgt PL i).toNat) (by omega) hb2.2 (by omega) (by rw [hto]; omega)).2; have h7 : H = a + 2 ^ (zgt PL i).toNat + hpS (qm (h 27) e P) (PL.drop (i + 1).toNat) := (by rw [hH]; show a + (zite _ _ _ + _) = _; rw [zite_t (show qm (h 27) e P (zgt PL i) by unfold qm; omega), Int.add_assoc]); rw [← h7] at h8; have h6 : c = bt 20 a := hc; unfold mRv; rw [if_pos (show w < bt 20 H by omega)], rfl, rfl, rfl⟩

set_option maxRecDepth 100000 in
set_option maxHeartbeats 4000000 in
theorem c_mis {d n : Nat} {sh : zSh} {h : zMem} {e w : Int} {PL P : List Int} (hS : zShp sh) (hR : zRf h) (hPL : chF 20 0 PL) (hlen : PL.length ≤ 20) (hpl : ∀ q, 0 ≤ q → q < (PL.length : Int) → h 28 q = zgt PL q) (h5 : h 26 5 = PL.length) (hyL : yOK (h 27) PL) (hP : pOK P) (hyP : yOK (h 27) P) (hK : h 26 7 = P.length) (hV : h 26 10 = cvV P) (ho : cvO h (h 27) P) (he : 0 ≤ e ∧ e ≤ 9) (hw : 0 ≤ w ∧ w ≤ 21)  : zF yX6_missedBy cX6_missedBy 7 (some .int) (d + 1) 0 0 [(2, 26), (0, e), (0, w)] n sh h (some (0, mRv w (hpS (qm (h 27) e P) PL))) n sh h := by
  refine zF.ofT (by decide +kernel) [some (2, 26), some (0, e), some (0, w), none, none, none, none] rfl (Nat.le_of_ble_eq_true rfl) ?_
  refine zt_iconst dX6_missedBy_0 ?_
  refine zt_istore_n_3 dX6_missedBy_1 (by decide) rfl ?_
  refine zt_iconst dX6_missedBy_2 ?_
  refine zt_istore_4 dX6_missedBy_3 (by decide) rfl ?_
  refine zt_iconst dX6_missedBy_5 ?_
  refine zt_istore_5 dX6_missedBy_6 (by decide) rfl ?_
  exact l_mis hS hR hPL hlen hpl h5 hyL hP hyP hK hV ho he hw 21 0 0 0 (by omega) (by omega) (by omega) ⟨by omega, 0, by omega, by decide, hPL⟩ (by rw [Int.zero_add]; rfl) (by decide) hw.1

