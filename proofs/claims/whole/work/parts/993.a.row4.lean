/-- nothing but the Row's own choice, points and curve has changed -/
def rO (h h1 : zMem) : Prop := (∀ x, x ≠ 26 → x ≠ 29 → x ≠ 30 → x ≠ 31 → h1 x = h x) ∧ (∀ y, y ≠ 7 → y ≠ 10 → h1 26 y = h 26 y) ∧ zRf h1
theorem rO.trans {h h1 h2 : zMem} (a : rO h h1) (b : rO h1 h2) : rO h h2 := ⟨fun x p q r s => (b.1 x p q r s).trans (a.1 x p q r s), fun y p q => (b.2.1 y p q).trans (a.2.1 y p q), b.2.2⟩
def lst (g : Int → Int) (K : Nat) : List Int := (iot 0 K).map g
theorem nx1 {n a : Int} : nx n [a] = if a + 1 < n then some [a + 1] else none := by
  unfold nx nx
  show (if a + ((0 : Nat) : Int) + 1 < n then some [a + 1] else none) = _
  rw [show a + ((0 : Nat) : Int) + 1 = a + 1 by omega]
theorem nx2 {n a b : Int} : nx n [a, b] = if b + 1 < n then some [a, b + 1] else if a + 2 < n then some [a + 1, a + 2] else none := by
  unfold nx
  rw [nx1]
  by_cases c : b + 1 < n
  · rw [if_pos c, if_pos c]
  · rw [if_neg c, if_neg c]
    show (if a + ((1 : Nat) : Int) + 1 < n then some [a + 1, a + 1 + 1] else none) = _
    rw [show a + ((1 : Nat) : Int) + 1 = a + 2 by omega, show a + 1 + 1 = a + 2 by omega]
theorem nx3 {n a b c : Int} : nx n [a, b, c] = if c + 1 < n then some [a, b, c + 1] else if b + 2 < n then some [a, b + 1, b + 2] else if a + 3 < n then some [a + 1, a + 2, a + 3] else none := by
  unfold nx
  rw [nx2]
  by_cases c1 : c + 1 < n
  · rw [if_pos c1, if_pos c1]
  · rw [if_neg c1, if_neg c1]
    by_cases c2 : b + 2 < n
    · rw [if_pos c2, if_pos c2]
    · rw [if_neg c2, if_neg c2]
      show (if a + ((2 : Nat) : Int) + 1 < n then some [a + 1, a + 1 + 1, a + 1 + 1 + 1] else none) = _
      rw [show a + ((2 : Nat) : Int) + 1 = a + 3 by omega, show a + 1 + 1 + 1 = a + 3 by omega, show a + 1 + 1 = a + 2 by omega]
theorem nx4 {n a b c e : Int} : nx n [a, b, c, e] = if e + 1 < n then some [a, b, c, e + 1] else if c + 2 < n then some [a, b, c + 1, c + 2] else if b + 3 < n then some [a, b + 1, b + 2, b + 3] else if a + 4 < n then some [a + 1, a + 2, a + 3, a + 4] else none := by
  unfold nx
  rw [nx3]
  by_cases c1 : e + 1 < n
  · rw [if_pos c1, if_pos c1]
  · rw [if_neg c1, if_neg c1]
    by_cases c2 : c + 2 < n
    · rw [if_pos c2, if_pos c2]
    · rw [if_neg c2, if_neg c2]
      by_cases c3 : b + 3 < n
      · rw [if_pos c3, if_pos c3]
      · rw [if_neg c3, if_neg c3]
        show (if a + ((3 : Nat) : Int) + 1 < n then some [a + 1, a + 1 + 1, a + 1 + 1 + 1, a + 1 + 1 + 1 + 1] else none) = _
        rw [show a + ((3 : Nat) : Int) + 1 = a + 4 by omega, show a + 1 + 1 + 1 + 1 = a + 4 by omega, show a + 1 + 1 + 1 = a + 3 by omega, show a + 1 + 1 = a + 2 by omega]
theorem zvb {a e A B : Int} (h : 0 < a ∧ a ≤ A) (g : 0 < e ∧ e ≤ 19) (hB : A * 19 = B) : 0 < a * e ∧ a * e ≤ B := by
  have h1 := Int.mul_pos h.1 g.1
  have h2 := Int.mul_le_mul h.2 g.2 (by omega) (by omega : 0 ≤ A)
  omega
theorem zmb2 {x y A B C : Int} (hx : -A ≤ x ∧ x ≤ A) (hy : -B ≤ y ∧ y ≤ B) (hC : A * B = C) : -C ≤ x * y ∧ x * y ≤ C := by rw [← hC]; exact zmb hx hy
/-- an exact quotient -/
theorem zex {x q e : Int} (h : x = q * e) (he : e ≠ 0) : Int.tdiv x e = q := by rw [h]; exact Int.mul_tdiv_cancel q he
theorem zexb {x q e B : Int} (h : x = q * e) (he : 0 < e) (hx : -B ≤ x ∧ x ≤ B) : -B ≤ q ∧ q ≤ B := by
  have h1 : q ≤ B := by
    by_cases c : q ≤ 0
    · have : 0 ≤ B := by omega
      omega
    · have : q * 1 ≤ q * e := Int.mul_le_mul_of_nonneg_left (by omega) (by omega)
      omega
  have h2 : -B ≤ q := by
    by_cases c : 0 ≤ q
    · have : 0 ≤ B := by omega
      omega
    · have : (-q) * 1 ≤ (-q) * e := Int.mul_le_mul_of_nonneg_left (by omega) (by omega)
      rw [Int.neg_mul, Int.neg_mul] at this
      omega
  exact ⟨h2, h1⟩

set_option maxRecDepth 100000 in
set_option maxHeartbeats 4000000 in
theorem c_first1 {d n : Nat} {sh : zSh} {h : zMem} (hS : zShp sh) (hR : zRf h) : zM yX6_firstChoice cX6_firstChoice 3 none (d + 1) 0 0 [(2, 26), (0, 1)] n sh h (fun r n1 sh1 h1 => r = none ∧ n1 = n ∧ sh1 = sh ∧ rO h h1 ∧ h1 26 7 = 1 ∧ lst (h1 29) 1 = iot 0 1) := by
  refine zM.ofT2 (by decide +kernel) [some (2, 26), some (0, 1), none] rfl (Nat.le_of_ble_eq_true rfl) ?_
  refine zt_aload_n dX6_firstChoice_0 rfl ?_
  refine zt_iload_n dX6_firstChoice_1 rfl ?_
  refine zt_aload_n dX6_firstChoice_2 rfl ?_
  refine zt_getv dX6_firstChoice_3 fl_X6_18 (zs_26 hS) (rf_26_6 hR) ?_
  refine zt_alenv (v := 4) dX6_firstChoice_6 (zs_29 hS) (by decide) (by decide) rfl ?_
  refine zt_callS2r dX6_firstChoice_7 ml_X6_38 (Nat.le_of_ble_eq_true rfl) (zF.of_eq (show some (0, zmi 1 4) = some (0, 1) by decide) rfl rfl rfl (c_min (by decide) (by decide))) ?_
  refine zt_puti dX6_firstChoice_10 fl_X6_104 rfl (zs_26 hS) (by decide) ?_
  refine zt_iconst dX6_firstChoice_13 ?_
  refine zt_istore_n_2 dX6_firstChoice_14 (by decide) rfl ?_
  refine zt_iload_n dX6_firstChoice_15 rfl ?_
  refine zt_aload_n dX6_firstChoice_16 rfl ?_
  refine zt_getv (v := 1) dX6_firstChoice_17 fl_X6_104 (zs_26 hS) zupE ?_
  refine zt_icmp_ge (tgt := 36) dX6_firstChoice_20 (by decide) (by decide) (by decide) (fun q => absurd q (by decide)) (fun c_20 => ?_)
  refine zt_aload_n dX6_firstChoice_23 rfl ?_
  refine zt_getv dX6_firstChoice_24 fl_X6_18 (zs_26 hS) (rf_26_6 (hR.up (by decide))) ?_
  refine zt_iload_n dX6_firstChoice_27 rfl ?_
  refine zt_iload_n dX6_firstChoice_28 rfl ?_
  refine zt_iastore dX6_firstChoice_29 (zs_29 hS) (by decide) (by decide) (by decide) (by decide) ?_
  refine zt_iincv_2 (v := 1) dX6_firstChoice_30 (by decide) rfl (by decide) ?_
  refine zt_goto (tgt := 15) dX6_firstChoice_33 (by decide) ?_
  refine zt_iload_n dX6_firstChoice_15 rfl ?_
  refine zt_aload_n dX6_firstChoice_16 rfl ?_
  refine zt_getv (v := 1) dX6_firstChoice_17 fl_X6_104 (zs_26 hS) ((zupA (by decide)).trans zupE) ?_
  refine zt_icmp_ge (tgt := 36) dX6_firstChoice_20 (by decide) (by decide) (by decide) (fun c_20 => ?_) (fun q => absurd q (by decide))
  exact zt_vret dX6_firstChoice_36 ⟨rfl, rfl, rfl, ⟨fun x q1 q2 q3 q4 => by (repeat rw [zup_ne (by assumption)]); (try rfl), fun y q1 q2 => by (repeat first | rw [zupA (by decide)] | rw [zupJ (by assumption)]); (try rfl), ((hR.up (by decide)).upA (by decide))⟩, by (repeat first | rw [zupE] | rw [zupA (by decide)] | rw [zupJ (by decide)]); (try rfl), by show [(zup (zup h 26 7 1) 29 0 0) 29 0] = [0]; (repeat first | rw [zupE] | rw [zupA (by decide)] | rw [zupJ (by decide)])⟩

set_option maxRecDepth 100000 in
set_option maxHeartbeats 4000000 in
theorem c_first2 {d n : Nat} {sh : zSh} {h : zMem} (hS : zShp sh) (hR : zRf h) : zM yX6_firstChoice cX6_firstChoice 3 none (d + 1) 0 0 [(2, 26), (0, 2)] n sh h (fun r n1 sh1 h1 => r = none ∧ n1 = n ∧ sh1 = sh ∧ rO h h1 ∧ h1 26 7 = 2 ∧ lst (h1 29) 2 = iot 0 2) := by
  refine zM.ofT2 (by decide +kernel) [some (2, 26), some (0, 2), none] rfl (Nat.le_of_ble_eq_true rfl) ?_
  refine zt_aload_n dX6_firstChoice_0 rfl ?_
  refine zt_iload_n dX6_firstChoice_1 rfl ?_
  refine zt_aload_n dX6_firstChoice_2 rfl ?_
  refine zt_getv dX6_firstChoice_3 fl_X6_18 (zs_26 hS) (rf_26_6 hR) ?_
  refine zt_alenv (v := 4) dX6_firstChoice_6 (zs_29 hS) (by decide) (by decide) rfl ?_
  refine zt_callS2r dX6_firstChoice_7 ml_X6_38 (Nat.le_of_ble_eq_true rfl) (zF.of_eq (show some (0, zmi 2 4) = some (0, 2) by decide) rfl rfl rfl (c_min (by decide) (by decide))) ?_
  refine zt_puti dX6_firstChoice_10 fl_X6_104 rfl (zs_26 hS) (by decide) ?_
  refine zt_iconst dX6_firstChoice_13 ?_
  refine zt_istore_n_2 dX6_firstChoice_14 (by decide) rfl ?_
  refine zt_iload_n dX6_firstChoice_15 rfl ?_
  refine zt_aload_n dX6_firstChoice_16 rfl ?_
  refine zt_getv (v := 2) dX6_firstChoice_17 fl_X6_104 (zs_26 hS) zupE ?_
  refine zt_icmp_ge (tgt := 36) dX6_firstChoice_20 (by decide) (by decide) (by decide) (fun q => absurd q (by decide)) (fun c_20 => ?_)
  refine zt_aload_n dX6_firstChoice_23 rfl ?_
  refine zt_getv dX6_firstChoice_24 fl_X6_18 (zs_26 hS) (rf_26_6 (hR.up (by decide))) ?_
  refine zt_iload_n dX6_firstChoice_27 rfl ?_
  refine zt_iload_n dX6_firstChoice_28 rfl ?_
  refine zt_iastore dX6_firstChoice_29 (zs_29 hS) (by decide) (by decide) (by decide) (by decide) ?_
  refine zt_iincv_2 (v := 1) dX6_firstChoice_30 (by decide) rfl (by decide) ?_
  refine zt_goto (tgt := 15) dX6_firstChoice_33 (by decide) ?_
  refine zt_iload_n dX6_firstChoice_15 rfl ?_
  refine zt_aload_n dX6_firstChoice_16 rfl ?_
  refine zt_getv (v := 2) dX6_firstChoice_17 fl_X6_104 (zs_26 hS) ((zupA (by decide)).trans zupE) ?_
  refine zt_icmp_ge (tgt := 36) dX6_firstChoice_20 (by decide) (by decide) (by decide) (fun q => absurd q (by decide)) (fun c_20 => ?_)
  refine zt_aload_n dX6_firstChoice_23 rfl ?_
  refine zt_getv dX6_firstChoice_24 fl_X6_18 (zs_26 hS) (rf_26_6 ((hR.up (by decide)).upA (by decide))) ?_
  refine zt_iload_n dX6_firstChoice_27 rfl ?_
  refine zt_iload_n dX6_firstChoice_28 rfl ?_
  refine zt_iastore dX6_firstChoice_29 (zs_29 hS) (by decide) (by decide) (by decide) (by decide) ?_
  refine zt_iincv_2 (v := 2) dX6_firstChoice_30 (by decide) rfl (by decide) ?_
  refine zt_goto (tgt := 15) dX6_firstChoice_33 (by decide) ?_
  refine zt_iload_n dX6_firstChoice_15 rfl ?_
  refine zt_aload_n dX6_firstChoice_16 rfl ?_
  refine zt_getv (v := 2) dX6_firstChoice_17 fl_X6_104 (zs_26 hS) ((zupA (by decide)).trans ((zupA (by decide)).trans zupE)) ?_
  refine zt_icmp_ge (tgt := 36) dX6_firstChoice_20 (by decide) (by decide) (by decide) (fun c_20 => ?_) (fun q => absurd q (by decide))
  exact zt_vret dX6_firstChoice_36 ⟨rfl, rfl, rfl, ⟨fun x q1 q2 q3 q4 => by (repeat rw [zup_ne (by assumption)]); (try rfl), fun y q1 q2 => by (repeat first | rw [zupA (by decide)] | rw [zupJ (by assumption)]); (try rfl), (((hR.up (by decide)).upA (by decide)).upA (by decide))⟩, by (repeat first | rw [zupE] | rw [zupA (by decide)] | rw [zupJ (by decide)]); (try rfl), by show [(zup (zup (zup h 26 7 2) 29 0 0) 29 1 1) 29 0, (zup (zup (zup h 26 7 2) 29 0 0) 29 1 1) 29 1] = [0, 1]; (repeat first | rw [zupE] | rw [zupA (by decide)] | rw [zupJ (by decide)])⟩

set_option maxRecDepth 100000 in
set_option maxHeartbeats 4000000 in
theorem c_first3 {d n : Nat} {sh : zSh} {h : zMem} (hS : zShp sh) (hR : zRf h) : zM yX6_firstChoice cX6_firstChoice 3 none (d + 1) 0 0 [(2, 26), (0, 3)] n sh h (fun r n1 sh1 h1 => r = none ∧ n1 = n ∧ sh1 = sh ∧ rO h h1 ∧ h1 26 7 = 3 ∧ lst (h1 29) 3 = iot 0 3) := by
  refine zM.ofT2 (by decide +kernel) [some (2, 26), some (0, 3), none] rfl (Nat.le_of_ble_eq_true rfl) ?_
  refine zt_aload_n dX6_firstChoice_0 rfl ?_
  refine zt_iload_n dX6_firstChoice_1 rfl ?_
  refine zt_aload_n dX6_firstChoice_2 rfl ?_
  refine zt_getv dX6_firstChoice_3 fl_X6_18 (zs_26 hS) (rf_26_6 hR) ?_
  refine zt_alenv (v := 4) dX6_firstChoice_6 (zs_29 hS) (by decide) (by decide) rfl ?_
  refine zt_callS2r dX6_firstChoice_7 ml_X6_38 (Nat.le_of_ble_eq_true rfl) (zF.of_eq (show some (0, zmi 3 4) = some (0, 3) by decide) rfl rfl rfl (c_min (by decide) (by decide))) ?_
  refine zt_puti dX6_firstChoice_10 fl_X6_104 rfl (zs_26 hS) (by decide) ?_
  refine zt_iconst dX6_firstChoice_13 ?_
  refine zt_istore_n_2 dX6_firstChoice_14 (by decide) rfl ?_
  refine zt_iload_n dX6_firstChoice_15 rfl ?_
  refine zt_aload_n dX6_firstChoice_16 rfl ?_
  refine zt_getv (v := 3) dX6_firstChoice_17 fl_X6_104 (zs_26 hS) zupE ?_
  refine zt_icmp_ge (tgt := 36) dX6_firstChoice_20 (by decide) (by decide) (by decide) (fun q => absurd q (by decide)) (fun c_20 => ?_)
  refine zt_aload_n dX6_firstChoice_23 rfl ?_
  refine zt_getv dX6_firstChoice_24 fl_X6_18 (zs_26 hS) (rf_26_6 (hR.up (by decide))) ?_
  refine zt_iload_n dX6_firstChoice_27 rfl ?_
  refine zt_iload_n dX6_firstChoice_28 rfl ?_
  refine zt_iastore dX6_firstChoice_29 (zs_29 hS) (by decide) (by decide) (by decide) (by decide) ?_
  refine zt_iincv_2 (v := 1) dX6_firstChoice_30 (by decide) rfl (by decide) ?_
  refine zt_goto (tgt := 15) dX6_firstChoice_33 (by decide) ?_
  refine zt_iload_n dX6_firstChoice_15 rfl ?_
  refine zt_aload_n dX6_firstChoice_16 rfl ?_
  refine zt_getv (v := 3) dX6_firstChoice_17 fl_X6_104 (zs_26 hS) ((zupA (by decide)).trans zupE) ?_
  refine zt_icmp_ge (tgt := 36) dX6_firstChoice_20 (by decide) (by decide) (by decide) (fun q => absurd q (by decide)) (fun c_20 => ?_)
  refine zt_aload_n dX6_firstChoice_23 rfl ?_
  refine zt_getv dX6_firstChoice_24 fl_X6_18 (zs_26 hS) (rf_26_6 ((hR.up (by decide)).upA (by decide))) ?_
  refine zt_iload_n dX6_firstChoice_27 rfl ?_
  refine zt_iload_n dX6_firstChoice_28 rfl ?_
  refine zt_iastore dX6_firstChoice_29 (zs_29 hS) (by decide) (by decide) (by decide) (by decide) ?_
  refine zt_iincv_2 (v := 2) dX6_firstChoice_30 (by decide) rfl (by decide) ?_
  refine zt_goto (tgt := 15) dX6_firstChoice_33 (by decide) ?_
  refine zt_iload_n dX6_firstChoice_15 rfl ?_
  refine zt_aload_n dX6_firstChoice_16 rfl ?_
  refine zt_getv (v := 3) dX6_firstChoice_17 fl_X6_104 (zs_26 hS) ((zupA (by decide)).trans ((zupA (by decide)).trans zupE)) ?_
  refine zt_icmp_ge (tgt := 36) dX6_firstChoice_20 (by decide) (by decide) (by decide) (fun q => absurd q (by decide)) (fun c_20 => ?_)
  refine zt_aload_n dX6_firstChoice_23 rfl ?_
  refine zt_getv dX6_firstChoice_24 fl_X6_18 (zs_26 hS) (rf_26_6 (((hR.up (by decide)).upA (by decide)).upA (by decide))) ?_
  refine zt_iload_n dX6_firstChoice_27 rfl ?_
  refine zt_iload_n dX6_firstChoice_28 rfl ?_
  refine zt_iastore dX6_firstChoice_29 (zs_29 hS) (by decide) (by decide) (by decide) (by decide) ?_
  refine zt_iincv_2 (v := 3) dX6_firstChoice_30 (by decide) rfl (by decide) ?_
  refine zt_goto (tgt := 15) dX6_firstChoice_33 (by decide) ?_
  refine zt_iload_n dX6_firstChoice_15 rfl ?_
  refine zt_aload_n dX6_firstChoice_16 rfl ?_
  refine zt_getv (v := 3) dX6_firstChoice_17 fl_X6_104 (zs_26 hS) ((zupA (by decide)).trans ((zupA (by decide)).trans ((zupA (by decide)).trans zupE))) ?_
  refine zt_icmp_ge (tgt := 36) dX6_firstChoice_20 (by decide) (by decide) (by decide) (fun c_20 => ?_) (fun q => absurd q (by decide))
  exact zt_vret dX6_firstChoice_36 ⟨rfl, rfl, rfl, ⟨fun x q1 q2 q3 q4 => by (repeat rw [zup_ne (by assumption)]); (try rfl), fun y q1 q2 => by (repeat first | rw [zupA (by decide)] | rw [zupJ (by assumption)]); (try rfl), ((((hR.up (by decide)).upA (by decide)).upA (by decide)).upA (by decide))⟩, by (repeat first | rw [zupE] | rw [zupA (by decide)] | rw [zupJ (by decide)]); (try rfl), by show [(zup (zup (zup (zup h 26 7 3) 29 0 0) 29 1 1) 29 2 2) 29 0, (zup (zup (zup (zup h 26 7 3) 29 0 0) 29 1 1) 29 2 2) 29 1, (zup (zup (zup (zup h 26 7 3) 29 0 0) 29 1 1) 29 2 2) 29 2] = [0, 1, 2]; (repeat first | rw [zupE] | rw [zupA (by decide)] | rw [zupJ (by decide)])⟩

set_option maxRecDepth 100000 in
set_option maxHeartbeats 4000000 in
theorem c_first4 {d n : Nat} {sh : zSh} {h : zMem} (hS : zShp sh) (hR : zRf h) : zM yX6_firstChoice cX6_firstChoice 3 none (d + 1) 0 0 [(2, 26), (0, 4)] n sh h (fun r n1 sh1 h1 => r = none ∧ n1 = n ∧ sh1 = sh ∧ rO h h1 ∧ h1 26 7 = 4 ∧ lst (h1 29) 4 = iot 0 4) := by
  refine zM.ofT2 (by decide +kernel) [some (2, 26), some (0, 4), none] rfl (Nat.le_of_ble_eq_true rfl) ?_
  refine zt_aload_n dX6_firstChoice_0 rfl ?_
  refine zt_iload_n dX6_firstChoice_1 rfl ?_
  refine zt_aload_n dX6_firstChoice_2 rfl ?_
  refine zt_getv dX6_firstChoice_3 fl_X6_18 (zs_26 hS) (rf_26_6 hR) ?_
  refine zt_alenv (v := 4) dX6_firstChoice_6 (zs_29 hS) (by decide) (by decide) rfl ?_
  refine zt_callS2r dX6_firstChoice_7 ml_X6_38 (Nat.le_of_ble_eq_true rfl) (zF.of_eq (show some (0, zmi 4 4) = some (0, 4) by decide) rfl rfl rfl (c_min (by decide) (by decide))) ?_
  refine zt_puti dX6_firstChoice_10 fl_X6_104 rfl (zs_26 hS) (by decide) ?_
  refine zt_iconst dX6_firstChoice_13 ?_
  refine zt_istore_n_2 dX6_firstChoice_14 (by decide) rfl ?_
  refine zt_iload_n dX6_firstChoice_15 rfl ?_
  refine zt_aload_n dX6_firstChoice_16 rfl ?_
  refine zt_getv (v := 4) dX6_firstChoice_17 fl_X6_104 (zs_26 hS) zupE ?_
  refine zt_icmp_ge (tgt := 36) dX6_firstChoice_20 (by decide) (by decide) (by decide) (fun q => absurd q (by decide)) (fun c_20 => ?_)
  refine zt_aload_n dX6_firstChoice_23 rfl ?_
  refine zt_getv dX6_firstChoice_24 fl_X6_18 (zs_26 hS) (rf_26_6 (hR.up (by decide))) ?_
  refine zt_iload_n dX6_firstChoice_27 rfl ?_
  refine zt_iload_n dX6_firstChoice_28 rfl ?_
  refine zt_iastore dX6_firstChoice_29 (zs_29 hS) (by decide) (by decide) (by decide) (by decide) ?_
  refine zt_iincv_2 (v := 1) dX6_firstChoice_30 (by decide) rfl (by decide) ?_
  refine zt_goto (tgt := 15) dX6_firstChoice_33 (by decide) ?_
  refine zt_iload_n dX6_firstChoice_15 rfl ?_
  refine zt_aload_n dX6_firstChoice_16 rfl ?_
  refine zt_getv (v := 4) dX6_firstChoice_17 fl_X6_104 (zs_26 hS) ((zupA (by decide)).trans zupE) ?_
  refine zt_icmp_ge (tgt := 36) dX6_firstChoice_20 (by decide) (by decide) (by decide) (fun q => absurd q (by decide)) (fun c_20 => ?_)
  refine zt_aload_n dX6_firstChoice_23 rfl ?_
  refine zt_getv dX6_firstChoice_24 fl_X6_18 (zs_26 hS) (rf_26_6 ((hR.up (by decide)).upA (by decide))) ?_
  refine zt_iload_n dX6_firstChoice_27 rfl ?_
  refine zt_iload_n dX6_firstChoice_28 rfl ?_
  refine zt_iastore dX6_firstChoice_29 (zs_29 hS) (by decide) (by decide) (by decide) (by decide) ?_
  refine zt_iincv_2 (v := 2) dX6_firstChoice_30 (by decide) rfl (by decide) ?_
  refine zt_goto (tgt := 15) dX6_firstChoice_33 (by decide) ?_
  refine zt_iload_n dX6_firstChoice_15 rfl ?_
  refine zt_aload_n dX6_firstChoice_16 rfl ?_
  refine zt_getv (v := 4) dX6_firstChoice_17 fl_X6_104 (zs_26 hS) ((zupA (by decide)).trans ((zupA (by decide)).trans zupE)) ?_
  refine zt_icmp_ge (tgt := 36) dX6_firstChoice_20 (by decide) (by decide) (by decide) (fun q => absurd q (by decide)) (fun c_20 => ?_)
  refine zt_aload_n dX6_firstChoice_23 rfl ?_
  refine zt_getv dX6_firstChoice_24 fl_X6_18 (zs_26 hS) (rf_26_6 (((hR.up (by decide)).upA (by decide)).upA (by decide))) ?_
  refine zt_iload_n dX6_firstChoice_27 rfl ?_
  refine zt_iload_n dX6_firstChoice_28 rfl ?_
  refine zt_iastore dX6_firstChoice_29 (zs_29 hS) (by decide) (by decide) (by decide) (by decide) ?_
  refine zt_iincv_2 (v := 3) dX6_firstChoice_30 (by decide) rfl (by decide) ?_
  refine zt_goto (tgt := 15) dX6_firstChoice_33 (by decide) ?_
  refine zt_iload_n dX6_firstChoice_15 rfl ?_
  refine zt_aload_n dX6_firstChoice_16 rfl ?_
  refine zt_getv (v := 4) dX6_firstChoice_17 fl_X6_104 (zs_26 hS) ((zupA (by decide)).trans ((zupA (by decide)).trans ((zupA (by decide)).trans zupE))) ?_
  refine zt_icmp_ge (tgt := 36) dX6_firstChoice_20 (by decide) (by decide) (by decide) (fun q => absurd q (by decide)) (fun c_20 => ?_)
  refine zt_aload_n dX6_firstChoice_23 rfl ?_
  refine zt_getv dX6_firstChoice_24 fl_X6_18 (zs_26 hS) (rf_26_6 ((((hR.up (by decide)).upA (by decide)).upA (by decide)).upA (by decide))) ?_
  refine zt_iload_n dX6_firstChoice_27 rfl ?_
  refine zt_iload_n dX6_firstChoice_28 rfl ?_
  refine zt_iastore dX6_firstChoice_29 (zs_29 hS) (by decide) (by decide) (by decide) (by decide) ?_
  refine zt_iincv_2 (v := 4) dX6_firstChoice_30 (by decide) rfl (by decide) ?_
  refine zt_goto (tgt := 15) dX6_firstChoice_33 (by decide) ?_
  refine zt_iload_n dX6_firstChoice_15 rfl ?_
  refine zt_aload_n dX6_firstChoice_16 rfl ?_
  refine zt_getv (v := 4) dX6_firstChoice_17 fl_X6_104 (zs_26 hS) ((zupA (by decide)).trans ((zupA (by decide)).trans ((zupA (by decide)).trans ((zupA (by decide)).trans zupE)))) ?_
  refine zt_icmp_ge (tgt := 36) dX6_firstChoice_20 (by decide) (by decide) (by decide) (fun c_20 => ?_) (fun q => absurd q (by decide))
  exact zt_vret dX6_firstChoice_36 ⟨rfl, rfl, rfl, ⟨fun x q1 q2 q3 q4 => by (repeat rw [zup_ne (by assumption)]); (try rfl), fun y q1 q2 => by (repeat first | rw [zupA (by decide)] | rw [zupJ (by assumption)]); (try rfl), (((((hR.up (by decide)).upA (by decide)).upA (by decide)).upA (by decide)).upA (by decide))⟩, by (repeat first | rw [zupE] | rw [zupA (by decide)] | rw [zupJ (by decide)]); (try rfl), by show [(zup (zup (zup (zup (zup h 26 7 4) 29 0 0) 29 1 1) 29 2 2) 29 3 3) 29 0, (zup (zup (zup (zup (zup h 26 7 4) 29 0 0) 29 1 1) 29 2 2) 29 3 3) 29 1, (zup (zup (zup (zup (zup h 26 7 4) 29 0 0) 29 1 1) 29 2 2) 29 3 3) 29 2, (zup (zup (zup (zup (zup h 26 7 4) 29 0 0) 29 1 1) 29 2 2) 29 3 3) 29 3] = [0, 1, 2, 3]; (repeat first | rw [zupE] | rw [zupA (by decide)] | rw [zupJ (by decide)])⟩

theorem c_first {d n : Nat} {sh : zSh} {h : zMem} {K : Nat} (hS : zShp sh) (hR : zRf h) (hK : 1 ≤ K ∧ K ≤ 4) : zM yX6_firstChoice cX6_firstChoice 3 none (d + 1) 0 0 [(2, 26), (0, (K : Int))] n sh h (fun r n1 sh1 h1 => r = none ∧ n1 = n ∧ sh1 = sh ∧ rO h h1 ∧ h1 26 7 = (K : Nat) ∧ lst (h1 29) K = iot 0 K) := by
  rcases (show K = 1 ∨ K = 2 ∨ K = 3 ∨ K = 4 by omega) with rfl | rfl | rfl | rfl
  · exact c_first1 hS hR
  · exact c_first2 hS hR
  · exact c_first3 hS hR
  · exact c_first4 hS hR

set_option maxRecDepth 100000 in
set_option maxHeartbeats 4000000 in
theorem c_nxc1 {d n : Nat} {sh : zSh} {h : zMem} (hS : zShp sh) (hR : zRf h) (hK : h 26 7 = 1) (hp : 0 ≤ h 26 5 ∧ h 26 5 ≤ 20) (hc : ∀ j, 0 ≤ j → j < 1 → 0 ≤ h 29 j ∧ h 29 j ≤ 100) : zM yX6_nextChoice cX6_nextChoice 3 (some .boolean) (d + 0) 0 0 [(2, 26)] n sh h (fun r n1 sh1 h1 => n1 = n ∧ sh1 = sh ∧ rO h h1 ∧ h1 26 = h 26 ∧ ((r = some (0, 1) ∧ nx (h 26 5) (lst (h 29) 1) = some (lst (h1 29) 1)) ∨ (r = some (0, 0) ∧ nx (h 26 5) (lst (h 29) 1) = none))) := by
  refine zM.ofT2 (by decide +kernel) [some (2, 26), none, none] rfl (Nat.le_of_ble_eq_true rfl) ?_
  have hc0 := hc 0 (by decide) (by decide)
  refine zt_aload_n dX6_nextChoice_0 rfl ?_
  refine zt_getv (v := 1) dX6_nextChoice_1 fl_X6_104 (zs_26 hS) hK ?_
  refine zt_iconst dX6_nextChoice_4 ?_
  refine zt_isub dX6_nextChoice_5 ?_
  refine zt_topv (v := 0) (by decide) ?_
  refine zt_istore_n_1 dX6_nextChoice_6 (by decide) rfl ?_
  refine zt_iload_n dX6_nextChoice_7 rfl ?_
  refine zt_if_lt (tgt := 83) dX6_nextChoice_8 (by decide) (by decide) (fun q => absurd q (by decide)) (fun c_8 => ?_)
  refine zt_aload_n dX6_nextChoice_11 rfl ?_
  refine zt_getv dX6_nextChoice_12 fl_X6_18 (zs_26 hS) (rf_26_6 hR) ?_
  refine zt_iload_n dX6_nextChoice_15 rfl ?_
  refine zt_iaload dX6_nextChoice_16 (zs_29 hS) (by decide) (by decide) (by decide) ?_
  refine zt_aload_n dX6_nextChoice_17 rfl ?_
  refine zt_get dX6_nextChoice_18 fl_X6_60 (zs_26 hS) ?_
  refine zt_aload_n dX6_nextChoice_21 rfl ?_
  refine zt_getv (v := 1) dX6_nextChoice_22 fl_X6_104 (zs_26 hS) hK ?_
  refine zt_isub dX6_nextChoice_25 ?_
  refine zt_iload_n dX6_nextChoice_26 rfl ?_
  refine zt_iadd dX6_nextChoice_27 ?_
  refine zt_icmp_ge (tgt := 77) dX6_nextChoice_28 (by decide) (by omega) (by omega) (fun c_28 => ?_) (fun c_28 => ?_)
  · refine zt_iincv_1 (v := -1) dX6_nextChoice_77 (by decide) rfl (by decide) ?_
    refine zt_goto (tgt := 7) dX6_nextChoice_80 (by decide) ?_
    refine zt_iload_n dX6_nextChoice_7 rfl ?_
    refine zt_if_lt (tgt := 83) dX6_nextChoice_8 (by decide) (by decide) (fun c_8 => ?_) (fun q => absurd q (by decide))
    refine zt_iconst dX6_nextChoice_83 ?_
    exact zt_zret dX6_nextChoice_84 (by decide) ⟨rfl, rfl, ⟨fun x q1 q2 q3 q4 => by (repeat rw [zup_ne (by assumption)]); (try rfl), fun y q1 q2 => by (repeat first | rw [zupA (by decide)] | rw [zupJ (by assumption)]); (try rfl), hR⟩, rfl, Or.inr ⟨rfl, by show nx (h 26 5) [h 29 0] = none; rw [nx1]; (repeat rw [if_neg (by omega)])⟩⟩
  · refine zt_aload_n dX6_nextChoice_31 rfl ?_
    refine zt_getv dX6_nextChoice_32 fl_X6_18 (zs_26 hS) (rf_26_6 hR) ?_
    refine zt_iload_n dX6_nextChoice_35 rfl ?_
    refine zt_dup2 dX6_nextChoice_36 (Nat.ne_of_beq_eq_false rfl) (Nat.ne_of_beq_eq_false rfl) ?_
    refine zt_iaload dX6_nextChoice_37 (zs_29 hS) (by decide) (by decide) (by decide) ?_
    refine zt_iconst dX6_nextChoice_38 ?_
    refine zt_iadd dX6_nextChoice_39 ?_
    refine zt_iastore dX6_nextChoice_40 (zs_29 hS) (by decide) (by decide) (by decide) (by omega) ?_
    refine zt_iload_n dX6_nextChoice_41 rfl ?_
    refine zt_iconst dX6_nextChoice_42 ?_
    refine zt_iadd dX6_nextChoice_43 ?_
    refine zt_topv (v := 1) (by decide) ?_
    refine zt_istore_n_2 dX6_nextChoice_44 (by decide) rfl ?_
    refine zt_iload_n dX6_nextChoice_45 rfl ?_
    refine zt_aload_n dX6_nextChoice_46 rfl ?_
    refine zt_getv (v := 1) dX6_nextChoice_47 fl_X6_104 (zs_26 hS) (((zupA (by decide)).trans rfl).trans hK) ?_
    refine zt_icmp_ge (tgt := 75) dX6_nextChoice_50 (by decide) (by decide) (by decide) (fun c_50 => ?_) (fun q => absurd q (by decide))
    refine zt_iconst dX6_nextChoice_75 ?_
    exact zt_zret dX6_nextChoice_76 (by decide) ⟨rfl, rfl, ⟨fun x q1 q2 q3 q4 => by (repeat rw [zup_ne (by assumption)]); (try rfl), fun y q1 q2 => by (repeat first | rw [zupA (by decide)] | rw [zupJ (by assumption)]); (try rfl), (hR.upA (by decide))⟩, by (repeat rw [zup_ne (by decide)]), Or.inl ⟨rfl, by show nx (h 26 5) [h 29 0] = some [(zup h 29 0 ((h 29 0) + 1)) 29 0]; (repeat first | rw [zupE] | rw [zupA (by decide)] | rw [zupJ (by decide)]); rw [nx1]; (repeat rw [if_neg (by omega)]); rw [if_pos (by omega)]; (try simp only [Int.add_assoc, Int.reduceAdd])⟩⟩

set_option maxRecDepth 100000 in
set_option maxHeartbeats 4000000 in
theorem c_nxc2 {d n : Nat} {sh : zSh} {h : zMem} (hS : zShp sh) (hR : zRf h) (hK : h 26 7 = 2) (hp : 0 ≤ h 26 5 ∧ h 26 5 ≤ 20) (hc : ∀ j, 0 ≤ j → j < 2 → 0 ≤ h 29 j ∧ h 29 j ≤ 100) : zM yX6_nextChoice cX6_nextChoice 3 (some .boolean) (d + 0) 0 0 [(2, 26)] n sh h (fun r n1 sh1 h1 => n1 = n ∧ sh1 = sh ∧ rO h h1 ∧ h1 26 = h 26 ∧ ((r = some (0, 1) ∧ nx (h 26 5) (lst (h 29) 2) = some (lst (h1 29) 2)) ∨ (r = some (0, 0) ∧ nx (h 26 5) (lst (h 29) 2) = none))) := by
  refine zM.ofT2 (by decide +kernel) [some (2, 26), none, none] rfl (Nat.le_of_ble_eq_true rfl) ?_
  have hc0 := hc 0 (by decide) (by decide)
  have hc1 := hc 1 (by decide) (by decide)
  refine zt_aload_n dX6_nextChoice_0 rfl ?_
  refine zt_getv (v := 2) dX6_nextChoice_1 fl_X6_104 (zs_26 hS) hK ?_
  refine zt_iconst dX6_nextChoice_4 ?_
  refine zt_isub dX6_nextChoice_5 ?_
  refine zt_topv (v := 1) (by decide) ?_
  refine zt_istore_n_1 dX6_nextChoice_6 (by decide) rfl ?_
  refine zt_iload_n dX6_nextChoice_7 rfl ?_
  refine zt_if_lt (tgt := 83) dX6_nextChoice_8 (by decide) (by decide) (fun q => absurd q (by decide)) (fun c_8 => ?_)
  refine zt_aload_n dX6_nextChoice_11 rfl ?_
  refine zt_getv dX6_nextChoice_12 fl_X6_18 (zs_26 hS) (rf_26_6 hR) ?_
  refine zt_iload_n dX6_nextChoice_15 rfl ?_
  refine zt_iaload dX6_nextChoice_16 (zs_29 hS) (by decide) (by decide) (by decide) ?_
  refine zt_aload_n dX6_nextChoice_17 rfl ?_
  refine zt_get dX6_nextChoice_18 fl_X6_60 (zs_26 hS) ?_
  refine zt_aload_n dX6_nextChoice_21 rfl ?_
  refine zt_getv (v := 2) dX6_nextChoice_22 fl_X6_104 (zs_26 hS) hK ?_
  refine zt_isub dX6_nextChoice_25 ?_
  refine zt_iload_n dX6_nextChoice_26 rfl ?_
  refine zt_iadd dX6_nextChoice_27 ?_
  refine zt_icmp_ge (tgt := 77) dX6_nextChoice_28 (by decide) (by omega) (by omega) (fun c_28 => ?_) (fun c_28 => ?_)
  · refine zt_iincv_1 (v := 0) dX6_nextChoice_77 (by decide) rfl (by decide) ?_
    refine zt_goto (tgt := 7) dX6_nextChoice_80 (by decide) ?_
    refine zt_iload_n dX6_nextChoice_7 rfl ?_
    refine zt_if_lt (tgt := 83) dX6_nextChoice_8 (by decide) (by decide) (fun q => absurd q (by decide)) (fun c_8 => ?_)
    refine zt_aload_n dX6_nextChoice_11 rfl ?_
    refine zt_getv dX6_nextChoice_12 fl_X6_18 (zs_26 hS) (rf_26_6 hR) ?_
    refine zt_iload_n dX6_nextChoice_15 rfl ?_
    refine zt_iaload dX6_nextChoice_16 (zs_29 hS) (by decide) (by decide) (by decide) ?_
    refine zt_aload_n dX6_nextChoice_17 rfl ?_
    refine zt_get dX6_nextChoice_18 fl_X6_60 (zs_26 hS) ?_
    refine zt_aload_n dX6_nextChoice_21 rfl ?_
    refine zt_getv (v := 2) dX6_nextChoice_22 fl_X6_104 (zs_26 hS) hK ?_
    refine zt_isub dX6_nextChoice_25 ?_
    refine zt_iload_n dX6_nextChoice_26 rfl ?_
    refine zt_iadd dX6_nextChoice_27 ?_
    refine zt_icmp_ge (tgt := 77) dX6_nextChoice_28 (by decide) (by omega) (by omega) (fun c_28 => ?_) (fun c_28 => ?_)
    · refine zt_iincv_1 (v := -1) dX6_nextChoice_77 (by decide) rfl (by decide) ?_
      refine zt_goto (tgt := 7) dX6_nextChoice_80 (by decide) ?_
      refine zt_iload_n dX6_nextChoice_7 rfl ?_
      refine zt_if_lt (tgt := 83) dX6_nextChoice_8 (by decide) (by decide) (fun c_8 => ?_) (fun q => absurd q (by decide))
      refine zt_iconst dX6_nextChoice_83 ?_
      exact zt_zret dX6_nextChoice_84 (by decide) ⟨rfl, rfl, ⟨fun x q1 q2 q3 q4 => by (repeat rw [zup_ne (by assumption)]); (try rfl), fun y q1 q2 => by (repeat first | rw [zupA (by decide)] | rw [zupJ (by assumption)]); (try rfl), hR⟩, rfl, Or.inr ⟨rfl, by show nx (h 26 5) [h 29 0, h 29 1] = none; rw [nx2]; (repeat rw [if_neg (by omega)])⟩⟩
    · refine zt_aload_n dX6_nextChoice_31 rfl ?_
      refine zt_getv dX6_nextChoice_32 fl_X6_18 (zs_26 hS) (rf_26_6 hR) ?_
      refine zt_iload_n dX6_nextChoice_35 rfl ?_
      refine zt_dup2 dX6_nextChoice_36 (Nat.ne_of_beq_eq_false rfl) (Nat.ne_of_beq_eq_false rfl) ?_
      refine zt_iaload dX6_nextChoice_37 (zs_29 hS) (by decide) (by decide) (by decide) ?_
      refine zt_iconst dX6_nextChoice_38 ?_
      refine zt_iadd dX6_nextChoice_39 ?_
      refine zt_iastore dX6_nextChoice_40 (zs_29 hS) (by decide) (by decide) (by decide) (by omega) ?_
      refine zt_iload_n dX6_nextChoice_41 rfl ?_
      refine zt_iconst dX6_nextChoice_42 ?_
      refine zt_iadd dX6_nextChoice_43 ?_
      refine zt_topv (v := 1) (by decide) ?_
      refine zt_istore_n_2 dX6_nextChoice_44 (by decide) rfl ?_
      refine zt_iload_n dX6_nextChoice_45 rfl ?_
      refine zt_aload_n dX6_nextChoice_46 rfl ?_
      refine zt_getv (v := 2) dX6_nextChoice_47 fl_X6_104 (zs_26 hS) (((zupA (by decide)).trans rfl).trans hK) ?_
      refine zt_icmp_ge (tgt := 75) dX6_nextChoice_50 (by decide) (by decide) (by decide) (fun q => absurd q (by decide)) (fun c_50 => ?_)
      refine zt_aload_n dX6_nextChoice_53 rfl ?_
      refine zt_getv dX6_nextChoice_54 fl_X6_18 (zs_26 hS) (rf_26_6 (hR.upA (by decide))) ?_
      refine zt_iload_n dX6_nextChoice_57 rfl ?_
      refine zt_aload_n dX6_nextChoice_58 rfl ?_
      refine zt_getv dX6_nextChoice_59 fl_X6_18 (zs_26 hS) (rf_26_6 (hR.upA (by decide))) ?_
      refine zt_iload_n dX6_nextChoice_62 rfl ?_
      refine zt_iconst dX6_nextChoice_63 ?_
      refine zt_isub dX6_nextChoice_64 ?_
      refine zt_topv (v := 0) (by decide) ?_
      refine zt_ialoadv (v := (h 29 0) + 1) dX6_nextChoice_65 (zs_29 hS) (by decide) (by decide) (by decide) zupE ?_
      refine zt_iconst dX6_nextChoice_66 ?_
      refine zt_iadd dX6_nextChoice_67 ?_
      refine zt_iastore dX6_nextChoice_68 (zs_29 hS) (by decide) (by decide) (by decide) (by omega) ?_
      refine zt_iincv_2 (v := 2) dX6_nextChoice_69 (by decide) rfl (by decide) ?_
      refine zt_goto (tgt := 45) dX6_nextChoice_72 (by decide) ?_
      refine zt_iload_n dX6_nextChoice_45 rfl ?_
      refine zt_aload_n dX6_nextChoice_46 rfl ?_
      refine zt_getv (v := 2) dX6_nextChoice_47 fl_X6_104 (zs_26 hS) (((zupA (by decide)).trans ((zupA (by decide)).trans rfl)).trans hK) ?_
      refine zt_icmp_ge (tgt := 75) dX6_nextChoice_50 (by decide) (by decide) (by decide) (fun c_50 => ?_) (fun q => absurd q (by decide))
      refine zt_iconst dX6_nextChoice_75 ?_
      exact zt_zret dX6_nextChoice_76 (by decide) ⟨rfl, rfl, ⟨fun x q1 q2 q3 q4 => by (repeat rw [zup_ne (by assumption)]); (try rfl), fun y q1 q2 => by (repeat first | rw [zupA (by decide)] | rw [zupJ (by assumption)]); (try rfl), ((hR.upA (by decide)).upA (by decide))⟩, by (repeat rw [zup_ne (by decide)]), Or.inl ⟨rfl, by show nx (h 26 5) [h 29 0, h 29 1] = some [(zup (zup h 29 0 ((h 29 0) + 1)) 29 1 (((h 29 0) + 1) + 1)) 29 0, (zup (zup h 29 0 ((h 29 0) + 1)) 29 1 (((h 29 0) + 1) + 1)) 29 1]; (repeat first | rw [zupE] | rw [zupA (by decide)] | rw [zupJ (by decide)]); rw [nx2]; (repeat rw [if_neg (by omega)]); rw [if_pos (by omega)]; (try simp only [Int.add_assoc, Int.reduceAdd])⟩⟩
  · refine zt_aload_n dX6_nextChoice_31 rfl ?_
    refine zt_getv dX6_nextChoice_32 fl_X6_18 (zs_26 hS) (rf_26_6 hR) ?_
    refine zt_iload_n dX6_nextChoice_35 rfl ?_
    refine zt_dup2 dX6_nextChoice_36 (Nat.ne_of_beq_eq_false rfl) (Nat.ne_of_beq_eq_false rfl) ?_
    refine zt_iaload dX6_nextChoice_37 (zs_29 hS) (by decide) (by decide) (by decide) ?_
    refine zt_iconst dX6_nextChoice_38 ?_
    refine zt_iadd dX6_nextChoice_39 ?_
    refine zt_iastore dX6_nextChoice_40 (zs_29 hS) (by decide) (by decide) (by decide) (by omega) ?_
    refine zt_iload_n dX6_nextChoice_41 rfl ?_
    refine zt_iconst dX6_nextChoice_42 ?_
    refine zt_iadd dX6_nextChoice_43 ?_
    refine zt_topv (v := 2) (by decide) ?_
    refine zt_istore_n_2 dX6_nextChoice_44 (by decide) rfl ?_
    refine zt_iload_n dX6_nextChoice_45 rfl ?_
    refine zt_aload_n dX6_nextChoice_46 rfl ?_
    refine zt_getv (v := 2) dX6_nextChoice_47 fl_X6_104 (zs_26 hS) (((zupA (by decide)).trans rfl).trans hK) ?_
    refine zt_icmp_ge (tgt := 75) dX6_nextChoice_50 (by decide) (by decide) (by decide) (fun c_50 => ?_) (fun q => absurd q (by decide))
    refine zt_iconst dX6_nextChoice_75 ?_
    exact zt_zret dX6_nextChoice_76 (by decide) ⟨rfl, rfl, ⟨fun x q1 q2 q3 q4 => by (repeat rw [zup_ne (by assumption)]); (try rfl), fun y q1 q2 => by (repeat first | rw [zupA (by decide)] | rw [zupJ (by assumption)]); (try rfl), (hR.upA (by decide))⟩, by (repeat rw [zup_ne (by decide)]), Or.inl ⟨rfl, by show nx (h 26 5) [h 29 0, h 29 1] = some [(zup h 29 1 ((h 29 1) + 1)) 29 0, (zup h 29 1 ((h 29 1) + 1)) 29 1]; (repeat first | rw [zupE] | rw [zupA (by decide)] | rw [zupJ (by decide)]); rw [nx2]; (repeat rw [if_neg (by omega)]); rw [if_pos (by omega)]; (try simp only [Int.add_assoc, Int.reduceAdd])⟩⟩

set_option maxRecDepth 100000 in
set_option maxHeartbeats 4000000 in
theorem c_nxc3 {d n : Nat} {sh : zSh} {h : zMem} (hS : zShp sh) (hR : zRf h) (hK : h 26 7 = 3) (hp : 0 ≤ h 26 5 ∧ h 26 5 ≤ 20) (hc : ∀ j, 0 ≤ j → j < 3 → 0 ≤ h 29 j ∧ h 29 j ≤ 100) : zM yX6_nextChoice cX6_nextChoice 3 (some .boolean) (d + 0) 0 0 [(2, 26)] n sh h (fun r n1 sh1 h1 => n1 = n ∧ sh1 = sh ∧ rO h h1 ∧ h1 26 = h 26 ∧ ((r = some (0, 1) ∧ nx (h 26 5) (lst (h 29) 3) = some (lst (h1 29) 3)) ∨ (r = some (0, 0) ∧ nx (h 26 5) (lst (h 29) 3) = none))) := by
  refine zM.ofT2 (by decide +kernel) [some (2, 26), none, none] rfl (Nat.le_of_ble_eq_true rfl) ?_
  have hc0 := hc 0 (by decide) (by decide)
  have hc1 := hc 1 (by decide) (by decide)
  have hc2 := hc 2 (by decide) (by decide)
  refine zt_aload_n dX6_nextChoice_0 rfl ?_
  refine zt_getv (v := 3) dX6_nextChoice_1 fl_X6_104 (zs_26 hS) hK ?_
  refine zt_iconst dX6_nextChoice_4 ?_
  refine zt_isub dX6_nextChoice_5 ?_
  refine zt_topv (v := 2) (by decide) ?_
  refine zt_istore_n_1 dX6_nextChoice_6 (by decide) rfl ?_
  refine zt_iload_n dX6_nextChoice_7 rfl ?_
  refine zt_if_lt (tgt := 83) dX6_nextChoice_8 (by decide) (by decide) (fun q => absurd q (by decide)) (fun c_8 => ?_)
  refine zt_aload_n dX6_nextChoice_11 rfl ?_
  refine zt_getv dX6_nextChoice_12 fl_X6_18 (zs_26 hS) (rf_26_6 hR) ?_
  refine zt_iload_n dX6_nextChoice_15 rfl ?_
  refine zt_iaload dX6_nextChoice_16 (zs_29 hS) (by decide) (by decide) (by decide) ?_
  refine zt_aload_n dX6_nextChoice_17 rfl ?_
  refine zt_get dX6_nextChoice_18 fl_X6_60 (zs_26 hS) ?_
  refine zt_aload_n dX6_nextChoice_21 rfl ?_
  refine zt_getv (v := 3) dX6_nextChoice_22 fl_X6_104 (zs_26 hS) hK ?_
  refine zt_isub dX6_nextChoice_25 ?_
  refine zt_iload_n dX6_nextChoice_26 rfl ?_
  refine zt_iadd dX6_nextChoice_27 ?_
  refine zt_icmp_ge (tgt := 77) dX6_nextChoice_28 (by decide) (by omega) (by omega) (fun c_28 => ?_) (fun c_28 => ?_)
  · refine zt_iincv_1 (v := 1) dX6_nextChoice_77 (by decide) rfl (by decide) ?_
    refine zt_goto (tgt := 7) dX6_nextChoice_80 (by decide) ?_
    refine zt_iload_n dX6_nextChoice_7 rfl ?_
    refine zt_if_lt (tgt := 83) dX6_nextChoice_8 (by decide) (by decide) (fun q => absurd q (by decide)) (fun c_8 => ?_)
    refine zt_aload_n dX6_nextChoice_11 rfl ?_
    refine zt_getv dX6_nextChoice_12 fl_X6_18 (zs_26 hS) (rf_26_6 hR) ?_
    refine zt_iload_n dX6_nextChoice_15 rfl ?_
    refine zt_iaload dX6_nextChoice_16 (zs_29 hS) (by decide) (by decide) (by decide) ?_
    refine zt_aload_n dX6_nextChoice_17 rfl ?_
    refine zt_get dX6_nextChoice_18 fl_X6_60 (zs_26 hS) ?_
    refine zt_aload_n dX6_nextChoice_21 rfl ?_
    refine zt_getv (v := 3) dX6_nextChoice_22 fl_X6_104 (zs_26 hS) hK ?_
    refine zt_isub dX6_nextChoice_25 ?_
    refine zt_iload_n dX6_nextChoice_26 rfl ?_
    refine zt_iadd dX6_nextChoice_27 ?_
    refine zt_icmp_ge (tgt := 77) dX6_nextChoice_28 (by decide) (by omega) (by omega) (fun c_28 => ?_) (fun c_28 => ?_)
    · refine zt_iincv_1 (v := 0) dX6_nextChoice_77 (by decide) rfl (by decide) ?_
      refine zt_goto (tgt := 7) dX6_nextChoice_80 (by decide) ?_
      refine zt_iload_n dX6_nextChoice_7 rfl ?_
      refine zt_if_lt (tgt := 83) dX6_nextChoice_8 (by decide) (by decide) (fun q => absurd q (by decide)) (fun c_8 => ?_)
      refine zt_aload_n dX6_nextChoice_11 rfl ?_
      refine zt_getv dX6_nextChoice_12 fl_X6_18 (zs_26 hS) (rf_26_6 hR) ?_
      refine zt_iload_n dX6_nextChoice_15 rfl ?_
      refine zt_iaload dX6_nextChoice_16 (zs_29 hS) (by decide) (by decide) (by decide) ?_
      refine zt_aload_n dX6_nextChoice_17 rfl ?_
      refine zt_get dX6_nextChoice_18 fl_X6_60 (zs_26 hS) ?_
      refine zt_aload_n dX6_nextChoice_21 rfl ?_
      refine zt_getv (v := 3) dX6_nextChoice_22 fl_X6_104 (zs_26 hS) hK ?_
      refine zt_isub dX6_nextChoice_25 ?_
      refine zt_iload_n dX6_nextChoice_26 rfl ?_
      refine zt_iadd dX6_nextChoice_27 ?_
      refine zt_icmp_ge (tgt := 77) dX6_nextChoice_28 (by decide) (by omega) (by omega) (fun c_28 => ?_) (fun c_28 => ?_)
      · refine zt_iincv_1 (v := -1) dX6_nextChoice_77 (by decide) rfl (by decide) ?_
        refine zt_goto (tgt := 7) dX6_nextChoice_80 (by decide) ?_
        refine zt_iload_n dX6_nextChoice_7 rfl ?_
        refine zt_if_lt (tgt := 83) dX6_nextChoice_8 (by decide) (by decide) (fun c_8 => ?_) (fun q => absurd q (by decide))
        refine zt_iconst dX6_nextChoice_83 ?_
        exact zt_zret dX6_nextChoice_84 (by decide) ⟨rfl, rfl, ⟨fun x q1 q2 q3 q4 => by (repeat rw [zup_ne (by assumption)]); (try rfl), fun y q1 q2 => by (repeat first | rw [zupA (by decide)] | rw [zupJ (by assumption)]); (try rfl), hR⟩, rfl, Or.inr ⟨rfl, by show nx (h 26 5) [h 29 0, h 29 1, h 29 2] = none; rw [nx3]; (repeat rw [if_neg (by omega)])⟩⟩
      · refine zt_aload_n dX6_nextChoice_31 rfl ?_
        refine zt_getv dX6_nextChoice_32 fl_X6_18 (zs_26 hS) (rf_26_6 hR) ?_
        refine zt_iload_n dX6_nextChoice_35 rfl ?_
        refine zt_dup2 dX6_nextChoice_36 (Nat.ne_of_beq_eq_false rfl) (Nat.ne_of_beq_eq_false rfl) ?_
        refine zt_iaload dX6_nextChoice_37 (zs_29 hS) (by decide) (by decide) (by decide) ?_
        refine zt_iconst dX6_nextChoice_38 ?_
        refine zt_iadd dX6_nextChoice_39 ?_
        refine zt_iastore dX6_nextChoice_40 (zs_29 hS) (by decide) (by decide) (by decide) (by omega) ?_
        refine zt_iload_n dX6_nextChoice_41 rfl ?_
        refine zt_iconst dX6_nextChoice_42 ?_
        refine zt_iadd dX6_nextChoice_43 ?_
        refine zt_topv (v := 1) (by decide) ?_
        refine zt_istore_n_2 dX6_nextChoice_44 (by decide) rfl ?_
        refine zt_iload_n dX6_nextChoice_45 rfl ?_
        refine zt_aload_n dX6_nextChoice_46 rfl ?_
        refine zt_getv (v := 3) dX6_nextChoice_47 fl_X6_104 (zs_26 hS) (((zupA (by decide)).trans rfl).trans hK) ?_
        refine zt_icmp_ge (tgt := 75) dX6_nextChoice_50 (by decide) (by decide) (by decide) (fun q => absurd q (by decide)) (fun c_50 => ?_)
        refine zt_aload_n dX6_nextChoice_53 rfl ?_
        refine zt_getv dX6_nextChoice_54 fl_X6_18 (zs_26 hS) (rf_26_6 (hR.upA (by decide))) ?_
        refine zt_iload_n dX6_nextChoice_57 rfl ?_
        refine zt_aload_n dX6_nextChoice_58 rfl ?_
        refine zt_getv dX6_nextChoice_59 fl_X6_18 (zs_26 hS) (rf_26_6 (hR.upA (by decide))) ?_
        refine zt_iload_n dX6_nextChoice_62 rfl ?_
        refine zt_iconst dX6_nextChoice_63 ?_
        refine zt_isub dX6_nextChoice_64 ?_
        refine zt_topv (v := 0) (by decide) ?_
        refine zt_ialoadv (v := (h 29 0) + 1) dX6_nextChoice_65 (zs_29 hS) (by decide) (by decide) (by decide) zupE ?_
        refine zt_iconst dX6_nextChoice_66 ?_
        refine zt_iadd dX6_nextChoice_67 ?_
        refine zt_iastore dX6_nextChoice_68 (zs_29 hS) (by decide) (by decide) (by decide) (by omega) ?_
        refine zt_iincv_2 (v := 2) dX6_nextChoice_69 (by decide) rfl (by decide) ?_
        refine zt_goto (tgt := 45) dX6_nextChoice_72 (by decide) ?_
        refine zt_iload_n dX6_nextChoice_45 rfl ?_
        refine zt_aload_n dX6_nextChoice_46 rfl ?_
        refine zt_getv (v := 3) dX6_nextChoice_47 fl_X6_104 (zs_26 hS) (((zupA (by decide)).trans ((zupA (by decide)).trans rfl)).trans hK) ?_
        refine zt_icmp_ge (tgt := 75) dX6_nextChoice_50 (by decide) (by decide) (by decide) (fun q => absurd q (by decide)) (fun c_50 => ?_)
        refine zt_aload_n dX6_nextChoice_53 rfl ?_
        refine zt_getv dX6_nextChoice_54 fl_X6_18 (zs_26 hS) (rf_26_6 ((hR.upA (by decide)).upA (by decide))) ?_
        refine zt_iload_n dX6_nextChoice_57 rfl ?_
        refine zt_aload_n dX6_nextChoice_58 rfl ?_
        refine zt_getv dX6_nextChoice_59 fl_X6_18 (zs_26 hS) (rf_26_6 ((hR.upA (by decide)).upA (by decide))) ?_
        refine zt_iload_n dX6_nextChoice_62 rfl ?_
        refine zt_iconst dX6_nextChoice_63 ?_
        refine zt_isub dX6_nextChoice_64 ?_
        refine zt_topv (v := 1) (by decide) ?_
        refine zt_ialoadv (v := ((h 29 0) + 1) + 1) dX6_nextChoice_65 (zs_29 hS) (by decide) (by decide) (by decide) zupE ?_
        refine zt_iconst dX6_nextChoice_66 ?_
        refine zt_iadd dX6_nextChoice_67 ?_
        refine zt_iastore dX6_nextChoice_68 (zs_29 hS) (by decide) (by decide) (by decide) (by omega) ?_
        refine zt_iincv_2 (v := 3) dX6_nextChoice_69 (by decide) rfl (by decide) ?_
        refine zt_goto (tgt := 45) dX6_nextChoice_72 (by decide) ?_
        refine zt_iload_n dX6_nextChoice_45 rfl ?_
        refine zt_aload_n dX6_nextChoice_46 rfl ?_
        refine zt_getv (v := 3) dX6_nextChoice_47 fl_X6_104 (zs_26 hS) (((zupA (by decide)).trans ((zupA (by decide)).trans ((zupA (by decide)).trans rfl))).trans hK) ?_
        refine zt_icmp_ge (tgt := 75) dX6_nextChoice_50 (by decide) (by decide) (by decide) (fun c_50 => ?_) (fun q => absurd q (by decide))
        refine zt_iconst dX6_nextChoice_75 ?_
        exact zt_zret dX6_nextChoice_76 (by decide) ⟨rfl, rfl, ⟨fun x q1 q2 q3 q4 => by (repeat rw [zup_ne (by assumption)]); (try rfl), fun y q1 q2 => by (repeat first | rw [zupA (by decide)] | rw [zupJ (by assumption)]); (try rfl), (((hR.upA (by decide)).upA (by decide)).upA (by decide))⟩, by (repeat rw [zup_ne (by decide)]), Or.inl ⟨rfl, by show nx (h 26 5) [h 29 0, h 29 1, h 29 2] = some [(zup (zup (zup h 29 0 ((h 29 0) + 1)) 29 1 (((h 29 0) + 1) + 1)) 29 2 ((((h 29 0) + 1) + 1) + 1)) 29 0, (zup (zup (zup h 29 0 ((h 29 0) + 1)) 29 1 (((h 29 0) + 1) + 1)) 29 2 ((((h 29 0) + 1) + 1) + 1)) 29 1, (zup (zup (zup h 29 0 ((h 29 0) + 1)) 29 1 (((h 29 0) + 1) + 1)) 29 2 ((((h 29 0) + 1) + 1) + 1)) 29 2]; (repeat first | rw [zupE] | rw [zupA (by decide)] | rw [zupJ (by decide)]); rw [nx3]; (repeat rw [if_neg (by omega)]); rw [if_pos (by omega)]; (try simp only [Int.add_assoc, Int.reduceAdd])⟩⟩
    · refine zt_aload_n dX6_nextChoice_31 rfl ?_
      refine zt_getv dX6_nextChoice_32 fl_X6_18 (zs_26 hS) (rf_26_6 hR) ?_
      refine zt_iload_n dX6_nextChoice_35 rfl ?_
      refine zt_dup2 dX6_nextChoice_36 (Nat.ne_of_beq_eq_false rfl) (Nat.ne_of_beq_eq_false rfl) ?_
      refine zt_iaload dX6_nextChoice_37 (zs_29 hS) (by decide) (by decide) (by decide) ?_
      refine zt_iconst dX6_nextChoice_38 ?_
      refine zt_iadd dX6_nextChoice_39 ?_
      refine zt_iastore dX6_nextChoice_40 (zs_29 hS) (by decide) (by decide) (by decide) (by omega) ?_
      refine zt_iload_n dX6_nextChoice_41 rfl ?_
      refine zt_iconst dX6_nextChoice_42 ?_
      refine zt_iadd dX6_nextChoice_43 ?_
      refine zt_topv (v := 2) (by decide) ?_
      refine zt_istore_n_2 dX6_nextChoice_44 (by decide) rfl ?_
      refine zt_iload_n dX6_nextChoice_45 rfl ?_
      refine zt_aload_n dX6_nextChoice_46 rfl ?_
      refine zt_getv (v := 3) dX6_nextChoice_47 fl_X6_104 (zs_26 hS) (((zupA (by decide)).trans rfl).trans hK) ?_
      refine zt_icmp_ge (tgt := 75) dX6_nextChoice_50 (by decide) (by decide) (by decide) (fun q => absurd q (by decide)) (fun c_50 => ?_)
      refine zt_aload_n dX6_nextChoice_53 rfl ?_
      refine zt_getv dX6_nextChoice_54 fl_X6_18 (zs_26 hS) (rf_26_6 (hR.upA (by decide))) ?_
      refine zt_iload_n dX6_nextChoice_57 rfl ?_
      refine zt_aload_n dX6_nextChoice_58 rfl ?_
      refine zt_getv dX6_nextChoice_59 fl_X6_18 (zs_26 hS) (rf_26_6 (hR.upA (by decide))) ?_
      refine zt_iload_n dX6_nextChoice_62 rfl ?_
      refine zt_iconst dX6_nextChoice_63 ?_
      refine zt_isub dX6_nextChoice_64 ?_
      refine zt_topv (v := 1) (by decide) ?_
      refine zt_ialoadv (v := (h 29 1) + 1) dX6_nextChoice_65 (zs_29 hS) (by decide) (by decide) (by decide) zupE ?_
      refine zt_iconst dX6_nextChoice_66 ?_
      refine zt_iadd dX6_nextChoice_67 ?_
      refine zt_iastore dX6_nextChoice_68 (zs_29 hS) (by decide) (by decide) (by decide) (by omega) ?_
      refine zt_iincv_2 (v := 3) dX6_nextChoice_69 (by decide) rfl (by decide) ?_
      refine zt_goto (tgt := 45) dX6_nextChoice_72 (by decide) ?_
      refine zt_iload_n dX6_nextChoice_45 rfl ?_
      refine zt_aload_n dX6_nextChoice_46 rfl ?_
      refine zt_getv (v := 3) dX6_nextChoice_47 fl_X6_104 (zs_26 hS) (((zupA (by decide)).trans ((zupA (by decide)).trans rfl)).trans hK) ?_
      refine zt_icmp_ge (tgt := 75) dX6_nextChoice_50 (by decide) (by decide) (by decide) (fun c_50 => ?_) (fun q => absurd q (by decide))
      refine zt_iconst dX6_nextChoice_75 ?_
      exact zt_zret dX6_nextChoice_76 (by decide) ⟨rfl, rfl, ⟨fun x q1 q2 q3 q4 => by (repeat rw [zup_ne (by assumption)]); (try rfl), fun y q1 q2 => by (repeat first | rw [zupA (by decide)] | rw [zupJ (by assumption)]); (try rfl), ((hR.upA (by decide)).upA (by decide))⟩, by (repeat rw [zup_ne (by decide)]), Or.inl ⟨rfl, by show nx (h 26 5) [h 29 0, h 29 1, h 29 2] = some [(zup (zup h 29 1 ((h 29 1) + 1)) 29 2 (((h 29 1) + 1) + 1)) 29 0, (zup (zup h 29 1 ((h 29 1) + 1)) 29 2 (((h 29 1) + 1) + 1)) 29 1, (zup (zup h 29 1 ((h 29 1) + 1)) 29 2 (((h 29 1) + 1) + 1)) 29 2]; (repeat first | rw [zupE] | rw [zupA (by decide)] | rw [zupJ (by decide)]); rw [nx3]; (repeat rw [if_neg (by omega)]); rw [if_pos (by omega)]; (try simp only [Int.add_assoc, Int.reduceAdd])⟩⟩
  · refine zt_aload_n dX6_nextChoice_31 rfl ?_
    refine zt_getv dX6_nextChoice_32 fl_X6_18 (zs_26 hS) (rf_26_6 hR) ?_
    refine zt_iload_n dX6_nextChoice_35 rfl ?_
    refine zt_dup2 dX6_nextChoice_36 (Nat.ne_of_beq_eq_false rfl) (Nat.ne_of_beq_eq_false rfl) ?_
    refine zt_iaload dX6_nextChoice_37 (zs_29 hS) (by decide) (by decide) (by decide) ?_
    refine zt_iconst dX6_nextChoice_38 ?_
    refine zt_iadd dX6_nextChoice_39 ?_
    refine zt_iastore dX6_nextChoice_40 (zs_29 hS) (by decide) (by decide) (by decide) (by omega) ?_
    refine zt_iload_n dX6_nextChoice_41 rfl ?_
    refine zt_iconst dX6_nextChoice_42 ?_
    refine zt_iadd dX6_nextChoice_43 ?_
    refine zt_topv (v := 3) (by decide) ?_
    refine zt_istore_n_2 dX6_nextChoice_44 (by decide) rfl ?_
    refine zt_iload_n dX6_nextChoice_45 rfl ?_
    refine zt_aload_n dX6_nextChoice_46 rfl ?_
    refine zt_getv (v := 3) dX6_nextChoice_47 fl_X6_104 (zs_26 hS) (((zupA (by decide)).trans rfl).trans hK) ?_
    refine zt_icmp_ge (tgt := 75) dX6_nextChoice_50 (by decide) (by decide) (by decide) (fun c_50 => ?_) (fun q => absurd q (by decide))
    refine zt_iconst dX6_nextChoice_75 ?_
    exact zt_zret dX6_nextChoice_76 (by decide) ⟨rfl, rfl, ⟨fun x q1 q2 q3 q4 => by (repeat rw [zup_ne (by assumption)]); (try rfl), fun y q1 q2 => by (repeat first | rw [zupA (by decide)] | rw [zupJ (by assumption)]); (try rfl), (hR.upA (by decide))⟩, by (repeat rw [zup_ne (by decide)]), Or.inl ⟨rfl, by show nx (h 26 5) [h 29 0, h 29 1, h 29 2] = some [(zup h 29 2 ((h 29 2) + 1)) 29 0, (zup h 29 2 ((h 29 2) + 1)) 29 1, (zup h 29 2 ((h 29 2) + 1)) 29 2]; (repeat first | rw [zupE] | rw [zupA (by decide)] | rw [zupJ (by decide)]); rw [nx3]; (repeat rw [if_neg (by omega)]); rw [if_pos (by omega)]; (try simp only [Int.add_assoc, Int.reduceAdd])⟩⟩

set_option maxRecDepth 100000 in
set_option maxHeartbeats 4000000 in
theorem c_nxc4 {d n : Nat} {sh : zSh} {h : zMem} (hS : zShp sh) (hR : zRf h) (hK : h 26 7 = 4) (hp : 0 ≤ h 26 5 ∧ h 26 5 ≤ 20) (hc : ∀ j, 0 ≤ j → j < 4 → 0 ≤ h 29 j ∧ h 29 j ≤ 100) : zM yX6_nextChoice cX6_nextChoice 3 (some .boolean) (d + 0) 0 0 [(2, 26)] n sh h (fun r n1 sh1 h1 => n1 = n ∧ sh1 = sh ∧ rO h h1 ∧ h1 26 = h 26 ∧ ((r = some (0, 1) ∧ nx (h 26 5) (lst (h 29) 4) = some (lst (h1 29) 4)) ∨ (r = some (0, 0) ∧ nx (h 26 5) (lst (h 29) 4) = none))) := by
  refine zM.ofT2 (by decide +kernel) [some (2, 26), none, none] rfl (Nat.le_of_ble_eq_true rfl) ?_
  have hc0 := hc 0 (by decide) (by decide)
  have hc1 := hc 1 (by decide) (by decide)
  have hc2 := hc 2 (by decide) (by decide)
  have hc3 := hc 3 (by decide) (by decide)
  refine zt_aload_n dX6_nextChoice_0 rfl ?_
  refine zt_getv (v := 4) dX6_nextChoice_1 fl_X6_104 (zs_26 hS) hK ?_
  refine zt_iconst dX6_nextChoice_4 ?_
  refine zt_isub dX6_nextChoice_5 ?_
  refine zt_topv (v := 3) (by decide) ?_
  refine zt_istore_n_1 dX6_nextChoice_6 (by decide) rfl ?_
  refine zt_iload_n dX6_nextChoice_7 rfl ?_
  refine zt_if_lt (tgt := 83) dX6_nextChoice_8 (by decide) (by decide) (fun q => absurd q (by decide)) (fun c_8 => ?_)
  refine zt_aload_n dX6_nextChoice_11 rfl ?_
  refine zt_getv dX6_nextChoice_12 fl_X6_18 (zs_26 hS) (rf_26_6 hR) ?_
  refine zt_iload_n dX6_nextChoice_15 rfl ?_
  refine zt_iaload dX6_nextChoice_16 (zs_29 hS) (by decide) (by decide) (by decide) ?_
  refine zt_aload_n dX6_nextChoice_17 rfl ?_
  refine zt_get dX6_nextChoice_18 fl_X6_60 (zs_26 hS) ?_
  refine zt_aload_n dX6_nextChoice_21 rfl ?_
  refine zt_getv (v := 4) dX6_nextChoice_22 fl_X6_104 (zs_26 hS) hK ?_
  refine zt_isub dX6_nextChoice_25 ?_
  refine zt_iload_n dX6_nextChoice_26 rfl ?_
  refine zt_iadd dX6_nextChoice_27 ?_
  refine zt_icmp_ge (tgt := 77) dX6_nextChoice_28 (by decide) (by omega) (by omega) (fun c_28 => ?_) (fun c_28 => ?_)
  · refine zt_iincv_1 (v := 2) dX6_nextChoice_77 (by decide) rfl (by decide) ?_
    refine zt_goto (tgt := 7) dX6_nextChoice_80 (by decide) ?_
    refine zt_iload_n dX6_nextChoice_7 rfl ?_
    refine zt_if_lt (tgt := 83) dX6_nextChoice_8 (by decide) (by decide) (fun q => absurd q (by decide)) (fun c_8 => ?_)
    refine zt_aload_n dX6_nextChoice_11 rfl ?_
    refine zt_getv dX6_nextChoice_12 fl_X6_18 (zs_26 hS) (rf_26_6 hR) ?_
    refine zt_iload_n dX6_nextChoice_15 rfl ?_
    refine zt_iaload dX6_nextChoice_16 (zs_29 hS) (by decide) (by decide) (by decide) ?_
    refine zt_aload_n dX6_nextChoice_17 rfl ?_
    refine zt_get dX6_nextChoice_18 fl_X6_60 (zs_26 hS) ?_
    refine zt_aload_n dX6_nextChoice_21 rfl ?_
    refine zt_getv (v := 4) dX6_nextChoice_22 fl_X6_104 (zs_26 hS) hK ?_
    refine zt_isub dX6_nextChoice_25 ?_
    refine zt_iload_n dX6_nextChoice_26 rfl ?_
    refine zt_iadd dX6_nextChoice_27 ?_
    refine zt_icmp_ge (tgt := 77) dX6_nextChoice_28 (by decide) (by omega) (by omega) (fun c_28 => ?_) (fun c_28 => ?_)
    · refine zt_iincv_1 (v := 1) dX6_nextChoice_77 (by decide) rfl (by decide) ?_
      refine zt_goto (tgt := 7) dX6_nextChoice_80 (by decide) ?_
      refine zt_iload_n dX6_nextChoice_7 rfl ?_
      refine zt_if_lt (tgt := 83) dX6_nextChoice_8 (by decide) (by decide) (fun q => absurd q (by decide)) (fun c_8 => ?_)
      refine zt_aload_n dX6_nextChoice_11 rfl ?_
      refine zt_getv dX6_nextChoice_12 fl_X6_18 (zs_26 hS) (rf_26_6 hR) ?_
      refine zt_iload_n dX6_nextChoice_15 rfl ?_
      refine zt_iaload dX6_nextChoice_16 (zs_29 hS) (by decide) (by decide) (by decide) ?_
      refine zt_aload_n dX6_nextChoice_17 rfl ?_
      refine zt_get dX6_nextChoice_18 fl_X6_60 (zs_26 hS) ?_
      refine zt_aload_n dX6_nextChoice_21 rfl ?_
      refine zt_getv (v := 4) dX6_nextChoice_22 fl_X6_104 (zs_26 hS) hK ?_
      refine zt_isub dX6_nextChoice_25 ?_
      refine zt_iload_n dX6_nextChoice_26 rfl ?_
      refine zt_iadd dX6_nextChoice_27 ?_
      refine zt_icmp_ge (tgt := 77) dX6_nextChoice_28 (by decide) (by omega) (by omega) (fun c_28 => ?_) (fun c_28 => ?_)
      · refine zt_iincv_1 (v := 0) dX6_nextChoice_77 (by decide) rfl (by decide) ?_
        refine zt_goto (tgt := 7) dX6_nextChoice_80 (by decide) ?_
        refine zt_iload_n dX6_nextChoice_7 rfl ?_
        refine zt_if_lt (tgt := 83) dX6_nextChoice_8 (by decide) (by decide) (fun q => absurd q (by decide)) (fun c_8 => ?_)
        refine zt_aload_n dX6_nextChoice_11 rfl ?_
        refine zt_getv dX6_nextChoice_12 fl_X6_18 (zs_26 hS) (rf_26_6 hR) ?_
        refine zt_iload_n dX6_nextChoice_15 rfl ?_
        refine zt_iaload dX6_nextChoice_16 (zs_29 hS) (by decide) (by decide) (by decide) ?_
        refine zt_aload_n dX6_nextChoice_17 rfl ?_
        refine zt_get dX6_nextChoice_18 fl_X6_60 (zs_26 hS) ?_
        refine zt_aload_n dX6_nextChoice_21 rfl ?_
        refine zt_getv (v := 4) dX6_nextChoice_22 fl_X6_104 (zs_26 hS) hK ?_
        refine zt_isub dX6_nextChoice_25 ?_
        refine zt_iload_n dX6_nextChoice_26 rfl ?_
        refine zt_iadd dX6_nextChoice_27 ?_
        refine zt_icmp_ge (tgt := 77) dX6_nextChoice_28 (by decide) (by omega) (by omega) (fun c_28 => ?_) (fun c_28 => ?_)
        · refine zt_iincv_1 (v := -1) dX6_nextChoice_77 (by decide) rfl (by decide) ?_
          refine zt_goto (tgt := 7) dX6_nextChoice_80 (by decide) ?_
          refine zt_iload_n dX6_nextChoice_7 rfl ?_
          refine zt_if_lt (tgt := 83) dX6_nextChoice_8 (by decide) (by decide) (fun c_8 => ?_) (fun q => absurd q (by decide))
          refine zt_iconst dX6_nextChoice_83 ?_
          exact zt_zret dX6_nextChoice_84 (by decide) ⟨rfl, rfl, ⟨fun x q1 q2 q3 q4 => by (repeat rw [zup_ne (by assumption)]); (try rfl), fun y q1 q2 => by (repeat first | rw [zupA (by decide)] | rw [zupJ (by assumption)]); (try rfl), hR⟩, rfl, Or.inr ⟨rfl, by show nx (h 26 5) [h 29 0, h 29 1, h 29 2, h 29 3] = none; rw [nx4]; (repeat rw [if_neg (by omega)])⟩⟩
        · refine zt_aload_n dX6_nextChoice_31 rfl ?_
          refine zt_getv dX6_nextChoice_32 fl_X6_18 (zs_26 hS) (rf_26_6 hR) ?_
          refine zt_iload_n dX6_nextChoice_35 rfl ?_
          refine zt_dup2 dX6_nextChoice_36 (Nat.ne_of_beq_eq_false rfl) (Nat.ne_of_beq_eq_false rfl) ?_
          refine zt_iaload dX6_nextChoice_37 (zs_29 hS) (by decide) (by decide) (by decide) ?_
          refine zt_iconst dX6_nextChoice_38 ?_
          refine zt_iadd dX6_nextChoice_39 ?_
          refine zt_iastore dX6_nextChoice_40 (zs_29 hS) (by decide) (by decide) (by decide) (by omega) ?_
          refine zt_iload_n dX6_nextChoice_41 rfl ?_
          refine zt_iconst dX6_nextChoice_42 ?_
          refine zt_iadd dX6_nextChoice_43 ?_
          refine zt_topv (v := 1) (by decide) ?_
          refine zt_istore_n_2 dX6_nextChoice_44 (by decide) rfl ?_
          refine zt_iload_n dX6_nextChoice_45 rfl ?_
          refine zt_aload_n dX6_nextChoice_46 rfl ?_
          refine zt_getv (v := 4) dX6_nextChoice_47 fl_X6_104 (zs_26 hS) (((zupA (by decide)).trans rfl).trans hK) ?_
          refine zt_icmp_ge (tgt := 75) dX6_nextChoice_50 (by decide) (by decide) (by decide) (fun q => absurd q (by decide)) (fun c_50 => ?_)
          refine zt_aload_n dX6_nextChoice_53 rfl ?_
          refine zt_getv dX6_nextChoice_54 fl_X6_18 (zs_26 hS) (rf_26_6 (hR.upA (by decide))) ?_
          refine zt_iload_n dX6_nextChoice_57 rfl ?_
          refine zt_aload_n dX6_nextChoice_58 rfl ?_
          refine zt_getv dX6_nextChoice_59 fl_X6_18 (zs_26 hS) (rf_26_6 (hR.upA (by decide))) ?_
          refine zt_iload_n dX6_nextChoice_62 rfl ?_
          refine zt_iconst dX6_nextChoice_63 ?_
          refine zt_isub dX6_nextChoice_64 ?_
          refine zt_topv (v := 0) (by decide) ?_
          refine zt_ialoadv (v := (h 29 0) + 1) dX6_nextChoice_65 (zs_29 hS) (by decide) (by decide) (by decide) zupE ?_
          refine zt_iconst dX6_nextChoice_66 ?_
          refine zt_iadd dX6_nextChoice_67 ?_
          refine zt_iastore dX6_nextChoice_68 (zs_29 hS) (by decide) (by decide) (by decide) (by omega) ?_
          refine zt_iincv_2 (v := 2) dX6_nextChoice_69 (by decide) rfl (by decide) ?_
          refine zt_goto (tgt := 45) dX6_nextChoice_72 (by decide) ?_
          refine zt_iload_n dX6_nextChoice_45 rfl ?_
          refine zt_aload_n dX6_nextChoice_46 rfl ?_
          refine zt_getv (v := 4) dX6_nextChoice_47 fl_X6_104 (zs_26 hS) (((zupA (by decide)).trans ((zupA (by decide)).trans rfl)).trans hK) ?_
          refine zt_icmp_ge (tgt := 75) dX6_nextChoice_50 (by decide) (by decide) (by decide) (fun q => absurd q (by decide)) (fun c_50 => ?_)
          refine zt_aload_n dX6_nextChoice_53 rfl ?_
          refine zt_getv dX6_nextChoice_54 fl_X6_18 (zs_26 hS) (rf_26_6 ((hR.upA (by decide)).upA (by decide))) ?_
          refine zt_iload_n dX6_nextChoice_57 rfl ?_
          refine zt_aload_n dX6_nextChoice_58 rfl ?_
          refine zt_getv dX6_nextChoice_59 fl_X6_18 (zs_26 hS) (rf_26_6 ((hR.upA (by decide)).upA (by decide))) ?_
          refine zt_iload_n dX6_nextChoice_62 rfl ?_
          refine zt_iconst dX6_nextChoice_63 ?_
          refine zt_isub dX6_nextChoice_64 ?_
          refine zt_topv (v := 1) (by decide) ?_
          refine zt_ialoadv (v := ((h 29 0) + 1) + 1) dX6_nextChoice_65 (zs_29 hS) (by decide) (by decide) (by decide) zupE ?_
          refine zt_iconst dX6_nextChoice_66 ?_
          refine zt_iadd dX6_nextChoice_67 ?_
          refine zt_iastore dX6_nextChoice_68 (zs_29 hS) (by decide) (by decide) (by decide) (by omega) ?_
          refine zt_iincv_2 (v := 3) dX6_nextChoice_69 (by decide) rfl (by decide) ?_
          refine zt_goto (tgt := 45) dX6_nextChoice_72 (by decide) ?_
          refine zt_iload_n dX6_nextChoice_45 rfl ?_
          refine zt_aload_n dX6_nextChoice_46 rfl ?_
          refine zt_getv (v := 4) dX6_nextChoice_47 fl_X6_104 (zs_26 hS) (((zupA (by decide)).trans ((zupA (by decide)).trans ((zupA (by decide)).trans rfl))).trans hK) ?_
          refine zt_icmp_ge (tgt := 75) dX6_nextChoice_50 (by decide) (by decide) (by decide) (fun q => absurd q (by decide)) (fun c_50 => ?_)
          refine zt_aload_n dX6_nextChoice_53 rfl ?_
          refine zt_getv dX6_nextChoice_54 fl_X6_18 (zs_26 hS) (rf_26_6 (((hR.upA (by decide)).upA (by decide)).upA (by decide))) ?_
          refine zt_iload_n dX6_nextChoice_57 rfl ?_
          refine zt_aload_n dX6_nextChoice_58 rfl ?_
          refine zt_getv dX6_nextChoice_59 fl_X6_18 (zs_26 hS) (rf_26_6 (((hR.upA (by decide)).upA (by decide)).upA (by decide))) ?_
          refine zt_iload_n dX6_nextChoice_62 rfl ?_
          refine zt_iconst dX6_nextChoice_63 ?_
          refine zt_isub dX6_nextChoice_64 ?_
          refine zt_topv (v := 2) (by decide) ?_
          refine zt_ialoadv (v := (((h 29 0) + 1) + 1) + 1) dX6_nextChoice_65 (zs_29 hS) (by decide) (by decide) (by decide) zupE ?_
          refine zt_iconst dX6_nextChoice_66 ?_
          refine zt_iadd dX6_nextChoice_67 ?_
          refine zt_iastore dX6_nextChoice_68 (zs_29 hS) (by decide) (by decide) (by decide) (by omega) ?_
          refine zt_iincv_2 (v := 4) dX6_nextChoice_69 (by decide) rfl (by decide) ?_
          refine zt_goto (tgt := 45) dX6_nextChoice_72 (by decide) ?_
          refine zt_iload_n dX6_nextChoice_45 rfl ?_
          refine zt_aload_n dX6_nextChoice_46 rfl ?_
          refine zt_getv (v := 4) dX6_nextChoice_47 fl_X6_104 (zs_26 hS) (((zupA (by decide)).trans ((zupA (by decide)).trans ((zupA (by decide)).trans ((zupA (by decide)).trans rfl)))).trans hK) ?_
          refine zt_icmp_ge (tgt := 75) dX6_nextChoice_50 (by decide) (by decide) (by decide) (fun c_50 => ?_) (fun q => absurd q (by decide))
          refine zt_iconst dX6_nextChoice_75 ?_
          exact zt_zret dX6_nextChoice_76 (by decide) ⟨rfl, rfl, ⟨fun x q1 q2 q3 q4 => by (repeat rw [zup_ne (by assumption)]); (try rfl), fun y q1 q2 => by (repeat first | rw [zupA (by decide)] | rw [zupJ (by assumption)]); (try rfl), ((((hR.upA (by decide)).upA (by decide)).upA (by decide)).upA (by decide))⟩, by (repeat rw [zup_ne (by decide)]), Or.inl ⟨rfl, by show nx (h 26 5) [h 29 0, h 29 1, h 29 2, h 29 3] = some [(zup (zup (zup (zup h 29 0 ((h 29 0) + 1)) 29 1 (((h 29 0) + 1) + 1)) 29 2 ((((h 29 0) + 1) + 1) + 1)) 29 3 (((((h 29 0) + 1) + 1) + 1) + 1)) 29 0, (zup (zup (zup (zup h 29 0 ((h 29 0) + 1)) 29 1 (((h 29 0) + 1) + 1)) 29 2 ((((h 29 0) + 1) + 1) + 1)) 29 3 (((((h 29 0) + 1) + 1) + 1) + 1)) 29 1, (zup (zup (zup (zup h 29 0 ((h 29 0) + 1)) 29 1 (((h 29 0) + 1) + 1)) 29 2 ((((h 29 0) + 1) + 1) + 1)) 29 3 (((((h 29 0) + 1) + 1) + 1) + 1)) 29 2, (zup (zup (zup (zup h 29 0 ((h 29 0) + 1)) 29 1 (((h 29 0) + 1) + 1)) 29 2 ((((h 29 0) + 1) + 1) + 1)) 29 3 (((((h 29 0) + 1) + 1) + 1) + 1)) 29 3]; (repeat first | rw [zupE] | rw [zupA (by decide)] | rw [zupJ (by decide)]); rw [nx4]; (repeat rw [if_neg (by omega)]); rw [if_pos (by omega)]; (try simp only [Int.add_assoc, Int.reduceAdd])⟩⟩
      · refine zt_aload_n dX6_nextChoice_31 rfl ?_
        refine zt_getv dX6_nextChoice_32 fl_X6_18 (zs_26 hS) (rf_26_6 hR) ?_
        refine zt_iload_n dX6_nextChoice_35 rfl ?_
        refine zt_dup2 dX6_nextChoice_36 (Nat.ne_of_beq_eq_false rfl) (Nat.ne_of_beq_eq_false rfl) ?_
        refine zt_iaload dX6_nextChoice_37 (zs_29 hS) (by decide) (by decide) (by decide) ?_
        refine zt_iconst dX6_nextChoice_38 ?_
        refine zt_iadd dX6_nextChoice_39 ?_
        refine zt_iastore dX6_nextChoice_40 (zs_29 hS) (by decide) (by decide) (by decide) (by omega) ?_
        refine zt_iload_n dX6_nextChoice_41 rfl ?_
        refine zt_iconst dX6_nextChoice_42 ?_
        refine zt_iadd dX6_nextChoice_43 ?_
        refine zt_topv (v := 2) (by decide) ?_
        refine zt_istore_n_2 dX6_nextChoice_44 (by decide) rfl ?_
        refine zt_iload_n dX6_nextChoice_45 rfl ?_
        refine zt_aload_n dX6_nextChoice_46 rfl ?_
        refine zt_getv (v := 4) dX6_nextChoice_47 fl_X6_104 (zs_26 hS) (((zupA (by decide)).trans rfl).trans hK) ?_
        refine zt_icmp_ge (tgt := 75) dX6_nextChoice_50 (by decide) (by decide) (by decide) (fun q => absurd q (by decide)) (fun c_50 => ?_)
        refine zt_aload_n dX6_nextChoice_53 rfl ?_
        refine zt_getv dX6_nextChoice_54 fl_X6_18 (zs_26 hS) (rf_26_6 (hR.upA (by decide))) ?_
        refine zt_iload_n dX6_nextChoice_57 rfl ?_
        refine zt_aload_n dX6_nextChoice_58 rfl ?_
        refine zt_getv dX6_nextChoice_59 fl_X6_18 (zs_26 hS) (rf_26_6 (hR.upA (by decide))) ?_
        refine zt_iload_n dX6_nextChoice_62 rfl ?_
        refine zt_iconst dX6_nextChoice_63 ?_
        refine zt_isub dX6_nextChoice_64 ?_
        refine zt_topv (v := 1) (by decide) ?_
        refine zt_ialoadv (v := (h 29 1) + 1) dX6_nextChoice_65 (zs_29 hS) (by decide) (by decide) (by decide) zupE ?_
        refine zt_iconst dX6_nextChoice_66 ?_
        refine zt_iadd dX6_nextChoice_67 ?_
        refine zt_iastore dX6_nextChoice_68 (zs_29 hS) (by decide) (by decide) (by decide) (by omega) ?_
        refine zt_iincv_2 (v := 3) dX6_nextChoice_69 (by decide) rfl (by decide) ?_
        refine zt_goto (tgt := 45) dX6_nextChoice_72 (by decide) ?_
        refine zt_iload_n dX6_nextChoice_45 rfl ?_
        refine zt_aload_n dX6_nextChoice_46 rfl ?_
        refine zt_getv (v := 4) dX6_nextChoice_47 fl_X6_104 (zs_26 hS) (((zupA (by decide)).trans ((zupA (by decide)).trans rfl)).trans hK) ?_
        refine zt_icmp_ge (tgt := 75) dX6_nextChoice_50 (by decide) (by decide) (by decide) (fun q => absurd q (by decide)) (fun c_50 => ?_)
        refine zt_aload_n dX6_nextChoice_53 rfl ?_
        refine zt_getv dX6_nextChoice_54 fl_X6_18 (zs_26 hS) (rf_26_6 ((hR.upA (by decide)).upA (by decide))) ?_
        refine zt_iload_n dX6_nextChoice_57 rfl ?_
        refine zt_aload_n dX6_nextChoice_58 rfl ?_
        refine zt_getv dX6_nextChoice_59 fl_X6_18 (zs_26 hS) (rf_26_6 ((hR.upA (by decide)).upA (by decide))) ?_
        refine zt_iload_n dX6_nextChoice_62 rfl ?_
        refine zt_iconst dX6_nextChoice_63 ?_
        refine zt_isub dX6_nextChoice_64 ?_
        refine zt_topv (v := 2) (by decide) ?_
        refine zt_ialoadv (v := ((h 29 1) + 1) + 1) dX6_nextChoice_65 (zs_29 hS) (by decide) (by decide) (by decide) zupE ?_
        refine zt_iconst dX6_nextChoice_66 ?_
        refine zt_iadd dX6_nextChoice_67 ?_
        refine zt_iastore dX6_nextChoice_68 (zs_29 hS) (by decide) (by decide) (by decide) (by omega) ?_
        refine zt_iincv_2 (v := 4) dX6_nextChoice_69 (by decide) rfl (by decide) ?_
        refine zt_goto (tgt := 45) dX6_nextChoice_72 (by decide) ?_
        refine zt_iload_n dX6_nextChoice_45 rfl ?_
        refine zt_aload_n dX6_nextChoice_46 rfl ?_
        refine zt_getv (v := 4) dX6_nextChoice_47 fl_X6_104 (zs_26 hS) (((zupA (by decide)).trans ((zupA (by decide)).trans ((zupA (by decide)).trans rfl))).trans hK) ?_
        refine zt_icmp_ge (tgt := 75) dX6_nextChoice_50 (by decide) (by decide) (by decide) (fun c_50 => ?_) (fun q => absurd q (by decide))
        refine zt_iconst dX6_nextChoice_75 ?_
        exact zt_zret dX6_nextChoice_76 (by decide) ⟨rfl, rfl, ⟨fun x q1 q2 q3 q4 => by (repeat rw [zup_ne (by assumption)]); (try rfl), fun y q1 q2 => by (repeat first | rw [zupA (by decide)] | rw [zupJ (by assumption)]); (try rfl), (((hR.upA (by decide)).upA (by decide)).upA (by decide))⟩, by (repeat rw [zup_ne (by decide)]), Or.inl ⟨rfl, by show nx (h 26 5) [h 29 0, h 29 1, h 29 2, h 29 3] = some [(zup (zup (zup h 29 1 ((h 29 1) + 1)) 29 2 (((h 29 1) + 1) + 1)) 29 3 ((((h 29 1) + 1) + 1) + 1)) 29 0, (zup (zup (zup h 29 1 ((h 29 1) + 1)) 29 2 (((h 29 1) + 1) + 1)) 29 3 ((((h 29 1) + 1) + 1) + 1)) 29 1, (zup (zup (zup h 29 1 ((h 29 1) + 1)) 29 2 (((h 29 1) + 1) + 1)) 29 3 ((((h 29 1) + 1) + 1) + 1)) 29 2, (zup (zup (zup h 29 1 ((h 29 1) + 1)) 29 2 (((h 29 1) + 1) + 1)) 29 3 ((((h 29 1) + 1) + 1) + 1)) 29 3]; (repeat first | rw [zupE] | rw [zupA (by decide)] | rw [zupJ (by decide)]); rw [nx4]; (repeat rw [if_neg (by omega)]); rw [if_pos (by omega)]; (try simp only [Int.add_assoc, Int.reduceAdd])⟩⟩
    · refine zt_aload_n dX6_nextChoice_31 rfl ?_
      refine zt_getv dX6_nextChoice_32 fl_X6_18 (zs_26 hS) (rf_26_6 hR) ?_
      refine zt_iload_n dX6_nextChoice_35 rfl ?_
      refine zt_dup2 dX6_nextChoice_36 (Nat.ne_of_beq_eq_false rfl) (Nat.ne_of_beq_eq_false rfl) ?_
      refine zt_iaload dX6_nextChoice_37 (zs_29 hS) (by decide) (by decide) (by decide) ?_
      refine zt_iconst dX6_nextChoice_38 ?_
      refine zt_iadd dX6_nextChoice_39 ?_
      refine zt_iastore dX6_nextChoice_40 (zs_29 hS) (by decide) (by decide) (by decide) (by omega) ?_
      refine zt_iload_n dX6_nextChoice_41 rfl ?_
      refine zt_iconst dX6_nextChoice_42 ?_
      refine zt_iadd dX6_nextChoice_43 ?_
      refine zt_topv (v := 3) (by decide) ?_
      refine zt_istore_n_2 dX6_nextChoice_44 (by decide) rfl ?_
      refine zt_iload_n dX6_nextChoice_45 rfl ?_
      refine zt_aload_n dX6_nextChoice_46 rfl ?_
      refine zt_getv (v := 4) dX6_nextChoice_47 fl_X6_104 (zs_26 hS) (((zupA (by decide)).trans rfl).trans hK) ?_
      refine zt_icmp_ge (tgt := 75) dX6_nextChoice_50 (by decide) (by decide) (by decide) (fun q => absurd q (by decide)) (fun c_50 => ?_)
      refine zt_aload_n dX6_nextChoice_53 rfl ?_
      refine zt_getv dX6_nextChoice_54 fl_X6_18 (zs_26 hS) (rf_26_6 (hR.upA (by decide))) ?_
      refine zt_iload_n dX6_nextChoice_57 rfl ?_
      refine zt_aload_n dX6_nextChoice_58 rfl ?_
      refine zt_getv dX6_nextChoice_59 fl_X6_18 (zs_26 hS) (rf_26_6 (hR.upA (by decide))) ?_
      refine zt_iload_n dX6_nextChoice_62 rfl ?_
      refine zt_iconst dX6_nextChoice_63 ?_
      refine zt_isub dX6_nextChoice_64 ?_
      refine zt_topv (v := 2) (by decide) ?_
      refine zt_ialoadv (v := (h 29 2) + 1) dX6_nextChoice_65 (zs_29 hS) (by decide) (by decide) (by decide) zupE ?_
      refine zt_iconst dX6_nextChoice_66 ?_
      refine zt_iadd dX6_nextChoice_67 ?_
      refine zt_iastore dX6_nextChoice_68 (zs_29 hS) (by decide) (by decide) (by decide) (by omega) ?_
      refine zt_iincv_2 (v := 4) dX6_nextChoice_69 (by decide) rfl (by decide) ?_
      refine zt_goto (tgt := 45) dX6_nextChoice_72 (by decide) ?_
      refine zt_iload_n dX6_nextChoice_45 rfl ?_
      refine zt_aload_n dX6_nextChoice_46 rfl ?_
      refine zt_getv (v := 4) dX6_nextChoice_47 fl_X6_104 (zs_26 hS) (((zupA (by decide)).trans ((zupA (by decide)).trans rfl)).trans hK) ?_
      refine zt_icmp_ge (tgt := 75) dX6_nextChoice_50 (by decide) (by decide) (by decide) (fun c_50 => ?_) (fun q => absurd q (by decide))
      refine zt_iconst dX6_nextChoice_75 ?_
      exact zt_zret dX6_nextChoice_76 (by decide) ⟨rfl, rfl, ⟨fun x q1 q2 q3 q4 => by (repeat rw [zup_ne (by assumption)]); (try rfl), fun y q1 q2 => by (repeat first | rw [zupA (by decide)] | rw [zupJ (by assumption)]); (try rfl), ((hR.upA (by decide)).upA (by decide))⟩, by (repeat rw [zup_ne (by decide)]), Or.inl ⟨rfl, by show nx (h 26 5) [h 29 0, h 29 1, h 29 2, h 29 3] = some [(zup (zup h 29 2 ((h 29 2) + 1)) 29 3 (((h 29 2) + 1) + 1)) 29 0, (zup (zup h 29 2 ((h 29 2) + 1)) 29 3 (((h 29 2) + 1) + 1)) 29 1, (zup (zup h 29 2 ((h 29 2) + 1)) 29 3 (((h 29 2) + 1) + 1)) 29 2, (zup (zup h 29 2 ((h 29 2) + 1)) 29 3 (((h 29 2) + 1) + 1)) 29 3]; (repeat first | rw [zupE] | rw [zupA (by decide)] | rw [zupJ (by decide)]); rw [nx4]; (repeat rw [if_neg (by omega)]); rw [if_pos (by omega)]; (try simp only [Int.add_assoc, Int.reduceAdd])⟩⟩
  · refine zt_aload_n dX6_nextChoice_31 rfl ?_
    refine zt_getv dX6_nextChoice_32 fl_X6_18 (zs_26 hS) (rf_26_6 hR) ?_
    refine zt_iload_n dX6_nextChoice_35 rfl ?_
    refine zt_dup2 dX6_nextChoice_36 (Nat.ne_of_beq_eq_false rfl) (Nat.ne_of_beq_eq_false rfl) ?_
    refine zt_iaload dX6_nextChoice_37 (zs_29 hS) (by decide) (by decide) (by decide) ?_
    refine zt_iconst dX6_nextChoice_38 ?_
    refine zt_iadd dX6_nextChoice_39 ?_
    refine zt_iastore dX6_nextChoice_40 (zs_29 hS) (by decide) (by decide) (by decide) (by omega) ?_
    refine zt_iload_n dX6_nextChoice_41 rfl ?_
    refine zt_iconst dX6_nextChoice_42 ?_
    refine zt_iadd dX6_nextChoice_43 ?_
    refine zt_topv (v := 4) (by decide) ?_
    refine zt_istore_n_2 dX6_nextChoice_44 (by decide) rfl ?_
    refine zt_iload_n dX6_nextChoice_45 rfl ?_
    refine zt_aload_n dX6_nextChoice_46 rfl ?_
    refine zt_getv (v := 4) dX6_nextChoice_47 fl_X6_104 (zs_26 hS) (((zupA (by decide)).trans rfl).trans hK) ?_
    refine zt_icmp_ge (tgt := 75) dX6_nextChoice_50 (by decide) (by decide) (by decide) (fun c_50 => ?_) (fun q => absurd q (by decide))
    refine zt_iconst dX6_nextChoice_75 ?_
    exact zt_zret dX6_nextChoice_76 (by decide) ⟨rfl, rfl, ⟨fun x q1 q2 q3 q4 => by (repeat rw [zup_ne (by assumption)]); (try rfl), fun y q1 q2 => by (repeat first | rw [zupA (by decide)] | rw [zupJ (by assumption)]); (try rfl), (hR.upA (by decide))⟩, by (repeat rw [zup_ne (by decide)]), Or.inl ⟨rfl, by show nx (h 26 5) [h 29 0, h 29 1, h 29 2, h 29 3] = some [(zup h 29 3 ((h 29 3) + 1)) 29 0, (zup h 29 3 ((h 29 3) + 1)) 29 1, (zup h 29 3 ((h 29 3) + 1)) 29 2, (zup h 29 3 ((h 29 3) + 1)) 29 3]; (repeat first | rw [zupE] | rw [zupA (by decide)] | rw [zupJ (by decide)]); rw [nx4]; (repeat rw [if_neg (by omega)]); rw [if_pos (by omega)]; (try simp only [Int.add_assoc, Int.reduceAdd])⟩⟩

theorem c_nxc {d n : Nat} {sh : zSh} {h : zMem} {K : Nat} (hS : zShp sh) (hR : zRf h) (hK0 : 1 ≤ K ∧ K ≤ 4) (hK : h 26 7 = K) (hp : 0 ≤ h 26 5 ∧ h 26 5 ≤ 20) (hc : ∀ j, 0 ≤ j → j < (K : Int) → 0 ≤ h 29 j ∧ h 29 j ≤ 100) : zM yX6_nextChoice cX6_nextChoice 3 (some .boolean) (d + 0) 0 0 [(2, 26)] n sh h (fun r n1 sh1 h1 => n1 = n ∧ sh1 = sh ∧ rO h h1 ∧ h1 26 = h 26 ∧ ((r = some (0, 1) ∧ nx (h 26 5) (lst (h 29) K) = some (lst (h1 29) K)) ∨ (r = some (0, 0) ∧ nx (h 26 5) (lst (h 29) K) = none))) := by
  rcases (show K = 1 ∨ K = 2 ∨ K = 3 ∨ K = 4 by omega) with rfl | rfl | rfl | rfl
  · exact c_nxc1 hS hR hK hp hc
  · exact c_nxc2 hS hR hK hp hc
  · exact c_nxc3 hS hR hK hp hc
  · exact c_nxc4 hS hR hK hp hc
