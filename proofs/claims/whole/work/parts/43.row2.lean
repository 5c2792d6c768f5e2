theorem zmb {x y A B : Int} (hx : -A ≤ x ∧ x ≤ A) (hy : -B ≤ y ∧ y ≤ B) : -(A * B) ≤ x * y ∧ x * y ≤ A * B := by
  have hA : 0 ≤ A := by omega
  have hB : 0 ≤ B := by omega
  have h1 : (x * y).natAbs = x.natAbs * y.natAbs := Int.natAbs_mul x y
  have h2 : x.natAbs * y.natAbs ≤ A.toNat * B.toNat := Nat.mul_le_mul (by omega) (by omega)
  have h3 : ((A.toNat * B.toNat : Nat) : Int) = A * B := by rw [Int.natCast_mul, Int.toNat_of_nonneg hA, Int.toNat_of_nonneg hB]
  omega
/-- MIDDLE's sum -/
def vSum (a b c e p q : Int) : Int := (((((-a) * p) * (p - q)) * (p - (2 * q)) + (((3 * b) * (p + q)) * (p - q)) * (p - (2 * q))) - (((3 * c) * (p + q)) * p) * (p - (2 * q))) + ((e * (p + q)) * p) * (p - q)
theorem vSum_r {a b c e p q : Int} (ha : -999999 ≤ a ∧ a ≤ 999999) (hb : -999999 ≤ b ∧ b ≤ 999999) (hc : -999999 ≤ c ∧ c ≤ 999999) (he : -999999 ≤ e ∧ e ≤ 999999) (hp : 0 < p ∧ p < q) (hq : q ≤ 100) : -2000000000000000000 ≤ vSum a b c e p q ∧ vSum a b c e p q ≤ 2000000000000000000 := by
  have p1 : -100 ≤ p ∧ p ≤ 100 := by omega
  have p2 : -100 ≤ p - q ∧ p - q ≤ 100 := by omega
  have p3 : -200 ≤ p - (2 * q) ∧ p - (2 * q) ≤ 200 := by omega
  have p4 : -200 ≤ p + q ∧ p + q ≤ 200 := by omega
  have t1 := zmb (zmb (zmb (A := 999999) (x := -a) (by omega) p1) p2) p3
  have t2 := zmb (zmb (zmb (A := 2999997) (x := 3 * b) (by omega) p4) p2) p3
  have t3 := zmb (zmb (zmb (A := 2999997) (x := 3 * c) (by omega) p4) p1) p3
  have t4 := zmb (zmb (zmb (A := 999999) (x := e) (by omega) p4) p1) p2
  unfold vSum
  omega
theorem vDen_r {q : Int} (hq : 0 < q ∧ q ≤ 100) : 0 < 6 * q * q * q ∧ 6 * q * q * q ≤ 1000000000000000000 := by
  have t1 := zmb (zmb (zmb (A := 6) (B := 100) (x := 6) (y := q) (by omega) (by omega)) (y := q) (B := 100) (by omega)) (y := q) (B := 100) (by omega)
  have : 0 < 6 * q * q * q := Int.mul_pos (Int.mul_pos (by omega) hq.1) hq.1
  omega
noncomputable def rMid (h : zMem) (i p q : Int) : Int := if (0 < p ∧ p < q ∧ q ≤ 100) ∧ 1 ≤ i ∧ r4 h i then zne (vSum (h 27 (i - 1)) (h 27 i) (h 27 (i + 1)) (h 27 (i + 2)) p q) (6 * q * q * q) else -2147483648

set_option maxRecDepth 100000 in
set_option maxHeartbeats 4000000 in
theorem c_rmid {d n : Nat} {sh : zSh} {h : zMem} {i p q : Int} (hS : zShp sh) (hR : zRf h) (hr0 : rOK h) (hi : zi32 i) (hp : zi32 p) (hq : zi32 q) : zF yX6_valueBetween cX6_valueBetween 14 (some .int) (d + 2) 0 0 [(2, 26), (0, i), (0, p), (0, q)] n sh h (some (0, rMid h i p q)) n sh h := by
  refine zF.ofT (by decide +kernel) [some (2, 26), some (0, i), some (0, p), some (0, q), none, none, none, none, none, none, none, none, none, none] rfl (Nat.le_of_ble_eq_true rfl) ?_
  have hl := hr0.1
  refine zt_iload_n dX6_valueBetween_0 rfl ?_
  refine zt_if_le (tgt := 15) dX6_valueBetween_1 (by decide) (by omega) (fun c_1 => ?_) (fun c_1 => ?_)
  · refine zt_ldc dX6_valueBetween_15 kc_X6_53 ?_
    exact zt_iret dX6_valueBetween_17 ⟨by congr 2; unfold rMid; rw [if_neg (fun q => by first | omega | exact zbp_eq0 c_39 (r4_iff.mpr q.2.2))], rfl, rfl, rfl⟩
  · refine zt_iload_n dX6_valueBetween_4 rfl ?_
    refine zt_iload_n dX6_valueBetween_5 rfl ?_
    refine zt_icmp_ge (tgt := 15) dX6_valueBetween_6 (by decide) (by omega) (by omega) (fun c_6 => ?_) (fun c_6 => ?_)
    · refine zt_ldc dX6_valueBetween_15 kc_X6_53 ?_
      exact zt_iret dX6_valueBetween_17 ⟨by congr 2; unfold rMid; rw [if_neg (fun q => by first | omega | exact zbp_eq0 c_39 (r4_iff.mpr q.2.2))], rfl, rfl, rfl⟩
    · refine zt_iload_n dX6_valueBetween_9 rfl ?_
      refine zt_bipush dX6_valueBetween_10 (by decide) ?_
      refine zt_icmp_le (tgt := 18) dX6_valueBetween_12 (by decide) (by omega) (by decide) (fun c_12 => ?_) (fun c_12 => ?_)
      · refine zt_iload_n dX6_valueBetween_18 rfl ?_
        refine zt_iconst dX6_valueBetween_19 ?_
        refine zt_icmp_lt (tgt := 42) dX6_valueBetween_20 (by decide) (by omega) (by decide) (fun c_20 => ?_) (fun c_20 => ?_)
        · refine zt_ldc dX6_valueBetween_42 kc_X6_53 ?_
          exact zt_iret dX6_valueBetween_44 ⟨by congr 2; unfold rMid; rw [if_neg (fun q => by first | omega | exact zbp_eq0 c_39 (r4_iff.mpr q.2.2))], rfl, rfl, rfl⟩
        · refine zt_iload_n dX6_valueBetween_23 rfl ?_
          refine zt_bipush dX6_valueBetween_24 (by decide) ?_
          refine zt_icmp_ge (tgt := 42) dX6_valueBetween_26 (by decide) (by omega) (by decide) (fun c_26 => ?_) (fun c_26 => ?_)
          · refine zt_ldc dX6_valueBetween_42 kc_X6_53 ?_
            exact zt_iret dX6_valueBetween_44 ⟨by congr 2; unfold rMid; rw [if_neg (fun q => by first | omega | exact zbp_eq0 c_39 (r4_iff.mpr q.2.2))], rfl, rfl, rfl⟩
          · refine zt_aload_n dX6_valueBetween_29 rfl ?_
            refine zt_iload_n dX6_valueBetween_30 rfl ?_
            refine zt_iconst dX6_valueBetween_31 ?_
            refine zt_isub dX6_valueBetween_32 ?_
            refine zt_iload_n dX6_valueBetween_33 rfl ?_
            refine zt_iconst dX6_valueBetween_34 ?_
            refine zt_iadd dX6_valueBetween_35 ?_
            refine zt_callV2r dX6_valueBetween_36 ml_X6_122 (zs_26 hS) (Nat.le_of_ble_eq_true rfl) (c_rare hS hR hr0 (by omega) (by omega)) ?_
            refine zt_if_ne (tgt := 45) dX6_valueBetween_39 (by decide) (zbp_in _) (fun c_39 => ?_) (fun c_39 => ?_)
            · have hr4 := r4_iff.mp (zbp_ne c_39)
              have g0 := hr0.2 (i - 1) (by omega) (by omega)
              have g1 := hr0.2 i (by omega) (by omega)
              have g2 := hr0.2 (i + 1) (by omega) (by omega)
              have g3 := hr0.2 (i + 2) (by omega) (by omega)
              refine zt_iload_n dX6_valueBetween_45 rfl ?_
              refine zt_iload_n dX6_valueBetween_46 rfl ?_
              refine zt_iadd dX6_valueBetween_47 ?_
              refine zt_i2l dX6_valueBetween_48 (by omega) ?_
              refine zt_lstore_4 dX6_valueBetween_49 (by decide) rfl ?_
              refine zt_iload_n dX6_valueBetween_51 rfl ?_
              refine zt_i2l dX6_valueBetween_52 (by omega) ?_
              refine zt_lstore_6 dX6_valueBetween_53 (by decide) rfl ?_
              refine zt_iload_n dX6_valueBetween_55 rfl ?_
              refine zt_iload_n dX6_valueBetween_56 rfl ?_
              refine zt_isub dX6_valueBetween_57 ?_
              refine zt_i2l dX6_valueBetween_58 (by omega) ?_
              refine zt_lstore_8 dX6_valueBetween_59 (by decide) rfl ?_
              refine zt_iload_n dX6_valueBetween_61 rfl ?_
              refine zt_iconst dX6_valueBetween_62 ?_
              refine zt_iload_n dX6_valueBetween_63 rfl ?_
              refine zt_imul dX6_valueBetween_64 ?_
              refine zt_isub dX6_valueBetween_65 ?_
              refine zt_i2l dX6_valueBetween_66 (by omega) ?_
              refine zt_lstore_10 dX6_valueBetween_67 (by decide) rfl ?_
              refine zt_aload_n dX6_valueBetween_69 rfl ?_
              refine zt_iload_n dX6_valueBetween_70 rfl ?_
              refine zt_iconst dX6_valueBetween_71 ?_
              refine zt_isub dX6_valueBetween_72 ?_
              refine zt_callV1r dX6_valueBetween_73 ml_X6_111 (zs_26 hS) (Nat.le_of_ble_eq_true rfl) (c_rnum hS hR (by omega)) ?_
              refine zt_ineg dX6_valueBetween_76 ?_
              refine zt_i2l dX6_valueBetween_77 (by omega) ?_
              refine zt_lload dX6_valueBetween_78 rfl ?_
              refine zt_lmul dX6_valueBetween_80 ?_
              refine zt_lload dX6_valueBetween_81 rfl ?_
              refine zt_lmul dX6_valueBetween_83 ?_
              refine zt_lload dX6_valueBetween_84 rfl ?_
              refine zt_lmul dX6_valueBetween_86 ?_
              refine zt_iconst dX6_valueBetween_87 ?_
              refine zt_aload_n dX6_valueBetween_88 rfl ?_
              refine zt_iload_n dX6_valueBetween_89 rfl ?_
              refine zt_callV1r dX6_valueBetween_90 ml_X6_111 (zs_26 hS) (Nat.le_of_ble_eq_true rfl) (c_rnum hS hR (by omega)) ?_
              refine zt_imul dX6_valueBetween_93 ?_
              refine zt_i2l dX6_valueBetween_94 (by omega) ?_
              refine zt_lload dX6_valueBetween_95 rfl ?_
              refine zt_lmul dX6_valueBetween_97 ?_
              refine zt_lload dX6_valueBetween_98 rfl ?_
              refine zt_lmul dX6_valueBetween_100 ?_
              refine zt_lload dX6_valueBetween_101 rfl ?_
              refine zt_lmul dX6_valueBetween_103 ?_
              refine zt_ladd dX6_valueBetween_104 ?_
              refine zt_iconst dX6_valueBetween_105 ?_
              refine zt_aload_n dX6_valueBetween_106 rfl ?_
              refine zt_iload_n dX6_valueBetween_107 rfl ?_
              refine zt_iconst dX6_valueBetween_108 ?_
              refine zt_iadd dX6_valueBetween_109 ?_
              refine zt_callV1r dX6_valueBetween_110 ml_X6_111 (zs_26 hS) (Nat.le_of_ble_eq_true rfl) (c_rnum hS hR (by omega)) ?_
              refine zt_imul dX6_valueBetween_113 ?_
              refine zt_i2l dX6_valueBetween_114 (by omega) ?_
              refine zt_lload dX6_valueBetween_115 rfl ?_
              refine zt_lmul dX6_valueBetween_117 ?_
              refine zt_lload dX6_valueBetween_118 rfl ?_
              refine zt_lmul dX6_valueBetween_120 ?_
              refine zt_lload dX6_valueBetween_121 rfl ?_
              refine zt_lmul dX6_valueBetween_123 ?_
              refine zt_lsub dX6_valueBetween_124 ?_
              refine zt_aload_n dX6_valueBetween_125 rfl ?_
              refine zt_iload_n dX6_valueBetween_126 rfl ?_
              refine zt_iconst dX6_valueBetween_127 ?_
              refine zt_iadd dX6_valueBetween_128 ?_
              refine zt_callV1r dX6_valueBetween_129 ml_X6_111 (zs_26 hS) (Nat.le_of_ble_eq_true rfl) (c_rnum hS hR (by omega)) ?_
              refine zt_i2l dX6_valueBetween_132 (by omega) ?_
              refine zt_lload dX6_valueBetween_133 rfl ?_
              refine zt_lmul dX6_valueBetween_135 ?_
              refine zt_lload dX6_valueBetween_136 rfl ?_
              refine zt_lmul dX6_valueBetween_138 ?_
              refine zt_lload dX6_valueBetween_139 rfl ?_
              refine zt_lmul dX6_valueBetween_141 ?_
              refine zt_ladd dX6_valueBetween_142 ?_
              refine zt_lstore_12 dX6_valueBetween_143 (by decide) rfl ?_
              refine zt_lload dX6_valueBetween_145 rfl ?_
              refine zt_ldc2 dX6_valueBetween_147 kc_X6_126 ?_
              refine zt_iload_n dX6_valueBetween_150 rfl ?_
              refine zt_i2l dX6_valueBetween_151 (by omega) ?_
              refine zt_lmul dX6_valueBetween_152 ?_
              refine zt_iload_n dX6_valueBetween_153 rfl ?_
              refine zt_i2l dX6_valueBetween_154 (by omega) ?_
              refine zt_lmul dX6_valueBetween_155 ?_
              refine zt_iload_n dX6_valueBetween_156 rfl ?_
              refine zt_i2l dX6_valueBetween_157 (by omega) ?_
              refine zt_lmul dX6_valueBetween_158 ?_
              refine zt_callSN2r dX6_valueBetween_159 ml_X6_128 (Nat.le_of_ble_eq_true rfl) (c_near (vSum_r (by omega) (by omega) (by omega) (by omega) (by omega) (by omega)) (vDen_r (by omega))) ?_
              refine zt_l2i dX6_valueBetween_162 ?_
              exact zt_iret dX6_valueBetween_163 ⟨by congr 2; unfold rMid; rw [if_pos (by omega)], rfl, rfl, rfl⟩
            · refine zt_ldc dX6_valueBetween_42 kc_X6_53 ?_
              exact zt_iret dX6_valueBetween_44 ⟨by congr 2; unfold rMid; rw [if_neg (fun q => by first | omega | exact zbp_eq0 c_39 (r4_iff.mpr q.2.2))], rfl, rfl, rfl⟩
      · refine zt_ldc dX6_valueBetween_15 kc_X6_53 ?_
        exact zt_iret dX6_valueBetween_17 ⟨by congr 2; unfold rMid; rw [if_neg (fun q => by first | omega | exact zbp_eq0 c_39 (r4_iff.mpr q.2.2))], rfl, rfl, rfl⟩
