def cV1 (p0 : Int) : Int := 1
def cP1 (p0 y0 x : Int) : Int := 0 + y0 * 1 * 1
def cD1_00 (p0 y0 : Int) : Int := 1 * y0
def cV2 (p0 p1 : Int) : Int := 1 * (p1 - p0)
def cP2 (p0 p1 y0 y1 x : Int) : Int := 0 + y0 * (1 * (x - p1)) * (-1) + y1 * (1 * (x - p0)) * 1
def cD2_00 (p0 p1 y0 y1 : Int) : Int := (1 * (p1 - p0)) * y0
def cD2_01 (p0 p1 y0 y1 : Int) : Int := (1 * (p1 - p0)) * y1
def cD2_11 (p0 p1 y0 y1 : Int) : Int := (y1 - y0)
def cV3 (p0 p1 p2 : Int) : Int := ((1 * (p1 - p0)) * (p2 - p0)) * (p2 - p1)
def cP3 (p0 p1 p2 y0 y1 y2 x : Int) : Int := 0 + y0 * ((1 * (x - p1)) * (x - p2)) * (1 * (p2 - p1)) + y1 * ((1 * (x - p0)) * (x - p2)) * (-(1 * (p2 - p0))) + y2 * ((1 * (x - p0)) * (x - p1)) * (1 * (p1 - p0))
def cD3_00 (p0 p1 p2 y0 y1 y2 : Int) : Int := (((1 * (p1 - p0)) * (p2 - p0)) * (p2 - p1)) * y0
def cD3_01 (p0 p1 p2 y0 y1 y2 : Int) : Int := (((1 * (p1 - p0)) * (p2 - p0)) * (p2 - p1)) * y1
def cD3_02 (p0 p1 p2 y0 y1 y2 : Int) : Int := (((1 * (p1 - p0)) * (p2 - p0)) * (p2 - p1)) * y2
def cD3_11 (p0 p1 p2 y0 y1 y2 : Int) : Int := (p2 - p0) * (p2 - p1) * (y1 - y0)
def cD3_12 (p0 p1 p2 y0 y1 y2 : Int) : Int := (p1 - p0) * (p2 - p0) * (y2 - y1)
def cD3_22 (p0 p1 p2 y0 y1 y2 : Int) : Int := ((p1 - p0) * (y2 - y1) - (p2 - p1) * (y1 - y0))
def cV4 (p0 p1 p2 p3 : Int) : Int := (((((1 * (p1 - p0)) * (p2 - p0)) * (p3 - p0)) * (p2 - p1)) * (p3 - p1)) * (p3 - p2)
def cP4 (p0 p1 p2 p3 y0 y1 y2 y3 x : Int) : Int := 0 + y0 * (((1 * (x - p1)) * (x - p2)) * (x - p3)) * (-(((1 * (p2 - p1)) * (p3 - p1)) * (p3 - p2))) + y1 * (((1 * (x - p0)) * (x - p2)) * (x - p3)) * (((1 * (p2 - p0)) * (p3 - p0)) * (p3 - p2)) + y2 * (((1 * (x - p0)) * (x - p1)) * (x - p3)) * (-(((1 * (p1 - p0)) * (p3 - p0)) * (p3 - p1))) + y3 * (((1 * (x - p0)) * (x - p1)) * (x - p2)) * (((1 * (p1 - p0)) * (p2 - p0)) * (p2 - p1))
def cD4_00 (p0 p1 p2 p3 y0 y1 y2 y3 : Int) : Int := ((((((1 * (p1 - p0)) * (p2 - p0)) * (p3 - p0)) * (p2 - p1)) * (p3 - p1)) * (p3 - p2)) * y0
def cD4_01 (p0 p1 p2 p3 y0 y1 y2 y3 : Int) : Int := ((((((1 * (p1 - p0)) * (p2 - p0)) * (p3 - p0)) * (p2 - p1)) * (p3 - p1)) * (p3 - p2)) * y1
def cD4_02 (p0 p1 p2 p3 y0 y1 y2 y3 : Int) : Int := ((((((1 * (p1 - p0)) * (p2 - p0)) * (p3 - p0)) * (p2 - p1)) * (p3 - p1)) * (p3 - p2)) * y2
def cD4_03 (p0 p1 p2 p3 y0 y1 y2 y3 : Int) : Int := ((((((1 * (p1 - p0)) * (p2 - p0)) * (p3 - p0)) * (p2 - p1)) * (p3 - p1)) * (p3 - p2)) * y3
def cD4_11 (p0 p1 p2 p3 y0 y1 y2 y3 : Int) : Int := (p2 - p0) * (p3 - p0) * (p2 - p1) * (p3 - p1) * (p3 - p2) * (y1 - y0)
def cD4_12 (p0 p1 p2 p3 y0 y1 y2 y3 : Int) : Int := (p1 - p0) * (p2 - p0) * (p3 - p0) * (p3 - p1) * (p3 - p2) * (y2 - y1)
def cD4_13 (p0 p1 p2 p3 y0 y1 y2 y3 : Int) : Int := (p1 - p0) * (p2 - p0) * (p3 - p0) * (p2 - p1) * (p3 - p1) * (y3 - y2)
def cD4_22 (p0 p1 p2 p3 y0 y1 y2 y3 : Int) : Int := (p3 - p0) * (p3 - p1) * (p3 - p2) * ((p1 - p0) * (y2 - y1) - (p2 - p1) * (y1 - y0))
def cD4_23 (p0 p1 p2 p3 y0 y1 y2 y3 : Int) : Int := (p1 - p0) * (p2 - p0) * (p3 - p0) * ((p2 - p1) * (y3 - y2) - (p3 - p2) * (y2 - y1))
def cD4_33 (p0 p1 p2 p3 y0 y1 y2 y3 : Int) : Int := ((p1 - p0) * (p2 - p0) * ((p2 - p1) * (y3 - y2) - (p3 - p2) * (y2 - y1)) - (p3 - p1) * (p3 - p2) * ((p1 - p0) * (y2 - y1) - (p2 - p1) * (y1 - y0)))
theorem nid2_11 {p0 p1 y0 y1 : Int} : cD2_01 p0 p1 y0 y1 - cD2_00 p0 p1 y0 y1 = cD2_11 p0 p1 y0 y1 * (p1 - p0) := by unfold cD2_11 cD2_01 cD2_00; grind
theorem nid3_12 {p0 p1 p2 y0 y1 y2 : Int} : cD3_02 p0 p1 p2 y0 y1 y2 - cD3_01 p0 p1 p2 y0 y1 y2 = cD3_12 p0 p1 p2 y0 y1 y2 * (p2 - p1) := by unfold cD3_12 cD3_02 cD3_01; grind
theorem nid3_11 {p0 p1 p2 y0 y1 y2 : Int} : cD3_01 p0 p1 p2 y0 y1 y2 - cD3_00 p0 p1 p2 y0 y1 y2 = cD3_11 p0 p1 p2 y0 y1 y2 * (p1 - p0) := by unfold cD3_11 cD3_01 cD3_00; grind
theorem nid3_22 {p0 p1 p2 y0 y1 y2 : Int} : cD3_12 p0 p1 p2 y0 y1 y2 - cD3_11 p0 p1 p2 y0 y1 y2 = cD3_22 p0 p1 p2 y0 y1 y2 * (p2 - p0) := by unfold cD3_22 cD3_12 cD3_11; grind
theorem nid4_13 {p0 p1 p2 p3 y0 y1 y2 y3 : Int} : cD4_03 p0 p1 p2 p3 y0 y1 y2 y3 - cD4_02 p0 p1 p2 p3 y0 y1 y2 y3 = cD4_13 p0 p1 p2 p3 y0 y1 y2 y3 * (p3 - p2) := by unfold cD4_13 cD4_03 cD4_02; grind
theorem nid4_12 {p0 p1 p2 p3 y0 y1 y2 y3 : Int} : cD4_02 p0 p1 p2 p3 y0 y1 y2 y3 - cD4_01 p0 p1 p2 p3 y0 y1 y2 y3 = cD4_12 p0 p1 p2 p3 y0 y1 y2 y3 * (p2 - p1) := by unfold cD4_12 cD4_02 cD4_01; grind
theorem nid4_11 {p0 p1 p2 p3 y0 y1 y2 y3 : Int} : cD4_01 p0 p1 p2 p3 y0 y1 y2 y3 - cD4_00 p0 p1 p2 p3 y0 y1 y2 y3 = cD4_11 p0 p1 p2 p3 y0 y1 y2 y3 * (p1 - p0) := by unfold cD4_11 cD4_01 cD4_00; grind
theorem nid4_23 {p0 p1 p2 p3 y0 y1 y2 y3 : Int} : cD4_13 p0 p1 p2 p3 y0 y1 y2 y3 - cD4_12 p0 p1 p2 p3 y0 y1 y2 y3 = cD4_23 p0 p1 p2 p3 y0 y1 y2 y3 * (p3 - p1) := by unfold cD4_23 cD4_13 cD4_12; grind
theorem nid4_22 {p0 p1 p2 p3 y0 y1 y2 y3 : Int} : cD4_12 p0 p1 p2 p3 y0 y1 y2 y3 - cD4_11 p0 p1 p2 p3 y0 y1 y2 y3 = cD4_22 p0 p1 p2 p3 y0 y1 y2 y3 * (p2 - p0) := by unfold cD4_22 cD4_12 cD4_11; grind
theorem nid4_33 {p0 p1 p2 p3 y0 y1 y2 y3 : Int} : cD4_23 p0 p1 p2 p3 y0 y1 y2 y3 - cD4_22 p0 p1 p2 p3 y0 y1 y2 y3 = cD4_33 p0 p1 p2 p3 y0 y1 y2 y3 * (p3 - p0) := by unfold cD4_33 cD4_23 cD4_22; grind
theorem hid1 {p0 y0 : Int} {x : Int} : 0 * (x - p0) + cD1_00 p0 y0 = cP1 p0 y0 x := by unfold cP1 cD1_00; grind
theorem hid2 {p0 p1 y0 y1 : Int} {x : Int} : (0 * (x - p1) + cD2_11 p0 p1 y0 y1) * (x - p0) + cD2_00 p0 p1 y0 y1 = cP2 p0 p1 y0 y1 x := by unfold cP2 cD2_00 cD2_11; grind
theorem hid3 {p0 p1 p2 y0 y1 y2 : Int} {x : Int} : ((0 * (x - p2) + cD3_22 p0 p1 p2 y0 y1 y2) * (x - p1) + cD3_11 p0 p1 p2 y0 y1 y2) * (x - p0) + cD3_00 p0 p1 p2 y0 y1 y2 = cP3 p0 p1 p2 y0 y1 y2 x := by unfold cP3 cD3_00 cD3_11 cD3_22; grind
theorem hid4 {p0 p1 p2 p3 y0 y1 y2 y3 : Int} {x : Int} : (((0 * (x - p3) + cD4_33 p0 p1 p2 p3 y0 y1 y2 y3) * (x - p2) + cD4_22 p0 p1 p2 p3 y0 y1 y2 y3) * (x - p1) + cD4_11 p0 p1 p2 p3 y0 y1 y2 y3) * (x - p0) + cD4_00 p0 p1 p2 p3 y0 y1 y2 y3 = cP4 p0 p1 p2 p3 y0 y1 y2 y3 x := by unfold cP4 cD4_00 cD4_11 cD4_22 cD4_33; grind
set_option maxRecDepth 100000 in
set_option maxHeartbeats 4000000 in
theorem c_draw1 {d n : Nat} {sh : zSh} {h : zMem} {p0 y0 : Int} (hS : zShp sh) (hR : zRf h) (hK : h 26 7 = 1) (hp0 : h 28 (h 29 0) = p0) (hy0 : h 27 p0 = y0) (hb0 : -999999 ≤ y0 ∧ y0 ≤ 999999) (hc0 : 0 ≤ h 29 0 ∧ h 29 0 < h 26 5) (hod : 0 ≤ p0 ∧ p0 < 20) (hp : h 26 5 ≤ 20) : zM yX6_drawCurve cX6_drawCurve 4 none (d + 1) 0 0 [(2, 26)] n sh h (fun r n1 sh1 h1 => r = none ∧ n1 = n ∧ sh1 = sh ∧ rO h h1 ∧ h1 29 = h 29 ∧ h1 26 7 = 1 ∧ h1 26 10 = cV1 p0 ∧ (h1 30 0 = p0 ∧ h1 31 0 = cD1_00 p0 y0)) := by
  refine zM.ofT2 (by decide +kernel) [some (2, 26), none, none, none] rfl (Nat.le_of_ble_eq_true rfl) ?_
  have hv0 : (0 : Int) < 1 ∧ (1 : Int) ≤ 1 := by decide
  refine zt_iconst dX6_drawCurve_0 ?_
  refine zt_istore_n_1 dX6_drawCurve_1 (by decide) rfl ?_
  refine zt_iload_n dX6_drawCurve_2 rfl ?_
  refine zt_aload_n dX6_drawCurve_3 rfl ?_
  refine zt_getv (v := 1) dX6_drawCurve_4 fl_X6_104 (zs_26 hS) hK ?_
  refine zt_icmp_ge (tgt := 59) dX6_drawCurve_7 (by decide) (by decide) (by decide) (fun q => absurd q (by decide)) (fun c_7 => ?_)
  refine zt_aload_n dX6_drawCurve_10 rfl ?_
  refine zt_getv dX6_drawCurve_11 fl_X6_21 (zs_26 hS) (rf_26_8 hR) ?_
  refine zt_iload_n dX6_drawCurve_14 rfl ?_
  refine zt_aload_n dX6_drawCurve_15 rfl ?_
  refine zt_getv dX6_drawCurve_16 fl_X6_18 (zs_26 hS) (rf_26_6 hR) ?_
  refine zt_iload_n dX6_drawCurve_19 rfl ?_
  refine zt_ialoadv (v := h 29 0) dX6_drawCurve_20 (zs_29 hS) (by decide) (by decide) (by decide) rfl ?_
  refine zt_if_lt (tgt := 51) dX6_drawCurve_21 (by decide) (by omega) (fun c_21 => ?_) (fun c_21 => ?_)
  · exfalso
    omega
  · refine zt_aload_n dX6_drawCurve_24 rfl ?_
    refine zt_getv dX6_drawCurve_25 fl_X6_18 (zs_26 hS) (rf_26_6 hR) ?_
    refine zt_iload_n dX6_drawCurve_28 rfl ?_
    refine zt_ialoadv (v := h 29 0) dX6_drawCurve_29 (zs_29 hS) (by decide) (by decide) (by decide) rfl ?_
    refine zt_aload_n dX6_drawCurve_30 rfl ?_
    refine zt_get dX6_drawCurve_31 fl_X6_60 (zs_26 hS) ?_
    refine zt_icmp_ge (tgt := 51) dX6_drawCurve_34 (by decide) (by omega) (by omega) (fun c_34 => ?_) (fun c_34 => ?_)
    · exfalso
      omega
    · refine zt_aload_n dX6_drawCurve_37 rfl ?_
      refine zt_getv dX6_drawCurve_38 fl_X6_15 (zs_26 hS) (rf_26_4 hR) ?_
      refine zt_aload_n dX6_drawCurve_41 rfl ?_
      refine zt_getv dX6_drawCurve_42 fl_X6_18 (zs_26 hS) (rf_26_6 hR) ?_
      refine zt_iload_n dX6_drawCurve_45 rfl ?_
      refine zt_ialoadv (v := h 29 0) dX6_drawCurve_46 (zs_29 hS) (by decide) (by decide) (by decide) rfl ?_
      refine zt_ialoadv (v := p0) dX6_drawCurve_47 (zs_28 hS) (by decide) (by omega) (by omega) hp0 ?_
      refine zt_goto (tgt := 52) dX6_drawCurve_48 (by decide) ?_
      refine zt_iastore dX6_drawCurve_52 (zs_30 hS) (by decide) (by decide) (by decide) (by omega) ?_
      have hR1 : zRf (zup h 30 0 p0) := (hR.upA (by decide))
      refine zt_iincv_1 (v := 1) dX6_drawCurve_53 (by decide) rfl (by decide) ?_
      refine zt_goto (tgt := 2) dX6_drawCurve_56 (by decide) ?_
      refine zt_iload_n dX6_drawCurve_2 rfl ?_
      refine zt_aload_n dX6_drawCurve_3 rfl ?_
      refine zt_getv (v := 1) dX6_drawCurve_4 fl_X6_104 (zs_26 hS) (((zupA (by decide)).trans rfl).trans hK) ?_
      refine zt_icmp_ge (tgt := 59) dX6_drawCurve_7 (by decide) (by decide) (by decide) (fun c_7 => ?_) (fun q => absurd q (by decide))
      refine zt_aload_n dX6_drawCurve_59 rfl ?_
      refine zt_lconst (v := 1) dX6_drawCurve_60 rfl ?_
      refine zt_putl dX6_drawCurve_61 fl_X6_107 rfl (zs_26 hS) (by decide) ?_
      have hR2 : zRf (zup (zup h 30 0 p0) 26 10 1) := (hR1.up (by decide))
      refine zt_iconst dX6_drawCurve_64 ?_
      refine zt_istore_n_1 dX6_drawCurve_65 (by decide) rfl ?_
      refine zt_iload_n dX6_drawCurve_66 rfl ?_
      refine zt_aload_n dX6_drawCurve_67 rfl ?_
      refine zt_getv (v := 1) dX6_drawCurve_68 fl_X6_104 (zs_26 hS) (((zupJ (by decide)).trans ((zupA (by decide)).trans rfl)).trans hK) ?_
      refine zt_icmp_ge (tgt := 121) dX6_drawCurve_71 (by decide) (by decide) (by decide) (fun q => absurd q (by decide)) (fun c_71 => ?_)
      refine zt_iload_n dX6_drawCurve_74 rfl ?_
      refine zt_iconst dX6_drawCurve_75 ?_
      refine zt_iadd dX6_drawCurve_76 ?_
      refine zt_topv (v := 1) (by decide) ?_
      refine zt_istore_n_2 dX6_drawCurve_77 (by decide) rfl ?_
      refine zt_iload_n dX6_drawCurve_78 rfl ?_
      refine zt_aload_n dX6_drawCurve_79 rfl ?_
      refine zt_getv (v := 1) dX6_drawCurve_80 fl_X6_104 (zs_26 hS) (((zupJ (by decide)).trans ((zupA (by decide)).trans rfl)).trans hK) ?_
      refine zt_icmp_ge (tgt := 115) dX6_drawCurve_83 (by decide) (by decide) (by decide) (fun c_83 => ?_) (fun q => absurd q (by decide))
      refine zt_iincv_1 (v := 1) dX6_drawCurve_115 (by decide) rfl (by decide) ?_
      refine zt_goto (tgt := 66) dX6_drawCurve_118 (by decide) ?_
      refine zt_iload_n dX6_drawCurve_66 rfl ?_
      refine zt_aload_n dX6_drawCurve_67 rfl ?_
      refine zt_getv (v := 1) dX6_drawCurve_68 fl_X6_104 (zs_26 hS) (((zupJ (by decide)).trans ((zupA (by decide)).trans rfl)).trans hK) ?_
      refine zt_icmp_ge (tgt := 121) dX6_drawCurve_71 (by decide) (by decide) (by decide) (fun c_71 => ?_) (fun q => absurd q (by decide))
      refine zt_iconst dX6_drawCurve_121 ?_
      refine zt_istore_n_1 dX6_drawCurve_122 (by decide) rfl ?_
      refine zt_iload_n dX6_drawCurve_123 rfl ?_
      refine zt_aload_n dX6_drawCurve_124 rfl ?_
      refine zt_getv (v := 1) dX6_drawCurve_125 fl_X6_104 (zs_26 hS) (((zupJ (by decide)).trans ((zupA (by decide)).trans rfl)).trans hK) ?_
      refine zt_icmp_ge (tgt := 159) dX6_drawCurve_128 (by decide) (by decide) (by decide) (fun q => absurd q (by decide)) (fun c_128 => ?_)
      refine zt_aload_n dX6_drawCurve_131 rfl ?_
      refine zt_getv dX6_drawCurve_132 fl_X6_24 (zs_26 hS) (rf_26_9 hR2) ?_
      refine zt_iload_n dX6_drawCurve_135 rfl ?_
      refine zt_aload_n dX6_drawCurve_136 rfl ?_
      refine zt_getv (v := 1) dX6_drawCurve_137 fl_X6_107 (zs_26 hS) zupE ?_
      refine zt_aload_n dX6_drawCurve_140 rfl ?_
      refine zt_aload_n dX6_drawCurve_141 rfl ?_
      refine zt_getv dX6_drawCurve_142 fl_X6_21 (zs_26 hS) (rf_26_8 hR2) ?_
      refine zt_iload_n dX6_drawCurve_145 rfl ?_
      refine zt_ialoadv (v := p0) dX6_drawCurve_146 (zs_30 hS) (by decide) (by decide) (by decide) ((zupA (by decide)).trans zupE) ?_
      refine zt_callV1r dX6_drawCurve_147 ml_X6_111 (zs_26 hS) (Nat.le_of_ble_eq_true rfl) (zF.of_eq (show some (0, (zup (zup h 30 0 p0) 26 10 1) 27 p0) = some (0, y0) from congrArg (fun z => some ((0, z) : zV)) ((zupA (by decide)).trans ((zupA (by decide)).trans hy0))) rfl rfl rfl (c_rnum hS hR2 (by omega))) ?_
      refine zt_i2l dX6_drawCurve_150 (by omega) ?_
      refine zt_lmul dX6_drawCurve_151 ?_
      have hD00 : -999999 ≤ cD1_00 p0 y0 ∧ cD1_00 p0 y0 ≤ 999999 := zmb2 (x := 1) (y := y0) (A := 1) (B := 999999) ⟨by omega, by omega⟩ hb0 (by decide)
      refine zt_topv (v := cD1_00 p0 y0) rfl ?_
      refine zt_lastore dX6_drawCurve_152 (zs_31 hS) (by decide) (by decide) (by decide) (by omega) ?_
      have hR3 : zRf (zup (zup (zup h 30 0 p0) 26 10 1) 31 0 (cD1_00 p0 y0)) := (hR2.upA (by decide))
      refine zt_iincv_1 (v := 1) dX6_drawCurve_153 (by decide) rfl (by decide) ?_
      refine zt_goto (tgt := 123) dX6_drawCurve_156 (by decide) ?_
      refine zt_iload_n dX6_drawCurve_123 rfl ?_
      refine zt_aload_n dX6_drawCurve_124 rfl ?_
      refine zt_getv (v := 1) dX6_drawCurve_125 fl_X6_104 (zs_26 hS) (((zupA (by decide)).trans ((zupJ (by decide)).trans ((zupA (by decide)).trans rfl))).trans hK) ?_
      refine zt_icmp_ge (tgt := 159) dX6_drawCurve_128 (by decide) (by decide) (by decide) (fun c_128 => ?_) (fun q => absurd q (by decide))
      refine zt_iconst dX6_drawCurve_159 ?_
      refine zt_istore_n_1 dX6_drawCurve_160 (by decide) rfl ?_
      refine zt_iload_n dX6_drawCurve_161 rfl ?_
      refine zt_aload_n dX6_drawCurve_162 rfl ?_
      refine zt_getv (v := 1) dX6_drawCurve_163 fl_X6_104 (zs_26 hS) (((zupA (by decide)).trans ((zupJ (by decide)).trans ((zupA (by decide)).trans rfl))).trans hK) ?_
      refine zt_icmp_ge (tgt := 241) dX6_drawCurve_166 (by decide) (by decide) (by decide) (fun c_166 => ?_) (fun q => absurd q (by decide))
      exact zt_vret dX6_drawCurve_241 ⟨rfl, rfl, rfl, ⟨fun x q1 q2 q3 q4 => by (repeat rw [zup_ne (by assumption)]); (try rfl), fun y q1 q2 => by (repeat first | rw [zupA (by decide)] | rw [zupJ (by assumption)]); (try rfl), hR3⟩, by (repeat rw [zup_ne (by decide)]), by (repeat first | rw [zupE] | rw [zupA (by decide)] | rw [zupJ (by decide)]); exact hK, by (repeat first | rw [zupE] | rw [zupA (by decide)] | rw [zupJ (by decide)]); (try rfl), ⟨by (repeat first | rw [zupE] | rw [zupA (by decide)] | rw [zupJ (by decide)]), by (repeat first | rw [zupE] | rw [zupA (by decide)] | rw [zupJ (by decide)]); (try rfl)⟩⟩

set_option maxRecDepth 100000 in
set_option maxHeartbeats 4000000 in
theorem c_draw2 {d n : Nat} {sh : zSh} {h : zMem} {p0 p1 y0 y1 : Int} (hS : zShp sh) (hR : zRf h) (hK : h 26 7 = 2) (hp0 : h 28 (h 29 0) = p0) (hy0 : h 27 p0 = y0) (hb0 : -999999 ≤ y0 ∧ y0 ≤ 999999) (hc0 : 0 ≤ h 29 0 ∧ h 29 0 < h 26 5) (hp1 : h 28 (h 29 1) = p1) (hy1 : h 27 p1 = y1) (hb1 : -999999 ≤ y1 ∧ y1 ≤ 999999) (hc1 : 0 ≤ h 29 1 ∧ h 29 1 < h 26 5) (hod : 0 ≤ p0 ∧ p0 < p1 ∧ p1 < 20) (hp : h 26 5 ≤ 20) : zM yX6_drawCurve cX6_drawCurve 4 none (d + 1) 0 0 [(2, 26)] n sh h (fun r n1 sh1 h1 => r = none ∧ n1 = n ∧ sh1 = sh ∧ rO h h1 ∧ h1 29 = h 29 ∧ h1 26 7 = 2 ∧ h1 26 10 = cV2 p0 p1 ∧ (h1 30 0 = p0 ∧ h1 31 0 = cD2_00 p0 p1 y0 y1) ∧ (h1 30 1 = p1 ∧ h1 31 1 = cD2_11 p0 p1 y0 y1)) := by
  refine zM.ofT2 (by decide +kernel) [some (2, 26), none, none, none] rfl (Nat.le_of_ble_eq_true rfl) ?_
  have hv0 : (0 : Int) < 1 ∧ (1 : Int) ≤ 1 := by decide
  refine zt_iconst dX6_drawCurve_0 ?_
  refine zt_istore_n_1 dX6_drawCurve_1 (by decide) rfl ?_
  refine zt_iload_n dX6_drawCurve_2 rfl ?_
  refine zt_aload_n dX6_drawCurve_3 rfl ?_
  refine zt_getv (v := 2) dX6_drawCurve_4 fl_X6_104 (zs_26 hS) hK ?_
  refine zt_icmp_ge (tgt := 59) dX6_drawCurve_7 (by decide) (by decide) (by decide) (fun q => absurd q (by decide)) (fun c_7 => ?_)
  refine zt_aload_n dX6_drawCurve_10 rfl ?_
  refine zt_getv dX6_drawCurve_11 fl_X6_21 (zs_26 hS) (rf_26_8 hR) ?_
  refine zt_iload_n dX6_drawCurve_14 rfl ?_
  refine zt_aload_n dX6_drawCurve_15 rfl ?_
  refine zt_getv dX6_drawCurve_16 fl_X6_18 (zs_26 hS) (rf_26_6 hR) ?_
  refine zt_iload_n dX6_drawCurve_19 rfl ?_
  refine zt_ialoadv (v := h 29 0) dX6_drawCurve_20 (zs_29 hS) (by decide) (by decide) (by decide) rfl ?_
  refine zt_if_lt (tgt := 51) dX6_drawCurve_21 (by decide) (by omega) (fun c_21 => ?_) (fun c_21 => ?_)
  · exfalso
    omega
  · refine zt_aload_n dX6_drawCurve_24 rfl ?_
    refine zt_getv dX6_drawCurve_25 fl_X6_18 (zs_26 hS) (rf_26_6 hR) ?_
    refine zt_iload_n dX6_drawCurve_28 rfl ?_
    refine zt_ialoadv (v := h 29 0) dX6_drawCurve_29 (zs_29 hS) (by decide) (by decide) (by decide) rfl ?_
    refine zt_aload_n dX6_drawCurve_30 rfl ?_
    refine zt_get dX6_drawCurve_31 fl_X6_60 (zs_26 hS) ?_
    refine zt_icmp_ge (tgt := 51) dX6_drawCurve_34 (by decide) (by omega) (by omega) (fun c_34 => ?_) (fun c_34 => ?_)
    · exfalso
      omega
    · refine zt_aload_n dX6_drawCurve_37 rfl ?_
      refine zt_getv dX6_drawCurve_38 fl_X6_15 (zs_26 hS) (rf_26_4 hR) ?_
      refine zt_aload_n dX6_drawCurve_41 rfl ?_
      refine zt_getv dX6_drawCurve_42 fl_X6_18 (zs_26 hS) (rf_26_6 hR) ?_
      refine zt_iload_n dX6_drawCurve_45 rfl ?_
      refine zt_ialoadv (v := h 29 0) dX6_drawCurve_46 (zs_29 hS) (by decide) (by decide) (by decide) rfl ?_
      refine zt_ialoadv (v := p0) dX6_drawCurve_47 (zs_28 hS) (by decide) (by omega) (by omega) hp0 ?_
      refine zt_goto (tgt := 52) dX6_drawCurve_48 (by decide) ?_
      refine zt_iastore dX6_drawCurve_52 (zs_30 hS) (by decide) (by decide) (by decide) (by omega) ?_
      have hR1 : zRf (zup h 30 0 p0) := (hR.upA (by decide))
      refine zt_iincv_1 (v := 1) dX6_drawCurve_53 (by decide) rfl (by decide) ?_
      refine zt_goto (tgt := 2) dX6_drawCurve_56 (by decide) ?_
      refine zt_iload_n dX6_drawCurve_2 rfl ?_
      refine zt_aload_n dX6_drawCurve_3 rfl ?_
      refine zt_getv (v := 2) dX6_drawCurve_4 fl_X6_104 (zs_26 hS) (((zupA (by decide)).trans rfl).trans hK) ?_
      refine zt_icmp_ge (tgt := 59) dX6_drawCurve_7 (by decide) (by decide) (by decide) (fun q => absurd q (by decide)) (fun c_7 => ?_)
      refine zt_aload_n dX6_drawCurve_10 rfl ?_
      refine zt_getv dX6_drawCurve_11 fl_X6_21 (zs_26 hS) (rf_26_8 hR1) ?_
      refine zt_iload_n dX6_drawCurve_14 rfl ?_
      refine zt_aload_n dX6_drawCurve_15 rfl ?_
      refine zt_getv dX6_drawCurve_16 fl_X6_18 (zs_26 hS) (rf_26_6 hR1) ?_
      refine zt_iload_n dX6_drawCurve_19 rfl ?_
      refine zt_ialoadv (v := h 29 1) dX6_drawCurve_20 (zs_29 hS) (by decide) (by decide) (by decide) ((zupA (by decide)).trans rfl) ?_
      refine zt_if_lt (tgt := 51) dX6_drawCurve_21 (by decide) (by omega) (fun c_21 => ?_) (fun c_21 => ?_)
      · exfalso
        omega
      · refine zt_aload_n dX6_drawCurve_24 rfl ?_
        refine zt_getv dX6_drawCurve_25 fl_X6_18 (zs_26 hS) (rf_26_6 hR1) ?_
        refine zt_iload_n dX6_drawCurve_28 rfl ?_
        refine zt_ialoadv (v := h 29 1) dX6_drawCurve_29 (zs_29 hS) (by decide) (by decide) (by decide) ((zupA (by decide)).trans rfl) ?_
        refine zt_aload_n dX6_drawCurve_30 rfl ?_
        refine zt_getv (v := h 26 5) dX6_drawCurve_31 fl_X6_60 (zs_26 hS) ((zupA (by decide)).trans rfl) ?_
        refine zt_icmp_ge (tgt := 51) dX6_drawCurve_34 (by decide) (by omega) (by omega) (fun c_34 => ?_) (fun c_34 => ?_)
        · exfalso
          omega
        · refine zt_aload_n dX6_drawCurve_37 rfl ?_
          refine zt_getv dX6_drawCurve_38 fl_X6_15 (zs_26 hS) (rf_26_4 hR1) ?_
          refine zt_aload_n dX6_drawCurve_41 rfl ?_
          refine zt_getv dX6_drawCurve_42 fl_X6_18 (zs_26 hS) (rf_26_6 hR1) ?_
          refine zt_iload_n dX6_drawCurve_45 rfl ?_
          refine zt_ialoadv (v := h 29 1) dX6_drawCurve_46 (zs_29 hS) (by decide) (by decide) (by decide) ((zupA (by decide)).trans rfl) ?_
          refine zt_ialoadv (v := p1) dX6_drawCurve_47 (zs_28 hS) (by decide) (by omega) (by omega) ((zupA (by decide)).trans hp1) ?_
          refine zt_goto (tgt := 52) dX6_drawCurve_48 (by decide) ?_
          refine zt_iastore dX6_drawCurve_52 (zs_30 hS) (by decide) (by decide) (by decide) (by omega) ?_
          have hR2 : zRf (zup (zup h 30 0 p0) 30 1 p1) := (hR1.upA (by decide))
          refine zt_iincv_1 (v := 2) dX6_drawCurve_53 (by decide) rfl (by decide) ?_
          refine zt_goto (tgt := 2) dX6_drawCurve_56 (by decide) ?_
          refine zt_iload_n dX6_drawCurve_2 rfl ?_
          refine zt_aload_n dX6_drawCurve_3 rfl ?_
          refine zt_getv (v := 2) dX6_drawCurve_4 fl_X6_104 (zs_26 hS) (((zupA (by decide)).trans ((zupA (by decide)).trans rfl)).trans hK) ?_
          refine zt_icmp_ge (tgt := 59) dX6_drawCurve_7 (by decide) (by decide) (by decide) (fun c_7 => ?_) (fun q => absurd q (by decide))
          refine zt_aload_n dX6_drawCurve_59 rfl ?_
          refine zt_lconst (v := 1) dX6_drawCurve_60 rfl ?_
          refine zt_putl dX6_drawCurve_61 fl_X6_107 rfl (zs_26 hS) (by decide) ?_
          have hR3 : zRf (zup (zup (zup h 30 0 p0) 30 1 p1) 26 10 1) := (hR2.up (by decide))
          refine zt_iconst dX6_drawCurve_64 ?_
          refine zt_istore_n_1 dX6_drawCurve_65 (by decide) rfl ?_
          refine zt_iload_n dX6_drawCurve_66 rfl ?_
          refine zt_aload_n dX6_drawCurve_67 rfl ?_
          refine zt_getv (v := 2) dX6_drawCurve_68 fl_X6_104 (zs_26 hS) (((zupJ (by decide)).trans ((zupA (by decide)).trans ((zupA (by decide)).trans rfl))).trans hK) ?_
          refine zt_icmp_ge (tgt := 121) dX6_drawCurve_71 (by decide) (by decide) (by decide) (fun q => absurd q (by decide)) (fun c_71 => ?_)
          refine zt_iload_n dX6_drawCurve_74 rfl ?_
          refine zt_iconst dX6_drawCurve_75 ?_
          refine zt_iadd dX6_drawCurve_76 ?_
          refine zt_topv (v := 1) (by decide) ?_
          refine zt_istore_n_2 dX6_drawCurve_77 (by decide) rfl ?_
          refine zt_iload_n dX6_drawCurve_78 rfl ?_
          refine zt_aload_n dX6_drawCurve_79 rfl ?_
          refine zt_getv (v := 2) dX6_drawCurve_80 fl_X6_104 (zs_26 hS) (((zupJ (by decide)).trans ((zupA (by decide)).trans ((zupA (by decide)).trans rfl))).trans hK) ?_
          refine zt_icmp_ge (tgt := 115) dX6_drawCurve_83 (by decide) (by decide) (by decide) (fun q => absurd q (by decide)) (fun c_83 => ?_)
          refine zt_aload_n dX6_drawCurve_86 rfl ?_
          refine zt_dup dX6_drawCurve_87 (Nat.ne_of_beq_eq_false rfl) ?_
          refine zt_getv (v := 1) dX6_drawCurve_88 fl_X6_107 (zs_26 hS) zupE ?_
          refine zt_aload_n dX6_drawCurve_91 rfl ?_
          refine zt_getv dX6_drawCurve_92 fl_X6_21 (zs_26 hS) (rf_26_8 hR3) ?_
          refine zt_iload_n dX6_drawCurve_95 rfl ?_
          refine zt_ialoadv (v := p1) dX6_drawCurve_96 (zs_30 hS) (by decide) (by decide) (by decide) ((zupA (by decide)).trans zupE) ?_
          refine zt_aload_n dX6_drawCurve_97 rfl ?_
          refine zt_getv dX6_drawCurve_98 fl_X6_21 (zs_26 hS) (rf_26_8 hR3) ?_
          refine zt_iload_n dX6_drawCurve_101 rfl ?_
          refine zt_ialoadv (v := p0) dX6_drawCurve_102 (zs_30 hS) (by decide) (by decide) (by decide) ((zupA (by decide)).trans ((zupJ (by decide)).trans zupE)) ?_
          refine zt_isub dX6_drawCurve_103 ?_
          refine zt_i2l dX6_drawCurve_104 (by omega) ?_
          refine zt_lmul dX6_drawCurve_105 ?_
          have hv1 : 0 < 1 * (p1 - p0) ∧ 1 * (p1 - p0) ≤ 19 := zvb hv0 (by omega) (by decide)
          refine zt_putl dX6_drawCurve_106 fl_X6_107 rfl (zs_26 hS) (by omega) ?_
          have hR4 : zRf (zup (zup (zup (zup h 30 0 p0) 30 1 p1) 26 10 1) 26 10 (1 * (p1 - p0))) := (hR3.up (by decide))
          refine zt_iincv_2 (v := 2) dX6_drawCurve_109 (by decide) rfl (by decide) ?_
          refine zt_goto (tgt := 78) dX6_drawCurve_112 (by decide) ?_
          refine zt_iload_n dX6_drawCurve_78 rfl ?_
          refine zt_aload_n dX6_drawCurve_79 rfl ?_
          refine zt_getv (v := 2) dX6_drawCurve_80 fl_X6_104 (zs_26 hS) (((zupJ (by decide)).trans ((zupJ (by decide)).trans ((zupA (by decide)).trans ((zupA (by decide)).trans rfl)))).trans hK) ?_
          refine zt_icmp_ge (tgt := 115) dX6_drawCurve_83 (by decide) (by decide) (by decide) (fun c_83 => ?_) (fun q => absurd q (by decide))
          refine zt_iincv_1 (v := 1) dX6_drawCurve_115 (by decide) rfl (by decide) ?_
          refine zt_goto (tgt := 66) dX6_drawCurve_118 (by decide) ?_
          refine zt_iload_n dX6_drawCurve_66 rfl ?_
          refine zt_aload_n dX6_drawCurve_67 rfl ?_
          refine zt_getv (v := 2) dX6_drawCurve_68 fl_X6_104 (zs_26 hS) (((zupJ (by decide)).trans ((zupJ (by decide)).trans ((zupA (by decide)).trans ((zupA (by decide)).trans rfl)))).trans hK) ?_
          refine zt_icmp_ge (tgt := 121) dX6_drawCurve_71 (by decide) (by decide) (by decide) (fun q => absurd q (by decide)) (fun c_71 => ?_)
          refine zt_iload_n dX6_drawCurve_74 rfl ?_
          refine zt_iconst dX6_drawCurve_75 ?_
          refine zt_iadd dX6_drawCurve_76 ?_
          refine zt_topv (v := 2) (by decide) ?_
          refine zt_istore_n_2 dX6_drawCurve_77 (by decide) rfl ?_
          refine zt_iload_n dX6_drawCurve_78 rfl ?_
          refine zt_aload_n dX6_drawCurve_79 rfl ?_
          refine zt_getv (v := 2) dX6_drawCurve_80 fl_X6_104 (zs_26 hS) (((zupJ (by decide)).trans ((zupJ (by decide)).trans ((zupA (by decide)).trans ((zupA (by decide)).trans rfl)))).trans hK) ?_
          refine zt_icmp_ge (tgt := 115) dX6_drawCurve_83 (by decide) (by decide) (by decide) (fun c_83 => ?_) (fun q => absurd q (by decide))
          refine zt_iincv_1 (v := 2) dX6_drawCurve_115 (by decide) rfl (by decide) ?_
          refine zt_goto (tgt := 66) dX6_drawCurve_118 (by decide) ?_
          refine zt_iload_n dX6_drawCurve_66 rfl ?_
          refine zt_aload_n dX6_drawCurve_67 rfl ?_
          refine zt_getv (v := 2) dX6_drawCurve_68 fl_X6_104 (zs_26 hS) (((zupJ (by decide)).trans ((zupJ (by decide)).trans ((zupA (by decide)).trans ((zupA (by decide)).trans rfl)))).trans hK) ?_
          refine zt_icmp_ge (tgt := 121) dX6_drawCurve_71 (by decide) (by decide) (by decide) (fun c_71 => ?_) (fun q => absurd q (by decide))
          refine zt_iconst dX6_drawCurve_121 ?_
          refine zt_istore_n_1 dX6_drawCurve_122 (by decide) rfl ?_
          refine zt_iload_n dX6_drawCurve_123 rfl ?_
          refine zt_aload_n dX6_drawCurve_124 rfl ?_
          refine zt_getv (v := 2) dX6_drawCurve_125 fl_X6_104 (zs_26 hS) (((zupJ (by decide)).trans ((zupJ (by decide)).trans ((zupA (by decide)).trans ((zupA (by decide)).trans rfl)))).trans hK) ?_
          refine zt_icmp_ge (tgt := 159) dX6_drawCurve_128 (by decide) (by decide) (by decide) (fun q => absurd q (by decide)) (fun c_128 => ?_)
          refine zt_aload_n dX6_drawCurve_131 rfl ?_
          refine zt_getv dX6_drawCurve_132 fl_X6_24 (zs_26 hS) (rf_26_9 hR4) ?_
          refine zt_iload_n dX6_drawCurve_135 rfl ?_
          refine zt_aload_n dX6_drawCurve_136 rfl ?_
          refine zt_getv (v := 1 * (p1 - p0)) dX6_drawCurve_137 fl_X6_107 (zs_26 hS) zupE ?_
          refine zt_aload_n dX6_drawCurve_140 rfl ?_
          refine zt_aload_n dX6_drawCurve_141 rfl ?_
          refine zt_getv dX6_drawCurve_142 fl_X6_21 (zs_26 hS) (rf_26_8 hR4) ?_
          refine zt_iload_n dX6_drawCurve_145 rfl ?_
          refine zt_ialoadv (v := p0) dX6_drawCurve_146 (zs_30 hS) (by decide) (by decide) (by decide) ((zupA (by decide)).trans ((zupA (by decide)).trans ((zupJ (by decide)).trans zupE))) ?_
          refine zt_callV1r dX6_drawCurve_147 ml_X6_111 (zs_26 hS) (Nat.le_of_ble_eq_true rfl) (zF.of_eq (show some (0, (zup (zup (zup (zup h 30 0 p0) 30 1 p1) 26 10 1) 26 10 (1 * (p1 - p0))) 27 p0) = some (0, y0) from congrArg (fun z => some ((0, z) : zV)) ((zupA (by decide)).trans ((zupA (by decide)).trans ((zupA (by decide)).trans ((zupA (by decide)).trans hy0))))) rfl rfl rfl (c_rnum hS hR4 (by omega))) ?_
          refine zt_i2l dX6_drawCurve_150 (by omega) ?_
          refine zt_lmul dX6_drawCurve_151 ?_
          have hD00 : -18999981 ≤ cD2_00 p0 p1 y0 y1 ∧ cD2_00 p0 p1 y0 y1 ≤ 18999981 := zmb2 (x := 1 * (p1 - p0)) (y := y0) (A := 19) (B := 999999) ⟨by omega, by omega⟩ hb0 (by decide)
          refine zt_topv (v := cD2_00 p0 p1 y0 y1) rfl ?_
          refine zt_lastore dX6_drawCurve_152 (zs_31 hS) (by decide) (by decide) (by decide) (by omega) ?_
          have hR5 : zRf (zup (zup (zup (zup (zup h 30 0 p0) 30 1 p1) 26 10 1) 26 10 (1 * (p1 - p0))) 31 0 (cD2_00 p0 p1 y0 y1)) := (hR4.upA (by decide))
          refine zt_iincv_1 (v := 1) dX6_drawCurve_153 (by decide) rfl (by decide) ?_
          refine zt_goto (tgt := 123) dX6_drawCurve_156 (by decide) ?_
          refine zt_iload_n dX6_drawCurve_123 rfl ?_
          refine zt_aload_n dX6_drawCurve_124 rfl ?_
          refine zt_getv (v := 2) dX6_drawCurve_125 fl_X6_104 (zs_26 hS) (((zupA (by decide)).trans ((zupJ (by decide)).trans ((zupJ (by decide)).trans ((zupA (by decide)).trans ((zupA (by decide)).trans rfl))))).trans hK) ?_
          refine zt_icmp_ge (tgt := 159) dX6_drawCurve_128 (by decide) (by decide) (by decide) (fun q => absurd q (by decide)) (fun c_128 => ?_)
          refine zt_aload_n dX6_drawCurve_131 rfl ?_
          refine zt_getv dX6_drawCurve_132 fl_X6_24 (zs_26 hS) (rf_26_9 hR5) ?_
          refine zt_iload_n dX6_drawCurve_135 rfl ?_
          refine zt_aload_n dX6_drawCurve_136 rfl ?_
          refine zt_getv (v := 1 * (p1 - p0)) dX6_drawCurve_137 fl_X6_107 (zs_26 hS) ((zupA (by decide)).trans zupE) ?_
          refine zt_aload_n dX6_drawCurve_140 rfl ?_
          refine zt_aload_n dX6_drawCurve_141 rfl ?_
          refine zt_getv dX6_drawCurve_142 fl_X6_21 (zs_26 hS) (rf_26_8 hR5) ?_
          refine zt_iload_n dX6_drawCurve_145 rfl ?_
          refine zt_ialoadv (v := p1) dX6_drawCurve_146 (zs_30 hS) (by decide) (by decide) (by decide) ((zupA (by decide)).trans ((zupA (by decide)).trans ((zupA (by decide)).trans zupE))) ?_
          refine zt_callV1r dX6_drawCurve_147 ml_X6_111 (zs_26 hS) (Nat.le_of_ble_eq_true rfl) (zF.of_eq (show some (0, (zup (zup (zup (zup (zup h 30 0 p0) 30 1 p1) 26 10 1) 26 10 (1 * (p1 - p0))) 31 0 (cD2_00 p0 p1 y0 y1)) 27 p1) = some (0, y1) from congrArg (fun z => some ((0, z) : zV)) ((zupA (by decide)).trans ((zupA (by decide)).trans ((zupA (by decide)).trans ((zupA (by decide)).trans ((zupA (by decide)).trans hy1)))))) rfl rfl rfl (c_rnum hS hR5 (by omega))) ?_
          refine zt_i2l dX6_drawCurve_150 (by omega) ?_
          refine zt_lmul dX6_drawCurve_151 ?_
          have hD01 : -18999981 ≤ cD2_01 p0 p1 y0 y1 ∧ cD2_01 p0 p1 y0 y1 ≤ 18999981 := zmb2 (x := 1 * (p1 - p0)) (y := y1) (A := 19) (B := 999999) ⟨by omega, by omega⟩ hb1 (by decide)
          refine zt_topv (v := cD2_01 p0 p1 y0 y1) rfl ?_
          refine zt_lastore dX6_drawCurve_152 (zs_31 hS) (by decide) (by decide) (by decide) (by omega) ?_
          have hR6 : zRf (zup (zup (zup (zup (zup (zup h 30 0 p0) 30 1 p1) 26 10 1) 26 10 (1 * (p1 - p0))) 31 0 (cD2_00 p0 p1 y0 y1)) 31 1 (cD2_01 p0 p1 y0 y1)) := (hR5.upA (by decide))
          refine zt_iincv_1 (v := 2) dX6_drawCurve_153 (by decide) rfl (by decide) ?_
          refine zt_goto (tgt := 123) dX6_drawCurve_156 (by decide) ?_
          refine zt_iload_n dX6_drawCurve_123 rfl ?_
          refine zt_aload_n dX6_drawCurve_124 rfl ?_
          refine zt_getv (v := 2) dX6_drawCurve_125 fl_X6_104 (zs_26 hS) (((zupA (by decide)).trans ((zupA (by decide)).trans ((zupJ (by decide)).trans ((zupJ (by decide)).trans ((zupA (by decide)).trans ((zupA (by decide)).trans rfl)))))).trans hK) ?_
          refine zt_icmp_ge (tgt := 159) dX6_drawCurve_128 (by decide) (by decide) (by decide) (fun c_128 => ?_) (fun q => absurd q (by decide))
          refine zt_iconst dX6_drawCurve_159 ?_
          refine zt_istore_n_1 dX6_drawCurve_160 (by decide) rfl ?_
          refine zt_iload_n dX6_drawCurve_161 rfl ?_
          refine zt_aload_n dX6_drawCurve_162 rfl ?_
          refine zt_getv (v := 2) dX6_drawCurve_163 fl_X6_104 (zs_26 hS) (((zupA (by decide)).trans ((zupA (by decide)).trans ((zupJ (by decide)).trans ((zupJ (by decide)).trans ((zupA (by decide)).trans ((zupA (by decide)).trans rfl)))))).trans hK) ?_
          refine zt_icmp_ge (tgt := 241) dX6_drawCurve_166 (by decide) (by decide) (by decide) (fun q => absurd q (by decide)) (fun c_166 => ?_)
          refine zt_aload_n dX6_drawCurve_169 rfl ?_
          refine zt_getv (v := 2) dX6_drawCurve_170 fl_X6_104 (zs_26 hS) (((zupA (by decide)).trans ((zupA (by decide)).trans ((zupJ (by decide)).trans ((zupJ (by decide)).trans ((zupA (by decide)).trans ((zupA (by decide)).trans rfl)))))).trans hK) ?_
          refine zt_iconst dX6_drawCurve_173 ?_
          refine zt_isub dX6_drawCurve_174 ?_
          refine zt_topv (v := 1) (by decide) ?_
          refine zt_istore_n_2 dX6_drawCurve_175 (by decide) rfl ?_
          refine zt_iload_n dX6_drawCurve_176 rfl ?_
          refine zt_iload_n dX6_drawCurve_177 rfl ?_
          refine zt_icmp_lt (tgt := 235) dX6_drawCurve_178 (by decide) (by decide) (by decide) (fun q => absurd q (by decide)) (fun c_178 => ?_)
          refine zt_aload_n dX6_drawCurve_181 rfl ?_
          refine zt_getv dX6_drawCurve_182 fl_X6_21 (zs_26 hS) (rf_26_8 hR6) ?_
          refine zt_iload_n dX6_drawCurve_185 rfl ?_
          refine zt_ialoadv (v := p1) dX6_drawCurve_186 (zs_30 hS) (by decide) (by decide) (by decide) ((zupA (by decide)).trans ((zupA (by decide)).trans ((zupA (by decide)).trans ((zupA (by decide)).trans zupE)))) ?_
          refine zt_aload_n dX6_drawCurve_187 rfl ?_
          refine zt_getv dX6_drawCurve_188 fl_X6_21 (zs_26 hS) (rf_26_8 hR6) ?_
          refine zt_iload_n dX6_drawCurve_191 rfl ?_
          refine zt_iload_n dX6_drawCurve_192 rfl ?_
          refine zt_isub dX6_drawCurve_193 ?_
          refine zt_topv (v := 0) (by decide) ?_
          refine zt_ialoadv (v := p0) dX6_drawCurve_194 (zs_30 hS) (by decide) (by decide) (by decide) ((zupA (by decide)).trans ((zupA (by decide)).trans ((zupA (by decide)).trans ((zupA (by decide)).trans ((zupJ (by decide)).trans zupE))))) ?_
          refine zt_isub dX6_drawCurve_195 ?_
          refine zt_istore_n_3 dX6_drawCurve_196 (by decide) rfl ?_
          refine zt_aload_n dX6_drawCurve_197 rfl ?_
          refine zt_getv dX6_drawCurve_198 fl_X6_24 (zs_26 hS) (rf_26_9 hR6) ?_
          refine zt_iload_n dX6_drawCurve_201 rfl ?_
          refine zt_iload_n dX6_drawCurve_202 rfl ?_
          refine zt_if_ne (tgt := 210) dX6_drawCurve_203 (by decide) (by omega) (fun c_203 => ?_) (fun c_203 => ?_)
          · refine zt_aload_n dX6_drawCurve_210 rfl ?_
            refine zt_getv dX6_drawCurve_211 fl_X6_24 (zs_26 hS) (rf_26_9 hR6) ?_
            refine zt_iload_n dX6_drawCurve_214 rfl ?_
            refine zt_laloadv (v := cD2_01 p0 p1 y0 y1) dX6_drawCurve_215 (zs_31 hS) (by decide) (by decide) (by decide) zupE ?_
            refine zt_aload_n dX6_drawCurve_216 rfl ?_
            refine zt_getv dX6_drawCurve_217 fl_X6_24 (zs_26 hS) (rf_26_9 hR6) ?_
            refine zt_iload_n dX6_drawCurve_220 rfl ?_
            refine zt_iconst dX6_drawCurve_221 ?_
            refine zt_isub dX6_drawCurve_222 ?_
            refine zt_topv (v := 0) (by decide) ?_
            refine zt_laloadv (v := cD2_00 p0 p1 y0 y1) dX6_drawCurve_223 (zs_31 hS) (by decide) (by decide) (by decide) ((zupJ (by decide)).trans zupE) ?_
            refine zt_lsub dX6_drawCurve_224 ?_
            refine zt_iload_n dX6_drawCurve_225 rfl ?_
            refine zt_i2l dX6_drawCurve_226 (by omega) ?_
            refine zt_ldiv dX6_drawCurve_227 (by omega) (by omega) (by omega) ?_
            have hD11 : -37999962 ≤ cD2_11 p0 p1 y0 y1 ∧ cD2_11 p0 p1 y0 y1 ≤ 37999962 := zexb nid2_11 (by omega) ⟨by omega, by omega⟩
            refine zt_topv (v := cD2_11 p0 p1 y0 y1) (zex nid2_11 (by omega)) ?_
            refine zt_lastore dX6_drawCurve_228 (zs_31 hS) (by decide) (by decide) (by decide) (by omega) ?_
            have hR7 : zRf (zup (zup (zup (zup (zup (zup (zup h 30 0 p0) 30 1 p1) 26 10 1) 26 10 (1 * (p1 - p0))) 31 0 (cD2_00 p0 p1 y0 y1)) 31 1 (cD2_01 p0 p1 y0 y1)) 31 1 (cD2_11 p0 p1 y0 y1)) := (hR6.upA (by decide))
            refine zt_iincv_2 (v := 0) dX6_drawCurve_229 (by decide) rfl (by decide) ?_
            refine zt_goto (tgt := 176) dX6_drawCurve_232 (by decide) ?_
            refine zt_iload_n dX6_drawCurve_176 rfl ?_
            refine zt_iload_n dX6_drawCurve_177 rfl ?_
            refine zt_icmp_lt (tgt := 235) dX6_drawCurve_178 (by decide) (by decide) (by decide) (fun c_178 => ?_) (fun q => absurd q (by decide))
            refine zt_iincv_1 (v := 2) dX6_drawCurve_235 (by decide) rfl (by decide) ?_
            refine zt_goto (tgt := 161) dX6_drawCurve_238 (by decide) ?_
            refine zt_iload_n dX6_drawCurve_161 rfl ?_
            refine zt_aload_n dX6_drawCurve_162 rfl ?_
            refine zt_getv (v := 2) dX6_drawCurve_163 fl_X6_104 (zs_26 hS) (((zupA (by decide)).trans ((zupA (by decide)).trans ((zupA (by decide)).trans ((zupJ (by decide)).trans ((zupJ (by decide)).trans ((zupA (by decide)).trans ((zupA (by decide)).trans rfl))))))).trans hK) ?_
            refine zt_icmp_ge (tgt := 241) dX6_drawCurve_166 (by decide) (by decide) (by decide) (fun c_166 => ?_) (fun q => absurd q (by decide))
            exact zt_vret dX6_drawCurve_241 ⟨rfl, rfl, rfl, ⟨fun x q1 q2 q3 q4 => by (repeat rw [zup_ne (by assumption)]); (try rfl), fun y q1 q2 => by (repeat first | rw [zupA (by decide)] | rw [zupJ (by assumption)]); (try rfl), hR7⟩, by (repeat rw [zup_ne (by decide)]), by (repeat first | rw [zupE] | rw [zupA (by decide)] | rw [zupJ (by decide)]); exact hK, by (repeat first | rw [zupE] | rw [zupA (by decide)] | rw [zupJ (by decide)]); (try rfl), ⟨by (repeat first | rw [zupE] | rw [zupA (by decide)] | rw [zupJ (by decide)]), by (repeat first | rw [zupE] | rw [zupA (by decide)] | rw [zupJ (by decide)]); (try rfl)⟩, ⟨by (repeat first | rw [zupE] | rw [zupA (by decide)] | rw [zupJ (by decide)]), by (repeat first | rw [zupE] | rw [zupA (by decide)] | rw [zupJ (by decide)]); (try rfl)⟩⟩
          · exfalso
            omega

set_option maxRecDepth 100000 in
set_option maxHeartbeats 4000000 in
theorem c_draw3 {d n : Nat} {sh : zSh} {h : zMem} {p0 p1 p2 y0 y1 y2 : Int} (hS : zShp sh) (hR : zRf h) (hK : h 26 7 = 3) (hp0 : h 28 (h 29 0) = p0) (hy0 : h 27 p0 = y0) (hb0 : -999999 ≤ y0 ∧ y0 ≤ 999999) (hc0 : 0 ≤ h 29 0 ∧ h 29 0 < h 26 5) (hp1 : h 28 (h 29 1) = p1) (hy1 : h 27 p1 = y1) (hb1 : -999999 ≤ y1 ∧ y1 ≤ 999999) (hc1 : 0 ≤ h 29 1 ∧ h 29 1 < h 26 5) (hp2 : h 28 (h 29 2) = p2) (hy2 : h 27 p2 = y2) (hb2 : -999999 ≤ y2 ∧ y2 ≤ 999999) (hc2 : 0 ≤ h 29 2 ∧ h 29 2 < h 26 5) (hod : 0 ≤ p0 ∧ p0 < p1 ∧ p1 < p2 ∧ p2 < 20) (hp : h 26 5 ≤ 20) : zM yX6_drawCurve cX6_drawCurve 4 none (d + 1) 0 0 [(2, 26)] n sh h (fun r n1 sh1 h1 => r = none ∧ n1 = n ∧ sh1 = sh ∧ rO h h1 ∧ h1 29 = h 29 ∧ h1 26 7 = 3 ∧ h1 26 10 = cV3 p0 p1 p2 ∧ (h1 30 0 = p0 ∧ h1 31 0 = cD3_00 p0 p1 p2 y0 y1 y2) ∧ (h1 30 1 = p1 ∧ h1 31 1 = cD3_11 p0 p1 p2 y0 y1 y2) ∧ (h1 30 2 = p2 ∧ h1 31 2 = cD3_22 p0 p1 p2 y0 y1 y2)) := by
  refine zM.ofT2 (by decide +kernel) [some (2, 26), none, none, none] rfl (Nat.le_of_ble_eq_true rfl) ?_
  have hv0 : (0 : Int) < 1 ∧ (1 : Int) ≤ 1 := by decide
  refine zt_iconst dX6_drawCurve_0 ?_
  refine zt_istore_n_1 dX6_drawCurve_1 (by decide) rfl ?_
  refine zt_iload_n dX6_drawCurve_2 rfl ?_
  refine zt_aload_n dX6_drawCurve_3 rfl ?_
  refine zt_getv (v := 3) dX6_drawCurve_4 fl_X6_104 (zs_26 hS) hK ?_
  refine zt_icmp_ge (tgt := 59) dX6_drawCurve_7 (by decide) (by decide) (by decide) (fun q => absurd q (by decide)) (fun c_7 => ?_)
  refine zt_aload_n dX6_drawCurve_10 rfl ?_
  refine zt_getv dX6_drawCurve_11 fl_X6_21 (zs_26 hS) (rf_26_8 hR) ?_
  refine zt_iload_n dX6_drawCurve_14 rfl ?_
  refine zt_aload_n dX6_drawCurve_15 rfl ?_
  refine zt_getv dX6_drawCurve_16 fl_X6_18 (zs_26 hS) (rf_26_6 hR) ?_
  refine zt_iload_n dX6_drawCurve_19 rfl ?_
  refine zt_ialoadv (v := h 29 0) dX6_drawCurve_20 (zs_29 hS) (by decide) (by decide) (by decide) rfl ?_
  refine zt_if_lt (tgt := 51) dX6_drawCurve_21 (by decide) (by omega) (fun c_21 => ?_) (fun c_21 => ?_)
  · exfalso
    omega
  · refine zt_aload_n dX6_drawCurve_24 rfl ?_
    refine zt_getv dX6_drawCurve_25 fl_X6_18 (zs_26 hS) (rf_26_6 hR) ?_
    refine zt_iload_n dX6_drawCurve_28 rfl ?_
    refine zt_ialoadv (v := h 29 0) dX6_drawCurve_29 (zs_29 hS) (by decide) (by decide) (by decide) rfl ?_
    refine zt_aload_n dX6_drawCurve_30 rfl ?_
    refine zt_get dX6_drawCurve_31 fl_X6_60 (zs_26 hS) ?_
    refine zt_icmp_ge (tgt := 51) dX6_drawCurve_34 (by decide) (by omega) (by omega) (fun c_34 => ?_) (fun c_34 => ?_)
    · exfalso
      omega
    · refine zt_aload_n dX6_drawCurve_37 rfl ?_
      refine zt_getv dX6_drawCurve_38 fl_X6_15 (zs_26 hS) (rf_26_4 hR) ?_
      refine zt_aload_n dX6_drawCurve_41 rfl ?_
      refine zt_getv dX6_drawCurve_42 fl_X6_18 (zs_26 hS) (rf_26_6 hR) ?_
      refine zt_iload_n dX6_drawCurve_45 rfl ?_
      refine zt_ialoadv (v := h 29 0) dX6_drawCurve_46 (zs_29 hS) (by decide) (by decide) (by decide) rfl ?_
      refine zt_ialoadv (v := p0) dX6_drawCurve_47 (zs_28 hS) (by decide) (by omega) (by omega) hp0 ?_
      refine zt_goto (tgt := 52) dX6_drawCurve_48 (by decide) ?_
      refine zt_iastore dX6_drawCurve_52 (zs_30 hS) (by decide) (by decide) (by decide) (by omega) ?_
      have hR1 : zRf (zup h 30 0 p0) := (hR.upA (by decide))
      refine zt_iincv_1 (v := 1) dX6_drawCurve_53 (by decide) rfl (by decide) ?_
      refine zt_goto (tgt := 2) dX6_drawCurve_56 (by decide) ?_
      refine zt_iload_n dX6_drawCurve_2 rfl ?_
      refine zt_aload_n dX6_drawCurve_3 rfl ?_
      refine zt_getv (v := 3) dX6_drawCurve_4 fl_X6_104 (zs_26 hS) (((zupA (by decide)).trans rfl).trans hK) ?_
      refine zt_icmp_ge (tgt := 59) dX6_drawCurve_7 (by decide) (by decide) (by decide) (fun q => absurd q (by decide)) (fun c_7 => ?_)
      refine zt_aload_n dX6_drawCurve_10 rfl ?_
      refine zt_getv dX6_drawCurve_11 fl_X6_21 (zs_26 hS) (rf_26_8 hR1) ?_
      refine zt_iload_n dX6_drawCurve_14 rfl ?_
      refine zt_aload_n dX6_drawCurve_15 rfl ?_
      refine zt_getv dX6_drawCurve_16 fl_X6_18 (zs_26 hS) (rf_26_6 hR1) ?_
      refine zt_iload_n dX6_drawCurve_19 rfl ?_
      refine zt_ialoadv (v := h 29 1) dX6_drawCurve_20 (zs_29 hS) (by decide) (by decide) (by decide) ((zupA (by decide)).trans rfl) ?_
      refine zt_if_lt (tgt := 51) dX6_drawCurve_21 (by decide) (by omega) (fun c_21 => ?_) (fun c_21 => ?_)
      · exfalso
        omega
      · refine zt_aload_n dX6_drawCurve_24 rfl ?_
        refine zt_getv dX6_drawCurve_25 fl_X6_18 (zs_26 hS) (rf_26_6 hR1) ?_
        refine zt_iload_n dX6_drawCurve_28 rfl ?_
        refine zt_ialoadv (v := h 29 1) dX6_drawCurve_29 (zs_29 hS) (by decide) (by decide) (by decide) ((zupA (by decide)).trans rfl) ?_
        refine zt_aload_n dX6_drawCurve_30 rfl ?_
        refine zt_getv (v := h 26 5) dX6_drawCurve_31 fl_X6_60 (zs_26 hS) ((zupA (by decide)).trans rfl) ?_
        refine zt_icmp_ge (tgt := 51) dX6_drawCurve_34 (by decide) (by omega) (by omega) (fun c_34 => ?_) (fun c_34 => ?_)
        · exfalso
          omega
        · refine zt_aload_n dX6_drawCurve_37 rfl ?_
          refine zt_getv dX6_drawCurve_38 fl_X6_15 (zs_26 hS) (rf_26_4 hR1) ?_
          refine zt_aload_n dX6_drawCurve_41 rfl ?_
          refine zt_getv dX6_drawCurve_42 fl_X6_18 (zs_26 hS) (rf_26_6 hR1) ?_
          refine zt_iload_n dX6_drawCurve_45 rfl ?_
          refine zt_ialoadv (v := h 29 1) dX6_drawCurve_46 (zs_29 hS) (by decide) (by decide) (by decide) ((zupA (by decide)).trans rfl) ?_
          refine zt_ialoadv (v := p1) dX6_drawCurve_47 (zs_28 hS) (by decide) (by omega) (by omega) ((zupA (by decide)).trans hp1) ?_
          refine zt_goto (tgt := 52) dX6_drawCurve_48 (by decide) ?_
          refine zt_iastore dX6_drawCurve_52 (zs_30 hS) (by decide) (by decide) (by decide) (by omega) ?_
          have hR2 : zRf (zup (zup h 30 0 p0) 30 1 p1) := (hR1.upA (by decide))
          refine zt_iincv_1 (v := 2) dX6_drawCurve_53 (by decide) rfl (by decide) ?_
          refine zt_goto (tgt := 2) dX6_drawCurve_56 (by decide) ?_
          refine zt_iload_n dX6_drawCurve_2 rfl ?_
          refine zt_aload_n dX6_drawCurve_3 rfl ?_
          refine zt_getv (v := 3) dX6_drawCurve_4 fl_X6_104 (zs_26 hS) (((zupA (by decide)).trans ((zupA (by decide)).trans rfl)).trans hK) ?_
          refine zt_icmp_ge (tgt := 59) dX6_drawCurve_7 (by decide) (by decide) (by decide) (fun q => absurd q (by decide)) (fun c_7 => ?_)
          refine zt_aload_n dX6_drawCurve_10 rfl ?_
          refine zt_getv dX6_drawCurve_11 fl_X6_21 (zs_26 hS) (rf_26_8 hR2) ?_
          refine zt_iload_n dX6_drawCurve_14 rfl ?_
          refine zt_aload_n dX6_drawCurve_15 rfl ?_
          refine zt_getv dX6_drawCurve_16 fl_X6_18 (zs_26 hS) (rf_26_6 hR2) ?_
          refine zt_iload_n dX6_drawCurve_19 rfl ?_
          refine zt_ialoadv (v := h 29 2) dX6_drawCurve_20 (zs_29 hS) (by decide) (by decide) (by decide) ((zupA (by decide)).trans ((zupA (by decide)).trans rfl)) ?_
          refine zt_if_lt (tgt := 51) dX6_drawCurve_21 (by decide) (by omega) (fun c_21 => ?_) (fun c_21 => ?_)
          · exfalso
            omega
          · refine zt_aload_n dX6_drawCurve_24 rfl ?_
            refine zt_getv dX6_drawCurve_25 fl_X6_18 (zs_26 hS) (rf_26_6 hR2) ?_
            refine zt_iload_n dX6_drawCurve_28 rfl ?_
            refine zt_ialoadv (v := h 29 2) dX6_drawCurve_29 (zs_29 hS) (by decide) (by decide) (by decide) ((zupA (by decide)).trans ((zupA (by decide)).trans rfl)) ?_
            refine zt_aload_n dX6_drawCurve_30 rfl ?_
            refine zt_getv (v := h 26 5) dX6_drawCurve_31 fl_X6_60 (zs_26 hS) ((zupA (by decide)).trans ((zupA (by decide)).trans rfl)) ?_
            refine zt_icmp_ge (tgt := 51) dX6_drawCurve_34 (by decide) (by omega) (by omega) (fun c_34 => ?_) (fun c_34 => ?_)
            · exfalso
              omega
            · refine zt_aload_n dX6_drawCurve_37 rfl ?_
              refine zt_getv dX6_drawCurve_38 fl_X6_15 (zs_26 hS) (rf_26_4 hR2) ?_
              refine zt_aload_n dX6_drawCurve_41 rfl ?_
              refine zt_getv dX6_drawCurve_42 fl_X6_18 (zs_26 hS) (rf_26_6 hR2) ?_
              refine zt_iload_n dX6_drawCurve_45 rfl ?_
              refine zt_ialoadv (v := h 29 2) dX6_drawCurve_46 (zs_29 hS) (by decide) (by decide) (by decide) ((zupA (by decide)).trans ((zupA (by decide)).trans rfl)) ?_
              refine zt_ialoadv (v := p2) dX6_drawCurve_47 (zs_28 hS) (by decide) (by omega) (by omega) ((zupA (by decide)).trans ((zupA (by decide)).trans hp2)) ?_
              refine zt_goto (tgt := 52) dX6_drawCurve_48 (by decide) ?_
              refine zt_iastore dX6_drawCurve_52 (zs_30 hS) (by decide) (by decide) (by decide) (by omega) ?_
              have hR3 : zRf (zup (zup (zup h 30 0 p0) 30 1 p1) 30 2 p2) := (hR2.upA (by decide))
              refine zt_iincv_1 (v := 3) dX6_drawCurve_53 (by decide) rfl (by decide) ?_
              refine zt_goto (tgt := 2) dX6_drawCurve_56 (by decide) ?_
              refine zt_iload_n dX6_drawCurve_2 rfl ?_
              refine zt_aload_n dX6_drawCurve_3 rfl ?_
              refine zt_getv (v := 3) dX6_drawCurve_4 fl_X6_104 (zs_26 hS) (((zupA (by decide)).trans ((zupA (by decide)).trans ((zupA (by decide)).trans rfl))).trans hK) ?_
              refine zt_icmp_ge (tgt := 59) dX6_drawCurve_7 (by decide) (by decide) (by decide) (fun c_7 => ?_) (fun q => absurd q (by decide))
              refine zt_aload_n dX6_drawCurve_59 rfl ?_
              refine zt_lconst (v := 1) dX6_drawCurve_60 rfl ?_
              refine zt_putl dX6_drawCurve_61 fl_X6_107 rfl (zs_26 hS) (by decide) ?_
              have hR4 : zRf (zup (zup (zup (zup h 30 0 p0) 30 1 p1) 30 2 p2) 26 10 1) := (hR3.up (by decide))
              refine zt_iconst dX6_drawCurve_64 ?_
              refine zt_istore_n_1 dX6_drawCurve_65 (by decide) rfl ?_
              refine zt_iload_n dX6_drawCurve_66 rfl ?_
              refine zt_aload_n dX6_drawCurve_67 rfl ?_
              refine zt_getv (v := 3) dX6_drawCurve_68 fl_X6_104 (zs_26 hS) (((zupJ (by decide)).trans ((zupA (by decide)).trans ((zupA (by decide)).trans ((zupA (by decide)).trans rfl)))).trans hK) ?_
              refine zt_icmp_ge (tgt := 121) dX6_drawCurve_71 (by decide) (by decide) (by decide) (fun q => absurd q (by decide)) (fun c_71 => ?_)
              refine zt_iload_n dX6_drawCurve_74 rfl ?_
              refine zt_iconst dX6_drawCurve_75 ?_
              refine zt_iadd dX6_drawCurve_76 ?_
              refine zt_topv (v := 1) (by decide) ?_
              refine zt_istore_n_2 dX6_drawCurve_77 (by decide) rfl ?_
              refine zt_iload_n dX6_drawCurve_78 rfl ?_
              refine zt_aload_n dX6_drawCurve_79 rfl ?_
              refine zt_getv (v := 3) dX6_drawCurve_80 fl_X6_104 (zs_26 hS) (((zupJ (by decide)).trans ((zupA (by decide)).trans ((zupA (by decide)).trans ((zupA (by decide)).trans rfl)))).trans hK) ?_
              refine zt_icmp_ge (tgt := 115) dX6_drawCurve_83 (by decide) (by decide) (by decide) (fun q => absurd q (by decide)) (fun c_83 => ?_)
              refine zt_aload_n dX6_drawCurve_86 rfl ?_
              refine zt_dup dX6_drawCurve_87 (Nat.ne_of_beq_eq_false rfl) ?_
              refine zt_getv (v := 1) dX6_drawCurve_88 fl_X6_107 (zs_26 hS) zupE ?_
              refine zt_aload_n dX6_drawCurve_91 rfl ?_
              refine zt_getv dX6_drawCurve_92 fl_X6_21 (zs_26 hS) (rf_26_8 hR4) ?_
              refine zt_iload_n dX6_drawCurve_95 rfl ?_
              refine zt_ialoadv (v := p1) dX6_drawCurve_96 (zs_30 hS) (by decide) (by decide) (by decide) ((zupA (by decide)).trans ((zupJ (by decide)).trans zupE)) ?_
              refine zt_aload_n dX6_drawCurve_97 rfl ?_
              refine zt_getv dX6_drawCurve_98 fl_X6_21 (zs_26 hS) (rf_26_8 hR4) ?_
              refine zt_iload_n dX6_drawCurve_101 rfl ?_
              refine zt_ialoadv (v := p0) dX6_drawCurve_102 (zs_30 hS) (by decide) (by decide) (by decide) ((zupA (by decide)).trans ((zupJ (by decide)).trans ((zupJ (by decide)).trans zupE))) ?_
              refine zt_isub dX6_drawCurve_103 ?_
              refine zt_i2l dX6_drawCurve_104 (by omega) ?_
              refine zt_lmul dX6_drawCurve_105 ?_
              have hv1 : 0 < 1 * (p1 - p0) ∧ 1 * (p1 - p0) ≤ 19 := zvb hv0 (by omega) (by decide)
              refine zt_putl dX6_drawCurve_106 fl_X6_107 rfl (zs_26 hS) (by omega) ?_
              have hR5 : zRf (zup (zup (zup (zup (zup h 30 0 p0) 30 1 p1) 30 2 p2) 26 10 1) 26 10 (1 * (p1 - p0))) := (hR4.up (by decide))
              refine zt_iincv_2 (v := 2) dX6_drawCurve_109 (by decide) rfl (by decide) ?_
              refine zt_goto (tgt := 78) dX6_drawCurve_112 (by decide) ?_
              refine zt_iload_n dX6_drawCurve_78 rfl ?_
              refine zt_aload_n dX6_drawCurve_79 rfl ?_
              refine zt_getv (v := 3) dX6_drawCurve_80 fl_X6_104 (zs_26 hS) (((zupJ (by decide)).trans ((zupJ (by decide)).trans ((zupA (by decide)).trans ((zupA (by decide)).trans ((zupA (by decide)).trans rfl))))).trans hK) ?_
              refine zt_icmp_ge (tgt := 115) dX6_drawCurve_83 (by decide) (by decide) (by decide) (fun q => absurd q (by decide)) (fun c_83 => ?_)
              refine zt_aload_n dX6_drawCurve_86 rfl ?_
              refine zt_dup dX6_drawCurve_87 (Nat.ne_of_beq_eq_false rfl) ?_
              refine zt_getv (v := 1 * (p1 - p0)) dX6_drawCurve_88 fl_X6_107 (zs_26 hS) zupE ?_
              refine zt_aload_n dX6_drawCurve_91 rfl ?_
              refine zt_getv dX6_drawCurve_92 fl_X6_21 (zs_26 hS) (rf_26_8 hR5) ?_
              refine zt_iload_n dX6_drawCurve_95 rfl ?_
              refine zt_ialoadv (v := p2) dX6_drawCurve_96 (zs_30 hS) (by decide) (by decide) (by decide) ((zupA (by decide)).trans ((zupA (by decide)).trans zupE)) ?_
              refine zt_aload_n dX6_drawCurve_97 rfl ?_
              refine zt_getv dX6_drawCurve_98 fl_X6_21 (zs_26 hS) (rf_26_8 hR5) ?_
              refine zt_iload_n dX6_drawCurve_101 rfl ?_
              refine zt_ialoadv (v := p0) dX6_drawCurve_102 (zs_30 hS) (by decide) (by decide) (by decide) ((zupA (by decide)).trans ((zupA (by decide)).trans ((zupJ (by decide)).trans ((zupJ (by decide)).trans zupE)))) ?_
              refine zt_isub dX6_drawCurve_103 ?_
              refine zt_i2l dX6_drawCurve_104 (by omega) ?_
              refine zt_lmul dX6_drawCurve_105 ?_
              have hv2 : 0 < (1 * (p1 - p0)) * (p2 - p0) ∧ (1 * (p1 - p0)) * (p2 - p0) ≤ 361 := zvb hv1 (by omega) (by decide)
              refine zt_putl dX6_drawCurve_106 fl_X6_107 rfl (zs_26 hS) (by omega) ?_
              have hR6 : zRf (zup (zup (zup (zup (zup (zup h 30 0 p0) 30 1 p1) 30 2 p2) 26 10 1) 26 10 (1 * (p1 - p0))) 26 10 ((1 * (p1 - p0)) * (p2 - p0))) := (hR5.up (by decide))
              refine zt_iincv_2 (v := 3) dX6_drawCurve_109 (by decide) rfl (by decide) ?_
              refine zt_goto (tgt := 78) dX6_drawCurve_112 (by decide) ?_
              refine zt_iload_n dX6_drawCurve_78 rfl ?_
              refine zt_aload_n dX6_drawCurve_79 rfl ?_
              refine zt_getv (v := 3) dX6_drawCurve_80 fl_X6_104 (zs_26 hS) (((zupJ (by decide)).trans ((zupJ (by decide)).trans ((zupJ (by decide)).trans ((zupA (by decide)).trans ((zupA (by decide)).trans ((zupA (by decide)).trans rfl)))))).trans hK) ?_
              refine zt_icmp_ge (tgt := 115) dX6_drawCurve_83 (by decide) (by decide) (by decide) (fun c_83 => ?_) (fun q => absurd q (by decide))
              refine zt_iincv_1 (v := 1) dX6_drawCurve_115 (by decide) rfl (by decide) ?_
              refine zt_goto (tgt := 66) dX6_drawCurve_118 (by decide) ?_
              refine zt_iload_n dX6_drawCurve_66 rfl ?_
              refine zt_aload_n dX6_drawCurve_67 rfl ?_
              refine zt_getv (v := 3) dX6_drawCurve_68 fl_X6_104 (zs_26 hS) (((zupJ (by decide)).trans ((zupJ (by decide)).trans ((zupJ (by decide)).trans ((zupA (by decide)).trans ((zupA (by decide)).trans ((zupA (by decide)).trans rfl)))))).trans hK) ?_
              refine zt_icmp_ge (tgt := 121) dX6_drawCurve_71 (by decide) (by decide) (by decide) (fun q => absurd q (by decide)) (fun c_71 => ?_)
              refine zt_iload_n dX6_drawCurve_74 rfl ?_
              refine zt_iconst dX6_drawCurve_75 ?_
              refine zt_iadd dX6_drawCurve_76 ?_
              refine zt_topv (v := 2) (by decide) ?_
              refine zt_istore_n_2 dX6_drawCurve_77 (by decide) rfl ?_
              refine zt_iload_n dX6_drawCurve_78 rfl ?_
              refine zt_aload_n dX6_drawCurve_79 rfl ?_
              refine zt_getv (v := 3) dX6_drawCurve_80 fl_X6_104 (zs_26 hS) (((zupJ (by decide)).trans ((zupJ (by decide)).trans ((zupJ (by decide)).trans ((zupA (by decide)).trans ((zupA (by decide)).trans ((zupA (by decide)).trans rfl)))))).trans hK) ?_
              refine zt_icmp_ge (tgt := 115) dX6_drawCurve_83 (by decide) (by decide) (by decide) (fun q => absurd q (by decide)) (fun c_83 => ?_)
              refine zt_aload_n dX6_drawCurve_86 rfl ?_
              refine zt_dup dX6_drawCurve_87 (Nat.ne_of_beq_eq_false rfl) ?_
              refine zt_getv (v := (1 * (p1 - p0)) * (p2 - p0)) dX6_drawCurve_88 fl_X6_107 (zs_26 hS) zupE ?_
              refine zt_aload_n dX6_drawCurve_91 rfl ?_
              refine zt_getv dX6_drawCurve_92 fl_X6_21 (zs_26 hS) (rf_26_8 hR6) ?_
              refine zt_iload_n dX6_drawCurve_95 rfl ?_
              refine zt_ialoadv (v := p2) dX6_drawCurve_96 (zs_30 hS) (by decide) (by decide) (by decide) ((zupA (by decide)).trans ((zupA (by decide)).trans ((zupA (by decide)).trans zupE))) ?_
              refine zt_aload_n dX6_drawCurve_97 rfl ?_
              refine zt_getv dX6_drawCurve_98 fl_X6_21 (zs_26 hS) (rf_26_8 hR6) ?_
              refine zt_iload_n dX6_drawCurve_101 rfl ?_
              refine zt_ialoadv (v := p1) dX6_drawCurve_102 (zs_30 hS) (by decide) (by decide) (by decide) ((zupA (by decide)).trans ((zupA (by decide)).trans ((zupA (by decide)).trans ((zupJ (by decide)).trans zupE)))) ?_
              refine zt_isub dX6_drawCurve_103 ?_
              refine zt_i2l dX6_drawCurve_104 (by omega) ?_
              refine zt_lmul dX6_drawCurve_105 ?_
              have hv3 : 0 < ((1 * (p1 - p0)) * (p2 - p0)) * (p2 - p1) ∧ ((1 * (p1 - p0)) * (p2 - p0)) * (p2 - p1) ≤ 6859 := zvb hv2 (by omega) (by decide)
              refine zt_putl dX6_drawCurve_106 fl_X6_107 rfl (zs_26 hS) (by omega) ?_
              have hR7 : zRf (zup (zup (zup (zup (zup (zup (zup h 30 0 p0) 30 1 p1) 30 2 p2) 26 10 1) 26 10 (1 * (p1 - p0))) 26 10 ((1 * (p1 - p0)) * (p2 - p0))) 26 10 (((1 * (p1 - p0)) * (p2 - p0)) * (p2 - p1))) := (hR6.up (by decide))
              refine zt_iincv_2 (v := 3) dX6_drawCurve_109 (by decide) rfl (by decide) ?_
              refine zt_goto (tgt := 78) dX6_drawCurve_112 (by decide) ?_
              refine zt_iload_n dX6_drawCurve_78 rfl ?_
              refine zt_aload_n dX6_drawCurve_79 rfl ?_
              refine zt_getv (v := 3) dX6_drawCurve_80 fl_X6_104 (zs_26 hS) (((zupJ (by decide)).trans ((zupJ (by decide)).trans ((zupJ (by decide)).trans ((zupJ (by decide)).trans ((zupA (by decide)).trans ((zupA (by decide)).trans ((zupA (by decide)).trans rfl))))))).trans hK) ?_
              refine zt_icmp_ge (tgt := 115) dX6_drawCurve_83 (by decide) (by decide) (by decide) (fun c_83 => ?_) (fun q => absurd q (by decide))
              refine zt_iincv_1 (v := 2) dX6_drawCurve_115 (by decide) rfl (by decide) ?_
              refine zt_goto (tgt := 66) dX6_drawCurve_118 (by decide) ?_
              refine zt_iload_n dX6_drawCurve_66 rfl ?_
              refine zt_aload_n dX6_drawCurve_67 rfl ?_
              refine zt_getv (v := 3) dX6_drawCurve_68 fl_X6_104 (zs_26 hS) (((zupJ (by decide)).trans ((zupJ (by decide)).trans ((zupJ (by decide)).trans ((zupJ (by decide)).trans ((zupA (by decide)).trans ((zupA (by decide)).trans ((zupA (by decide)).trans rfl))))))).trans hK) ?_
              refine zt_icmp_ge (tgt := 121) dX6_drawCurve_71 (by decide) (by decide) (by decide) (fun q => absurd q (by decide)) (fun c_71 => ?_)
              refine zt_iload_n dX6_drawCurve_74 rfl ?_
              refine zt_iconst dX6_drawCurve_75 ?_
              refine zt_iadd dX6_drawCurve_76 ?_
              refine zt_topv (v := 3) (by decide) ?_
              refine zt_istore_n_2 dX6_drawCurve_77 (by decide) rfl ?_
              refine zt_iload_n dX6_drawCurve_78 rfl ?_
              refine zt_aload_n dX6_drawCurve_79 rfl ?_
              refine zt_getv (v := 3) dX6_drawCurve_80 fl_X6_104 (zs_26 hS) (((zupJ (by decide)).trans ((zupJ (by decide)).trans ((zupJ (by decide)).trans ((zupJ (by decide)).trans ((zupA (by decide)).trans ((zupA (by decide)).trans ((zupA (by decide)).trans rfl))))))).trans hK) ?_
              refine zt_icmp_ge (tgt := 115) dX6_drawCurve_83 (by decide) (by decide) (by decide) (fun c_83 => ?_) (fun q => absurd q (by decide))
              refine zt_iincv_1 (v := 3) dX6_drawCurve_115 (by decide) rfl (by decide) ?_
              refine zt_goto (tgt := 66) dX6_drawCurve_118 (by decide) ?_
              refine zt_iload_n dX6_drawCurve_66 rfl ?_
              refine zt_aload_n dX6_drawCurve_67 rfl ?_
              refine zt_getv (v := 3) dX6_drawCurve_68 fl_X6_104 (zs_26 hS) (((zupJ (by decide)).trans ((zupJ (by decide)).trans ((zupJ (by decide)).trans ((zupJ (by decide)).trans ((zupA (by decide)).trans ((zupA (by decide)).trans ((zupA (by decide)).trans rfl))))))).trans hK) ?_
              refine zt_icmp_ge (tgt := 121) dX6_drawCurve_71 (by decide) (by decide) (by decide) (fun c_71 => ?_) (fun q => absurd q (by decide))
              refine zt_iconst dX6_drawCurve_121 ?_
              refine zt_istore_n_1 dX6_drawCurve_122 (by decide) rfl ?_
              refine zt_iload_n dX6_drawCurve_123 rfl ?_
              refine zt_aload_n dX6_drawCurve_124 rfl ?_
              refine zt_getv (v := 3) dX6_drawCurve_125 fl_X6_104 (zs_26 hS) (((zupJ (by decide)).trans ((zupJ (by decide)).trans ((zupJ (by decide)).trans ((zupJ (by decide)).trans ((zupA (by decide)).trans ((zupA (by decide)).trans ((zupA (by decide)).trans rfl))))))).trans hK) ?_
              refine zt_icmp_ge (tgt := 159) dX6_drawCurve_128 (by decide) (by decide) (by decide) (fun q => absurd q (by decide)) (fun c_128 => ?_)
              refine zt_aload_n dX6_drawCurve_131 rfl ?_
              refine zt_getv dX6_drawCurve_132 fl_X6_24 (zs_26 hS) (rf_26_9 hR7) ?_
              refine zt_iload_n dX6_drawCurve_135 rfl ?_
              refine zt_aload_n dX6_drawCurve_136 rfl ?_
              refine zt_getv (v := ((1 * (p1 - p0)) * (p2 - p0)) * (p2 - p1)) dX6_drawCurve_137 fl_X6_107 (zs_26 hS) zupE ?_
              refine zt_aload_n dX6_drawCurve_140 rfl ?_
              refine zt_aload_n dX6_drawCurve_141 rfl ?_
              refine zt_getv dX6_drawCurve_142 fl_X6_21 (zs_26 hS) (rf_26_8 hR7) ?_
              refine zt_iload_n dX6_drawCurve_145 rfl ?_
              refine zt_ialoadv (v := p0) dX6_drawCurve_146 (zs_30 hS) (by decide) (by decide) (by decide) ((zupA (by decide)).trans ((zupA (by decide)).trans ((zupA (by decide)).trans ((zupA (by decide)).trans ((zupJ (by decide)).trans ((zupJ (by decide)).trans zupE)))))) ?_
              refine zt_callV1r dX6_drawCurve_147 ml_X6_111 (zs_26 hS) (Nat.le_of_ble_eq_true rfl) (zF.of_eq (show some (0, (zup (zup (zup (zup (zup (zup (zup h 30 0 p0) 30 1 p1) 30 2 p2) 26 10 1) 26 10 (1 * (p1 - p0))) 26 10 ((1 * (p1 - p0)) * (p2 - p0))) 26 10 (((1 * (p1 - p0)) * (p2 - p0)) * (p2 - p1))) 27 p0) = some (0, y0) from congrArg (fun z => some ((0, z) : zV)) ((zupA (by decide)).trans ((zupA (by decide)).trans ((zupA (by decide)).trans ((zupA (by decide)).trans ((zupA (by decide)).trans ((zupA (by decide)).trans ((zupA (by decide)).trans hy0)))))))) rfl rfl rfl (c_rnum hS hR7 (by omega))) ?_
              refine zt_i2l dX6_drawCurve_150 (by omega) ?_
              refine zt_lmul dX6_drawCurve_151 ?_
              have hD00 : -6858993141 ≤ cD3_00 p0 p1 p2 y0 y1 y2 ∧ cD3_00 p0 p1 p2 y0 y1 y2 ≤ 6858993141 := zmb2 (x := ((1 * (p1 - p0)) * (p2 - p0)) * (p2 - p1)) (y := y0) (A := 6859) (B := 999999) ⟨by omega, by omega⟩ hb0 (by decide)
              refine zt_topv (v := cD3_00 p0 p1 p2 y0 y1 y2) rfl ?_
              refine zt_lastore dX6_drawCurve_152 (zs_31 hS) (by decide) (by decide) (by decide) (by omega) ?_
              have hR8 : zRf (zup (zup (zup (zup (zup (zup (zup (zup h 30 0 p0) 30 1 p1) 30 2 p2) 26 10 1) 26 10 (1 * (p1 - p0))) 26 10 ((1 * (p1 - p0)) * (p2 - p0))) 26 10 (((1 * (p1 - p0)) * (p2 - p0)) * (p2 - p1))) 31 0 (cD3_00 p0 p1 p2 y0 y1 y2)) := (hR7.upA (by decide))
              refine zt_iincv_1 (v := 1) dX6_drawCurve_153 (by decide) rfl (by decide) ?_
              refine zt_goto (tgt := 123) dX6_drawCurve_156 (by decide) ?_
              refine zt_iload_n dX6_drawCurve_123 rfl ?_
              refine zt_aload_n dX6_drawCurve_124 rfl ?_
              refine zt_getv (v := 3) dX6_drawCurve_125 fl_X6_104 (zs_26 hS) (((zupA (by decide)).trans ((zupJ (by decide)).trans ((zupJ (by decide)).trans ((zupJ (by decide)).trans ((zupJ (by decide)).trans ((zupA (by decide)).trans ((zupA (by decide)).trans ((zupA (by decide)).trans rfl)))))))).trans hK) ?_
              refine zt_icmp_ge (tgt := 159) dX6_drawCurve_128 (by decide) (by decide) (by decide) (fun q => absurd q (by decide)) (fun c_128 => ?_)
              refine zt_aload_n dX6_drawCurve_131 rfl ?_
              refine zt_getv dX6_drawCurve_132 fl_X6_24 (zs_26 hS) (rf_26_9 hR8) ?_
              refine zt_iload_n dX6_drawCurve_135 rfl ?_
              refine zt_aload_n dX6_drawCurve_136 rfl ?_
              refine zt_getv (v := ((1 * (p1 - p0)) * (p2 - p0)) * (p2 - p1)) dX6_drawCurve_137 fl_X6_107 (zs_26 hS) ((zupA (by decide)).trans zupE) ?_
              refine zt_aload_n dX6_drawCurve_140 rfl ?_
              refine zt_aload_n dX6_drawCurve_141 rfl ?_
              refine zt_getv dX6_drawCurve_142 fl_X6_21 (zs_26 hS) (rf_26_8 hR8) ?_
              refine zt_iload_n dX6_drawCurve_145 rfl ?_
              refine zt_ialoadv (v := p1) dX6_drawCurve_146 (zs_30 hS) (by decide) (by decide) (by decide) ((zupA (by decide)).trans ((zupA (by decide)).trans ((zupA (by decide)).trans ((zupA (by decide)).trans ((zupA (by decide)).trans ((zupJ (by decide)).trans zupE)))))) ?_
              refine zt_callV1r dX6_drawCurve_147 ml_X6_111 (zs_26 hS) (Nat.le_of_ble_eq_true rfl) (zF.of_eq (show some (0, (zup (zup (zup (zup (zup (zup (zup (zup h 30 0 p0) 30 1 p1) 30 2 p2) 26 10 1) 26 10 (1 * (p1 - p0))) 26 10 ((1 * (p1 - p0)) * (p2 - p0))) 26 10 (((1 * (p1 - p0)) * (p2 - p0)) * (p2 - p1))) 31 0 (cD3_00 p0 p1 p2 y0 y1 y2)) 27 p1) = some (0, y1) from congrArg (fun z => some ((0, z) : zV)) ((zupA (by decide)).trans ((zupA (by decide)).trans ((zupA (by decide)).trans ((zupA (by decide)).trans ((zupA (by decide)).trans ((zupA (by decide)).trans ((zupA (by decide)).trans ((zupA (by decide)).trans hy1))))))))) rfl rfl rfl (c_rnum hS hR8 (by omega))) ?_
              refine zt_i2l dX6_drawCurve_150 (by omega) ?_
              refine zt_lmul dX6_drawCurve_151 ?_
              have hD01 : -6858993141 ≤ cD3_01 p0 p1 p2 y0 y1 y2 ∧ cD3_01 p0 p1 p2 y0 y1 y2 ≤ 6858993141 := zmb2 (x := ((1 * (p1 - p0)) * (p2 - p0)) * (p2 - p1)) (y := y1) (A := 6859) (B := 999999) ⟨by omega, by omega⟩ hb1 (by decide)
              refine zt_topv (v := cD3_01 p0 p1 p2 y0 y1 y2) rfl ?_
              refine zt_lastore dX6_drawCurve_152 (zs_31 hS) (by decide) (by decide) (by decide) (by omega) ?_
              have hR9 : zRf (zup (zup (zup (zup (zup (zup (zup (zup (zup h 30 0 p0) 30 1 p1) 30 2 p2) 26 10 1) 26 10 (1 * (p1 - p0))) 26 10 ((1 * (p1 - p0)) * (p2 - p0))) 26 10 (((1 * (p1 - p0)) * (p2 - p0)) * (p2 - p1))) 31 0 (cD3_00 p0 p1 p2 y0 y1 y2)) 31 1 (cD3_01 p0 p1 p2 y0 y1 y2)) := (hR8.upA (by decide))
              refine zt_iincv_1 (v := 2) dX6_drawCurve_153 (by decide) rfl (by decide) ?_
              refine zt_goto (tgt := 123) dX6_drawCurve_156 (by decide) ?_
              refine zt_iload_n dX6_drawCurve_123 rfl ?_
              refine zt_aload_n dX6_drawCurve_124 rfl ?_
              refine zt_getv (v := 3) dX6_drawCurve_125 fl_X6_104 (zs_26 hS) (((zupA (by decide)).trans ((zupA (by decide)).trans ((zupJ (by decide)).trans ((zupJ (by decide)).trans ((zupJ (by decide)).trans ((zupJ (by decide)).trans ((zupA (by decide)).trans ((zupA (by decide)).trans ((zupA (by decide)).trans rfl))))))))).trans hK) ?_
              refine zt_icmp_ge (tgt := 159) dX6_drawCurve_128 (by decide) (by decide) (by decide) (fun q => absurd q (by decide)) (fun c_128 => ?_)
              refine zt_aload_n dX6_drawCurve_131 rfl ?_
              refine zt_getv dX6_drawCurve_132 fl_X6_24 (zs_26 hS) (rf_26_9 hR9) ?_
              refine zt_iload_n dX6_drawCurve_135 rfl ?_
              refine zt_aload_n dX6_drawCurve_136 rfl ?_
              refine zt_getv (v := ((1 * (p1 - p0)) * (p2 - p0)) * (p2 - p1)) dX6_drawCurve_137 fl_X6_107 (zs_26 hS) ((zupA (by decide)).trans ((zupA (by decide)).trans zupE)) ?_
              refine zt_aload_n dX6_drawCurve_140 rfl ?_
              refine zt_aload_n dX6_drawCurve_141 rfl ?_
              refine zt_getv dX6_drawCurve_142 fl_X6_21 (zs_26 hS) (rf_26_8 hR9) ?_
              refine zt_iload_n dX6_drawCurve_145 rfl ?_
              refine zt_ialoadv (v := p2) dX6_drawCurve_146 (zs_30 hS) (by decide) (by decide) (by decide) ((zupA (by decide)).trans ((zupA (by decide)).trans ((zupA (by decide)).trans ((zupA (by decide)).trans ((zupA (by decide)).trans ((zupA (by decide)).trans zupE)))))) ?_
              refine zt_callV1r dX6_drawCurve_147 ml_X6_111 (zs_26 hS) (Nat.le_of_ble_eq_true rfl) (zF.of_eq (show some (0, (zup (zup (zup (zup (zup (zup (zup (zup (zup h 30 0 p0) 30 1 p1) 30 2 p2) 26 10 1) 26 10 (1 * (p1 - p0))) 26 10 ((1 * (p1 - p0)) * (p2 - p0))) 26 10 (((1 * (p1 - p0)) * (p2 - p0)) * (p2 - p1))) 31 0 (cD3_00 p0 p1 p2 y0 y1 y2)) 31 1 (cD3_01 p0 p1 p2 y0 y1 y2)) 27 p2) = some (0, y2) from congrArg (fun z => some ((0, z) : zV)) ((zupA (by decide)).trans ((zupA (by decide)).trans ((zupA (by decide)).trans ((zupA (by decide)).trans ((zupA (by decide)).trans ((zupA (by decide)).trans ((zupA (by decide)).trans ((zupA (by decide)).trans ((zupA (by decide)).trans hy2)))))))))) rfl rfl rfl (c_rnum hS hR9 (by omega))) ?_
              refine zt_i2l dX6_drawCurve_150 (by omega) ?_
              refine zt_lmul dX6_drawCurve_151 ?_
              have hD02 : -6858993141 ≤ cD3_02 p0 p1 p2 y0 y1 y2 ∧ cD3_02 p0 p1 p2 y0 y1 y2 ≤ 6858993141 := zmb2 (x := ((1 * (p1 - p0)) * (p2 - p0)) * (p2 - p1)) (y := y2) (A := 6859) (B := 999999) ⟨by omega, by omega⟩ hb2 (by decide)
              refine zt_topv (v := cD3_02 p0 p1 p2 y0 y1 y2) rfl ?_
              refine zt_lastore dX6_drawCurve_152 (zs_31 hS) (by decide) (by decide) (by decide) (by omega) ?_
              have hR10 : zRf (zup (zup (zup (zup (zup (zup (zup (zup (zup (zup h 30 0 p0) 30 1 p1) 30 2 p2) 26 10 1) 26 10 (1 * (p1 - p0))) 26 10 ((1 * (p1 - p0)) * (p2 - p0))) 26 10 (((1 * (p1 - p0)) * (p2 - p0)) * (p2 - p1))) 31 0 (cD3_00 p0 p1 p2 y0 y1 y2)) 31 1 (cD3_01 p0 p1 p2 y0 y1 y2)) 31 2 (cD3_02 p0 p1 p2 y0 y1 y2)) := (hR9.upA (by decide))
              refine zt_iincv_1 (v := 3) dX6_drawCurve_153 (by decide) rfl (by decide) ?_
              refine zt_goto (tgt := 123) dX6_drawCurve_156 (by decide) ?_
              refine zt_iload_n dX6_drawCurve_123 rfl ?_
              refine zt_aload_n dX6_drawCurve_124 rfl ?_
              refine zt_getv (v := 3) dX6_drawCurve_125 fl_X6_104 (zs_26 hS) (((zupA (by decide)).trans ((zupA (by decide)).trans ((zupA (by decide)).trans ((zupJ (by decide)).trans ((zupJ (by decide)).trans ((zupJ (by decide)).trans ((zupJ (by decide)).trans ((zupA (by decide)).trans ((zupA (by decide)).trans ((zupA (by decide)).trans rfl)))))))))).trans hK) ?_
              refine zt_icmp_ge (tgt := 159) dX6_drawCurve_128 (by decide) (by decide) (by decide) (fun c_128 => ?_) (fun q => absurd q (by decide))
              refine zt_iconst dX6_drawCurve_159 ?_
              refine zt_istore_n_1 dX6_drawCurve_160 (by decide) rfl ?_
              refine zt_iload_n dX6_drawCurve_161 rfl ?_
              refine zt_aload_n dX6_drawCurve_162 rfl ?_
              refine zt_getv (v := 3) dX6_drawCurve_163 fl_X6_104 (zs_26 hS) (((zupA (by decide)).trans ((zupA (by decide)).trans ((zupA (by decide)).trans ((zupJ (by decide)).trans ((zupJ (by decide)).trans ((zupJ (by decide)).trans ((zupJ (by decide)).trans ((zupA (by decide)).trans ((zupA (by decide)).trans ((zupA (by decide)).trans rfl)))))))))).trans hK) ?_
              refine zt_icmp_ge (tgt := 241) dX6_drawCurve_166 (by decide) (by decide) (by decide) (fun q => absurd q (by decide)) (fun c_166 => ?_)
              refine zt_aload_n dX6_drawCurve_169 rfl ?_
              refine zt_getv (v := 3) dX6_drawCurve_170 fl_X6_104 (zs_26 hS) (((zupA (by decide)).trans ((zupA (by decide)).trans ((zupA (by decide)).trans ((zupJ (by decide)).trans ((zupJ (by decide)).trans ((zupJ (by decide)).trans ((zupJ (by decide)).trans ((zupA (by decide)).trans ((zupA (by decide)).trans ((zupA (by decide)).trans rfl)))))))))).trans hK) ?_
              refine zt_iconst dX6_drawCurve_173 ?_
              refine zt_isub dX6_drawCurve_174 ?_
              refine zt_topv (v := 2) (by decide) ?_
              refine zt_istore_n_2 dX6_drawCurve_175 (by decide) rfl ?_
              refine zt_iload_n dX6_drawCurve_176 rfl ?_
              refine zt_iload_n dX6_drawCurve_177 rfl ?_
              refine zt_icmp_lt (tgt := 235) dX6_drawCurve_178 (by decide) (by decide) (by decide) (fun q => absurd q (by decide)) (fun c_178 => ?_)
              refine zt_aload_n dX6_drawCurve_181 rfl ?_
              refine zt_getv dX6_drawCurve_182 fl_X6_21 (zs_26 hS) (rf_26_8 hR10) ?_
              refine zt_iload_n dX6_drawCurve_185 rfl ?_
              refine zt_ialoadv (v := p2) dX6_drawCurve_186 (zs_30 hS) (by decide) (by decide) (by decide) ((zupA (by decide)).trans ((zupA (by decide)).trans ((zupA (by decide)).trans ((zupA (by decide)).trans ((zupA (by decide)).trans ((zupA (by decide)).trans ((zupA (by decide)).trans zupE))))))) ?_
              refine zt_aload_n dX6_drawCurve_187 rfl ?_
              refine zt_getv dX6_drawCurve_188 fl_X6_21 (zs_26 hS) (rf_26_8 hR10) ?_
              refine zt_iload_n dX6_drawCurve_191 rfl ?_
              refine zt_iload_n dX6_drawCurve_192 rfl ?_
              refine zt_isub dX6_drawCurve_193 ?_
              refine zt_topv (v := 1) (by decide) ?_
              refine zt_ialoadv (v := p1) dX6_drawCurve_194 (zs_30 hS) (by decide) (by decide) (by decide) ((zupA (by decide)).trans ((zupA (by decide)).trans ((zupA (by decide)).trans ((zupA (by decide)).trans ((zupA (by decide)).trans ((zupA (by decide)).trans ((zupA (by decide)).trans ((zupJ (by decide)).trans zupE)))))))) ?_
              refine zt_isub dX6_drawCurve_195 ?_
              refine zt_istore_n_3 dX6_drawCurve_196 (by decide) rfl ?_
              refine zt_aload_n dX6_drawCurve_197 rfl ?_
              refine zt_getv dX6_drawCurve_198 fl_X6_24 (zs_26 hS) (rf_26_9 hR10) ?_
              refine zt_iload_n dX6_drawCurve_201 rfl ?_
              refine zt_iload_n dX6_drawCurve_202 rfl ?_
              refine zt_if_ne (tgt := 210) dX6_drawCurve_203 (by decide) (by omega) (fun c_203 => ?_) (fun c_203 => ?_)
              · refine zt_aload_n dX6_drawCurve_210 rfl ?_
                refine zt_getv dX6_drawCurve_211 fl_X6_24 (zs_26 hS) (rf_26_9 hR10) ?_
                refine zt_iload_n dX6_drawCurve_214 rfl ?_
                refine zt_laloadv (v := cD3_02 p0 p1 p2 y0 y1 y2) dX6_drawCurve_215 (zs_31 hS) (by decide) (by decide) (by decide) zupE ?_
                refine zt_aload_n dX6_drawCurve_216 rfl ?_
                refine zt_getv dX6_drawCurve_217 fl_X6_24 (zs_26 hS) (rf_26_9 hR10) ?_
                refine zt_iload_n dX6_drawCurve_220 rfl ?_
                refine zt_iconst dX6_drawCurve_221 ?_
                refine zt_isub dX6_drawCurve_222 ?_
                refine zt_topv (v := 1) (by decide) ?_
                refine zt_laloadv (v := cD3_01 p0 p1 p2 y0 y1 y2) dX6_drawCurve_223 (zs_31 hS) (by decide) (by decide) (by decide) ((zupJ (by decide)).trans zupE) ?_
                refine zt_lsub dX6_drawCurve_224 ?_
                refine zt_iload_n dX6_drawCurve_225 rfl ?_
                refine zt_i2l dX6_drawCurve_226 (by omega) ?_
                refine zt_ldiv dX6_drawCurve_227 (by omega) (by omega) (by omega) ?_
                have hD12 : -13717986282 ≤ cD3_12 p0 p1 p2 y0 y1 y2 ∧ cD3_12 p0 p1 p2 y0 y1 y2 ≤ 13717986282 := zexb nid3_12 (by omega) ⟨by omega, by omega⟩
                refine zt_topv (v := cD3_12 p0 p1 p2 y0 y1 y2) (zex nid3_12 (by omega)) ?_
                refine zt_lastore dX6_drawCurve_228 (zs_31 hS) (by decide) (by decide) (by decide) (by omega) ?_
                have hR11 : zRf (zup (zup (zup (zup (zup (zup (zup (zup (zup (zup (zup h 30 0 p0) 30 1 p1) 30 2 p2) 26 10 1) 26 10 (1 * (p1 - p0))) 26 10 ((1 * (p1 - p0)) * (p2 - p0))) 26 10 (((1 * (p1 - p0)) * (p2 - p0)) * (p2 - p1))) 31 0 (cD3_00 p0 p1 p2 y0 y1 y2)) 31 1 (cD3_01 p0 p1 p2 y0 y1 y2)) 31 2 (cD3_02 p0 p1 p2 y0 y1 y2)) 31 2 (cD3_12 p0 p1 p2 y0 y1 y2)) := (hR10.upA (by decide))
                refine zt_iincv_2 (v := 1) dX6_drawCurve_229 (by decide) rfl (by decide) ?_
                refine zt_goto (tgt := 176) dX6_drawCurve_232 (by decide) ?_
                refine zt_iload_n dX6_drawCurve_176 rfl ?_
                refine zt_iload_n dX6_drawCurve_177 rfl ?_
                refine zt_icmp_lt (tgt := 235) dX6_drawCurve_178 (by decide) (by decide) (by decide) (fun q => absurd q (by decide)) (fun c_178 => ?_)
                refine zt_aload_n dX6_drawCurve_181 rfl ?_
                refine zt_getv dX6_drawCurve_182 fl_X6_21 (zs_26 hS) (rf_26_8 hR11) ?_
                refine zt_iload_n dX6_drawCurve_185 rfl ?_
                refine zt_ialoadv (v := p1) dX6_drawCurve_186 (zs_30 hS) (by decide) (by decide) (by decide) ((zupA (by decide)).trans ((zupA (by decide)).trans ((zupA (by decide)).trans ((zupA (by decide)).trans ((zupA (by decide)).trans ((zupA (by decide)).trans ((zupA (by decide)).trans ((zupA (by decide)).trans ((zupJ (by decide)).trans zupE))))))))) ?_
                refine zt_aload_n dX6_drawCurve_187 rfl ?_
                refine zt_getv dX6_drawCurve_188 fl_X6_21 (zs_26 hS) (rf_26_8 hR11) ?_
                refine zt_iload_n dX6_drawCurve_191 rfl ?_
                refine zt_iload_n dX6_drawCurve_192 rfl ?_
                refine zt_isub dX6_drawCurve_193 ?_
                refine zt_topv (v := 0) (by decide) ?_
                refine zt_ialoadv (v := p0) dX6_drawCurve_194 (zs_30 hS) (by decide) (by decide) (by decide) ((zupA (by decide)).trans ((zupA (by decide)).trans ((zupA (by decide)).trans ((zupA (by decide)).trans ((zupA (by decide)).trans ((zupA (by decide)).trans ((zupA (by decide)).trans ((zupA (by decide)).trans ((zupJ (by decide)).trans ((zupJ (by decide)).trans zupE)))))))))) ?_
                refine zt_isub dX6_drawCurve_195 ?_
                refine zt_istore_n_3 dX6_drawCurve_196 (by decide) rfl ?_
                refine zt_aload_n dX6_drawCurve_197 rfl ?_
                refine zt_getv dX6_drawCurve_198 fl_X6_24 (zs_26 hS) (rf_26_9 hR11) ?_
                refine zt_iload_n dX6_drawCurve_201 rfl ?_
                refine zt_iload_n dX6_drawCurve_202 rfl ?_
                refine zt_if_ne (tgt := 210) dX6_drawCurve_203 (by decide) (by omega) (fun c_203 => ?_) (fun c_203 => ?_)
                · refine zt_aload_n dX6_drawCurve_210 rfl ?_
                  refine zt_getv dX6_drawCurve_211 fl_X6_24 (zs_26 hS) (rf_26_9 hR11) ?_
                  refine zt_iload_n dX6_drawCurve_214 rfl ?_
                  refine zt_laloadv (v := cD3_01 p0 p1 p2 y0 y1 y2) dX6_drawCurve_215 (zs_31 hS) (by decide) (by decide) (by decide) ((zupJ (by decide)).trans ((zupJ (by decide)).trans zupE)) ?_
                  refine zt_aload_n dX6_drawCurve_216 rfl ?_
                  refine zt_getv dX6_drawCurve_217 fl_X6_24 (zs_26 hS) (rf_26_9 hR11) ?_
                  refine zt_iload_n dX6_drawCurve_220 rfl ?_
                  refine zt_iconst dX6_drawCurve_221 ?_
                  refine zt_isub dX6_drawCurve_222 ?_
                  refine zt_topv (v := 0) (by decide) ?_
                  refine zt_laloadv (v := cD3_00 p0 p1 p2 y0 y1 y2) dX6_drawCurve_223 (zs_31 hS) (by decide) (by decide) (by decide) ((zupJ (by decide)).trans ((zupJ (by decide)).trans ((zupJ (by decide)).trans zupE))) ?_
                  refine zt_lsub dX6_drawCurve_224 ?_
                  refine zt_iload_n dX6_drawCurve_225 rfl ?_
                  refine zt_i2l dX6_drawCurve_226 (by omega) ?_
                  refine zt_ldiv dX6_drawCurve_227 (by omega) (by omega) (by omega) ?_
                  have hD11 : -13717986282 ≤ cD3_11 p0 p1 p2 y0 y1 y2 ∧ cD3_11 p0 p1 p2 y0 y1 y2 ≤ 13717986282 := zexb nid3_11 (by omega) ⟨by omega, by omega⟩
                  refine zt_topv (v := cD3_11 p0 p1 p2 y0 y1 y2) (zex nid3_11 (by omega)) ?_
                  refine zt_lastore dX6_drawCurve_228 (zs_31 hS) (by decide) (by decide) (by decide) (by omega) ?_
                  have hR12 : zRf (zup (zup (zup (zup (zup (zup (zup (zup (zup (zup (zup (zup h 30 0 p0) 30 1 p1) 30 2 p2) 26 10 1) 26 10 (1 * (p1 - p0))) 26 10 ((1 * (p1 - p0)) * (p2 - p0))) 26 10 (((1 * (p1 - p0)) * (p2 - p0)) * (p2 - p1))) 31 0 (cD3_00 p0 p1 p2 y0 y1 y2)) 31 1 (cD3_01 p0 p1 p2 y0 y1 y2)) 31 2 (cD3_02 p0 p1 p2 y0 y1 y2)) 31 2 (cD3_12 p0 p1 p2 y0 y1 y2)) 31 1 (cD3_11 p0 p1 p2 y0 y1 y2)) := (hR11.upA (by decide))
                  refine zt_iincv_2 (v := 0) dX6_drawCurve_229 (by decide) rfl (by decide) ?_
                  refine zt_goto (tgt := 176) dX6_drawCurve_232 (by decide) ?_
                  refine zt_iload_n dX6_drawCurve_176 rfl ?_
                  refine zt_iload_n dX6_drawCurve_177 rfl ?_
                  refine zt_icmp_lt (tgt := 235) dX6_drawCurve_178 (by decide) (by decide) (by decide) (fun c_178 => ?_) (fun q => absurd q (by decide))
                  refine zt_iincv_1 (v := 2) dX6_drawCurve_235 (by decide) rfl (by decide) ?_
                  refine zt_goto (tgt := 161) dX6_drawCurve_238 (by decide) ?_
                  refine zt_iload_n dX6_drawCurve_161 rfl ?_
                  refine zt_aload_n dX6_drawCurve_162 rfl ?_
                  refine zt_getv (v := 3) dX6_drawCurve_163 fl_X6_104 (zs_26 hS) (((zupA (by decide)).trans ((zupA (by decide)).trans ((zupA (by decide)).trans ((zupA (by decide)).trans ((zupA (by decide)).trans ((zupJ (by decide)).trans ((zupJ (by decide)).trans ((zupJ (by decide)).trans ((zupJ (by decide)).trans ((zupA (by decide)).trans ((zupA (by decide)).trans ((zupA (by decide)).trans rfl)))))))))))).trans hK) ?_
                  refine zt_icmp_ge (tgt := 241) dX6_drawCurve_166 (by decide) (by decide) (by decide) (fun q => absurd q (by decide)) (fun c_166 => ?_)
                  refine zt_aload_n dX6_drawCurve_169 rfl ?_
                  refine zt_getv (v := 3) dX6_drawCurve_170 fl_X6_104 (zs_26 hS) (((zupA (by decide)).trans ((zupA (by decide)).trans ((zupA (by decide)).trans ((zupA (by decide)).trans ((zupA (by decide)).trans ((zupJ (by decide)).trans ((zupJ (by decide)).trans ((zupJ (by decide)).trans ((zupJ (by decide)).trans ((zupA (by decide)).trans ((zupA (by decide)).trans ((zupA (by decide)).trans rfl)))))))))))).trans hK) ?_
                  refine zt_iconst dX6_drawCurve_173 ?_
                  refine zt_isub dX6_drawCurve_174 ?_
                  refine zt_topv (v := 2) (by decide) ?_
                  refine zt_istore_n_2 dX6_drawCurve_175 (by decide) rfl ?_
                  refine zt_iload_n dX6_drawCurve_176 rfl ?_
                  refine zt_iload_n dX6_drawCurve_177 rfl ?_
                  refine zt_icmp_lt (tgt := 235) dX6_drawCurve_178 (by decide) (by decide) (by decide) (fun q => absurd q (by decide)) (fun c_178 => ?_)
                  refine zt_aload_n dX6_drawCurve_181 rfl ?_
                  refine zt_getv dX6_drawCurve_182 fl_X6_21 (zs_26 hS) (rf_26_8 hR12) ?_
                  refine zt_iload_n dX6_drawCurve_185 rfl ?_
                  refine zt_ialoadv (v := p2) dX6_drawCurve_186 (zs_30 hS) (by decide) (by decide) (by decide) ((zupA (by decide)).trans ((zupA (by decide)).trans ((zupA (by decide)).trans ((zupA (by decide)).trans ((zupA (by decide)).trans ((zupA (by decide)).trans ((zupA (by decide)).trans ((zupA (by decide)).trans ((zupA (by decide)).trans zupE))))))))) ?_
                  refine zt_aload_n dX6_drawCurve_187 rfl ?_
                  refine zt_getv dX6_drawCurve_188 fl_X6_21 (zs_26 hS) (rf_26_8 hR12) ?_
                  refine zt_iload_n dX6_drawCurve_191 rfl ?_
                  refine zt_iload_n dX6_drawCurve_192 rfl ?_
                  refine zt_isub dX6_drawCurve_193 ?_
                  refine zt_topv (v := 0) (by decide) ?_
                  refine zt_ialoadv (v := p0) dX6_drawCurve_194 (zs_30 hS) (by decide) (by decide) (by decide) ((zupA (by decide)).trans ((zupA (by decide)).trans ((zupA (by decide)).trans ((zupA (by decide)).trans ((zupA (by decide)).trans ((zupA (by decide)).trans ((zupA (by decide)).trans ((zupA (by decide)).trans ((zupA (by decide)).trans ((zupJ (by decide)).trans ((zupJ (by decide)).trans zupE))))))))))) ?_
                  refine zt_isub dX6_drawCurve_195 ?_
                  refine zt_istore_n_3 dX6_drawCurve_196 (by decide) rfl ?_
                  refine zt_aload_n dX6_drawCurve_197 rfl ?_
                  refine zt_getv dX6_drawCurve_198 fl_X6_24 (zs_26 hS) (rf_26_9 hR12) ?_
                  refine zt_iload_n dX6_drawCurve_201 rfl ?_
                  refine zt_iload_n dX6_drawCurve_202 rfl ?_
                  refine zt_if_ne (tgt := 210) dX6_drawCurve_203 (by decide) (by omega) (fun c_203 => ?_) (fun c_203 => ?_)
                  · refine zt_aload_n dX6_drawCurve_210 rfl ?_
                    refine zt_getv dX6_drawCurve_211 fl_X6_24 (zs_26 hS) (rf_26_9 hR12) ?_
                    refine zt_iload_n dX6_drawCurve_214 rfl ?_
                    refine zt_laloadv (v := cD3_12 p0 p1 p2 y0 y1 y2) dX6_drawCurve_215 (zs_31 hS) (by decide) (by decide) (by decide) ((zupJ (by decide)).trans zupE) ?_
                    refine zt_aload_n dX6_drawCurve_216 rfl ?_
                    refine zt_getv dX6_drawCurve_217 fl_X6_24 (zs_26 hS) (rf_26_9 hR12) ?_
                    refine zt_iload_n dX6_drawCurve_220 rfl ?_
                    refine zt_iconst dX6_drawCurve_221 ?_
                    refine zt_isub dX6_drawCurve_222 ?_
                    refine zt_topv (v := 1) (by decide) ?_
                    refine zt_laloadv (v := cD3_11 p0 p1 p2 y0 y1 y2) dX6_drawCurve_223 (zs_31 hS) (by decide) (by decide) (by decide) zupE ?_
                    refine zt_lsub dX6_drawCurve_224 ?_
                    refine zt_iload_n dX6_drawCurve_225 rfl ?_
                    refine zt_i2l dX6_drawCurve_226 (by omega) ?_
                    refine zt_ldiv dX6_drawCurve_227 (by omega) (by omega) (by omega) ?_
                    have hD22 : -27435972564 ≤ cD3_22 p0 p1 p2 y0 y1 y2 ∧ cD3_22 p0 p1 p2 y0 y1 y2 ≤ 27435972564 := zexb nid3_22 (by omega) ⟨by omega, by omega⟩
                    refine zt_topv (v := cD3_22 p0 p1 p2 y0 y1 y2) (zex nid3_22 (by omega)) ?_
                    refine zt_lastore dX6_drawCurve_228 (zs_31 hS) (by decide) (by decide) (by decide) (by omega) ?_
                    have hR13 : zRf (zup (zup (zup (zup (zup (zup (zup (zup (zup (zup (zup (zup (zup h 30 0 p0) 30 1 p1) 30 2 p2) 26 10 1) 26 10 (1 * (p1 - p0))) 26 10 ((1 * (p1 - p0)) * (p2 - p0))) 26 10 (((1 * (p1 - p0)) * (p2 - p0)) * (p2 - p1))) 31 0 (cD3_00 p0 p1 p2 y0 y1 y2)) 31 1 (cD3_01 p0 p1 p2 y0 y1 y2)) 31 2 (cD3_02 p0 p1 p2 y0 y1 y2)) 31 2 (cD3_12 p0 p1 p2 y0 y1 y2)) 31 1 (cD3_11 p0 p1 p2 y0 y1 y2)) 31 2 (cD3_22 p0 p1 p2 y0 y1 y2)) := (hR12.upA (by decide))
                    refine zt_iincv_2 (v := 1) dX6_drawCurve_229 (by decide) rfl (by decide) ?_
                    refine zt_goto (tgt := 176) dX6_drawCurve_232 (by decide) ?_
                    refine zt_iload_n dX6_drawCurve_176 rfl ?_
                    refine zt_iload_n dX6_drawCurve_177 rfl ?_
                    refine zt_icmp_lt (tgt := 235) dX6_drawCurve_178 (by decide) (by decide) (by decide) (fun c_178 => ?_) (fun q => absurd q (by decide))
                    refine zt_iincv_1 (v := 3) dX6_drawCurve_235 (by decide) rfl (by decide) ?_
                    refine zt_goto (tgt := 161) dX6_drawCurve_238 (by decide) ?_
                    refine zt_iload_n dX6_drawCurve_161 rfl ?_
                    refine zt_aload_n dX6_drawCurve_162 rfl ?_
                    refine zt_getv (v := 3) dX6_drawCurve_163 fl_X6_104 (zs_26 hS) (((zupA (by decide)).trans ((zupA (by decide)).trans ((zupA (by decide)).trans ((zupA (by decide)).trans ((zupA (by decide)).trans ((zupA (by decide)).trans ((zupJ (by decide)).trans ((zupJ (by decide)).trans ((zupJ (by decide)).trans ((zupJ (by decide)).trans ((zupA (by decide)).trans ((zupA (by decide)).trans ((zupA (by decide)).trans rfl))))))))))))).trans hK) ?_
                    refine zt_icmp_ge (tgt := 241) dX6_drawCurve_166 (by decide) (by decide) (by decide) (fun c_166 => ?_) (fun q => absurd q (by decide))
                    exact zt_vret dX6_drawCurve_241 ⟨rfl, rfl, rfl, ⟨fun x q1 q2 q3 q4 => by (repeat rw [zup_ne (by assumption)]); (try rfl), fun y q1 q2 => by (repeat first | rw [zupA (by decide)] | rw [zupJ (by assumption)]); (try rfl), hR13⟩, by (repeat rw [zup_ne (by decide)]), by (repeat first | rw [zupE] | rw [zupA (by decide)] | rw [zupJ (by decide)]); exact hK, by (repeat first | rw [zupE] | rw [zupA (by decide)] | rw [zupJ (by decide)]); (try rfl), ⟨by (repeat first | rw [zupE] | rw [zupA (by decide)] | rw [zupJ (by decide)]), by (repeat first | rw [zupE] | rw [zupA (by decide)] | rw [zupJ (by decide)]); (try rfl)⟩, ⟨by (repeat first | rw [zupE] | rw [zupA (by decide)] | rw [zupJ (by decide)]), by (repeat first | rw [zupE] | rw [zupA (by decide)] | rw [zupJ (by decide)]); (try rfl)⟩, ⟨by (repeat first | rw [zupE] | rw [zupA (by decide)] | rw [zupJ (by decide)]), by (repeat first | rw [zupE] | rw [zupA (by decide)] | rw [zupJ (by decide)]); (try rfl)⟩⟩
                  · exfalso
                    omega
                · exfalso
                  omega
              · exfalso
                omega

set_option maxRecDepth 100000 in
set_option maxHeartbeats 4000000 in
theorem c_draw4 {d n : Nat} {sh : zSh} {h : zMem} {p0 p1 p2 p3 y0 y1 y2 y3 : Int} (hS : zShp sh) (hR : zRf h) (hK : h 26 7 = 4) (hp0 : h 28 (h 29 0) = p0) (hy0 : h 27 p0 = y0) (hb0 : -999999 ≤ y0 ∧ y0 ≤ 999999) (hc0 : 0 ≤ h 29 0 ∧ h 29 0 < h 26 5) (hp1 : h 28 (h 29 1) = p1) (hy1 : h 27 p1 = y1) (hb1 : -999999 ≤ y1 ∧ y1 ≤ 999999) (hc1 : 0 ≤ h 29 1 ∧ h 29 1 < h 26 5) (hp2 : h 28 (h 29 2) = p2) (hy2 : h 27 p2 = y2) (hb2 : -999999 ≤ y2 ∧ y2 ≤ 999999) (hc2 : 0 ≤ h 29 2 ∧ h 29 2 < h 26 5) (hp3 : h 28 (h 29 3) = p3) (hy3 : h 27 p3 = y3) (hb3 : -999999 ≤ y3 ∧ y3 ≤ 999999) (hc3 : 0 ≤ h 29 3 ∧ h 29 3 < h 26 5) (hod : 0 ≤ p0 ∧ p0 < p1 ∧ p1 < p2 ∧ p2 < p3 ∧ p3 < 20) (hp : h 26 5 ≤ 20) : zM yX6_drawCurve cX6_drawCurve 4 none (d + 1) 0 0 [(2, 26)] n sh h (fun r n1 sh1 h1 => r = none ∧ n1 = n ∧ sh1 = sh ∧ rO h h1 ∧ h1 29 = h 29 ∧ h1 26 7 = 4 ∧ h1 26 10 = cV4 p0 p1 p2 p3 ∧ (h1 30 0 = p0 ∧ h1 31 0 = cD4_00 p0 p1 p2 p3 y0 y1 y2 y3) ∧ (h1 30 1 = p1 ∧ h1 31 1 = cD4_11 p0 p1 p2 p3 y0 y1 y2 y3) ∧ (h1 30 2 = p2 ∧ h1 31 2 = cD4_22 p0 p1 p2 p3 y0 y1 y2 y3) ∧ (h1 30 3 = p3 ∧ h1 31 3 = cD4_33 p0 p1 p2 p3 y0 y1 y2 y3)) := by
  refine zM.ofT2 (by decide +kernel) [some (2, 26), none, none, none] rfl (Nat.le_of_ble_eq_true rfl) ?_
  have hv0 : (0 : Int) < 1 ∧ (1 : Int) ≤ 1 := by decide
  refine zt_iconst dX6_drawCurve_0 ?_
  refine zt_istore_n_1 dX6_drawCurve_1 (by decide) rfl ?_
  refine zt_iload_n dX6_drawCurve_2 rfl ?_
  refine zt_aload_n dX6_drawCurve_3 rfl ?_
  refine zt_getv (v := 4) dX6_drawCurve_4 fl_X6_104 (zs_26 hS) hK ?_
  refine zt_icmp_ge (tgt := 59) dX6_drawCurve_7 (by decide) (by decide) (by decide) (fun q => absurd q (by decide)) (fun c_7 => ?_)
  refine zt_aload_n dX6_drawCurve_10 rfl ?_
  refine zt_getv dX6_drawCurve_11 fl_X6_21 (zs_26 hS) (rf_26_8 hR) ?_
  refine zt_iload_n dX6_drawCurve_14 rfl ?_
  refine zt_aload_n dX6_drawCurve_15 rfl ?_
  refine zt_getv dX6_drawCurve_16 fl_X6_18 (zs_26 hS) (rf_26_6 hR) ?_
  refine zt_iload_n dX6_drawCurve_19 rfl ?_
  refine zt_ialoadv (v := h 29 0) dX6_drawCurve_20 (zs_29 hS) (by decide) (by decide) (by decide) rfl ?_
  refine zt_if_lt (tgt := 51) dX6_drawCurve_21 (by decide) (by omega) (fun c_21 => ?_) (fun c_21 => ?_)
  · exfalso
    omega
  · refine zt_aload_n dX6_drawCurve_24 rfl ?_
    refine zt_getv dX6_drawCurve_25 fl_X6_18 (zs_26 hS) (rf_26_6 hR) ?_
    refine zt_iload_n dX6_drawCurve_28 rfl ?_
    refine zt_ialoadv (v := h 29 0) dX6_drawCurve_29 (zs_29 hS) (by decide) (by decide) (by decide) rfl ?_
    refine zt_aload_n dX6_drawCurve_30 rfl ?_
    refine zt_get dX6_drawCurve_31 fl_X6_60 (zs_26 hS) ?_
    refine zt_icmp_ge (tgt := 51) dX6_drawCurve_34 (by decide) (by omega) (by omega) (fun c_34 => ?_) (fun c_34 => ?_)
    · exfalso
      omega
    · refine zt_aload_n dX6_drawCurve_37 rfl ?_
      refine zt_getv dX6_drawCurve_38 fl_X6_15 (zs_26 hS) (rf_26_4 hR) ?_
      refine zt_aload_n dX6_drawCurve_41 rfl ?_
      refine zt_getv dX6_drawCurve_42 fl_X6_18 (zs_26 hS) (rf_26_6 hR) ?_
      refine zt_iload_n dX6_drawCurve_45 rfl ?_
      refine zt_ialoadv (v := h 29 0) dX6_drawCurve_46 (zs_29 hS) (by decide) (by decide) (by decide) rfl ?_
      refine zt_ialoadv (v := p0) dX6_drawCurve_47 (zs_28 hS) (by decide) (by omega) (by omega) hp0 ?_
      refine zt_goto (tgt := 52) dX6_drawCurve_48 (by decide) ?_
      refine zt_iastore dX6_drawCurve_52 (zs_30 hS) (by decide) (by decide) (by decide) (by omega) ?_
      have hR1 : zRf (zup h 30 0 p0) := (hR.upA (by decide))
      refine zt_iincv_1 (v := 1) dX6_drawCurve_53 (by decide) rfl (by decide) ?_
      refine zt_goto (tgt := 2) dX6_drawCurve_56 (by decide) ?_
      refine zt_iload_n dX6_drawCurve_2 rfl ?_
      refine zt_aload_n dX6_drawCurve_3 rfl ?_
      refine zt_getv (v := 4) dX6_drawCurve_4 fl_X6_104 (zs_26 hS) (((zupA (by decide)).trans rfl).trans hK) ?_
      refine zt_icmp_ge (tgt := 59) dX6_drawCurve_7 (by decide) (by decide) (by decide) (fun q => absurd q (by decide)) (fun c_7 => ?_)
      refine zt_aload_n dX6_drawCurve_10 rfl ?_
      refine zt_getv dX6_drawCurve_11 fl_X6_21 (zs_26 hS) (rf_26_8 hR1) ?_
      refine zt_iload_n dX6_drawCurve_14 rfl ?_
      refine zt_aload_n dX6_drawCurve_15 rfl ?_
      refine zt_getv dX6_drawCurve_16 fl_X6_18 (zs_26 hS) (rf_26_6 hR1) ?_
      refine zt_iload_n dX6_drawCurve_19 rfl ?_
      refine zt_ialoadv (v := h 29 1) dX6_drawCurve_20 (zs_29 hS) (by decide) (by decide) (by decide) ((zupA (by decide)).trans rfl) ?_
      refine zt_if_lt (tgt := 51) dX6_drawCurve_21 (by decide) (by omega) (fun c_21 => ?_) (fun c_21 => ?_)
      · exfalso
        omega
      · refine zt_aload_n dX6_drawCurve_24 rfl ?_
        refine zt_getv dX6_drawCurve_25 fl_X6_18 (zs_26 hS) (rf_26_6 hR1) ?_
        refine zt_iload_n dX6_drawCurve_28 rfl ?_
        refine zt_ialoadv (v := h 29 1) dX6_drawCurve_29 (zs_29 hS) (by decide) (by decide) (by decide) ((zupA (by decide)).trans rfl) ?_
        refine zt_aload_n dX6_drawCurve_30 rfl ?_
        refine zt_getv (v := h 26 5) dX6_drawCurve_31 fl_X6_60 (zs_26 hS) ((zupA (by decide)).trans rfl) ?_
        refine zt_icmp_ge (tgt := 51) dX6_drawCurve_34 (by decide) (by omega) (by omega) (fun c_34 => ?_) (fun c_34 => ?_)
        · exfalso
          omega
        · refine zt_aload_n dX6_drawCurve_37 rfl ?_
          refine zt_getv dX6_drawCurve_38 fl_X6_15 (zs_26 hS) (rf_26_4 hR1) ?_
          refine zt_aload_n dX6_drawCurve_41 rfl ?_
          refine zt_getv dX6_drawCurve_42 fl_X6_18 (zs_26 hS) (rf_26_6 hR1) ?_
          refine zt_iload_n dX6_drawCurve_45 rfl ?_
          refine zt_ialoadv (v := h 29 1) dX6_drawCurve_46 (zs_29 hS) (by decide) (by decide) (by decide) ((zupA (by decide)).trans rfl) ?_
          refine zt_ialoadv (v := p1) dX6_drawCurve_47 (zs_28 hS) (by decide) (by omega) (by omega) ((zupA (by decide)).trans hp1) ?_
          refine zt_goto (tgt := 52) dX6_drawCurve_48 (by decide) ?_
          refine zt_iastore dX6_drawCurve_52 (zs_30 hS) (by decide) (by decide) (by decide) (by omega) ?_
          have hR2 : zRf (zup (zup h 30 0 p0) 30 1 p1) := (hR1.upA (by decide))
          refine zt_iincv_1 (v := 2) dX6_drawCurve_53 (by decide) rfl (by decide) ?_
          refine zt_goto (tgt := 2) dX6_drawCurve_56 (by decide) ?_
          refine zt_iload_n dX6_drawCurve_2 rfl ?_
          refine zt_aload_n dX6_drawCurve_3 rfl ?_
          refine zt_getv (v := 4) dX6_drawCurve_4 fl_X6_104 (zs_26 hS) (((zupA (by decide)).trans ((zupA (by decide)).trans rfl)).trans hK) ?_
          refine zt_icmp_ge (tgt := 59) dX6_drawCurve_7 (by decide) (by decide) (by decide) (fun q => absurd q (by decide)) (fun c_7 => ?_)
          refine zt_aload_n dX6_drawCurve_10 rfl ?_
          refine zt_getv dX6_drawCurve_11 fl_X6_21 (zs_26 hS) (rf_26_8 hR2) ?_
          refine zt_iload_n dX6_drawCurve_14 rfl ?_
          refine zt_aload_n dX6_drawCurve_15 rfl ?_
          refine zt_getv dX6_drawCurve_16 fl_X6_18 (zs_26 hS) (rf_26_6 hR2) ?_
          refine zt_iload_n dX6_drawCurve_19 rfl ?_
          refine zt_ialoadv (v := h 29 2) dX6_drawCurve_20 (zs_29 hS) (by decide) (by decide) (by decide) ((zupA (by decide)).trans ((zupA (by decide)).trans rfl)) ?_
          refine zt_if_lt (tgt := 51) dX6_drawCurve_21 (by decide) (by omega) (fun c_21 => ?_) (fun c_21 => ?_)
          · exfalso
            omega
          · refine zt_aload_n dX6_drawCurve_24 rfl ?_
            refine zt_getv dX6_drawCurve_25 fl_X6_18 (zs_26 hS) (rf_26_6 hR2) ?_
            refine zt_iload_n dX6_drawCurve_28 rfl ?_
            refine zt_ialoadv (v := h 29 2) dX6_drawCurve_29 (zs_29 hS) (by decide) (by decide) (by decide) ((zupA (by decide)).trans ((zupA (by decide)).trans rfl)) ?_
            refine zt_aload_n dX6_drawCurve_30 rfl ?_
            refine zt_getv (v := h 26 5) dX6_drawCurve_31 fl_X6_60 (zs_26 hS) ((zupA (by decide)).trans ((zupA (by decide)).trans rfl)) ?_
            refine zt_icmp_ge (tgt := 51) dX6_drawCurve_34 (by decide) (by omega) (by omega) (fun c_34 => ?_) (fun c_34 => ?_)
            · exfalso
              omega
            · refine zt_aload_n dX6_drawCurve_37 rfl ?_
              refine zt_getv dX6_drawCurve_38 fl_X6_15 (zs_26 hS) (rf_26_4 hR2) ?_
              refine zt_aload_n dX6_drawCurve_41 rfl ?_
              refine zt_getv dX6_drawCurve_42 fl_X6_18 (zs_26 hS) (rf_26_6 hR2) ?_
              refine zt_iload_n dX6_drawCurve_45 rfl ?_
              refine zt_ialoadv (v := h 29 2) dX6_drawCurve_46 (zs_29 hS) (by decide) (by decide) (by decide) ((zupA (by decide)).trans ((zupA (by decide)).trans rfl)) ?_
              refine zt_ialoadv (v := p2) dX6_drawCurve_47 (zs_28 hS) (by decide) (by omega) (by omega) ((zupA (by decide)).trans ((zupA (by decide)).trans hp2)) ?_
              refine zt_goto (tgt := 52) dX6_drawCurve_48 (by decide) ?_
              refine zt_iastore dX6_drawCurve_52 (zs_30 hS) (by decide) (by decide) (by decide) (by omega) ?_
              have hR3 : zRf (zup (zup (zup h 30 0 p0) 30 1 p1) 30 2 p2) := (hR2.upA (by decide))
              refine zt_iincv_1 (v := 3) dX6_drawCurve_53 (by decide) rfl (by decide) ?_
              refine zt_goto (tgt := 2) dX6_drawCurve_56 (by decide) ?_
              refine zt_iload_n dX6_drawCurve_2 rfl ?_
              refine zt_aload_n dX6_drawCurve_3 rfl ?_
              refine zt_getv (v := 4) dX6_drawCurve_4 fl_X6_104 (zs_26 hS) (((zupA (by decide)).trans ((zupA (by decide)).trans ((zupA (by decide)).trans rfl))).trans hK) ?_
              refine zt_icmp_ge (tgt := 59) dX6_drawCurve_7 (by decide) (by decide) (by decide) (fun q => absurd q (by decide)) (fun c_7 => ?_)
              refine zt_aload_n dX6_drawCurve_10 rfl ?_
              refine zt_getv dX6_drawCurve_11 fl_X6_21 (zs_26 hS) (rf_26_8 hR3) ?_
              refine zt_iload_n dX6_drawCurve_14 rfl ?_
              refine zt_aload_n dX6_drawCurve_15 rfl ?_
              refine zt_getv dX6_drawCurve_16 fl_X6_18 (zs_26 hS) (rf_26_6 hR3) ?_
              refine zt_iload_n dX6_drawCurve_19 rfl ?_
              refine zt_ialoadv (v := h 29 3) dX6_drawCurve_20 (zs_29 hS) (by decide) (by decide) (by decide) ((zupA (by decide)).trans ((zupA (by decide)).trans ((zupA (by decide)).trans rfl))) ?_
              refine zt_if_lt (tgt := 51) dX6_drawCurve_21 (by decide) (by omega) (fun c_21 => ?_) (fun c_21 => ?_)
              · exfalso
                omega
              · refine zt_aload_n dX6_drawCurve_24 rfl ?_
                refine zt_getv dX6_drawCurve_25 fl_X6_18 (zs_26 hS) (rf_26_6 hR3) ?_
                refine zt_iload_n dX6_drawCurve_28 rfl ?_
                refine zt_ialoadv (v := h 29 3) dX6_drawCurve_29 (zs_29 hS) (by decide) (by decide) (by decide) ((zupA (by decide)).trans ((zupA (by decide)).trans ((zupA (by decide)).trans rfl))) ?_
                refine zt_aload_n dX6_drawCurve_30 rfl ?_
                refine zt_getv (v := h 26 5) dX6_drawCurve_31 fl_X6_60 (zs_26 hS) ((zupA (by decide)).trans ((zupA (by decide)).trans ((zupA (by decide)).trans rfl))) ?_
                refine zt_icmp_ge (tgt := 51) dX6_drawCurve_34 (by decide) (by omega) (by omega) (fun c_34 => ?_) (fun c_34 => ?_)
                · exfalso
                  omega
                · refine zt_aload_n dX6_drawCurve_37 rfl ?_
                  refine zt_getv dX6_drawCurve_38 fl_X6_15 (zs_26 hS) (rf_26_4 hR3) ?_
                  refine zt_aload_n dX6_drawCurve_41 rfl ?_
                  refine zt_getv dX6_drawCurve_42 fl_X6_18 (zs_26 hS) (rf_26_6 hR3) ?_
                  refine zt_iload_n dX6_drawCurve_45 rfl ?_
                  refine zt_ialoadv (v := h 29 3) dX6_drawCurve_46 (zs_29 hS) (by decide) (by decide) (by decide) ((zupA (by decide)).trans ((zupA (by decide)).trans ((zupA (by decide)).trans rfl))) ?_
                  refine zt_ialoadv (v := p3) dX6_drawCurve_47 (zs_28 hS) (by decide) (by omega) (by omega) ((zupA (by decide)).trans ((zupA (by decide)).trans ((zupA (by decide)).trans hp3))) ?_
                  refine zt_goto (tgt := 52) dX6_drawCurve_48 (by decide) ?_
                  refine zt_iastore dX6_drawCurve_52 (zs_30 hS) (by decide) (by decide) (by decide) (by omega) ?_
                  have hR4 : zRf (zup (zup (zup (zup h 30 0 p0) 30 1 p1) 30 2 p2) 30 3 p3) := (hR3.upA (by decide))
                  refine zt_iincv_1 (v := 4) dX6_drawCurve_53 (by decide) rfl (by decide) ?_
                  refine zt_goto (tgt := 2) dX6_drawCurve_56 (by decide) ?_
                  refine zt_iload_n dX6_drawCurve_2 rfl ?_
                  refine zt_aload_n dX6_drawCurve_3 rfl ?_
                  refine zt_getv (v := 4) dX6_drawCurve_4 fl_X6_104 (zs_26 hS) (((zupA (by decide)).trans ((zupA (by decide)).trans ((zupA (by decide)).trans ((zupA (by decide)).trans rfl)))).trans hK) ?_
                  refine zt_icmp_ge (tgt := 59) dX6_drawCurve_7 (by decide) (by decide) (by decide) (fun c_7 => ?_) (fun q => absurd q (by decide))
                  refine zt_aload_n dX6_drawCurve_59 rfl ?_
                  refine zt_lconst (v := 1) dX6_drawCurve_60 rfl ?_
                  refine zt_putl dX6_drawCurve_61 fl_X6_107 rfl (zs_26 hS) (by decide) ?_
                  have hR5 : zRf (zup (zup (zup (zup (zup h 30 0 p0) 30 1 p1) 30 2 p2) 30 3 p3) 26 10 1) := (hR4.up (by decide))
                  refine zt_iconst dX6_drawCurve_64 ?_
                  refine zt_istore_n_1 dX6_drawCurve_65 (by decide) rfl ?_
                  refine zt_iload_n dX6_drawCurve_66 rfl ?_
                  refine zt_aload_n dX6_drawCurve_67 rfl ?_
                  refine zt_getv (v := 4) dX6_drawCurve_68 fl_X6_104 (zs_26 hS) (((zupJ (by decide)).trans ((zupA (by decide)).trans ((zupA (by decide)).trans ((zupA (by decide)).trans ((zupA (by decide)).trans rfl))))).trans hK) ?_
                  refine zt_icmp_ge (tgt := 121) dX6_drawCurve_71 (by decide) (by decide) (by decide) (fun q => absurd q (by decide)) (fun c_71 => ?_)
                  refine zt_iload_n dX6_drawCurve_74 rfl ?_
                  refine zt_iconst dX6_drawCurve_75 ?_
                  refine zt_iadd dX6_drawCurve_76 ?_
                  refine zt_topv (v := 1) (by decide) ?_
                  refine zt_istore_n_2 dX6_drawCurve_77 (by decide) rfl ?_
                  refine zt_iload_n dX6_drawCurve_78 rfl ?_
                  refine zt_aload_n dX6_drawCurve_79 rfl ?_
                  refine zt_getv (v := 4) dX6_drawCurve_80 fl_X6_104 (zs_26 hS) (((zupJ (by decide)).trans ((zupA (by decide)).trans ((zupA (by decide)).trans ((zupA (by decide)).trans ((zupA (by decide)).trans rfl))))).trans hK) ?_
                  refine zt_icmp_ge (tgt := 115) dX6_drawCurve_83 (by decide) (by decide) (by decide) (fun q => absurd q (by decide)) (fun c_83 => ?_)
                  refine zt_aload_n dX6_drawCurve_86 rfl ?_
                  refine zt_dup dX6_drawCurve_87 (Nat.ne_of_beq_eq_false rfl) ?_
                  refine zt_getv (v := 1) dX6_drawCurve_88 fl_X6_107 (zs_26 hS) zupE ?_
                  refine zt_aload_n dX6_drawCurve_91 rfl ?_
                  refine zt_getv dX6_drawCurve_92 fl_X6_21 (zs_26 hS) (rf_26_8 hR5) ?_
                  refine zt_iload_n dX6_drawCurve_95 rfl ?_
                  refine zt_ialoadv (v := p1) dX6_drawCurve_96 (zs_30 hS) (by decide) (by decide) (by decide) ((zupA (by decide)).trans ((zupJ (by decide)).trans ((zupJ (by decide)).trans zupE))) ?_
                  refine zt_aload_n dX6_drawCurve_97 rfl ?_
                  refine zt_getv dX6_drawCurve_98 fl_X6_21 (zs_26 hS) (rf_26_8 hR5) ?_
                  refine zt_iload_n dX6_drawCurve_101 rfl ?_
                  refine zt_ialoadv (v := p0) dX6_drawCurve_102 (zs_30 hS) (by decide) (by decide) (by decide) ((zupA (by decide)).trans ((zupJ (by decide)).trans ((zupJ (by decide)).trans ((zupJ (by decide)).trans zupE)))) ?_
                  refine zt_isub dX6_drawCurve_103 ?_
                  refine zt_i2l dX6_drawCurve_104 (by omega) ?_
                  refine zt_lmul dX6_drawCurve_105 ?_
                  have hv1 : 0 < 1 * (p1 - p0) ∧ 1 * (p1 - p0) ≤ 19 := zvb hv0 (by omega) (by decide)
                  refine zt_putl dX6_drawCurve_106 fl_X6_107 rfl (zs_26 hS) (by omega) ?_
                  have hR6 : zRf (zup (zup (zup (zup (zup (zup h 30 0 p0) 30 1 p1) 30 2 p2) 30 3 p3) 26 10 1) 26 10 (1 * (p1 - p0))) := (hR5.up (by decide))
                  refine zt_iincv_2 (v := 2) dX6_drawCurve_109 (by decide) rfl (by decide) ?_
                  refine zt_goto (tgt := 78) dX6_drawCurve_112 (by decide) ?_
                  refine zt_iload_n dX6_drawCurve_78 rfl ?_
                  refine zt_aload_n dX6_drawCurve_79 rfl ?_
                  refine zt_getv (v := 4) dX6_drawCurve_80 fl_X6_104 (zs_26 hS) (((zupJ (by decide)).trans ((zupJ (by decide)).trans ((zupA (by decide)).trans ((zupA (by decide)).trans ((zupA (by decide)).trans ((zupA (by decide)).trans rfl)))))).trans hK) ?_
                  refine zt_icmp_ge (tgt := 115) dX6_drawCurve_83 (by decide) (by decide) (by decide) (fun q => absurd q (by decide)) (fun c_83 => ?_)
                  refine zt_aload_n dX6_drawCurve_86 rfl ?_
                  refine zt_dup dX6_drawCurve_87 (Nat.ne_of_beq_eq_false rfl) ?_
                  refine zt_getv (v := 1 * (p1 - p0)) dX6_drawCurve_88 fl_X6_107 (zs_26 hS) zupE ?_
                  refine zt_aload_n dX6_drawCurve_91 rfl ?_
                  refine zt_getv dX6_drawCurve_92 fl_X6_21 (zs_26 hS) (rf_26_8 hR6) ?_
                  refine zt_iload_n dX6_drawCurve_95 rfl ?_
                  refine zt_ialoadv (v := p2) dX6_drawCurve_96 (zs_30 hS) (by decide) (by decide) (by decide) ((zupA (by decide)).trans ((zupA (by decide)).trans ((zupJ (by decide)).trans zupE))) ?_
                  refine zt_aload_n dX6_drawCurve_97 rfl ?_
                  refine zt_getv dX6_drawCurve_98 fl_X6_21 (zs_26 hS) (rf_26_8 hR6) ?_
                  refine zt_iload_n dX6_drawCurve_101 rfl ?_
                  refine zt_ialoadv (v := p0) dX6_drawCurve_102 (zs_30 hS) (by decide) (by decide) (by decide) ((zupA (by decide)).trans ((zupA (by decide)).trans ((zupJ (by decide)).trans ((zupJ (by decide)).trans ((zupJ (by decide)).trans zupE))))) ?_
                  refine zt_isub dX6_drawCurve_103 ?_
                  refine zt_i2l dX6_drawCurve_104 (by omega) ?_
                  refine zt_lmul dX6_drawCurve_105 ?_
                  have hv2 : 0 < (1 * (p1 - p0)) * (p2 - p0) ∧ (1 * (p1 - p0)) * (p2 - p0) ≤ 361 := zvb hv1 (by omega) (by decide)
                  refine zt_putl dX6_drawCurve_106 fl_X6_107 rfl (zs_26 hS) (by omega) ?_
                  have hR7 : zRf (zup (zup (zup (zup (zup (zup (zup h 30 0 p0) 30 1 p1) 30 2 p2) 30 3 p3) 26 10 1) 26 10 (1 * (p1 - p0))) 26 10 ((1 * (p1 - p0)) * (p2 - p0))) := (hR6.up (by decide))
                  refine zt_iincv_2 (v := 3) dX6_drawCurve_109 (by decide) rfl (by decide) ?_
                  refine zt_goto (tgt := 78) dX6_drawCurve_112 (by decide) ?_
                  refine zt_iload_n dX6_drawCurve_78 rfl ?_
                  refine zt_aload_n dX6_drawCurve_79 rfl ?_
                  refine zt_getv (v := 4) dX6_drawCurve_80 fl_X6_104 (zs_26 hS) (((zupJ (by decide)).trans ((zupJ (by decide)).trans ((zupJ (by decide)).trans ((zupA (by decide)).trans ((zupA (by decide)).trans ((zupA (by decide)).trans ((zupA (by decide)).trans rfl))))))).trans hK) ?_
                  refine zt_icmp_ge (tgt := 115) dX6_drawCurve_83 (by decide) (by decide) (by decide) (fun q => absurd q (by decide)) (fun c_83 => ?_)
                  refine zt_aload_n dX6_drawCurve_86 rfl ?_
                  refine zt_dup dX6_drawCurve_87 (Nat.ne_of_beq_eq_false rfl) ?_
                  refine zt_getv (v := (1 * (p1 - p0)) * (p2 - p0)) dX6_drawCurve_88 fl_X6_107 (zs_26 hS) zupE ?_
                  refine zt_aload_n dX6_drawCurve_91 rfl ?_
                  refine zt_getv dX6_drawCurve_92 fl_X6_21 (zs_26 hS) (rf_26_8 hR7) ?_
                  refine zt_iload_n dX6_drawCurve_95 rfl ?_
                  refine zt_ialoadv (v := p3) dX6_drawCurve_96 (zs_30 hS) (by decide) (by decide) (by decide) ((zupA (by decide)).trans ((zupA (by decide)).trans ((zupA (by decide)).trans zupE))) ?_
                  refine zt_aload_n dX6_drawCurve_97 rfl ?_
                  refine zt_getv dX6_drawCurve_98 fl_X6_21 (zs_26 hS) (rf_26_8 hR7) ?_
                  refine zt_iload_n dX6_drawCurve_101 rfl ?_
                  refine zt_ialoadv (v := p0) dX6_drawCurve_102 (zs_30 hS) (by decide) (by decide) (by decide) ((zupA (by decide)).trans ((zupA (by decide)).trans ((zupA (by decide)).trans ((zupJ (by decide)).trans ((zupJ (by decide)).trans ((zupJ (by decide)).trans zupE)))))) ?_
                  refine zt_isub dX6_drawCurve_103 ?_
                  refine zt_i2l dX6_drawCurve_104 (by omega) ?_
                  refine zt_lmul dX6_drawCurve_105 ?_
                  have hv3 : 0 < ((1 * (p1 - p0)) * (p2 - p0)) * (p3 - p0) ∧ ((1 * (p1 - p0)) * (p2 - p0)) * (p3 - p0) ≤ 6859 := zvb hv2 (by omega) (by decide)
                  refine zt_putl dX6_drawCurve_106 fl_X6_107 rfl (zs_26 hS) (by omega) ?_
                  have hR8 : zRf (zup (zup (zup (zup (zup (zup (zup (zup h 30 0 p0) 30 1 p1) 30 2 p2) 30 3 p3) 26 10 1) 26 10 (1 * (p1 - p0))) 26 10 ((1 * (p1 - p0)) * (p2 - p0))) 26 10 (((1 * (p1 - p0)) * (p2 - p0)) * (p3 - p0))) := (hR7.up (by decide))
                  refine zt_iincv_2 (v := 4) dX6_drawCurve_109 (by decide) rfl (by decide) ?_
                  refine zt_goto (tgt := 78) dX6_drawCurve_112 (by decide) ?_
                  refine zt_iload_n dX6_drawCurve_78 rfl ?_
                  refine zt_aload_n dX6_drawCurve_79 rfl ?_
                  refine zt_getv (v := 4) dX6_drawCurve_80 fl_X6_104 (zs_26 hS) (((zupJ (by decide)).trans ((zupJ (by decide)).trans ((zupJ (by decide)).trans ((zupJ (by decide)).trans ((zupA (by decide)).trans ((zupA (by decide)).trans ((zupA (by decide)).trans ((zupA (by decide)).trans rfl)))))))).trans hK) ?_
                  refine zt_icmp_ge (tgt := 115) dX6_drawCurve_83 (by decide) (by decide) (by decide) (fun c_83 => ?_) (fun q => absurd q (by decide))
                  refine zt_iincv_1 (v := 1) dX6_drawCurve_115 (by decide) rfl (by decide) ?_
                  refine zt_goto (tgt := 66) dX6_drawCurve_118 (by decide) ?_
                  refine zt_iload_n dX6_drawCurve_66 rfl ?_
                  refine zt_aload_n dX6_drawCurve_67 rfl ?_
                  refine zt_getv (v := 4) dX6_drawCurve_68 fl_X6_104 (zs_26 hS) (((zupJ (by decide)).trans ((zupJ (by decide)).trans ((zupJ (by decide)).trans ((zupJ (by decide)).trans ((zupA (by decide)).trans ((zupA (by decide)).trans ((zupA (by decide)).trans ((zupA (by decide)).trans rfl)))))))).trans hK) ?_
                  refine zt_icmp_ge (tgt := 121) dX6_drawCurve_71 (by decide) (by decide) (by decide) (fun q => absurd q (by decide)) (fun c_71 => ?_)
                  refine zt_iload_n dX6_drawCurve_74 rfl ?_
                  refine zt_iconst dX6_drawCurve_75 ?_
                  refine zt_iadd dX6_drawCurve_76 ?_
                  refine zt_topv (v := 2) (by decide) ?_
                  refine zt_istore_n_2 dX6_drawCurve_77 (by decide) rfl ?_
                  refine zt_iload_n dX6_drawCurve_78 rfl ?_
                  refine zt_aload_n dX6_drawCurve_79 rfl ?_
                  refine zt_getv (v := 4) dX6_drawCurve_80 fl_X6_104 (zs_26 hS) (((zupJ (by decide)).trans ((zupJ (by decide)).trans ((zupJ (by decide)).trans ((zupJ (by decide)).trans ((zupA (by decide)).trans ((zupA (by decide)).trans ((zupA (by decide)).trans ((zupA (by decide)).trans rfl)))))))).trans hK) ?_
                  refine zt_icmp_ge (tgt := 115) dX6_drawCurve_83 (by decide) (by decide) (by decide) (fun q => absurd q (by decide)) (fun c_83 => ?_)
                  refine zt_aload_n dX6_drawCurve_86 rfl ?_
                  refine zt_dup dX6_drawCurve_87 (Nat.ne_of_beq_eq_false rfl) ?_
                  refine zt_getv (v := ((1 * (p1 - p0)) * (p2 - p0)) * (p3 - p0)) dX6_drawCurve_88 fl_X6_107 (zs_26 hS) zupE ?_
                  refine zt_aload_n dX6_drawCurve_91 rfl ?_
                  refine zt_getv dX6_drawCurve_92 fl_X6_21 (zs_26 hS) (rf_26_8 hR8) ?_
                  refine zt_iload_n dX6_drawCurve_95 rfl ?_
                  refine zt_ialoadv (v := p2) dX6_drawCurve_96 (zs_30 hS) (by decide) (by decide) (by decide) ((zupA (by decide)).trans ((zupA (by decide)).trans ((zupA (by decide)).trans ((zupA (by decide)).trans ((zupJ (by decide)).trans zupE))))) ?_
                  refine zt_aload_n dX6_drawCurve_97 rfl ?_
                  refine zt_getv dX6_drawCurve_98 fl_X6_21 (zs_26 hS) (rf_26_8 hR8) ?_
                  refine zt_iload_n dX6_drawCurve_101 rfl ?_
                  refine zt_ialoadv (v := p1) dX6_drawCurve_102 (zs_30 hS) (by decide) (by decide) (by decide) ((zupA (by decide)).trans ((zupA (by decide)).trans ((zupA (by decide)).trans ((zupA (by decide)).trans ((zupJ (by decide)).trans ((zupJ (by decide)).trans zupE)))))) ?_
                  refine zt_isub dX6_drawCurve_103 ?_
                  refine zt_i2l dX6_drawCurve_104 (by omega) ?_
                  refine zt_lmul dX6_drawCurve_105 ?_
                  have hv4 : 0 < (((1 * (p1 - p0)) * (p2 - p0)) * (p3 - p0)) * (p2 - p1) ∧ (((1 * (p1 - p0)) * (p2 - p0)) * (p3 - p0)) * (p2 - p1) ≤ 130321 := zvb hv3 (by omega) (by decide)
                  refine zt_putl dX6_drawCurve_106 fl_X6_107 rfl (zs_26 hS) (by omega) ?_
                  have hR9 : zRf (zup (zup (zup (zup (zup (zup (zup (zup (zup h 30 0 p0) 30 1 p1) 30 2 p2) 30 3 p3) 26 10 1) 26 10 (1 * (p1 - p0))) 26 10 ((1 * (p1 - p0)) * (p2 - p0))) 26 10 (((1 * (p1 - p0)) * (p2 - p0)) * (p3 - p0))) 26 10 ((((1 * (p1 - p0)) * (p2 - p0)) * (p3 - p0)) * (p2 - p1))) := (hR8.up (by decide))
                  refine zt_iincv_2 (v := 3) dX6_drawCurve_109 (by decide) rfl (by decide) ?_
                  refine zt_goto (tgt := 78) dX6_drawCurve_112 (by decide) ?_
                  refine zt_iload_n dX6_drawCurve_78 rfl ?_
                  refine zt_aload_n dX6_drawCurve_79 rfl ?_
                  refine zt_getv (v := 4) dX6_drawCurve_80 fl_X6_104 (zs_26 hS) (((zupJ (by decide)).trans ((zupJ (by decide)).trans ((zupJ (by decide)).trans ((zupJ (by decide)).trans ((zupJ (by decide)).trans ((zupA (by decide)).trans ((zupA (by decide)).trans ((zupA (by decide)).trans ((zupA (by decide)).trans rfl))))))))).trans hK) ?_
                  refine zt_icmp_ge (tgt := 115) dX6_drawCurve_83 (by decide) (by decide) (by decide) (fun q => absurd q (by decide)) (fun c_83 => ?_)
                  refine zt_aload_n dX6_drawCurve_86 rfl ?_
                  refine zt_dup dX6_drawCurve_87 (Nat.ne_of_beq_eq_false rfl) ?_
                  refine zt_getv (v := (((1 * (p1 - p0)) * (p2 - p0)) * (p3 - p0)) * (p2 - p1)) dX6_drawCurve_88 fl_X6_107 (zs_26 hS) zupE ?_
                  refine zt_aload_n dX6_drawCurve_91 rfl ?_
                  refine zt_getv dX6_drawCurve_92 fl_X6_21 (zs_26 hS) (rf_26_8 hR9) ?_
                  refine zt_iload_n dX6_drawCurve_95 rfl ?_
                  refine zt_ialoadv (v := p3) dX6_drawCurve_96 (zs_30 hS) (by decide) (by decide) (by decide) ((zupA (by decide)).trans ((zupA (by decide)).trans ((zupA (by decide)).trans ((zupA (by decide)).trans ((zupA (by decide)).trans zupE))))) ?_
                  refine zt_aload_n dX6_drawCurve_97 rfl ?_
                  refine zt_getv dX6_drawCurve_98 fl_X6_21 (zs_26 hS) (rf_26_8 hR9) ?_
                  refine zt_iload_n dX6_drawCurve_101 rfl ?_
                  refine zt_ialoadv (v := p1) dX6_drawCurve_102 (zs_30 hS) (by decide) (by decide) (by decide) ((zupA (by decide)).trans ((zupA (by decide)).trans ((zupA (by decide)).trans ((zupA (by decide)).trans ((zupA (by decide)).trans ((zupJ (by decide)).trans ((zupJ (by decide)).trans zupE))))))) ?_
                  refine zt_isub dX6_drawCurve_103 ?_
                  refine zt_i2l dX6_drawCurve_104 (by omega) ?_
                  refine zt_lmul dX6_drawCurve_105 ?_
                  have hv5 : 0 < ((((1 * (p1 - p0)) * (p2 - p0)) * (p3 - p0)) * (p2 - p1)) * (p3 - p1) ∧ ((((1 * (p1 - p0)) * (p2 - p0)) * (p3 - p0)) * (p2 - p1)) * (p3 - p1) ≤ 2476099 := zvb hv4 (by omega) (by decide)
                  refine zt_putl dX6_drawCurve_106 fl_X6_107 rfl (zs_26 hS) (by omega) ?_
                  have hR10 : zRf (zup (zup (zup (zup (zup (zup (zup (zup (zup (zup h 30 0 p0) 30 1 p1) 30 2 p2) 30 3 p3) 26 10 1) 26 10 (1 * (p1 - p0))) 26 10 ((1 * (p1 - p0)) * (p2 - p0))) 26 10 (((1 * (p1 - p0)) * (p2 - p0)) * (p3 - p0))) 26 10 ((((1 * (p1 - p0)) * (p2 - p0)) * (p3 - p0)) * (p2 - p1))) 26 10 (((((1 * (p1 - p0)) * (p2 - p0)) * (p3 - p0)) * (p2 - p1)) * (p3 - p1))) := (hR9.up (by decide))
                  refine zt_iincv_2 (v := 4) dX6_drawCurve_109 (by decide) rfl (by decide) ?_
                  refine zt_goto (tgt := 78) dX6_drawCurve_112 (by decide) ?_
                  refine zt_iload_n dX6_drawCurve_78 rfl ?_
                  refine zt_aload_n dX6_drawCurve_79 rfl ?_
                  refine zt_getv (v := 4) dX6_drawCurve_80 fl_X6_104 (zs_26 hS) (((zupJ (by decide)).trans ((zupJ (by decide)).trans ((zupJ (by decide)).trans ((zupJ (by decide)).trans ((zupJ (by decide)).trans ((zupJ (by decide)).trans ((zupA (by decide)).trans ((zupA (by decide)).trans ((zupA (by decide)).trans ((zupA (by decide)).trans rfl)))))))))).trans hK) ?_
                  refine zt_icmp_ge (tgt := 115) dX6_drawCurve_83 (by decide) (by decide) (by decide) (fun c_83 => ?_) (fun q => absurd q (by decide))
                  refine zt_iincv_1 (v := 2) dX6_drawCurve_115 (by decide) rfl (by decide) ?_
                  refine zt_goto (tgt := 66) dX6_drawCurve_118 (by decide) ?_
                  refine zt_iload_n dX6_drawCurve_66 rfl ?_
                  refine zt_aload_n dX6_drawCurve_67 rfl ?_
                  refine zt_getv (v := 4) dX6_drawCurve_68 fl_X6_104 (zs_26 hS) (((zupJ (by decide)).trans ((zupJ (by decide)).trans ((zupJ (by decide)).trans ((zupJ (by decide)).trans ((zupJ (by decide)).trans ((zupJ (by decide)).trans ((zupA (by decide)).trans ((zupA (by decide)).trans ((zupA (by decide)).trans ((zupA (by decide)).trans rfl)))))))))).trans hK) ?_
                  refine zt_icmp_ge (tgt := 121) dX6_drawCurve_71 (by decide) (by decide) (by decide) (fun q => absurd q (by decide)) (fun c_71 => ?_)
                  refine zt_iload_n dX6_drawCurve_74 rfl ?_
                  refine zt_iconst dX6_drawCurve_75 ?_
                  refine zt_iadd dX6_drawCurve_76 ?_
                  refine zt_topv (v := 3) (by decide) ?_
                  refine zt_istore_n_2 dX6_drawCurve_77 (by decide) rfl ?_
                  refine zt_iload_n dX6_drawCurve_78 rfl ?_
                  refine zt_aload_n dX6_drawCurve_79 rfl ?_
                  refine zt_getv (v := 4) dX6_drawCurve_80 fl_X6_104 (zs_26 hS) (((zupJ (by decide)).trans ((zupJ (by decide)).trans ((zupJ (by decide)).trans ((zupJ (by decide)).trans ((zupJ (by decide)).trans ((zupJ (by decide)).trans ((zupA (by decide)).trans ((zupA (by decide)).trans ((zupA (by decide)).trans ((zupA (by decide)).trans rfl)))))))))).trans hK) ?_
                  refine zt_icmp_ge (tgt := 115) dX6_drawCurve_83 (by decide) (by decide) (by decide) (fun q => absurd q (by decide)) (fun c_83 => ?_)
                  refine zt_aload_n dX6_drawCurve_86 rfl ?_
                  refine zt_dup dX6_drawCurve_87 (Nat.ne_of_beq_eq_false rfl) ?_
                  refine zt_getv (v := ((((1 * (p1 - p0)) * (p2 - p0)) * (p3 - p0)) * (p2 - p1)) * (p3 - p1)) dX6_drawCurve_88 fl_X6_107 (zs_26 hS) zupE ?_
                  refine zt_aload_n dX6_drawCurve_91 rfl ?_
                  refine zt_getv dX6_drawCurve_92 fl_X6_21 (zs_26 hS) (rf_26_8 hR10) ?_
                  refine zt_iload_n dX6_drawCurve_95 rfl ?_
                  refine zt_ialoadv (v := p3) dX6_drawCurve_96 (zs_30 hS) (by decide) (by decide) (by decide) ((zupA (by decide)).trans ((zupA (by decide)).trans ((zupA (by decide)).trans ((zupA (by decide)).trans ((zupA (by decide)).trans ((zupA (by decide)).trans zupE)))))) ?_
                  refine zt_aload_n dX6_drawCurve_97 rfl ?_
                  refine zt_getv dX6_drawCurve_98 fl_X6_21 (zs_26 hS) (rf_26_8 hR10) ?_
                  refine zt_iload_n dX6_drawCurve_101 rfl ?_
                  refine zt_ialoadv (v := p2) dX6_drawCurve_102 (zs_30 hS) (by decide) (by decide) (by decide) ((zupA (by decide)).trans ((zupA (by decide)).trans ((zupA (by decide)).trans ((zupA (by decide)).trans ((zupA (by decide)).trans ((zupA (by decide)).trans ((zupJ (by decide)).trans zupE))))))) ?_
                  refine zt_isub dX6_drawCurve_103 ?_
                  refine zt_i2l dX6_drawCurve_104 (by omega) ?_
                  refine zt_lmul dX6_drawCurve_105 ?_
                  have hv6 : 0 < (((((1 * (p1 - p0)) * (p2 - p0)) * (p3 - p0)) * (p2 - p1)) * (p3 - p1)) * (p3 - p2) ∧ (((((1 * (p1 - p0)) * (p2 - p0)) * (p3 - p0)) * (p2 - p1)) * (p3 - p1)) * (p3 - p2) ≤ 47045881 := zvb hv5 (by omega) (by decide)
                  refine zt_putl dX6_drawCurve_106 fl_X6_107 rfl (zs_26 hS) (by omega) ?_
                  have hR11 : zRf (zup (zup (zup (zup (zup (zup (zup (zup (zup (zup (zup h 30 0 p0) 30 1 p1) 30 2 p2) 30 3 p3) 26 10 1) 26 10 (1 * (p1 - p0))) 26 10 ((1 * (p1 - p0)) * (p2 - p0))) 26 10 (((1 * (p1 - p0)) * (p2 - p0)) * (p3 - p0))) 26 10 ((((1 * (p1 - p0)) * (p2 - p0)) * (p3 - p0)) * (p2 - p1))) 26 10 (((((1 * (p1 - p0)) * (p2 - p0)) * (p3 - p0)) * (p2 - p1)) * (p3 - p1))) 26 10 ((((((1 * (p1 - p0)) * (p2 - p0)) * (p3 - p0)) * (p2 - p1)) * (p3 - p1)) * (p3 - p2))) := (hR10.up (by decide))
                  refine zt_iincv_2 (v := 4) dX6_drawCurve_109 (by decide) rfl (by decide) ?_
                  refine zt_goto (tgt := 78) dX6_drawCurve_112 (by decide) ?_
                  refine zt_iload_n dX6_drawCurve_78 rfl ?_
                  refine zt_aload_n dX6_drawCurve_79 rfl ?_
                  refine zt_getv (v := 4) dX6_drawCurve_80 fl_X6_104 (zs_26 hS) (((zupJ (by decide)).trans ((zupJ (by decide)).trans ((zupJ (by decide)).trans ((zupJ (by decide)).trans ((zupJ (by decide)).trans ((zupJ (by decide)).trans ((zupJ (by decide)).trans ((zupA (by decide)).trans ((zupA (by decide)).trans ((zupA (by decide)).trans ((zupA (by decide)).trans rfl))))))))))).trans hK) ?_
                  refine zt_icmp_ge (tgt := 115) dX6_drawCurve_83 (by decide) (by decide) (by decide) (fun c_83 => ?_) (fun q => absurd q (by decide))
                  refine zt_iincv_1 (v := 3) dX6_drawCurve_115 (by decide) rfl (by decide) ?_
                  refine zt_goto (tgt := 66) dX6_drawCurve_118 (by decide) ?_
                  refine zt_iload_n dX6_drawCurve_66 rfl ?_
                  refine zt_aload_n dX6_drawCurve_67 rfl ?_
                  refine zt_getv (v := 4) dX6_drawCurve_68 fl_X6_104 (zs_26 hS) (((zupJ (by decide)).trans ((zupJ (by decide)).trans ((zupJ (by decide)).trans ((zupJ (by decide)).trans ((zupJ (by decide)).trans ((zupJ (by decide)).trans ((zupJ (by decide)).trans ((zupA (by decide)).trans ((zupA (by decide)).trans ((zupA (by decide)).trans ((zupA (by decide)).trans rfl))))))))))).trans hK) ?_
                  refine zt_icmp_ge (tgt := 121) dX6_drawCurve_71 (by decide) (by decide) (by decide) (fun q => absurd q (by decide)) (fun c_71 => ?_)
                  refine zt_iload_n dX6_drawCurve_74 rfl ?_
                  refine zt_iconst dX6_drawCurve_75 ?_
                  refine zt_iadd dX6_drawCurve_76 ?_
                  refine zt_topv (v := 4) (by decide) ?_
                  refine zt_istore_n_2 dX6_drawCurve_77 (by decide) rfl ?_
                  refine zt_iload_n dX6_drawCurve_78 rfl ?_
                  refine zt_aload_n dX6_drawCurve_79 rfl ?_
                  refine zt_getv (v := 4) dX6_drawCurve_80 fl_X6_104 (zs_26 hS) (((zupJ (by decide)).trans ((zupJ (by decide)).trans ((zupJ (by decide)).trans ((zupJ (by decide)).trans ((zupJ (by decide)).trans ((zupJ (by decide)).trans ((zupJ (by decide)).trans ((zupA (by decide)).trans ((zupA (by decide)).trans ((zupA (by decide)).trans ((zupA (by decide)).trans rfl))))))))))).trans hK) ?_
                  refine zt_icmp_ge (tgt := 115) dX6_drawCurve_83 (by decide) (by decide) (by decide) (fun c_83 => ?_) (fun q => absurd q (by decide))
                  refine zt_iincv_1 (v := 4) dX6_drawCurve_115 (by decide) rfl (by decide) ?_
                  refine zt_goto (tgt := 66) dX6_drawCurve_118 (by decide) ?_
                  refine zt_iload_n dX6_drawCurve_66 rfl ?_
                  refine zt_aload_n dX6_drawCurve_67 rfl ?_
                  refine zt_getv (v := 4) dX6_drawCurve_68 fl_X6_104 (zs_26 hS) (((zupJ (by decide)).trans ((zupJ (by decide)).trans ((zupJ (by decide)).trans ((zupJ (by decide)).trans ((zupJ (by decide)).trans ((zupJ (by decide)).trans ((zupJ (by decide)).trans ((zupA (by decide)).trans ((zupA (by decide)).trans ((zupA (by decide)).trans ((zupA (by decide)).trans rfl))))))))))).trans hK) ?_
                  refine zt_icmp_ge (tgt := 121) dX6_drawCurve_71 (by decide) (by decide) (by decide) (fun c_71 => ?_) (fun q => absurd q (by decide))
                  refine zt_iconst dX6_drawCurve_121 ?_
                  refine zt_istore_n_1 dX6_drawCurve_122 (by decide) rfl ?_
                  refine zt_iload_n dX6_drawCurve_123 rfl ?_
                  refine zt_aload_n dX6_drawCurve_124 rfl ?_
                  refine zt_getv (v := 4) dX6_drawCurve_125 fl_X6_104 (zs_26 hS) (((zupJ (by decide)).trans ((zupJ (by decide)).trans ((zupJ (by decide)).trans ((zupJ (by decide)).trans ((zupJ (by decide)).trans ((zupJ (by decide)).trans ((zupJ (by decide)).trans ((zupA (by decide)).trans ((zupA (by decide)).trans ((zupA (by decide)).trans ((zupA (by decide)).trans rfl))))))))))).trans hK) ?_
                  refine zt_icmp_ge (tgt := 159) dX6_drawCurve_128 (by decide) (by decide) (by decide) (fun q => absurd q (by decide)) (fun c_128 => ?_)
                  refine zt_aload_n dX6_drawCurve_131 rfl ?_
                  refine zt_getv dX6_drawCurve_132 fl_X6_24 (zs_26 hS) (rf_26_9 hR11) ?_
                  refine zt_iload_n dX6_drawCurve_135 rfl ?_
                  refine zt_aload_n dX6_drawCurve_136 rfl ?_
                  refine zt_getv (v := (((((1 * (p1 - p0)) * (p2 - p0)) * (p3 - p0)) * (p2 - p1)) * (p3 - p1)) * (p3 - p2)) dX6_drawCurve_137 fl_X6_107 (zs_26 hS) zupE ?_
                  refine zt_aload_n dX6_drawCurve_140 rfl ?_
                  refine zt_aload_n dX6_drawCurve_141 rfl ?_
                  refine zt_getv dX6_drawCurve_142 fl_X6_21 (zs_26 hS) (rf_26_8 hR11) ?_
                  refine zt_iload_n dX6_drawCurve_145 rfl ?_
                  refine zt_ialoadv (v := p0) dX6_drawCurve_146 (zs_30 hS) (by decide) (by decide) (by decide) ((zupA (by decide)).trans ((zupA (by decide)).trans ((zupA (by decide)).trans ((zupA (by decide)).trans ((zupA (by decide)).trans ((zupA (by decide)).trans ((zupA (by decide)).trans ((zupJ (by decide)).trans ((zupJ (by decide)).trans ((zupJ (by decide)).trans zupE)))))))))) ?_
                  refine zt_callV1r dX6_drawCurve_147 ml_X6_111 (zs_26 hS) (Nat.le_of_ble_eq_true rfl) (zF.of_eq (show some (0, (zup (zup (zup (zup (zup (zup (zup (zup (zup (zup (zup h 30 0 p0) 30 1 p1) 30 2 p2) 30 3 p3) 26 10 1) 26 10 (1 * (p1 - p0))) 26 10 ((1 * (p1 - p0)) * (p2 - p0))) 26 10 (((1 * (p1 - p0)) * (p2 - p0)) * (p3 - p0))) 26 10 ((((1 * (p1 - p0)) * (p2 - p0)) * (p3 - p0)) * (p2 - p1))) 26 10 (((((1 * (p1 - p0)) * (p2 - p0)) * (p3 - p0)) * (p2 - p1)) * (p3 - p1))) 26 10 ((((((1 * (p1 - p0)) * (p2 - p0)) * (p3 - p0)) * (p2 - p1)) * (p3 - p1)) * (p3 - p2))) 27 p0) = some (0, y0) from congrArg (fun z => some ((0, z) : zV)) ((zupA (by decide)).trans ((zupA (by decide)).trans ((zupA (by decide)).trans ((zupA (by decide)).trans ((zupA (by decide)).trans ((zupA (by decide)).trans ((zupA (by decide)).trans ((zupA (by decide)).trans ((zupA (by decide)).trans ((zupA (by decide)).trans ((zupA (by decide)).trans hy0)))))))))))) rfl rfl rfl (c_rnum hS hR11 (by omega))) ?_
                  refine zt_i2l dX6_drawCurve_150 (by omega) ?_
                  refine zt_lmul dX6_drawCurve_151 ?_
                  have hD00 : -47045833954119 ≤ cD4_00 p0 p1 p2 p3 y0 y1 y2 y3 ∧ cD4_00 p0 p1 p2 p3 y0 y1 y2 y3 ≤ 47045833954119 := zmb2 (x := (((((1 * (p1 - p0)) * (p2 - p0)) * (p3 - p0)) * (p2 - p1)) * (p3 - p1)) * (p3 - p2)) (y := y0) (A := 47045881) (B := 999999) ⟨by omega, by omega⟩ hb0 (by decide)
                  refine zt_topv (v := cD4_00 p0 p1 p2 p3 y0 y1 y2 y3) rfl ?_
                  refine zt_lastore dX6_drawCurve_152 (zs_31 hS) (by decide) (by decide) (by decide) (by omega) ?_
                  have hR12 : zRf (zup (zup (zup (zup (zup (zup (zup (zup (zup (zup (zup (zup h 30 0 p0) 30 1 p1) 30 2 p2) 30 3 p3) 26 10 1) 26 10 (1 * (p1 - p0))) 26 10 ((1 * (p1 - p0)) * (p2 - p0))) 26 10 (((1 * (p1 - p0)) * (p2 - p0)) * (p3 - p0))) 26 10 ((((1 * (p1 - p0)) * (p2 - p0)) * (p3 - p0)) * (p2 - p1))) 26 10 (((((1 * (p1 - p0)) * (p2 - p0)) * (p3 - p0)) * (p2 - p1)) * (p3 - p1))) 26 10 ((((((1 * (p1 - p0)) * (p2 - p0)) * (p3 - p0)) * (p2 - p1)) * (p3 - p1)) * (p3 - p2))) 31 0 (cD4_00 p0 p1 p2 p3 y0 y1 y2 y3)) := (hR11.upA (by decide))
                  refine zt_iincv_1 (v := 1) dX6_drawCurve_153 (by decide) rfl (by decide) ?_
                  refine zt_goto (tgt := 123) dX6_drawCurve_156 (by decide) ?_
                  refine zt_iload_n dX6_drawCurve_123 rfl ?_
                  refine zt_aload_n dX6_drawCurve_124 rfl ?_
                  refine zt_getv (v := 4) dX6_drawCurve_125 fl_X6_104 (zs_26 hS) (((zupA (by decide)).trans ((zupJ (by decide)).trans ((zupJ (by decide)).trans ((zupJ (by decide)).trans ((zupJ (by decide)).trans ((zupJ (by decide)).trans ((zupJ (by decide)).trans ((zupJ (by decide)).trans ((zupA (by decide)).trans ((zupA (by decide)).trans ((zupA (by decide)).trans ((zupA (by decide)).trans rfl)))))))))))).trans hK) ?_
                  refine zt_icmp_ge (tgt := 159) dX6_drawCurve_128 (by decide) (by decide) (by decide) (fun q => absurd q (by decide)) (fun c_128 => ?_)
                  refine zt_aload_n dX6_drawCurve_131 rfl ?_
                  refine zt_getv dX6_drawCurve_132 fl_X6_24 (zs_26 hS) (rf_26_9 hR12) ?_
                  refine zt_iload_n dX6_drawCurve_135 rfl ?_
                  refine zt_aload_n dX6_drawCurve_136 rfl ?_
                  refine zt_getv (v := (((((1 * (p1 - p0)) * (p2 - p0)) * (p3 - p0)) * (p2 - p1)) * (p3 - p1)) * (p3 - p2)) dX6_drawCurve_137 fl_X6_107 (zs_26 hS) ((zupA (by decide)).trans zupE) ?_
                  refine zt_aload_n dX6_drawCurve_140 rfl ?_
                  refine zt_aload_n dX6_drawCurve_141 rfl ?_
                  refine zt_getv dX6_drawCurve_142 fl_X6_21 (zs_26 hS) (rf_26_8 hR12) ?_
                  refine zt_iload_n dX6_drawCurve_145 rfl ?_
                  refine zt_ialoadv (v := p1) dX6_drawCurve_146 (zs_30 hS) (by decide) (by decide) (by decide) ((zupA (by decide)).trans ((zupA (by decide)).trans ((zupA (by decide)).trans ((zupA (by decide)).trans ((zupA (by decide)).trans ((zupA (by decide)).trans ((zupA (by decide)).trans ((zupA (by decide)).trans ((zupJ (by decide)).trans ((zupJ (by decide)).trans zupE)))))))))) ?_
                  refine zt_callV1r dX6_drawCurve_147 ml_X6_111 (zs_26 hS) (Nat.le_of_ble_eq_true rfl) (zF.of_eq (show some (0, (zup (zup (zup (zup (zup (zup (zup (zup (zup (zup (zup (zup h 30 0 p0) 30 1 p1) 30 2 p2) 30 3 p3) 26 10 1) 26 10 (1 * (p1 - p0))) 26 10 ((1 * (p1 - p0)) * (p2 - p0))) 26 10 (((1 * (p1 - p0)) * (p2 - p0)) * (p3 - p0))) 26 10 ((((1 * (p1 - p0)) * (p2 - p0)) * (p3 - p0)) * (p2 - p1))) 26 10 (((((1 * (p1 - p0)) * (p2 - p0)) * (p3 - p0)) * (p2 - p1)) * (p3 - p1))) 26 10 ((((((1 * (p1 - p0)) * (p2 - p0)) * (p3 - p0)) * (p2 - p1)) * (p3 - p1)) * (p3 - p2))) 31 0 (cD4_00 p0 p1 p2 p3 y0 y1 y2 y3)) 27 p1) = some (0, y1) from congrArg (fun z => some ((0, z) : zV)) ((zupA (by decide)).trans ((zupA (by decide)).trans ((zupA (by decide)).trans ((zupA (by decide)).trans ((zupA (by decide)).trans ((zupA (by decide)).trans ((zupA (by decide)).trans ((zupA (by decide)).trans ((zupA (by decide)).trans ((zupA (by decide)).trans ((zupA (by decide)).trans ((zupA (by decide)).trans hy1))))))))))))) rfl rfl rfl (c_rnum hS hR12 (by omega))) ?_
                  refine zt_i2l dX6_drawCurve_150 (by omega) ?_
                  refine zt_lmul dX6_drawCurve_151 ?_
                  have hD01 : -47045833954119 ≤ cD4_01 p0 p1 p2 p3 y0 y1 y2 y3 ∧ cD4_01 p0 p1 p2 p3 y0 y1 y2 y3 ≤ 47045833954119 := zmb2 (x := (((((1 * (p1 - p0)) * (p2 - p0)) * (p3 - p0)) * (p2 - p1)) * (p3 - p1)) * (p3 - p2)) (y := y1) (A := 47045881) (B := 999999) ⟨by omega, by omega⟩ hb1 (by decide)
                  refine zt_topv (v := cD4_01 p0 p1 p2 p3 y0 y1 y2 y3) rfl ?_
                  refine zt_lastore dX6_drawCurve_152 (zs_31 hS) (by decide) (by decide) (by decide) (by omega) ?_
                  have hR13 : zRf (zup (zup (zup (zup (zup (zup (zup (zup (zup (zup (zup (zup (zup h 30 0 p0) 30 1 p1) 30 2 p2) 30 3 p3) 26 10 1) 26 10 (1 * (p1 - p0))) 26 10 ((1 * (p1 - p0)) * (p2 - p0))) 26 10 (((1 * (p1 - p0)) * (p2 - p0)) * (p3 - p0))) 26 10 ((((1 * (p1 - p0)) * (p2 - p0)) * (p3 - p0)) * (p2 - p1))) 26 10 (((((1 * (p1 - p0)) * (p2 - p0)) * (p3 - p0)) * (p2 - p1)) * (p3 - p1))) 26 10 ((((((1 * (p1 - p0)) * (p2 - p0)) * (p3 - p0)) * (p2 - p1)) * (p3 - p1)) * (p3 - p2))) 31 0 (cD4_00 p0 p1 p2 p3 y0 y1 y2 y3)) 31 1 (cD4_01 p0 p1 p2 p3 y0 y1 y2 y3)) := (hR12.upA (by decide))
                  refine zt_iincv_1 (v := 2) dX6_drawCurve_153 (by decide) rfl (by decide) ?_
                  refine zt_goto (tgt := 123) dX6_drawCurve_156 (by decide) ?_
                  refine zt_iload_n dX6_drawCurve_123 rfl ?_
                  refine zt_aload_n dX6_drawCurve_124 rfl ?_
                  refine zt_getv (v := 4) dX6_drawCurve_125 fl_X6_104 (zs_26 hS) (((zupA (by decide)).trans ((zupA (by decide)).trans ((zupJ (by decide)).trans ((zupJ (by decide)).trans ((zupJ (by decide)).trans ((zupJ (by decide)).trans ((zupJ (by decide)).trans ((zupJ (by decide)).trans ((zupJ (by decide)).trans ((zupA (by decide)).trans ((zupA (by decide)).trans ((zupA (by decide)).trans ((zupA (by decide)).trans rfl))))))))))))).trans hK) ?_
                  refine zt_icmp_ge (tgt := 159) dX6_drawCurve_128 (by decide) (by decide) (by decide) (fun q => absurd q (by decide)) (fun c_128 => ?_)
                  refine zt_aload_n dX6_drawCurve_131 rfl ?_
                  refine zt_getv dX6_drawCurve_132 fl_X6_24 (zs_26 hS) (rf_26_9 hR13) ?_
                  refine zt_iload_n dX6_drawCurve_135 rfl ?_
                  refine zt_aload_n dX6_drawCurve_136 rfl ?_
                  refine zt_getv (v := (((((1 * (p1 - p0)) * (p2 - p0)) * (p3 - p0)) * (p2 - p1)) * (p3 - p1)) * (p3 - p2)) dX6_drawCurve_137 fl_X6_107 (zs_26 hS) ((zupA (by decide)).trans ((zupA (by decide)).trans zupE)) ?_
                  refine zt_aload_n dX6_drawCurve_140 rfl ?_
                  refine zt_aload_n dX6_drawCurve_141 rfl ?_
                  refine zt_getv dX6_drawCurve_142 fl_X6_21 (zs_26 hS) (rf_26_8 hR13) ?_
                  refine zt_iload_n dX6_drawCurve_145 rfl ?_
                  refine zt_ialoadv (v := p2) dX6_drawCurve_146 (zs_30 hS) (by decide) (by decide) (by decide) ((zupA (by decide)).trans ((zupA (by decide)).trans ((zupA (by decide)).trans ((zupA (by decide)).trans ((zupA (by decide)).trans ((zupA (by decide)).trans ((zupA (by decide)).trans ((zupA (by decide)).trans ((zupA (by decide)).trans ((zupJ (by decide)).trans zupE)))))))))) ?_
                  refine zt_callV1r dX6_drawCurve_147 ml_X6_111 (zs_26 hS) (Nat.le_of_ble_eq_true rfl) (zF.of_eq (show some (0, (zup (zup (zup (zup (zup (zup (zup (zup (zup (zup (zup (zup (zup h 30 0 p0) 30 1 p1) 30 2 p2) 30 3 p3) 26 10 1) 26 10 (1 * (p1 - p0))) 26 10 ((1 * (p1 - p0)) * (p2 - p0))) 26 10 (((1 * (p1 - p0)) * (p2 - p0)) * (p3 - p0))) 26 10 ((((1 * (p1 - p0)) * (p2 - p0)) * (p3 - p0)) * (p2 - p1))) 26 10 (((((1 * (p1 - p0)) * (p2 - p0)) * (p3 - p0)) * (p2 - p1)) * (p3 - p1))) 26 10 ((((((1 * (p1 - p0)) * (p2 - p0)) * (p3 - p0)) * (p2 - p1)) * (p3 - p1)) * (p3 - p2))) 31 0 (cD4_00 p0 p1 p2 p3 y0 y1 y2 y3)) 31 1 (cD4_01 p0 p1 p2 p3 y0 y1 y2 y3)) 27 p2) = some (0, y2) from congrArg (fun z => some ((0, z) : zV)) ((zupA (by decide)).trans ((zupA (by decide)).trans ((zupA (by decide)).trans ((zupA (by decide)).trans ((zupA (by decide)).trans ((zupA (by decide)).trans ((zupA (by decide)).trans ((zupA (by decide)).trans ((zupA (by decide)).trans ((zupA (by decide)).trans ((zupA (by decide)).trans ((zupA (by decide)).trans ((zupA (by decide)).trans hy2)))))))))))))) rfl rfl rfl (c_rnum hS hR13 (by omega))) ?_
                  refine zt_i2l dX6_drawCurve_150 (by omega) ?_
                  refine zt_lmul dX6_drawCurve_151 ?_
                  have hD02 : -47045833954119 ≤ cD4_02 p0 p1 p2 p3 y0 y1 y2 y3 ∧ cD4_02 p0 p1 p2 p3 y0 y1 y2 y3 ≤ 47045833954119 := zmb2 (x := (((((1 * (p1 - p0)) * (p2 - p0)) * (p3 - p0)) * (p2 - p1)) * (p3 - p1)) * (p3 - p2)) (y := y2) (A := 47045881) (B := 999999) ⟨by omega, by omega⟩ hb2 (by decide)
                  refine zt_topv (v := cD4_02 p0 p1 p2 p3 y0 y1 y2 y3) rfl ?_
                  refine zt_lastore dX6_drawCurve_152 (zs_31 hS) (by decide) (by decide) (by decide) (by omega) ?_
                  have hR14 : zRf (zup (zup (zup (zup (zup (zup (zup (zup (zup (zup (zup (zup (zup (zup h 30 0 p0) 30 1 p1) 30 2 p2) 30 3 p3) 26 10 1) 26 10 (1 * (p1 - p0))) 26 10 ((1 * (p1 - p0)) * (p2 - p0))) 26 10 (((1 * (p1 - p0)) * (p2 - p0)) * (p3 - p0))) 26 10 ((((1 * (p1 - p0)) * (p2 - p0)) * (p3 - p0)) * (p2 - p1))) 26 10 (((((1 * (p1 - p0)) * (p2 - p0)) * (p3 - p0)) * (p2 - p1)) * (p3 - p1))) 26 10 ((((((1 * (p1 - p0)) * (p2 - p0)) * (p3 - p0)) * (p2 - p1)) * (p3 - p1)) * (p3 - p2))) 31 0 (cD4_00 p0 p1 p2 p3 y0 y1 y2 y3)) 31 1 (cD4_01 p0 p1 p2 p3 y0 y1 y2 y3)) 31 2 (cD4_02 p0 p1 p2 p3 y0 y1 y2 y3)) := (hR13.upA (by decide))
                  refine zt_iincv_1 (v := 3) dX6_drawCurve_153 (by decide) rfl (by decide) ?_
                  refine zt_goto (tgt := 123) dX6_drawCurve_156 (by decide) ?_
                  refine zt_iload_n dX6_drawCurve_123 rfl ?_
                  refine zt_aload_n dX6_drawCurve_124 rfl ?_
                  refine zt_getv (v := 4) dX6_drawCurve_125 fl_X6_104 (zs_26 hS) (((zupA (by decide)).trans ((zupA (by decide)).trans ((zupA (by decide)).trans ((zupJ (by decide)).trans ((zupJ (by decide)).trans ((zupJ (by decide)).trans ((zupJ (by decide)).trans ((zupJ (by decide)).trans ((zupJ (by decide)).trans ((zupJ (by decide)).trans ((zupA (by decide)).trans ((zupA (by decide)).trans ((zupA (by decide)).trans ((zupA (by decide)).trans rfl)))))))))))))).trans hK) ?_
                  refine zt_icmp_ge (tgt := 159) dX6_drawCurve_128 (by decide) (by decide) (by decide) (fun q => absurd q (by decide)) (fun c_128 => ?_)
                  refine zt_aload_n dX6_drawCurve_131 rfl ?_
                  refine zt_getv dX6_drawCurve_132 fl_X6_24 (zs_26 hS) (rf_26_9 hR14) ?_
                  refine zt_iload_n dX6_drawCurve_135 rfl ?_
                  refine zt_aload_n dX6_drawCurve_136 rfl ?_
                  refine zt_getv (v := (((((1 * (p1 - p0)) * (p2 - p0)) * (p3 - p0)) * (p2 - p1)) * (p3 - p1)) * (p3 - p2)) dX6_drawCurve_137 fl_X6_107 (zs_26 hS) ((zupA (by decide)).trans ((zupA (by decide)).trans ((zupA (by decide)).trans zupE))) ?_
                  refine zt_aload_n dX6_drawCurve_140 rfl ?_
                  refine zt_aload_n dX6_drawCurve_141 rfl ?_
                  refine zt_getv dX6_drawCurve_142 fl_X6_21 (zs_26 hS) (rf_26_8 hR14) ?_
                  refine zt_iload_n dX6_drawCurve_145 rfl ?_
                  refine zt_ialoadv (v := p3) dX6_drawCurve_146 (zs_30 hS) (by decide) (by decide) (by decide) ((zupA (by decide)).trans ((zupA (by decide)).trans ((zupA (by decide)).trans ((zupA (by decide)).trans ((zupA (by decide)).trans ((zupA (by decide)).trans ((zupA (by decide)).trans ((zupA (by decide)).trans ((zupA (by decide)).trans ((zupA (by decide)).trans zupE)))))))))) ?_
                  refine zt_callV1r dX6_drawCurve_147 ml_X6_111 (zs_26 hS) (Nat.le_of_ble_eq_true rfl) (zF.of_eq (show some (0, (zup (zup (zup (zup (zup (zup (zup (zup (zup (zup (zup (zup (zup (zup h 30 0 p0) 30 1 p1) 30 2 p2) 30 3 p3) 26 10 1) 26 10 (1 * (p1 - p0))) 26 10 ((1 * (p1 - p0)) * (p2 - p0))) 26 10 (((1 * (p1 - p0)) * (p2 - p0)) * (p3 - p0))) 26 10 ((((1 * (p1 - p0)) * (p2 - p0)) * (p3 - p0)) * (p2 - p1))) 26 10 (((((1 * (p1 - p0)) * (p2 - p0)) * (p3 - p0)) * (p2 - p1)) * (p3 - p1))) 26 10 ((((((1 * (p1 - p0)) * (p2 - p0)) * (p3 - p0)) * (p2 - p1)) * (p3 - p1)) * (p3 - p2))) 31 0 (cD4_00 p0 p1 p2 p3 y0 y1 y2 y3)) 31 1 (cD4_01 p0 p1 p2 p3 y0 y1 y2 y3)) 31 2 (cD4_02 p0 p1 p2 p3 y0 y1 y2 y3)) 27 p3) = some (0, y3) from congrArg (fun z => some ((0, z) : zV)) ((zupA (by decide)).trans ((zupA (by decide)).trans ((zupA (by decide)).trans ((zupA (by decide)).trans ((zupA (by decide)).trans ((zupA (by decide)).trans ((zupA (by decide)).trans ((zupA (by decide)).trans ((zupA (by decide)).trans ((zupA (by decide)).trans ((zupA (by decide)).trans ((zupA (by decide)).trans ((zupA (by decide)).trans ((zupA (by decide)).trans hy3))))))))))))))) rfl rfl rfl (c_rnum hS hR14 (by omega))) ?_
                  refine zt_i2l dX6_drawCurve_150 (by omega) ?_
                  refine zt_lmul dX6_drawCurve_151 ?_
                  have hD03 : -47045833954119 ≤ cD4_03 p0 p1 p2 p3 y0 y1 y2 y3 ∧ cD4_03 p0 p1 p2 p3 y0 y1 y2 y3 ≤ 47045833954119 := zmb2 (x := (((((1 * (p1 - p0)) * (p2 - p0)) * (p3 - p0)) * (p2 - p1)) * (p3 - p1)) * (p3 - p2)) (y := y3) (A := 47045881) (B := 999999) ⟨by omega, by omega⟩ hb3 (by decide)
                  refine zt_topv (v := cD4_03 p0 p1 p2 p3 y0 y1 y2 y3) rfl ?_
                  refine zt_lastore dX6_drawCurve_152 (zs_31 hS) (by decide) (by decide) (by decide) (by omega) ?_
                  have hR15 : zRf (zup (zup (zup (zup (zup (zup (zup (zup (zup (zup (zup (zup (zup (zup (zup h 30 0 p0) 30 1 p1) 30 2 p2) 30 3 p3) 26 10 1) 26 10 (1 * (p1 - p0))) 26 10 ((1 * (p1 - p0)) * (p2 - p0))) 26 10 (((1 * (p1 - p0)) * (p2 - p0)) * (p3 - p0))) 26 10 ((((1 * (p1 - p0)) * (p2 - p0)) * (p3 - p0)) * (p2 - p1))) 26 10 (((((1 * (p1 - p0)) * (p2 - p0)) * (p3 - p0)) * (p2 - p1)) * (p3 - p1))) 26 10 ((((((1 * (p1 - p0)) * (p2 - p0)) * (p3 - p0)) * (p2 - p1)) * (p3 - p1)) * (p3 - p2))) 31 0 (cD4_00 p0 p1 p2 p3 y0 y1 y2 y3)) 31 1 (cD4_01 p0 p1 p2 p3 y0 y1 y2 y3)) 31 2 (cD4_02 p0 p1 p2 p3 y0 y1 y2 y3)) 31 3 (cD4_03 p0 p1 p2 p3 y0 y1 y2 y3)) := (hR14.upA (by decide))
                  refine zt_iincv_1 (v := 4) dX6_drawCurve_153 (by decide) rfl (by decide) ?_
                  refine zt_goto (tgt := 123) dX6_drawCurve_156 (by decide) ?_
                  refine zt_iload_n dX6_drawCurve_123 rfl ?_
                  refine zt_aload_n dX6_drawCurve_124 rfl ?_
                  refine zt_getv (v := 4) dX6_drawCurve_125 fl_X6_104 (zs_26 hS) (((zupA (by decide)).trans ((zupA (by decide)).trans ((zupA (by decide)).trans ((zupA (by decide)).trans ((zupJ (by decide)).trans ((zupJ (by decide)).trans ((zupJ (by decide)).trans ((zupJ (by decide)).trans ((zupJ (by decide)).trans ((zupJ (by decide)).trans ((zupJ (by decide)).trans ((zupA (by decide)).trans ((zupA (by decide)).trans ((zupA (by decide)).trans ((zupA (by decide)).trans rfl))))))))))))))).trans hK) ?_
                  refine zt_icmp_ge (tgt := 159) dX6_drawCurve_128 (by decide) (by decide) (by decide) (fun c_128 => ?_) (fun q => absurd q (by decide))
                  refine zt_iconst dX6_drawCurve_159 ?_
                  refine zt_istore_n_1 dX6_drawCurve_160 (by decide) rfl ?_
                  refine zt_iload_n dX6_drawCurve_161 rfl ?_
                  refine zt_aload_n dX6_drawCurve_162 rfl ?_
                  refine zt_getv (v := 4) dX6_drawCurve_163 fl_X6_104 (zs_26 hS) (((zupA (by decide)).trans ((zupA (by decide)).trans ((zupA (by decide)).trans ((zupA (by decide)).trans ((zupJ (by decide)).trans ((zupJ (by decide)).trans ((zupJ (by decide)).trans ((zupJ (by decide)).trans ((zupJ (by decide)).trans ((zupJ (by decide)).trans ((zupJ (by decide)).trans ((zupA (by decide)).trans ((zupA (by decide)).trans ((zupA (by decide)).trans ((zupA (by decide)).trans rfl))))))))))))))).trans hK) ?_
                  refine zt_icmp_ge (tgt := 241) dX6_drawCurve_166 (by decide) (by decide) (by decide) (fun q => absurd q (by decide)) (fun c_166 => ?_)
                  refine zt_aload_n dX6_drawCurve_169 rfl ?_
                  refine zt_getv (v := 4) dX6_drawCurve_170 fl_X6_104 (zs_26 hS) (((zupA (by decide)).trans ((zupA (by decide)).trans ((zupA (by decide)).trans ((zupA (by decide)).trans ((zupJ (by decide)).trans ((zupJ (by decide)).trans ((zupJ (by decide)).trans ((zupJ (by decide)).trans ((zupJ (by decide)).trans ((zupJ (by decide)).trans ((zupJ (by decide)).trans ((zupA (by decide)).trans ((zupA (by decide)).trans ((zupA (by decide)).trans ((zupA (by decide)).trans rfl))))))))))))))).trans hK) ?_
                  refine zt_iconst dX6_drawCurve_173 ?_
                  refine zt_isub dX6_drawCurve_174 ?_
                  refine zt_topv (v := 3) (by decide) ?_
                  refine zt_istore_n_2 dX6_drawCurve_175 (by decide) rfl ?_
                  refine zt_iload_n dX6_drawCurve_176 rfl ?_
                  refine zt_iload_n dX6_drawCurve_177 rfl ?_
                  refine zt_icmp_lt (tgt := 235) dX6_drawCurve_178 (by decide) (by decide) (by decide) (fun q => absurd q (by decide)) (fun c_178 => ?_)
                  refine zt_aload_n dX6_drawCurve_181 rfl ?_
                  refine zt_getv dX6_drawCurve_182 fl_X6_21 (zs_26 hS) (rf_26_8 hR15) ?_
                  refine zt_iload_n dX6_drawCurve_185 rfl ?_
                  refine zt_ialoadv (v := p3) dX6_drawCurve_186 (zs_30 hS) (by decide) (by decide) (by decide) ((zupA (by decide)).trans ((zupA (by decide)).trans ((zupA (by decide)).trans ((zupA (by decide)).trans ((zupA (by decide)).trans ((zupA (by decide)).trans ((zupA (by decide)).trans ((zupA (by decide)).trans ((zupA (by decide)).trans ((zupA (by decide)).trans ((zupA (by decide)).trans zupE))))))))))) ?_
                  refine zt_aload_n dX6_drawCurve_187 rfl ?_
                  refine zt_getv dX6_drawCurve_188 fl_X6_21 (zs_26 hS) (rf_26_8 hR15) ?_
                  refine zt_iload_n dX6_drawCurve_191 rfl ?_
                  refine zt_iload_n dX6_drawCurve_192 rfl ?_
                  refine zt_isub dX6_drawCurve_193 ?_
                  refine zt_topv (v := 2) (by decide) ?_
                  refine zt_ialoadv (v := p2) dX6_drawCurve_194 (zs_30 hS) (by decide) (by decide) (by decide) ((zupA (by decide)).trans ((zupA (by decide)).trans ((zupA (by decide)).trans ((zupA (by decide)).trans ((zupA (by decide)).trans ((zupA (by decide)).trans ((zupA (by decide)).trans ((zupA (by decide)).trans ((zupA (by decide)).trans ((zupA (by decide)).trans ((zupA (by decide)).trans ((zupJ (by decide)).trans zupE)))))))))))) ?_
                  refine zt_isub dX6_drawCurve_195 ?_
                  refine zt_istore_n_3 dX6_drawCurve_196 (by decide) rfl ?_
                  refine zt_aload_n dX6_drawCurve_197 rfl ?_
                  refine zt_getv dX6_drawCurve_198 fl_X6_24 (zs_26 hS) (rf_26_9 hR15) ?_
                  refine zt_iload_n dX6_drawCurve_201 rfl ?_
                  refine zt_iload_n dX6_drawCurve_202 rfl ?_
                  refine zt_if_ne (tgt := 210) dX6_drawCurve_203 (by decide) (by omega) (fun c_203 => ?_) (fun c_203 => ?_)
                  · refine zt_aload_n dX6_drawCurve_210 rfl ?_
                    refine zt_getv dX6_drawCurve_211 fl_X6_24 (zs_26 hS) (rf_26_9 hR15) ?_
                    refine zt_iload_n dX6_drawCurve_214 rfl ?_
                    refine zt_laloadv (v := cD4_03 p0 p1 p2 p3 y0 y1 y2 y3) dX6_drawCurve_215 (zs_31 hS) (by decide) (by decide) (by decide) zupE ?_
                    refine zt_aload_n dX6_drawCurve_216 rfl ?_
                    refine zt_getv dX6_drawCurve_217 fl_X6_24 (zs_26 hS) (rf_26_9 hR15) ?_
                    refine zt_iload_n dX6_drawCurve_220 rfl ?_
                    refine zt_iconst dX6_drawCurve_221 ?_
                    refine zt_isub dX6_drawCurve_222 ?_
                    refine zt_topv (v := 2) (by decide) ?_
                    refine zt_laloadv (v := cD4_02 p0 p1 p2 p3 y0 y1 y2 y3) dX6_drawCurve_223 (zs_31 hS) (by decide) (by decide) (by decide) ((zupJ (by decide)).trans zupE) ?_
                    refine zt_lsub dX6_drawCurve_224 ?_
                    refine zt_iload_n dX6_drawCurve_225 rfl ?_
                    refine zt_i2l dX6_drawCurve_226 (by omega) ?_
                    refine zt_ldiv dX6_drawCurve_227 (by omega) (by omega) (by omega) ?_
                    have hD13 : -94091667908238 ≤ cD4_13 p0 p1 p2 p3 y0 y1 y2 y3 ∧ cD4_13 p0 p1 p2 p3 y0 y1 y2 y3 ≤ 94091667908238 := zexb nid4_13 (by omega) ⟨by omega, by omega⟩
                    refine zt_topv (v := cD4_13 p0 p1 p2 p3 y0 y1 y2 y3) (zex nid4_13 (by omega)) ?_
                    refine zt_lastore dX6_drawCurve_228 (zs_31 hS) (by decide) (by decide) (by decide) (by omega) ?_
                    have hR16 : zRf (zup (zup (zup (zup (zup (zup (zup (zup (zup (zup (zup (zup (zup (zup (zup (zup h 30 0 p0) 30 1 p1) 30 2 p2) 30 3 p3) 26 10 1) 26 10 (1 * (p1 - p0))) 26 10 ((1 * (p1 - p0)) * (p2 - p0))) 26 10 (((1 * (p1 - p0)) * (p2 - p0)) * (p3 - p0))) 26 10 ((((1 * (p1 - p0)) * (p2 - p0)) * (p3 - p0)) * (p2 - p1))) 26 10 (((((1 * (p1 - p0)) * (p2 - p0)) * (p3 - p0)) * (p2 - p1)) * (p3 - p1))) 26 10 ((((((1 * (p1 - p0)) * (p2 - p0)) * (p3 - p0)) * (p2 - p1)) * (p3 - p1)) * (p3 - p2))) 31 0 (cD4_00 p0 p1 p2 p3 y0 y1 y2 y3)) 31 1 (cD4_01 p0 p1 p2 p3 y0 y1 y2 y3)) 31 2 (cD4_02 p0 p1 p2 p3 y0 y1 y2 y3)) 31 3 (cD4_03 p0 p1 p2 p3 y0 y1 y2 y3)) 31 3 (cD4_13 p0 p1 p2 p3 y0 y1 y2 y3)) := (hR15.upA (by decide))
                    refine zt_iincv_2 (v := 2) dX6_drawCurve_229 (by decide) rfl (by decide) ?_
                    refine zt_goto (tgt := 176) dX6_drawCurve_232 (by decide) ?_
                    refine zt_iload_n dX6_drawCurve_176 rfl ?_
                    refine zt_iload_n dX6_drawCurve_177 rfl ?_
                    refine zt_icmp_lt (tgt := 235) dX6_drawCurve_178 (by decide) (by decide) (by decide) (fun q => absurd q (by decide)) (fun c_178 => ?_)
                    refine zt_aload_n dX6_drawCurve_181 rfl ?_
                    refine zt_getv dX6_drawCurve_182 fl_X6_21 (zs_26 hS) (rf_26_8 hR16) ?_
                    refine zt_iload_n dX6_drawCurve_185 rfl ?_
                    refine zt_ialoadv (v := p2) dX6_drawCurve_186 (zs_30 hS) (by decide) (by decide) (by decide) ((zupA (by decide)).trans ((zupA (by decide)).trans ((zupA (by decide)).trans ((zupA (by decide)).trans ((zupA (by decide)).trans ((zupA (by decide)).trans ((zupA (by decide)).trans ((zupA (by decide)).trans ((zupA (by decide)).trans ((zupA (by decide)).trans ((zupA (by decide)).trans ((zupA (by decide)).trans ((zupJ (by decide)).trans zupE))))))))))))) ?_
                    refine zt_aload_n dX6_drawCurve_187 rfl ?_
                    refine zt_getv dX6_drawCurve_188 fl_X6_21 (zs_26 hS) (rf_26_8 hR16) ?_
                    refine zt_iload_n dX6_drawCurve_191 rfl ?_
                    refine zt_iload_n dX6_drawCurve_192 rfl ?_
                    refine zt_isub dX6_drawCurve_193 ?_
                    refine zt_topv (v := 1) (by decide) ?_
                    refine zt_ialoadv (v := p1) dX6_drawCurve_194 (zs_30 hS) (by decide) (by decide) (by decide) ((zupA (by decide)).trans ((zupA (by decide)).trans ((zupA (by decide)).trans ((zupA (by decide)).trans ((zupA (by decide)).trans ((zupA (by decide)).trans ((zupA (by decide)).trans ((zupA (by decide)).trans ((zupA (by decide)).trans ((zupA (by decide)).trans ((zupA (by decide)).trans ((zupA (by decide)).trans ((zupJ (by decide)).trans ((zupJ (by decide)).trans zupE)))))))))))))) ?_
                    refine zt_isub dX6_drawCurve_195 ?_
                    refine zt_istore_n_3 dX6_drawCurve_196 (by decide) rfl ?_
                    refine zt_aload_n dX6_drawCurve_197 rfl ?_
                    refine zt_getv dX6_drawCurve_198 fl_X6_24 (zs_26 hS) (rf_26_9 hR16) ?_
                    refine zt_iload_n dX6_drawCurve_201 rfl ?_
                    refine zt_iload_n dX6_drawCurve_202 rfl ?_
                    refine zt_if_ne (tgt := 210) dX6_drawCurve_203 (by decide) (by omega) (fun c_203 => ?_) (fun c_203 => ?_)
                    · refine zt_aload_n dX6_drawCurve_210 rfl ?_
                      refine zt_getv dX6_drawCurve_211 fl_X6_24 (zs_26 hS) (rf_26_9 hR16) ?_
                      refine zt_iload_n dX6_drawCurve_214 rfl ?_
                      refine zt_laloadv (v := cD4_02 p0 p1 p2 p3 y0 y1 y2 y3) dX6_drawCurve_215 (zs_31 hS) (by decide) (by decide) (by decide) ((zupJ (by decide)).trans ((zupJ (by decide)).trans zupE)) ?_
                      refine zt_aload_n dX6_drawCurve_216 rfl ?_
                      refine zt_getv dX6_drawCurve_217 fl_X6_24 (zs_26 hS) (rf_26_9 hR16) ?_
                      refine zt_iload_n dX6_drawCurve_220 rfl ?_
                      refine zt_iconst dX6_drawCurve_221 ?_
                      refine zt_isub dX6_drawCurve_222 ?_
                      refine zt_topv (v := 1) (by decide) ?_
                      refine zt_laloadv (v := cD4_01 p0 p1 p2 p3 y0 y1 y2 y3) dX6_drawCurve_223 (zs_31 hS) (by decide) (by decide) (by decide) ((zupJ (by decide)).trans ((zupJ (by decide)).trans ((zupJ (by decide)).trans zupE))) ?_
                      refine zt_lsub dX6_drawCurve_224 ?_
                      refine zt_iload_n dX6_drawCurve_225 rfl ?_
                      refine zt_i2l dX6_drawCurve_226 (by omega) ?_
                      refine zt_ldiv dX6_drawCurve_227 (by omega) (by omega) (by omega) ?_
                      have hD12 : -94091667908238 ≤ cD4_12 p0 p1 p2 p3 y0 y1 y2 y3 ∧ cD4_12 p0 p1 p2 p3 y0 y1 y2 y3 ≤ 94091667908238 := zexb nid4_12 (by omega) ⟨by omega, by omega⟩
                      refine zt_topv (v := cD4_12 p0 p1 p2 p3 y0 y1 y2 y3) (zex nid4_12 (by omega)) ?_
                      refine zt_lastore dX6_drawCurve_228 (zs_31 hS) (by decide) (by decide) (by decide) (by omega) ?_
                      have hR17 : zRf (zup (zup (zup (zup (zup (zup (zup (zup (zup (zup (zup (zup (zup (zup (zup (zup (zup h 30 0 p0) 30 1 p1) 30 2 p2) 30 3 p3) 26 10 1) 26 10 (1 * (p1 - p0))) 26 10 ((1 * (p1 - p0)) * (p2 - p0))) 26 10 (((1 * (p1 - p0)) * (p2 - p0)) * (p3 - p0))) 26 10 ((((1 * (p1 - p0)) * (p2 - p0)) * (p3 - p0)) * (p2 - p1))) 26 10 (((((1 * (p1 - p0)) * (p2 - p0)) * (p3 - p0)) * (p2 - p1)) * (p3 - p1))) 26 10 ((((((1 * (p1 - p0)) * (p2 - p0)) * (p3 - p0)) * (p2 - p1)) * (p3 - p1)) * (p3 - p2))) 31 0 (cD4_00 p0 p1 p2 p3 y0 y1 y2 y3)) 31 1 (cD4_01 p0 p1 p2 p3 y0 y1 y2 y3)) 31 2 (cD4_02 p0 p1 p2 p3 y0 y1 y2 y3)) 31 3 (cD4_03 p0 p1 p2 p3 y0 y1 y2 y3)) 31 3 (cD4_13 p0 p1 p2 p3 y0 y1 y2 y3)) 31 2 (cD4_12 p0 p1 p2 p3 y0 y1 y2 y3)) := (hR16.upA (by decide))
                      refine zt_iincv_2 (v := 1) dX6_drawCurve_229 (by decide) rfl (by decide) ?_
                      refine zt_goto (tgt := 176) dX6_drawCurve_232 (by decide) ?_
                      refine zt_iload_n dX6_drawCurve_176 rfl ?_
                      refine zt_iload_n dX6_drawCurve_177 rfl ?_
                      refine zt_icmp_lt (tgt := 235) dX6_drawCurve_178 (by decide) (by decide) (by decide) (fun q => absurd q (by decide)) (fun c_178 => ?_)
                      refine zt_aload_n dX6_drawCurve_181 rfl ?_
                      refine zt_getv dX6_drawCurve_182 fl_X6_21 (zs_26 hS) (rf_26_8 hR17) ?_
                      refine zt_iload_n dX6_drawCurve_185 rfl ?_
                      refine zt_ialoadv (v := p1) dX6_drawCurve_186 (zs_30 hS) (by decide) (by decide) (by decide) ((zupA (by decide)).trans ((zupA (by decide)).trans ((zupA (by decide)).trans ((zupA (by decide)).trans ((zupA (by decide)).trans ((zupA (by decide)).trans ((zupA (by decide)).trans ((zupA (by decide)).trans ((zupA (by decide)).trans ((zupA (by decide)).trans ((zupA (by decide)).trans ((zupA (by decide)).trans ((zupA (by decide)).trans ((zupJ (by decide)).trans ((zupJ (by decide)).trans zupE))))))))))))))) ?_
                      refine zt_aload_n dX6_drawCurve_187 rfl ?_
                      refine zt_getv dX6_drawCurve_188 fl_X6_21 (zs_26 hS) (rf_26_8 hR17) ?_
                      refine zt_iload_n dX6_drawCurve_191 rfl ?_
                      refine zt_iload_n dX6_drawCurve_192 rfl ?_
                      refine zt_isub dX6_drawCurve_193 ?_
                      refine zt_topv (v := 0) (by decide) ?_
                      refine zt_ialoadv (v := p0) dX6_drawCurve_194 (zs_30 hS) (by decide) (by decide) (by decide) ((zupA (by decide)).trans ((zupA (by decide)).trans ((zupA (by decide)).trans ((zupA (by decide)).trans ((zupA (by decide)).trans ((zupA (by decide)).trans ((zupA (by decide)).trans ((zupA (by decide)).trans ((zupA (by decide)).trans ((zupA (by decide)).trans ((zupA (by decide)).trans ((zupA (by decide)).trans ((zupA (by decide)).trans ((zupJ (by decide)).trans ((zupJ (by decide)).trans ((zupJ (by decide)).trans zupE)))))))))))))))) ?_
                      refine zt_isub dX6_drawCurve_195 ?_
                      refine zt_istore_n_3 dX6_drawCurve_196 (by decide) rfl ?_
                      refine zt_aload_n dX6_drawCurve_197 rfl ?_
                      refine zt_getv dX6_drawCurve_198 fl_X6_24 (zs_26 hS) (rf_26_9 hR17) ?_
                      refine zt_iload_n dX6_drawCurve_201 rfl ?_
                      refine zt_iload_n dX6_drawCurve_202 rfl ?_
                      refine zt_if_ne (tgt := 210) dX6_drawCurve_203 (by decide) (by omega) (fun c_203 => ?_) (fun c_203 => ?_)
                      · refine zt_aload_n dX6_drawCurve_210 rfl ?_
                        refine zt_getv dX6_drawCurve_211 fl_X6_24 (zs_26 hS) (rf_26_9 hR17) ?_
                        refine zt_iload_n dX6_drawCurve_214 rfl ?_
                        refine zt_laloadv (v := cD4_01 p0 p1 p2 p3 y0 y1 y2 y3) dX6_drawCurve_215 (zs_31 hS) (by decide) (by decide) (by decide) ((zupJ (by decide)).trans ((zupJ (by decide)).trans ((zupJ (by decide)).trans ((zupJ (by decide)).trans zupE)))) ?_
                        refine zt_aload_n dX6_drawCurve_216 rfl ?_
                        refine zt_getv dX6_drawCurve_217 fl_X6_24 (zs_26 hS) (rf_26_9 hR17) ?_
                        refine zt_iload_n dX6_drawCurve_220 rfl ?_
                        refine zt_iconst dX6_drawCurve_221 ?_
                        refine zt_isub dX6_drawCurve_222 ?_
                        refine zt_topv (v := 0) (by decide) ?_
                        refine zt_laloadv (v := cD4_00 p0 p1 p2 p3 y0 y1 y2 y3) dX6_drawCurve_223 (zs_31 hS) (by decide) (by decide) (by decide) ((zupJ (by decide)).trans ((zupJ (by decide)).trans ((zupJ (by decide)).trans ((zupJ (by decide)).trans ((zupJ (by decide)).trans zupE))))) ?_
                        refine zt_lsub dX6_drawCurve_224 ?_
                        refine zt_iload_n dX6_drawCurve_225 rfl ?_
                        refine zt_i2l dX6_drawCurve_226 (by omega) ?_
                        refine zt_ldiv dX6_drawCurve_227 (by omega) (by omega) (by omega) ?_
                        have hD11 : -94091667908238 ≤ cD4_11 p0 p1 p2 p3 y0 y1 y2 y3 ∧ cD4_11 p0 p1 p2 p3 y0 y1 y2 y3 ≤ 94091667908238 := zexb nid4_11 (by omega) ⟨by omega, by omega⟩
                        refine zt_topv (v := cD4_11 p0 p1 p2 p3 y0 y1 y2 y3) (zex nid4_11 (by omega)) ?_
                        refine zt_lastore dX6_drawCurve_228 (zs_31 hS) (by decide) (by decide) (by decide) (by omega) ?_
                        have hR18 : zRf (zup (zup (zup (zup (zup (zup (zup (zup (zup (zup (zup (zup (zup (zup (zup (zup (zup (zup h 30 0 p0) 30 1 p1) 30 2 p2) 30 3 p3) 26 10 1) 26 10 (1 * (p1 - p0))) 26 10 ((1 * (p1 - p0)) * (p2 - p0))) 26 10 (((1 * (p1 - p0)) * (p2 - p0)) * (p3 - p0))) 26 10 ((((1 * (p1 - p0)) * (p2 - p0)) * (p3 - p0)) * (p2 - p1))) 26 10 (((((1 * (p1 - p0)) * (p2 - p0)) * (p3 - p0)) * (p2 - p1)) * (p3 - p1))) 26 10 ((((((1 * (p1 - p0)) * (p2 - p0)) * (p3 - p0)) * (p2 - p1)) * (p3 - p1)) * (p3 - p2))) 31 0 (cD4_00 p0 p1 p2 p3 y0 y1 y2 y3)) 31 1 (cD4_01 p0 p1 p2 p3 y0 y1 y2 y3)) 31 2 (cD4_02 p0 p1 p2 p3 y0 y1 y2 y3)) 31 3 (cD4_03 p0 p1 p2 p3 y0 y1 y2 y3)) 31 3 (cD4_13 p0 p1 p2 p3 y0 y1 y2 y3)) 31 2 (cD4_12 p0 p1 p2 p3 y0 y1 y2 y3)) 31 1 (cD4_11 p0 p1 p2 p3 y0 y1 y2 y3)) := (hR17.upA (by decide))
                        refine zt_iincv_2 (v := 0) dX6_drawCurve_229 (by decide) rfl (by decide) ?_
                        refine zt_goto (tgt := 176) dX6_drawCurve_232 (by decide) ?_
                        refine zt_iload_n dX6_drawCurve_176 rfl ?_
                        refine zt_iload_n dX6_drawCurve_177 rfl ?_
                        refine zt_icmp_lt (tgt := 235) dX6_drawCurve_178 (by decide) (by decide) (by decide) (fun c_178 => ?_) (fun q => absurd q (by decide))
                        refine zt_iincv_1 (v := 2) dX6_drawCurve_235 (by decide) rfl (by decide) ?_
                        refine zt_goto (tgt := 161) dX6_drawCurve_238 (by decide) ?_
                        refine zt_iload_n dX6_drawCurve_161 rfl ?_
                        refine zt_aload_n dX6_drawCurve_162 rfl ?_
                        refine zt_getv (v := 4) dX6_drawCurve_163 fl_X6_104 (zs_26 hS) (((zupA (by decide)).trans ((zupA (by decide)).trans ((zupA (by decide)).trans ((zupA (by decide)).trans ((zupA (by decide)).trans ((zupA (by decide)).trans ((zupA (by decide)).trans ((zupJ (by decide)).trans ((zupJ (by decide)).trans ((zupJ (by decide)).trans ((zupJ (by decide)).trans ((zupJ (by decide)).trans ((zupJ (by decide)).trans ((zupJ (by decide)).trans ((zupA (by decide)).trans ((zupA (by decide)).trans ((zupA (by decide)).trans ((zupA (by decide)).trans rfl)))))))))))))))))).trans hK) ?_
                        refine zt_icmp_ge (tgt := 241) dX6_drawCurve_166 (by decide) (by decide) (by decide) (fun q => absurd q (by decide)) (fun c_166 => ?_)
                        refine zt_aload_n dX6_drawCurve_169 rfl ?_
                        refine zt_getv (v := 4) dX6_drawCurve_170 fl_X6_104 (zs_26 hS) (((zupA (by decide)).trans ((zupA (by decide)).trans ((zupA (by decide)).trans ((zupA (by decide)).trans ((zupA (by decide)).trans ((zupA (by decide)).trans ((zupA (by decide)).trans ((zupJ (by decide)).trans ((zupJ (by decide)).trans ((zupJ (by decide)).trans ((zupJ (by decide)).trans ((zupJ (by decide)).trans ((zupJ (by decide)).trans ((zupJ (by decide)).trans ((zupA (by decide)).trans ((zupA (by decide)).trans ((zupA (by decide)).trans ((zupA (by decide)).trans rfl)))))))))))))))))).trans hK) ?_
                        refine zt_iconst dX6_drawCurve_173 ?_
                        refine zt_isub dX6_drawCurve_174 ?_
                        refine zt_topv (v := 3) (by decide) ?_
                        refine zt_istore_n_2 dX6_drawCurve_175 (by decide) rfl ?_
                        refine zt_iload_n dX6_drawCurve_176 rfl ?_
                        refine zt_iload_n dX6_drawCurve_177 rfl ?_
                        refine zt_icmp_lt (tgt := 235) dX6_drawCurve_178 (by decide) (by decide) (by decide) (fun q => absurd q (by decide)) (fun c_178 => ?_)
                        refine zt_aload_n dX6_drawCurve_181 rfl ?_
                        refine zt_getv dX6_drawCurve_182 fl_X6_21 (zs_26 hS) (rf_26_8 hR18) ?_
                        refine zt_iload_n dX6_drawCurve_185 rfl ?_
                        refine zt_ialoadv (v := p3) dX6_drawCurve_186 (zs_30 hS) (by decide) (by decide) (by decide) ((zupA (by decide)).trans ((zupA (by decide)).trans ((zupA (by decide)).trans ((zupA (by decide)).trans ((zupA (by decide)).trans ((zupA (by decide)).trans ((zupA (by decide)).trans ((zupA (by decide)).trans ((zupA (by decide)).trans ((zupA (by decide)).trans ((zupA (by decide)).trans ((zupA (by decide)).trans ((zupA (by decide)).trans ((zupA (by decide)).trans zupE)))))))))))))) ?_
                        refine zt_aload_n dX6_drawCurve_187 rfl ?_
                        refine zt_getv dX6_drawCurve_188 fl_X6_21 (zs_26 hS) (rf_26_8 hR18) ?_
                        refine zt_iload_n dX6_drawCurve_191 rfl ?_
                        refine zt_iload_n dX6_drawCurve_192 rfl ?_
                        refine zt_isub dX6_drawCurve_193 ?_
                        refine zt_topv (v := 1) (by decide) ?_
                        refine zt_ialoadv (v := p1) dX6_drawCurve_194 (zs_30 hS) (by decide) (by decide) (by decide) ((zupA (by decide)).trans ((zupA (by decide)).trans ((zupA (by decide)).trans ((zupA (by decide)).trans ((zupA (by decide)).trans ((zupA (by decide)).trans ((zupA (by decide)).trans ((zupA (by decide)).trans ((zupA (by decide)).trans ((zupA (by decide)).trans ((zupA (by decide)).trans ((zupA (by decide)).trans ((zupA (by decide)).trans ((zupA (by decide)).trans ((zupJ (by decide)).trans ((zupJ (by decide)).trans zupE)))))))))))))))) ?_
                        refine zt_isub dX6_drawCurve_195 ?_
                        refine zt_istore_n_3 dX6_drawCurve_196 (by decide) rfl ?_
                        refine zt_aload_n dX6_drawCurve_197 rfl ?_
                        refine zt_getv dX6_drawCurve_198 fl_X6_24 (zs_26 hS) (rf_26_9 hR18) ?_
                        refine zt_iload_n dX6_drawCurve_201 rfl ?_
                        refine zt_iload_n dX6_drawCurve_202 rfl ?_
                        refine zt_if_ne (tgt := 210) dX6_drawCurve_203 (by decide) (by omega) (fun c_203 => ?_) (fun c_203 => ?_)
                        · refine zt_aload_n dX6_drawCurve_210 rfl ?_
                          refine zt_getv dX6_drawCurve_211 fl_X6_24 (zs_26 hS) (rf_26_9 hR18) ?_
                          refine zt_iload_n dX6_drawCurve_214 rfl ?_
                          refine zt_laloadv (v := cD4_13 p0 p1 p2 p3 y0 y1 y2 y3) dX6_drawCurve_215 (zs_31 hS) (by decide) (by decide) (by decide) ((zupJ (by decide)).trans ((zupJ (by decide)).trans zupE)) ?_
                          refine zt_aload_n dX6_drawCurve_216 rfl ?_
                          refine zt_getv dX6_drawCurve_217 fl_X6_24 (zs_26 hS) (rf_26_9 hR18) ?_
                          refine zt_iload_n dX6_drawCurve_220 rfl ?_
                          refine zt_iconst dX6_drawCurve_221 ?_
                          refine zt_isub dX6_drawCurve_222 ?_
                          refine zt_topv (v := 2) (by decide) ?_
                          refine zt_laloadv (v := cD4_12 p0 p1 p2 p3 y0 y1 y2 y3) dX6_drawCurve_223 (zs_31 hS) (by decide) (by decide) (by decide) ((zupJ (by decide)).trans zupE) ?_
                          refine zt_lsub dX6_drawCurve_224 ?_
                          refine zt_iload_n dX6_drawCurve_225 rfl ?_
                          refine zt_i2l dX6_drawCurve_226 (by omega) ?_
                          refine zt_ldiv dX6_drawCurve_227 (by omega) (by omega) (by omega) ?_
                          have hD23 : -188183335816476 ≤ cD4_23 p0 p1 p2 p3 y0 y1 y2 y3 ∧ cD4_23 p0 p1 p2 p3 y0 y1 y2 y3 ≤ 188183335816476 := zexb nid4_23 (by omega) ⟨by omega, by omega⟩
                          refine zt_topv (v := cD4_23 p0 p1 p2 p3 y0 y1 y2 y3) (zex nid4_23 (by omega)) ?_
                          refine zt_lastore dX6_drawCurve_228 (zs_31 hS) (by decide) (by decide) (by decide) (by omega) ?_
                          have hR19 : zRf (zup (zup (zup (zup (zup (zup (zup (zup (zup (zup (zup (zup (zup (zup (zup (zup (zup (zup (zup h 30 0 p0) 30 1 p1) 30 2 p2) 30 3 p3) 26 10 1) 26 10 (1 * (p1 - p0))) 26 10 ((1 * (p1 - p0)) * (p2 - p0))) 26 10 (((1 * (p1 - p0)) * (p2 - p0)) * (p3 - p0))) 26 10 ((((1 * (p1 - p0)) * (p2 - p0)) * (p3 - p0)) * (p2 - p1))) 26 10 (((((1 * (p1 - p0)) * (p2 - p0)) * (p3 - p0)) * (p2 - p1)) * (p3 - p1))) 26 10 ((((((1 * (p1 - p0)) * (p2 - p0)) * (p3 - p0)) * (p2 - p1)) * (p3 - p1)) * (p3 - p2))) 31 0 (cD4_00 p0 p1 p2 p3 y0 y1 y2 y3)) 31 1 (cD4_01 p0 p1 p2 p3 y0 y1 y2 y3)) 31 2 (cD4_02 p0 p1 p2 p3 y0 y1 y2 y3)) 31 3 (cD4_03 p0 p1 p2 p3 y0 y1 y2 y3)) 31 3 (cD4_13 p0 p1 p2 p3 y0 y1 y2 y3)) 31 2 (cD4_12 p0 p1 p2 p3 y0 y1 y2 y3)) 31 1 (cD4_11 p0 p1 p2 p3 y0 y1 y2 y3)) 31 3 (cD4_23 p0 p1 p2 p3 y0 y1 y2 y3)) := (hR18.upA (by decide))
                          refine zt_iincv_2 (v := 2) dX6_drawCurve_229 (by decide) rfl (by decide) ?_
                          refine zt_goto (tgt := 176) dX6_drawCurve_232 (by decide) ?_
                          refine zt_iload_n dX6_drawCurve_176 rfl ?_
                          refine zt_iload_n dX6_drawCurve_177 rfl ?_
                          refine zt_icmp_lt (tgt := 235) dX6_drawCurve_178 (by decide) (by decide) (by decide) (fun q => absurd q (by decide)) (fun c_178 => ?_)
                          refine zt_aload_n dX6_drawCurve_181 rfl ?_
                          refine zt_getv dX6_drawCurve_182 fl_X6_21 (zs_26 hS) (rf_26_8 hR19) ?_
                          refine zt_iload_n dX6_drawCurve_185 rfl ?_
                          refine zt_ialoadv (v := p2) dX6_drawCurve_186 (zs_30 hS) (by decide) (by decide) (by decide) ((zupA (by decide)).trans ((zupA (by decide)).trans ((zupA (by decide)).trans ((zupA (by decide)).trans ((zupA (by decide)).trans ((zupA (by decide)).trans ((zupA (by decide)).trans ((zupA (by decide)).trans ((zupA (by decide)).trans ((zupA (by decide)).trans ((zupA (by decide)).trans ((zupA (by decide)).trans ((zupA (by decide)).trans ((zupA (by decide)).trans ((zupA (by decide)).trans ((zupJ (by decide)).trans zupE)))))))))))))))) ?_
                          refine zt_aload_n dX6_drawCurve_187 rfl ?_
                          refine zt_getv dX6_drawCurve_188 fl_X6_21 (zs_26 hS) (rf_26_8 hR19) ?_
                          refine zt_iload_n dX6_drawCurve_191 rfl ?_
                          refine zt_iload_n dX6_drawCurve_192 rfl ?_
                          refine zt_isub dX6_drawCurve_193 ?_
                          refine zt_topv (v := 0) (by decide) ?_
                          refine zt_ialoadv (v := p0) dX6_drawCurve_194 (zs_30 hS) (by decide) (by decide) (by decide) ((zupA (by decide)).trans ((zupA (by decide)).trans ((zupA (by decide)).trans ((zupA (by decide)).trans ((zupA (by decide)).trans ((zupA (by decide)).trans ((zupA (by decide)).trans ((zupA (by decide)).trans ((zupA (by decide)).trans ((zupA (by decide)).trans ((zupA (by decide)).trans ((zupA (by decide)).trans ((zupA (by decide)).trans ((zupA (by decide)).trans ((zupA (by decide)).trans ((zupJ (by decide)).trans ((zupJ (by decide)).trans ((zupJ (by decide)).trans zupE)))))))))))))))))) ?_
                          refine zt_isub dX6_drawCurve_195 ?_
                          refine zt_istore_n_3 dX6_drawCurve_196 (by decide) rfl ?_
                          refine zt_aload_n dX6_drawCurve_197 rfl ?_
                          refine zt_getv dX6_drawCurve_198 fl_X6_24 (zs_26 hS) (rf_26_9 hR19) ?_
                          refine zt_iload_n dX6_drawCurve_201 rfl ?_
                          refine zt_iload_n dX6_drawCurve_202 rfl ?_
                          refine zt_if_ne (tgt := 210) dX6_drawCurve_203 (by decide) (by omega) (fun c_203 => ?_) (fun c_203 => ?_)
                          · refine zt_aload_n dX6_drawCurve_210 rfl ?_
                            refine zt_getv dX6_drawCurve_211 fl_X6_24 (zs_26 hS) (rf_26_9 hR19) ?_
                            refine zt_iload_n dX6_drawCurve_214 rfl ?_
                            refine zt_laloadv (v := cD4_12 p0 p1 p2 p3 y0 y1 y2 y3) dX6_drawCurve_215 (zs_31 hS) (by decide) (by decide) (by decide) ((zupJ (by decide)).trans ((zupJ (by decide)).trans zupE)) ?_
                            refine zt_aload_n dX6_drawCurve_216 rfl ?_
                            refine zt_getv dX6_drawCurve_217 fl_X6_24 (zs_26 hS) (rf_26_9 hR19) ?_
                            refine zt_iload_n dX6_drawCurve_220 rfl ?_
                            refine zt_iconst dX6_drawCurve_221 ?_
                            refine zt_isub dX6_drawCurve_222 ?_
                            refine zt_topv (v := 1) (by decide) ?_
                            refine zt_laloadv (v := cD4_11 p0 p1 p2 p3 y0 y1 y2 y3) dX6_drawCurve_223 (zs_31 hS) (by decide) (by decide) (by decide) ((zupJ (by decide)).trans zupE) ?_
                            refine zt_lsub dX6_drawCurve_224 ?_
                            refine zt_iload_n dX6_drawCurve_225 rfl ?_
                            refine zt_i2l dX6_drawCurve_226 (by omega) ?_
                            refine zt_ldiv dX6_drawCurve_227 (by omega) (by omega) (by omega) ?_
                            have hD22 : -188183335816476 ≤ cD4_22 p0 p1 p2 p3 y0 y1 y2 y3 ∧ cD4_22 p0 p1 p2 p3 y0 y1 y2 y3 ≤ 188183335816476 := zexb nid4_22 (by omega) ⟨by omega, by omega⟩
                            refine zt_topv (v := cD4_22 p0 p1 p2 p3 y0 y1 y2 y3) (zex nid4_22 (by omega)) ?_
                            refine zt_lastore dX6_drawCurve_228 (zs_31 hS) (by decide) (by decide) (by decide) (by omega) ?_
                            have hR20 : zRf (zup (zup (zup (zup (zup (zup (zup (zup (zup (zup (zup (zup (zup (zup (zup (zup (zup (zup (zup (zup h 30 0 p0) 30 1 p1) 30 2 p2) 30 3 p3) 26 10 1) 26 10 (1 * (p1 - p0))) 26 10 ((1 * (p1 - p0)) * (p2 - p0))) 26 10 (((1 * (p1 - p0)) * (p2 - p0)) * (p3 - p0))) 26 10 ((((1 * (p1 - p0)) * (p2 - p0)) * (p3 - p0)) * (p2 - p1))) 26 10 (((((1 * (p1 - p0)) * (p2 - p0)) * (p3 - p0)) * (p2 - p1)) * (p3 - p1))) 26 10 ((((((1 * (p1 - p0)) * (p2 - p0)) * (p3 - p0)) * (p2 - p1)) * (p3 - p1)) * (p3 - p2))) 31 0 (cD4_00 p0 p1 p2 p3 y0 y1 y2 y3)) 31 1 (cD4_01 p0 p1 p2 p3 y0 y1 y2 y3)) 31 2 (cD4_02 p0 p1 p2 p3 y0 y1 y2 y3)) 31 3 (cD4_03 p0 p1 p2 p3 y0 y1 y2 y3)) 31 3 (cD4_13 p0 p1 p2 p3 y0 y1 y2 y3)) 31 2 (cD4_12 p0 p1 p2 p3 y0 y1 y2 y3)) 31 1 (cD4_11 p0 p1 p2 p3 y0 y1 y2 y3)) 31 3 (cD4_23 p0 p1 p2 p3 y0 y1 y2 y3)) 31 2 (cD4_22 p0 p1 p2 p3 y0 y1 y2 y3)) := (hR19.upA (by decide))
                            refine zt_iincv_2 (v := 1) dX6_drawCurve_229 (by decide) rfl (by decide) ?_
                            refine zt_goto (tgt := 176) dX6_drawCurve_232 (by decide) ?_
                            refine zt_iload_n dX6_drawCurve_176 rfl ?_
                            refine zt_iload_n dX6_drawCurve_177 rfl ?_
                            refine zt_icmp_lt (tgt := 235) dX6_drawCurve_178 (by decide) (by decide) (by decide) (fun c_178 => ?_) (fun q => absurd q (by decide))
                            refine zt_iincv_1 (v := 3) dX6_drawCurve_235 (by decide) rfl (by decide) ?_
                            refine zt_goto (tgt := 161) dX6_drawCurve_238 (by decide) ?_
                            refine zt_iload_n dX6_drawCurve_161 rfl ?_
                            refine zt_aload_n dX6_drawCurve_162 rfl ?_
                            refine zt_getv (v := 4) dX6_drawCurve_163 fl_X6_104 (zs_26 hS) (((zupA (by decide)).trans ((zupA (by decide)).trans ((zupA (by decide)).trans ((zupA (by decide)).trans ((zupA (by decide)).trans ((zupA (by decide)).trans ((zupA (by decide)).trans ((zupA (by decide)).trans ((zupA (by decide)).trans ((zupJ (by decide)).trans ((zupJ (by decide)).trans ((zupJ (by decide)).trans ((zupJ (by decide)).trans ((zupJ (by decide)).trans ((zupJ (by decide)).trans ((zupJ (by decide)).trans ((zupA (by decide)).trans ((zupA (by decide)).trans ((zupA (by decide)).trans ((zupA (by decide)).trans rfl)))))))))))))))))))).trans hK) ?_
                            refine zt_icmp_ge (tgt := 241) dX6_drawCurve_166 (by decide) (by decide) (by decide) (fun q => absurd q (by decide)) (fun c_166 => ?_)
                            refine zt_aload_n dX6_drawCurve_169 rfl ?_
                            refine zt_getv (v := 4) dX6_drawCurve_170 fl_X6_104 (zs_26 hS) (((zupA (by decide)).trans ((zupA (by decide)).trans ((zupA (by decide)).trans ((zupA (by decide)).trans ((zupA (by decide)).trans ((zupA (by decide)).trans ((zupA (by decide)).trans ((zupA (by decide)).trans ((zupA (by decide)).trans ((zupJ (by decide)).trans ((zupJ (by decide)).trans ((zupJ (by decide)).trans ((zupJ (by decide)).trans ((zupJ (by decide)).trans ((zupJ (by decide)).trans ((zupJ (by decide)).trans ((zupA (by decide)).trans ((zupA (by decide)).trans ((zupA (by decide)).trans ((zupA (by decide)).trans rfl)))))))))))))))))))).trans hK) ?_
                            refine zt_iconst dX6_drawCurve_173 ?_
                            refine zt_isub dX6_drawCurve_174 ?_
                            refine zt_topv (v := 3) (by decide) ?_
                            refine zt_istore_n_2 dX6_drawCurve_175 (by decide) rfl ?_
                            refine zt_iload_n dX6_drawCurve_176 rfl ?_
                            refine zt_iload_n dX6_drawCurve_177 rfl ?_
                            refine zt_icmp_lt (tgt := 235) dX6_drawCurve_178 (by decide) (by decide) (by decide) (fun q => absurd q (by decide)) (fun c_178 => ?_)
                            refine zt_aload_n dX6_drawCurve_181 rfl ?_
                            refine zt_getv dX6_drawCurve_182 fl_X6_21 (zs_26 hS) (rf_26_8 hR20) ?_
                            refine zt_iload_n dX6_drawCurve_185 rfl ?_
                            refine zt_ialoadv (v := p3) dX6_drawCurve_186 (zs_30 hS) (by decide) (by decide) (by decide) ((zupA (by decide)).trans ((zupA (by decide)).trans ((zupA (by decide)).trans ((zupA (by decide)).trans ((zupA (by decide)).trans ((zupA (by decide)).trans ((zupA (by decide)).trans ((zupA (by decide)).trans ((zupA (by decide)).trans ((zupA (by decide)).trans ((zupA (by decide)).trans ((zupA (by decide)).trans ((zupA (by decide)).trans ((zupA (by decide)).trans ((zupA (by decide)).trans ((zupA (by decide)).trans zupE)))))))))))))))) ?_
                            refine zt_aload_n dX6_drawCurve_187 rfl ?_
                            refine zt_getv dX6_drawCurve_188 fl_X6_21 (zs_26 hS) (rf_26_8 hR20) ?_
                            refine zt_iload_n dX6_drawCurve_191 rfl ?_
                            refine zt_iload_n dX6_drawCurve_192 rfl ?_
                            refine zt_isub dX6_drawCurve_193 ?_
                            refine zt_topv (v := 0) (by decide) ?_
                            refine zt_ialoadv (v := p0) dX6_drawCurve_194 (zs_30 hS) (by decide) (by decide) (by decide) ((zupA (by decide)).trans ((zupA (by decide)).trans ((zupA (by decide)).trans ((zupA (by decide)).trans ((zupA (by decide)).trans ((zupA (by decide)).trans ((zupA (by decide)).trans ((zupA (by decide)).trans ((zupA (by decide)).trans ((zupA (by decide)).trans ((zupA (by decide)).trans ((zupA (by decide)).trans ((zupA (by decide)).trans ((zupA (by decide)).trans ((zupA (by decide)).trans ((zupA (by decide)).trans ((zupJ (by decide)).trans ((zupJ (by decide)).trans ((zupJ (by decide)).trans zupE))))))))))))))))))) ?_
                            refine zt_isub dX6_drawCurve_195 ?_
                            refine zt_istore_n_3 dX6_drawCurve_196 (by decide) rfl ?_
                            refine zt_aload_n dX6_drawCurve_197 rfl ?_
                            refine zt_getv dX6_drawCurve_198 fl_X6_24 (zs_26 hS) (rf_26_9 hR20) ?_
                            refine zt_iload_n dX6_drawCurve_201 rfl ?_
                            refine zt_iload_n dX6_drawCurve_202 rfl ?_
                            refine zt_if_ne (tgt := 210) dX6_drawCurve_203 (by decide) (by omega) (fun c_203 => ?_) (fun c_203 => ?_)
                            · refine zt_aload_n dX6_drawCurve_210 rfl ?_
                              refine zt_getv dX6_drawCurve_211 fl_X6_24 (zs_26 hS) (rf_26_9 hR20) ?_
                              refine zt_iload_n dX6_drawCurve_214 rfl ?_
                              refine zt_laloadv (v := cD4_23 p0 p1 p2 p3 y0 y1 y2 y3) dX6_drawCurve_215 (zs_31 hS) (by decide) (by decide) (by decide) ((zupJ (by decide)).trans zupE) ?_
                              refine zt_aload_n dX6_drawCurve_216 rfl ?_
                              refine zt_getv dX6_drawCurve_217 fl_X6_24 (zs_26 hS) (rf_26_9 hR20) ?_
                              refine zt_iload_n dX6_drawCurve_220 rfl ?_
                              refine zt_iconst dX6_drawCurve_221 ?_
                              refine zt_isub dX6_drawCurve_222 ?_
                              refine zt_topv (v := 2) (by decide) ?_
                              refine zt_laloadv (v := cD4_22 p0 p1 p2 p3 y0 y1 y2 y3) dX6_drawCurve_223 (zs_31 hS) (by decide) (by decide) (by decide) zupE ?_
                              refine zt_lsub dX6_drawCurve_224 ?_
                              refine zt_iload_n dX6_drawCurve_225 rfl ?_
                              refine zt_i2l dX6_drawCurve_226 (by omega) ?_
                              refine zt_ldiv dX6_drawCurve_227 (by omega) (by omega) (by omega) ?_
                              have hD33 : -376366671632952 ≤ cD4_33 p0 p1 p2 p3 y0 y1 y2 y3 ∧ cD4_33 p0 p1 p2 p3 y0 y1 y2 y3 ≤ 376366671632952 := zexb nid4_33 (by omega) ⟨by omega, by omega⟩
                              refine zt_topv (v := cD4_33 p0 p1 p2 p3 y0 y1 y2 y3) (zex nid4_33 (by omega)) ?_
                              refine zt_lastore dX6_drawCurve_228 (zs_31 hS) (by decide) (by decide) (by decide) (by omega) ?_
                              have hR21 : zRf (zup (zup (zup (zup (zup (zup (zup (zup (zup (zup (zup (zup (zup (zup (zup (zup (zup (zup (zup (zup (zup h 30 0 p0) 30 1 p1) 30 2 p2) 30 3 p3) 26 10 1) 26 10 (1 * (p1 - p0))) 26 10 ((1 * (p1 - p0)) * (p2 - p0))) 26 10 (((1 * (p1 - p0)) * (p2 - p0)) * (p3 - p0))) 26 10 ((((1 * (p1 - p0)) * (p2 - p0)) * (p3 - p0)) * (p2 - p1))) 26 10 (((((1 * (p1 - p0)) * (p2 - p0)) * (p3 - p0)) * (p2 - p1)) * (p3 - p1))) 26 10 ((((((1 * (p1 - p0)) * (p2 - p0)) * (p3 - p0)) * (p2 - p1)) * (p3 - p1)) * (p3 - p2))) 31 0 (cD4_00 p0 p1 p2 p3 y0 y1 y2 y3)) 31 1 (cD4_01 p0 p1 p2 p3 y0 y1 y2 y3)) 31 2 (cD4_02 p0 p1 p2 p3 y0 y1 y2 y3)) 31 3 (cD4_03 p0 p1 p2 p3 y0 y1 y2 y3)) 31 3 (cD4_13 p0 p1 p2 p3 y0 y1 y2 y3)) 31 2 (cD4_12 p0 p1 p2 p3 y0 y1 y2 y3)) 31 1 (cD4_11 p0 p1 p2 p3 y0 y1 y2 y3)) 31 3 (cD4_23 p0 p1 p2 p3 y0 y1 y2 y3)) 31 2 (cD4_22 p0 p1 p2 p3 y0 y1 y2 y3)) 31 3 (cD4_33 p0 p1 p2 p3 y0 y1 y2 y3)) := (hR20.upA (by decide))
                              refine zt_iincv_2 (v := 2) dX6_drawCurve_229 (by decide) rfl (by decide) ?_
                              refine zt_goto (tgt := 176) dX6_drawCurve_232 (by decide) ?_
                              refine zt_iload_n dX6_drawCurve_176 rfl ?_
                              refine zt_iload_n dX6_drawCurve_177 rfl ?_
                              refine zt_icmp_lt (tgt := 235) dX6_drawCurve_178 (by decide) (by decide) (by decide) (fun c_178 => ?_) (fun q => absurd q (by decide))
                              refine zt_iincv_1 (v := 4) dX6_drawCurve_235 (by decide) rfl (by decide) ?_
                              refine zt_goto (tgt := 161) dX6_drawCurve_238 (by decide) ?_
                              refine zt_iload_n dX6_drawCurve_161 rfl ?_
                              refine zt_aload_n dX6_drawCurve_162 rfl ?_
                              refine zt_getv (v := 4) dX6_drawCurve_163 fl_X6_104 (zs_26 hS) (((zupA (by decide)).trans ((zupA (by decide)).trans ((zupA (by decide)).trans ((zupA (by decide)).trans ((zupA (by decide)).trans ((zupA (by decide)).trans ((zupA (by decide)).trans ((zupA (by decide)).trans ((zupA (by decide)).trans ((zupA (by decide)).trans ((zupJ (by decide)).trans ((zupJ (by decide)).trans ((zupJ (by decide)).trans ((zupJ (by decide)).trans ((zupJ (by decide)).trans ((zupJ (by decide)).trans ((zupJ (by decide)).trans ((zupA (by decide)).trans ((zupA (by decide)).trans ((zupA (by decide)).trans ((zupA (by decide)).trans rfl))))))))))))))))))))).trans hK) ?_
                              refine zt_icmp_ge (tgt := 241) dX6_drawCurve_166 (by decide) (by decide) (by decide) (fun c_166 => ?_) (fun q => absurd q (by decide))
                              exact zt_vret dX6_drawCurve_241 ⟨rfl, rfl, rfl, ⟨fun x q1 q2 q3 q4 => by (repeat rw [zup_ne (by assumption)]); (try rfl), fun y q1 q2 => by (repeat first | rw [zupA (by decide)] | rw [zupJ (by assumption)]); (try rfl), hR21⟩, by (repeat rw [zup_ne (by decide)]), by (repeat first | rw [zupE] | rw [zupA (by decide)] | rw [zupJ (by decide)]); exact hK, by (repeat first | rw [zupE] | rw [zupA (by decide)] | rw [zupJ (by decide)]); (try rfl), ⟨by (repeat first | rw [zupE] | rw [zupA (by decide)] | rw [zupJ (by decide)]), by (repeat first | rw [zupE] | rw [zupA (by decide)] | rw [zupJ (by decide)]); (try rfl)⟩, ⟨by (repeat first | rw [zupE] | rw [zupA (by decide)] | rw [zupJ (by decide)]), by (repeat first | rw [zupE] | rw [zupA (by decide)] | rw [zupJ (by decide)]); (try rfl)⟩, ⟨by (repeat first | rw [zupE] | rw [zupA (by decide)] | rw [zupJ (by decide)]), by (repeat first | rw [zupE] | rw [zupA (by decide)] | rw [zupJ (by decide)]); (try rfl)⟩, ⟨by (repeat first | rw [zupE] | rw [zupA (by decide)] | rw [zupJ (by decide)]), by (repeat first | rw [zupE] | rw [zupA (by decide)] | rw [zupJ (by decide)]); (try rfl)⟩⟩
                            · exfalso
                              omega
                          · exfalso
                            omega
                        · exfalso
                          omega
                      · exfalso
                        omega
                    · exfalso
                      omega
                  · exfalso
                    omega

set_option maxRecDepth 100000 in
set_option maxHeartbeats 4000000 in
theorem c_cvat1 {d n : Nat} {sh : zSh} {h : zMem} {p0 y0 : Int} {x : Int} (hS : zShp sh) (hR : zRf h) (hK : h 26 7 = 1) (hp0 : h 30 0 = p0) (hb0 : 0 ≤ p0 ∧ p0 < 20) (hn0 : h 31 0 = cD1_00 p0 y0) (hx : 0 ≤ x ∧ x < 20) : zF yX6_curveAt cX6_curveAt 5 (some .long) (d + 0) 0 0 [(2, 26), (0, x)] n sh h (some (1, cP1 p0 y0 x)) n sh h := by
  refine zF.ofT (by decide +kernel) [some (2, 26), some (0, x), none, none, none] rfl (Nat.le_of_ble_eq_true rfl) ?_
  refine zt_lconst (v := 0) dX6_curveAt_0 rfl ?_
  refine zt_lstore_n_2 dX6_curveAt_1 (by decide) rfl ?_
  refine zt_aload_n dX6_curveAt_2 rfl ?_
  refine zt_getv (v := 1) dX6_curveAt_3 fl_X6_104 (zs_26 hS) hK ?_
  refine zt_iconst dX6_curveAt_6 ?_
  refine zt_isub dX6_curveAt_7 ?_
  refine zt_topv (v := 0) (by decide) ?_
  refine zt_istore_4 dX6_curveAt_8 (by decide) rfl ?_
  refine zt_iload dX6_curveAt_10 rfl ?_
  refine zt_if_lt (tgt := 42) dX6_curveAt_12 (by decide) (by decide) (fun q => absurd q (by decide)) (fun c_12 => ?_)
  refine zt_lload_n dX6_curveAt_15 rfl ?_
  refine zt_iload_n dX6_curveAt_16 rfl ?_
  refine zt_aload_n dX6_curveAt_17 rfl ?_
  refine zt_getv dX6_curveAt_18 fl_X6_21 (zs_26 hS) (rf_26_8 hR) ?_
  refine zt_iload dX6_curveAt_21 rfl ?_
  refine zt_ialoadv (v := p0) dX6_curveAt_23 (zs_30 hS) (by decide) (by decide) (by decide) hp0 ?_
  refine zt_isub dX6_curveAt_24 ?_
  refine zt_i2l dX6_curveAt_25 (by omega) ?_
  refine zt_lmul dX6_curveAt_26 ?_
  refine zt_aload_n dX6_curveAt_27 rfl ?_
  refine zt_getv dX6_curveAt_28 fl_X6_24 (zs_26 hS) (rf_26_9 hR) ?_
  refine zt_iload dX6_curveAt_31 rfl ?_
  refine zt_laloadv (v := cD1_00 p0 y0) dX6_curveAt_33 (zs_31 hS) (by decide) (by decide) (by decide) hn0 ?_
  refine zt_ladd dX6_curveAt_34 ?_
  refine zt_lstore_n_2 dX6_curveAt_35 (by decide) rfl ?_
  refine zt_iincv_4 (v := -1) dX6_curveAt_36 (by decide) rfl (by decide) ?_
  refine zt_goto (tgt := 10) dX6_curveAt_39 (by decide) ?_
  refine zt_iload dX6_curveAt_10 rfl ?_
  refine zt_if_lt (tgt := 42) dX6_curveAt_12 (by decide) (by decide) (fun c_12 => ?_) (fun q => absurd q (by decide))
  refine zt_lload_n dX6_curveAt_42 rfl ?_
  exact zt_lret dX6_curveAt_43 ⟨congrArg (fun z => some ((1, z) : zV)) hid1, rfl, rfl, rfl⟩

set_option maxRecDepth 100000 in
set_option maxHeartbeats 4000000 in
theorem c_cvat2 {d n : Nat} {sh : zSh} {h : zMem} {p0 p1 y0 y1 : Int} {x : Int} (hS : zShp sh) (hR : zRf h) (hK : h 26 7 = 2) (hp0 : h 30 0 = p0) (hb0 : 0 ≤ p0 ∧ p0 < 20) (hn0 : h 31 0 = cD2_00 p0 p1 y0 y1) (hp1 : h 30 1 = p1) (hb1 : 0 ≤ p1 ∧ p1 < 20) (hn1 : h 31 1 = cD2_11 p0 p1 y0 y1) (hx : 0 ≤ x ∧ x < 20) : zF yX6_curveAt cX6_curveAt 5 (some .long) (d + 0) 0 0 [(2, 26), (0, x)] n sh h (some (1, cP2 p0 p1 y0 y1 x)) n sh h := by
  refine zF.ofT (by decide +kernel) [some (2, 26), some (0, x), none, none, none] rfl (Nat.le_of_ble_eq_true rfl) ?_
  refine zt_lconst (v := 0) dX6_curveAt_0 rfl ?_
  refine zt_lstore_n_2 dX6_curveAt_1 (by decide) rfl ?_
  refine zt_aload_n dX6_curveAt_2 rfl ?_
  refine zt_getv (v := 2) dX6_curveAt_3 fl_X6_104 (zs_26 hS) hK ?_
  refine zt_iconst dX6_curveAt_6 ?_
  refine zt_isub dX6_curveAt_7 ?_
  refine zt_topv (v := 1) (by decide) ?_
  refine zt_istore_4 dX6_curveAt_8 (by decide) rfl ?_
  refine zt_iload dX6_curveAt_10 rfl ?_
  refine zt_if_lt (tgt := 42) dX6_curveAt_12 (by decide) (by decide) (fun q => absurd q (by decide)) (fun c_12 => ?_)
  refine zt_lload_n dX6_curveAt_15 rfl ?_
  refine zt_iload_n dX6_curveAt_16 rfl ?_
  refine zt_aload_n dX6_curveAt_17 rfl ?_
  refine zt_getv dX6_curveAt_18 fl_X6_21 (zs_26 hS) (rf_26_8 hR) ?_
  refine zt_iload dX6_curveAt_21 rfl ?_
  refine zt_ialoadv (v := p1) dX6_curveAt_23 (zs_30 hS) (by decide) (by decide) (by decide) hp1 ?_
  refine zt_isub dX6_curveAt_24 ?_
  refine zt_i2l dX6_curveAt_25 (by omega) ?_
  refine zt_lmul dX6_curveAt_26 ?_
  refine zt_aload_n dX6_curveAt_27 rfl ?_
  refine zt_getv dX6_curveAt_28 fl_X6_24 (zs_26 hS) (rf_26_9 hR) ?_
  refine zt_iload dX6_curveAt_31 rfl ?_
  refine zt_laloadv (v := cD2_11 p0 p1 y0 y1) dX6_curveAt_33 (zs_31 hS) (by decide) (by decide) (by decide) hn1 ?_
  refine zt_ladd dX6_curveAt_34 ?_
  refine zt_lstore_n_2 dX6_curveAt_35 (by decide) rfl ?_
  refine zt_iincv_4 (v := 0) dX6_curveAt_36 (by decide) rfl (by decide) ?_
  refine zt_goto (tgt := 10) dX6_curveAt_39 (by decide) ?_
  refine zt_iload dX6_curveAt_10 rfl ?_
  refine zt_if_lt (tgt := 42) dX6_curveAt_12 (by decide) (by decide) (fun q => absurd q (by decide)) (fun c_12 => ?_)
  refine zt_lload_n dX6_curveAt_15 rfl ?_
  refine zt_iload_n dX6_curveAt_16 rfl ?_
  refine zt_aload_n dX6_curveAt_17 rfl ?_
  refine zt_getv dX6_curveAt_18 fl_X6_21 (zs_26 hS) (rf_26_8 hR) ?_
  refine zt_iload dX6_curveAt_21 rfl ?_
  refine zt_ialoadv (v := p0) dX6_curveAt_23 (zs_30 hS) (by decide) (by decide) (by decide) hp0 ?_
  refine zt_isub dX6_curveAt_24 ?_
  refine zt_i2l dX6_curveAt_25 (by omega) ?_
  refine zt_lmul dX6_curveAt_26 ?_
  refine zt_aload_n dX6_curveAt_27 rfl ?_
  refine zt_getv dX6_curveAt_28 fl_X6_24 (zs_26 hS) (rf_26_9 hR) ?_
  refine zt_iload dX6_curveAt_31 rfl ?_
  refine zt_laloadv (v := cD2_00 p0 p1 y0 y1) dX6_curveAt_33 (zs_31 hS) (by decide) (by decide) (by decide) hn0 ?_
  refine zt_ladd dX6_curveAt_34 ?_
  refine zt_lstore_n_2 dX6_curveAt_35 (by decide) rfl ?_
  refine zt_iincv_4 (v := -1) dX6_curveAt_36 (by decide) rfl (by decide) ?_
  refine zt_goto (tgt := 10) dX6_curveAt_39 (by decide) ?_
  refine zt_iload dX6_curveAt_10 rfl ?_
  refine zt_if_lt (tgt := 42) dX6_curveAt_12 (by decide) (by decide) (fun c_12 => ?_) (fun q => absurd q (by decide))
  refine zt_lload_n dX6_curveAt_42 rfl ?_
  exact zt_lret dX6_curveAt_43 ⟨congrArg (fun z => some ((1, z) : zV)) hid2, rfl, rfl, rfl⟩

set_option maxRecDepth 100000 in
set_option maxHeartbeats 4000000 in
theorem c_cvat3 {d n : Nat} {sh : zSh} {h : zMem} {p0 p1 p2 y0 y1 y2 : Int} {x : Int} (hS : zShp sh) (hR : zRf h) (hK : h 26 7 = 3) (hp0 : h 30 0 = p0) (hb0 : 0 ≤ p0 ∧ p0 < 20) (hn0 : h 31 0 = cD3_00 p0 p1 p2 y0 y1 y2) (hp1 : h 30 1 = p1) (hb1 : 0 ≤ p1 ∧ p1 < 20) (hn1 : h 31 1 = cD3_11 p0 p1 p2 y0 y1 y2) (hp2 : h 30 2 = p2) (hb2 : 0 ≤ p2 ∧ p2 < 20) (hn2 : h 31 2 = cD3_22 p0 p1 p2 y0 y1 y2) (hx : 0 ≤ x ∧ x < 20) : zF yX6_curveAt cX6_curveAt 5 (some .long) (d + 0) 0 0 [(2, 26), (0, x)] n sh h (some (1, cP3 p0 p1 p2 y0 y1 y2 x)) n sh h := by
  refine zF.ofT (by decide +kernel) [some (2, 26), some (0, x), none, none, none] rfl (Nat.le_of_ble_eq_true rfl) ?_
  refine zt_lconst (v := 0) dX6_curveAt_0 rfl ?_
  refine zt_lstore_n_2 dX6_curveAt_1 (by decide) rfl ?_
  refine zt_aload_n dX6_curveAt_2 rfl ?_
  refine zt_getv (v := 3) dX6_curveAt_3 fl_X6_104 (zs_26 hS) hK ?_
  refine zt_iconst dX6_curveAt_6 ?_
  refine zt_isub dX6_curveAt_7 ?_
  refine zt_topv (v := 2) (by decide) ?_
  refine zt_istore_4 dX6_curveAt_8 (by decide) rfl ?_
  refine zt_iload dX6_curveAt_10 rfl ?_
  refine zt_if_lt (tgt := 42) dX6_curveAt_12 (by decide) (by decide) (fun q => absurd q (by decide)) (fun c_12 => ?_)
  refine zt_lload_n dX6_curveAt_15 rfl ?_
  refine zt_iload_n dX6_curveAt_16 rfl ?_
  refine zt_aload_n dX6_curveAt_17 rfl ?_
  refine zt_getv dX6_curveAt_18 fl_X6_21 (zs_26 hS) (rf_26_8 hR) ?_
  refine zt_iload dX6_curveAt_21 rfl ?_
  refine zt_ialoadv (v := p2) dX6_curveAt_23 (zs_30 hS) (by decide) (by decide) (by decide) hp2 ?_
  refine zt_isub dX6_curveAt_24 ?_
  refine zt_i2l dX6_curveAt_25 (by omega) ?_
  refine zt_lmul dX6_curveAt_26 ?_
  refine zt_aload_n dX6_curveAt_27 rfl ?_
  refine zt_getv dX6_curveAt_28 fl_X6_24 (zs_26 hS) (rf_26_9 hR) ?_
  refine zt_iload dX6_curveAt_31 rfl ?_
  refine zt_laloadv (v := cD3_22 p0 p1 p2 y0 y1 y2) dX6_curveAt_33 (zs_31 hS) (by decide) (by decide) (by decide) hn2 ?_
  refine zt_ladd dX6_curveAt_34 ?_
  refine zt_lstore_n_2 dX6_curveAt_35 (by decide) rfl ?_
  refine zt_iincv_4 (v := 1) dX6_curveAt_36 (by decide) rfl (by decide) ?_
  refine zt_goto (tgt := 10) dX6_curveAt_39 (by decide) ?_
  refine zt_iload dX6_curveAt_10 rfl ?_
  refine zt_if_lt (tgt := 42) dX6_curveAt_12 (by decide) (by decide) (fun q => absurd q (by decide)) (fun c_12 => ?_)
  refine zt_lload_n dX6_curveAt_15 rfl ?_
  refine zt_iload_n dX6_curveAt_16 rfl ?_
  refine zt_aload_n dX6_curveAt_17 rfl ?_
  refine zt_getv dX6_curveAt_18 fl_X6_21 (zs_26 hS) (rf_26_8 hR) ?_
  refine zt_iload dX6_curveAt_21 rfl ?_
  refine zt_ialoadv (v := p1) dX6_curveAt_23 (zs_30 hS) (by decide) (by decide) (by decide) hp1 ?_
  refine zt_isub dX6_curveAt_24 ?_
  refine zt_i2l dX6_curveAt_25 (by omega) ?_
  refine zt_lmul dX6_curveAt_26 ?_
  refine zt_aload_n dX6_curveAt_27 rfl ?_
  refine zt_getv dX6_curveAt_28 fl_X6_24 (zs_26 hS) (rf_26_9 hR) ?_
  refine zt_iload dX6_curveAt_31 rfl ?_
  refine zt_laloadv (v := cD3_11 p0 p1 p2 y0 y1 y2) dX6_curveAt_33 (zs_31 hS) (by decide) (by decide) (by decide) hn1 ?_
  refine zt_ladd dX6_curveAt_34 ?_
  refine zt_lstore_n_2 dX6_curveAt_35 (by decide) rfl ?_
  refine zt_iincv_4 (v := 0) dX6_curveAt_36 (by decide) rfl (by decide) ?_
  refine zt_goto (tgt := 10) dX6_curveAt_39 (by decide) ?_
  refine zt_iload dX6_curveAt_10 rfl ?_
  refine zt_if_lt (tgt := 42) dX6_curveAt_12 (by decide) (by decide) (fun q => absurd q (by decide)) (fun c_12 => ?_)
  refine zt_lload_n dX6_curveAt_15 rfl ?_
  refine zt_iload_n dX6_curveAt_16 rfl ?_
  refine zt_aload_n dX6_curveAt_17 rfl ?_
  refine zt_getv dX6_curveAt_18 fl_X6_21 (zs_26 hS) (rf_26_8 hR) ?_
  refine zt_iload dX6_curveAt_21 rfl ?_
  refine zt_ialoadv (v := p0) dX6_curveAt_23 (zs_30 hS) (by decide) (by decide) (by decide) hp0 ?_
  refine zt_isub dX6_curveAt_24 ?_
  refine zt_i2l dX6_curveAt_25 (by omega) ?_
  refine zt_lmul dX6_curveAt_26 ?_
  refine zt_aload_n dX6_curveAt_27 rfl ?_
  refine zt_getv dX6_curveAt_28 fl_X6_24 (zs_26 hS) (rf_26_9 hR) ?_
  refine zt_iload dX6_curveAt_31 rfl ?_
  refine zt_laloadv (v := cD3_00 p0 p1 p2 y0 y1 y2) dX6_curveAt_33 (zs_31 hS) (by decide) (by decide) (by decide) hn0 ?_
  refine zt_ladd dX6_curveAt_34 ?_
  refine zt_lstore_n_2 dX6_curveAt_35 (by decide) rfl ?_
  refine zt_iincv_4 (v := -1) dX6_curveAt_36 (by decide) rfl (by decide) ?_
  refine zt_goto (tgt := 10) dX6_curveAt_39 (by decide) ?_
  refine zt_iload dX6_curveAt_10 rfl ?_
  refine zt_if_lt (tgt := 42) dX6_curveAt_12 (by decide) (by decide) (fun c_12 => ?_) (fun q => absurd q (by decide))
  refine zt_lload_n dX6_curveAt_42 rfl ?_
  exact zt_lret dX6_curveAt_43 ⟨congrArg (fun z => some ((1, z) : zV)) hid3, rfl, rfl, rfl⟩

set_option maxRecDepth 100000 in
set_option maxHeartbeats 4000000 in
theorem c_cvat4 {d n : Nat} {sh : zSh} {h : zMem} {p0 p1 p2 p3 y0 y1 y2 y3 : Int} {x : Int} (hS : zShp sh) (hR : zRf h) (hK : h 26 7 = 4) (hp0 : h 30 0 = p0) (hb0 : 0 ≤ p0 ∧ p0 < 20) (hn0 : h 31 0 = cD4_00 p0 p1 p2 p3 y0 y1 y2 y3) (hp1 : h 30 1 = p1) (hb1 : 0 ≤ p1 ∧ p1 < 20) (hn1 : h 31 1 = cD4_11 p0 p1 p2 p3 y0 y1 y2 y3) (hp2 : h 30 2 = p2) (hb2 : 0 ≤ p2 ∧ p2 < 20) (hn2 : h 31 2 = cD4_22 p0 p1 p2 p3 y0 y1 y2 y3) (hp3 : h 30 3 = p3) (hb3 : 0 ≤ p3 ∧ p3 < 20) (hn3 : h 31 3 = cD4_33 p0 p1 p2 p3 y0 y1 y2 y3) (hx : 0 ≤ x ∧ x < 20) : zF yX6_curveAt cX6_curveAt 5 (some .long) (d + 0) 0 0 [(2, 26), (0, x)] n sh h (some (1, cP4 p0 p1 p2 p3 y0 y1 y2 y3 x)) n sh h := by
  refine zF.ofT (by decide +kernel) [some (2, 26), some (0, x), none, none, none] rfl (Nat.le_of_ble_eq_true rfl) ?_
  refine zt_lconst (v := 0) dX6_curveAt_0 rfl ?_
  refine zt_lstore_n_2 dX6_curveAt_1 (by decide) rfl ?_
  refine zt_aload_n dX6_curveAt_2 rfl ?_
  refine zt_getv (v := 4) dX6_curveAt_3 fl_X6_104 (zs_26 hS) hK ?_
  refine zt_iconst dX6_curveAt_6 ?_
  refine zt_isub dX6_curveAt_7 ?_
  refine zt_topv (v := 3) (by decide) ?_
  refine zt_istore_4 dX6_curveAt_8 (by decide) rfl ?_
  refine zt_iload dX6_curveAt_10 rfl ?_
  refine zt_if_lt (tgt := 42) dX6_curveAt_12 (by decide) (by decide) (fun q => absurd q (by decide)) (fun c_12 => ?_)
  refine zt_lload_n dX6_curveAt_15 rfl ?_
  refine zt_iload_n dX6_curveAt_16 rfl ?_
  refine zt_aload_n dX6_curveAt_17 rfl ?_
  refine zt_getv dX6_curveAt_18 fl_X6_21 (zs_26 hS) (rf_26_8 hR) ?_
  refine zt_iload dX6_curveAt_21 rfl ?_
  refine zt_ialoadv (v := p3) dX6_curveAt_23 (zs_30 hS) (by decide) (by decide) (by decide) hp3 ?_
  refine zt_isub dX6_curveAt_24 ?_
  refine zt_i2l dX6_curveAt_25 (by omega) ?_
  refine zt_lmul dX6_curveAt_26 ?_
  refine zt_aload_n dX6_curveAt_27 rfl ?_
  refine zt_getv dX6_curveAt_28 fl_X6_24 (zs_26 hS) (rf_26_9 hR) ?_
  refine zt_iload dX6_curveAt_31 rfl ?_
  refine zt_laloadv (v := cD4_33 p0 p1 p2 p3 y0 y1 y2 y3) dX6_curveAt_33 (zs_31 hS) (by decide) (by decide) (by decide) hn3 ?_
  refine zt_ladd dX6_curveAt_34 ?_
  refine zt_lstore_n_2 dX6_curveAt_35 (by decide) rfl ?_
  refine zt_iincv_4 (v := 2) dX6_curveAt_36 (by decide) rfl (by decide) ?_
  refine zt_goto (tgt := 10) dX6_curveAt_39 (by decide) ?_
  refine zt_iload dX6_curveAt_10 rfl ?_
  refine zt_if_lt (tgt := 42) dX6_curveAt_12 (by decide) (by decide) (fun q => absurd q (by decide)) (fun c_12 => ?_)
  refine zt_lload_n dX6_curveAt_15 rfl ?_
  refine zt_iload_n dX6_curveAt_16 rfl ?_
  refine zt_aload_n dX6_curveAt_17 rfl ?_
  refine zt_getv dX6_curveAt_18 fl_X6_21 (zs_26 hS) (rf_26_8 hR) ?_
  refine zt_iload dX6_curveAt_21 rfl ?_
  refine zt_ialoadv (v := p2) dX6_curveAt_23 (zs_30 hS) (by decide) (by decide) (by decide) hp2 ?_
  refine zt_isub dX6_curveAt_24 ?_
  refine zt_i2l dX6_curveAt_25 (by omega) ?_
  refine zt_lmul dX6_curveAt_26 ?_
  refine zt_aload_n dX6_curveAt_27 rfl ?_
  refine zt_getv dX6_curveAt_28 fl_X6_24 (zs_26 hS) (rf_26_9 hR) ?_
  refine zt_iload dX6_curveAt_31 rfl ?_
  refine zt_laloadv (v := cD4_22 p0 p1 p2 p3 y0 y1 y2 y3) dX6_curveAt_33 (zs_31 hS) (by decide) (by decide) (by decide) hn2 ?_
  refine zt_ladd dX6_curveAt_34 ?_
  refine zt_lstore_n_2 dX6_curveAt_35 (by decide) rfl ?_
  refine zt_iincv_4 (v := 1) dX6_curveAt_36 (by decide) rfl (by decide) ?_
  refine zt_goto (tgt := 10) dX6_curveAt_39 (by decide) ?_
  refine zt_iload dX6_curveAt_10 rfl ?_
  refine zt_if_lt (tgt := 42) dX6_curveAt_12 (by decide) (by decide) (fun q => absurd q (by decide)) (fun c_12 => ?_)
  refine zt_lload_n dX6_curveAt_15 rfl ?_
  refine zt_iload_n dX6_curveAt_16 rfl ?_
  refine zt_aload_n dX6_curveAt_17 rfl ?_
  refine zt_getv dX6_curveAt_18 fl_X6_21 (zs_26 hS) (rf_26_8 hR) ?_
  refine zt_iload dX6_curveAt_21 rfl ?_
  refine zt_ialoadv (v := p1) dX6_curveAt_23 (zs_30 hS) (by decide) (by decide) (by decide) hp1 ?_
  refine zt_isub dX6_curveAt_24 ?_
  refine zt_i2l dX6_curveAt_25 (by omega) ?_
  refine zt_lmul dX6_curveAt_26 ?_
  refine zt_aload_n dX6_curveAt_27 rfl ?_
  refine zt_getv dX6_curveAt_28 fl_X6_24 (zs_26 hS) (rf_26_9 hR) ?_
  refine zt_iload dX6_curveAt_31 rfl ?_
  refine zt_laloadv (v := cD4_11 p0 p1 p2 p3 y0 y1 y2 y3) dX6_curveAt_33 (zs_31 hS) (by decide) (by decide) (by decide) hn1 ?_
  refine zt_ladd dX6_curveAt_34 ?_
  refine zt_lstore_n_2 dX6_curveAt_35 (by decide) rfl ?_
  refine zt_iincv_4 (v := 0) dX6_curveAt_36 (by decide) rfl (by decide) ?_
  refine zt_goto (tgt := 10) dX6_curveAt_39 (by decide) ?_
  refine zt_iload dX6_curveAt_10 rfl ?_
  refine zt_if_lt (tgt := 42) dX6_curveAt_12 (by decide) (by decide) (fun q => absurd q (by decide)) (fun c_12 => ?_)
  refine zt_lload_n dX6_curveAt_15 rfl ?_
  refine zt_iload_n dX6_curveAt_16 rfl ?_
  refine zt_aload_n dX6_curveAt_17 rfl ?_
  refine zt_getv dX6_curveAt_18 fl_X6_21 (zs_26 hS) (rf_26_8 hR) ?_
  refine zt_iload dX6_curveAt_21 rfl ?_
  refine zt_ialoadv (v := p0) dX6_curveAt_23 (zs_30 hS) (by decide) (by decide) (by decide) hp0 ?_
  refine zt_isub dX6_curveAt_24 ?_
  refine zt_i2l dX6_curveAt_25 (by omega) ?_
  refine zt_lmul dX6_curveAt_26 ?_
  refine zt_aload_n dX6_curveAt_27 rfl ?_
  refine zt_getv dX6_curveAt_28 fl_X6_24 (zs_26 hS) (rf_26_9 hR) ?_
  refine zt_iload dX6_curveAt_31 rfl ?_
  refine zt_laloadv (v := cD4_00 p0 p1 p2 p3 y0 y1 y2 y3) dX6_curveAt_33 (zs_31 hS) (by decide) (by decide) (by decide) hn0 ?_
  refine zt_ladd dX6_curveAt_34 ?_
  refine zt_lstore_n_2 dX6_curveAt_35 (by decide) rfl ?_
  refine zt_iincv_4 (v := -1) dX6_curveAt_36 (by decide) rfl (by decide) ?_
  refine zt_goto (tgt := 10) dX6_curveAt_39 (by decide) ?_
  refine zt_iload dX6_curveAt_10 rfl ?_
  refine zt_if_lt (tgt := 42) dX6_curveAt_12 (by decide) (by decide) (fun c_12 => ?_) (fun q => absurd q (by decide))
  refine zt_lload_n dX6_curveAt_42 rfl ?_
  exact zt_lret dX6_curveAt_43 ⟨congrArg (fun z => some ((1, z) : zV)) hid4, rfl, rfl, rfl⟩

