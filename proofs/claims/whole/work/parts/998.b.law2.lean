theorem zi32_of (x : Int32) : zi32 x.toInt := by
  have h1 := Int32.le_toInt x
  have h2 := Int32.toInt_lt x
  exact ⟨h1, by omega⟩
set_option maxRecDepth 100000 in
set_option maxHeartbeats 4000000 in
theorem l_law {L : Nat} {scr : Int → Int} (hL : L ≤ 3072) : ∀ k, lwH L scr k
  | 0 => by
    intro i q n sh h hk h0 hi hI hq hs hsc
    refine zt_iload_n dL_law_18 rfl ?_
    refine zt_aload_n dL_law_19 rfl ?_
    refine zt_slen dL_law_20 hs ?_
    refine zt_bipush dL_law_21 (by decide) ?_
    refine zt_isub dL_law_23 ?_
    refine zt_icmp_gt (tgt := 1507) dL_law_24 (by decide) (by omega) (by omega) (fun c => ?_) (fun c => ?_)
    · refine zt_iconst dL_law_1507 ?_
      exact zt_zret dL_law_1508 (Or.inr rfl) rfl
    · exfalso; omega
  | k + 1 => by
    have ih := l_law (scr := scr) hL k
    intro i q n sh h hk h0 hi hI hq hs hsc
    refine zt_iload_n dL_law_18 rfl ?_
    refine zt_aload_n dL_law_19 rfl ?_
    refine zt_slen dL_law_20 hs ?_
    refine zt_bipush dL_law_21 (by decide) ?_
    refine zt_isub dL_law_23 ?_
    refine zt_icmp_gt (tgt := 1507) dL_law_24 (by decide) (by omega) (by omega) (fun c => ?_) (fun c => ?_)
    · refine zt_iconst dL_law_1507 ?_
      exact zt_zret dL_law_1508 (Or.inr rfl) rfl
    · refine zt_aload_n dL_law_27 rfl ?_
      refine zt_iload_n dL_law_28 rfl ?_
      refine zt_sld dL_law_29 hs (by omega) (by omega) (by omega) (fun z0 => ?_)
      refine zt_bipush dL_law_30 (by decide) ?_
      refine zt_iand dL_law_32 ?_
      have hw := zi32_of (Int32.ofInt (h (-1000) i) &&& Int32.ofInt 63)
      generalize (Int32.ofInt (h (-1000) i) &&& Int32.ofInt 63).toInt = w at hw ⊢
      by_cases c0 : 0 ≤ w ∧ w ≤ 38
      · have hc : w = 0 ∨ w = 1 ∨ w = 2 ∨ w = 3 ∨ w = 4 ∨ w = 5 ∨ w = 6 ∨ w = 7 ∨ w = 8 ∨ w = 9 ∨ w = 10 ∨ w = 11 ∨ w = 12 ∨ w = 13 ∨ w = 14 ∨ w = 15 ∨ w = 16 ∨ w = 17 ∨ w = 18 ∨ w = 19 ∨ w = 20 ∨ w = 21 ∨ w = 22 ∨ w = 23 ∨ w = 24 ∨ w = 25 ∨ w = 26 ∨ w = 27 ∨ w = 28 ∨ w = 29 ∨ w = 30 ∨ w = 31 ∨ w = 32 ∨ w = 33 ∨ w = 34 ∨ w = 35 ∨ w = 36 ∨ w = 37 ∨ w = 38 := by omega
        rcases hc with rfl | rfl | rfl | rfl | rfl | rfl | rfl | rfl | rfl | rfl | rfl | rfl | rfl | rfl | rfl | rfl | rfl | rfl | rfl | rfl | rfl | rfl | rfl | rfl | rfl | rfl | rfl | rfl | rfl | rfl | rfl | rfl | rfl | rfl | rfl | rfl | rfl | rfl | rfl
        · refine zt_tableIn (off := 171) (tgt := 204) dL_law_33 (by decide) (by decide) (by decide) rfl (by decide) ?_
          exact lw_c0 hL ih hk h0 (by omega) hI hq hs hsc
        · refine zt_tableIn (off := 234) (tgt := 267) dL_law_33 (by decide) (by decide) (by decide) rfl (by decide) ?_
          exact lw_c1 hL ih hk h0 (by omega) hI hq hs hsc
        · refine zt_tableIn (off := 257) (tgt := 290) dL_law_33 (by decide) (by decide) (by decide) rfl (by decide) ?_
          exact lw_c2 hL ih hk h0 (by omega) hI hq hs hsc
        · refine zt_tableIn (off := 270) (tgt := 303) dL_law_33 (by decide) (by decide) (by decide) rfl (by decide) ?_
          exact lw_c3 hL ih hk h0 (by omega) hI hq hs hsc
        · refine zt_tableIn (off := 283) (tgt := 316) dL_law_33 (by decide) (by decide) (by decide) rfl (by decide) ?_
          exact lw_c4 hL ih hk h0 (by omega) hI hq hs hsc
        · refine zt_tableIn (off := 336) (tgt := 369) dL_law_33 (by decide) (by decide) (by decide) rfl (by decide) ?_
          exact lw_c5 hL ih hk h0 (by omega) hI hq hs hsc
        · refine zt_tableIn (off := 359) (tgt := 392) dL_law_33 (by decide) (by decide) (by decide) rfl (by decide) ?_
          exact lw_c6 hL ih hk h0 (by omega) hI hq hs hsc
        · refine zt_tableIn (off := 412) (tgt := 445) dL_law_33 (by decide) (by decide) (by decide) rfl (by decide) ?_
          exact lw_c7 hL ih hk h0 (by omega) hI hq hs hsc
        · refine zt_tableIn (off := 445) (tgt := 478) dL_law_33 (by decide) (by decide) (by decide) rfl (by decide) ?_
          exact lw_c8 hL ih hk h0 (by omega) hI hq hs hsc
        · refine zt_tableIn (off := 458) (tgt := 491) dL_law_33 (by decide) (by decide) (by decide) rfl (by decide) ?_
          exact lw_c9 hL ih hk h0 (by omega) hI hq hs hsc
        · refine zt_tableIn (off := 501) (tgt := 534) dL_law_33 (by decide) (by decide) (by decide) rfl (by decide) ?_
          exact lw_c10 hL ih hk h0 (by omega) hI hq hs hsc
        · refine zt_tableIn (off := 554) (tgt := 587) dL_law_33 (by decide) (by decide) (by decide) rfl (by decide) ?_
          exact lw_c11 hL ih hk h0 (by omega) hI hq hs hsc
        · refine zt_tableIn (off := 607) (tgt := 640) dL_law_33 (by decide) (by decide) (by decide) rfl (by decide) ?_
          exact lw_c12 hL ih hk h0 (by omega) hI hq hs hsc
        · refine zt_tableIn (off := 640) (tgt := 673) dL_law_33 (by decide) (by decide) (by decide) rfl (by decide) ?_
          exact lw_c13 hL ih hk h0 (by omega) hI hq hs hsc
        · refine zt_tableIn (off := 673) (tgt := 706) dL_law_33 (by decide) (by decide) (by decide) rfl (by decide) ?_
          exact lw_c14 hL ih hk h0 (by omega) hI hq hs hsc
        · refine zt_tableIn (off := 716) (tgt := 749) dL_law_33 (by decide) (by decide) (by decide) rfl (by decide) ?_
          exact lw_c15 hL ih hk h0 (by omega) hI hq hs hsc
        · refine zt_tableIn (off := 759) (tgt := 792) dL_law_33 (by decide) (by decide) (by decide) rfl (by decide) ?_
          exact lw_c16 hL ih hk h0 (by omega) hI hq hs hsc
        · refine zt_tableIn (off := 782) (tgt := 815) dL_law_33 (by decide) (by decide) (by decide) rfl (by decide) ?_
          exact lw_c17 hL ih hk h0 (by omega) hI hq hs hsc
        · refine zt_tableIn (off := 805) (tgt := 838) dL_law_33 (by decide) (by decide) (by decide) rfl (by decide) ?_
          exact lw_c18 hL ih hk h0 (by omega) hI hq hs hsc
        · refine zt_tableIn (off := 838) (tgt := 871) dL_law_33 (by decide) (by decide) (by decide) rfl (by decide) ?_
          exact lw_c19 hL ih hk h0 (by omega) hI hq hs hsc
        · refine zt_tableIn (off := 861) (tgt := 894) dL_law_33 (by decide) (by decide) (by decide) rfl (by decide) ?_
          exact lw_c20 hL ih hk h0 (by omega) hI hq hs hsc
        · refine zt_tableIn (off := 904) (tgt := 937) dL_law_33 (by decide) (by decide) (by decide) rfl (by decide) ?_
          exact lw_c21 hL ih hk h0 (by omega) hI hq hs hsc
        · refine zt_tableIn (off := 917) (tgt := 950) dL_law_33 (by decide) (by decide) (by decide) rfl (by decide) ?_
          exact lw_c22 hL ih hk h0 (by omega) hI hq hs hsc
        · refine zt_tableIn (off := 950) (tgt := 983) dL_law_33 (by decide) (by decide) (by decide) rfl (by decide) ?_
          exact lw_c23 hL ih hk h0 (by omega) hI hq hs hsc
        · refine zt_tableIn (off := 983) (tgt := 1016) dL_law_33 (by decide) (by decide) (by decide) rfl (by decide) ?_
          exact lw_c24 hL ih hk h0 (by omega) hI hq hs hsc
        · refine zt_tableIn (off := 1026) (tgt := 1059) dL_law_33 (by decide) (by decide) (by decide) rfl (by decide) ?_
          exact lw_c25 hL ih hk h0 (by omega) hI hq hs hsc
        · refine zt_tableIn (off := 1049) (tgt := 1082) dL_law_33 (by decide) (by decide) (by decide) rfl (by decide) ?_
          exact lw_c26 hL ih hk h0 (by omega) hI hq hs hsc
        · refine zt_tableIn (off := 1072) (tgt := 1105) dL_law_33 (by decide) (by decide) (by decide) rfl (by decide) ?_
          exact lw_c27 hL ih hk h0 (by omega) hI hq hs hsc
        · refine zt_tableIn (off := 1095) (tgt := 1128) dL_law_33 (by decide) (by decide) (by decide) rfl (by decide) ?_
          exact lw_c28 hL ih hk h0 (by omega) hI hq hs hsc
        · refine zt_tableIn (off := 1128) (tgt := 1161) dL_law_33 (by decide) (by decide) (by decide) rfl (by decide) ?_
          exact lw_c29 hL ih hk h0 (by omega) hI hq hs hsc
        · refine zt_tableIn (off := 1161) (tgt := 1194) dL_law_33 (by decide) (by decide) (by decide) rfl (by decide) ?_
          exact lw_c30 hL ih hk h0 (by omega) hI hq hs hsc
        · refine zt_tableIn (off := 1194) (tgt := 1227) dL_law_33 (by decide) (by decide) (by decide) rfl (by decide) ?_
          exact lw_c31 hL ih hk h0 (by omega) hI hq hs hsc
        · refine zt_tableIn (off := 1247) (tgt := 1280) dL_law_33 (by decide) (by decide) (by decide) rfl (by decide) ?_
          exact lw_c32 hL ih hk h0 (by omega) hI hq hs hsc
        · refine zt_tableIn (off := 1270) (tgt := 1303) dL_law_33 (by decide) (by decide) (by decide) rfl (by decide) ?_
          exact lw_c33 hL ih hk h0 (by omega) hI hq hs hsc
        · refine zt_tableIn (off := 1313) (tgt := 1346) dL_law_33 (by decide) (by decide) (by decide) rfl (by decide) ?_
          exact lw_c34 hL ih hk h0 (by omega) hI hq hs hsc
        · refine zt_tableIn (off := 1356) (tgt := 1389) dL_law_33 (by decide) (by decide) (by decide) rfl (by decide) ?_
          exact lw_c35 hL ih hk h0 (by omega) hI hq hs hsc
        · refine zt_tableIn (off := 1379) (tgt := 1412) dL_law_33 (by decide) (by decide) (by decide) rfl (by decide) ?_
          exact lw_c36 hL ih hk h0 (by omega) hI hq hs hsc
        · refine zt_tableIn (off := 1402) (tgt := 1435) dL_law_33 (by decide) (by decide) (by decide) rfl (by decide) ?_
          exact lw_c37 hL ih hk h0 (by omega) hI hq hs hsc
        · refine zt_tableIn (off := 1445) (tgt := 1478) dL_law_33 (by decide) (by decide) (by decide) rfl (by decide) ?_
          exact lw_c38 hL ih hk h0 (by omega) hI hq hs hsc
      · refine zt_tableOut (tgt := 1501) dL_law_33 hw (by omega) (by decide) ?_
        refine zt_iinc_3 dL_law_1501 (by decide) rfl ?_
        refine zt_goto (tgt := 18) dL_law_1504 (by decide) ?_
        refine zt_room (kc' := 12 * k) (ks' := 8400 * k) (by omega) (by omega) ?_
        exact ih (i + 6) q n sh h (by omega) (by omega) (by omega) hI (by omega) hs hsc
