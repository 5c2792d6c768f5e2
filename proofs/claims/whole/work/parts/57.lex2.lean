section zIfp
variable {y : MethodName} {cc : ByteArray} {mL : Nat} {rt : Option FieldType} {d kc ks : Nat} {Q : Option zV → Nat → zSh → zMem → Prop} {pc : Nat} {ls : List (Option zV)} {st : List zV} {n : Nat} {sh : zSh} {h : zMem}
theorem zt_ifp_eq {P : Prop} {off : Int} {tgt : Nat} (hd : decode cc pc = .ok (.ifCond .eq off, 3)) (ht : (pc : Int) + off = (tgt : Int)) (k1 : ¬ P → zT y cc mL rt d kc ks Q tgt ls st n sh h) (k2 : P → zT y cc mL rt d kc ks Q (pc + 3) ls st n sh h) : zT y cc mL rt d kc ks Q pc ls ((0, zbp P) :: st) n sh h := @zt_ifb_eq y cc mL rt d kc ks Q pc ls st n sh h P (Classical.propDecidable P) off tgt hd ht k1 k2
theorem zt_ifp_ne {P : Prop} {off : Int} {tgt : Nat} (hd : decode cc pc = .ok (.ifCond .ne off, 3)) (ht : (pc : Int) + off = (tgt : Int)) (k1 : P → zT y cc mL rt d kc ks Q tgt ls st n sh h) (k2 : ¬ P → zT y cc mL rt d kc ks Q (pc + 3) ls st n sh h) : zT y cc mL rt d kc ks Q pc ls ((0, zbp P) :: st) n sh h := @zt_ifb_ne y cc mL rt d kc ks Q pc ls st n sh h P (Classical.propDecidable P) off tgt hd ht k1 k2
end zIfp
theorem zup2 {h : zMem} {a j x z : Int} : zup (zup h a j x) a j z = zup h a j z := zmem_ext (fun p q => by unfold zup; split <;> rfl)
theorem zup_self {h : zMem} {a j : Int} : zup h a j (h a j) = h := zmem_ext (fun p q => by
  unfold zup; split
  · rename_i e; rw [e.1, e.2]
  · rfl)
theorem lxW_eq {h : zMem} {a k : Int} : zup (zup h 3 3 a) 3 5 k = lxW h a k := zmem_ext (fun p q => by
  unfold zup lxW znew
  by_cases hp : p = 3
  · subst hp
    by_cases h5 : q = 5
    · subst h5; simp
    · by_cases h3 : q = 3
      · subst h3; simp
      · simp [h5, h3]
  · simp [hp])
theorem lxN_eq {h : zMem} {a k z : Int} : zup (zup (zup h 3 6 z) 3 3 a) 3 5 k = lxN h a k z := zmem_ext (fun p q => by
  unfold zup lxN znew
  by_cases hp : p = 3
  · subst hp
    by_cases h5 : q = 5
    · subst h5; simp
    · by_cases h3 : q = 3
      · subst h3; simp
      · by_cases h6 : q = 6
        · subst h6; simp
        · simp [h5, h3, h6]
  · simp [hp])
theorem zupN {h : zMem} {v a v1 a1 : Int} : zup (zup (zup (zup h 3 6 v) 3 3 a) 3 6 v1) 3 3 a1 = zup (zup h 3 6 v1) 3 3 a1 := zmem_ext (fun p q => by
  unfold zup
  by_cases h1 : p = 3 ∧ q = 3
  · simp [h1]
  · by_cases h2 : p = 3 ∧ q = 6
    · simp [h2]
    · simp [h1, h2])
/-- a word's kind -/
noncomputable def wkd (T : Int → Int) (s e : Int) : Int := if wix T s e = -1 then 1 else 3 + wix T s e
theorem wkd_n {T : Int → Int} {s e : Int} (h : wix T s e = -1) : wkd T s e = 1 := if_pos h
theorem wkd_p {T : Int → Int} {s e x : Int} (h : wix T s e = x) (h0 : 0 ≤ x) : wkd T s e = 3 + x := by unfold wkd; rw [h, if_neg (by omega)]

theorem tOK_x {h h' : zMem} (hT : tOK h) (e1 : h' 1 = h 1) (e2 : h' 2 = h 2) : tOK h' := by unfold tOK; rw [e1, e2]; exact hT

set_option maxRecDepth 100000 in
set_option maxHeartbeats 4000000 in
theorem l_tkw {d n : Nat} {sh : zSh} {h : zMem} {s : Int} (hS : zShp sh) (hR : zRf h) (hT : tOK h) (hl : 0 ≤ h 1 1 ∧ h 1 1 ≤ 200) (hs : h 3 4 = s) (hs0 : 0 ≤ s)  : ∀ (k : Nat) (a : Int) (i : Int), h 1 1 - a < (k : Int) → (s ≤ a ∧ a ≤ h 1 1) → (0 ≤ i ∧ i ≤ a) → sc 97 122 (h 2) (h 1 1) s = sc 97 122 (h 2) (h 1 1) a → zT yX4_takeWord cX4_takeWord 2 none (d + 5) 0 0 (zq none n sh (lxW h (sc 97 122 (h 2) (h 1 1) s) (wkd (h 2) s (sc 97 122 (h 2) (h 1 1) s)))) 2 [some (2, 3), some (0, i)] [] n sh (zup h 3 3 a) := by
  intro k
  induction k with
  | zero => intros; exfalso; omega
  | succ k ih =>
    intro a i hk h0 hi hr
    refine zt_iload_n dX4_takeWord_2 rfl ?_
    refine zt_sipush dX4_takeWord_3 (by decide) ?_
    refine zt_icmp_ge (tgt := 42) dX4_takeWord_6 (by decide) (by omega) (by decide) (fun c_6 => ?_) (fun c_6 => ?_)
    · have hst : ¬ (a < h 1 1 ∧ 97 ≤ h 2 a ∧ h 2 a ≤ 122) := fun q => by first | (have := (tat_i (h := h) (p := a) (u := 97) (v := 122) (by omega) (by decide)).mpr q; omega) | omega
      refine zt_aload_n dX4_takeWord_42 rfl ?_
      refine zt_aload_n dX4_takeWord_43 rfl ?_
      refine zt_ldcs (i := 0) (v := -2) dX4_takeWord_44 ⟨rfl, by decide⟩ ⟨rfl, rfl⟩ ?_
      refine zt_callV1r dX4_takeWord_46 ml_X4_110 (zs_3 hS) (Nat.le_of_ble_eq_true rfl) (zF.of_eq (r' := some (0, zbp (isw (h 2) 0 s a))) (by rw [show (zup h 3 3 a) 2 = h 2 from zup_ne (by decide), show (zup h 3 3 a) 3 4 = s from (zupJ (by decide)).trans hs, zupE]) rfl rfl rfl (c_isw (i := 0) hS (hR.up (by decide)) (tOK_x hT (zup_ne (by decide)) (zup_ne (by decide))) ⟨rfl, by decide⟩ (by rw [show (zup h 3 3 a) 3 4 = s from (zupJ (by decide)).trans hs, zupE, show (zup h 3 3 a) 1 1 = h 1 1 from zupA (by decide)]; omega))) ?_
      refine zt_ifp_eq (tgt := 56) dX4_takeWord_49 (by decide) (fun c_49 => ?_) (fun c_49 => ?_)
      · refine zt_aload_n dX4_takeWord_56 rfl ?_
        refine zt_ldcs (i := 1) (v := -4) dX4_takeWord_57 ⟨rfl, by decide⟩ ⟨rfl, rfl⟩ ?_
        refine zt_callV1r dX4_takeWord_59 ml_X4_110 (zs_3 hS) (Nat.le_of_ble_eq_true rfl) (zF.of_eq (r' := some (0, zbp (isw (h 2) 1 s a))) (by rw [show (zup h 3 3 a) 2 = h 2 from zup_ne (by decide), show (zup h 3 3 a) 3 4 = s from (zupJ (by decide)).trans hs, zupE]) rfl rfl rfl (c_isw (i := 1) hS (hR.up (by decide)) (tOK_x hT (zup_ne (by decide)) (zup_ne (by decide))) ⟨rfl, by decide⟩ (by rw [show (zup h 3 3 a) 3 4 = s from (zupJ (by decide)).trans hs, zupE, show (zup h 3 3 a) 1 1 = h 1 1 from zupA (by decide)]; omega))) ?_
        refine zt_ifp_eq (tgt := 69) dX4_takeWord_62 (by decide) (fun c_62 => ?_) (fun c_62 => ?_)
        · refine zt_aload_n dX4_takeWord_69 rfl ?_
          refine zt_ldcs (i := 2) (v := -6) dX4_takeWord_70 ⟨rfl, by decide⟩ ⟨rfl, rfl⟩ ?_
          refine zt_callV1r dX4_takeWord_72 ml_X4_110 (zs_3 hS) (Nat.le_of_ble_eq_true rfl) (zF.of_eq (r' := some (0, zbp (isw (h 2) 2 s a))) (by rw [show (zup h 3 3 a) 2 = h 2 from zup_ne (by decide), show (zup h 3 3 a) 3 4 = s from (zupJ (by decide)).trans hs, zupE]) rfl rfl rfl (c_isw (i := 2) hS (hR.up (by decide)) (tOK_x hT (zup_ne (by decide)) (zup_ne (by decide))) ⟨rfl, by decide⟩ (by rw [show (zup h 3 3 a) 3 4 = s from (zupJ (by decide)).trans hs, zupE, show (zup h 3 3 a) 1 1 = h 1 1 from zupA (by decide)]; omega))) ?_
          refine zt_ifp_eq (tgt := 82) dX4_takeWord_75 (by decide) (fun c_75 => ?_) (fun c_75 => ?_)
          · refine zt_aload_n dX4_takeWord_82 rfl ?_
            refine zt_ldcs (i := 3) (v := -8) dX4_takeWord_83 ⟨rfl, by decide⟩ ⟨rfl, rfl⟩ ?_
            refine zt_callV1r dX4_takeWord_85 ml_X4_110 (zs_3 hS) (Nat.le_of_ble_eq_true rfl) (zF.of_eq (r' := some (0, zbp (isw (h 2) 3 s a))) (by rw [show (zup h 3 3 a) 2 = h 2 from zup_ne (by decide), show (zup h 3 3 a) 3 4 = s from (zupJ (by decide)).trans hs, zupE]) rfl rfl rfl (c_isw (i := 3) hS (hR.up (by decide)) (tOK_x hT (zup_ne (by decide)) (zup_ne (by decide))) ⟨rfl, by decide⟩ (by rw [show (zup h 3 3 a) 3 4 = s from (zupJ (by decide)).trans hs, zupE, show (zup h 3 3 a) 1 1 = h 1 1 from zupA (by decide)]; omega))) ?_
            refine zt_ifp_eq (tgt := 96) dX4_takeWord_88 (by decide) (fun c_88 => ?_) (fun c_88 => ?_)
            · refine zt_aload_n dX4_takeWord_96 rfl ?_
              refine zt_ldcs (i := 4) (v := -10) dX4_takeWord_97 ⟨rfl, by decide⟩ ⟨rfl, rfl⟩ ?_
              refine zt_callV1r dX4_takeWord_99 ml_X4_110 (zs_3 hS) (Nat.le_of_ble_eq_true rfl) (zF.of_eq (r' := some (0, zbp (isw (h 2) 4 s a))) (by rw [show (zup h 3 3 a) 2 = h 2 from zup_ne (by decide), show (zup h 3 3 a) 3 4 = s from (zupJ (by decide)).trans hs, zupE]) rfl rfl rfl (c_isw (i := 4) hS (hR.up (by decide)) (tOK_x hT (zup_ne (by decide)) (zup_ne (by decide))) ⟨rfl, by decide⟩ (by rw [show (zup h 3 3 a) 3 4 = s from (zupJ (by decide)).trans hs, zupE, show (zup h 3 3 a) 1 1 = h 1 1 from zupA (by decide)]; omega))) ?_
              refine zt_ifp_eq (tgt := 110) dX4_takeWord_102 (by decide) (fun c_102 => ?_) (fun c_102 => ?_)
              · refine zt_aload_n dX4_takeWord_110 rfl ?_
                refine zt_ldcs (i := 5) (v := -12) dX4_takeWord_111 ⟨rfl, by decide⟩ ⟨rfl, rfl⟩ ?_
                refine zt_callV1r dX4_takeWord_113 ml_X4_110 (zs_3 hS) (Nat.le_of_ble_eq_true rfl) (zF.of_eq (r' := some (0, zbp (isw (h 2) 5 s a))) (by rw [show (zup h 3 3 a) 2 = h 2 from zup_ne (by decide), show (zup h 3 3 a) 3 4 = s from (zupJ (by decide)).trans hs, zupE]) rfl rfl rfl (c_isw (i := 5) hS (hR.up (by decide)) (tOK_x hT (zup_ne (by decide)) (zup_ne (by decide))) ⟨rfl, by decide⟩ (by rw [show (zup h 3 3 a) 3 4 = s from (zupJ (by decide)).trans hs, zupE, show (zup h 3 3 a) 1 1 = h 1 1 from zupA (by decide)]; omega))) ?_
                refine zt_ifp_eq (tgt := 124) dX4_takeWord_116 (by decide) (fun c_116 => ?_) (fun c_116 => ?_)
                · refine zt_aload_n dX4_takeWord_124 rfl ?_
                  refine zt_ldcs (i := 6) (v := -14) dX4_takeWord_125 ⟨rfl, by decide⟩ ⟨rfl, rfl⟩ ?_
                  refine zt_callV1r dX4_takeWord_127 ml_X4_110 (zs_3 hS) (Nat.le_of_ble_eq_true rfl) (zF.of_eq (r' := some (0, zbp (isw (h 2) 6 s a))) (by rw [show (zup h 3 3 a) 2 = h 2 from zup_ne (by decide), show (zup h 3 3 a) 3 4 = s from (zupJ (by decide)).trans hs, zupE]) rfl rfl rfl (c_isw (i := 6) hS (hR.up (by decide)) (tOK_x hT (zup_ne (by decide)) (zup_ne (by decide))) ⟨rfl, by decide⟩ (by rw [show (zup h 3 3 a) 3 4 = s from (zupJ (by decide)).trans hs, zupE, show (zup h 3 3 a) 1 1 = h 1 1 from zupA (by decide)]; omega))) ?_
                  refine zt_ifp_eq (tgt := 138) dX4_takeWord_130 (by decide) (fun c_130 => ?_) (fun c_130 => ?_)
                  · refine zt_aload_n dX4_takeWord_138 rfl ?_
                    refine zt_ldcs (i := 7) (v := -16) dX4_takeWord_139 ⟨rfl, by decide⟩ ⟨rfl, rfl⟩ ?_
                    refine zt_callV1r dX4_takeWord_141 ml_X4_110 (zs_3 hS) (Nat.le_of_ble_eq_true rfl) (zF.of_eq (r' := some (0, zbp (isw (h 2) 7 s a))) (by rw [show (zup h 3 3 a) 2 = h 2 from zup_ne (by decide), show (zup h 3 3 a) 3 4 = s from (zupJ (by decide)).trans hs, zupE]) rfl rfl rfl (c_isw (i := 7) hS (hR.up (by decide)) (tOK_x hT (zup_ne (by decide)) (zup_ne (by decide))) ⟨rfl, by decide⟩ (by rw [show (zup h 3 3 a) 3 4 = s from (zupJ (by decide)).trans hs, zupE, show (zup h 3 3 a) 1 1 = h 1 1 from zupA (by decide)]; omega))) ?_
                    refine zt_ifp_eq (tgt := 152) dX4_takeWord_144 (by decide) (fun c_144 => ?_) (fun c_144 => ?_)
                    · refine zt_iconst dX4_takeWord_152 ?_
                      refine zt_puti dX4_takeWord_153 fl_X4_33 rfl (zs_3 hS) (by decide) ?_
                      exact zt_vret dX4_takeWord_156 ⟨rfl, rfl, rfl, by rw [lxW_eq, hr, sc_e hst, wkd_n (by unfold wix; rw [wit_f c_49, wit_f c_62, wit_f c_75, wit_f c_88, wit_f c_102, wit_f c_116, wit_f c_130, wit_f c_144])]⟩
                    · refine zt_bipush dX4_takeWord_147 (by decide) ?_
                      refine zt_goto (tgt := 153) dX4_takeWord_149 (by decide) ?_
                      refine zt_puti dX4_takeWord_153 fl_X4_33 rfl (zs_3 hS) (by decide) ?_
                      exact zt_vret dX4_takeWord_156 ⟨rfl, rfl, rfl, by rw [lxW_eq, hr, sc_e hst, wkd_p (x := 7) (by unfold wix; rw [wit_f c_49, wit_f c_62, wit_f c_75, wit_f c_88, wit_f c_102, wit_f c_116, wit_f c_130, wit_t c_144]) (by decide)]; rfl⟩
                  · refine zt_bipush dX4_takeWord_133 (by decide) ?_
                    refine zt_goto (tgt := 153) dX4_takeWord_135 (by decide) ?_
                    refine zt_puti dX4_takeWord_153 fl_X4_33 rfl (zs_3 hS) (by decide) ?_
                    exact zt_vret dX4_takeWord_156 ⟨rfl, rfl, rfl, by rw [lxW_eq, hr, sc_e hst, wkd_p (x := 6) (by unfold wix; rw [wit_f c_49, wit_f c_62, wit_f c_75, wit_f c_88, wit_f c_102, wit_f c_116, wit_t c_130]) (by decide)]; rfl⟩
                · refine zt_bipush dX4_takeWord_119 (by decide) ?_
                  refine zt_goto (tgt := 153) dX4_takeWord_121 (by decide) ?_
                  refine zt_puti dX4_takeWord_153 fl_X4_33 rfl (zs_3 hS) (by decide) ?_
                  exact zt_vret dX4_takeWord_156 ⟨rfl, rfl, rfl, by rw [lxW_eq, hr, sc_e hst, wkd_p (x := 5) (by unfold wix; rw [wit_f c_49, wit_f c_62, wit_f c_75, wit_f c_88, wit_f c_102, wit_t c_116]) (by decide)]; rfl⟩
              · refine zt_bipush dX4_takeWord_105 (by decide) ?_
                refine zt_goto (tgt := 153) dX4_takeWord_107 (by decide) ?_
                refine zt_puti dX4_takeWord_153 fl_X4_33 rfl (zs_3 hS) (by decide) ?_
                exact zt_vret dX4_takeWord_156 ⟨rfl, rfl, rfl, by rw [lxW_eq, hr, sc_e hst, wkd_p (x := 4) (by unfold wix; rw [wit_f c_49, wit_f c_62, wit_f c_75, wit_f c_88, wit_t c_102]) (by decide)]; rfl⟩
            · refine zt_bipush dX4_takeWord_91 (by decide) ?_
              refine zt_goto (tgt := 153) dX4_takeWord_93 (by decide) ?_
              refine zt_puti dX4_takeWord_153 fl_X4_33 rfl (zs_3 hS) (by decide) ?_
              exact zt_vret dX4_takeWord_156 ⟨rfl, rfl, rfl, by rw [lxW_eq, hr, sc_e hst, wkd_p (x := 3) (by unfold wix; rw [wit_f c_49, wit_f c_62, wit_f c_75, wit_t c_88]) (by decide)]; rfl⟩
          · refine zt_iconst dX4_takeWord_78 ?_
            refine zt_goto (tgt := 153) dX4_takeWord_79 (by decide) ?_
            refine zt_puti dX4_takeWord_153 fl_X4_33 rfl (zs_3 hS) (by decide) ?_
            exact zt_vret dX4_takeWord_156 ⟨rfl, rfl, rfl, by rw [lxW_eq, hr, sc_e hst, wkd_p (x := 2) (by unfold wix; rw [wit_f c_49, wit_f c_62, wit_t c_75]) (by decide)]; rfl⟩
        · refine zt_iconst dX4_takeWord_65 ?_
          refine zt_goto (tgt := 153) dX4_takeWord_66 (by decide) ?_
          refine zt_puti dX4_takeWord_153 fl_X4_33 rfl (zs_3 hS) (by decide) ?_
          exact zt_vret dX4_takeWord_156 ⟨rfl, rfl, rfl, by rw [lxW_eq, hr, sc_e hst, wkd_p (x := 1) (by unfold wix; rw [wit_f c_49, wit_t c_62]) (by decide)]; rfl⟩
      · refine zt_iconst dX4_takeWord_52 ?_
        refine zt_goto (tgt := 153) dX4_takeWord_53 (by decide) ?_
        refine zt_puti dX4_takeWord_153 fl_X4_33 rfl (zs_3 hS) (by decide) ?_
        exact zt_vret dX4_takeWord_156 ⟨rfl, rfl, rfl, by rw [lxW_eq, hr, sc_e hst, wkd_p (x := 0) (by unfold wix; rw [wit_t c_49]) (by decide)]; rfl⟩
    · refine zt_aload_n dX4_takeWord_9 rfl ?_
      refine zt_getv dX4_takeWord_10 fl_X4_15 (zs_3 hS) (rf_3_2 (hR.up (by decide))) ?_
      refine zt_aload_n dX4_takeWord_13 rfl ?_
      refine zt_getv (v := a) dX4_takeWord_14 fl_X4_23 (zs_3 hS) zupE ?_
      refine zt_callV1r dX4_takeWord_17 ml_X4_76 (zs_1 hS) (Nat.le_of_ble_eq_true rfl) (zF.of_eq (r' := some (0, tat h a)) (by rw [tat_x (h := h) (zup_ne (by decide)) (zup_ne (by decide))]) rfl rfl rfl (c_at hS (hR.up (by decide)) (by omega) (by rw [show (zup h 3 3 a) 1 1 = h 1 1 from congrFun (zup_ne (by decide)) 1]; omega))) ?_
      refine zt_callS1r dX4_takeWord_20 ml_X4_81 (Nat.le_of_ble_eq_true rfl) (c_clet (by have := tat_r (p := a) hT; omega)) ?_
      refine zt_ifb_eq (tgt := 42) dX4_takeWord_23 (by decide) (fun c_23 => ?_) (fun c_23 => ?_)
      · have hst : ¬ (a < h 1 1 ∧ 97 ≤ h 2 a ∧ h 2 a ≤ 122) := fun q => by first | (have := (tat_i (h := h) (p := a) (u := 97) (v := 122) (by omega) (by decide)).mpr q; omega) | omega
        refine zt_aload_n dX4_takeWord_42 rfl ?_
        refine zt_aload_n dX4_takeWord_43 rfl ?_
        refine zt_ldcs (i := 0) (v := -2) dX4_takeWord_44 ⟨rfl, by decide⟩ ⟨rfl, rfl⟩ ?_
        refine zt_callV1r dX4_takeWord_46 ml_X4_110 (zs_3 hS) (Nat.le_of_ble_eq_true rfl) (zF.of_eq (r' := some (0, zbp (isw (h 2) 0 s a))) (by rw [show (zup h 3 3 a) 2 = h 2 from zup_ne (by decide), show (zup h 3 3 a) 3 4 = s from (zupJ (by decide)).trans hs, zupE]) rfl rfl rfl (c_isw (i := 0) hS (hR.up (by decide)) (tOK_x hT (zup_ne (by decide)) (zup_ne (by decide))) ⟨rfl, by decide⟩ (by rw [show (zup h 3 3 a) 3 4 = s from (zupJ (by decide)).trans hs, zupE, show (zup h 3 3 a) 1 1 = h 1 1 from zupA (by decide)]; omega))) ?_
        refine zt_ifp_eq (tgt := 56) dX4_takeWord_49 (by decide) (fun c_49 => ?_) (fun c_49 => ?_)
        · refine zt_aload_n dX4_takeWord_56 rfl ?_
          refine zt_ldcs (i := 1) (v := -4) dX4_takeWord_57 ⟨rfl, by decide⟩ ⟨rfl, rfl⟩ ?_
          refine zt_callV1r dX4_takeWord_59 ml_X4_110 (zs_3 hS) (Nat.le_of_ble_eq_true rfl) (zF.of_eq (r' := some (0, zbp (isw (h 2) 1 s a))) (by rw [show (zup h 3 3 a) 2 = h 2 from zup_ne (by decide), show (zup h 3 3 a) 3 4 = s from (zupJ (by decide)).trans hs, zupE]) rfl rfl rfl (c_isw (i := 1) hS (hR.up (by decide)) (tOK_x hT (zup_ne (by decide)) (zup_ne (by decide))) ⟨rfl, by decide⟩ (by rw [show (zup h 3 3 a) 3 4 = s from (zupJ (by decide)).trans hs, zupE, show (zup h 3 3 a) 1 1 = h 1 1 from zupA (by decide)]; omega))) ?_
          refine zt_ifp_eq (tgt := 69) dX4_takeWord_62 (by decide) (fun c_62 => ?_) (fun c_62 => ?_)
          · refine zt_aload_n dX4_takeWord_69 rfl ?_
            refine zt_ldcs (i := 2) (v := -6) dX4_takeWord_70 ⟨rfl, by decide⟩ ⟨rfl, rfl⟩ ?_
            refine zt_callV1r dX4_takeWord_72 ml_X4_110 (zs_3 hS) (Nat.le_of_ble_eq_true rfl) (zF.of_eq (r' := some (0, zbp (isw (h 2) 2 s a))) (by rw [show (zup h 3 3 a) 2 = h 2 from zup_ne (by decide), show (zup h 3 3 a) 3 4 = s from (zupJ (by decide)).trans hs, zupE]) rfl rfl rfl (c_isw (i := 2) hS (hR.up (by decide)) (tOK_x hT (zup_ne (by decide)) (zup_ne (by decide))) ⟨rfl, by decide⟩ (by rw [show (zup h 3 3 a) 3 4 = s from (zupJ (by decide)).trans hs, zupE, show (zup h 3 3 a) 1 1 = h 1 1 from zupA (by decide)]; omega))) ?_
            refine zt_ifp_eq (tgt := 82) dX4_takeWord_75 (by decide) (fun c_75 => ?_) (fun c_75 => ?_)
            · refine zt_aload_n dX4_takeWord_82 rfl ?_
              refine zt_ldcs (i := 3) (v := -8) dX4_takeWord_83 ⟨rfl, by decide⟩ ⟨rfl, rfl⟩ ?_
              refine zt_callV1r dX4_takeWord_85 ml_X4_110 (zs_3 hS) (Nat.le_of_ble_eq_true rfl) (zF.of_eq (r' := some (0, zbp (isw (h 2) 3 s a))) (by rw [show (zup h 3 3 a) 2 = h 2 from zup_ne (by decide), show (zup h 3 3 a) 3 4 = s from (zupJ (by decide)).trans hs, zupE]) rfl rfl rfl (c_isw (i := 3) hS (hR.up (by decide)) (tOK_x hT (zup_ne (by decide)) (zup_ne (by decide))) ⟨rfl, by decide⟩ (by rw [show (zup h 3 3 a) 3 4 = s from (zupJ (by decide)).trans hs, zupE, show (zup h 3 3 a) 1 1 = h 1 1 from zupA (by decide)]; omega))) ?_
              refine zt_ifp_eq (tgt := 96) dX4_takeWord_88 (by decide) (fun c_88 => ?_) (fun c_88 => ?_)
              · refine zt_aload_n dX4_takeWord_96 rfl ?_
                refine zt_ldcs (i := 4) (v := -10) dX4_takeWord_97 ⟨rfl, by decide⟩ ⟨rfl, rfl⟩ ?_
                refine zt_callV1r dX4_takeWord_99 ml_X4_110 (zs_3 hS) (Nat.le_of_ble_eq_true rfl) (zF.of_eq (r' := some (0, zbp (isw (h 2) 4 s a))) (by rw [show (zup h 3 3 a) 2 = h 2 from zup_ne (by decide), show (zup h 3 3 a) 3 4 = s from (zupJ (by decide)).trans hs, zupE]) rfl rfl rfl (c_isw (i := 4) hS (hR.up (by decide)) (tOK_x hT (zup_ne (by decide)) (zup_ne (by decide))) ⟨rfl, by decide⟩ (by rw [show (zup h 3 3 a) 3 4 = s from (zupJ (by decide)).trans hs, zupE, show (zup h 3 3 a) 1 1 = h 1 1 from zupA (by decide)]; omega))) ?_
                refine zt_ifp_eq (tgt := 110) dX4_takeWord_102 (by decide) (fun c_102 => ?_) (fun c_102 => ?_)
                · refine zt_aload_n dX4_takeWord_110 rfl ?_
                  refine zt_ldcs (i := 5) (v := -12) dX4_takeWord_111 ⟨rfl, by decide⟩ ⟨rfl, rfl⟩ ?_
                  refine zt_callV1r dX4_takeWord_113 ml_X4_110 (zs_3 hS) (Nat.le_of_ble_eq_true rfl) (zF.of_eq (r' := some (0, zbp (isw (h 2) 5 s a))) (by rw [show (zup h 3 3 a) 2 = h 2 from zup_ne (by decide), show (zup h 3 3 a) 3 4 = s from (zupJ (by decide)).trans hs, zupE]) rfl rfl rfl (c_isw (i := 5) hS (hR.up (by decide)) (tOK_x hT (zup_ne (by decide)) (zup_ne (by decide))) ⟨rfl, by decide⟩ (by rw [show (zup h 3 3 a) 3 4 = s from (zupJ (by decide)).trans hs, zupE, show (zup h 3 3 a) 1 1 = h 1 1 from zupA (by decide)]; omega))) ?_
                  refine zt_ifp_eq (tgt := 124) dX4_takeWord_116 (by decide) (fun c_116 => ?_) (fun c_116 => ?_)
                  · refine zt_aload_n dX4_takeWord_124 rfl ?_
                    refine zt_ldcs (i := 6) (v := -14) dX4_takeWord_125 ⟨rfl, by decide⟩ ⟨rfl, rfl⟩ ?_
                    refine zt_callV1r dX4_takeWord_127 ml_X4_110 (zs_3 hS) (Nat.le_of_ble_eq_true rfl) (zF.of_eq (r' := some (0, zbp (isw (h 2) 6 s a))) (by rw [show (zup h 3 3 a) 2 = h 2 from zup_ne (by decide), show (zup h 3 3 a) 3 4 = s from (zupJ (by decide)).trans hs, zupE]) rfl rfl rfl (c_isw (i := 6) hS (hR.up (by decide)) (tOK_x hT (zup_ne (by decide)) (zup_ne (by decide))) ⟨rfl, by decide⟩ (by rw [show (zup h 3 3 a) 3 4 = s from (zupJ (by decide)).trans hs, zupE, show (zup h 3 3 a) 1 1 = h 1 1 from zupA (by decide)]; omega))) ?_
                    refine zt_ifp_eq (tgt := 138) dX4_takeWord_130 (by decide) (fun c_130 => ?_) (fun c_130 => ?_)
                    · refine zt_aload_n dX4_takeWord_138 rfl ?_
                      refine zt_ldcs (i := 7) (v := -16) dX4_takeWord_139 ⟨rfl, by decide⟩ ⟨rfl, rfl⟩ ?_
                      refine zt_callV1r dX4_takeWord_141 ml_X4_110 (zs_3 hS) (Nat.le_of_ble_eq_true rfl) (zF.of_eq (r' := some (0, zbp (isw (h 2) 7 s a))) (by rw [show (zup h 3 3 a) 2 = h 2 from zup_ne (by decide), show (zup h 3 3 a) 3 4 = s from (zupJ (by decide)).trans hs, zupE]) rfl rfl rfl (c_isw (i := 7) hS (hR.up (by decide)) (tOK_x hT (zup_ne (by decide)) (zup_ne (by decide))) ⟨rfl, by decide⟩ (by rw [show (zup h 3 3 a) 3 4 = s from (zupJ (by decide)).trans hs, zupE, show (zup h 3 3 a) 1 1 = h 1 1 from zupA (by decide)]; omega))) ?_
                      refine zt_ifp_eq (tgt := 152) dX4_takeWord_144 (by decide) (fun c_144 => ?_) (fun c_144 => ?_)
                      · refine zt_iconst dX4_takeWord_152 ?_
                        refine zt_puti dX4_takeWord_153 fl_X4_33 rfl (zs_3 hS) (by decide) ?_
                        exact zt_vret dX4_takeWord_156 ⟨rfl, rfl, rfl, by rw [lxW_eq, hr, sc_e hst, wkd_n (by unfold wix; rw [wit_f c_49, wit_f c_62, wit_f c_75, wit_f c_88, wit_f c_102, wit_f c_116, wit_f c_130, wit_f c_144])]⟩
                      · refine zt_bipush dX4_takeWord_147 (by decide) ?_
                        refine zt_goto (tgt := 153) dX4_takeWord_149 (by decide) ?_
                        refine zt_puti dX4_takeWord_153 fl_X4_33 rfl (zs_3 hS) (by decide) ?_
                        exact zt_vret dX4_takeWord_156 ⟨rfl, rfl, rfl, by rw [lxW_eq, hr, sc_e hst, wkd_p (x := 7) (by unfold wix; rw [wit_f c_49, wit_f c_62, wit_f c_75, wit_f c_88, wit_f c_102, wit_f c_116, wit_f c_130, wit_t c_144]) (by decide)]; rfl⟩
                    · refine zt_bipush dX4_takeWord_133 (by decide) ?_
                      refine zt_goto (tgt := 153) dX4_takeWord_135 (by decide) ?_
                      refine zt_puti dX4_takeWord_153 fl_X4_33 rfl (zs_3 hS) (by decide) ?_
                      exact zt_vret dX4_takeWord_156 ⟨rfl, rfl, rfl, by rw [lxW_eq, hr, sc_e hst, wkd_p (x := 6) (by unfold wix; rw [wit_f c_49, wit_f c_62, wit_f c_75, wit_f c_88, wit_f c_102, wit_f c_116, wit_t c_130]) (by decide)]; rfl⟩
                  · refine zt_bipush dX4_takeWord_119 (by decide) ?_
                    refine zt_goto (tgt := 153) dX4_takeWord_121 (by decide) ?_
                    refine zt_puti dX4_takeWord_153 fl_X4_33 rfl (zs_3 hS) (by decide) ?_
                    exact zt_vret dX4_takeWord_156 ⟨rfl, rfl, rfl, by rw [lxW_eq, hr, sc_e hst, wkd_p (x := 5) (by unfold wix; rw [wit_f c_49, wit_f c_62, wit_f c_75, wit_f c_88, wit_f c_102, wit_t c_116]) (by decide)]; rfl⟩
                · refine zt_bipush dX4_takeWord_105 (by decide) ?_
                  refine zt_goto (tgt := 153) dX4_takeWord_107 (by decide) ?_
                  refine zt_puti dX4_takeWord_153 fl_X4_33 rfl (zs_3 hS) (by decide) ?_
                  exact zt_vret dX4_takeWord_156 ⟨rfl, rfl, rfl, by rw [lxW_eq, hr, sc_e hst, wkd_p (x := 4) (by unfold wix; rw [wit_f c_49, wit_f c_62, wit_f c_75, wit_f c_88, wit_t c_102]) (by decide)]; rfl⟩
              · refine zt_bipush dX4_takeWord_91 (by decide) ?_
                refine zt_goto (tgt := 153) dX4_takeWord_93 (by decide) ?_
                refine zt_puti dX4_takeWord_153 fl_X4_33 rfl (zs_3 hS) (by decide) ?_
                exact zt_vret dX4_takeWord_156 ⟨rfl, rfl, rfl, by rw [lxW_eq, hr, sc_e hst, wkd_p (x := 3) (by unfold wix; rw [wit_f c_49, wit_f c_62, wit_f c_75, wit_t c_88]) (by decide)]; rfl⟩
            · refine zt_iconst dX4_takeWord_78 ?_
              refine zt_goto (tgt := 153) dX4_takeWord_79 (by decide) ?_
              refine zt_puti dX4_takeWord_153 fl_X4_33 rfl (zs_3 hS) (by decide) ?_
              exact zt_vret dX4_takeWord_156 ⟨rfl, rfl, rfl, by rw [lxW_eq, hr, sc_e hst, wkd_p (x := 2) (by unfold wix; rw [wit_f c_49, wit_f c_62, wit_t c_75]) (by decide)]; rfl⟩
          · refine zt_iconst dX4_takeWord_65 ?_
            refine zt_goto (tgt := 153) dX4_takeWord_66 (by decide) ?_
            refine zt_puti dX4_takeWord_153 fl_X4_33 rfl (zs_3 hS) (by decide) ?_
            exact zt_vret dX4_takeWord_156 ⟨rfl, rfl, rfl, by rw [lxW_eq, hr, sc_e hst, wkd_p (x := 1) (by unfold wix; rw [wit_f c_49, wit_t c_62]) (by decide)]; rfl⟩
        · refine zt_iconst dX4_takeWord_52 ?_
          refine zt_goto (tgt := 153) dX4_takeWord_53 (by decide) ?_
          refine zt_puti dX4_takeWord_153 fl_X4_33 rfl (zs_3 hS) (by decide) ?_
          exact zt_vret dX4_takeWord_156 ⟨rfl, rfl, rfl, by rw [lxW_eq, hr, sc_e hst, wkd_p (x := 0) (by unfold wix; rw [wit_t c_49]) (by decide)]; rfl⟩
      · refine zt_aload_n dX4_takeWord_26 rfl ?_
        refine zt_dup dX4_takeWord_27 (Nat.ne_of_beq_eq_false rfl) ?_
        refine zt_getv (v := a) dX4_takeWord_28 fl_X4_23 (zs_3 hS) zupE ?_
        refine zt_iconst dX4_takeWord_31 ?_
        refine zt_iadd dX4_takeWord_32 ?_
        refine zt_puti dX4_takeWord_33 fl_X4_23 rfl (zs_3 hS) (by omega) ?_
        refine zt_iinc_1 dX4_takeWord_36 (by decide) rfl ?_
        refine zt_goto (tgt := 2) dX4_takeWord_39 (by decide) ?_
        have hta := (tat_i (h := h) (p := a) (u := 97) (v := 122) (by omega) (by decide)).mp c_23
        rw [zup2]
        exact ih (a + 1) (i + 1) (by omega) (by omega) (by omega) (by rw [hr]; exact sc_s hta)

set_option maxRecDepth 100000 in
set_option maxHeartbeats 4000000 in
theorem c_tkw {d n : Nat} {sh : zSh} {h : zMem} {s : Int} (hS : zShp sh) (hR : zRf h) (hT : tOK h) (hs : h 3 4 = s) (hs2 : h 3 3 = s) (hp : 0 ≤ s ∧ s ≤ h 1 1) : zF yX4_takeWord cX4_takeWord 2 none (d + 5) 0 0 [(2, 3)] n sh h none n sh (lxW h (sc 97 122 (h 2) (h 1 1) s) (wkd (h 2) s (sc 97 122 (h 2) (h 1 1) s))) := by
  refine zF.ofT (by decide +kernel) [some (2, 3), none] rfl (Nat.le_of_ble_eq_true rfl) ?_
  refine zt_iconst dX4_takeWord_0 ?_
  refine zt_istore_n_1 dX4_takeWord_1 (by decide) rfl ?_
  have hmm : h = zup h 3 3 s := by rw [← hs2]; exact zup_self.symm
  refine zt_mem hmm ?_
  exact l_tkw hS hR hT hT.1 hs hp.1 201 s 0 (by have := hT.1; omega) (by omega) (by omega) rfl

set_option maxRecDepth 100000 in
set_option maxHeartbeats 4000000 in
theorem l_tkn {d n : Nat} {sh : zSh} {h : zMem} {s : Int} (hS : zShp sh) (hR : zRf h) (hT : tOK h) (hl : 0 ≤ h 1 1 ∧ h 1 1 ≤ 200) (hs0 : 0 ≤ s)  : ∀ (k : Nat) (a : Int) (v : Int) (i : Int), h 1 1 - a < (k : Int) → (s ≤ a ∧ a ≤ h 1 1) → (0 ≤ v ∧ v ≤ 1000000) → (0 ≤ i ∧ i ≤ a) → sc 48 57 (h 2) (h 1 1) s = sc 48 57 (h 2) (h 1 1) a → nv (h 2) (h 1 1) s 0 = nv (h 2) (h 1 1) a v → zT yX4_takeNumber cX4_takeNumber 2 none (d + 5) 0 0 (zq none n sh (lxN h (sc 48 57 (h 2) (h 1 1) s) (if 999999 < nv (h 2) (h 1 1) s 0 then 1 else 2) (nv (h 2) (h 1 1) s 0))) 7 [some (2, 3), some (0, i)] [] n sh (zup (zup h 3 6 v) 3 3 a) := by
  intro k
  induction k with
  | zero => intros; exfalso; omega
  | succ k ih =>
    intro a v i hk h0 hv hi hr hz
    refine zt_iload_n dX4_takeNumber_7 rfl ?_
    refine zt_sipush dX4_takeNumber_8 (by decide) ?_
    refine zt_icmp_ge (tgt := 78) dX4_takeNumber_11 (by decide) (by omega) (by decide) (fun c_11 => ?_) (fun c_11 => ?_)
    · have hst : ¬ (a < h 1 1 ∧ 48 ≤ h 2 a ∧ h 2 a ≤ 57) := fun q => by first | (have := (tat_i (h := h) (p := a) (u := 48) (v := 57) (by omega) (by decide)).mpr q; omega) | omega
      refine zt_aload_n dX4_takeNumber_78 rfl ?_
      refine zt_aload_n dX4_takeNumber_79 rfl ?_
      refine zt_getv (v := v) dX4_takeNumber_80 fl_X4_48 (zs_3 hS) ((zupJ (by decide)).trans zupE) ?_
      refine zt_ldc dX4_takeNumber_83 kc_X4_107 ?_
      refine zt_icmp_le (tgt := 92) dX4_takeNumber_85 (by decide) (by omega) (by decide) (fun c_85 => ?_) (fun c_85 => ?_)
      · refine zt_iconst dX4_takeNumber_92 ?_
        refine zt_puti dX4_takeNumber_93 fl_X4_33 rfl (zs_3 hS) (by decide) ?_
        exact zt_vret dX4_takeNumber_96 ⟨rfl, rfl, rfl, by rw [lxN_eq, hr, sc_e hst, hz, nv_e hst]; first | rw [if_pos (by omega)] | rw [if_neg (by omega)]⟩
      · refine zt_iconst dX4_takeNumber_88 ?_
        refine zt_goto (tgt := 93) dX4_takeNumber_89 (by decide) ?_
        refine zt_puti dX4_takeNumber_93 fl_X4_33 rfl (zs_3 hS) (by decide) ?_
        exact zt_vret dX4_takeNumber_96 ⟨rfl, rfl, rfl, by rw [lxN_eq, hr, sc_e hst, hz, nv_e hst]; first | rw [if_pos (by omega)] | rw [if_neg (by omega)]⟩
    · refine zt_aload_n dX4_takeNumber_14 rfl ?_
      refine zt_getv dX4_takeNumber_15 fl_X4_15 (zs_3 hS) (rf_3_2 ((hR.up (by decide)).up (by decide))) ?_
      refine zt_aload_n dX4_takeNumber_18 rfl ?_
      refine zt_getv (v := a) dX4_takeNumber_19 fl_X4_23 (zs_3 hS) zupE ?_
      refine zt_callV1r dX4_takeNumber_22 ml_X4_76 (zs_1 hS) (Nat.le_of_ble_eq_true rfl) (zF.of_eq (r' := some (0, tat h a)) (by rw [tat_x (h := h) ((zup_ne (by decide)).trans (zup_ne (by decide))) ((zup_ne (by decide)).trans (zup_ne (by decide)))]) rfl rfl rfl (c_at hS ((hR.up (by decide)).up (by decide)) (by omega) (by rw [show (zup (zup h 3 6 v) 3 3 a) 1 1 = h 1 1 from congrFun ((zup_ne (by decide)).trans (zup_ne (by decide))) 1]; omega))) ?_
      refine zt_callS1r dX4_takeNumber_25 ml_X4_87 (Nat.le_of_ble_eq_true rfl) (c_cdig (by have := tat_r (p := a) hT; omega)) ?_
      refine zt_ifb_eq (tgt := 78) dX4_takeNumber_28 (by decide) (fun c_28 => ?_) (fun c_28 => ?_)
      · have hst : ¬ (a < h 1 1 ∧ 48 ≤ h 2 a ∧ h 2 a ≤ 57) := fun q => by first | (have := (tat_i (h := h) (p := a) (u := 48) (v := 57) (by omega) (by decide)).mpr q; omega) | omega
        refine zt_aload_n dX4_takeNumber_78 rfl ?_
        refine zt_aload_n dX4_takeNumber_79 rfl ?_
        refine zt_getv (v := v) dX4_takeNumber_80 fl_X4_48 (zs_3 hS) ((zupJ (by decide)).trans zupE) ?_
        refine zt_ldc dX4_takeNumber_83 kc_X4_107 ?_
        refine zt_icmp_le (tgt := 92) dX4_takeNumber_85 (by decide) (by omega) (by decide) (fun c_85 => ?_) (fun c_85 => ?_)
        · refine zt_iconst dX4_takeNumber_92 ?_
          refine zt_puti dX4_takeNumber_93 fl_X4_33 rfl (zs_3 hS) (by decide) ?_
          exact zt_vret dX4_takeNumber_96 ⟨rfl, rfl, rfl, by rw [lxN_eq, hr, sc_e hst, hz, nv_e hst]; first | rw [if_pos (by omega)] | rw [if_neg (by omega)]⟩
        · refine zt_iconst dX4_takeNumber_88 ?_
          refine zt_goto (tgt := 93) dX4_takeNumber_89 (by decide) ?_
          refine zt_puti dX4_takeNumber_93 fl_X4_33 rfl (zs_3 hS) (by decide) ?_
          exact zt_vret dX4_takeNumber_96 ⟨rfl, rfl, rfl, by rw [lxN_eq, hr, sc_e hst, hz, nv_e hst]; first | rw [if_pos (by omega)] | rw [if_neg (by omega)]⟩
      · refine zt_aload_n dX4_takeNumber_31 rfl ?_
        refine zt_ldc dX4_takeNumber_32 kc_X4_100 ?_
        refine zt_aload_n dX4_takeNumber_34 rfl ?_
        refine zt_getv (v := v) dX4_takeNumber_35 fl_X4_48 (zs_3 hS) ((zupJ (by decide)).trans zupE) ?_
        refine zt_bipush dX4_takeNumber_38 (by decide) ?_
        refine zt_imul dX4_takeNumber_40 ?_
        refine zt_aload_n dX4_takeNumber_41 rfl ?_
        refine zt_getv dX4_takeNumber_42 fl_X4_15 (zs_3 hS) (rf_3_2 ((hR.up (by decide)).up (by decide))) ?_
        refine zt_aload_n dX4_takeNumber_45 rfl ?_
        refine zt_getv (v := a) dX4_takeNumber_46 fl_X4_23 (zs_3 hS) zupE ?_
        refine zt_callV1r dX4_takeNumber_49 ml_X4_76 (zs_1 hS) (Nat.le_of_ble_eq_true rfl) (zF.of_eq (r' := some (0, tat h a)) (by rw [tat_x (h := h) ((zup_ne (by decide)).trans (zup_ne (by decide))) ((zup_ne (by decide)).trans (zup_ne (by decide)))]) rfl rfl rfl (c_at hS ((hR.up (by decide)).up (by decide)) (by omega) (by rw [show (zup (zup h 3 6 v) 3 3 a) 1 1 = h 1 1 from congrFun ((zup_ne (by decide)).trans (zup_ne (by decide))) 1]; omega))) ?_
        refine zt_iadd dX4_takeNumber_52 ?_
        refine zt_bipush dX4_takeNumber_53 (by decide) ?_
        refine zt_isub dX4_takeNumber_55 ?_
        have hta := (tat_i (h := h) (p := a) (u := 48) (v := 57) (by omega) (by decide)).mp c_28
        have hte : tat h a = h 2 a := if_pos (by omega)
        refine zt_callS2r dX4_takeNumber_56 ml_X4_101 (Nat.le_of_ble_eq_true rfl) (c_min (by decide) (by omega)) ?_
        obtain ⟨v1, hv1⟩ : ∃ v1, v1 = zmi 1000000 (((v * 10) + (tat h a)) - 48) := ⟨_, rfl⟩
        have hvr : 0 ≤ v1 ∧ v1 ≤ 1000000 := by rw [hv1]; unfold zmi; split <;> omega
        refine zt_topv (v := v1) hv1.symm ?_
        refine zt_puti dX4_takeNumber_59 fl_X4_48 rfl (zs_3 hS) (by omega) ?_
        refine zt_aload_n dX4_takeNumber_62 rfl ?_
        refine zt_dup dX4_takeNumber_63 (Nat.ne_of_beq_eq_false rfl) ?_
        refine zt_getv (v := a) dX4_takeNumber_64 fl_X4_23 (zs_3 hS) ((zupJ (by decide)).trans zupE) ?_
        refine zt_iconst dX4_takeNumber_67 ?_
        refine zt_iadd dX4_takeNumber_68 ?_
        refine zt_puti dX4_takeNumber_69 fl_X4_23 rfl (zs_3 hS) (by omega) ?_
        refine zt_iinc_1 dX4_takeNumber_72 (by decide) rfl ?_
        refine zt_goto (tgt := 7) dX4_takeNumber_75 (by decide) ?_
        rw [zupN]
        exact ih (a + 1) v1 (i + 1) (by omega) (by omega) hvr (by omega) (by rw [hr]; exact sc_s hta) (by rw [hz, nv_s hta]; congr 1; rw [hv1]; unfold zmi; rw [hte])

set_option maxRecDepth 100000 in
set_option maxHeartbeats 4000000 in
theorem c_tkn {d n : Nat} {sh : zSh} {h : zMem} {s : Int} (hS : zShp sh) (hR : zRf h) (hT : tOK h) (hs2 : h 3 3 = s) (hp : 0 ≤ s ∧ s ≤ h 1 1) : zF yX4_takeNumber cX4_takeNumber 2 none (d + 5) 0 0 [(2, 3)] n sh h none n sh (lxN h (sc 48 57 (h 2) (h 1 1) s) (if 999999 < nv (h 2) (h 1 1) s 0 then 1 else 2) (nv (h 2) (h 1 1) s 0)) := by
  refine zF.ofT (by decide +kernel) [some (2, 3), none] rfl (Nat.le_of_ble_eq_true rfl) ?_
  refine zt_aload_n dX4_takeNumber_0 rfl ?_
  refine zt_iconst dX4_takeNumber_1 ?_
  refine zt_puti dX4_takeNumber_2 fl_X4_48 rfl (zs_3 hS) (by decide) ?_
  refine zt_iconst dX4_takeNumber_5 ?_
  refine zt_istore_n_1 dX4_takeNumber_6 (by decide) rfl ?_
  have hmm : zup h 3 6 0 = zup (zup h 3 6 0) 3 3 s := by rw [← hs2]; rw [show h 3 3 = (zup h 3 6 0) 3 3 from (zupJ (by decide)).symm]; exact zup_self.symm
  refine zt_mem hmm ?_
  exact l_tkn hS hR hT hT.1 hp.1 201 s 0 0 (by have := hT.1; omega) (by omega) (by omega) (by omega) rfl rfl

/-- a Parser's fields behind advance() from p -/
noncomputable def lxf (g T : Int → Int) (L p : Int) : Int → Int := fun y => if y = 3 then kE T L p else if y = 4 then kS T L p else if y = 5 then kK T L p else if y = 6 then (if kS T L p < L ∧ 48 ≤ T (kS T L p) ∧ T (kS T L p) ≤ 57 then kN T L p else g 6) else g y
noncomputable def lxA (h : zMem) (p : Int) : zMem := znew h 3 (lxf (h 3) (h 2) (h 1 1) p)
theorem lxA_ne {h : zMem} {p x : Int} (hx : x ≠ 3) : lxA h p x = h x := znew_ne hx
theorem lxA_3 {h : zMem} {p : Int} : lxA h p 3 = lxf (h 3) (h 2) (h 1 1) p := znew_at
theorem lxA_rf {h : zMem} {p : Int} (hR : zRf h) : zRf (lxA h p) := fun q hq => by
  have h1 : ∀ q ∈ zrf0, q.1 ≠ 3 ∨ (q.1 = 3 ∧ (q.2.1 = 0 ∨ q.2.1 = 2)) := by decide
  rcases h1 q hq with e | ⟨e, e2⟩
  · rw [lxA_ne e]; exact hR q hq
  · have := hR q hq
    rw [e] at this ⊢
    rw [lxA_3, ← this]
    unfold lxf
    rw [if_neg (by omega), if_neg (by omega), if_neg (by omega), if_neg (by omega)]
theorem kS_b {T : Int → Int} {L p : Int} (h : p ≤ L) : p ≤ kS T L p ∧ kS T L p ≤ L := sc_bd h
theorem kE_end {T : Int → Int} {L p : Int} (h : L ≤ kS T L p) : kE T L p = kS T L p := if_pos h
theorem kE_w {T : Int → Int} {L p : Int} (h : ¬ L ≤ kS T L p) (h1 : 97 ≤ T (kS T L p) ∧ T (kS T L p) ≤ 122) : kE T L p = sc 97 122 T L (kS T L p) := by unfold kE; exact (if_neg h).trans (if_pos h1)
theorem kE_n {T : Int → Int} {L p : Int} (h : ¬ L ≤ kS T L p) (h1 : 48 ≤ T (kS T L p) ∧ T (kS T L p) ≤ 57) : kE T L p = sc 48 57 T L (kS T L p) := by unfold kE; exact (if_neg h).trans ((if_neg (by omega)).trans (if_pos h1))
theorem kE_s {T : Int → Int} {L p : Int} (h : ¬ L ≤ kS T L p) (h1 : ¬ (97 ≤ T (kS T L p) ∧ T (kS T L p) ≤ 122)) (h2 : ¬ (48 ≤ T (kS T L p) ∧ T (kS T L p) ≤ 57)) : kE T L p = kS T L p + 1 := by unfold kE; exact (if_neg h).trans ((if_neg h1).trans (if_neg h2))
theorem kK_end {T : Int → Int} {L p : Int} (h : L ≤ kS T L p) : kK T L p = 0 := if_pos h
theorem kK_w {T : Int → Int} {L p : Int} (h : ¬ L ≤ kS T L p) (h1 : 97 ≤ T (kS T L p) ∧ T (kS T L p) ≤ 122) : kK T L p = wkd T (kS T L p) (kE T L p) := by rw [kE_w h h1]; unfold kK; exact (if_neg h).trans (if_pos h1)
theorem kK_n {T : Int → Int} {L p : Int} (h : ¬ L ≤ kS T L p) (h1 : 48 ≤ T (kS T L p) ∧ T (kS T L p) ≤ 57) : kK T L p = if 999999 < kN T L p then 1 else 2 := by unfold kK; exact (if_neg h).trans ((if_neg (by omega)).trans (if_pos h1))
theorem kK_s {T : Int → Int} {L p : Int} (h : ¬ L ≤ kS T L p) (h1 : ¬ (97 ≤ T (kS T L p) ∧ T (kS T L p) ≤ 122)) (h2 : ¬ (48 ≤ T (kS T L p) ∧ T (kS T L p) ≤ 57)) : kK T L p = if 0 ≤ sgI (T (kS T L p)) then T (kS T L p) else 1 := by unfold kK; exact (if_neg h).trans ((if_neg h1).trans (if_neg h2))
theorem sgI_b {x : Int} : -1 ≤ sgI x ∧ sgI x ≤ 9 := by unfold sgI; (repeat' split) <;> omega
theorem lxm {h M : zMem} {p : Int} (h1 : ∀ x, x ≠ 3 → M x = h x) (h3 : M 3 3 = kE (h 2) (h 1 1) p) (h4 : M 3 4 = kS (h 2) (h 1 1) p) (h5 : M 3 5 = kK (h 2) (h 1 1) p) (h6 : M 3 6 = if kS (h 2) (h 1 1) p < h 1 1 ∧ 48 ≤ h 2 (kS (h 2) (h 1 1) p) ∧ h 2 (kS (h 2) (h 1 1) p) ≤ 57 then kN (h 2) (h 1 1) p else h 3 6) (h7 : ∀ y, y ≠ 3 ∧ y ≠ 4 ∧ y ≠ 5 ∧ y ≠ 6 → M 3 y = h 3 y) : M = lxA h p := zmem_ext (fun x y => by
  by_cases e : x = 3
  · subst e
    rw [lxA_3]; unfold lxf
    by_cases q3 : y = 3
    · rw [if_pos q3, q3]; exact h3
    · by_cases q4 : y = 4
      · rw [if_neg q3, if_pos q4, q4]; exact h4
      · by_cases q5 : y = 5
        · rw [if_neg q3, if_neg q4, if_pos q5, q5]; exact h5
        · by_cases q6 : y = 6
          · rw [if_neg q3, if_neg q4, if_neg q5, if_pos q6, q6]; exact h6
          · rw [if_neg q3, if_neg q4, if_neg q5, if_neg q6]; exact h7 y ⟨q3, q4, q5, q6⟩
  · rw [h1 x e, lxA_ne e])
theorem lxW_m {h : zMem} {e k : Int} : (∀ x, x ≠ 3 → lxW h e k x = h x) ∧ lxW h e k 3 3 = e ∧ lxW h e k 3 5 = k ∧ ∀ y, y ≠ 3 → y ≠ 5 → lxW h e k 3 y = h 3 y := by
  refine ⟨fun x hx => znew_ne hx, ?_, ?_, fun y h1 h2 => ?_⟩
  · unfold lxW; rw [znew_at]; rfl
  · unfold lxW; rw [znew_at]; rfl
  · unfold lxW; rw [znew_at]; exact (if_neg h1).trans (if_neg h2)
theorem lxN_m {h : zMem} {e k z : Int} : (∀ x, x ≠ 3 → lxN h e k z x = h x) ∧ lxN h e k z 3 3 = e ∧ lxN h e k z 3 5 = k ∧ lxN h e k z 3 6 = z ∧ ∀ y, y ≠ 3 → y ≠ 5 → y ≠ 6 → lxN h e k z 3 y = h 3 y := by
  refine ⟨fun x hx => znew_ne hx, ?_, ?_, ?_, fun y h1 h2 h3 => ?_⟩
  · unfold lxN; rw [znew_at]; rfl
  · unfold lxN; rw [znew_at]; rfl
  · unfold lxN; rw [znew_at]; rfl
  · unfold lxN; rw [znew_at]; exact (if_neg h1).trans ((if_neg h2).trans (if_neg h3))
/-- start as in advance: at and start are a -/
def lx0 (h : zMem) (a : Int) : zMem := zup (zup h 3 3 a) 3 4 a
theorem lx0_m {h : zMem} {a : Int} : (∀ x, x ≠ 3 → lx0 h a x = h x) ∧ lx0 h a 3 3 = a ∧ lx0 h a 3 4 = a ∧ ∀ y, y ≠ 3 → y ≠ 4 → lx0 h a 3 y = h 3 y :=
  ⟨fun x hx => (zup_ne hx).trans (zup_ne hx), (zupJ (by decide)).trans zupE, zupE, fun y h1 h2 => (zupJ h2).trans (zupJ h1)⟩

set_option maxRecDepth 100000 in
set_option maxHeartbeats 4000000 in
theorem l_adv {d n : Nat} {sh : zSh} {h : zMem} {p : Int} (hS : zShp sh) (hR : zRf h) (hT : tOK h) (hl : 0 ≤ h 1 1 ∧ h 1 1 ≤ 200) (hp0 : 0 ≤ p)  : ∀ (k : Nat) (a : Int) (i : Int), h 1 1 - a < (k : Int) → (p ≤ a ∧ a ≤ h 1 1) → (0 ≤ i ∧ i ≤ a) → kS (h 2) (h 1 1) p = sc 32 32 (h 2) (h 1 1) a → zT yX4_advance cX4_advance 2 none (d + 6) 0 0 (zq none n sh (lxA h p)) 2 [some (2, 3), some (0, i)] [] n sh (zup h 3 3 a) := by
  intro k
  induction k with
  | zero => intros; exfalso; omega
  | succ k ih =>
    intro a i hk h0 hi hr
    refine zt_iload_n dX4_advance_2 rfl ?_
    refine zt_sipush dX4_advance_3 (by decide) ?_
    refine zt_icmp_ge (tgt := 41) dX4_advance_6 (by decide) (by omega) (by decide) (fun c_6 => ?_) (fun c_6 => ?_)
    · have hst : ¬ (a < h 1 1 ∧ 32 ≤ h 2 a ∧ h 2 a ≤ 32) := fun q => by first | (have := (tat_i (h := h) (p := a) (u := 32) (v := 32) (by omega) (by decide)).mpr q; omega) | omega
      have hkS : kS (h 2) (h 1 1) p = a := hr.trans (sc_e hst)
      have htr := tat_r (p := a) hT
      refine zt_aload_n dX4_advance_41 rfl ?_
      refine zt_aload_n dX4_advance_42 rfl ?_
      refine zt_getv (v := a) dX4_advance_43 fl_X4_23 (zs_3 hS) zupE ?_
      refine zt_puti dX4_advance_46 fl_X4_36 rfl (zs_3 hS) (by omega) ?_
      refine zt_aload_n dX4_advance_49 rfl ?_
      refine zt_getv dX4_advance_50 fl_X4_15 (zs_3 hS) (rf_3_2 ((hR.up (by decide)).up (by decide))) ?_
      refine zt_aload_n dX4_advance_53 rfl ?_
      refine zt_getv (v := a) dX4_advance_54 fl_X4_23 (zs_3 hS) ((zupJ (by decide)).trans zupE) ?_
      refine zt_callV1r dX4_advance_57 ml_X4_76 (zs_1 hS) (Nat.le_of_ble_eq_true rfl) (zF.of_eq (r' := some (0, tat h a)) (by rw [tat_x (h := h) ((zup_ne (by decide)).trans (zup_ne (by decide))) ((zup_ne (by decide)).trans (zup_ne (by decide)))]) rfl rfl rfl (c_at hS ((hR.up (by decide)).up (by decide)) (by omega) (by rw [show (zup (zup h 3 3 a) 3 4 a) 1 1 = h 1 1 from congrFun ((zup_ne (by decide)).trans (zup_ne (by decide))) 1]; omega))) ?_
      refine zt_istore_n_1 dX4_advance_60 (by decide) rfl ?_
      have hta : (a < h 1 1 ∧ tat h a = h 2 a ∧ 0 ≤ h 2 a) ∨ (h 1 1 ≤ a ∧ tat h a = -1) := by unfold tat; split; (rename_i q; have := hT.2 a q.1 q.2; omega); omega
      refine zt_mem (h1 := lx0 h a) rfl ?_
      have hR0 : zRf (lx0 h a) := (hR.up (by decide)).up (by decide)
      refine zt_iload_n dX4_advance_61 rfl ?_
      refine zt_iconst dX4_advance_62 ?_
      refine zt_icmp_ne (tgt := 74) dX4_advance_63 (by decide) (by omega) (by decide) (fun c_63 => ?_) (fun c_63 => ?_)
      · refine zt_iload_n dX4_advance_74 rfl ?_
        refine zt_callS1r dX4_advance_75 ml_X4_81 (Nat.le_of_ble_eq_true rfl) (c_clet (by have := tat_r (p := a) hT; omega)) ?_
        refine zt_ifb_eq (tgt := 88) dX4_advance_78 (by decide) (fun c_78 => ?_) (fun c_78 => ?_)
        · refine zt_iload_n dX4_advance_88 rfl ?_
          refine zt_callS1r dX4_advance_89 ml_X4_87 (Nat.le_of_ble_eq_true rfl) (c_cdig (by have := tat_r (p := a) hT; omega)) ?_
          refine zt_ifb_eq (tgt := 102) dX4_advance_92 (by decide) (fun c_92 => ?_) (fun c_92 => ?_)
          · refine zt_aload_n dX4_advance_102 rfl ?_
            refine zt_ldcs (i := 8) (v := -18) dX4_advance_103 ⟨rfl, by decide⟩ ⟨rfl, rfl⟩ ?_
            refine zt_iload_n dX4_advance_105 rfl ?_
            refine zt_i2c dX4_advance_106 ?_
            refine zt_topv (v := tat h a) (by omega) ?_
            refine zt_callVS1r dX4_advance_107 ml_X4_95 (i := 8) ⟨rfl, by decide⟩ (Nat.le_of_ble_eq_true rfl) (c_sio ⟨rfl, by decide⟩ (by omega)) ?_
            have hsg := sgI_b (x := tat h a)
            refine zt_if_lt (tgt := 117) dX4_advance_110 (by decide) (by omega) (fun c_110 => ?_) (fun c_110 => ?_)
            · refine zt_iconst dX4_advance_117 ?_
              refine zt_puti dX4_advance_118 fl_X4_33 rfl (zs_3 hS) (by decide) ?_
              refine zt_aload_n dX4_advance_121 rfl ?_
              refine zt_dup dX4_advance_122 (Nat.ne_of_beq_eq_false rfl) ?_
              refine zt_getv (v := a) dX4_advance_123 fl_X4_23 (zs_3 hS) ((zupJ (by decide)).trans lx0_m.2.1) ?_
              refine zt_iconst dX4_advance_126 ?_
              refine zt_iadd dX4_advance_127 ?_
              refine zt_puti dX4_advance_128 fl_X4_23 rfl (zs_3 hS) (by omega) ?_
              exact zt_vret dX4_advance_131 ⟨rfl, rfl, rfl, lxm (fun x hx => (zup_ne hx).trans ((zup_ne hx).trans (lx0_m.1 x hx))) (by rw [zupE, kE_s (by omega) (by rw [hkS]; omega) (by rw [hkS]; omega), hkS]) (by rw [zupJ (by decide), zupJ (by decide), lx0_m.2.2.1, hkS]) (by rw [zupJ (by decide), zupE, kK_s (by omega) (by rw [hkS]; omega) (by rw [hkS]; omega), hkS]; rw [show h 2 a = tat h a by omega]; first | (rw [if_pos (show 0 ≤ sgI (tat h a) by omega)]; done) | (rw [if_neg (show ¬ 0 ≤ sgI (tat h a) by omega)]; done)) (by rw [zupJ (by decide), zupJ (by decide), lx0_m.2.2.2 6 (by decide) (by decide), hkS, if_neg (by omega)]) (fun y q => (zupJ q.1).trans ((zupJ q.2.2.1).trans (lx0_m.2.2.2 y q.1 q.2.1)))⟩
            · refine zt_iload_n dX4_advance_113 rfl ?_
              refine zt_goto (tgt := 118) dX4_advance_114 (by decide) ?_
              refine zt_puti dX4_advance_118 fl_X4_33 rfl (zs_3 hS) (by omega) ?_
              refine zt_aload_n dX4_advance_121 rfl ?_
              refine zt_dup dX4_advance_122 (Nat.ne_of_beq_eq_false rfl) ?_
              refine zt_getv (v := a) dX4_advance_123 fl_X4_23 (zs_3 hS) ((zupJ (by decide)).trans lx0_m.2.1) ?_
              refine zt_iconst dX4_advance_126 ?_
              refine zt_iadd dX4_advance_127 ?_
              refine zt_puti dX4_advance_128 fl_X4_23 rfl (zs_3 hS) (by omega) ?_
              exact zt_vret dX4_advance_131 ⟨rfl, rfl, rfl, lxm (fun x hx => (zup_ne hx).trans ((zup_ne hx).trans (lx0_m.1 x hx))) (by rw [zupE, kE_s (by omega) (by rw [hkS]; omega) (by rw [hkS]; omega), hkS]) (by rw [zupJ (by decide), zupJ (by decide), lx0_m.2.2.1, hkS]) (by rw [zupJ (by decide), zupE, kK_s (by omega) (by rw [hkS]; omega) (by rw [hkS]; omega), hkS]; rw [show h 2 a = tat h a by omega]; first | (rw [if_pos (show 0 ≤ sgI (tat h a) by omega)]; done) | (rw [if_neg (show ¬ 0 ≤ sgI (tat h a) by omega)]; done)) (by rw [zupJ (by decide), zupJ (by decide), lx0_m.2.2.2 6 (by decide) (by decide), hkS, if_neg (by omega)]) (fun y q => (zupJ q.1).trans ((zupJ q.2.2.1).trans (lx0_m.2.2.2 y q.1 q.2.1)))⟩
          · refine zt_aload_n dX4_advance_95 rfl ?_
            refine zt_callV0v dX4_advance_96 ml_X4_90 (zs_3 hS) (Nat.le_of_ble_eq_true rfl) (zF.of_eq (h1' := lxN (lx0 h a) (sc 48 57 (h 2) (h 1 1) a) (if 999999 < nv (h 2) (h 1 1) a 0 then 1 else 2) (nv (h 2) (h 1 1) a 0)) rfl rfl rfl (by rw [lx0_m.1 2 (by decide), lx0_m.1 1 (by decide)]) (c_tkn (s := a) hS hR0 (tOK_x hT (lx0_m.1 1 (by decide)) (lx0_m.1 2 (by decide))) lx0_m.2.1 (by rw [lx0_m.1 1 (by decide)]; omega))) ?_
            refine zt_goto (tgt := 131) dX4_advance_99 (by decide) ?_
            exact zt_vret dX4_advance_131 ⟨rfl, rfl, rfl, lxm (fun x hx => (lxN_m.1 x hx).trans (lx0_m.1 x hx)) (by rw [lxN_m.2.1, kE_n (by omega) (by rw [hkS]; omega), hkS]) (by rw [lxN_m.2.2.2.2 4 (by decide) (by decide) (by decide), lx0_m.2.2.1, hkS]) (by rw [lxN_m.2.2.1, kK_n (by omega) (by rw [hkS]; omega)]; unfold kN; rw [hkS]) (by rw [lxN_m.2.2.2.1, hkS, if_pos (by omega)]; unfold kN; rw [hkS]) (fun y q => (lxN_m.2.2.2.2 y q.1 q.2.2.1 q.2.2.2).trans (lx0_m.2.2.2 y q.1 q.2.1))⟩
        · refine zt_aload_n dX4_advance_81 rfl ?_
          refine zt_callV0v dX4_advance_82 ml_X4_84 (zs_3 hS) (Nat.le_of_ble_eq_true rfl) (zF.of_eq (h1' := lxW (lx0 h a) (sc 97 122 (h 2) (h 1 1) a) (wkd (h 2) a (sc 97 122 (h 2) (h 1 1) a))) rfl rfl rfl (by rw [lx0_m.1 2 (by decide), lx0_m.1 1 (by decide)]) (c_tkw (s := a) hS hR0 (tOK_x hT (lx0_m.1 1 (by decide)) (lx0_m.1 2 (by decide))) lx0_m.2.2.1 lx0_m.2.1 (by rw [lx0_m.1 1 (by decide)]; omega))) ?_
          refine zt_goto (tgt := 131) dX4_advance_85 (by decide) ?_
          exact zt_vret dX4_advance_131 ⟨rfl, rfl, rfl, lxm (fun x hx => (lxW_m.1 x hx).trans (lx0_m.1 x hx)) (by rw [lxW_m.2.1, kE_w (by omega) (by rw [hkS]; omega), hkS]) (by rw [lxW_m.2.2.2 4 (by decide) (by decide), lx0_m.2.2.1, hkS]) (by rw [lxW_m.2.2.1, kK_w (by omega) (by rw [hkS]; omega), kE_w (by omega) (by rw [hkS]; omega), hkS]) (by rw [lxW_m.2.2.2 6 (by decide) (by decide), lx0_m.2.2.2 6 (by decide) (by decide), hkS, if_neg (by omega)]) (fun y q => (lxW_m.2.2.2 y q.1 q.2.2.1).trans (lx0_m.2.2.2 y q.1 q.2.1))⟩
      · refine zt_aload_n dX4_advance_66 rfl ?_
        refine zt_iconst dX4_advance_67 ?_
        refine zt_puti dX4_advance_68 fl_X4_33 rfl (zs_3 hS) (by decide) ?_
        refine zt_goto (tgt := 131) dX4_advance_71 (by decide) ?_
        exact zt_vret dX4_advance_131 ⟨rfl, rfl, rfl, lxm (fun x hx => (zup_ne hx).trans (lx0_m.1 x hx)) (by rw [zupJ (by decide), lx0_m.2.1, kE_end (by omega), hkS]) (by rw [zupJ (by decide), lx0_m.2.2.1, hkS]) (by rw [zupE, kK_end (by omega)]) (by rw [zupJ (by decide), lx0_m.2.2.2 6 (by decide) (by decide), hkS, if_neg (by omega)]) (fun y q => (zupJ q.2.2.1).trans (lx0_m.2.2.2 y q.1 q.2.1))⟩
    · refine zt_aload_n dX4_advance_9 rfl ?_
      refine zt_getv dX4_advance_10 fl_X4_15 (zs_3 hS) (rf_3_2 (hR.up (by decide))) ?_
      refine zt_aload_n dX4_advance_13 rfl ?_
      refine zt_getv (v := a) dX4_advance_14 fl_X4_23 (zs_3 hS) zupE ?_
      refine zt_callV1r dX4_advance_17 ml_X4_76 (zs_1 hS) (Nat.le_of_ble_eq_true rfl) (zF.of_eq (r' := some (0, tat h a)) (by rw [tat_x (h := h) (zup_ne (by decide)) (zup_ne (by decide))]) rfl rfl rfl (c_at hS (hR.up (by decide)) (by omega) (by rw [show (zup h 3 3 a) 1 1 = h 1 1 from congrFun (zup_ne (by decide)) 1]; omega))) ?_
      refine zt_bipush dX4_advance_20 (by decide) ?_
      refine zt_icmp_ne (tgt := 41) dX4_advance_22 (by decide) (by have := tat_r (p := a) hT; omega) (by decide) (fun c_22 => ?_) (fun c_22 => ?_)
      · have hst : ¬ (a < h 1 1 ∧ 32 ≤ h 2 a ∧ h 2 a ≤ 32) := fun q => by first | (have := (tat_i (h := h) (p := a) (u := 32) (v := 32) (by omega) (by decide)).mpr q; omega) | omega
        have hkS : kS (h 2) (h 1 1) p = a := hr.trans (sc_e hst)
        have htr := tat_r (p := a) hT
        refine zt_aload_n dX4_advance_41 rfl ?_
        refine zt_aload_n dX4_advance_42 rfl ?_
        refine zt_getv (v := a) dX4_advance_43 fl_X4_23 (zs_3 hS) zupE ?_
        refine zt_puti dX4_advance_46 fl_X4_36 rfl (zs_3 hS) (by omega) ?_
        refine zt_aload_n dX4_advance_49 rfl ?_
        refine zt_getv dX4_advance_50 fl_X4_15 (zs_3 hS) (rf_3_2 ((hR.up (by decide)).up (by decide))) ?_
        refine zt_aload_n dX4_advance_53 rfl ?_
        refine zt_getv (v := a) dX4_advance_54 fl_X4_23 (zs_3 hS) ((zupJ (by decide)).trans zupE) ?_
        refine zt_callV1r dX4_advance_57 ml_X4_76 (zs_1 hS) (Nat.le_of_ble_eq_true rfl) (zF.of_eq (r' := some (0, tat h a)) (by rw [tat_x (h := h) ((zup_ne (by decide)).trans (zup_ne (by decide))) ((zup_ne (by decide)).trans (zup_ne (by decide)))]) rfl rfl rfl (c_at hS ((hR.up (by decide)).up (by decide)) (by omega) (by rw [show (zup (zup h 3 3 a) 3 4 a) 1 1 = h 1 1 from congrFun ((zup_ne (by decide)).trans (zup_ne (by decide))) 1]; omega))) ?_
        refine zt_istore_n_1 dX4_advance_60 (by decide) rfl ?_
        have hta : (a < h 1 1 ∧ tat h a = h 2 a ∧ 0 ≤ h 2 a) ∨ (h 1 1 ≤ a ∧ tat h a = -1) := by unfold tat; split; (rename_i q; have := hT.2 a q.1 q.2; omega); omega
        refine zt_mem (h1 := lx0 h a) rfl ?_
        have hR0 : zRf (lx0 h a) := (hR.up (by decide)).up (by decide)
        refine zt_iload_n dX4_advance_61 rfl ?_
        refine zt_iconst dX4_advance_62 ?_
        refine zt_icmp_ne (tgt := 74) dX4_advance_63 (by decide) (by omega) (by decide) (fun c_63 => ?_) (fun c_63 => ?_)
        · refine zt_iload_n dX4_advance_74 rfl ?_
          refine zt_callS1r dX4_advance_75 ml_X4_81 (Nat.le_of_ble_eq_true rfl) (c_clet (by have := tat_r (p := a) hT; omega)) ?_
          refine zt_ifb_eq (tgt := 88) dX4_advance_78 (by decide) (fun c_78 => ?_) (fun c_78 => ?_)
          · refine zt_iload_n dX4_advance_88 rfl ?_
            refine zt_callS1r dX4_advance_89 ml_X4_87 (Nat.le_of_ble_eq_true rfl) (c_cdig (by have := tat_r (p := a) hT; omega)) ?_
            refine zt_ifb_eq (tgt := 102) dX4_advance_92 (by decide) (fun c_92 => ?_) (fun c_92 => ?_)
            · refine zt_aload_n dX4_advance_102 rfl ?_
              refine zt_ldcs (i := 8) (v := -18) dX4_advance_103 ⟨rfl, by decide⟩ ⟨rfl, rfl⟩ ?_
              refine zt_iload_n dX4_advance_105 rfl ?_
              refine zt_i2c dX4_advance_106 ?_
              refine zt_topv (v := tat h a) (by omega) ?_
              refine zt_callVS1r dX4_advance_107 ml_X4_95 (i := 8) ⟨rfl, by decide⟩ (Nat.le_of_ble_eq_true rfl) (c_sio ⟨rfl, by decide⟩ (by omega)) ?_
              have hsg := sgI_b (x := tat h a)
              refine zt_if_lt (tgt := 117) dX4_advance_110 (by decide) (by omega) (fun c_110 => ?_) (fun c_110 => ?_)
              · refine zt_iconst dX4_advance_117 ?_
                refine zt_puti dX4_advance_118 fl_X4_33 rfl (zs_3 hS) (by decide) ?_
                refine zt_aload_n dX4_advance_121 rfl ?_
                refine zt_dup dX4_advance_122 (Nat.ne_of_beq_eq_false rfl) ?_
                refine zt_getv (v := a) dX4_advance_123 fl_X4_23 (zs_3 hS) ((zupJ (by decide)).trans lx0_m.2.1) ?_
                refine zt_iconst dX4_advance_126 ?_
                refine zt_iadd dX4_advance_127 ?_
                refine zt_puti dX4_advance_128 fl_X4_23 rfl (zs_3 hS) (by omega) ?_
                exact zt_vret dX4_advance_131 ⟨rfl, rfl, rfl, lxm (fun x hx => (zup_ne hx).trans ((zup_ne hx).trans (lx0_m.1 x hx))) (by rw [zupE, kE_s (by omega) (by rw [hkS]; omega) (by rw [hkS]; omega), hkS]) (by rw [zupJ (by decide), zupJ (by decide), lx0_m.2.2.1, hkS]) (by rw [zupJ (by decide), zupE, kK_s (by omega) (by rw [hkS]; omega) (by rw [hkS]; omega), hkS]; rw [show h 2 a = tat h a by omega]; first | (rw [if_pos (show 0 ≤ sgI (tat h a) by omega)]; done) | (rw [if_neg (show ¬ 0 ≤ sgI (tat h a) by omega)]; done)) (by rw [zupJ (by decide), zupJ (by decide), lx0_m.2.2.2 6 (by decide) (by decide), hkS, if_neg (by omega)]) (fun y q => (zupJ q.1).trans ((zupJ q.2.2.1).trans (lx0_m.2.2.2 y q.1 q.2.1)))⟩
              · refine zt_iload_n dX4_advance_113 rfl ?_
                refine zt_goto (tgt := 118) dX4_advance_114 (by decide) ?_
                refine zt_puti dX4_advance_118 fl_X4_33 rfl (zs_3 hS) (by omega) ?_
                refine zt_aload_n dX4_advance_121 rfl ?_
                refine zt_dup dX4_advance_122 (Nat.ne_of_beq_eq_false rfl) ?_
                refine zt_getv (v := a) dX4_advance_123 fl_X4_23 (zs_3 hS) ((zupJ (by decide)).trans lx0_m.2.1) ?_
                refine zt_iconst dX4_advance_126 ?_
                refine zt_iadd dX4_advance_127 ?_
                refine zt_puti dX4_advance_128 fl_X4_23 rfl (zs_3 hS) (by omega) ?_
                exact zt_vret dX4_advance_131 ⟨rfl, rfl, rfl, lxm (fun x hx => (zup_ne hx).trans ((zup_ne hx).trans (lx0_m.1 x hx))) (by rw [zupE, kE_s (by omega) (by rw [hkS]; omega) (by rw [hkS]; omega), hkS]) (by rw [zupJ (by decide), zupJ (by decide), lx0_m.2.2.1, hkS]) (by rw [zupJ (by decide), zupE, kK_s (by omega) (by rw [hkS]; omega) (by rw [hkS]; omega), hkS]; rw [show h 2 a = tat h a by omega]; first | (rw [if_pos (show 0 ≤ sgI (tat h a) by omega)]; done) | (rw [if_neg (show ¬ 0 ≤ sgI (tat h a) by omega)]; done)) (by rw [zupJ (by decide), zupJ (by decide), lx0_m.2.2.2 6 (by decide) (by decide), hkS, if_neg (by omega)]) (fun y q => (zupJ q.1).trans ((zupJ q.2.2.1).trans (lx0_m.2.2.2 y q.1 q.2.1)))⟩
            · refine zt_aload_n dX4_advance_95 rfl ?_
              refine zt_callV0v dX4_advance_96 ml_X4_90 (zs_3 hS) (Nat.le_of_ble_eq_true rfl) (zF.of_eq (h1' := lxN (lx0 h a) (sc 48 57 (h 2) (h 1 1) a) (if 999999 < nv (h 2) (h 1 1) a 0 then 1 else 2) (nv (h 2) (h 1 1) a 0)) rfl rfl rfl (by rw [lx0_m.1 2 (by decide), lx0_m.1 1 (by decide)]) (c_tkn (s := a) hS hR0 (tOK_x hT (lx0_m.1 1 (by decide)) (lx0_m.1 2 (by decide))) lx0_m.2.1 (by rw [lx0_m.1 1 (by decide)]; omega))) ?_
              refine zt_goto (tgt := 131) dX4_advance_99 (by decide) ?_
              exact zt_vret dX4_advance_131 ⟨rfl, rfl, rfl, lxm (fun x hx => (lxN_m.1 x hx).trans (lx0_m.1 x hx)) (by rw [lxN_m.2.1, kE_n (by omega) (by rw [hkS]; omega), hkS]) (by rw [lxN_m.2.2.2.2 4 (by decide) (by decide) (by decide), lx0_m.2.2.1, hkS]) (by rw [lxN_m.2.2.1, kK_n (by omega) (by rw [hkS]; omega)]; unfold kN; rw [hkS]) (by rw [lxN_m.2.2.2.1, hkS, if_pos (by omega)]; unfold kN; rw [hkS]) (fun y q => (lxN_m.2.2.2.2 y q.1 q.2.2.1 q.2.2.2).trans (lx0_m.2.2.2 y q.1 q.2.1))⟩
          · refine zt_aload_n dX4_advance_81 rfl ?_
            refine zt_callV0v dX4_advance_82 ml_X4_84 (zs_3 hS) (Nat.le_of_ble_eq_true rfl) (zF.of_eq (h1' := lxW (lx0 h a) (sc 97 122 (h 2) (h 1 1) a) (wkd (h 2) a (sc 97 122 (h 2) (h 1 1) a))) rfl rfl rfl (by rw [lx0_m.1 2 (by decide), lx0_m.1 1 (by decide)]) (c_tkw (s := a) hS hR0 (tOK_x hT (lx0_m.1 1 (by decide)) (lx0_m.1 2 (by decide))) lx0_m.2.2.1 lx0_m.2.1 (by rw [lx0_m.1 1 (by decide)]; omega))) ?_
            refine zt_goto (tgt := 131) dX4_advance_85 (by decide) ?_
            exact zt_vret dX4_advance_131 ⟨rfl, rfl, rfl, lxm (fun x hx => (lxW_m.1 x hx).trans (lx0_m.1 x hx)) (by rw [lxW_m.2.1, kE_w (by omega) (by rw [hkS]; omega), hkS]) (by rw [lxW_m.2.2.2 4 (by decide) (by decide), lx0_m.2.2.1, hkS]) (by rw [lxW_m.2.2.1, kK_w (by omega) (by rw [hkS]; omega), kE_w (by omega) (by rw [hkS]; omega), hkS]) (by rw [lxW_m.2.2.2 6 (by decide) (by decide), lx0_m.2.2.2 6 (by decide) (by decide), hkS, if_neg (by omega)]) (fun y q => (lxW_m.2.2.2 y q.1 q.2.2.1).trans (lx0_m.2.2.2 y q.1 q.2.1))⟩
        · refine zt_aload_n dX4_advance_66 rfl ?_
          refine zt_iconst dX4_advance_67 ?_
          refine zt_puti dX4_advance_68 fl_X4_33 rfl (zs_3 hS) (by decide) ?_
          refine zt_goto (tgt := 131) dX4_advance_71 (by decide) ?_
          exact zt_vret dX4_advance_131 ⟨rfl, rfl, rfl, lxm (fun x hx => (zup_ne hx).trans (lx0_m.1 x hx)) (by rw [zupJ (by decide), lx0_m.2.1, kE_end (by omega), hkS]) (by rw [zupJ (by decide), lx0_m.2.2.1, hkS]) (by rw [zupE, kK_end (by omega)]) (by rw [zupJ (by decide), lx0_m.2.2.2 6 (by decide) (by decide), hkS, if_neg (by omega)]) (fun y q => (zupJ q.2.2.1).trans (lx0_m.2.2.2 y q.1 q.2.1))⟩
      · refine zt_aload_n dX4_advance_25 rfl ?_
        refine zt_dup dX4_advance_26 (Nat.ne_of_beq_eq_false rfl) ?_
        refine zt_getv (v := a) dX4_advance_27 fl_X4_23 (zs_3 hS) zupE ?_
        refine zt_iconst dX4_advance_30 ?_
        refine zt_iadd dX4_advance_31 ?_
        refine zt_puti dX4_advance_32 fl_X4_23 rfl (zs_3 hS) (by omega) ?_
        refine zt_iinc_1 dX4_advance_35 (by decide) rfl ?_
        refine zt_goto (tgt := 2) dX4_advance_38 (by decide) ?_
        have hta := (tat_i (h := h) (p := a) (u := 32) (v := 32) (by omega) (by decide)).mp (by omega)
        rw [zup2]
        exact ih (a + 1) (i + 1) (by omega) (by omega) (by omega) (by rw [hr]; exact sc_s hta)

set_option maxRecDepth 100000 in
set_option maxHeartbeats 4000000 in
theorem c_adv {d n : Nat} {sh : zSh} {h : zMem} {p : Int} (hS : zShp sh) (hR : zRf h) (hT : tOK h) (hs2 : h 3 3 = p) (hp : 0 ≤ p ∧ p ≤ h 1 1) : zF yX4_advance cX4_advance 2 none (d + 6) 0 0 [(2, 3)] n sh h none n sh (lxA h p) := by
  refine zF.ofT (by decide +kernel) [some (2, 3), none] rfl (Nat.le_of_ble_eq_true rfl) ?_
  refine zt_iconst dX4_advance_0 ?_
  refine zt_istore_n_1 dX4_advance_1 (by decide) rfl ?_
  have hmm : h = zup h 3 3 p := by rw [← hs2]; exact zup_self.symm
  refine zt_mem (h1 := zup h 3 3 p) hmm ?_
  exact l_adv hS hR hT hT.1 hp.1 201 p 0 (by have := hT.1; omega) (by omega) (by omega) rfl
