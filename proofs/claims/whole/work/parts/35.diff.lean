/-- the k-th difference of TRUE from e on -/
def tD (h : zMem) (t e k : Int) : Int :=
  if k = 0 then h (t + 1) (e + 0)
  else if k = 1 then h (t + 1) (e + 1) - h (t + 1) (e + 0)
  else if k = 2 then h (t + 1) (e + 2) - 2 * h (t + 1) (e + 1) + h (t + 1) (e + 0)
  else if k = 3 then h (t + 1) (e + 3) - 3 * h (t + 1) (e + 2) + 3 * h (t + 1) (e + 1) - h (t + 1) (e + 0)
  else h (t + 1) (e + 4) - 4 * h (t + 1) (e + 3) + 6 * h (t + 1) (e + 2) - 4 * h (t + 1) (e + 1) + h (t + 1) (e + 0)
def tDc (h : zMem) (t e g k : Int) : Int := if k ≤ g then tD h t e k % 1000000000 else 0
abbrev tDok (h : zMem) (t e g : Int) : Prop := ((0 ≤ e ∧ e < h t 0) ∧ 1 ≤ g ∧ g ≤ 4 ∧ e + g < h t 0) ∧ h (t + 1) (e + 0) ≠ -2147483648 ∧ h (t + 1) (e + 1) ≠ -2147483648 ∧ (2 ≤ g → h (t + 1) (e + 2) ≠ -2147483648) ∧ (3 ≤ g → h (t + 1) (e + 3) ≠ -2147483648) ∧ (4 ≤ g → h (t + 1) (e + 4) ≠ -2147483648)
def tDq (n : Nat) (sh : zSh) (h : zMem) (t e g : Int) : Option zV → Nat → zSh → zMem → Prop := fun r n' sh' h' => n' = n ∧ sh' = sh ∧ (∀ x, x ≠ 24 → h' x = h x) ∧
  ((r = some (0, 1) ∧ tDok h t e g ∧ ∀ k, 0 ≤ k → k ≤ 4 → h' 24 k = tDc h t e g k) ∨ (r = some (0, 0) ∧ ¬ tDok h t e g))
theorem c_ttrJ {d n : Nat} {sh : zSh} {h : zMem} {t e v : Int} (hT : zTab sh h t) (h1 : 0 ≤ e ∧ e < h t 0) (hv : h (t + 1) e = v) : zF yX8_truthOf cX8_truthOf 2 (some .int) (d + 1) 0 0 [(2, t), (0, e)] n sh h (some (0, v)) n sh h := hv ▸ c_ttrI hT h1

set_option maxRecDepth 100000 in
set_option maxHeartbeats 4000000 in
theorem l_diff1 {d n : Nat} {sh : zSh} {h : zMem} {t e : Int} (hS : zShp sh) (hT : zTab sh h t) (hm : zMok sh h) (he : 0 ≤ e ∧ e + 1 < h t 0) (h24 : ∀ k, 0 ≤ k → k ≤ 4 → h 24 k = 0) : zT yX8_differences cX8_differences 6 (some .boolean) (d + 2) 0 0 (tDq n sh h t e 1) 36 [some (2, t), some (0, e), some (0, 1), some (2, 24), none, none] [] n sh h := by
  have hE := hT.2.2.1
  have h80 := hT.1
  have r0 := hm.int (hT.ar 1 (by decide) (by decide)) (j := e + 0) (by omega) (by omega)
  have r1 := hm.int (hT.ar 1 (by decide) (by decide)) (j := e + 1) (by omega) (by omega)
  refine zt_iconst dX8_differences_36 ?_
  refine zt_istore_4 dX8_differences_37 (by decide) rfl ?_
  refine zt_iload dX8_differences_39 rfl ?_
  refine zt_iload_n dX8_differences_41 rfl ?_
  refine zt_icmp_gt (tgt := 79) dX8_differences_42 (by decide) (by decide) (by decide) (fun q => absurd q (by decide)) (fun c_42 => ?_)
  refine zt_aload_n dX8_differences_45 rfl ?_
  refine zt_iload_n dX8_differences_46 rfl ?_
  refine zt_iload dX8_differences_47 rfl ?_
  refine zt_iadd dX8_differences_49 ?_
  refine zt_callV1r dX8_differences_50 ml_X8_80 hT.sh (Nat.le_of_ble_eq_true rfl) (c_ttrJ hT (by have q : h t 0 = h t 0 := rfl; omega) rfl) ?_
  refine zt_ldc dX8_differences_53 kc_X8_24 ?_
  refine zt_icmp_ne (tgt := 60) dX8_differences_55 (by decide) (by omega) (by decide) (fun c_55 => ?_) (fun c_55 => ?_)
  · refine zt_aload_n dX8_differences_60 rfl ?_
    refine zt_iload dX8_differences_61 rfl ?_
    refine zt_aload_n dX8_differences_63 rfl ?_
    refine zt_iload_n dX8_differences_64 rfl ?_
    refine zt_iload dX8_differences_65 rfl ?_
    refine zt_iadd dX8_differences_67 ?_
    refine zt_callV1r dX8_differences_68 ml_X8_80 hT.sh (Nat.le_of_ble_eq_true rfl) (c_ttrJ hT (by have q : h t 0 = h t 0 := rfl; omega) rfl) ?_
    refine zt_i2l dX8_differences_71 (by omega) ?_
    refine zt_lastore dX8_differences_72 (zs_24 hS) (by decide) (by decide) (by decide) (by omega) ?_
    refine zt_iincv_4 (v := 1) dX8_differences_73 (by decide) rfl (by decide) ?_
    refine zt_goto (tgt := 39) dX8_differences_76 (by decide) ?_
    refine zt_iload dX8_differences_39 rfl ?_
    refine zt_iload_n dX8_differences_41 rfl ?_
    refine zt_icmp_gt (tgt := 79) dX8_differences_42 (by decide) (by decide) (by decide) (fun q => absurd q (by decide)) (fun c_42 => ?_)
    refine zt_aload_n dX8_differences_45 rfl ?_
    refine zt_iload_n dX8_differences_46 rfl ?_
    refine zt_iload dX8_differences_47 rfl ?_
    refine zt_iadd dX8_differences_49 ?_
    refine zt_callV1r dX8_differences_50 ml_X8_80 hT.sh (Nat.le_of_ble_eq_true rfl) (c_ttrJ (hT.up (by omega)) (by have q : (zup h 24 0 (h (t + 1) (e + 0))) t 0 = h t 0 := ((zupA (by omega)).trans rfl); omega) ((zupA (by omega)).trans rfl)) ?_
    refine zt_ldc dX8_differences_53 kc_X8_24 ?_
    refine zt_icmp_ne (tgt := 60) dX8_differences_55 (by decide) (by omega) (by decide) (fun c_55 => ?_) (fun c_55 => ?_)
    · refine zt_aload_n dX8_differences_60 rfl ?_
      refine zt_iload dX8_differences_61 rfl ?_
      refine zt_aload_n dX8_differences_63 rfl ?_
      refine zt_iload_n dX8_differences_64 rfl ?_
      refine zt_iload dX8_differences_65 rfl ?_
      refine zt_iadd dX8_differences_67 ?_
      refine zt_callV1r dX8_differences_68 ml_X8_80 hT.sh (Nat.le_of_ble_eq_true rfl) (c_ttrJ (hT.up (by omega)) (by have q : (zup h 24 0 (h (t + 1) (e + 0))) t 0 = h t 0 := ((zupA (by omega)).trans rfl); omega) ((zupA (by omega)).trans rfl)) ?_
      refine zt_i2l dX8_differences_71 (by omega) ?_
      refine zt_lastore dX8_differences_72 (zs_24 hS) (by decide) (by decide) (by decide) (by omega) ?_
      refine zt_iincv_4 (v := 2) dX8_differences_73 (by decide) rfl (by decide) ?_
      refine zt_goto (tgt := 39) dX8_differences_76 (by decide) ?_
      refine zt_iload dX8_differences_39 rfl ?_
      refine zt_iload_n dX8_differences_41 rfl ?_
      refine zt_icmp_gt (tgt := 79) dX8_differences_42 (by decide) (by decide) (by decide) (fun c_42 => ?_) (fun q => absurd q (by decide))
      refine zt_iconst dX8_differences_79 ?_
      refine zt_istore_4 dX8_differences_80 (by decide) rfl ?_
      refine zt_iload dX8_differences_82 rfl ?_
      refine zt_iload_n dX8_differences_84 rfl ?_
      refine zt_icmp_gt (tgt := 123) dX8_differences_85 (by decide) (by decide) (by decide) (fun q => absurd q (by decide)) (fun c_85 => ?_)
      refine zt_iload_n dX8_differences_88 rfl ?_
      refine zt_istore_5 dX8_differences_89 (by decide) rfl ?_
      refine zt_iload dX8_differences_91 rfl ?_
      refine zt_iload dX8_differences_93 rfl ?_
      refine zt_icmp_lt (tgt := 117) dX8_differences_95 (by decide) (by decide) (by decide) (fun q => absurd q (by decide)) (fun c_95 => ?_)
      refine zt_aload_n dX8_differences_98 rfl ?_
      refine zt_iload dX8_differences_99 rfl ?_
      refine zt_dup2 dX8_differences_101 (Nat.ne_of_beq_eq_false rfl) (Nat.ne_of_beq_eq_false rfl) ?_
      refine zt_laloadv (v := h (t + 1) (e + 1)) dX8_differences_102 (zs_24 hS) (by decide) (by decide) (by decide) zupE ?_
      refine zt_aload_n dX8_differences_103 rfl ?_
      refine zt_iload dX8_differences_104 rfl ?_
      refine zt_iconst dX8_differences_106 ?_
      refine zt_isub dX8_differences_107 ?_
      refine zt_topv (v := 0) (by decide) ?_
      refine zt_laloadv (v := h (t + 1) (e + 0)) dX8_differences_108 (zs_24 hS) (by decide) (by decide) (by decide) ((zupJ (by decide)).trans zupE) ?_
      refine zt_lsub dX8_differences_109 ?_
      refine zt_lastore dX8_differences_110 (zs_24 hS) (by decide) (by decide) (by decide) (by omega) ?_
      refine zt_iincv_5 (v := 0) dX8_differences_111 (by decide) rfl (by decide) ?_
      refine zt_goto (tgt := 91) dX8_differences_114 (by decide) ?_
      refine zt_iload dX8_differences_91 rfl ?_
      refine zt_iload dX8_differences_93 rfl ?_
      refine zt_icmp_lt (tgt := 117) dX8_differences_95 (by decide) (by decide) (by decide) (fun c_95 => ?_) (fun q => absurd q (by decide))
      refine zt_iincv_4 (v := 2) dX8_differences_117 (by decide) rfl (by decide) ?_
      refine zt_goto (tgt := 82) dX8_differences_120 (by decide) ?_
      refine zt_iload dX8_differences_82 rfl ?_
      refine zt_iload_n dX8_differences_84 rfl ?_
      refine zt_icmp_gt (tgt := 123) dX8_differences_85 (by decide) (by decide) (by decide) (fun c_85 => ?_) (fun q => absurd q (by decide))
      refine zt_iconst dX8_differences_123 ?_
      refine zt_istore_4 dX8_differences_124 (by decide) rfl ?_
      refine zt_iload dX8_differences_126 rfl ?_
      refine zt_iload_n dX8_differences_128 rfl ?_
      refine zt_icmp_gt (tgt := 152) dX8_differences_129 (by decide) (by decide) (by decide) (fun q => absurd q (by decide)) (fun c_129 => ?_)
      refine zt_aload_n dX8_differences_132 rfl ?_
      refine zt_iload dX8_differences_133 rfl ?_
      refine zt_aload_n dX8_differences_135 rfl ?_
      refine zt_iload dX8_differences_136 rfl ?_
      refine zt_laloadv (v := h (t + 1) (e + 0)) dX8_differences_138 (zs_24 hS) (by decide) (by decide) (by decide) ((zupJ (by decide)).trans ((zupJ (by decide)).trans zupE)) ?_
      refine zt_ldc2 dX8_differences_139 kc_X8_87 ?_
      refine zt_callS2r dX8_differences_142 ml_X8_89 (Nat.le_of_ble_eq_true rfl) (c_fmod (by omega) (by decide) (by decide)) ?_
      refine zt_lastore dX8_differences_145 (zs_24 hS) (by decide) (by decide) (by decide) (by omega) ?_
      refine zt_iincv_4 (v := 1) dX8_differences_146 (by decide) rfl (by decide) ?_
      refine zt_goto (tgt := 126) dX8_differences_149 (by decide) ?_
      refine zt_iload dX8_differences_126 rfl ?_
      refine zt_iload_n dX8_differences_128 rfl ?_
      refine zt_icmp_gt (tgt := 152) dX8_differences_129 (by decide) (by decide) (by decide) (fun q => absurd q (by decide)) (fun c_129 => ?_)
      refine zt_aload_n dX8_differences_132 rfl ?_
      refine zt_iload dX8_differences_133 rfl ?_
      refine zt_aload_n dX8_differences_135 rfl ?_
      refine zt_iload dX8_differences_136 rfl ?_
      refine zt_laloadv (v := (h (t + 1) (e + 1)) - (h (t + 1) (e + 0))) dX8_differences_138 (zs_24 hS) (by decide) (by decide) (by decide) ((zupJ (by decide)).trans zupE) ?_
      refine zt_ldc2 dX8_differences_139 kc_X8_87 ?_
      refine zt_callS2r dX8_differences_142 ml_X8_89 (Nat.le_of_ble_eq_true rfl) (c_fmod (by omega) (by decide) (by decide)) ?_
      refine zt_lastore dX8_differences_145 (zs_24 hS) (by decide) (by decide) (by decide) (by omega) ?_
      refine zt_iincv_4 (v := 2) dX8_differences_146 (by decide) rfl (by decide) ?_
      refine zt_goto (tgt := 126) dX8_differences_149 (by decide) ?_
      refine zt_iload dX8_differences_126 rfl ?_
      refine zt_iload_n dX8_differences_128 rfl ?_
      refine zt_icmp_gt (tgt := 152) dX8_differences_129 (by decide) (by decide) (by decide) (fun c_129 => ?_) (fun q => absurd q (by decide))
      refine zt_iconst dX8_differences_152 ?_
      exact zt_zret dX8_differences_153 (by decide) ⟨rfl, rfl, (fun x hx => by simp only [zup_ne hx]), Or.inl ⟨rfl, by omega, fun k h0 h1 => by rcases (show k = 0 ∨ k = 1 ∨ k = 2 ∨ k = 3 ∨ k = 4 by omega) with rfl | rfl | rfl | rfl | rfl; exact ((((zupJ (by decide)).trans zupE)).trans (by unfold tDc tD; simp only [show (0 : Int) ≤ 1 by decide, if_true, reduceIte, Int.reduceEq]; first | done | (congr 1; omega))); exact ((zupE).trans (by unfold tDc tD; simp only [show (1 : Int) ≤ 1 by decide, if_true, reduceIte, Int.reduceEq]; first | done | (congr 1; omega))); exact ((((zupJ (by decide)).trans ((zupJ (by decide)).trans ((zupJ (by decide)).trans ((zupJ (by decide)).trans ((zupJ (by decide)).trans rfl)))))).trans (by rw [h24 2 (by decide) (by decide)]; rfl)); exact ((((zupJ (by decide)).trans ((zupJ (by decide)).trans ((zupJ (by decide)).trans ((zupJ (by decide)).trans ((zupJ (by decide)).trans rfl)))))).trans (by rw [h24 3 (by decide) (by decide)]; rfl)); exact ((((zupJ (by decide)).trans ((zupJ (by decide)).trans ((zupJ (by decide)).trans ((zupJ (by decide)).trans ((zupJ (by decide)).trans rfl)))))).trans (by rw [h24 4 (by decide) (by decide)]; rfl))⟩⟩
    · refine zt_iconst dX8_differences_58 ?_
      exact zt_zret dX8_differences_59 (by decide) ⟨rfl, rfl, (fun x hx => by simp only [zup_ne hx]), Or.inr ⟨rfl, fun q => by omega⟩⟩
  · refine zt_iconst dX8_differences_58 ?_
    exact zt_zret dX8_differences_59 (by decide) ⟨rfl, rfl, (fun x hx => rfl), Or.inr ⟨rfl, fun q => by omega⟩⟩

set_option maxRecDepth 100000 in
set_option maxHeartbeats 4000000 in
theorem l_diff2 {d n : Nat} {sh : zSh} {h : zMem} {t e : Int} (hS : zShp sh) (hT : zTab sh h t) (hm : zMok sh h) (he : 0 ≤ e ∧ e + 2 < h t 0) (h24 : ∀ k, 0 ≤ k → k ≤ 4 → h 24 k = 0) : zT yX8_differences cX8_differences 6 (some .boolean) (d + 2) 0 0 (tDq n sh h t e 2) 36 [some (2, t), some (0, e), some (0, 2), some (2, 24), none, none] [] n sh h := by
  have hE := hT.2.2.1
  have h80 := hT.1
  have r0 := hm.int (hT.ar 1 (by decide) (by decide)) (j := e + 0) (by omega) (by omega)
  have r1 := hm.int (hT.ar 1 (by decide) (by decide)) (j := e + 1) (by omega) (by omega)
  have r2 := hm.int (hT.ar 1 (by decide) (by decide)) (j := e + 2) (by omega) (by omega)
  refine zt_iconst dX8_differences_36 ?_
  refine zt_istore_4 dX8_differences_37 (by decide) rfl ?_
  refine zt_iload dX8_differences_39 rfl ?_
  refine zt_iload_n dX8_differences_41 rfl ?_
  refine zt_icmp_gt (tgt := 79) dX8_differences_42 (by decide) (by decide) (by decide) (fun q => absurd q (by decide)) (fun c_42 => ?_)
  refine zt_aload_n dX8_differences_45 rfl ?_
  refine zt_iload_n dX8_differences_46 rfl ?_
  refine zt_iload dX8_differences_47 rfl ?_
  refine zt_iadd dX8_differences_49 ?_
  refine zt_callV1r dX8_differences_50 ml_X8_80 hT.sh (Nat.le_of_ble_eq_true rfl) (c_ttrJ hT (by have q : h t 0 = h t 0 := rfl; omega) rfl) ?_
  refine zt_ldc dX8_differences_53 kc_X8_24 ?_
  refine zt_icmp_ne (tgt := 60) dX8_differences_55 (by decide) (by omega) (by decide) (fun c_55 => ?_) (fun c_55 => ?_)
  · refine zt_aload_n dX8_differences_60 rfl ?_
    refine zt_iload dX8_differences_61 rfl ?_
    refine zt_aload_n dX8_differences_63 rfl ?_
    refine zt_iload_n dX8_differences_64 rfl ?_
    refine zt_iload dX8_differences_65 rfl ?_
    refine zt_iadd dX8_differences_67 ?_
    refine zt_callV1r dX8_differences_68 ml_X8_80 hT.sh (Nat.le_of_ble_eq_true rfl) (c_ttrJ hT (by have q : h t 0 = h t 0 := rfl; omega) rfl) ?_
    refine zt_i2l dX8_differences_71 (by omega) ?_
    refine zt_lastore dX8_differences_72 (zs_24 hS) (by decide) (by decide) (by decide) (by omega) ?_
    refine zt_iincv_4 (v := 1) dX8_differences_73 (by decide) rfl (by decide) ?_
    refine zt_goto (tgt := 39) dX8_differences_76 (by decide) ?_
    refine zt_iload dX8_differences_39 rfl ?_
    refine zt_iload_n dX8_differences_41 rfl ?_
    refine zt_icmp_gt (tgt := 79) dX8_differences_42 (by decide) (by decide) (by decide) (fun q => absurd q (by decide)) (fun c_42 => ?_)
    refine zt_aload_n dX8_differences_45 rfl ?_
    refine zt_iload_n dX8_differences_46 rfl ?_
    refine zt_iload dX8_differences_47 rfl ?_
    refine zt_iadd dX8_differences_49 ?_
    refine zt_callV1r dX8_differences_50 ml_X8_80 hT.sh (Nat.le_of_ble_eq_true rfl) (c_ttrJ (hT.up (by omega)) (by have q : (zup h 24 0 (h (t + 1) (e + 0))) t 0 = h t 0 := ((zupA (by omega)).trans rfl); omega) ((zupA (by omega)).trans rfl)) ?_
    refine zt_ldc dX8_differences_53 kc_X8_24 ?_
    refine zt_icmp_ne (tgt := 60) dX8_differences_55 (by decide) (by omega) (by decide) (fun c_55 => ?_) (fun c_55 => ?_)
    · refine zt_aload_n dX8_differences_60 rfl ?_
      refine zt_iload dX8_differences_61 rfl ?_
      refine zt_aload_n dX8_differences_63 rfl ?_
      refine zt_iload_n dX8_differences_64 rfl ?_
      refine zt_iload dX8_differences_65 rfl ?_
      refine zt_iadd dX8_differences_67 ?_
      refine zt_callV1r dX8_differences_68 ml_X8_80 hT.sh (Nat.le_of_ble_eq_true rfl) (c_ttrJ (hT.up (by omega)) (by have q : (zup h 24 0 (h (t + 1) (e + 0))) t 0 = h t 0 := ((zupA (by omega)).trans rfl); omega) ((zupA (by omega)).trans rfl)) ?_
      refine zt_i2l dX8_differences_71 (by omega) ?_
      refine zt_lastore dX8_differences_72 (zs_24 hS) (by decide) (by decide) (by decide) (by omega) ?_
      refine zt_iincv_4 (v := 2) dX8_differences_73 (by decide) rfl (by decide) ?_
      refine zt_goto (tgt := 39) dX8_differences_76 (by decide) ?_
      refine zt_iload dX8_differences_39 rfl ?_
      refine zt_iload_n dX8_differences_41 rfl ?_
      refine zt_icmp_gt (tgt := 79) dX8_differences_42 (by decide) (by decide) (by decide) (fun q => absurd q (by decide)) (fun c_42 => ?_)
      refine zt_aload_n dX8_differences_45 rfl ?_
      refine zt_iload_n dX8_differences_46 rfl ?_
      refine zt_iload dX8_differences_47 rfl ?_
      refine zt_iadd dX8_differences_49 ?_
      refine zt_callV1r dX8_differences_50 ml_X8_80 hT.sh (Nat.le_of_ble_eq_true rfl) (c_ttrJ ((hT.up (by omega)).up (by omega)) (by have q : (zup (zup h 24 0 (h (t + 1) (e + 0))) 24 1 (h (t + 1) (e + 1))) t 0 = h t 0 := ((zupA (by omega)).trans ((zupA (by omega)).trans rfl)); omega) ((zupA (by omega)).trans ((zupA (by omega)).trans rfl))) ?_
      refine zt_ldc dX8_differences_53 kc_X8_24 ?_
      refine zt_icmp_ne (tgt := 60) dX8_differences_55 (by decide) (by omega) (by decide) (fun c_55 => ?_) (fun c_55 => ?_)
      · refine zt_aload_n dX8_differences_60 rfl ?_
        refine zt_iload dX8_differences_61 rfl ?_
        refine zt_aload_n dX8_differences_63 rfl ?_
        refine zt_iload_n dX8_differences_64 rfl ?_
        refine zt_iload dX8_differences_65 rfl ?_
        refine zt_iadd dX8_differences_67 ?_
        refine zt_callV1r dX8_differences_68 ml_X8_80 hT.sh (Nat.le_of_ble_eq_true rfl) (c_ttrJ ((hT.up (by omega)).up (by omega)) (by have q : (zup (zup h 24 0 (h (t + 1) (e + 0))) 24 1 (h (t + 1) (e + 1))) t 0 = h t 0 := ((zupA (by omega)).trans ((zupA (by omega)).trans rfl)); omega) ((zupA (by omega)).trans ((zupA (by omega)).trans rfl))) ?_
        refine zt_i2l dX8_differences_71 (by omega) ?_
        refine zt_lastore dX8_differences_72 (zs_24 hS) (by decide) (by decide) (by decide) (by omega) ?_
        refine zt_iincv_4 (v := 3) dX8_differences_73 (by decide) rfl (by decide) ?_
        refine zt_goto (tgt := 39) dX8_differences_76 (by decide) ?_
        refine zt_iload dX8_differences_39 rfl ?_
        refine zt_iload_n dX8_differences_41 rfl ?_
        refine zt_icmp_gt (tgt := 79) dX8_differences_42 (by decide) (by decide) (by decide) (fun c_42 => ?_) (fun q => absurd q (by decide))
        refine zt_iconst dX8_differences_79 ?_
        refine zt_istore_4 dX8_differences_80 (by decide) rfl ?_
        refine zt_iload dX8_differences_82 rfl ?_
        refine zt_iload_n dX8_differences_84 rfl ?_
        refine zt_icmp_gt (tgt := 123) dX8_differences_85 (by decide) (by decide) (by decide) (fun q => absurd q (by decide)) (fun c_85 => ?_)
        refine zt_iload_n dX8_differences_88 rfl ?_
        refine zt_istore_5 dX8_differences_89 (by decide) rfl ?_
        refine zt_iload dX8_differences_91 rfl ?_
        refine zt_iload dX8_differences_93 rfl ?_
        refine zt_icmp_lt (tgt := 117) dX8_differences_95 (by decide) (by decide) (by decide) (fun q => absurd q (by decide)) (fun c_95 => ?_)
        refine zt_aload_n dX8_differences_98 rfl ?_
        refine zt_iload dX8_differences_99 rfl ?_
        refine zt_dup2 dX8_differences_101 (Nat.ne_of_beq_eq_false rfl) (Nat.ne_of_beq_eq_false rfl) ?_
        refine zt_laloadv (v := h (t + 1) (e + 2)) dX8_differences_102 (zs_24 hS) (by decide) (by decide) (by decide) zupE ?_
        refine zt_aload_n dX8_differences_103 rfl ?_
        refine zt_iload dX8_differences_104 rfl ?_
        refine zt_iconst dX8_differences_106 ?_
        refine zt_isub dX8_differences_107 ?_
        refine zt_topv (v := 1) (by decide) ?_
        refine zt_laloadv (v := h (t + 1) (e + 1)) dX8_differences_108 (zs_24 hS) (by decide) (by decide) (by decide) ((zupJ (by decide)).trans zupE) ?_
        refine zt_lsub dX8_differences_109 ?_
        refine zt_lastore dX8_differences_110 (zs_24 hS) (by decide) (by decide) (by decide) (by omega) ?_
        refine zt_iincv_5 (v := 1) dX8_differences_111 (by decide) rfl (by decide) ?_
        refine zt_goto (tgt := 91) dX8_differences_114 (by decide) ?_
        refine zt_iload dX8_differences_91 rfl ?_
        refine zt_iload dX8_differences_93 rfl ?_
        refine zt_icmp_lt (tgt := 117) dX8_differences_95 (by decide) (by decide) (by decide) (fun q => absurd q (by decide)) (fun c_95 => ?_)
        refine zt_aload_n dX8_differences_98 rfl ?_
        refine zt_iload dX8_differences_99 rfl ?_
        refine zt_dup2 dX8_differences_101 (Nat.ne_of_beq_eq_false rfl) (Nat.ne_of_beq_eq_false rfl) ?_
        refine zt_laloadv (v := h (t + 1) (e + 1)) dX8_differences_102 (zs_24 hS) (by decide) (by decide) (by decide) ((zupJ (by decide)).trans ((zupJ (by decide)).trans zupE)) ?_
        refine zt_aload_n dX8_differences_103 rfl ?_
        refine zt_iload dX8_differences_104 rfl ?_
        refine zt_iconst dX8_differences_106 ?_
        refine zt_isub dX8_differences_107 ?_
        refine zt_topv (v := 0) (by decide) ?_
        refine zt_laloadv (v := h (t + 1) (e + 0)) dX8_differences_108 (zs_24 hS) (by decide) (by decide) (by decide) ((zupJ (by decide)).trans ((zupJ (by decide)).trans ((zupJ (by decide)).trans zupE))) ?_
        refine zt_lsub dX8_differences_109 ?_
        refine zt_lastore dX8_differences_110 (zs_24 hS) (by decide) (by decide) (by decide) (by omega) ?_
        refine zt_iincv_5 (v := 0) dX8_differences_111 (by decide) rfl (by decide) ?_
        refine zt_goto (tgt := 91) dX8_differences_114 (by decide) ?_
        refine zt_iload dX8_differences_91 rfl ?_
        refine zt_iload dX8_differences_93 rfl ?_
        refine zt_icmp_lt (tgt := 117) dX8_differences_95 (by decide) (by decide) (by decide) (fun c_95 => ?_) (fun q => absurd q (by decide))
        refine zt_iincv_4 (v := 2) dX8_differences_117 (by decide) rfl (by decide) ?_
        refine zt_goto (tgt := 82) dX8_differences_120 (by decide) ?_
        refine zt_iload dX8_differences_82 rfl ?_
        refine zt_iload_n dX8_differences_84 rfl ?_
        refine zt_icmp_gt (tgt := 123) dX8_differences_85 (by decide) (by decide) (by decide) (fun q => absurd q (by decide)) (fun c_85 => ?_)
        refine zt_iload_n dX8_differences_88 rfl ?_
        refine zt_istore_5 dX8_differences_89 (by decide) rfl ?_
        refine zt_iload dX8_differences_91 rfl ?_
        refine zt_iload dX8_differences_93 rfl ?_
        refine zt_icmp_lt (tgt := 117) dX8_differences_95 (by decide) (by decide) (by decide) (fun q => absurd q (by decide)) (fun c_95 => ?_)
        refine zt_aload_n dX8_differences_98 rfl ?_
        refine zt_iload dX8_differences_99 rfl ?_
        refine zt_dup2 dX8_differences_101 (Nat.ne_of_beq_eq_false rfl) (Nat.ne_of_beq_eq_false rfl) ?_
        refine zt_laloadv (v := (h (t + 1) (e + 2)) - (h (t + 1) (e + 1))) dX8_differences_102 (zs_24 hS) (by decide) (by decide) (by decide) ((zupJ (by decide)).trans zupE) ?_
        refine zt_aload_n dX8_differences_103 rfl ?_
        refine zt_iload dX8_differences_104 rfl ?_
        refine zt_iconst dX8_differences_106 ?_
        refine zt_isub dX8_differences_107 ?_
        refine zt_topv (v := 1) (by decide) ?_
        refine zt_laloadv (v := (h (t + 1) (e + 1)) - (h (t + 1) (e + 0))) dX8_differences_108 (zs_24 hS) (by decide) (by decide) (by decide) zupE ?_
        refine zt_lsub dX8_differences_109 ?_
        refine zt_lastore dX8_differences_110 (zs_24 hS) (by decide) (by decide) (by decide) (by omega) ?_
        refine zt_iincv_5 (v := 1) dX8_differences_111 (by decide) rfl (by decide) ?_
        refine zt_goto (tgt := 91) dX8_differences_114 (by decide) ?_
        refine zt_iload dX8_differences_91 rfl ?_
        refine zt_iload dX8_differences_93 rfl ?_
        refine zt_icmp_lt (tgt := 117) dX8_differences_95 (by decide) (by decide) (by decide) (fun c_95 => ?_) (fun q => absurd q (by decide))
        refine zt_iincv_4 (v := 3) dX8_differences_117 (by decide) rfl (by decide) ?_
        refine zt_goto (tgt := 82) dX8_differences_120 (by decide) ?_
        refine zt_iload dX8_differences_82 rfl ?_
        refine zt_iload_n dX8_differences_84 rfl ?_
        refine zt_icmp_gt (tgt := 123) dX8_differences_85 (by decide) (by decide) (by decide) (fun c_85 => ?_) (fun q => absurd q (by decide))
        refine zt_iconst dX8_differences_123 ?_
        refine zt_istore_4 dX8_differences_124 (by decide) rfl ?_
        refine zt_iload dX8_differences_126 rfl ?_
        refine zt_iload_n dX8_differences_128 rfl ?_
        refine zt_icmp_gt (tgt := 152) dX8_differences_129 (by decide) (by decide) (by decide) (fun q => absurd q (by decide)) (fun c_129 => ?_)
        refine zt_aload_n dX8_differences_132 rfl ?_
        refine zt_iload dX8_differences_133 rfl ?_
        refine zt_aload_n dX8_differences_135 rfl ?_
        refine zt_iload dX8_differences_136 rfl ?_
        refine zt_laloadv (v := h (t + 1) (e + 0)) dX8_differences_138 (zs_24 hS) (by decide) (by decide) (by decide) ((zupJ (by decide)).trans ((zupJ (by decide)).trans ((zupJ (by decide)).trans ((zupJ (by decide)).trans ((zupJ (by decide)).trans zupE))))) ?_
        refine zt_ldc2 dX8_differences_139 kc_X8_87 ?_
        refine zt_callS2r dX8_differences_142 ml_X8_89 (Nat.le_of_ble_eq_true rfl) (c_fmod (by omega) (by decide) (by decide)) ?_
        refine zt_lastore dX8_differences_145 (zs_24 hS) (by decide) (by decide) (by decide) (by omega) ?_
        refine zt_iincv_4 (v := 1) dX8_differences_146 (by decide) rfl (by decide) ?_
        refine zt_goto (tgt := 126) dX8_differences_149 (by decide) ?_
        refine zt_iload dX8_differences_126 rfl ?_
        refine zt_iload_n dX8_differences_128 rfl ?_
        refine zt_icmp_gt (tgt := 152) dX8_differences_129 (by decide) (by decide) (by decide) (fun q => absurd q (by decide)) (fun c_129 => ?_)
        refine zt_aload_n dX8_differences_132 rfl ?_
        refine zt_iload dX8_differences_133 rfl ?_
        refine zt_aload_n dX8_differences_135 rfl ?_
        refine zt_iload dX8_differences_136 rfl ?_
        refine zt_laloadv (v := (h (t + 1) (e + 1)) - (h (t + 1) (e + 0))) dX8_differences_138 (zs_24 hS) (by decide) (by decide) (by decide) ((zupJ (by decide)).trans ((zupJ (by decide)).trans zupE)) ?_
        refine zt_ldc2 dX8_differences_139 kc_X8_87 ?_
        refine zt_callS2r dX8_differences_142 ml_X8_89 (Nat.le_of_ble_eq_true rfl) (c_fmod (by omega) (by decide) (by decide)) ?_
        refine zt_lastore dX8_differences_145 (zs_24 hS) (by decide) (by decide) (by decide) (by omega) ?_
        refine zt_iincv_4 (v := 2) dX8_differences_146 (by decide) rfl (by decide) ?_
        refine zt_goto (tgt := 126) dX8_differences_149 (by decide) ?_
        refine zt_iload dX8_differences_126 rfl ?_
        refine zt_iload_n dX8_differences_128 rfl ?_
        refine zt_icmp_gt (tgt := 152) dX8_differences_129 (by decide) (by decide) (by decide) (fun q => absurd q (by decide)) (fun c_129 => ?_)
        refine zt_aload_n dX8_differences_132 rfl ?_
        refine zt_iload dX8_differences_133 rfl ?_
        refine zt_aload_n dX8_differences_135 rfl ?_
        refine zt_iload dX8_differences_136 rfl ?_
        refine zt_laloadv (v := ((h (t + 1) (e + 2)) - (h (t + 1) (e + 1))) - ((h (t + 1) (e + 1)) - (h (t + 1) (e + 0)))) dX8_differences_138 (zs_24 hS) (by decide) (by decide) (by decide) ((zupJ (by decide)).trans ((zupJ (by decide)).trans zupE)) ?_
        refine zt_ldc2 dX8_differences_139 kc_X8_87 ?_
        refine zt_callS2r dX8_differences_142 ml_X8_89 (Nat.le_of_ble_eq_true rfl) (c_fmod (by omega) (by decide) (by decide)) ?_
        refine zt_lastore dX8_differences_145 (zs_24 hS) (by decide) (by decide) (by decide) (by omega) ?_
        refine zt_iincv_4 (v := 3) dX8_differences_146 (by decide) rfl (by decide) ?_
        refine zt_goto (tgt := 126) dX8_differences_149 (by decide) ?_
        refine zt_iload dX8_differences_126 rfl ?_
        refine zt_iload_n dX8_differences_128 rfl ?_
        refine zt_icmp_gt (tgt := 152) dX8_differences_129 (by decide) (by decide) (by decide) (fun c_129 => ?_) (fun q => absurd q (by decide))
        refine zt_iconst dX8_differences_152 ?_
        exact zt_zret dX8_differences_153 (by decide) ⟨rfl, rfl, (fun x hx => by simp only [zup_ne hx]), Or.inl ⟨rfl, by omega, fun k h0 h1 => by rcases (show k = 0 ∨ k = 1 ∨ k = 2 ∨ k = 3 ∨ k = 4 by omega) with rfl | rfl | rfl | rfl | rfl; exact ((((zupJ (by decide)).trans ((zupJ (by decide)).trans zupE))).trans (by unfold tDc tD; simp only [show (0 : Int) ≤ 2 by decide, if_true, reduceIte, Int.reduceEq]; first | done | (congr 1; omega))); exact ((((zupJ (by decide)).trans zupE)).trans (by unfold tDc tD; simp only [show (1 : Int) ≤ 2 by decide, if_true, reduceIte, Int.reduceEq]; first | done | (congr 1; omega))); exact ((zupE).trans (by unfold tDc tD; simp only [show (2 : Int) ≤ 2 by decide, if_true, reduceIte, Int.reduceEq]; first | done | (congr 1; omega))); exact ((((zupJ (by decide)).trans ((zupJ (by decide)).trans ((zupJ (by decide)).trans ((zupJ (by decide)).trans ((zupJ (by decide)).trans ((zupJ (by decide)).trans ((zupJ (by decide)).trans ((zupJ (by decide)).trans ((zupJ (by decide)).trans rfl)))))))))).trans (by rw [h24 3 (by decide) (by decide)]; rfl)); exact ((((zupJ (by decide)).trans ((zupJ (by decide)).trans ((zupJ (by decide)).trans ((zupJ (by decide)).trans ((zupJ (by decide)).trans ((zupJ (by decide)).trans ((zupJ (by decide)).trans ((zupJ (by decide)).trans ((zupJ (by decide)).trans rfl)))))))))).trans (by rw [h24 4 (by decide) (by decide)]; rfl))⟩⟩
      · refine zt_iconst dX8_differences_58 ?_
        exact zt_zret dX8_differences_59 (by decide) ⟨rfl, rfl, (fun x hx => by simp only [zup_ne hx]), Or.inr ⟨rfl, fun q => by omega⟩⟩
    · refine zt_iconst dX8_differences_58 ?_
      exact zt_zret dX8_differences_59 (by decide) ⟨rfl, rfl, (fun x hx => by simp only [zup_ne hx]), Or.inr ⟨rfl, fun q => by omega⟩⟩
  · refine zt_iconst dX8_differences_58 ?_
    exact zt_zret dX8_differences_59 (by decide) ⟨rfl, rfl, (fun x hx => rfl), Or.inr ⟨rfl, fun q => by omega⟩⟩

set_option maxRecDepth 100000 in
set_option maxHeartbeats 4000000 in
theorem l_diff3 {d n : Nat} {sh : zSh} {h : zMem} {t e : Int} (hS : zShp sh) (hT : zTab sh h t) (hm : zMok sh h) (he : 0 ≤ e ∧ e + 3 < h t 0) (h24 : ∀ k, 0 ≤ k → k ≤ 4 → h 24 k = 0) : zT yX8_differences cX8_differences 6 (some .boolean) (d + 2) 0 0 (tDq n sh h t e 3) 36 [some (2, t), some (0, e), some (0, 3), some (2, 24), none, none] [] n sh h := by
  have hE := hT.2.2.1
  have h80 := hT.1
  have r0 := hm.int (hT.ar 1 (by decide) (by decide)) (j := e + 0) (by omega) (by omega)
  have r1 := hm.int (hT.ar 1 (by decide) (by decide)) (j := e + 1) (by omega) (by omega)
  have r2 := hm.int (hT.ar 1 (by decide) (by decide)) (j := e + 2) (by omega) (by omega)
  have r3 := hm.int (hT.ar 1 (by decide) (by decide)) (j := e + 3) (by omega) (by omega)
  refine zt_iconst dX8_differences_36 ?_
  refine zt_istore_4 dX8_differences_37 (by decide) rfl ?_
  refine zt_iload dX8_differences_39 rfl ?_
  refine zt_iload_n dX8_differences_41 rfl ?_
  refine zt_icmp_gt (tgt := 79) dX8_differences_42 (by decide) (by decide) (by decide) (fun q => absurd q (by decide)) (fun c_42 => ?_)
  refine zt_aload_n dX8_differences_45 rfl ?_
  refine zt_iload_n dX8_differences_46 rfl ?_
  refine zt_iload dX8_differences_47 rfl ?_
  refine zt_iadd dX8_differences_49 ?_
  refine zt_callV1r dX8_differences_50 ml_X8_80 hT.sh (Nat.le_of_ble_eq_true rfl) (c_ttrJ hT (by have q : h t 0 = h t 0 := rfl; omega) rfl) ?_
  refine zt_ldc dX8_differences_53 kc_X8_24 ?_
  refine zt_icmp_ne (tgt := 60) dX8_differences_55 (by decide) (by omega) (by decide) (fun c_55 => ?_) (fun c_55 => ?_)
  · refine zt_aload_n dX8_differences_60 rfl ?_
    refine zt_iload dX8_differences_61 rfl ?_
    refine zt_aload_n dX8_differences_63 rfl ?_
    refine zt_iload_n dX8_differences_64 rfl ?_
    refine zt_iload dX8_differences_65 rfl ?_
    refine zt_iadd dX8_differences_67 ?_
    refine zt_callV1r dX8_differences_68 ml_X8_80 hT.sh (Nat.le_of_ble_eq_true rfl) (c_ttrJ hT (by have q : h t 0 = h t 0 := rfl; omega) rfl) ?_
    refine zt_i2l dX8_differences_71 (by omega) ?_
    refine zt_lastore dX8_differences_72 (zs_24 hS) (by decide) (by decide) (by decide) (by omega) ?_
    refine zt_iincv_4 (v := 1) dX8_differences_73 (by decide) rfl (by decide) ?_
    refine zt_goto (tgt := 39) dX8_differences_76 (by decide) ?_
    refine zt_iload dX8_differences_39 rfl ?_
    refine zt_iload_n dX8_differences_41 rfl ?_
    refine zt_icmp_gt (tgt := 79) dX8_differences_42 (by decide) (by decide) (by decide) (fun q => absurd q (by decide)) (fun c_42 => ?_)
    refine zt_aload_n dX8_differences_45 rfl ?_
    refine zt_iload_n dX8_differences_46 rfl ?_
    refine zt_iload dX8_differences_47 rfl ?_
    refine zt_iadd dX8_differences_49 ?_
    refine zt_callV1r dX8_differences_50 ml_X8_80 hT.sh (Nat.le_of_ble_eq_true rfl) (c_ttrJ (hT.up (by omega)) (by have q : (zup h 24 0 (h (t + 1) (e + 0))) t 0 = h t 0 := ((zupA (by omega)).trans rfl); omega) ((zupA (by omega)).trans rfl)) ?_
    refine zt_ldc dX8_differences_53 kc_X8_24 ?_
    refine zt_icmp_ne (tgt := 60) dX8_differences_55 (by decide) (by omega) (by decide) (fun c_55 => ?_) (fun c_55 => ?_)
    · refine zt_aload_n dX8_differences_60 rfl ?_
      refine zt_iload dX8_differences_61 rfl ?_
      refine zt_aload_n dX8_differences_63 rfl ?_
      refine zt_iload_n dX8_differences_64 rfl ?_
      refine zt_iload dX8_differences_65 rfl ?_
      refine zt_iadd dX8_differences_67 ?_
      refine zt_callV1r dX8_differences_68 ml_X8_80 hT.sh (Nat.le_of_ble_eq_true rfl) (c_ttrJ (hT.up (by omega)) (by have q : (zup h 24 0 (h (t + 1) (e + 0))) t 0 = h t 0 := ((zupA (by omega)).trans rfl); omega) ((zupA (by omega)).trans rfl)) ?_
      refine zt_i2l dX8_differences_71 (by omega) ?_
      refine zt_lastore dX8_differences_72 (zs_24 hS) (by decide) (by decide) (by decide) (by omega) ?_
      refine zt_iincv_4 (v := 2) dX8_differences_73 (by decide) rfl (by decide) ?_
      refine zt_goto (tgt := 39) dX8_differences_76 (by decide) ?_
      refine zt_iload dX8_differences_39 rfl ?_
      refine zt_iload_n dX8_differences_41 rfl ?_
      refine zt_icmp_gt (tgt := 79) dX8_differences_42 (by decide) (by decide) (by decide) (fun q => absurd q (by decide)) (fun c_42 => ?_)
      refine zt_aload_n dX8_differences_45 rfl ?_
      refine zt_iload_n dX8_differences_46 rfl ?_
      refine zt_iload dX8_differences_47 rfl ?_
      refine zt_iadd dX8_differences_49 ?_
      refine zt_callV1r dX8_differences_50 ml_X8_80 hT.sh (Nat.le_of_ble_eq_true rfl) (c_ttrJ ((hT.up (by omega)).up (by omega)) (by have q : (zup (zup h 24 0 (h (t + 1) (e + 0))) 24 1 (h (t + 1) (e + 1))) t 0 = h t 0 := ((zupA (by omega)).trans ((zupA (by omega)).trans rfl)); omega) ((zupA (by omega)).trans ((zupA (by omega)).trans rfl))) ?_
      refine zt_ldc dX8_differences_53 kc_X8_24 ?_
      refine zt_icmp_ne (tgt := 60) dX8_differences_55 (by decide) (by omega) (by decide) (fun c_55 => ?_) (fun c_55 => ?_)
      · refine zt_aload_n dX8_differences_60 rfl ?_
        refine zt_iload dX8_differences_61 rfl ?_
        refine zt_aload_n dX8_differences_63 rfl ?_
        refine zt_iload_n dX8_differences_64 rfl ?_
        refine zt_iload dX8_differences_65 rfl ?_
        refine zt_iadd dX8_differences_67 ?_
        refine zt_callV1r dX8_differences_68 ml_X8_80 hT.sh (Nat.le_of_ble_eq_true rfl) (c_ttrJ ((hT.up (by omega)).up (by omega)) (by have q : (zup (zup h 24 0 (h (t + 1) (e + 0))) 24 1 (h (t + 1) (e + 1))) t 0 = h t 0 := ((zupA (by omega)).trans ((zupA (by omega)).trans rfl)); omega) ((zupA (by omega)).trans ((zupA (by omega)).trans rfl))) ?_
        refine zt_i2l dX8_differences_71 (by omega) ?_
        refine zt_lastore dX8_differences_72 (zs_24 hS) (by decide) (by decide) (by decide) (by omega) ?_
        refine zt_iincv_4 (v := 3) dX8_differences_73 (by decide) rfl (by decide) ?_
        refine zt_goto (tgt := 39) dX8_differences_76 (by decide) ?_
        refine zt_iload dX8_differences_39 rfl ?_
        refine zt_iload_n dX8_differences_41 rfl ?_
        refine zt_icmp_gt (tgt := 79) dX8_differences_42 (by decide) (by decide) (by decide) (fun q => absurd q (by decide)) (fun c_42 => ?_)
        refine zt_aload_n dX8_differences_45 rfl ?_
        refine zt_iload_n dX8_differences_46 rfl ?_
        refine zt_iload dX8_differences_47 rfl ?_
        refine zt_iadd dX8_differences_49 ?_
        refine zt_callV1r dX8_differences_50 ml_X8_80 hT.sh (Nat.le_of_ble_eq_true rfl) (c_ttrJ (((hT.up (by omega)).up (by omega)).up (by omega)) (by have q : (zup (zup (zup h 24 0 (h (t + 1) (e + 0))) 24 1 (h (t + 1) (e + 1))) 24 2 (h (t + 1) (e + 2))) t 0 = h t 0 := ((zupA (by omega)).trans ((zupA (by omega)).trans ((zupA (by omega)).trans rfl))); omega) ((zupA (by omega)).trans ((zupA (by omega)).trans ((zupA (by omega)).trans rfl)))) ?_
        refine zt_ldc dX8_differences_53 kc_X8_24 ?_
        refine zt_icmp_ne (tgt := 60) dX8_differences_55 (by decide) (by omega) (by decide) (fun c_55 => ?_) (fun c_55 => ?_)
        · refine zt_aload_n dX8_differences_60 rfl ?_
          refine zt_iload dX8_differences_61 rfl ?_
          refine zt_aload_n dX8_differences_63 rfl ?_
          refine zt_iload_n dX8_differences_64 rfl ?_
          refine zt_iload dX8_differences_65 rfl ?_
          refine zt_iadd dX8_differences_67 ?_
          refine zt_callV1r dX8_differences_68 ml_X8_80 hT.sh (Nat.le_of_ble_eq_true rfl) (c_ttrJ (((hT.up (by omega)).up (by omega)).up (by omega)) (by have q : (zup (zup (zup h 24 0 (h (t + 1) (e + 0))) 24 1 (h (t + 1) (e + 1))) 24 2 (h (t + 1) (e + 2))) t 0 = h t 0 := ((zupA (by omega)).trans ((zupA (by omega)).trans ((zupA (by omega)).trans rfl))); omega) ((zupA (by omega)).trans ((zupA (by omega)).trans ((zupA (by omega)).trans rfl)))) ?_
          refine zt_i2l dX8_differences_71 (by omega) ?_
          refine zt_lastore dX8_differences_72 (zs_24 hS) (by decide) (by decide) (by decide) (by omega) ?_
          refine zt_iincv_4 (v := 4) dX8_differences_73 (by decide) rfl (by decide) ?_
          refine zt_goto (tgt := 39) dX8_differences_76 (by decide) ?_
          refine zt_iload dX8_differences_39 rfl ?_
          refine zt_iload_n dX8_differences_41 rfl ?_
          refine zt_icmp_gt (tgt := 79) dX8_differences_42 (by decide) (by decide) (by decide) (fun c_42 => ?_) (fun q => absurd q (by decide))
          refine zt_iconst dX8_differences_79 ?_
          refine zt_istore_4 dX8_differences_80 (by decide) rfl ?_
          refine zt_iload dX8_differences_82 rfl ?_
          refine zt_iload_n dX8_differences_84 rfl ?_
          refine zt_icmp_gt (tgt := 123) dX8_differences_85 (by decide) (by decide) (by decide) (fun q => absurd q (by decide)) (fun c_85 => ?_)
          refine zt_iload_n dX8_differences_88 rfl ?_
          refine zt_istore_5 dX8_differences_89 (by decide) rfl ?_
          refine zt_iload dX8_differences_91 rfl ?_
          refine zt_iload dX8_differences_93 rfl ?_
          refine zt_icmp_lt (tgt := 117) dX8_differences_95 (by decide) (by decide) (by decide) (fun q => absurd q (by decide)) (fun c_95 => ?_)
          refine zt_aload_n dX8_differences_98 rfl ?_
          refine zt_iload dX8_differences_99 rfl ?_
          refine zt_dup2 dX8_differences_101 (Nat.ne_of_beq_eq_false rfl) (Nat.ne_of_beq_eq_false rfl) ?_
          refine zt_laloadv (v := h (t + 1) (e + 3)) dX8_differences_102 (zs_24 hS) (by decide) (by decide) (by decide) zupE ?_
          refine zt_aload_n dX8_differences_103 rfl ?_
          refine zt_iload dX8_differences_104 rfl ?_
          refine zt_iconst dX8_differences_106 ?_
          refine zt_isub dX8_differences_107 ?_
          refine zt_topv (v := 2) (by decide) ?_
          refine zt_laloadv (v := h (t + 1) (e + 2)) dX8_differences_108 (zs_24 hS) (by decide) (by decide) (by decide) ((zupJ (by decide)).trans zupE) ?_
          refine zt_lsub dX8_differences_109 ?_
          refine zt_lastore dX8_differences_110 (zs_24 hS) (by decide) (by decide) (by decide) (by omega) ?_
          refine zt_iincv_5 (v := 2) dX8_differences_111 (by decide) rfl (by decide) ?_
          refine zt_goto (tgt := 91) dX8_differences_114 (by decide) ?_
          refine zt_iload dX8_differences_91 rfl ?_
          refine zt_iload dX8_differences_93 rfl ?_
          refine zt_icmp_lt (tgt := 117) dX8_differences_95 (by decide) (by decide) (by decide) (fun q => absurd q (by decide)) (fun c_95 => ?_)
          refine zt_aload_n dX8_differences_98 rfl ?_
          refine zt_iload dX8_differences_99 rfl ?_
          refine zt_dup2 dX8_differences_101 (Nat.ne_of_beq_eq_false rfl) (Nat.ne_of_beq_eq_false rfl) ?_
          refine zt_laloadv (v := h (t + 1) (e + 2)) dX8_differences_102 (zs_24 hS) (by decide) (by decide) (by decide) ((zupJ (by decide)).trans ((zupJ (by decide)).trans zupE)) ?_
          refine zt_aload_n dX8_differences_103 rfl ?_
          refine zt_iload dX8_differences_104 rfl ?_
          refine zt_iconst dX8_differences_106 ?_
          refine zt_isub dX8_differences_107 ?_
          refine zt_topv (v := 1) (by decide) ?_
          refine zt_laloadv (v := h (t + 1) (e + 1)) dX8_differences_108 (zs_24 hS) (by decide) (by decide) (by decide) ((zupJ (by decide)).trans ((zupJ (by decide)).trans ((zupJ (by decide)).trans zupE))) ?_
          refine zt_lsub dX8_differences_109 ?_
          refine zt_lastore dX8_differences_110 (zs_24 hS) (by decide) (by decide) (by decide) (by omega) ?_
          refine zt_iincv_5 (v := 1) dX8_differences_111 (by decide) rfl (by decide) ?_
          refine zt_goto (tgt := 91) dX8_differences_114 (by decide) ?_
          refine zt_iload dX8_differences_91 rfl ?_
          refine zt_iload dX8_differences_93 rfl ?_
          refine zt_icmp_lt (tgt := 117) dX8_differences_95 (by decide) (by decide) (by decide) (fun q => absurd q (by decide)) (fun c_95 => ?_)
          refine zt_aload_n dX8_differences_98 rfl ?_
          refine zt_iload dX8_differences_99 rfl ?_
          refine zt_dup2 dX8_differences_101 (Nat.ne_of_beq_eq_false rfl) (Nat.ne_of_beq_eq_false rfl) ?_
          refine zt_laloadv (v := h (t + 1) (e + 1)) dX8_differences_102 (zs_24 hS) (by decide) (by decide) (by decide) ((zupJ (by decide)).trans ((zupJ (by decide)).trans ((zupJ (by decide)).trans ((zupJ (by decide)).trans zupE)))) ?_
          refine zt_aload_n dX8_differences_103 rfl ?_
          refine zt_iload dX8_differences_104 rfl ?_
          refine zt_iconst dX8_differences_106 ?_
          refine zt_isub dX8_differences_107 ?_
          refine zt_topv (v := 0) (by decide) ?_
          refine zt_laloadv (v := h (t + 1) (e + 0)) dX8_differences_108 (zs_24 hS) (by decide) (by decide) (by decide) ((zupJ (by decide)).trans ((zupJ (by decide)).trans ((zupJ (by decide)).trans ((zupJ (by decide)).trans ((zupJ (by decide)).trans zupE))))) ?_
          refine zt_lsub dX8_differences_109 ?_
          refine zt_lastore dX8_differences_110 (zs_24 hS) (by decide) (by decide) (by decide) (by omega) ?_
          refine zt_iincv_5 (v := 0) dX8_differences_111 (by decide) rfl (by decide) ?_
          refine zt_goto (tgt := 91) dX8_differences_114 (by decide) ?_
          refine zt_iload dX8_differences_91 rfl ?_
          refine zt_iload dX8_differences_93 rfl ?_
          refine zt_icmp_lt (tgt := 117) dX8_differences_95 (by decide) (by decide) (by decide) (fun c_95 => ?_) (fun q => absurd q (by decide))
          refine zt_iincv_4 (v := 2) dX8_differences_117 (by decide) rfl (by decide) ?_
          refine zt_goto (tgt := 82) dX8_differences_120 (by decide) ?_
          refine zt_iload dX8_differences_82 rfl ?_
          refine zt_iload_n dX8_differences_84 rfl ?_
          refine zt_icmp_gt (tgt := 123) dX8_differences_85 (by decide) (by decide) (by decide) (fun q => absurd q (by decide)) (fun c_85 => ?_)
          refine zt_iload_n dX8_differences_88 rfl ?_
          refine zt_istore_5 dX8_differences_89 (by decide) rfl ?_
          refine zt_iload dX8_differences_91 rfl ?_
          refine zt_iload dX8_differences_93 rfl ?_
          refine zt_icmp_lt (tgt := 117) dX8_differences_95 (by decide) (by decide) (by decide) (fun q => absurd q (by decide)) (fun c_95 => ?_)
          refine zt_aload_n dX8_differences_98 rfl ?_
          refine zt_iload dX8_differences_99 rfl ?_
          refine zt_dup2 dX8_differences_101 (Nat.ne_of_beq_eq_false rfl) (Nat.ne_of_beq_eq_false rfl) ?_
          refine zt_laloadv (v := (h (t + 1) (e + 3)) - (h (t + 1) (e + 2))) dX8_differences_102 (zs_24 hS) (by decide) (by decide) (by decide) ((zupJ (by decide)).trans ((zupJ (by decide)).trans zupE)) ?_
          refine zt_aload_n dX8_differences_103 rfl ?_
          refine zt_iload dX8_differences_104 rfl ?_
          refine zt_iconst dX8_differences_106 ?_
          refine zt_isub dX8_differences_107 ?_
          refine zt_topv (v := 2) (by decide) ?_
          refine zt_laloadv (v := (h (t + 1) (e + 2)) - (h (t + 1) (e + 1))) dX8_differences_108 (zs_24 hS) (by decide) (by decide) (by decide) ((zupJ (by decide)).trans zupE) ?_
          refine zt_lsub dX8_differences_109 ?_
          refine zt_lastore dX8_differences_110 (zs_24 hS) (by decide) (by decide) (by decide) (by omega) ?_
          refine zt_iincv_5 (v := 2) dX8_differences_111 (by decide) rfl (by decide) ?_
          refine zt_goto (tgt := 91) dX8_differences_114 (by decide) ?_
          refine zt_iload dX8_differences_91 rfl ?_
          refine zt_iload dX8_differences_93 rfl ?_
          refine zt_icmp_lt (tgt := 117) dX8_differences_95 (by decide) (by decide) (by decide) (fun q => absurd q (by decide)) (fun c_95 => ?_)
          refine zt_aload_n dX8_differences_98 rfl ?_
          refine zt_iload dX8_differences_99 rfl ?_
          refine zt_dup2 dX8_differences_101 (Nat.ne_of_beq_eq_false rfl) (Nat.ne_of_beq_eq_false rfl) ?_
          refine zt_laloadv (v := (h (t + 1) (e + 2)) - (h (t + 1) (e + 1))) dX8_differences_102 (zs_24 hS) (by decide) (by decide) (by decide) ((zupJ (by decide)).trans ((zupJ (by decide)).trans zupE)) ?_
          refine zt_aload_n dX8_differences_103 rfl ?_
          refine zt_iload dX8_differences_104 rfl ?_
          refine zt_iconst dX8_differences_106 ?_
          refine zt_isub dX8_differences_107 ?_
          refine zt_topv (v := 1) (by decide) ?_
          refine zt_laloadv (v := (h (t + 1) (e + 1)) - (h (t + 1) (e + 0))) dX8_differences_108 (zs_24 hS) (by decide) (by decide) (by decide) ((zupJ (by decide)).trans zupE) ?_
          refine zt_lsub dX8_differences_109 ?_
          refine zt_lastore dX8_differences_110 (zs_24 hS) (by decide) (by decide) (by decide) (by omega) ?_
          refine zt_iincv_5 (v := 1) dX8_differences_111 (by decide) rfl (by decide) ?_
          refine zt_goto (tgt := 91) dX8_differences_114 (by decide) ?_
          refine zt_iload dX8_differences_91 rfl ?_
          refine zt_iload dX8_differences_93 rfl ?_
          refine zt_icmp_lt (tgt := 117) dX8_differences_95 (by decide) (by decide) (by decide) (fun c_95 => ?_) (fun q => absurd q (by decide))
          refine zt_iincv_4 (v := 3) dX8_differences_117 (by decide) rfl (by decide) ?_
          refine zt_goto (tgt := 82) dX8_differences_120 (by decide) ?_
          refine zt_iload dX8_differences_82 rfl ?_
          refine zt_iload_n dX8_differences_84 rfl ?_
          refine zt_icmp_gt (tgt := 123) dX8_differences_85 (by decide) (by decide) (by decide) (fun q => absurd q (by decide)) (fun c_85 => ?_)
          refine zt_iload_n dX8_differences_88 rfl ?_
          refine zt_istore_5 dX8_differences_89 (by decide) rfl ?_
          refine zt_iload dX8_differences_91 rfl ?_
          refine zt_iload dX8_differences_93 rfl ?_
          refine zt_icmp_lt (tgt := 117) dX8_differences_95 (by decide) (by decide) (by decide) (fun q => absurd q (by decide)) (fun c_95 => ?_)
          refine zt_aload_n dX8_differences_98 rfl ?_
          refine zt_iload dX8_differences_99 rfl ?_
          refine zt_dup2 dX8_differences_101 (Nat.ne_of_beq_eq_false rfl) (Nat.ne_of_beq_eq_false rfl) ?_
          refine zt_laloadv (v := ((h (t + 1) (e + 3)) - (h (t + 1) (e + 2))) - ((h (t + 1) (e + 2)) - (h (t + 1) (e + 1)))) dX8_differences_102 (zs_24 hS) (by decide) (by decide) (by decide) ((zupJ (by decide)).trans zupE) ?_
          refine zt_aload_n dX8_differences_103 rfl ?_
          refine zt_iload dX8_differences_104 rfl ?_
          refine zt_iconst dX8_differences_106 ?_
          refine zt_isub dX8_differences_107 ?_
          refine zt_topv (v := 2) (by decide) ?_
          refine zt_laloadv (v := ((h (t + 1) (e + 2)) - (h (t + 1) (e + 1))) - ((h (t + 1) (e + 1)) - (h (t + 1) (e + 0)))) dX8_differences_108 (zs_24 hS) (by decide) (by decide) (by decide) zupE ?_
          refine zt_lsub dX8_differences_109 ?_
          refine zt_lastore dX8_differences_110 (zs_24 hS) (by decide) (by decide) (by decide) (by omega) ?_
          refine zt_iincv_5 (v := 2) dX8_differences_111 (by decide) rfl (by decide) ?_
          refine zt_goto (tgt := 91) dX8_differences_114 (by decide) ?_
          refine zt_iload dX8_differences_91 rfl ?_
          refine zt_iload dX8_differences_93 rfl ?_
          refine zt_icmp_lt (tgt := 117) dX8_differences_95 (by decide) (by decide) (by decide) (fun c_95 => ?_) (fun q => absurd q (by decide))
          refine zt_iincv_4 (v := 4) dX8_differences_117 (by decide) rfl (by decide) ?_
          refine zt_goto (tgt := 82) dX8_differences_120 (by decide) ?_
          refine zt_iload dX8_differences_82 rfl ?_
          refine zt_iload_n dX8_differences_84 rfl ?_
          refine zt_icmp_gt (tgt := 123) dX8_differences_85 (by decide) (by decide) (by decide) (fun c_85 => ?_) (fun q => absurd q (by decide))
          refine zt_iconst dX8_differences_123 ?_
          refine zt_istore_4 dX8_differences_124 (by decide) rfl ?_
          refine zt_iload dX8_differences_126 rfl ?_
          refine zt_iload_n dX8_differences_128 rfl ?_
          refine zt_icmp_gt (tgt := 152) dX8_differences_129 (by decide) (by decide) (by decide) (fun q => absurd q (by decide)) (fun c_129 => ?_)
          refine zt_aload_n dX8_differences_132 rfl ?_
          refine zt_iload dX8_differences_133 rfl ?_
          refine zt_aload_n dX8_differences_135 rfl ?_
          refine zt_iload dX8_differences_136 rfl ?_
          refine zt_laloadv (v := h (t + 1) (e + 0)) dX8_differences_138 (zs_24 hS) (by decide) (by decide) (by decide) ((zupJ (by decide)).trans ((zupJ (by decide)).trans ((zupJ (by decide)).trans ((zupJ (by decide)).trans ((zupJ (by decide)).trans ((zupJ (by decide)).trans ((zupJ (by decide)).trans ((zupJ (by decide)).trans ((zupJ (by decide)).trans zupE))))))))) ?_
          refine zt_ldc2 dX8_differences_139 kc_X8_87 ?_
          refine zt_callS2r dX8_differences_142 ml_X8_89 (Nat.le_of_ble_eq_true rfl) (c_fmod (by omega) (by decide) (by decide)) ?_
          refine zt_lastore dX8_differences_145 (zs_24 hS) (by decide) (by decide) (by decide) (by omega) ?_
          refine zt_iincv_4 (v := 1) dX8_differences_146 (by decide) rfl (by decide) ?_
          refine zt_goto (tgt := 126) dX8_differences_149 (by decide) ?_
          refine zt_iload dX8_differences_126 rfl ?_
          refine zt_iload_n dX8_differences_128 rfl ?_
          refine zt_icmp_gt (tgt := 152) dX8_differences_129 (by decide) (by decide) (by decide) (fun q => absurd q (by decide)) (fun c_129 => ?_)
          refine zt_aload_n dX8_differences_132 rfl ?_
          refine zt_iload dX8_differences_133 rfl ?_
          refine zt_aload_n dX8_differences_135 rfl ?_
          refine zt_iload dX8_differences_136 rfl ?_
          refine zt_laloadv (v := (h (t + 1) (e + 1)) - (h (t + 1) (e + 0))) dX8_differences_138 (zs_24 hS) (by decide) (by decide) (by decide) ((zupJ (by decide)).trans ((zupJ (by decide)).trans ((zupJ (by decide)).trans ((zupJ (by decide)).trans zupE)))) ?_
          refine zt_ldc2 dX8_differences_139 kc_X8_87 ?_
          refine zt_callS2r dX8_differences_142 ml_X8_89 (Nat.le_of_ble_eq_true rfl) (c_fmod (by omega) (by decide) (by decide)) ?_
          refine zt_lastore dX8_differences_145 (zs_24 hS) (by decide) (by decide) (by decide) (by omega) ?_
          refine zt_iincv_4 (v := 2) dX8_differences_146 (by decide) rfl (by decide) ?_
          refine zt_goto (tgt := 126) dX8_differences_149 (by decide) ?_
          refine zt_iload dX8_differences_126 rfl ?_
          refine zt_iload_n dX8_differences_128 rfl ?_
          refine zt_icmp_gt (tgt := 152) dX8_differences_129 (by decide) (by decide) (by decide) (fun q => absurd q (by decide)) (fun c_129 => ?_)
          refine zt_aload_n dX8_differences_132 rfl ?_
          refine zt_iload dX8_differences_133 rfl ?_
          refine zt_aload_n dX8_differences_135 rfl ?_
          refine zt_iload dX8_differences_136 rfl ?_
          refine zt_laloadv (v := ((h (t + 1) (e + 2)) - (h (t + 1) (e + 1))) - ((h (t + 1) (e + 1)) - (h (t + 1) (e + 0)))) dX8_differences_138 (zs_24 hS) (by decide) (by decide) (by decide) ((zupJ (by decide)).trans ((zupJ (by decide)).trans ((zupJ (by decide)).trans zupE))) ?_
          refine zt_ldc2 dX8_differences_139 kc_X8_87 ?_
          refine zt_callS2r dX8_differences_142 ml_X8_89 (Nat.le_of_ble_eq_true rfl) (c_fmod (by omega) (by decide) (by decide)) ?_
          refine zt_lastore dX8_differences_145 (zs_24 hS) (by decide) (by decide) (by decide) (by omega) ?_
          refine zt_iincv_4 (v := 3) dX8_differences_146 (by decide) rfl (by decide) ?_
          refine zt_goto (tgt := 126) dX8_differences_149 (by decide) ?_
          refine zt_iload dX8_differences_126 rfl ?_
          refine zt_iload_n dX8_differences_128 rfl ?_
          refine zt_icmp_gt (tgt := 152) dX8_differences_129 (by decide) (by decide) (by decide) (fun q => absurd q (by decide)) (fun c_129 => ?_)
          refine zt_aload_n dX8_differences_132 rfl ?_
          refine zt_iload dX8_differences_133 rfl ?_
          refine zt_aload_n dX8_differences_135 rfl ?_
          refine zt_iload dX8_differences_136 rfl ?_
          refine zt_laloadv (v := (((h (t + 1) (e + 3)) - (h (t + 1) (e + 2))) - ((h (t + 1) (e + 2)) - (h (t + 1) (e + 1)))) - (((h (t + 1) (e + 2)) - (h (t + 1) (e + 1))) - ((h (t + 1) (e + 1)) - (h (t + 1) (e + 0))))) dX8_differences_138 (zs_24 hS) (by decide) (by decide) (by decide) ((zupJ (by decide)).trans ((zupJ (by decide)).trans ((zupJ (by decide)).trans zupE))) ?_
          refine zt_ldc2 dX8_differences_139 kc_X8_87 ?_
          refine zt_callS2r dX8_differences_142 ml_X8_89 (Nat.le_of_ble_eq_true rfl) (c_fmod (by omega) (by decide) (by decide)) ?_
          refine zt_lastore dX8_differences_145 (zs_24 hS) (by decide) (by decide) (by decide) (by omega) ?_
          refine zt_iincv_4 (v := 4) dX8_differences_146 (by decide) rfl (by decide) ?_
          refine zt_goto (tgt := 126) dX8_differences_149 (by decide) ?_
          refine zt_iload dX8_differences_126 rfl ?_
          refine zt_iload_n dX8_differences_128 rfl ?_
          refine zt_icmp_gt (tgt := 152) dX8_differences_129 (by decide) (by decide) (by decide) (fun c_129 => ?_) (fun q => absurd q (by decide))
          refine zt_iconst dX8_differences_152 ?_
          exact zt_zret dX8_differences_153 (by decide) ⟨rfl, rfl, (fun x hx => by simp only [zup_ne hx]), Or.inl ⟨rfl, by omega, fun k h0 h1 => by rcases (show k = 0 ∨ k = 1 ∨ k = 2 ∨ k = 3 ∨ k = 4 by omega) with rfl | rfl | rfl | rfl | rfl; exact ((((zupJ (by decide)).trans ((zupJ (by decide)).trans ((zupJ (by decide)).trans zupE)))).trans (by unfold tDc tD; simp only [show (0 : Int) ≤ 3 by decide, if_true, reduceIte, Int.reduceEq]; first | done | (congr 1; omega))); exact ((((zupJ (by decide)).trans ((zupJ (by decide)).trans zupE))).trans (by unfold tDc tD; simp only [show (1 : Int) ≤ 3 by decide, if_true, reduceIte, Int.reduceEq]; first | done | (congr 1; omega))); exact ((((zupJ (by decide)).trans zupE)).trans (by unfold tDc tD; simp only [show (2 : Int) ≤ 3 by decide, if_true, reduceIte, Int.reduceEq]; first | done | (congr 1; omega))); exact ((zupE).trans (by unfold tDc tD; simp only [show (3 : Int) ≤ 3 by decide, if_true, reduceIte, Int.reduceEq]; first | done | (congr 1; omega))); exact ((((zupJ (by decide)).trans ((zupJ (by decide)).trans ((zupJ (by decide)).trans ((zupJ (by decide)).trans ((zupJ (by decide)).trans ((zupJ (by decide)).trans ((zupJ (by decide)).trans ((zupJ (by decide)).trans ((zupJ (by decide)).trans ((zupJ (by decide)).trans ((zupJ (by decide)).trans ((zupJ (by decide)).trans ((zupJ (by decide)).trans ((zupJ (by decide)).trans rfl))))))))))))))).trans (by rw [h24 4 (by decide) (by decide)]; rfl))⟩⟩
        · refine zt_iconst dX8_differences_58 ?_
          exact zt_zret dX8_differences_59 (by decide) ⟨rfl, rfl, (fun x hx => by simp only [zup_ne hx]), Or.inr ⟨rfl, fun q => by omega⟩⟩
      · refine zt_iconst dX8_differences_58 ?_
        exact zt_zret dX8_differences_59 (by decide) ⟨rfl, rfl, (fun x hx => by simp only [zup_ne hx]), Or.inr ⟨rfl, fun q => by omega⟩⟩
    · refine zt_iconst dX8_differences_58 ?_
      exact zt_zret dX8_differences_59 (by decide) ⟨rfl, rfl, (fun x hx => by simp only [zup_ne hx]), Or.inr ⟨rfl, fun q => by omega⟩⟩
  · refine zt_iconst dX8_differences_58 ?_
    exact zt_zret dX8_differences_59 (by decide) ⟨rfl, rfl, (fun x hx => rfl), Or.inr ⟨rfl, fun q => by omega⟩⟩

set_option maxRecDepth 100000 in
set_option maxHeartbeats 4000000 in
theorem l_diff4 {d n : Nat} {sh : zSh} {h : zMem} {t e : Int} (hS : zShp sh) (hT : zTab sh h t) (hm : zMok sh h) (he : 0 ≤ e ∧ e + 4 < h t 0) (h24 : ∀ k, 0 ≤ k → k ≤ 4 → h 24 k = 0) : zT yX8_differences cX8_differences 6 (some .boolean) (d + 2) 0 0 (tDq n sh h t e 4) 36 [some (2, t), some (0, e), some (0, 4), some (2, 24), none, none] [] n sh h := by
  have hE := hT.2.2.1
  have h80 := hT.1
  have r0 := hm.int (hT.ar 1 (by decide) (by decide)) (j := e + 0) (by omega) (by omega)
  have r1 := hm.int (hT.ar 1 (by decide) (by decide)) (j := e + 1) (by omega) (by omega)
  have r2 := hm.int (hT.ar 1 (by decide) (by decide)) (j := e + 2) (by omega) (by omega)
  have r3 := hm.int (hT.ar 1 (by decide) (by decide)) (j := e + 3) (by omega) (by omega)
  have r4 := hm.int (hT.ar 1 (by decide) (by decide)) (j := e + 4) (by omega) (by omega)
  refine zt_iconst dX8_differences_36 ?_
  refine zt_istore_4 dX8_differences_37 (by decide) rfl ?_
  refine zt_iload dX8_differences_39 rfl ?_
  refine zt_iload_n dX8_differences_41 rfl ?_
  refine zt_icmp_gt (tgt := 79) dX8_differences_42 (by decide) (by decide) (by decide) (fun q => absurd q (by decide)) (fun c_42 => ?_)
  refine zt_aload_n dX8_differences_45 rfl ?_
  refine zt_iload_n dX8_differences_46 rfl ?_
  refine zt_iload dX8_differences_47 rfl ?_
  refine zt_iadd dX8_differences_49 ?_
  refine zt_callV1r dX8_differences_50 ml_X8_80 hT.sh (Nat.le_of_ble_eq_true rfl) (c_ttrJ hT (by have q : h t 0 = h t 0 := rfl; omega) rfl) ?_
  refine zt_ldc dX8_differences_53 kc_X8_24 ?_
  refine zt_icmp_ne (tgt := 60) dX8_differences_55 (by decide) (by omega) (by decide) (fun c_55 => ?_) (fun c_55 => ?_)
  · refine zt_aload_n dX8_differences_60 rfl ?_
    refine zt_iload dX8_differences_61 rfl ?_
    refine zt_aload_n dX8_differences_63 rfl ?_
    refine zt_iload_n dX8_differences_64 rfl ?_
    refine zt_iload dX8_differences_65 rfl ?_
    refine zt_iadd dX8_differences_67 ?_
    refine zt_callV1r dX8_differences_68 ml_X8_80 hT.sh (Nat.le_of_ble_eq_true rfl) (c_ttrJ hT (by have q : h t 0 = h t 0 := rfl; omega) rfl) ?_
    refine zt_i2l dX8_differences_71 (by omega) ?_
    refine zt_lastore dX8_differences_72 (zs_24 hS) (by decide) (by decide) (by decide) (by omega) ?_
    refine zt_iincv_4 (v := 1) dX8_differences_73 (by decide) rfl (by decide) ?_
    refine zt_goto (tgt := 39) dX8_differences_76 (by decide) ?_
    refine zt_iload dX8_differences_39 rfl ?_
    refine zt_iload_n dX8_differences_41 rfl ?_
    refine zt_icmp_gt (tgt := 79) dX8_differences_42 (by decide) (by decide) (by decide) (fun q => absurd q (by decide)) (fun c_42 => ?_)
    refine zt_aload_n dX8_differences_45 rfl ?_
    refine zt_iload_n dX8_differences_46 rfl ?_
    refine zt_iload dX8_differences_47 rfl ?_
    refine zt_iadd dX8_differences_49 ?_
    refine zt_callV1r dX8_differences_50 ml_X8_80 hT.sh (Nat.le_of_ble_eq_true rfl) (c_ttrJ (hT.up (by omega)) (by have q : (zup h 24 0 (h (t + 1) (e + 0))) t 0 = h t 0 := ((zupA (by omega)).trans rfl); omega) ((zupA (by omega)).trans rfl)) ?_
    refine zt_ldc dX8_differences_53 kc_X8_24 ?_
    refine zt_icmp_ne (tgt := 60) dX8_differences_55 (by decide) (by omega) (by decide) (fun c_55 => ?_) (fun c_55 => ?_)
    · refine zt_aload_n dX8_differences_60 rfl ?_
      refine zt_iload dX8_differences_61 rfl ?_
      refine zt_aload_n dX8_differences_63 rfl ?_
      refine zt_iload_n dX8_differences_64 rfl ?_
      refine zt_iload dX8_differences_65 rfl ?_
      refine zt_iadd dX8_differences_67 ?_
      refine zt_callV1r dX8_differences_68 ml_X8_80 hT.sh (Nat.le_of_ble_eq_true rfl) (c_ttrJ (hT.up (by omega)) (by have q : (zup h 24 0 (h (t + 1) (e + 0))) t 0 = h t 0 := ((zupA (by omega)).trans rfl); omega) ((zupA (by omega)).trans rfl)) ?_
      refine zt_i2l dX8_differences_71 (by omega) ?_
      refine zt_lastore dX8_differences_72 (zs_24 hS) (by decide) (by decide) (by decide) (by omega) ?_
      refine zt_iincv_4 (v := 2) dX8_differences_73 (by decide) rfl (by decide) ?_
      refine zt_goto (tgt := 39) dX8_differences_76 (by decide) ?_
      refine zt_iload dX8_differences_39 rfl ?_
      refine zt_iload_n dX8_differences_41 rfl ?_
      refine zt_icmp_gt (tgt := 79) dX8_differences_42 (by decide) (by decide) (by decide) (fun q => absurd q (by decide)) (fun c_42 => ?_)
      refine zt_aload_n dX8_differences_45 rfl ?_
      refine zt_iload_n dX8_differences_46 rfl ?_
      refine zt_iload dX8_differences_47 rfl ?_
      refine zt_iadd dX8_differences_49 ?_
      refine zt_callV1r dX8_differences_50 ml_X8_80 hT.sh (Nat.le_of_ble_eq_true rfl) (c_ttrJ ((hT.up (by omega)).up (by omega)) (by have q : (zup (zup h 24 0 (h (t + 1) (e + 0))) 24 1 (h (t + 1) (e + 1))) t 0 = h t 0 := ((zupA (by omega)).trans ((zupA (by omega)).trans rfl)); omega) ((zupA (by omega)).trans ((zupA (by omega)).trans rfl))) ?_
      refine zt_ldc dX8_differences_53 kc_X8_24 ?_
      refine zt_icmp_ne (tgt := 60) dX8_differences_55 (by decide) (by omega) (by decide) (fun c_55 => ?_) (fun c_55 => ?_)
      · refine zt_aload_n dX8_differences_60 rfl ?_
        refine zt_iload dX8_differences_61 rfl ?_
        refine zt_aload_n dX8_differences_63 rfl ?_
        refine zt_iload_n dX8_differences_64 rfl ?_
        refine zt_iload dX8_differences_65 rfl ?_
        refine zt_iadd dX8_differences_67 ?_
        refine zt_callV1r dX8_differences_68 ml_X8_80 hT.sh (Nat.le_of_ble_eq_true rfl) (c_ttrJ ((hT.up (by omega)).up (by omega)) (by have q : (zup (zup h 24 0 (h (t + 1) (e + 0))) 24 1 (h (t + 1) (e + 1))) t 0 = h t 0 := ((zupA (by omega)).trans ((zupA (by omega)).trans rfl)); omega) ((zupA (by omega)).trans ((zupA (by omega)).trans rfl))) ?_
        refine zt_i2l dX8_differences_71 (by omega) ?_
        refine zt_lastore dX8_differences_72 (zs_24 hS) (by decide) (by decide) (by decide) (by omega) ?_
        refine zt_iincv_4 (v := 3) dX8_differences_73 (by decide) rfl (by decide) ?_
        refine zt_goto (tgt := 39) dX8_differences_76 (by decide) ?_
        refine zt_iload dX8_differences_39 rfl ?_
        refine zt_iload_n dX8_differences_41 rfl ?_
        refine zt_icmp_gt (tgt := 79) dX8_differences_42 (by decide) (by decide) (by decide) (fun q => absurd q (by decide)) (fun c_42 => ?_)
        refine zt_aload_n dX8_differences_45 rfl ?_
        refine zt_iload_n dX8_differences_46 rfl ?_
        refine zt_iload dX8_differences_47 rfl ?_
        refine zt_iadd dX8_differences_49 ?_
        refine zt_callV1r dX8_differences_50 ml_X8_80 hT.sh (Nat.le_of_ble_eq_true rfl) (c_ttrJ (((hT.up (by omega)).up (by omega)).up (by omega)) (by have q : (zup (zup (zup h 24 0 (h (t + 1) (e + 0))) 24 1 (h (t + 1) (e + 1))) 24 2 (h (t + 1) (e + 2))) t 0 = h t 0 := ((zupA (by omega)).trans ((zupA (by omega)).trans ((zupA (by omega)).trans rfl))); omega) ((zupA (by omega)).trans ((zupA (by omega)).trans ((zupA (by omega)).trans rfl)))) ?_
        refine zt_ldc dX8_differences_53 kc_X8_24 ?_
        refine zt_icmp_ne (tgt := 60) dX8_differences_55 (by decide) (by omega) (by decide) (fun c_55 => ?_) (fun c_55 => ?_)
        · refine zt_aload_n dX8_differences_60 rfl ?_
          refine zt_iload dX8_differences_61 rfl ?_
          refine zt_aload_n dX8_differences_63 rfl ?_
          refine zt_iload_n dX8_differences_64 rfl ?_
          refine zt_iload dX8_differences_65 rfl ?_
          refine zt_iadd dX8_differences_67 ?_
          refine zt_callV1r dX8_differences_68 ml_X8_80 hT.sh (Nat.le_of_ble_eq_true rfl) (c_ttrJ (((hT.up (by omega)).up (by omega)).up (by omega)) (by have q : (zup (zup (zup h 24 0 (h (t + 1) (e + 0))) 24 1 (h (t + 1) (e + 1))) 24 2 (h (t + 1) (e + 2))) t 0 = h t 0 := ((zupA (by omega)).trans ((zupA (by omega)).trans ((zupA (by omega)).trans rfl))); omega) ((zupA (by omega)).trans ((zupA (by omega)).trans ((zupA (by omega)).trans rfl)))) ?_
          refine zt_i2l dX8_differences_71 (by omega) ?_
          refine zt_lastore dX8_differences_72 (zs_24 hS) (by decide) (by decide) (by decide) (by omega) ?_
          refine zt_iincv_4 (v := 4) dX8_differences_73 (by decide) rfl (by decide) ?_
          refine zt_goto (tgt := 39) dX8_differences_76 (by decide) ?_
          refine zt_iload dX8_differences_39 rfl ?_
          refine zt_iload_n dX8_differences_41 rfl ?_
          refine zt_icmp_gt (tgt := 79) dX8_differences_42 (by decide) (by decide) (by decide) (fun q => absurd q (by decide)) (fun c_42 => ?_)
          refine zt_aload_n dX8_differences_45 rfl ?_
          refine zt_iload_n dX8_differences_46 rfl ?_
          refine zt_iload dX8_differences_47 rfl ?_
          refine zt_iadd dX8_differences_49 ?_
          refine zt_callV1r dX8_differences_50 ml_X8_80 hT.sh (Nat.le_of_ble_eq_true rfl) (c_ttrJ ((((hT.up (by omega)).up (by omega)).up (by omega)).up (by omega)) (by have q : (zup (zup (zup (zup h 24 0 (h (t + 1) (e + 0))) 24 1 (h (t + 1) (e + 1))) 24 2 (h (t + 1) (e + 2))) 24 3 (h (t + 1) (e + 3))) t 0 = h t 0 := ((zupA (by omega)).trans ((zupA (by omega)).trans ((zupA (by omega)).trans ((zupA (by omega)).trans rfl)))); omega) ((zupA (by omega)).trans ((zupA (by omega)).trans ((zupA (by omega)).trans ((zupA (by omega)).trans rfl))))) ?_
          refine zt_ldc dX8_differences_53 kc_X8_24 ?_
          refine zt_icmp_ne (tgt := 60) dX8_differences_55 (by decide) (by omega) (by decide) (fun c_55 => ?_) (fun c_55 => ?_)
          · refine zt_aload_n dX8_differences_60 rfl ?_
            refine zt_iload dX8_differences_61 rfl ?_
            refine zt_aload_n dX8_differences_63 rfl ?_
            refine zt_iload_n dX8_differences_64 rfl ?_
            refine zt_iload dX8_differences_65 rfl ?_
            refine zt_iadd dX8_differences_67 ?_
            refine zt_callV1r dX8_differences_68 ml_X8_80 hT.sh (Nat.le_of_ble_eq_true rfl) (c_ttrJ ((((hT.up (by omega)).up (by omega)).up (by omega)).up (by omega)) (by have q : (zup (zup (zup (zup h 24 0 (h (t + 1) (e + 0))) 24 1 (h (t + 1) (e + 1))) 24 2 (h (t + 1) (e + 2))) 24 3 (h (t + 1) (e + 3))) t 0 = h t 0 := ((zupA (by omega)).trans ((zupA (by omega)).trans ((zupA (by omega)).trans ((zupA (by omega)).trans rfl)))); omega) ((zupA (by omega)).trans ((zupA (by omega)).trans ((zupA (by omega)).trans ((zupA (by omega)).trans rfl))))) ?_
            refine zt_i2l dX8_differences_71 (by omega) ?_
            refine zt_lastore dX8_differences_72 (zs_24 hS) (by decide) (by decide) (by decide) (by omega) ?_
            refine zt_iincv_4 (v := 5) dX8_differences_73 (by decide) rfl (by decide) ?_
            refine zt_goto (tgt := 39) dX8_differences_76 (by decide) ?_
            refine zt_iload dX8_differences_39 rfl ?_
            refine zt_iload_n dX8_differences_41 rfl ?_
            refine zt_icmp_gt (tgt := 79) dX8_differences_42 (by decide) (by decide) (by decide) (fun c_42 => ?_) (fun q => absurd q (by decide))
            refine zt_iconst dX8_differences_79 ?_
            refine zt_istore_4 dX8_differences_80 (by decide) rfl ?_
            refine zt_iload dX8_differences_82 rfl ?_
            refine zt_iload_n dX8_differences_84 rfl ?_
            refine zt_icmp_gt (tgt := 123) dX8_differences_85 (by decide) (by decide) (by decide) (fun q => absurd q (by decide)) (fun c_85 => ?_)
            refine zt_iload_n dX8_differences_88 rfl ?_
            refine zt_istore_5 dX8_differences_89 (by decide) rfl ?_
            refine zt_iload dX8_differences_91 rfl ?_
            refine zt_iload dX8_differences_93 rfl ?_
            refine zt_icmp_lt (tgt := 117) dX8_differences_95 (by decide) (by decide) (by decide) (fun q => absurd q (by decide)) (fun c_95 => ?_)
            refine zt_aload_n dX8_differences_98 rfl ?_
            refine zt_iload dX8_differences_99 rfl ?_
            refine zt_dup2 dX8_differences_101 (Nat.ne_of_beq_eq_false rfl) (Nat.ne_of_beq_eq_false rfl) ?_
            refine zt_laloadv (v := h (t + 1) (e + 4)) dX8_differences_102 (zs_24 hS) (by decide) (by decide) (by decide) zupE ?_
            refine zt_aload_n dX8_differences_103 rfl ?_
            refine zt_iload dX8_differences_104 rfl ?_
            refine zt_iconst dX8_differences_106 ?_
            refine zt_isub dX8_differences_107 ?_
            refine zt_topv (v := 3) (by decide) ?_
            refine zt_laloadv (v := h (t + 1) (e + 3)) dX8_differences_108 (zs_24 hS) (by decide) (by decide) (by decide) ((zupJ (by decide)).trans zupE) ?_
            refine zt_lsub dX8_differences_109 ?_
            refine zt_lastore dX8_differences_110 (zs_24 hS) (by decide) (by decide) (by decide) (by omega) ?_
            refine zt_iincv_5 (v := 3) dX8_differences_111 (by decide) rfl (by decide) ?_
            refine zt_goto (tgt := 91) dX8_differences_114 (by decide) ?_
            refine zt_iload dX8_differences_91 rfl ?_
            refine zt_iload dX8_differences_93 rfl ?_
            refine zt_icmp_lt (tgt := 117) dX8_differences_95 (by decide) (by decide) (by decide) (fun q => absurd q (by decide)) (fun c_95 => ?_)
            refine zt_aload_n dX8_differences_98 rfl ?_
            refine zt_iload dX8_differences_99 rfl ?_
            refine zt_dup2 dX8_differences_101 (Nat.ne_of_beq_eq_false rfl) (Nat.ne_of_beq_eq_false rfl) ?_
            refine zt_laloadv (v := h (t + 1) (e + 3)) dX8_differences_102 (zs_24 hS) (by decide) (by decide) (by decide) ((zupJ (by decide)).trans ((zupJ (by decide)).trans zupE)) ?_
            refine zt_aload_n dX8_differences_103 rfl ?_
            refine zt_iload dX8_differences_104 rfl ?_
            refine zt_iconst dX8_differences_106 ?_
            refine zt_isub dX8_differences_107 ?_
            refine zt_topv (v := 2) (by decide) ?_
            refine zt_laloadv (v := h (t + 1) (e + 2)) dX8_differences_108 (zs_24 hS) (by decide) (by decide) (by decide) ((zupJ (by decide)).trans ((zupJ (by decide)).trans ((zupJ (by decide)).trans zupE))) ?_
            refine zt_lsub dX8_differences_109 ?_
            refine zt_lastore dX8_differences_110 (zs_24 hS) (by decide) (by decide) (by decide) (by omega) ?_
            refine zt_iincv_5 (v := 2) dX8_differences_111 (by decide) rfl (by decide) ?_
            refine zt_goto (tgt := 91) dX8_differences_114 (by decide) ?_
            refine zt_iload dX8_differences_91 rfl ?_
            refine zt_iload dX8_differences_93 rfl ?_
            refine zt_icmp_lt (tgt := 117) dX8_differences_95 (by decide) (by decide) (by decide) (fun q => absurd q (by decide)) (fun c_95 => ?_)
            refine zt_aload_n dX8_differences_98 rfl ?_
            refine zt_iload dX8_differences_99 rfl ?_
            refine zt_dup2 dX8_differences_101 (Nat.ne_of_beq_eq_false rfl) (Nat.ne_of_beq_eq_false rfl) ?_
            refine zt_laloadv (v := h (t + 1) (e + 2)) dX8_differences_102 (zs_24 hS) (by decide) (by decide) (by decide) ((zupJ (by decide)).trans ((zupJ (by decide)).trans ((zupJ (by decide)).trans ((zupJ (by decide)).trans zupE)))) ?_
            refine zt_aload_n dX8_differences_103 rfl ?_
            refine zt_iload dX8_differences_104 rfl ?_
            refine zt_iconst dX8_differences_106 ?_
            refine zt_isub dX8_differences_107 ?_
            refine zt_topv (v := 1) (by decide) ?_
            refine zt_laloadv (v := h (t + 1) (e + 1)) dX8_differences_108 (zs_24 hS) (by decide) (by decide) (by decide) ((zupJ (by decide)).trans ((zupJ (by decide)).trans ((zupJ (by decide)).trans ((zupJ (by decide)).trans ((zupJ (by decide)).trans zupE))))) ?_
            refine zt_lsub dX8_differences_109 ?_
            refine zt_lastore dX8_differences_110 (zs_24 hS) (by decide) (by decide) (by decide) (by omega) ?_
            refine zt_iincv_5 (v := 1) dX8_differences_111 (by decide) rfl (by decide) ?_
            refine zt_goto (tgt := 91) dX8_differences_114 (by decide) ?_
            refine zt_iload dX8_differences_91 rfl ?_
            refine zt_iload dX8_differences_93 rfl ?_
            refine zt_icmp_lt (tgt := 117) dX8_differences_95 (by decide) (by decide) (by decide) (fun q => absurd q (by decide)) (fun c_95 => ?_)
            refine zt_aload_n dX8_differences_98 rfl ?_
            refine zt_iload dX8_differences_99 rfl ?_
            refine zt_dup2 dX8_differences_101 (Nat.ne_of_beq_eq_false rfl) (Nat.ne_of_beq_eq_false rfl) ?_
            refine zt_laloadv (v := h (t + 1) (e + 1)) dX8_differences_102 (zs_24 hS) (by decide) (by decide) (by decide) ((zupJ (by decide)).trans ((zupJ (by decide)).trans ((zupJ (by decide)).trans ((zupJ (by decide)).trans ((zupJ (by decide)).trans ((zupJ (by decide)).trans zupE)))))) ?_
            refine zt_aload_n dX8_differences_103 rfl ?_
            refine zt_iload dX8_differences_104 rfl ?_
            refine zt_iconst dX8_differences_106 ?_
            refine zt_isub dX8_differences_107 ?_
            refine zt_topv (v := 0) (by decide) ?_
            refine zt_laloadv (v := h (t + 1) (e + 0)) dX8_differences_108 (zs_24 hS) (by decide) (by decide) (by decide) ((zupJ (by decide)).trans ((zupJ (by decide)).trans ((zupJ (by decide)).trans ((zupJ (by decide)).trans ((zupJ (by decide)).trans ((zupJ (by decide)).trans ((zupJ (by decide)).trans zupE))))))) ?_
            refine zt_lsub dX8_differences_109 ?_
            refine zt_lastore dX8_differences_110 (zs_24 hS) (by decide) (by decide) (by decide) (by omega) ?_
            refine zt_iincv_5 (v := 0) dX8_differences_111 (by decide) rfl (by decide) ?_
            refine zt_goto (tgt := 91) dX8_differences_114 (by decide) ?_
            refine zt_iload dX8_differences_91 rfl ?_
            refine zt_iload dX8_differences_93 rfl ?_
            refine zt_icmp_lt (tgt := 117) dX8_differences_95 (by decide) (by decide) (by decide) (fun c_95 => ?_) (fun q => absurd q (by decide))
            refine zt_iincv_4 (v := 2) dX8_differences_117 (by decide) rfl (by decide) ?_
            refine zt_goto (tgt := 82) dX8_differences_120 (by decide) ?_
            refine zt_iload dX8_differences_82 rfl ?_
            refine zt_iload_n dX8_differences_84 rfl ?_
            refine zt_icmp_gt (tgt := 123) dX8_differences_85 (by decide) (by decide) (by decide) (fun q => absurd q (by decide)) (fun c_85 => ?_)
            refine zt_iload_n dX8_differences_88 rfl ?_
            refine zt_istore_5 dX8_differences_89 (by decide) rfl ?_
            refine zt_iload dX8_differences_91 rfl ?_
            refine zt_iload dX8_differences_93 rfl ?_
            refine zt_icmp_lt (tgt := 117) dX8_differences_95 (by decide) (by decide) (by decide) (fun q => absurd q (by decide)) (fun c_95 => ?_)
            refine zt_aload_n dX8_differences_98 rfl ?_
            refine zt_iload dX8_differences_99 rfl ?_
            refine zt_dup2 dX8_differences_101 (Nat.ne_of_beq_eq_false rfl) (Nat.ne_of_beq_eq_false rfl) ?_
            refine zt_laloadv (v := (h (t + 1) (e + 4)) - (h (t + 1) (e + 3))) dX8_differences_102 (zs_24 hS) (by decide) (by decide) (by decide) ((zupJ (by decide)).trans ((zupJ (by decide)).trans ((zupJ (by decide)).trans zupE))) ?_
            refine zt_aload_n dX8_differences_103 rfl ?_
            refine zt_iload dX8_differences_104 rfl ?_
            refine zt_iconst dX8_differences_106 ?_
            refine zt_isub dX8_differences_107 ?_
            refine zt_topv (v := 3) (by decide) ?_
            refine zt_laloadv (v := (h (t + 1) (e + 3)) - (h (t + 1) (e + 2))) dX8_differences_108 (zs_24 hS) (by decide) (by decide) (by decide) ((zupJ (by decide)).trans ((zupJ (by decide)).trans zupE)) ?_
            refine zt_lsub dX8_differences_109 ?_
            refine zt_lastore dX8_differences_110 (zs_24 hS) (by decide) (by decide) (by decide) (by omega) ?_
            refine zt_iincv_5 (v := 3) dX8_differences_111 (by decide) rfl (by decide) ?_
            refine zt_goto (tgt := 91) dX8_differences_114 (by decide) ?_
            refine zt_iload dX8_differences_91 rfl ?_
            refine zt_iload dX8_differences_93 rfl ?_
            refine zt_icmp_lt (tgt := 117) dX8_differences_95 (by decide) (by decide) (by decide) (fun q => absurd q (by decide)) (fun c_95 => ?_)
            refine zt_aload_n dX8_differences_98 rfl ?_
            refine zt_iload dX8_differences_99 rfl ?_
            refine zt_dup2 dX8_differences_101 (Nat.ne_of_beq_eq_false rfl) (Nat.ne_of_beq_eq_false rfl) ?_
            refine zt_laloadv (v := (h (t + 1) (e + 3)) - (h (t + 1) (e + 2))) dX8_differences_102 (zs_24 hS) (by decide) (by decide) (by decide) ((zupJ (by decide)).trans ((zupJ (by decide)).trans ((zupJ (by decide)).trans zupE))) ?_
            refine zt_aload_n dX8_differences_103 rfl ?_
            refine zt_iload dX8_differences_104 rfl ?_
            refine zt_iconst dX8_differences_106 ?_
            refine zt_isub dX8_differences_107 ?_
            refine zt_topv (v := 2) (by decide) ?_
            refine zt_laloadv (v := (h (t + 1) (e + 2)) - (h (t + 1) (e + 1))) dX8_differences_108 (zs_24 hS) (by decide) (by decide) (by decide) ((zupJ (by decide)).trans ((zupJ (by decide)).trans zupE)) ?_
            refine zt_lsub dX8_differences_109 ?_
            refine zt_lastore dX8_differences_110 (zs_24 hS) (by decide) (by decide) (by decide) (by omega) ?_
            refine zt_iincv_5 (v := 2) dX8_differences_111 (by decide) rfl (by decide) ?_
            refine zt_goto (tgt := 91) dX8_differences_114 (by decide) ?_
            refine zt_iload dX8_differences_91 rfl ?_
            refine zt_iload dX8_differences_93 rfl ?_
            refine zt_icmp_lt (tgt := 117) dX8_differences_95 (by decide) (by decide) (by decide) (fun q => absurd q (by decide)) (fun c_95 => ?_)
            refine zt_aload_n dX8_differences_98 rfl ?_
            refine zt_iload dX8_differences_99 rfl ?_
            refine zt_dup2 dX8_differences_101 (Nat.ne_of_beq_eq_false rfl) (Nat.ne_of_beq_eq_false rfl) ?_
            refine zt_laloadv (v := (h (t + 1) (e + 2)) - (h (t + 1) (e + 1))) dX8_differences_102 (zs_24 hS) (by decide) (by decide) (by decide) ((zupJ (by decide)).trans ((zupJ (by decide)).trans ((zupJ (by decide)).trans zupE))) ?_
            refine zt_aload_n dX8_differences_103 rfl ?_
            refine zt_iload dX8_differences_104 rfl ?_
            refine zt_iconst dX8_differences_106 ?_
            refine zt_isub dX8_differences_107 ?_
            refine zt_topv (v := 1) (by decide) ?_
            refine zt_laloadv (v := (h (t + 1) (e + 1)) - (h (t + 1) (e + 0))) dX8_differences_108 (zs_24 hS) (by decide) (by decide) (by decide) ((zupJ (by decide)).trans ((zupJ (by decide)).trans zupE)) ?_
            refine zt_lsub dX8_differences_109 ?_
            refine zt_lastore dX8_differences_110 (zs_24 hS) (by decide) (by decide) (by decide) (by omega) ?_
            refine zt_iincv_5 (v := 1) dX8_differences_111 (by decide) rfl (by decide) ?_
            refine zt_goto (tgt := 91) dX8_differences_114 (by decide) ?_
            refine zt_iload dX8_differences_91 rfl ?_
            refine zt_iload dX8_differences_93 rfl ?_
            refine zt_icmp_lt (tgt := 117) dX8_differences_95 (by decide) (by decide) (by decide) (fun c_95 => ?_) (fun q => absurd q (by decide))
            refine zt_iincv_4 (v := 3) dX8_differences_117 (by decide) rfl (by decide) ?_
            refine zt_goto (tgt := 82) dX8_differences_120 (by decide) ?_
            refine zt_iload dX8_differences_82 rfl ?_
            refine zt_iload_n dX8_differences_84 rfl ?_
            refine zt_icmp_gt (tgt := 123) dX8_differences_85 (by decide) (by decide) (by decide) (fun q => absurd q (by decide)) (fun c_85 => ?_)
            refine zt_iload_n dX8_differences_88 rfl ?_
            refine zt_istore_5 dX8_differences_89 (by decide) rfl ?_
            refine zt_iload dX8_differences_91 rfl ?_
            refine zt_iload dX8_differences_93 rfl ?_
            refine zt_icmp_lt (tgt := 117) dX8_differences_95 (by decide) (by decide) (by decide) (fun q => absurd q (by decide)) (fun c_95 => ?_)
            refine zt_aload_n dX8_differences_98 rfl ?_
            refine zt_iload dX8_differences_99 rfl ?_
            refine zt_dup2 dX8_differences_101 (Nat.ne_of_beq_eq_false rfl) (Nat.ne_of_beq_eq_false rfl) ?_
            refine zt_laloadv (v := ((h (t + 1) (e + 4)) - (h (t + 1) (e + 3))) - ((h (t + 1) (e + 3)) - (h (t + 1) (e + 2)))) dX8_differences_102 (zs_24 hS) (by decide) (by decide) (by decide) ((zupJ (by decide)).trans ((zupJ (by decide)).trans zupE)) ?_
            refine zt_aload_n dX8_differences_103 rfl ?_
            refine zt_iload dX8_differences_104 rfl ?_
            refine zt_iconst dX8_differences_106 ?_
            refine zt_isub dX8_differences_107 ?_
            refine zt_topv (v := 3) (by decide) ?_
            refine zt_laloadv (v := ((h (t + 1) (e + 3)) - (h (t + 1) (e + 2))) - ((h (t + 1) (e + 2)) - (h (t + 1) (e + 1)))) dX8_differences_108 (zs_24 hS) (by decide) (by decide) (by decide) ((zupJ (by decide)).trans zupE) ?_
            refine zt_lsub dX8_differences_109 ?_
            refine zt_lastore dX8_differences_110 (zs_24 hS) (by decide) (by decide) (by decide) (by omega) ?_
            refine zt_iincv_5 (v := 3) dX8_differences_111 (by decide) rfl (by decide) ?_
            refine zt_goto (tgt := 91) dX8_differences_114 (by decide) ?_
            refine zt_iload dX8_differences_91 rfl ?_
            refine zt_iload dX8_differences_93 rfl ?_
            refine zt_icmp_lt (tgt := 117) dX8_differences_95 (by decide) (by decide) (by decide) (fun q => absurd q (by decide)) (fun c_95 => ?_)
            refine zt_aload_n dX8_differences_98 rfl ?_
            refine zt_iload dX8_differences_99 rfl ?_
            refine zt_dup2 dX8_differences_101 (Nat.ne_of_beq_eq_false rfl) (Nat.ne_of_beq_eq_false rfl) ?_
            refine zt_laloadv (v := ((h (t + 1) (e + 3)) - (h (t + 1) (e + 2))) - ((h (t + 1) (e + 2)) - (h (t + 1) (e + 1)))) dX8_differences_102 (zs_24 hS) (by decide) (by decide) (by decide) ((zupJ (by decide)).trans ((zupJ (by decide)).trans zupE)) ?_
            refine zt_aload_n dX8_differences_103 rfl ?_
            refine zt_iload dX8_differences_104 rfl ?_
            refine zt_iconst dX8_differences_106 ?_
            refine zt_isub dX8_differences_107 ?_
            refine zt_topv (v := 2) (by decide) ?_
            refine zt_laloadv (v := ((h (t + 1) (e + 2)) - (h (t + 1) (e + 1))) - ((h (t + 1) (e + 1)) - (h (t + 1) (e + 0)))) dX8_differences_108 (zs_24 hS) (by decide) (by decide) (by decide) ((zupJ (by decide)).trans zupE) ?_
            refine zt_lsub dX8_differences_109 ?_
            refine zt_lastore dX8_differences_110 (zs_24 hS) (by decide) (by decide) (by decide) (by omega) ?_
            refine zt_iincv_5 (v := 2) dX8_differences_111 (by decide) rfl (by decide) ?_
            refine zt_goto (tgt := 91) dX8_differences_114 (by decide) ?_
            refine zt_iload dX8_differences_91 rfl ?_
            refine zt_iload dX8_differences_93 rfl ?_
            refine zt_icmp_lt (tgt := 117) dX8_differences_95 (by decide) (by decide) (by decide) (fun c_95 => ?_) (fun q => absurd q (by decide))
            refine zt_iincv_4 (v := 4) dX8_differences_117 (by decide) rfl (by decide) ?_
            refine zt_goto (tgt := 82) dX8_differences_120 (by decide) ?_
            refine zt_iload dX8_differences_82 rfl ?_
            refine zt_iload_n dX8_differences_84 rfl ?_
            refine zt_icmp_gt (tgt := 123) dX8_differences_85 (by decide) (by decide) (by decide) (fun q => absurd q (by decide)) (fun c_85 => ?_)
            refine zt_iload_n dX8_differences_88 rfl ?_
            refine zt_istore_5 dX8_differences_89 (by decide) rfl ?_
            refine zt_iload dX8_differences_91 rfl ?_
            refine zt_iload dX8_differences_93 rfl ?_
            refine zt_icmp_lt (tgt := 117) dX8_differences_95 (by decide) (by decide) (by decide) (fun q => absurd q (by decide)) (fun c_95 => ?_)
            refine zt_aload_n dX8_differences_98 rfl ?_
            refine zt_iload dX8_differences_99 rfl ?_
            refine zt_dup2 dX8_differences_101 (Nat.ne_of_beq_eq_false rfl) (Nat.ne_of_beq_eq_false rfl) ?_
            refine zt_laloadv (v := (((h (t + 1) (e + 4)) - (h (t + 1) (e + 3))) - ((h (t + 1) (e + 3)) - (h (t + 1) (e + 2)))) - (((h (t + 1) (e + 3)) - (h (t + 1) (e + 2))) - ((h (t + 1) (e + 2)) - (h (t + 1) (e + 1))))) dX8_differences_102 (zs_24 hS) (by decide) (by decide) (by decide) ((zupJ (by decide)).trans zupE) ?_
            refine zt_aload_n dX8_differences_103 rfl ?_
            refine zt_iload dX8_differences_104 rfl ?_
            refine zt_iconst dX8_differences_106 ?_
            refine zt_isub dX8_differences_107 ?_
            refine zt_topv (v := 3) (by decide) ?_
            refine zt_laloadv (v := (((h (t + 1) (e + 3)) - (h (t + 1) (e + 2))) - ((h (t + 1) (e + 2)) - (h (t + 1) (e + 1)))) - (((h (t + 1) (e + 2)) - (h (t + 1) (e + 1))) - ((h (t + 1) (e + 1)) - (h (t + 1) (e + 0))))) dX8_differences_108 (zs_24 hS) (by decide) (by decide) (by decide) zupE ?_
            refine zt_lsub dX8_differences_109 ?_
            refine zt_lastore dX8_differences_110 (zs_24 hS) (by decide) (by decide) (by decide) (by omega) ?_
            refine zt_iincv_5 (v := 3) dX8_differences_111 (by decide) rfl (by decide) ?_
            refine zt_goto (tgt := 91) dX8_differences_114 (by decide) ?_
            refine zt_iload dX8_differences_91 rfl ?_
            refine zt_iload dX8_differences_93 rfl ?_
            refine zt_icmp_lt (tgt := 117) dX8_differences_95 (by decide) (by decide) (by decide) (fun c_95 => ?_) (fun q => absurd q (by decide))
            refine zt_iincv_4 (v := 5) dX8_differences_117 (by decide) rfl (by decide) ?_
            refine zt_goto (tgt := 82) dX8_differences_120 (by decide) ?_
            refine zt_iload dX8_differences_82 rfl ?_
            refine zt_iload_n dX8_differences_84 rfl ?_
            refine zt_icmp_gt (tgt := 123) dX8_differences_85 (by decide) (by decide) (by decide) (fun c_85 => ?_) (fun q => absurd q (by decide))
            refine zt_iconst dX8_differences_123 ?_
            refine zt_istore_4 dX8_differences_124 (by decide) rfl ?_
            refine zt_iload dX8_differences_126 rfl ?_
            refine zt_iload_n dX8_differences_128 rfl ?_
            refine zt_icmp_gt (tgt := 152) dX8_differences_129 (by decide) (by decide) (by decide) (fun q => absurd q (by decide)) (fun c_129 => ?_)
            refine zt_aload_n dX8_differences_132 rfl ?_
            refine zt_iload dX8_differences_133 rfl ?_
            refine zt_aload_n dX8_differences_135 rfl ?_
            refine zt_iload dX8_differences_136 rfl ?_
            refine zt_laloadv (v := h (t + 1) (e + 0)) dX8_differences_138 (zs_24 hS) (by decide) (by decide) (by decide) ((zupJ (by decide)).trans ((zupJ (by decide)).trans ((zupJ (by decide)).trans ((zupJ (by decide)).trans ((zupJ (by decide)).trans ((zupJ (by decide)).trans ((zupJ (by decide)).trans ((zupJ (by decide)).trans ((zupJ (by decide)).trans ((zupJ (by decide)).trans ((zupJ (by decide)).trans ((zupJ (by decide)).trans ((zupJ (by decide)).trans ((zupJ (by decide)).trans zupE)))))))))))))) ?_
            refine zt_ldc2 dX8_differences_139 kc_X8_87 ?_
            refine zt_callS2r dX8_differences_142 ml_X8_89 (Nat.le_of_ble_eq_true rfl) (c_fmod (by omega) (by decide) (by decide)) ?_
            refine zt_lastore dX8_differences_145 (zs_24 hS) (by decide) (by decide) (by decide) (by omega) ?_
            refine zt_iincv_4 (v := 1) dX8_differences_146 (by decide) rfl (by decide) ?_
            refine zt_goto (tgt := 126) dX8_differences_149 (by decide) ?_
            refine zt_iload dX8_differences_126 rfl ?_
            refine zt_iload_n dX8_differences_128 rfl ?_
            refine zt_icmp_gt (tgt := 152) dX8_differences_129 (by decide) (by decide) (by decide) (fun q => absurd q (by decide)) (fun c_129 => ?_)
            refine zt_aload_n dX8_differences_132 rfl ?_
            refine zt_iload dX8_differences_133 rfl ?_
            refine zt_aload_n dX8_differences_135 rfl ?_
            refine zt_iload dX8_differences_136 rfl ?_
            refine zt_laloadv (v := (h (t + 1) (e + 1)) - (h (t + 1) (e + 0))) dX8_differences_138 (zs_24 hS) (by decide) (by decide) (by decide) ((zupJ (by decide)).trans ((zupJ (by decide)).trans ((zupJ (by decide)).trans ((zupJ (by decide)).trans ((zupJ (by decide)).trans ((zupJ (by decide)).trans ((zupJ (by decide)).trans zupE))))))) ?_
            refine zt_ldc2 dX8_differences_139 kc_X8_87 ?_
            refine zt_callS2r dX8_differences_142 ml_X8_89 (Nat.le_of_ble_eq_true rfl) (c_fmod (by omega) (by decide) (by decide)) ?_
            refine zt_lastore dX8_differences_145 (zs_24 hS) (by decide) (by decide) (by decide) (by omega) ?_
            refine zt_iincv_4 (v := 2) dX8_differences_146 (by decide) rfl (by decide) ?_
            refine zt_goto (tgt := 126) dX8_differences_149 (by decide) ?_
            refine zt_iload dX8_differences_126 rfl ?_
            refine zt_iload_n dX8_differences_128 rfl ?_
            refine zt_icmp_gt (tgt := 152) dX8_differences_129 (by decide) (by decide) (by decide) (fun q => absurd q (by decide)) (fun c_129 => ?_)
            refine zt_aload_n dX8_differences_132 rfl ?_
            refine zt_iload dX8_differences_133 rfl ?_
            refine zt_aload_n dX8_differences_135 rfl ?_
            refine zt_iload dX8_differences_136 rfl ?_
            refine zt_laloadv (v := ((h (t + 1) (e + 2)) - (h (t + 1) (e + 1))) - ((h (t + 1) (e + 1)) - (h (t + 1) (e + 0)))) dX8_differences_138 (zs_24 hS) (by decide) (by decide) (by decide) ((zupJ (by decide)).trans ((zupJ (by decide)).trans ((zupJ (by decide)).trans ((zupJ (by decide)).trans ((zupJ (by decide)).trans zupE))))) ?_
            refine zt_ldc2 dX8_differences_139 kc_X8_87 ?_
            refine zt_callS2r dX8_differences_142 ml_X8_89 (Nat.le_of_ble_eq_true rfl) (c_fmod (by omega) (by decide) (by decide)) ?_
            refine zt_lastore dX8_differences_145 (zs_24 hS) (by decide) (by decide) (by decide) (by omega) ?_
            refine zt_iincv_4 (v := 3) dX8_differences_146 (by decide) rfl (by decide) ?_
            refine zt_goto (tgt := 126) dX8_differences_149 (by decide) ?_
            refine zt_iload dX8_differences_126 rfl ?_
            refine zt_iload_n dX8_differences_128 rfl ?_
            refine zt_icmp_gt (tgt := 152) dX8_differences_129 (by decide) (by decide) (by decide) (fun q => absurd q (by decide)) (fun c_129 => ?_)
            refine zt_aload_n dX8_differences_132 rfl ?_
            refine zt_iload dX8_differences_133 rfl ?_
            refine zt_aload_n dX8_differences_135 rfl ?_
            refine zt_iload dX8_differences_136 rfl ?_
            refine zt_laloadv (v := (((h (t + 1) (e + 3)) - (h (t + 1) (e + 2))) - ((h (t + 1) (e + 2)) - (h (t + 1) (e + 1)))) - (((h (t + 1) (e + 2)) - (h (t + 1) (e + 1))) - ((h (t + 1) (e + 1)) - (h (t + 1) (e + 0))))) dX8_differences_138 (zs_24 hS) (by decide) (by decide) (by decide) ((zupJ (by decide)).trans ((zupJ (by decide)).trans ((zupJ (by decide)).trans ((zupJ (by decide)).trans zupE)))) ?_
            refine zt_ldc2 dX8_differences_139 kc_X8_87 ?_
            refine zt_callS2r dX8_differences_142 ml_X8_89 (Nat.le_of_ble_eq_true rfl) (c_fmod (by omega) (by decide) (by decide)) ?_
            refine zt_lastore dX8_differences_145 (zs_24 hS) (by decide) (by decide) (by decide) (by omega) ?_
            refine zt_iincv_4 (v := 4) dX8_differences_146 (by decide) rfl (by decide) ?_
            refine zt_goto (tgt := 126) dX8_differences_149 (by decide) ?_
            refine zt_iload dX8_differences_126 rfl ?_
            refine zt_iload_n dX8_differences_128 rfl ?_
            refine zt_icmp_gt (tgt := 152) dX8_differences_129 (by decide) (by decide) (by decide) (fun q => absurd q (by decide)) (fun c_129 => ?_)
            refine zt_aload_n dX8_differences_132 rfl ?_
            refine zt_iload dX8_differences_133 rfl ?_
            refine zt_aload_n dX8_differences_135 rfl ?_
            refine zt_iload dX8_differences_136 rfl ?_
            refine zt_laloadv (v := ((((h (t + 1) (e + 4)) - (h (t + 1) (e + 3))) - ((h (t + 1) (e + 3)) - (h (t + 1) (e + 2)))) - (((h (t + 1) (e + 3)) - (h (t + 1) (e + 2))) - ((h (t + 1) (e + 2)) - (h (t + 1) (e + 1))))) - ((((h (t + 1) (e + 3)) - (h (t + 1) (e + 2))) - ((h (t + 1) (e + 2)) - (h (t + 1) (e + 1)))) - (((h (t + 1) (e + 2)) - (h (t + 1) (e + 1))) - ((h (t + 1) (e + 1)) - (h (t + 1) (e + 0)))))) dX8_differences_138 (zs_24 hS) (by decide) (by decide) (by decide) ((zupJ (by decide)).trans ((zupJ (by decide)).trans ((zupJ (by decide)).trans ((zupJ (by decide)).trans zupE)))) ?_
            refine zt_ldc2 dX8_differences_139 kc_X8_87 ?_
            refine zt_callS2r dX8_differences_142 ml_X8_89 (Nat.le_of_ble_eq_true rfl) (c_fmod (by omega) (by decide) (by decide)) ?_
            refine zt_lastore dX8_differences_145 (zs_24 hS) (by decide) (by decide) (by decide) (by omega) ?_
            refine zt_iincv_4 (v := 5) dX8_differences_146 (by decide) rfl (by decide) ?_
            refine zt_goto (tgt := 126) dX8_differences_149 (by decide) ?_
            refine zt_iload dX8_differences_126 rfl ?_
            refine zt_iload_n dX8_differences_128 rfl ?_
            refine zt_icmp_gt (tgt := 152) dX8_differences_129 (by decide) (by decide) (by decide) (fun c_129 => ?_) (fun q => absurd q (by decide))
            refine zt_iconst dX8_differences_152 ?_
            exact zt_zret dX8_differences_153 (by decide) ⟨rfl, rfl, (fun x hx => by simp only [zup_ne hx]), Or.inl ⟨rfl, by omega, fun k h0 h1 => by rcases (show k = 0 ∨ k = 1 ∨ k = 2 ∨ k = 3 ∨ k = 4 by omega) with rfl | rfl | rfl | rfl | rfl; exact ((((zupJ (by decide)).trans ((zupJ (by decide)).trans ((zupJ (by decide)).trans ((zupJ (by decide)).trans zupE))))).trans (by unfold tDc tD; simp only [show (0 : Int) ≤ 4 by decide, if_true, reduceIte, Int.reduceEq]; first | done | (congr 1; omega))); exact ((((zupJ (by decide)).trans ((zupJ (by decide)).trans ((zupJ (by decide)).trans zupE)))).trans (by unfold tDc tD; simp only [show (1 : Int) ≤ 4 by decide, if_true, reduceIte, Int.reduceEq]; first | done | (congr 1; omega))); exact ((((zupJ (by decide)).trans ((zupJ (by decide)).trans zupE))).trans (by unfold tDc tD; simp only [show (2 : Int) ≤ 4 by decide, if_true, reduceIte, Int.reduceEq]; first | done | (congr 1; omega))); exact ((((zupJ (by decide)).trans zupE)).trans (by unfold tDc tD; simp only [show (3 : Int) ≤ 4 by decide, if_true, reduceIte, Int.reduceEq]; first | done | (congr 1; omega))); exact ((zupE).trans (by unfold tDc tD; simp only [show (4 : Int) ≤ 4 by decide, if_true, reduceIte, Int.reduceEq]; first | done | (congr 1; omega)))⟩⟩
          · refine zt_iconst dX8_differences_58 ?_
            exact zt_zret dX8_differences_59 (by decide) ⟨rfl, rfl, (fun x hx => by simp only [zup_ne hx]), Or.inr ⟨rfl, fun q => by omega⟩⟩
        · refine zt_iconst dX8_differences_58 ?_
          exact zt_zret dX8_differences_59 (by decide) ⟨rfl, rfl, (fun x hx => by simp only [zup_ne hx]), Or.inr ⟨rfl, fun q => by omega⟩⟩
      · refine zt_iconst dX8_differences_58 ?_
        exact zt_zret dX8_differences_59 (by decide) ⟨rfl, rfl, (fun x hx => by simp only [zup_ne hx]), Or.inr ⟨rfl, fun q => by omega⟩⟩
    · refine zt_iconst dX8_differences_58 ?_
      exact zt_zret dX8_differences_59 (by decide) ⟨rfl, rfl, (fun x hx => by simp only [zup_ne hx]), Or.inr ⟨rfl, fun q => by omega⟩⟩
  · refine zt_iconst dX8_differences_58 ?_
    exact zt_zret dX8_differences_59 (by decide) ⟨rfl, rfl, (fun x hx => rfl), Or.inr ⟨rfl, fun q => by omega⟩⟩

set_option maxRecDepth 100000 in
set_option maxHeartbeats 4000000 in
theorem c_diff {d n : Nat} {sh : zSh} {h : zMem} {t e g : Int} (hS : zShp sh) (hT : zTab sh h t) (he : zi32 e) (hg : zi32 g) : zM yX8_differences cX8_differences 6 (some .boolean) (d + 2) 0 0 [(2, t), (0, e), (0, g), (2, 24)] n sh h (tDq n sh h t e g) := by
  refine zM.ofT2 (by decide +kernel) [some (2, t), some (0, e), some (0, g), some (2, 24), none, none] rfl (Nat.le_of_ble_eq_true rfl) ?_
  have hE := hT.2.2.1
  refine zt_rg (fun hm => ?_)
  refine zt_aload_n dX8_differences_0 rfl ?_
  refine zt_iload_n dX8_differences_1 rfl ?_
  refine zt_callV1r dX8_differences_2 ml_X8_66 hT.sh (Nat.le_of_ble_eq_true rfl) (c_thas hT (by omega)) ?_
  refine zt_ifb_eq (tgt := 29) dX8_differences_5 (by decide) (fun c_5 => ?_) (fun c_5 => ?_)
  · refine zt_iconst dX8_differences_29 ?_
    exact zt_zret dX8_differences_30 (by decide) ⟨rfl, rfl, fun x hx => rfl, Or.inr ⟨rfl, fun q => by omega⟩⟩
  · refine zt_iload_n dX8_differences_8 rfl ?_
    refine zt_iconst dX8_differences_9 ?_
    refine zt_icmp_lt (tgt := 29) dX8_differences_10 (by decide) (by omega) (by decide) (fun c_10 => ?_) (fun c_10 => ?_)
    · refine zt_iconst dX8_differences_29 ?_
      exact zt_zret dX8_differences_30 (by decide) ⟨rfl, rfl, fun x hx => rfl, Or.inr ⟨rfl, fun q => by omega⟩⟩
    · refine zt_iload_n dX8_differences_13 rfl ?_
      refine zt_aload_n dX8_differences_14 rfl ?_
      refine zt_alenv (v := 5) dX8_differences_15 (zs_24 hS) (by decide) (by decide) rfl ?_
      refine zt_icmp_ge (tgt := 29) dX8_differences_16 (by decide) (by omega) (by decide) (fun c_16 => ?_) (fun c_16 => ?_)
      · refine zt_iconst dX8_differences_29 ?_
        exact zt_zret dX8_differences_30 (by decide) ⟨rfl, rfl, fun x hx => rfl, Or.inr ⟨rfl, fun q => by omega⟩⟩
      · refine zt_aload_n dX8_differences_19 rfl ?_
        refine zt_iload_n dX8_differences_20 rfl ?_
        refine zt_iload_n dX8_differences_21 rfl ?_
        refine zt_iadd dX8_differences_22 ?_
        refine zt_callV1r dX8_differences_23 ml_X8_66 hT.sh (Nat.le_of_ble_eq_true rfl) (c_thas hT (by omega)) ?_
        refine zt_ifb_ne (tgt := 31) dX8_differences_26 (by decide) (fun c_26 => ?_) (fun c_26 => ?_)
        · refine zt_aload_n dX8_differences_31 rfl ?_
          refine zt_lconst (v := 0) dX8_differences_32 rfl ?_
          refine zt_callS2v dX8_differences_33 ml_X8_84 (Nat.le_of_ble_eq_true rfl) (c_fillJ (N0 := 5) (zs_24 hS) (by decide) (by decide)) ?_
          have ez : ∀ x, x ≠ 24 → zfil h 24 5 0 x = h x := fun x hx => zfil_ne hx
          have h80 := hT.1
          have hT2 : zTab sh (zfil h 24 5 0) t := ⟨hT.1, hT.2.1, by rw [ez t (by omega)]; exact hT.2.2.1, fun j h1 h2 => by rw [ez t (by omega)]; exact hT.2.2.2 j h1 h2⟩
          refine zt_mono (Q := tDq n sh (zfil h 24 5 0) t e g) (fun r n1 sh1 h1 q => ?_) ?_
          · obtain ⟨q1, q2, q3, q4⟩ := q
            refine ⟨q1, q2, fun x hx => (q3 x hx).trans (ez x hx), ?_⟩
            have eD : ∀ k, tDc (zfil h 24 5 0) t e g k = tDc h t e g k := fun k => by unfold tDc tD; rw [ez (t + 1) (by omega)]
            have eO : tDok (zfil h 24 5 0) t e g = tDok h t e g := by unfold tDok; rw [ez t (by omega), ez (t + 1) (by omega)]
            rw [eO] at q4
            rcases q4 with q4 | q4
            · exact Or.inl ⟨q4.1, q4.2.1, fun k a b => (q4.2.2 k a b).trans (eD k)⟩
            · exact Or.inr q4
          · refine zt_rg (fun hm2 => ?_)
            have h24 : ∀ k, 0 ≤ k → k ≤ 4 → zfil h 24 5 0 24 k = 0 := fun k a b => zfil_in ⟨a, by omega⟩
            have he2 : ∀ q : Int, e + q < h t 0 → (0 ≤ e ∧ e + q < zfil h 24 5 0 t 0) := fun q hq => by rw [ez t (by omega)]; omega
            rcases (show g = 1 ∨ g = 2 ∨ g = 3 ∨ g = 4 by omega) with rfl | rfl | rfl | rfl
            · exact l_diff1 hS hT2 hm2 (he2 1 (by omega)) h24
            · exact l_diff2 hS hT2 hm2 (he2 2 (by omega)) h24
            · exact l_diff3 hS hT2 hm2 (he2 3 (by omega)) h24
            · exact l_diff4 hS hT2 hm2 (he2 4 (by omega)) h24
        · refine zt_iconst dX8_differences_29 ?_
          exact zt_zret dX8_differences_30 (by decide) ⟨rfl, rfl, fun x hx => rfl, Or.inr ⟨rfl, fun q => by omega⟩⟩
