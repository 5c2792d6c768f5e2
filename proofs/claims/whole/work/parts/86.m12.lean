def fwd (a b c e f k : Int) : Int := if k < 4 then a else if k < 8 then b else if k < 12 then c else if k < 16 then e else f
def zp4 (k : Int) : Int := if k % 4 = 0 then 16777216 else if k % 4 = 1 then 65536 else if k % 4 = 2 then 256 else 1
/-- the k-th byte fed, 0 .. 255 -/
def fby (a b c e f k : Int) : Int := fwd a b c e f k / zp4 k % 256
theorem zshr4 {W k : Int} (hW : zi32 W) (hk : 0 ≤ k) : (Int32.ofInt W >>> (Int32.ofInt (24 - 8 * (k % 4)) &&& 31)).toInt = W / zp4 k := by
  have hw : (Int32.ofInt W).toInt = W := Int32.toInt_ofInt_of_le (by omega) (by omega)
  unfold zp4
  rcases (show k % 4 = 0 ∨ k % 4 = 1 ∨ k % 4 = 2 ∨ k % 4 = 3 by omega) with q | q | q | q <;> rw [q]
  · rw [if_pos rfl, pk_shr _ _ 24 (by decide), hw, Int.shiftRight_eq_div_pow]; rfl
  · rw [if_neg (by decide), if_pos rfl, pk_shr _ _ 16 (by decide), hw, Int.shiftRight_eq_div_pow]; rfl
  · rw [if_neg (by decide), if_neg (by decide), if_pos rfl, pk_shr _ _ 8 (by decide), hw, Int.shiftRight_eq_div_pow]; rfl
  · rw [if_neg (by decide), if_neg (by decide), if_neg (by decide), pk_shr _ _ 0 (by decide), hw, Int.shiftRight_eq_div_pow]; rfl
theorem zbmod {x : Int} : (x % 256 < 128 ∧ Int.bmod x 256 = x % 256) ∨ (128 ≤ x % 256 ∧ Int.bmod x 256 = x % 256 - 256) := by
  have e : Int.bmod x 256 = if x % 256 < (256 + 1) / 2 then x % 256 else x % 256 - 256 := rfl
  rw [e]; split <;> omega
def jFm (h : zMem) (a b c e f p k : Int) : zMem := fun x y => if x = 39 ∧ p ≤ y ∧ y < p + k then Int.bmod (fwd a b c e f (y - p) / zp4 (y - p)) 256 else if x = 38 ∧ y = 1 then p + k else h x y
theorem jFm_0 {h : zMem} {a b c e f : Int} : jFm h a b c e f (h 38 1) 0 = h := zmem_ext (fun x y => by
  unfold jFm
  rw [if_neg (by omega)]
  split
  · rename_i q; rw [q.1, q.2]; omega
  · rfl)
theorem jFm_s {h : zMem} {a b c e f p k : Int} (h0 : 0 ≤ k) : zup (zup (jFm h a b c e f p k) 39 (p + k) (Int.bmod (fwd a b c e f k / zp4 k) 256)) 38 1 (p + k + 1) = jFm h a b c e f p (k + 1) := zmem_ext (fun x y => by
  unfold zup jFm
  by_cases h1 : x = 38 ∧ y = 1
  · rw [if_pos h1, if_neg (by omega), if_pos h1]; omega
  · rw [if_neg h1]
    by_cases h2 : x = 39 ∧ y = p + k
    · obtain ⟨rfl, rfl⟩ := h2
      rw [if_pos ⟨rfl, rfl⟩, if_pos (by omega), show p + k - p = k by omega]
    · rw [if_neg h2, if_neg h1, if_neg h1]
      by_cases h3 : x = 39 ∧ p ≤ y ∧ y < p + k
      · rw [if_pos h3, if_pos (by omega)]
      · rw [if_neg h3, if_neg (by omega)])
theorem jFm_1 {h : zMem} {a b c e f p k : Int} : jFm h a b c e f p k 38 1 = p + k := (if_neg (by omega)).trans (if_pos ⟨rfl, rfl⟩)
theorem jFm_rf {h : zMem} {a b c e f p k : Int} (hR : zRf h) : zRf (jFm h a b c e f p k) := fun q hq => by
  have h1 : ∀ q ∈ zrf0, q.1 ≠ 39 ∧ (q.1 ≠ 38 ∨ q.2.1 ≠ 1) := by decide
  have h2 := h1 q hq
  unfold jFm; rw [if_neg (by omega), if_neg (by omega)]; exact hR q hq

set_option maxRecDepth 100000 in
set_option maxHeartbeats 4000000 in
theorem l_jfd {d n : Nat} {sh : zSh} {h : zMem} {a b c e f p : Int} (hS : zShp sh) (hR : zRf h) (ha : zi32 a) (hb : zi32 b) (hc : zi32 c) (he : zi32 e) (hf : zi32 f) (hp : 0 ≤ p ∧ p + 20 ≤ 200)  : ∀ (k : Nat) (k0 : Int), 20 - k0 < (k : Int) → 0 ≤ k0 → k0 ≤ 20 → zT yX11_feed cX11_feed 8 (some .int) (d + 0) 0 0 (zq (some (0, p + 20)) n sh (jFm h a b c e f p 20)) 18 [some (2, 38), some (0, a), some (0, b), some (0, c), some (0, e), some (0, f), some (0, k0), none] [] n sh (jFm h a b c e f p k0) := by
  intro k
  induction k with
  | zero => intros; exfalso; omega
  | succ k ih =>
    intro k0 hk h0 h1
    refine zt_iload dX11_feed_18 rfl ?_
    refine zt_bipush dX11_feed_20 (by decide) ?_
    refine zt_icmp_ge (tgt := 112) dX11_feed_22 (by decide) (by omega) (by decide) (fun c_22 => ?_) (fun c_22 => ?_)
    · refine zt_aload_n dX11_feed_112 rfl ?_
      refine zt_getv (v := p + k0) dX11_feed_113 fl_X11_140 (zs_38 hS) jFm_1 ?_
      exact zt_iret dX11_feed_116 ⟨by congr 2; omega, rfl, rfl, by rw [show k0 = 20 by omega]⟩
    · refine zt_iload dX11_feed_25 rfl ?_
      refine zt_iconst dX11_feed_27 ?_
      refine zt_icmp_ge (tgt := 35) dX11_feed_28 (by decide) (by omega) (by decide) (fun c_28 => ?_) (fun c_28 => ?_)
      · refine zt_iload dX11_feed_35 rfl ?_
        refine zt_bipush dX11_feed_37 (by decide) ?_
        refine zt_icmp_ge (tgt := 46) dX11_feed_39 (by decide) (by omega) (by decide) (fun c_39 => ?_) (fun c_39 => ?_)
        · refine zt_iload dX11_feed_46 rfl ?_
          refine zt_bipush dX11_feed_48 (by decide) ?_
          refine zt_icmp_ge (tgt := 57) dX11_feed_50 (by decide) (by omega) (by decide) (fun c_50 => ?_) (fun c_50 => ?_)
          · refine zt_iload dX11_feed_57 rfl ?_
            refine zt_bipush dX11_feed_59 (by decide) ?_
            refine zt_icmp_ge (tgt := 69) dX11_feed_61 (by decide) (by omega) (by decide) (fun c_61 => ?_) (fun c_61 => ?_)
            · refine zt_iload dX11_feed_69 rfl ?_
              refine zt_topv (v := fwd a b c e f k0) (by unfold fwd; (repeat' split) <;> omega) ?_
              refine zt_istore_7 dX11_feed_71 (by decide) rfl ?_
              have hfw : zi32 (fwd a b c e f k0) := by unfold fwd; (repeat' split) <;> assumption
              refine zt_aload_n dX11_feed_73 rfl ?_
              refine zt_getv dX11_feed_74 fl_X11_9 (zs_38 hS) (rf_38_0 (jFm_rf hR)) ?_
              refine zt_aload_n dX11_feed_77 rfl ?_
              refine zt_getv (v := p + k0) dX11_feed_78 fl_X11_140 (zs_38 hS) jFm_1 ?_
              refine zt_iload dX11_feed_81 rfl ?_
              refine zt_bipush dX11_feed_83 (by decide) ?_
              refine zt_bipush dX11_feed_85 (by decide) ?_
              refine zt_iload dX11_feed_87 rfl ?_
              refine zt_iconst dX11_feed_89 ?_
              refine zt_irem dX11_feed_90 (by omega) (by decide) (by decide) ?_
              refine zt_topv (v := k0 % 4) (Int.tmod_eq_emod_of_nonneg (by omega)) ?_
              refine zt_imul dX11_feed_91 ?_
              refine zt_isub dX11_feed_92 ?_
              refine zt_ishr dX11_feed_93 ?_
              refine zt_topv (v := fwd a b c e f k0 / zp4 k0) (zshr4 hfw h0) ?_
              refine zt_i2b dX11_feed_94 ?_
              refine zt_bastore dX11_feed_95 (zs_39 hS) (by decide) (by omega) (by omega) (by have := zbmod (x := fwd a b c e f k0 / zp4 k0); omega) ?_
              refine zt_aload_n dX11_feed_96 rfl ?_
              refine zt_dup dX11_feed_97 (Nat.ne_of_beq_eq_false rfl) ?_
              refine zt_getv (v := p + k0) dX11_feed_98 fl_X11_140 (zs_38 hS) ((zupA (by decide)).trans jFm_1) ?_
              refine zt_iconst dX11_feed_101 ?_
              refine zt_iadd dX11_feed_102 ?_
              refine zt_puti dX11_feed_103 fl_X11_140 rfl (zs_38 hS) (by omega) ?_
              refine zt_iinc_6 dX11_feed_106 (by decide) rfl ?_
              refine zt_goto (tgt := 18) dX11_feed_109 (by decide) ?_
              refine zt_kill_7 ?_
              rw [jFm_s h0]
              exact ih (k0 + 1) (by omega) (by omega) (by omega)
            · refine zt_iload dX11_feed_64 rfl ?_
              refine zt_goto (tgt := 71) dX11_feed_66 (by decide) ?_
              refine zt_topv (v := fwd a b c e f k0) (by unfold fwd; (repeat' split) <;> omega) ?_
              refine zt_istore_7 dX11_feed_71 (by decide) rfl ?_
              have hfw : zi32 (fwd a b c e f k0) := by unfold fwd; (repeat' split) <;> assumption
              refine zt_aload_n dX11_feed_73 rfl ?_
              refine zt_getv dX11_feed_74 fl_X11_9 (zs_38 hS) (rf_38_0 (jFm_rf hR)) ?_
              refine zt_aload_n dX11_feed_77 rfl ?_
              refine zt_getv (v := p + k0) dX11_feed_78 fl_X11_140 (zs_38 hS) jFm_1 ?_
              refine zt_iload dX11_feed_81 rfl ?_
              refine zt_bipush dX11_feed_83 (by decide) ?_
              refine zt_bipush dX11_feed_85 (by decide) ?_
              refine zt_iload dX11_feed_87 rfl ?_
              refine zt_iconst dX11_feed_89 ?_
              refine zt_irem dX11_feed_90 (by omega) (by decide) (by decide) ?_
              refine zt_topv (v := k0 % 4) (Int.tmod_eq_emod_of_nonneg (by omega)) ?_
              refine zt_imul dX11_feed_91 ?_
              refine zt_isub dX11_feed_92 ?_
              refine zt_ishr dX11_feed_93 ?_
              refine zt_topv (v := fwd a b c e f k0 / zp4 k0) (zshr4 hfw h0) ?_
              refine zt_i2b dX11_feed_94 ?_
              refine zt_bastore dX11_feed_95 (zs_39 hS) (by decide) (by omega) (by omega) (by have := zbmod (x := fwd a b c e f k0 / zp4 k0); omega) ?_
              refine zt_aload_n dX11_feed_96 rfl ?_
              refine zt_dup dX11_feed_97 (Nat.ne_of_beq_eq_false rfl) ?_
              refine zt_getv (v := p + k0) dX11_feed_98 fl_X11_140 (zs_38 hS) ((zupA (by decide)).trans jFm_1) ?_
              refine zt_iconst dX11_feed_101 ?_
              refine zt_iadd dX11_feed_102 ?_
              refine zt_puti dX11_feed_103 fl_X11_140 rfl (zs_38 hS) (by omega) ?_
              refine zt_iinc_6 dX11_feed_106 (by decide) rfl ?_
              refine zt_goto (tgt := 18) dX11_feed_109 (by decide) ?_
              refine zt_kill_7 ?_
              rw [jFm_s h0]
              exact ih (k0 + 1) (by omega) (by omega) (by omega)
          · refine zt_iload_n dX11_feed_53 rfl ?_
            refine zt_goto (tgt := 71) dX11_feed_54 (by decide) ?_
            refine zt_topv (v := fwd a b c e f k0) (by unfold fwd; (repeat' split) <;> omega) ?_
            refine zt_istore_7 dX11_feed_71 (by decide) rfl ?_
            have hfw : zi32 (fwd a b c e f k0) := by unfold fwd; (repeat' split) <;> assumption
            refine zt_aload_n dX11_feed_73 rfl ?_
            refine zt_getv dX11_feed_74 fl_X11_9 (zs_38 hS) (rf_38_0 (jFm_rf hR)) ?_
            refine zt_aload_n dX11_feed_77 rfl ?_
            refine zt_getv (v := p + k0) dX11_feed_78 fl_X11_140 (zs_38 hS) jFm_1 ?_
            refine zt_iload dX11_feed_81 rfl ?_
            refine zt_bipush dX11_feed_83 (by decide) ?_
            refine zt_bipush dX11_feed_85 (by decide) ?_
            refine zt_iload dX11_feed_87 rfl ?_
            refine zt_iconst dX11_feed_89 ?_
            refine zt_irem dX11_feed_90 (by omega) (by decide) (by decide) ?_
            refine zt_topv (v := k0 % 4) (Int.tmod_eq_emod_of_nonneg (by omega)) ?_
            refine zt_imul dX11_feed_91 ?_
            refine zt_isub dX11_feed_92 ?_
            refine zt_ishr dX11_feed_93 ?_
            refine zt_topv (v := fwd a b c e f k0 / zp4 k0) (zshr4 hfw h0) ?_
            refine zt_i2b dX11_feed_94 ?_
            refine zt_bastore dX11_feed_95 (zs_39 hS) (by decide) (by omega) (by omega) (by have := zbmod (x := fwd a b c e f k0 / zp4 k0); omega) ?_
            refine zt_aload_n dX11_feed_96 rfl ?_
            refine zt_dup dX11_feed_97 (Nat.ne_of_beq_eq_false rfl) ?_
            refine zt_getv (v := p + k0) dX11_feed_98 fl_X11_140 (zs_38 hS) ((zupA (by decide)).trans jFm_1) ?_
            refine zt_iconst dX11_feed_101 ?_
            refine zt_iadd dX11_feed_102 ?_
            refine zt_puti dX11_feed_103 fl_X11_140 rfl (zs_38 hS) (by omega) ?_
            refine zt_iinc_6 dX11_feed_106 (by decide) rfl ?_
            refine zt_goto (tgt := 18) dX11_feed_109 (by decide) ?_
            refine zt_kill_7 ?_
            rw [jFm_s h0]
            exact ih (k0 + 1) (by omega) (by omega) (by omega)
        · refine zt_iload_n dX11_feed_42 rfl ?_
          refine zt_goto (tgt := 71) dX11_feed_43 (by decide) ?_
          refine zt_topv (v := fwd a b c e f k0) (by unfold fwd; (repeat' split) <;> omega) ?_
          refine zt_istore_7 dX11_feed_71 (by decide) rfl ?_
          have hfw : zi32 (fwd a b c e f k0) := by unfold fwd; (repeat' split) <;> assumption
          refine zt_aload_n dX11_feed_73 rfl ?_
          refine zt_getv dX11_feed_74 fl_X11_9 (zs_38 hS) (rf_38_0 (jFm_rf hR)) ?_
          refine zt_aload_n dX11_feed_77 rfl ?_
          refine zt_getv (v := p + k0) dX11_feed_78 fl_X11_140 (zs_38 hS) jFm_1 ?_
          refine zt_iload dX11_feed_81 rfl ?_
          refine zt_bipush dX11_feed_83 (by decide) ?_
          refine zt_bipush dX11_feed_85 (by decide) ?_
          refine zt_iload dX11_feed_87 rfl ?_
          refine zt_iconst dX11_feed_89 ?_
          refine zt_irem dX11_feed_90 (by omega) (by decide) (by decide) ?_
          refine zt_topv (v := k0 % 4) (Int.tmod_eq_emod_of_nonneg (by omega)) ?_
          refine zt_imul dX11_feed_91 ?_
          refine zt_isub dX11_feed_92 ?_
          refine zt_ishr dX11_feed_93 ?_
          refine zt_topv (v := fwd a b c e f k0 / zp4 k0) (zshr4 hfw h0) ?_
          refine zt_i2b dX11_feed_94 ?_
          refine zt_bastore dX11_feed_95 (zs_39 hS) (by decide) (by omega) (by omega) (by have := zbmod (x := fwd a b c e f k0 / zp4 k0); omega) ?_
          refine zt_aload_n dX11_feed_96 rfl ?_
          refine zt_dup dX11_feed_97 (Nat.ne_of_beq_eq_false rfl) ?_
          refine zt_getv (v := p + k0) dX11_feed_98 fl_X11_140 (zs_38 hS) ((zupA (by decide)).trans jFm_1) ?_
          refine zt_iconst dX11_feed_101 ?_
          refine zt_iadd dX11_feed_102 ?_
          refine zt_puti dX11_feed_103 fl_X11_140 rfl (zs_38 hS) (by omega) ?_
          refine zt_iinc_6 dX11_feed_106 (by decide) rfl ?_
          refine zt_goto (tgt := 18) dX11_feed_109 (by decide) ?_
          refine zt_kill_7 ?_
          rw [jFm_s h0]
          exact ih (k0 + 1) (by omega) (by omega) (by omega)
      · refine zt_iload_n dX11_feed_31 rfl ?_
        refine zt_goto (tgt := 71) dX11_feed_32 (by decide) ?_
        refine zt_topv (v := fwd a b c e f k0) (by unfold fwd; (repeat' split) <;> omega) ?_
        refine zt_istore_7 dX11_feed_71 (by decide) rfl ?_
        have hfw : zi32 (fwd a b c e f k0) := by unfold fwd; (repeat' split) <;> assumption
        refine zt_aload_n dX11_feed_73 rfl ?_
        refine zt_getv dX11_feed_74 fl_X11_9 (zs_38 hS) (rf_38_0 (jFm_rf hR)) ?_
        refine zt_aload_n dX11_feed_77 rfl ?_
        refine zt_getv (v := p + k0) dX11_feed_78 fl_X11_140 (zs_38 hS) jFm_1 ?_
        refine zt_iload dX11_feed_81 rfl ?_
        refine zt_bipush dX11_feed_83 (by decide) ?_
        refine zt_bipush dX11_feed_85 (by decide) ?_
        refine zt_iload dX11_feed_87 rfl ?_
        refine zt_iconst dX11_feed_89 ?_
        refine zt_irem dX11_feed_90 (by omega) (by decide) (by decide) ?_
        refine zt_topv (v := k0 % 4) (Int.tmod_eq_emod_of_nonneg (by omega)) ?_
        refine zt_imul dX11_feed_91 ?_
        refine zt_isub dX11_feed_92 ?_
        refine zt_ishr dX11_feed_93 ?_
        refine zt_topv (v := fwd a b c e f k0 / zp4 k0) (zshr4 hfw h0) ?_
        refine zt_i2b dX11_feed_94 ?_
        refine zt_bastore dX11_feed_95 (zs_39 hS) (by decide) (by omega) (by omega) (by have := zbmod (x := fwd a b c e f k0 / zp4 k0); omega) ?_
        refine zt_aload_n dX11_feed_96 rfl ?_
        refine zt_dup dX11_feed_97 (Nat.ne_of_beq_eq_false rfl) ?_
        refine zt_getv (v := p + k0) dX11_feed_98 fl_X11_140 (zs_38 hS) ((zupA (by decide)).trans jFm_1) ?_
        refine zt_iconst dX11_feed_101 ?_
        refine zt_iadd dX11_feed_102 ?_
        refine zt_puti dX11_feed_103 fl_X11_140 rfl (zs_38 hS) (by omega) ?_
        refine zt_iinc_6 dX11_feed_106 (by decide) rfl ?_
        refine zt_goto (tgt := 18) dX11_feed_109 (by decide) ?_
        refine zt_kill_7 ?_
        rw [jFm_s h0]
        exact ih (k0 + 1) (by omega) (by omega) (by omega)

set_option maxRecDepth 100000 in
set_option maxHeartbeats 4000000 in
theorem c_jfd {d n : Nat} {sh : zSh} {h : zMem} {a b c e f : Int} (hS : zShp sh) (hR : zRf h) (hB : mB h) (ha : zi32 a) (hb : zi32 b) (hc : zi32 c) (he : zi32 e) (hf : zi32 f) : zF yX11_feed cX11_feed 8 (some .int) (d + 0) 0 0 [(2, 38), (0, a), (0, b), (0, c), (0, e), (0, f)] n sh h (some (0, (if h 38 1 ≤ 180 then h 38 1 + 20 else -1))) n sh (if h 38 1 ≤ 180 then jFm h a b c e f (h 38 1) 20 else h) := by
  refine zF.ofT (by decide +kernel) [some (2, 38), some (0, a), some (0, b), some (0, c), some (0, e), some (0, f), none, none] rfl (Nat.le_of_ble_eq_true rfl) ?_
  refine zt_rg (fun hm => ?_)
  have b1 := hB.1
  have b3 := hB.2.2.1
  have b4 := hB.2.2.2.1
  have b5 := hB.2.2.2.2.1
  have b6 := hB.2.2.2.2.2.1
  have b7 := hB.2.2.2.2.2.2.1
  have b8 := hB.2.2.2.2.2.2.2.1
  have b9 := hB.2.2.2.2.2.2.2.2.1
  have b10 := hB.2.2.2.2.2.2.2.2.2.1
  have b11 := hB.2.2.2.2.2.2.2.2.2.2
  refine zt_aload_n dX11_feed_0 rfl ?_
  refine zt_get dX11_feed_1 fl_X11_140 (zs_38 hS) ?_
  refine zt_bipush dX11_feed_4 (by decide) ?_
  refine zt_iadd dX11_feed_6 ?_
  refine zt_sipush dX11_feed_7 (by decide) ?_
  refine zt_icmp_le (tgt := 15) dX11_feed_10 (by decide) (by omega) (by decide) (fun c_10 => ?_) (fun c_10 => ?_)
  · refine zt_iconst dX11_feed_15 ?_
    refine zt_istore_6 dX11_feed_16 (by decide) rfl ?_
    rw [if_pos (by omega), if_pos (by omega)]
    refine zt_mem (h1 := jFm h a b c e f (h 38 1) 0) jFm_0.symm ?_
    exact l_jfd hS hR ha hb hc he hf (by omega) 21 0 (by omega) (by omega) (by omega)
  · refine zt_iconst dX11_feed_13 ?_
    exact zt_iret dX11_feed_14 ⟨by rw [if_neg (by omega)], rfl, rfl, by rw [if_neg (by omega)]⟩
