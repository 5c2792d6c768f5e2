theorem sRR_ne {K : Nat} {PL : List Int} {f : List Int → Int} (hK : K ≤ PL.length) : ((CL (iot 0 PL.length) K).map f).reverse ≠ [] := fun q => by
  have e := rem_all (n := (PL.length : Int)) (K := K) (by omega)
  rw [Int.toNat_natCast] at e
  rw [← e, rem_nx] at q
  simp at q
abbrev srOK (h : zMem) (m e : Int) : Prop := (0 ≤ m ∧ m ≤ 3) ∧ (0 ≤ e ∧ e ≤ 9) ∧ m + 1 ≤ (rPl h).length
noncomputable def sRR (h : zMem) (m e : Int) : List Int := ((CL (iot 0 (rPl h).length) (m + 1).toNat).map (hO (h 27) e (rPl h))).reverse
/-- what a search leaves as it was -/
def rK (n : Nat) (sh : zSh) (h : zMem) (n1 : Nat) (sh1 : zSh) (h1 : zMem) : Prop := zRf h1 ∧ zShp sh1 ∧ ∃ s, h1 26 11 = s ∧ (∀ x, x ≠ 26 → x ≠ 28 → x ≠ 29 → x ≠ 30 → x ≠ 31 → x ≠ s → h1 x = h x) ∧ (∀ y, y ≠ 1 → y ≠ 2 → y ≠ 5 → y ≠ 7 → y ≠ 10 → y ≠ 11 → h1 26 y = h 26 y) ∧ ((n1 = n ∧ sh1 = sh ∧ s = h 26 11) ∨ (n1 = n + 1 ∧ sh1 = zshn sh n (100, 8192) ∧ s = n ∧ h 26 11 = -1))
theorem rPl_ok {h : zMem} (hr0 : rOK h) : chF 20 0 (rPl h) ∧ (rPl h).length ≤ 20 ∧ yOK (h 27) (rPl h) := by
  have hl := hr0.1
  refine ⟨chF_up _ _ (by omega) (rPn_ch (h 27) (h 26 0).toNat), ?_, fun p hp => ?_⟩
  · show (rPn (h 27) (h 26 0).toNat).length ≤ 20
    have := rPn_len (h 27) (h 26 0).toNat; omega
  · have := (rPn_mem (h 27) _ p).mp hp
    rcases hr0.2 p this.1.1 (by omega) with q | q
    · exact absurd q this.2
    · exact q

theorem zM_cast {y : MethodName} {cc : ByteArray} {mL : Nat} {rt : Option FieldType} {d kc ks n : Nat} {a : zV} {x z : Int} {sh : zSh} {h : zMem} {Q : Option zV → Nat → zSh → zMem → Prop} (e : x = z) (k : zM y cc mL rt d kc ks [a, (0, x)] n sh h Q) : zM y cc mL rt d kc ks [a, (0, z)] n sh h Q := e ▸ k

set_option maxRecDepth 100000 in
set_option maxHeartbeats 4000000 in
theorem l_sr0 {d n : Nat} {sh : zSh} {h : zMem} {kc ks : Nat} {m e b s : Int} {K : Nat} {PL : List Int} (hR : zRf h) (hS : zShp sh) (hPL : chF 20 0 PL) (hlen : PL.length ≤ 20) (hpl : ∀ q, 0 ≤ q → q < (PL.length : Int) → h 28 q = zgt PL q) (h5 : h 26 5 = PL.length) (hyL : yOK (h 27) PL) (hK0 : 1 ≤ K ∧ K ≤ 4) (he : 0 ≤ e ∧ e ≤ 9) (hb : b = 0 ∨ b = 1) (hs80 : s = -1 ∨ 80 ≤ s) (hs1 : h 26 11 = s) (hsb : b = 1 → 80 ≤ s ∧ sh s = (100, 8192)) (hKm : (K : Int) = m + 1) (hKN : K ≤ PL.length) (hz0 : b = 1 → ∀ j, 0 ≤ j → j < 8192 → h s j = 0) : zT yX6_search cX6_search 9 (some .boolean) (d + 2) kc ks (fun r n1 sh1 h1 => r = some (0, 1) ∧ n1 = n ∧ sh1 = sh ∧ zRf h1 ∧ (∀ x, x ≠ 26 → x ≠ 29 → x ≠ 30 → x ≠ 31 → x ≠ s → h1 x = h x) ∧ (∀ y, y ≠ 1 → y ≠ 2 → y ≠ 7 → y ≠ 10 → h1 26 y = h 26 y) ∧ h1 26 1 = (sB ((CL (iot 0 PL.length) K).map (hO (h 27) e PL)).reverse).2 ∧ (b = 1 → h1 26 2 = dC ((CL (iot 0 PL.length) K).map (hO (h 27) e PL)).reverse (sB ((CL (iot 0 PL.length) K).map (hO (h 27) e PL)).reverse).1)) 45 [some (2, 26), some (0, m), some (0, e), some (0, b), none, none, none, none, none] [] n sh h := by
  refine zt_aload_n dX6_search_45 rfl ?_
  refine zt_iload_n dX6_search_46 rfl ?_
  refine zt_iconst dX6_search_47 ?_
  refine zt_iadd dX6_search_48 ?_
  refine zt_callV1q dX6_search_49 ml_X6_66 (zs_26 hS) (Nat.le_of_ble_eq_true rfl) (zM_cast hKm (c_first (K := K) hS hR hK0)) ?_
  rintro r n1 sh1 g1 ⟨rfl, rfl, rfl, hro, hk1, hl1⟩
  simp only [Option.toList, List.nil_append]
  have e27 : g1 27 = h 27 := hro.1 27 (by decide) (by decide) (by decide) (by decide)
  have e28 : g1 28 = h 28 := hro.1 28 (by decide) (by decide) (by decide) (by decide)
  have e5 : g1 26 5 = h 26 5 := hro.2.1 5 (by decide) (by decide)
  have e11 : g1 26 11 = s := (hro.2.1 11 (by decide) (by decide)).trans hs1
  refine zt_bipush dX6_search_52 (by decide) ?_
  refine zt_istore_4 dX6_search_54 (by decide) rfl ?_
  refine zt_iconst dX6_search_56 ?_
  refine zt_istore_5 dX6_search_57 (by decide) rfl ?_
  refine zt_iconst dX6_search_59 ?_
  refine zt_istore_6 dX6_search_60 (by decide) rfl ?_
  refine zt_mono (fun r n1 sh1 h1 q => ?_) (l_sr (h := g1) (K := K) (PL := PL) (s := s) hS hPL hlen (fun q a c => by rw [e28]; exact hpl q a c) (by rw [e5]; exact h5) (by rw [e27]; exact hyL) hK0 he hb hs80 e11 hsb 4847 0 21 1 g1 [] [] (by omega) (by omega) rfl ⟨⟨fun _ _ _ _ _ _ => rfl, fun _ _ _ _ _ => rfl, hro.2.2, hk1⟩, rfl, fun q => absurd rfl q, fun x hx => absurd hx List.not_mem_nil, fun hb1 => ⟨fun q => absurd rfl q, by rw [hro.1 s (by omega) (by omega) (by omega) (by omega)]; exact tbI_0 (hz0 hb1), fun x hx => absurd hx List.not_mem_nil, fun x hx => absurd hx List.not_mem_nil, Nat.le_refl _⟩⟩ (by rw [hl1]; exact Or.inl ⟨rfl, chF_iot K 0 0 (Int.le_refl _) (by omega), by rw [rem_all (n := (PL.length : Int)) (K := K) (by omega), Int.toNat_natCast]; rfl⟩))
  rw [e27] at q
  obtain ⟨q1, q2, q3, f, T, q4⟩ := q
  have hne := sRR_ne (K := K) (PL := PL) (f := hO (h 27) e PL) hKN
  exact ⟨q1, q2, q3, q4.1.2.2.1, fun x a b c e f => (q4.1.1 x a b c e f).trans (hro.1 x a b c e), fun y a b c e => (q4.1.2.1 y a b c e).trans (hro.2.1 y c e), q4.2.2.1 hne, fun z => by have := (q4.2.2.2.2 z).1 hne; rw [q4.2.1] at this; exact this⟩

set_option maxRecDepth 100000 in
set_option maxHeartbeats 4000000 in
theorem c_sea {d n : Nat} {sh : zSh} {h : zMem} {m e b : Int} (hS : zShp sh) (hR : zRf h) (hr0 : rOK h) (hm0 : zi32 m) (he0 : zi32 e) (hb : b = 0 ∨ b = 1) (hsn : h 26 11 = -1 ∨ (80 ≤ h 26 11 ∧ sh (h 26 11) = (100, 8192))) (hn : 80 ≤ n) : zM yX6_search cX6_search 9 (some .boolean) (d + 2) 1 8192 [(2, 26), (0, m), (0, e), (0, b)] n sh h (fun r n1 sh1 h1 => rK n sh h n1 sh1 h1 ∧ ((¬ srOK h m e ∧ r = some (0, 0)) ∨ (srOK h m e ∧ r = some (0, 1) ∧ h1 26 1 = (sB (sRR h m e)).2 ∧ (b = 1 → h1 26 2 = dC (sRR h m e) (sB (sRR h m e)).1)))) := by
  refine zM.ofT2 (by decide +kernel) [some (2, 26), some (0, m), some (0, e), some (0, b), none, none, none, none, none] rfl (Nat.le_of_ble_eq_true rfl) ?_
  have hok := rPl_ok hr0
  have hlen0 := hok.2.1
  refine zt_iload_n dX6_search_0 rfl ?_
  refine zt_if_lt (tgt := 19) dX6_search_1 (by decide) (by omega) (fun c_1 => ?_) (fun c_1 => ?_)
  · refine zt_iconst dX6_search_19 ?_
    exact zt_zret dX6_search_20 (by decide) ⟨⟨hR, hS, h 26 11, rfl, fun _ _ _ _ _ _ _ => rfl, fun _ _ _ _ _ _ _ => rfl, Or.inl ⟨rfl, rfl, rfl⟩⟩, Or.inl ⟨fun q => by have q1 := q.1; have q2 := q.2.1; omega, rfl⟩⟩
  · refine zt_iload_n dX6_search_4 rfl ?_
    refine zt_iconst dX6_search_5 ?_
    refine zt_icmp_gt (tgt := 19) dX6_search_6 (by decide) (by omega) (by decide) (fun c_6 => ?_) (fun c_6 => ?_)
    · refine zt_iconst dX6_search_19 ?_
      exact zt_zret dX6_search_20 (by decide) ⟨⟨hR, hS, h 26 11, rfl, fun _ _ _ _ _ _ _ => rfl, fun _ _ _ _ _ _ _ => rfl, Or.inl ⟨rfl, rfl, rfl⟩⟩, Or.inl ⟨fun q => by have q1 := q.1; have q2 := q.2.1; omega, rfl⟩⟩
    · refine zt_iload_n dX6_search_9 rfl ?_
      refine zt_if_lt (tgt := 19) dX6_search_10 (by decide) (by omega) (fun c_10 => ?_) (fun c_10 => ?_)
      · refine zt_iconst dX6_search_19 ?_
        exact zt_zret dX6_search_20 (by decide) ⟨⟨hR, hS, h 26 11, rfl, fun _ _ _ _ _ _ _ => rfl, fun _ _ _ _ _ _ _ => rfl, Or.inl ⟨rfl, rfl, rfl⟩⟩, Or.inl ⟨fun q => by have q1 := q.1; have q2 := q.2.1; omega, rfl⟩⟩
      · refine zt_iload_n dX6_search_13 rfl ?_
        refine zt_bipush dX6_search_14 (by decide) ?_
        refine zt_icmp_le (tgt := 21) dX6_search_16 (by decide) (by omega) (by decide) (fun c_16 => ?_) (fun c_16 => ?_)
        · refine zt_aload_n dX6_search_21 rfl ?_
          refine zt_callV0q dX6_search_22 ml_X6_57 (zs_26 hS) (Nat.le_of_ble_eq_true rfl) (c_fpl hS hR hr0) ?_
          rintro r n1 sh1 h1 ⟨rfl, rfl, rfl, g, rfl, hg⟩
          simp only [Option.toList, List.nil_append]
          have e26 : ∀ y, y ≠ 5 → rFm h (rPl h).length g 26 y = h 26 y := fun y q => rFm_n (by decide) (Or.inr q)
          refine zt_aload_n dX6_search_25 rfl ?_
          refine zt_getv (v := ((rPl h).length : Int)) dX6_search_26 fl_X6_60 (zs_26 hS) rFm_p ?_
          refine zt_iload_n dX6_search_29 rfl ?_
          refine zt_iconst dX6_search_30 ?_
          refine zt_iadd dX6_search_31 ?_
          refine zt_icmp_ge (tgt := 37) dX6_search_32 (by decide) (by omega) (by omega) (fun c_32 => ?_) (fun c_32 => ?_)
          · refine zt_iload_n dX6_search_37 rfl ?_
            refine zt_if_eq (tgt := 45) dX6_search_38 (by decide) (by omega) (fun c_38 => ?_) (fun c_38 => ?_)
            · have hb0 : b = 0 := by omega
              refine zt_mono (fun r n3 sh3 h3 q => ?_) (l_sr0 (m := m) (s := h 26 11) (K := (m + 1).toNat) (PL := rPl h) (rFm_rf hR) hS hok.1 hok.2.1 (fun q a c => by show rFm h (rPl h).length g 28 q = _; unfold rFm; rw [znew_at]; exact hg q a c) rFm_p (by rw [show rFm h (rPl h).length g 27 = h 27 from funext fun y => rFm_n (by decide) (Or.inl (by decide))]; exact hok.2.2) ⟨by omega, by omega⟩ ⟨by omega, by omega⟩ hb (by omega) (e26 11 (by decide)) (fun _ => by omega) (by omega) (by omega) (fun _ => by omega))
              obtain ⟨q1, q2, q3, q4, q5, q6, q7, q8⟩ := q
              rw [show rFm h (rPl h).length g 27 = h 27 from funext fun y => rFm_n (by decide) (Or.inl (by decide))] at q7 q8
              refine ⟨⟨q4, by rw [q3]; exact hS, h 26 11, (q6 11 (by decide) (by decide) (by decide) (by decide)).trans (e26 11 (by decide)), fun x a b c e f i => ?_, fun y a b c e f i => ?_, Or.inl ⟨q2, q3, rfl⟩⟩, Or.inr ⟨⟨⟨by omega, by omega⟩, ⟨by omega, by omega⟩, by omega⟩, q1, q7, q8⟩⟩
              · rw [q5 x a c e f i]; exact funext fun y => rFm_n b (Or.inl a)
              · rw [q6 y a b e f]; exact e26 y c
            · refine zt_aload_n dX6_search_41 rfl ?_
              refine zt_callV0q dX6_search_42 ml_X6_63 (zs_26 hS) (Nat.le_of_ble_eq_true rfl) (c_free hS (rFm_rf hR) (by rw [e26 11 (by decide)]; exact hsn) hn) ?_
              rintro r n2 sh2 g2 ⟨rfl, s, hs1, hs2, hx2, hy2, hR2, hS2, hz2, hcs⟩
              simp only [Option.toList, List.nil_append]
              rw [e26 11 (by decide)] at hcs
              refine zt_mono (fun r n3 sh3 h3 q => ?_) (l_sr0 (m := m) (s := s) (K := (m + 1).toNat) (PL := rPl h) hR2 hS2 hok.1 hok.2.1 (fun q a c => by rw [hx2 28 (by decide) (by omega)]; show rFm h (rPl h).length g 28 q = _; unfold rFm; rw [znew_at]; exact hg q a c) ((hy2 5 (by decide)).trans rFm_p) (by rw [hx2 27 (by decide) (by omega), show rFm h (rPl h).length g 27 = h 27 from funext fun y => rFm_n (by decide) (Or.inl (by decide))]; exact hok.2.2) ⟨by omega, by omega⟩ ⟨by omega, by omega⟩ hb (Or.inr hs2.1) hs1 (fun _ => hs2) (by omega) (by omega) (fun _ => hz2))
              obtain ⟨q1, q2, q3, q4, q5, q6, q7, q8⟩ := q
              rw [hx2 27 (by decide) (by omega), show rFm h (rPl h).length g 27 = h 27 from funext fun y => rFm_n (by decide) (Or.inl (by decide))] at q7 q8
              refine ⟨⟨q4, by rw [q3]; exact hS2, s, (q6 11 (by decide) (by decide) (by decide) (by decide)).trans hs1, fun x a b c e f i => ?_, fun y a b c e f i => ?_, ?_⟩, Or.inr ⟨⟨⟨by omega, by omega⟩, ⟨by omega, by omega⟩, by omega⟩, q1, q7, q8⟩⟩
              · rw [q5 x a c e f i, hx2 x a i]; exact funext fun y => rFm_n b (Or.inl a)
              · rw [q6 y a b e f, hy2 y i]; exact e26 y c
              · rw [q2, q3]; exact hcs
          · refine zt_iconst dX6_search_35 ?_
            exact zt_zret dX6_search_36 (by decide) ⟨⟨rFm_rf hR, hS, h 26 11, e26 11 (by decide), fun x a b _ _ _ _ => funext fun y => rFm_n b (Or.inl a), fun y _ _ c _ _ _ => e26 y c, Or.inl ⟨rfl, rfl, rfl⟩⟩, Or.inl ⟨fun q => by have q1 := q.2.2; omega, rfl⟩⟩
        · refine zt_iconst dX6_search_19 ?_
          exact zt_zret dX6_search_20 (by decide) ⟨⟨hR, hS, h 26 11, rfl, fun _ _ _ _ _ _ _ => rfl, fun _ _ _ _ _ _ _ => rfl, Or.inl ⟨rfl, rfl, rfl⟩⟩, Or.inl ⟨fun q => by have q1 := q.1; have q2 := q.2.1; omega, rfl⟩⟩

