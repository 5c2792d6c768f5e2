theorem fr_nz {n d : Int} (hn : -100000 ≤ n ∧ n ≤ 100000) (hd : 1 ≤ d ∧ d ≤ 100) : (fr n d).2 ≠ 0 := by
  have h0 : d ≠ 0 := by omega
  have a1 := frA_bd (n := n) (d := d) (B := 100000) (by omega) h0
  have a2 := frB_bd (n := n) (d := d) (B := 100) (by omega) h0
  rw [fr_p ⟨h0, by omega, by omega⟩]
  show frB n d ≠ 0
  intro e
  unfold frB at e
  have h1 := zgcd_le (x := n) h0
  have h2 := zgcd_pos (x := n) h0
  have h3 : 0 < Int.tdiv (zabs d) (zgcd n d) := by
    have h4 : zgcd n d * 1 ≤ zabs d := by omega
    rw [Int.tdiv_eq_ediv_of_nonneg (by omega)]
    exact (Int.le_ediv_iff_mul_le h2).mpr (by omega)
  omega
/-- a table that nothing has touched -/
theorem iTb_at {sh sh' : zSh} {h h' : zMem} {t b : Int} (g : zgr sh sh') (hx : ∀ k, 0 ≤ k → k ≤ 10 → h' (b + k) = h (b + k)) (hr : ∀ r, (r = 47 ∨ r = 51 ∨ r = 52 ∨ r = 53 ∨ r = 54 ∨ r = 55 ∨ r = 56 ∨ r = 57 ∨ r = 61 ∨ r = 66) → ∀ i, 0 ≤ i → i < 30 → h' r (30 * t + i) = h r (30 * t + i)) (ht : ∀ r, (r = 46 ∨ r = 58 ∨ r = 59 ∨ r = 60) → h' r t = h r t) (k : iTb sh h t b) : iTb sh' h' t b := by
  have e0 : h' b = h b := by have := hx 0 (by omega) (by omega); rw [Int.add_zero] at this; exact this
  obtain ⟨k1, k2, k3, k4, k5⟩ := k
  have kz : zTab sh' h' b := by
    have := zTab_sh g k1
    unfold zTab at this ⊢
    rw [e0]; exact this
  refine ⟨kz, by rw [e0, ht 46 (by omega), ht 58 (by omega), ht 59 (by omega), ht 60 (by omega)]; exact k2, by rw [e0]; exact k3, by rw [e0, hx 9 (by omega) (by omega)]; exact k4, fun i a c => ?_⟩
  rw [e0] at c
  have h30 := k1.2.2.1
  have q := k5 i a c
  have w := fun r hr' => hr r hr' i a (by omega)
  unfold iEn at q ⊢
  rw [hx 1 (by omega) (by omega), hx 2 (by omega) (by omega), hx 3 (by omega) (by omega), hx 4 (by omega) (by omega), hx 5 (by omega) (by omega), hx 6 (by omega) (by omega), hx 7 (by omega) (by omega), hx 8 (by omega) (by omega), hx 9 (by omega) (by omega), hx 10 (by omega) (by omega), w 47 (by omega), w 51 (by omega), w 52 (by omega), w 53 (by omega), w 54 (by omega), w 55 (by omega), w 56 (by omega), w 57 (by omega), w 61 (by omega), w 66 (by omega)]
  exact q
theorem jRow_out {h : zMem} {r T i e : Int} {v : Int → Int} (c : ¬ (30 * T ≤ e ∧ e < 30 * T + i)) : jRow h r T i v e = h r e := if_neg c
theorem jRow_in {h : zMem} {r T i j : Int} {v : Int → Int} (c : 0 ≤ j ∧ j < i) : jRow h r T i v (30 * T + j) = v j := by
  unfold jRow; rw [if_pos (by omega)]; congr 1; omega
theorem jTb_ch {h g : zMem} {T N i z : Int} {F : Int → Int} (k : jTb h g T N i F) : zCh [72, 73, 46, 47, 51, 54, 57, 66] [(38, 54), (38, 17)] h (zup g 38 17 z) := by
  have c1 : zCh [72, 73, 46, 47, 51, 54, 57, 66] [(38, 54), (38, 17)] h g := fun x y a b => by
    by_cases c : x = 38
    · subst c; exact k.2.1 y (fun z => b (by rw [z]; decide)) (fun z => b (by rw [z]; decide))
    · rw [k.1 x c (fun z => a (by rw [z]; decide)) (fun z => a (by rw [z]; decide)) (fun z => a (by rw [z]; decide)) (fun z => a (by rw [z]; decide)) (fun z => a (by rw [z]; decide)) (fun z => a (by rw [z]; decide)) (fun z => a (by rw [z]; decide)) (fun z => a (by rw [z]; decide))]
  exact (c1.trans zCh.up).mono (by decide) (by decide)

theorem tSh_gr {n : Nat} {sh : zSh} (hn : 80 ≤ n ∧ ∀ a : Int, (sh a).1 < 106 → a < n) : zgr sh (tSh (zshn sh n (8, 14)) n 10) ∧ (80 ≤ n + 11 ∧ ∀ a : Int, ((tSh (zshn sh n (8, 14)) n 10) a).1 < 106 → a < ((n + 11 : Nat) : Int)) ∧ (tSh (zshn sh n (8, 14)) n 10) (-1000) = sh (-1000) := by
  refine ⟨fun a ha => ?_, ⟨by omega, fun a ha => ?_⟩, ?_⟩
  · have := hn.2 a ha
    rw [tSh_ne (by omega), zshn_ne (by omega)]
  · by_cases c : a < (n : Int) + 11
    · omega
    · rw [tSh_ne (by omega), zshn_ne (by omega)] at ha
      have := hn.2 a ha; omega
  · rw [tSh_ne (by omega), zshn_ne (by omega)]
theorem INV.tab {q : Int} {n : Nat} {sh : zSh} {h g g2 : zMem} {E : Int} {F F2 : Int → Int} (hI : INV q n sh h) (hE : 4 ≤ E ∧ E ≤ 30) (h5 : h 0 11 < 5) (hg : xTi (tMm (znew h n (zdf 8)) n E 10) g n E F) (hj : jTb (zup (zup g 9 (h 0 11) n) 0 11 (h 0 11 + 1)) g2 (h 0 11) E E F2) (hF : ∀ j, 0 ≤ j → j < E → F j = F2 j) (hF2 : ∀ j, F2 j = -2147483648 ∨ (-999999999 ≤ F2 j ∧ F2 j ≤ 999999999)) : INV (q + 1) (n + 11) (tSh (zshn sh n (8, 14)) n 10) (zup g2 38 17 (h 0 11 + 1)) := by
  obtain ⟨⟨hS, hR, hn, hq⟩, hB, hX, hSh, hT, hV, hEn, hRw, hN, hU, hG, hL, hTk, hW⟩ := hI
  obtain ⟨kg, kn, _⟩ := tSh_gr hn
  have n80 := hn.1
  have gx : ∀ x : Int, x ≠ 5 → x ≠ 6 → x ≠ 7 → (x < n ∨ (n : Int) + 10 < x) → g x = h x := fun x a1 a2 a3 a4 => by
    rw [hg.1 x a1 a2 a3 (by omega), tMm_ne (by omega), znew_ne (by omega)]
  have c1 : zChL [5, 6, 7, 9] [(0, 11)] h (zup (zup g 9 (h 0 11) n) 0 11 (h 0 11 + 1)) := by
    have c0 : zChL [5, 6, 7] [] h g := fun x y hx a _ => by rw [gx x (fun z => a (by rw [z]; decide)) (fun z => a (by rw [z]; decide)) (fun z => a (by rw [z]; decide)) (by omega)]
    exact (c0.trans ((zCh.upA.trans zCh.up : zCh _ _ g (zup (zup g 9 (h 0 11) n) 0 11 (h 0 11 + 1))).lo))
  have c2 := jTb_ch (z := h 0 11 + 1) hj
  have cc := c1.trans c2.lo
  have T0 := hT.1
  have T1 := hB.1
  have lowx : ∀ x : Int, 80 ≤ x → x < n → (zup g2 38 17 (h 0 11 + 1)) x = h x := fun x a b => by
    rw [c2.hi (by decide) (by decide) x a, zup_ne (by omega), zup_ne (by omega), gx x (by omega) (by omega) (by omega) (by omega)]
  have newx : ∀ k, 0 ≤ k → k ≤ 10 → (zup g2 38 17 (h 0 11 + 1)) ((n : Int) + k) = g ((n : Int) + k) := fun k a b => by
    rw [c2.hi (by decide) (by decide) _ (by omega), zup_ne (by omega), zup_ne (by omega)]
  have newt : ∀ k, 0 ≤ k → k ≤ 10 → k ≠ 1 → (zup g2 38 17 (h 0 11 + 1)) ((n : Int) + k) = tMm (znew h n (zdf 8)) n E 10 ((n : Int) + k) := fun k a b c => by
    rw [newx k a b, hg.1 _ (by omega) (by omega) (by omega) (by omega)]
  have e11 : (zup g2 38 17 (h 0 11 + 1)) 0 11 = h 0 11 + 1 := by rw [c2.lo.s (DR := []) (DS := [(0, 11)]) (a := 0) (j := 11) (by decide) (by decide), zupE]
  have e17 : (zup g2 38 17 (h 0 11 + 1)) 38 17 = h 0 11 + 1 := zupE
  have e9 : ∀ t, (zup g2 38 17 (h 0 11 + 1)) 9 t = if t = h 0 11 then (n : Int) else h 9 t := fun t => by
    rw [c2.lo.r (DR := [9]) (DS := []) (x := 9) (by decide) (by decide), zup_ne (by decide)]
    by_cases c : t = h 0 11
    · rw [if_pos c, c, zupE]
    · rw [if_neg c, zupJ c, gx 9 (by decide) (by decide) (by decide) (by omega)]
  have e46 : ∀ t, (zup g2 38 17 (h 0 11 + 1)) 46 t = if t = h 0 11 then E else h 46 t := fun t => by
    rw [zup_ne (by decide), hj.2.2.2.1 t]
    by_cases c : t = h 0 11
    · rw [if_pos c, if_pos c]
    · rw [if_neg c, if_neg c, c1.r (DR := [46]) (DS := []) (x := 46) (by decide) (by decide)]
  have eo : ∀ r, (r = 47 ∨ r = 51 ∨ r = 54 ∨ r = 57 ∨ r = 66) → ∀ e, ¬ (30 * h 0 11 ≤ e ∧ e < 30 * h 0 11 + E) → (zup g2 38 17 (h 0 11 + 1)) r e = h r e := fun r hr e he => by
    have c1r := fun r hr => c1.r (DR := [47, 51, 54, 57, 66]) (DS := []) (x := r) (by decide) hr
    rcases hr with z | z | z | z | z <;> subst z
    · rw [zup_ne (by decide), hj.2.2.2.2.1, jRow_out he, c1r 47 (by decide)]
    · rw [zup_ne (by decide), hj.2.2.2.2.2.1, jRow_out he, c1r 51 (by decide)]
    · rw [zup_ne (by decide), hj.2.2.2.2.2.2.1, jRow_out he, c1r 54 (by decide)]
    · rw [zup_ne (by decide), hj.2.2.2.2.2.2.2.1, jRow_out he, c1r 57 (by decide)]
    · rw [zup_ne (by decide), hj.2.2.2.2.2.2.2.2, jRow_out he, c1r 66 (by decide)]
  have er := fun r hr => cc.r (DR := [52, 53, 55, 56, 58, 59, 60, 61, 62, 63, 64, 65, 33, 34, 35, 36, 37]) (DS := []) (x := r) (by decide) hr
  have hlt : ∀ t, 0 ≤ t → t < h 0 11 → (80 ≤ h 9 t ∧ h 9 t + 10 < n) := fun t a b => by
    have hz := (hT.2.2 t a b).1
    have h1 := hn.2 (h 9 t + 10) (by rw [(hz.2.2.2 10 (by omega) (by omega)).1]; decide)
    exact ⟨hz.1, h1⟩
  have hRf2 : zRf (zup g2 38 17 (h 0 11 + 1)) := hj.2.2.1.up (by decide)
  refine ⟨⟨tSh_shp (hS.new (by omega)) (by omega), hRf2, kn, by omega⟩, ?_, mTx_c cc (by decide) hX, iS_sh kg (iS_c cc (by decide) (fun a h1 h2 h3 => ?_) hSh), ?_, vHab_c cc (by decide) hV, iE_q (iE_c cc (by decide) hEn), vRow_c cc (by decide) hRw, iN_sh kg (iN_c cc (by decide) hN), ?_, iG_c cc (by decide) hG, (by rw [cc.r (DR := [75]) (DS := []) (by decide) (x := 75) (by decide)]; exact hL), ?_, ?_⟩
  · have es := fun j hj => cc.s (DR := []) (DS := [(38, 20), (38, 21), (38, 50), (38, 37), (38, 16), (38, 46), (38, 45), (38, 1), (38, 12)]) (a := 38) (j := j) (by decide) hj
    refine ⟨by rw [e17]; omega, fun t a b => ?_, by rw [es 20 (by decide)]; exact hB.2.2.1, by rw [es 21 (by decide)]; exact hB.2.2.2.1, by rw [es 50 (by decide)]; exact hB.2.2.2.2.1, by rw [es 37 (by decide)]; exact hB.2.2.2.2.2.1, by rw [es 16 (by decide)]; exact hB.2.2.2.2.2.2.1, by rw [es 46 (by decide)]; exact hB.2.2.2.2.2.2.2.1, by rw [es 45 (by decide)]; exact hB.2.2.2.2.2.2.2.2.1, by rw [es 1 (by decide)]; exact hB.2.2.2.2.2.2.2.2.2.1, by rw [es 12 (by decide)]; exact hB.2.2.2.2.2.2.2.2.2.2⟩
    rw [e17] at b
    rw [e46]
    by_cases c : t = h 0 11
    · rw [if_pos c]; exact hE
    · rw [if_neg c]; exact hB.2.1 t a (by omega)
  · obtain ⟨N, w1, w2⟩ := h3
    have u1 := hn.2 a (by rw [h2]; decide)
    have u2 := hn.2 (a + 1) (by rw [w1]; exact (show 100 < 106 by decide))
    exact ⟨lowx a h1 u1, lowx (a + 1) (by omega) u2⟩
  · refine ⟨by rw [e17, e11], fun t u a1 a2 a3 a4 a5 => ?_, fun t a b => ?_⟩
    · rw [e11] at a2 a4
      rw [e9, e9] at a5
      by_cases ct : t = h 0 11
      · by_cases cu : u = h 0 11
        · omega
        · rw [if_pos ct, if_neg cu] at a5
          have := hlt u a3 (by omega); omega
      · by_cases cu : u = h 0 11
        · rw [if_neg ct, if_pos cu] at a5
          have := hlt t a1 (by omega); omega
        · rw [if_neg ct, if_neg cu] at a5
          exact hT.2.1 t u a1 (by omega) a3 (by omega) a5
    · rw [e11] at b
      rw [e9]
      by_cases c : t = h 0 11
      · subst c
        rw [if_pos rfl]
        have w0 := hW.2 (h 0 11) (by omega) h5
        have hz := tMm_tab (sh := zshn sh n (8, 14)) (h := znew h n (zdf 8)) (t := (n : Int)) (e := E) (by omega) zshn_at hE
        have t0 : (zup g2 38 17 (h 0 11 + 1)) (n : Int) = tMm (znew h n (zdf 8)) n E 10 n := by have := newt 0 (by omega) (by omega) (by omega); rw [Int.add_zero] at this; exact this
        have tr : ∀ k i, 2 ≤ k → k ≤ 10 → 0 ≤ i → i < 30 → (zup g2 38 17 (h 0 11 + 1)) ((n : Int) + k) i = tV k := fun k i a b c d => by
          rw [newt k (by omega) b (by omega)]
          unfold tMm
          rw [if_neg (by omega), if_neg (by omega), if_pos (by omega), if_pos (by omega)]
          congr 1; omega
        have tn : ∀ j, (j = 11 ∨ j = 12 ∨ j = 13) → (zup g2 38 17 (h 0 11 + 1)) (n : Int) j = 0 := fun j hj => by
          rw [t0]
          unfold tMm
          rw [if_neg (by omega), if_neg (by omega), if_neg (by omega), znew_at]
          rcases hj with z | z | z <;> subst z <;> decide
        have tE : (zup g2 38 17 (h 0 11 + 1)) (n : Int) 0 = E := by rw [t0, tMm_0e]
        refine ⟨?_, ⟨by rw [e46, if_pos rfl, tE], by rw [er 58 (by decide), tn 11 (by omega)]; exact w0.1, by rw [er 59 (by decide), tn 12 (by omega)]; exact w0.2.1, by rw [er 60 (by decide), tn 13 (by omega)]; exact w0.2.2.1⟩, by rw [tn 12 (by omega), tn 13 (by omega)]; decide, fun j a b => by rw [tr 9 j (by omega) (by omega) a b, tn 12 (by omega)]; decide, fun i a b => ?_⟩
        · unfold zTab at hz ⊢
          rw [t0]; exact hz
        · rw [tE] at b
          have ein : ∀ r, (zup g2 38 17 (h 0 11 + 1)) r = g2 r ∨ r = 38 := fun r => by
            by_cases c : r = 38
            · exact Or.inr c
            · exact Or.inl (zup_ne c)
          have f47 : (zup g2 38 17 (h 0 11 + 1)) 47 (30 * h 0 11 + i) = F2 i := by rw [zup_ne (by decide), hj.2.2.2.2.1, jRow_in ⟨a, b⟩]
          have f51 : (zup g2 38 17 (h 0 11 + 1)) 51 (30 * h 0 11 + i) = -1 := by rw [zup_ne (by decide), hj.2.2.2.2.2.1, jRow_in ⟨a, b⟩]
          have f54 : (zup g2 38 17 (h 0 11 + 1)) 54 (30 * h 0 11 + i) = -1 := by rw [zup_ne (by decide), hj.2.2.2.2.2.2.1, jRow_in ⟨a, b⟩]
          have f57 : (zup g2 38 17 (h 0 11 + 1)) 57 (30 * h 0 11 + i) = -1 := by rw [zup_ne (by decide), hj.2.2.2.2.2.2.2.1, jRow_in ⟨a, b⟩]
          have f66 : (zup g2 38 17 (h 0 11 + 1)) 66 (30 * h 0 11 + i) = -2147483648 := by rw [zup_ne (by decide), hj.2.2.2.2.2.2.2.2, jRow_in ⟨a, b⟩]
          have f61 : (zup g2 38 17 (h 0 11 + 1)) 61 (30 * h 0 11 + i) = 0 := by rw [er 61 (by decide)]; exact w0.2.2.2 i a (by omega)
          have f1 : (zup g2 38 17 (h 0 11 + 1)) ((n : Int) + 1) i = F2 i := by rw [newx 1 (by omega) (by omega), hg.2.2 i, if_pos ⟨a, b⟩, hF i a b]
          have t2 := tr 2 i (by omega) (by omega) a (by omega)
          have t3 := tr 3 i (by omega) (by omega) a (by omega)
          have t5 := tr 5 i (by omega) (by omega) a (by omega)
          have t6 := tr 6 i (by omega) (by omega) a (by omega)
          have t8 := tr 8 i (by omega) (by omega) a (by omega)
          have t9 := tr 9 i (by omega) (by omega) a (by omega)
          have t10 := tr 10 i (by omega) (by omega) a (by omega)
          exact ⟨⟨f1.trans f47.symm, t2.trans f51.symm, t5.trans f54.symm, t8.trans f57.symm, t9.trans f61.symm, t10.trans f66.symm⟩, fun z => absurd f51 z, fun _ => ⟨t3, f54⟩, fun z => absurd f54 z, fun _ => t6, fun z => absurd f57 z⟩
      · rw [if_neg c]
        have hl := hlt t a (by omega)
        refine iTb_at kg (fun k a b => lowx _ (by omega) (by omega)) (fun r hr i a b => ?_) (fun r hr => ?_) (hT.2.2 t a (by omega))
        · rcases hr with z | z | z | z | z | z | z | z | z | z <;> subst z
          · exact eo 47 (by omega) _ (by omega)
          · exact eo 51 (by omega) _ (by omega)
          · rw [er 52 (by decide)]
          · rw [er 53 (by decide)]
          · exact eo 54 (by omega) _ (by omega)
          · rw [er 55 (by decide)]
          · rw [er 56 (by decide)]
          · exact eo 57 (by omega) _ (by omega)
          · rw [er 61 (by decide)]
          · exact eo 66 (by omega) _ (by omega)
        · rcases hr with z | z | z | z <;> subst z
          · rw [e46, if_neg c]
          · rw [er 58 (by decide)]
          · rw [er 59 (by decide)]
          · rw [er 60 (by decide)]
  · have s0 := cc.s (DR := []) (DS := [(32, 0), (38, 37)]) (a := 32) (j := 0) (by decide) (by decide)
    have s37 := cc.s (DR := []) (DS := [(32, 0), (38, 37)]) (a := 38) (j := 37) (by decide) (by decide)
    refine ⟨by rw [s0, s37]; exact hU.1, fun k a b => ?_⟩
    rw [s0] at b
    obtain ⟨⟨u1, u2, u3, u4⟩, u5, u6, u7, u8⟩ := hU.2 k a b
    have m30 := hB.2.1 (h 33 k) u5.1 u5.2
    rw [er 62 (by decide), er 63 (by decide), er 64 (by decide), er 65 (by decide), er 33 (by decide), er 34 (by decide), er 35 (by decide), er 36 (by decide), er 37 (by decide), e17, e46, if_neg (by omega), eo 57 (by omega) _ (by omega)]
    exact ⟨⟨u1, u2, u3, u4⟩, by omega, u6, u7, u8⟩
  · intro e a b
    by_cases c : 30 * h 0 11 ≤ e ∧ e < 30 * h 0 11 + E
    · rw [zup_ne (by decide), hj.2.2.2.2.1]
      unfold jRow
      rw [if_pos c]; exact hF2 _
    · rw [eo 47 (by omega) e c]; exact hTk e a b
  · refine ⟨by rw [er 61 (by decide)]; exact hW.1, fun t a b => ?_⟩
    rw [e17] at a
    rw [er 58 (by decide), er 59 (by decide), er 60 (by decide), er 61 (by decide)]
    exact hW.2 t (by omega) b

set_option maxRecDepth 100000 in
set_option maxHeartbeats 4000000 in
theorem op_table {q : Int} {n : Nat} {sh : zSh} {h : zMem} {c f s z : Int} (hI : INV q n sh h) (hq6 : q ≤ 520) (hc_ : zi32 c) (hf_ : zi32 f) (hs_ : zi32 s) (hz_ : zi32 z) : oOK q n sh h (fun Q => zM yX10_table cX10_table 12 (some .int) 70 11 314 [(2, 0), (0, c), (0, f), (0, s), (0, z)] n sh h Q) (fun n1 sh1 h1 Q => zM yX11_table cX11_table 11 (some .int) 70 0 0 [(2, 38), (0, c), (0, f), (0, s), (0, z)] n1 sh1 h1 Q) := by
  obtain ⟨⟨hS, hR, hn, hq⟩, hB, hX, hSh, hT, hV, hE, hRw, hN, hU, hG, hL, hTk, hW⟩ := id hI
  have hTb := hI.xTb
  obtain ⟨e12, W, hSs, hms⟩ := hSh
  have T0 := hT.1
  have T1 := hB.1
  refine ⟨_, c_xtab (d := 65) hS hR hSs hc_ hf_ hs_ hz_ (by omega) hn.1, ?_⟩
  rintro r n1 sh1 h1 hz
  rcases hz with ⟨cd, rfl, rfl, rfl, g, hg, rfl⟩ | ⟨cd, rfl, rfl, rfl, rfl⟩
  · obtain ⟨kg, kn, k1000⟩ := tSh_gr hn
    have n80 := hn.1
    have gx : ∀ x : Int, x ≠ 5 → x ≠ 6 → x ≠ 7 → (x < n ∨ (n : Int) + 10 < x) → g x = h x := fun x a1 a2 a3 a4 => by
      rw [hg.1 x a1 a2 a3 (by omega), tMm_ne (by omega), znew_ne (by omega)]
    have c1 : zChL [5, 6, 7, 9] [(0, 11)] h (zup (zup g 9 (h 0 11) n) 0 11 (h 0 11 + 1)) := by
      have c0 : zChL [5, 6, 7] [] h g := fun x y hx a _ => by rw [gx x (fun z => a (by rw [z]; decide)) (fun z => a (by rw [z]; decide)) (fun z => a (by rw [z]; decide)) (by omega)]
      exact (c0.trans ((zCh.upA.trans zCh.up : zCh _ _ g (zup (zup g 9 (h 0 11) n) 0 11 (h 0 11 + 1))).lo))
    have hR1 : zRf (zup (zup g 9 (h 0 11) n) 0 11 (h 0 11 + 1)) := (hg.2.1.upA (by decide)).up (by decide)
    have hB1 : mB (zup (zup g 9 (h 0 11) n) 0 11 (h 0 11 + 1)) := mB_c c1 (by decide) hB
    have er := fun r hr => c1.r (DR := [38, 43, 44, 45, -1000]) (DS := []) (x := r) (by decide) hr
    have hcj := fun (n0 : Nat) => c_jtab (d := 66) (n := n0) (c := c) (f := f) (s := s) (z := z) (w := W c) (tSh_shp (t := (n : Int)) (hS.new (s := (8, 14)) (a := (n : Int)) (by omega)) (by omega)) hR1 hB1 hc_ hf_ hs_ hz_ (fun c a b => by
      rw [er 38 (by decide), e12] at b
      rw [er 45 (by decide)]; exact (hms c a b).1) (fun c2 => by
      rw [er 43 (by decide), er 44 (by decide), er 45 (by decide)]; exact (hms c cd.1.1 cd.1.2).2)
    refine ⟨⟨by rw [k1000, kg.is (zs_38 hS) (by decide), zs_38 hS], er (-1000) (by decide)⟩, _, rfl, _, hcj _, ?_⟩
    rintro r2 n2 sh2 h2 ⟨rfl, rfl, hz2⟩
    rw [er 38 (by decide)] at hz2
    rcases hz2 with ⟨c2, rfl, g2, hj, hj17, rfl⟩ | ⟨c2, _⟩
    · rw [T0] at hj ⊢
      refine ⟨rfl, ⟨k1000, ((jTb_ch (z := h 0 11 + 1) hj).lo.r (DR := [-1000]) (DS := []) (by decide) (by decide)).trans (er (-1000) (by decide))⟩, hI.tab (by omega) (by omega) hg hj (fun j a b => ?_) (fun j => frd_r)⟩
      have hjm := zmb (A := 30) (B := 100) (x := j) (y := s / 1000) (by omega) (by omega)
      show frd (fval (W c) (fr (f + j * (s / 1000)) (s % 1000))) (z % 10) = frd (W c (fr (f + j * (s / 1000)) (s % 1000))) (z % 10)
      unfold fval
      rw [if_neg (fr_nz (by omega) (by omega))]
    · exact absurd ⟨by rw [e12]; exact cd.1, cd.2.1, cd.2.2.1, cd.2.2.2.1, by rw [T0]; exact cd.2.2.2.2⟩ c2
  · have hcj := fun (n0 : Nat) => c_jtab (d := 66) (n := n0) (c := c) (f := f) (s := s) (z := z) (w := W c) hS hR hB hc_ hf_ hs_ hz_ (fun c a b => (hms c a (by rw [← e12]; exact b)).1) (fun c2 => (hms c c2.1 (by rw [← e12]; exact c2.2)).2)
    refine ⟨⟨rfl, rfl⟩, _, rfl, _, hcj _, ?_⟩
    rintro r2 n2 sh2 h2 ⟨rfl, rfl, hz2⟩
    rcases hz2 with ⟨c2, _⟩ | ⟨_, rfl, rfl⟩
    · exact absurd ⟨by rw [← e12]; exact c2.1, c2.2.1, c2.2.2.1, c2.2.2.2.1, by rw [← T0]; exact c2.2.2.2.2⟩ cd
    · exact ⟨rfl, ⟨rfl, rfl⟩, (hI.keep zCh.refl (by decide) (by decide) hR (by decide) hL)⟩

