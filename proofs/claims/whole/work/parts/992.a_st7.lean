/-- the class' table at b in h is the reference's table t in h' -/
def sLk (h h' : zMem) (b t : Int) : Prop := h b 0 = h' 46 t ∧ (0 ≤ t ∧ t < h' 38 17) ∧ ∀ i, 0 ≤ i → i < h' 46 t → h (b + 1) i = h' 47 (30 * t + i)
theorem sLk_ok {h h' : zMem} {b t e g : Int} (q : sLk h h' b t) : tDok h b e g ↔ jCs h' t e g := by
  obtain ⟨q1, q2, q3⟩ := q
  unfold tDok jCs
  rw [q1]
  by_cases c : (0 ≤ e ∧ e < h' 46 t) ∧ 1 ≤ g ∧ g ≤ 4 ∧ e + g < h' 46 t
  · have e0 := q3 (e + 0) (by omega) (by omega)
    have e1 := q3 (e + 1) (by omega) (by omega)
    have e2 : 2 ≤ g → h (b + 1) (e + 2) = h' 47 (30 * t + (e + 2)) := fun z => q3 (e + 2) (by omega) (by omega)
    have e3 : 3 ≤ g → h (b + 1) (e + 3) = h' 47 (30 * t + (e + 3)) := fun z => q3 (e + 3) (by omega) (by omega)
    have e4 : 4 ≤ g → h (b + 1) (e + 4) = h' 47 (30 * t + (e + 4)) := fun z => q3 (e + 4) (by omega) (by omega)
    rw [e0, e1]
    constructor
    · rintro ⟨_, a1, a2, a3, a4, a5⟩
      exact ⟨⟨⟨q2, c.1⟩, c.2⟩, a1, a2, fun z => e2 z ▸ a3 z, fun z => e3 z ▸ a4 z, fun z => e4 z ▸ a5 z⟩
    · rintro ⟨_, a1, a2, a3, a4, a5⟩
      exact ⟨c, a1, a2, fun z => by rw [e2 z]; exact a3 z, fun z => by rw [e3 z]; exact a4 z, fun z => by rw [e4 z]; exact a5 z⟩
  · constructor
    · intro a; exact absurd a.1 c
    · intro a; exact absurd ⟨a.1.1.2, a.1.2⟩ c
theorem sLk_dc {h h' : zMem} {b t e g : Int} (q : sLk h h' b t) (hk : jCs h' t e g) : ∀ k, 0 ≤ k → k ≤ 4 → tDc h b e g k = jDc (h' 47) (30 * t + e) g k := by
  intro k k0 k4
  obtain ⟨q1, q2, q3⟩ := q
  have c := hk.1
  unfold tDc jDc
  by_cases hkg : k ≤ g
  · rw [if_pos hkg, if_pos hkg]
    have e0 := q3 (e + 0) (by omega) (by omega)
    have f : ∀ z, 30 * t + (e + z) = 30 * t + e + z := fun z => by omega
    rw [f] at e0
    congr 1
    unfold tD jD
    rw [e0]
    by_cases k1 : k = 0
    · rw [if_pos k1, if_pos k1]
    rw [if_neg k1, if_neg k1]
    have e1 := q3 (e + 1) (by omega) (by omega)
    rw [f] at e1
    rw [e1]
    by_cases k2 : k = 1
    · rw [if_pos k2, if_pos k2]
    rw [if_neg k2, if_neg k2]
    have e2 := q3 (e + 2) (by omega) (by omega)
    rw [f] at e2
    rw [e2]
    by_cases k3 : k = 2
    · rw [if_pos k3, if_pos k3]
    rw [if_neg k3, if_neg k3]
    have e3 := q3 (e + 3) (by omega) (by omega)
    rw [f] at e3
    rw [e3]
    by_cases k5 : k = 3
    · rw [if_pos k5, if_pos k5]
    rw [if_neg k5, if_neg k5]
    have e4 := q3 (e + 4) (by omega) (by omega)
    rw [f] at e4
    rw [e4]
  · rw [if_neg hkg, if_neg hkg]
theorem sLk_gdr {h h' : zMem} {b t x : Int} (q : sLk h h' b t) : ∀ (m : Nat) (j : Int) (c c' : Int → Int), (∀ k, 0 ≤ k → k ≤ 4 → c k = c' k) → 0 ≤ j → j + m < h' 46 t → (gdr (rGd h b x) m j c ↔ gdr (kGd h' t x) m j c')
  | 0, j, c, c', hc, h0, h1 => by
    show rGd h b x j c ↔ kGd h' t x j c'
    unfold rGd kGd
    rw [q.2.2 j h0 (by omega), hc 0 (by omega) (by omega)]
  | m + 1, j, c, c', hc, h0, h1 => by
    show (rGd h b x j c ∧ gdr (rGd h b x) m (j + 1) (cAdd c)) ↔ (kGd h' t x j c' ∧ gdr (kGd h' t x) m (j + 1) (cAdd c'))
    rw [sLk_gdr q m (j + 1) (cAdd c) (cAdd c') (cAdd_congr hc) (by omega) (by omega)]
    unfold rGd kGd
    rw [q.2.2 j h0 (by omega), hc 0 (by omega) (by omega)]
/-- a run is an edge -/
theorem sLk_rn {h h' : zMem} {b t x i g : Int} {m : Nat} (q : sLk h h' b t) (hg : 1 ≤ g ∧ g ≤ 4) (hm : g ≤ m) (hi : i + m < h' 46 t) : (tDok h b i g ∧ gdr (rGd h b x) m i (tDc h b i g)) ↔ kRn h' t x i g m := by
  unfold kRn
  constructor
  · rintro ⟨a, c⟩
    have a' := (sLk_ok q).mp a
    exact ⟨hg, a', hm, hi, (sLk_gdr q m i _ _ (sLk_dc q a') a'.1.1.2.1 hi).mp c⟩
  · rintro ⟨_, a', _, _, c⟩
    exact ⟨(sLk_ok q).mpr a', (sLk_gdr q m i _ _ (sLk_dc q a') a'.1.1.2.1 hi).mpr c⟩
theorem lRun_L {h : zMem} {t e i g v y B : Int} : ∀ (K : Nat) (j : Int) (c L : Int → Int), B ≤ L y → (∀ m : Nat, m < K → gdr (rGd h t e) m j c → i + g ≤ j + m → y = j + m + 1 → B ≤ v + (j + m) - i) → B ≤ lRun h t e i g v K j c L y
  | 0, _, _, _, hB, _ => hB
  | K + 1, j, c, L, hB, hm => by
    show B ≤ (if rGd h t e j c then _ else _ : Int → Int) y
    by_cases hG : rGd h t e j c
    · rw [if_pos hG]
      refine lRun_L K (j + 1) (cAdd c) _ ?_ (fun m q1 q2 q3 q4 => ?_)
      · by_cases c1 : i + g ≤ j
        · rw [if_pos c1]
          by_cases hy : y = j + 1
          · have q := hm 0 (by omega) hG (by omega) (by omega)
            rw [show j + ((0 : Nat) : Int) = j by omega] at q
            unfold lOf
            split <;> omega
          · rw [lOf_ne hy]; exact hB
        · rw [if_neg c1]; exact hB
      · have q := hm (m + 1) (by omega) ⟨hG, q2⟩ (by omega) (by omega)
        omega
    · rw [if_neg hG]; exact hB
theorem lRuns_lo {h : zMem} {t e i g y : Int} {L : Int → Int} (hy : y ≤ i) : lRuns h t e i g L y = L y := by
  unfold lRuns; split
  · exact lRun_lo _ _ _ _ hy
  · rfl
theorem lRuns_leL {h : zMem} {t e i g y : Int} {L : Int → Int} : lRuns h t e i g L y ≤ L y := by
  unfold lRuns; split
  · exact lRun_leL _ _ _ _
  · exact Int.le_refl _
theorem lF_lo {h : zMem} {t e i y : Int} (hy : y ≤ i) : ∀ (k : Nat) (g : Int) (L : Int → Int), 5 - g ≤ k → zFor (lRuns h t e i) g 5 L y = L y := by
  intro k
  induction k with
  | zero => intro g L hk; rw [zFor_e (by omega)]
  | succ k ih =>
    intro g L hk
    by_cases hg : g < 5
    · rw [zFor_s hg, ih (g + 1) _ (by omega), lRuns_lo hy]
    · rw [zFor_e (by omega)]
theorem lF_leL {h : zMem} {t e i y : Int} : ∀ (k : Nat) (g : Int) (L : Int → Int), 5 - g ≤ k → zFor (lRuns h t e i) g 5 L y ≤ L y := by
  intro k
  induction k with
  | zero => intro g L hk; rw [zFor_e (by omega)]; exact Int.le_refl _
  | succ k ih =>
    intro g L hk
    by_cases hg : g < 5
    · rw [zFor_s hg]; exact Int.le_trans (ih (g + 1) _ (by omega)) lRuns_leL
    · rw [zFor_e (by omega)]; exact Int.le_refl _
theorem lStep_lo {h : zMem} {t e i y : Int} {L : Int → Int} (hy : y ≤ i) : lStep h t e i L y = L y := by
  unfold lStep; split
  · exact lOf_ne (by omega)
  · rw [lF_lo hy 4 1 _ (by omega)]; exact lOf_ne (by omega)
theorem lStep_leL {h : zMem} {t e i y : Int} {L : Int → Int} : lStep h t e i L y ≤ L y := by
  unfold lStep; split
  · exact lOf_le
  · exact Int.le_trans (lF_leL 4 1 _ (by omega)) lOf_le
theorem lF_U {h h' : zMem} {b t x i g : Int} {m : Nat} (q : sLk h h' b t) (hr : kRn h' t x i g m) : ∀ (k : Nat) (g0 : Int) (L : Int → Int), 5 - g0 ≤ k → g0 ≤ g → zFor (lRuns h b x i) g0 5 L (i + m + 1) ≤ L i + (14 + 4 * g) + m := by
  intro k
  induction k with
  | zero => intro g0 L hk hg; have := hr.1; omega
  | succ k ih =>
    intro g0 L hk hg
    have hq := hr.1
    rw [zFor_s (by omega)]
    by_cases hz : g0 = g
    · subst hz
      refine Int.le_trans (lF_leL k _ _ (by omega)) ?_
      have hr2 := (sLk_rn (x := x) q hr.1 hr.2.2.1 hr.2.2.2.1).mpr hr
      rw [show lRuns h b x i g0 L = _ from if_pos hr2.1]
      have h3 := hr.2.2.1
      have h4 := hr.2.2.2.1
      have e1 := q.1
      have := lRun_U (h := h) (t := b) (e := x) (i := i) (g := g0) (v := L i + (14 + 4 * g0)) m (h b 0 - i).toNat i (tDc h b i g0) L (by omega) hr2.2 (by omega)
      omega
    · have := ih (g0 + 1) (lRuns h b x i g0 L) (by omega) (by omega)
      rw [lRuns_lo (y := i) (Int.le_refl _)] at this
      exact this
theorem lStep_U {h h' : zMem} {b t x i j w : Int} {L : Int → Int} (q : sLk h h' b t) (hi : 0 ≤ i ∧ i < h' 46 t) (hd : kEd h' t x i j w) : lStep h b x i L j ≤ L i + w := by
  have ev := q.2.2 i hi.1 hi.2
  rcases hd with ⟨q1, rfl, rfl⟩ | ⟨q1, hd⟩
  · rw [show lStep h b x i L = _ from if_pos (by rw [ev]; exact q1)]
    exact lOf_v
  · rw [show lStep h b x i L = _ from if_neg (by rw [ev]; exact q1)]
    rcases hd with ⟨rfl, rfl⟩ | ⟨g, m, q2, rfl, rfl⟩
    · exact Int.le_trans (lF_leL 4 1 _ (by omega)) lOf_v
    · have := lF_U q q2 4 1 (lOf L (i + 1) (L i + 30)) (by omega) q2.1.1
      rw [lOf_ne (y := i) (by omega)] at this
      omega
theorem lF_L {h h' : zMem} {b t x i y B V : Int} (q : sLk h h' b t) : ∀ (k : Nat) (g0 : Int) (L : Int → Int), 5 - g0 ≤ k → 1 ≤ g0 → L i = V → B ≤ L y → (∀ (g : Int) (m : Nat), kRn h' t x i g m → y = i + m + 1 → B ≤ V + (14 + 4 * g) + m) → B ≤ zFor (lRuns h b x i) g0 5 L y := by
  intro k
  induction k with
  | zero => intro g0 L hk _ _ hB _; rw [zFor_e (by omega)]; exact hB
  | succ k ih =>
    intro g0 L hk h1 hv hB hm
    by_cases hg : g0 < 5
    · rw [zFor_s hg]
      refine ih (g0 + 1) _ (by omega) (by omega) (by rw [lRuns_lo (Int.le_refl _)]; exact hv) ?_ hm
      by_cases hc : tDok h b i g0
      · rw [show lRuns h b x i g0 L = _ from if_pos hc]
        have e1 := q.1
        refine lRun_L _ i _ L hB (fun m q1 q2 q3 q4 => ?_)
        have := hm g0 m ((sLk_rn q ⟨h1, by omega⟩ (by omega) (by omega)).mp ⟨hc, q2⟩) q4
        omega
      · rw [show lRuns h b x i g0 L = L from if_neg hc]; exact hB
    · rw [zFor_e (by omega)]; exact hB
theorem lStep_L {h h' : zMem} {b t x i y B : Int} {L : Int → Int} (q : sLk h h' b t) (hi : 0 ≤ i ∧ i < h' 46 t) (hB : B ≤ L y) (hm : ∀ w, kEd h' t x i y w → B ≤ L i + w) : B ≤ lStep h b x i L y := by
  have ev := q.2.2 i hi.1 hi.2
  have ho : ∀ w, (y = i + 1 → B ≤ L i + w) → B ≤ lOf L (i + 1) (L i + w) y := fun w hw => by
    unfold lOf; split
    · rename_i z; exact hw z.1
    · exact hB
  by_cases hz : h' 47 (30 * t + i) = -2147483648
  · rw [show lStep h b x i L = _ from if_pos (by rw [ev]; exact hz)]
    exact ho 0 (fun z => hm 0 (Or.inl ⟨hz, z, rfl⟩))
  · rw [show lStep h b x i L = _ from if_neg (by rw [ev]; exact hz)]
    refine lF_L q 4 1 _ (by omega) (by omega) (lOf_ne (by omega)) (ho 30 (fun z => hm 30 (Or.inr ⟨hz, Or.inl ⟨z, rfl⟩⟩))) (fun g m q2 q3 => ?_)
    have := hm (14 + 4 * g + m) (Or.inr ⟨hz, Or.inr ⟨g, m, q2, q3, rfl⟩⟩)
    omega
theorem kEd_b {h : zMem} {t x i j w : Int} (hi : i < h 46 t) (q : kEd h t x i j w) : j ≤ h 46 t ∧ 0 ≤ w := by
  rcases q with ⟨_, rfl, rfl⟩ | ⟨_, ⟨rfl, rfl⟩ | ⟨g, m, q, rfl, rfl⟩⟩
  · omega
  · omega
  · have := q.2.2.2.1; have := q.1; omega
theorem kEd_1 {h : zMem} {t x i : Int} : ∃ w, kEd h t x i (i + 1) w ∧ w ≤ 30 := by
  by_cases c : h 47 (30 * t + i) = -2147483648
  · exact ⟨0, Or.inl ⟨c, rfl, rfl⟩, by omega⟩
  · exact ⟨30, Or.inr ⟨c, Or.inl ⟨rfl, rfl⟩⟩, by omega⟩
theorem lFr_lo {h : zMem} {b x y N : Int} : ∀ (k : Nat) (i : Int) (L : Int → Int), N - i ≤ k → y ≤ i → zFor (lStep h b x) i N L y = L y := by
  intro k
  induction k with
  | zero => intro i L hk hy; rw [zFor_e (by omega)]
  | succ k ih =>
    intro i L hk hy
    by_cases hi : i < N
    · rw [zFor_s hi, ih (i + 1) _ (by omega) (by omega), lStep_lo hy]
    · rw [zFor_e (by omega)]
theorem lFr_leL {h : zMem} {b x y N : Int} : ∀ (k : Nat) (i : Int) (L : Int → Int), N - i ≤ k → zFor (lStep h b x) i N L y ≤ L y := by
  intro k
  induction k with
  | zero => intro i L hk; rw [zFor_e (by omega)]; exact Int.le_refl _
  | succ k ih =>
    intro i L hk
    by_cases hi : i < N
    · rw [zFor_s hi]; exact Int.le_trans (ih (i + 1) _ (by omega)) lStep_leL
    · rw [zFor_e (by omega)]; exact Int.le_refl _
theorem lFr_U {h h' : zMem} {b t x i j w : Int} (q : sLk h h' b t) (hi : 0 ≤ i ∧ i < h' 46 t) (hd : kEd h' t x i j w) : ∀ (k : Nat) (i0 : Int) (L : Int → Int), h' 46 t - i0 ≤ k → i0 ≤ i → zFor (lStep h b x) i0 (h' 46 t) L j ≤ zFor (lStep h b x) i0 (h' 46 t) L i + w := by
  intro k
  induction k with
  | zero => intro i0 L hk h0; omega
  | succ k ih =>
    intro i0 L hk h0
    rw [zFor_s (by omega)]
    by_cases hz : i0 = i
    · subst hz
      rw [lFr_lo (y := i0) k _ _ (by omega) (by omega), lStep_lo (Int.le_refl _)]
      exact Int.le_trans (lFr_leL k _ _ (by omega)) (lStep_U q hi hd)
    · exact ih (i0 + 1) _ (by omega) (by omega)
theorem lFr_L {h h' : zMem} {b t x B : Int} {C : Int → Int} (q : sLk h h' b t) (hC : ∀ i j w, 0 ≤ i → i < h' 46 t → kEd h' t x i j w → C i ≤ w + C j) : ∀ (k : Nat) (i0 : Int) (L : Int → Int), h' 46 t - i0 ≤ k → 0 ≤ i0 → (∀ y, 0 ≤ y → y ≤ h' 46 t → B ≤ L y + C y) → ∀ y, 0 ≤ y → y ≤ h' 46 t → B ≤ zFor (lStep h b x) i0 (h' 46 t) L y + C y := by
  intro k
  induction k with
  | zero => intro i0 L hk h0 hP y a c; rw [zFor_e (by omega)]; exact hP y a c
  | succ k ih =>
    intro i0 L hk h0 hP y a c
    by_cases hi : i0 < h' 46 t
    · rw [zFor_s hi]
      refine ih (i0 + 1) _ (by omega) (by omega) (fun z z0 z1 => ?_) y a c
      have p0 := hP i0 h0 (by omega)
      have := lStep_L (B := B - C z) (y := z) (L := L) (x := x) q ⟨h0, hi⟩ (by have := hP z z0 z1; omega) (fun w hw => by have := hC i0 z w h0 hi hw; omega)
      omega
    · rw [zFor_e (by omega)]; exact hP y a c
/-- the least cost, forward and backward -/
theorem sts_eq {h h' : zMem} {b t x : Int} {C0 : Int → Int} (q : sLk h h' b t) (hN : 0 ≤ h' 46 t ∧ h' 46 t ≤ 30) : lAll h b x (h b 0) = kDn h' t x (h' 46 t).toNat (kset C0 (h' 46 t) 0) 0 := by
  have eN := q.1
  have ek : ((h' 46 t).toNat : Int) = h' 46 t := by omega
  have cN : kDn h' t x (h' 46 t).toNat (kset C0 (h' 46 t) 0) (h' 46 t) = 0 := by rw [kDn_ne _ _ (by omega)]; exact kset_at
  have cU : ∀ i j w, 0 ≤ i → i < h' 46 t → kEd h' t x i j w → kDn h' t x (h' 46 t).toNat (kset C0 (h' 46 t) 0) i ≤ w + kDn h' t x (h' 46 t).toNat (kset C0 (h' 46 t) 0) j := fun i j w a b c => kDn_U c a _ _ (by omega)
  have cP : ∀ y, 0 ≤ y → y ≤ h' 46 t → 0 ≤ kDn h' t x (h' 46 t).toNat (kset C0 (h' 46 t) 0) y := fun y a c => by
    have := kDn_L (h := h') (t := t) (x := x) (N := h' 46 t) (B := 0) (L := fun _ => 0) (fun i j w a b c => by have := kEd_b b c; omega) (h' 46 t).toNat (kset C0 (h' 46 t) 0) (by omega) (fun y a b => by rw [show y = h' 46 t by omega, kset_at]; omega) y a c
    omega
  have cB : ∀ (k : Nat), (k : Int) ≤ h' 46 t → kDn h' t x (h' 46 t).toNat (kset C0 (h' 46 t) 0) (h' 46 t - k) ≤ 30 * k := by
    intro k
    induction k with
    | zero => intro _; rw [show h' 46 t - ((0 : Nat) : Int) = h' 46 t by omega, cN]; omega
    | succ k ih =>
      intro hk
      obtain ⟨w, hw, hw2⟩ := kEd_1 (h := h') (t := t) (x := x) (i := h' 46 t - ((k + 1 : Nat) : Int))
      have h1 := cU _ _ _ (by omega) (by omega) hw
      have h2 := ih (by omega)
      rw [show h' 46 t - ((k + 1 : Nat) : Int) + 1 = h' 46 t - (k : Int) by omega] at h1
      omega
  have c0 := cB (h' 46 t).toNat (by omega)
  rw [show h' 46 t - ((h' 46 t).toNat : Int) = 0 by omega] at c0
  generalize hC : kDn h' t x (h' 46 t).toNat (kset C0 (h' 46 t) 0) = C at cN cU cP c0
  have l0 : lAll h b x 0 = 0 := by
    unfold lAll; rw [lFr_lo 30 0 _ (by omega) (Int.le_refl _)]; rfl
  have lU : ∀ i j w, 0 ≤ i → i < h' 46 t → kEd h' t x i j w → j ≤ h' 46 t ∧ lAll h b x j ≤ lAll h b x i + w := fun i j w a c d => ⟨(kEd_b c d).1, by
    unfold lAll; rw [eN]; exact lFr_U q ⟨a, c⟩ d 30 0 _ (by omega) a⟩
  have l1 : C 0 ≤ lAll h b x (h' 46 t) := by
    have := lFr_L (x := x) (B := C 0) (C := C) q cU 30 0 (lL0 h) (by omega) (by omega) (fun y a c => by
      have := cP y a c
      unfold lL0
      by_cases y0 : y = 0
      · rw [if_pos y0, y0]; omega
      · rw [if_neg y0, if_pos (by omega)]; omega) (h' 46 t) (by omega) (by omega)
    rw [cN] at this
    unfold lAll; rw [eN]; omega
  have l2 := kDn_L (h := h') (t := t) (x := x) (N := h' 46 t) (B := lAll h b x (h' 46 t)) (L := lAll h b x) lU (h' 46 t).toNat (kset C0 (h' 46 t) 0) (by omega) (fun y a c => by rw [show y = h' 46 t by omega, kset_at]; omega) 0 (by omega) (by omega)
  rw [hC, l0] at l2
  rw [eN]; omega
