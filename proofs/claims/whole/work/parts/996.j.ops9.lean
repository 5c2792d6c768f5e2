def eAg (x y : (Int → Int) × Int) : Prop := (∀ z, 0 ≤ z → z < 45 → x.1 z = y.1 z) ∧ x.2 = y.2
theorem eW_cg {S S' : Int → Prop} {k w : Int} {x y : (Int → Int) × Int} (hk : 0 ≤ k ∧ k ≤ 3) (hw : 0 ≤ w ∧ w ≤ 8) (hs : ∀ z, S z ↔ S' z) (a : eAg x y) : eAg (eW S k w x) (eW S' k w y) := by
  have h1 := a.1 (k * 9 + w) (by omega) (by omega)
  have h2 := a.1 (k * 9 + w + 9) (by omega) (by omega)
  by_cases q : S (k * 9 + w)
  · unfold eW; rw [zite_t q, zite_t ((hs _).mp q)]; exact ⟨a.1, rfl⟩
  · unfold eW; rw [zite_f q, zite_f (fun z => q ((hs _).mpr z))]
    refine ⟨fun z b c => ?_, ?_⟩
    · show (if z = k * 9 + w then _ else _) = (if z = k * 9 + w then _ else _)
      rw [h1, h2, a.2, a.1 z b c]
    · show (x.1 (k * 9 + w) + x.1 (k * 9 + w + 9) + x.2) / 10 = (y.1 (k * 9 + w) + y.1 (k * 9 + w + 9) + y.2) / 10
      rw [h1, h2, a.2]
theorem eF_cg {S S' : Int → Prop} {k : Int} (hk : 0 ≤ k ∧ k ≤ 3) (hs : ∀ z, S z ↔ S' z) : ∀ (f : Nat) (w : Int) (x y : (Int → Int) × Int), 9 - w ≤ f → 0 ≤ w → eAg x y → eAg (zFor (eW S k) w 9 x) (zFor (eW S' k) w 9 y) := by
  intro f
  induction f with
  | zero => intro w x y hf h0 a; rw [zFor_e (by omega), zFor_e (by omega)]; exact a
  | succ f ih =>
    intro w x y hf h0 a
    by_cases hw : w < 9
    · rw [zFor_s hw, zFor_s hw]
      exact ih (w + 1) _ _ (by omega) (by omega) (eW_cg hk (by omega) hs a)
    · rw [zFor_e (by omega), zFor_e (by omega)]; exact a
theorem eC_cg {S S' : Int → Prop} {k : Int} {g g' : Int → Int} (hk : 0 ≤ k ∧ k ≤ 3) (hs : ∀ z, S z ↔ S' z) (a : ∀ z, 0 ≤ z → z < 45 → g z = g' z) : eAg (eC S k g) (eC S' k g') := eF_cg hk hs 9 0 (g, 0) (g', 0) (by omega) (by omega) ⟨a, rfl⟩
theorem eKF_cg {S S' : Int → Prop} (hs : ∀ z, S z ↔ S' z) : ∀ (f : Nat) (k : Int) (x y : (Int → Int) × Int), 4 - k ≤ f → 0 ≤ k → eAg x y → eAg (zFor (eK S) k 4 x) (zFor (eK S') k 4 y) := by
  intro f
  induction f with
  | zero => intro w x y hf h0 a; rw [zFor_e (by omega), zFor_e (by omega)]; exact a
  | succ f ih =>
    intro w x y hf h0 a
    by_cases hw : w < 4
    · rw [zFor_s hw, zFor_s hw]
      have q := eC_cg (k := w) (by omega) hs a.1
      exact ih (w + 1) _ _ (by omega) (by omega) ⟨q.1, by show x.2 + (eC S w x.1).2 = y.2 + (eC S' w y.1).2; rw [a.2, q.2]⟩
    · rw [zFor_e (by omega), zFor_e (by omega)]; exact a
theorem eT_cg {S S' : Int → Prop} {g g' : Int → Int} {b b' : Int} (hs : ∀ z, S z ↔ S' z) (a : ∀ z, 0 ≤ z → z < 45 → g z = g' z) (e : b = b') : eAg (eT S g b) (eT S' g' b') := eKF_cg hs 4 0 (g, b) (g', b') (by omega) (by omega) ⟨a, e⟩
/-- the engine of the class in c, of the reference in m -/
def rE (c m : zMem) : Prop := (m 38 44 = c 18 0 ∧ m 38 45 = c 18 1 ∧ m 38 46 = c 18 6) ∧ (∀ y, 0 ≤ y → y < 45 → m 67 y = c 19 y) ∧ ∀ i, 0 ≤ i → i < c 18 6 → m 68 i = c 20 i ∧ m 69 i = c 21 i ∧ m 70 i = c 22 i - 1
theorem jT1_ne {h : zMem} {x : Int} (h1 : x ≠ 38) (h2 : x ≠ 67) : jT1 h x = h x := by unfold jT1; rw [zup_ne h1, jM_n ⟨h2, h1⟩]
theorem jT1_38 {h : zMem} {y : Int} (h1 : y ≠ 44) (h2 : y ≠ 45) : jT1 h 38 y = h 38 y := by unfold jT1; rw [zupJ h2, jM_o h1]
theorem jT1_67 {h : zMem} : jT1 h 67 = (eT (jStk h) (h 67) (h 38 44)).1 := (zup_ne (by decide)).trans jM_67
theorem jT1_b {h : zMem} : jT1 h 38 44 = (eT (jStk h) (h 67) (h 38 44)).2 := (zupJ (by decide)).trans jM_b
theorem rE_stk {c m : zMem} (r : rE c m) (y : Int) : jStk m y ↔ eStk c y := by
  obtain ⟨⟨a1, a2, a3⟩, _, a5⟩ := r
  unfold jStk eStk
  rw [a2, a3]
  constructor
  · rintro ⟨i, ⟨b1, b2⟩, b3, b4⟩
    have q := a5 i b1 b2
    exact ⟨i, ⟨b1, b2⟩, ⟨by rw [← q.2.1]; exact b3.1, by have := b3.2; omega⟩, by rw [← q.1]; exact b4⟩
  · rintro ⟨i, ⟨b1, b2⟩, b3, b4⟩
    have q := a5 i b1 b2
    exact ⟨i, ⟨b1, b2⟩, ⟨by rw [q.2.1]; exact b3.1, by have := b3.2; omega⟩, by rw [q.1]; exact b4⟩
theorem rE_1 {c m : zMem} (r : rE c m) : rE (eT1 c) (jT1 m) := by
  have q := eT_cg (rE_stk r) r.2.1 r.1.1
  refine ⟨⟨by rw [jT1_b, eT1_b]; exact q.2, by rw [jT1_t, eT1_t, r.1.2.1], by rw [jT1_38 (by decide) (by decide), eT1_18 (by decide) (by decide)]; exact r.1.2.2⟩, by rw [jT1_67, eT1_19]; exact q.1, ?_⟩
  rw [eT1_18 (by decide) (by decide), eT1_ne (by decide) (by decide), eT1_ne (by decide) (by decide), eT1_ne (by decide) (by decide), jT1_ne (by decide) (by decide), jT1_ne (by decide) (by decide), jT1_ne (by decide) (by decide)]
  exact r.2.2
theorem rE_n {c m : zMem} (r : rE c m) : ∀ k : Nat, rE (eTn k c) (jTn k m)
  | 0 => r
  | k + 1 => rE_1 (rE_n r k)
theorem eTn_ch {h : zMem} : ∀ k : Nat, zCh [19] [(18, 0), (18, 1)] h (eTn k h)
  | 0 => fun _ _ _ _ => rfl
  | k + 1 => ((eTn_ch k).trans ((zCh.up.trans zCh.new).trans zCh.up : zCh _ _ (eTn k h) (eT1 (eTn k h)))).mono (by decide) (by decide)
theorem jTn_ch {h : zMem} : ∀ k : Nat, zCh [67] [(38, 44), (38, 45)] h (jTn k h)
  | 0 => fun _ _ _ _ => rfl
  | k + 1 => ((jTn_ch k).trans ((zCh.up.trans zCh.new).trans zCh.up : zCh _ _ (jTn k h) (jT1 (jTn k h)))).mono (by decide) (by decide)
theorem eTn_ob {h : zMem} {b t : Int} (q : eOB h b t) : ∀ k : Nat, eOB (eTn k h) (b + 4 * k) (t + k)
  | 0 => by rw [show b + 4 * ((0 : Nat) : Int) = b by omega, show t + ((0 : Nat) : Int) = t by omega]; exact q
  | k + 1 => by rw [show b + 4 * ((k + 1 : Nat) : Int) = b + 4 * k + 4 by omega, show t + ((k + 1 : Nat) : Int) = t + k + 1 by omega]; exact eT1_ob (eTn_ob q k)
theorem jTn_B {h : zMem} (hB : mB h) : ∀ k : Nat, h 38 45 + k < 100000 → mB (jTn k h) ∧ jTn k h 38 45 = h 38 45 + k ∧ (eDig (h 67) → eDig (jTn k h 67))
  | 0, _ => ⟨hB, by show h 38 45 = h 38 45 + ((0 : Nat) : Int); omega, fun z => z⟩
  | k + 1, hk => by
    have q := jTn_B hB k (by omega)
    exact ⟨jT1_B q.1 (by rw [q.2.1]; omega), by show jT1 (jTn k h) 38 45 = _; rw [jT1_t, q.2.1]; omega, fun z => by show eDig (jT1 (jTn k h) 67); rw [jT1_67]; exact (eT_dig (q.2.2 z)).1⟩

set_option maxRecDepth 100000 in
set_option maxHeartbeats 4000000 in
theorem op_turn {q : Int} {n : Nat} {sh : zSh} {h : zMem} {x : Int} (hI : INV q n sh h) (hq6 : q ≤ 520) (hx_ : zi32 x) : oOK q n sh h (fun Q => zM yX10_turn cX10_turn 3 (some .int) 70 0 0 [(2, 0), (0, x)] n sh h Q) (fun n1 sh1 h1 Q => zM yX11_turn cX11_turn 3 (some .int) 70 0 0 [(2, 38), (0, x)] n1 sh1 h1 Q) := by
  obtain ⟨⟨hS, hR, hn, hq⟩, hB, hX, hSh, hT, hV, hE, hRw, hN, hU, hG, hL, hTk, hW⟩ := id hI
  have hTb := hI.xTb
  have hr : rE h h := ⟨hE.1, hE.2.2.2.1, hE.2.2.2.2⟩
  have kA := c_xtn (d := 67) (n := n) hS hR hTb hx_ hE.2.1 (by omega) (by omega)
  by_cases c : 0 ≤ x ∧ x ≤ 60
  · rw [if_pos c, if_pos c] at kA
    have c1 := eTn_ch (h := h) x.toNat
    have hR1 : zRf (eTn x.toNat h) := zRf_c c1.lo (by decide) hR
    have hB1 : mB (eTn x.toNat h) := mB_c c1.lo (by decide) hB
    have e45 : eTn x.toNat h 38 45 = h 38 45 := c1.lo.s (DR := []) (DS := [(38, 45)]) (by decide) (by decide)
    have e44 : eTn x.toNat h 38 44 = h 38 44 := c1.lo.s (DR := []) (DS := [(38, 44)]) (by decide) (by decide)
    have e67 : eTn x.toNat h 67 = h 67 := c1.lo.r (DR := [67]) (DS := []) (by decide) (by decide)
    have ht := hE.2.1.2.1
    have hb := hE.2.1.2.2.1
    have kB := c_jtn (d := 67) (n := n) (b := 240 * q) hS hR1 hB1 hx_ ⟨by rw [e67]; exact hE.2.2.1, by rw [e44, hE.1.1]; exact hb⟩ (by omega) (by rw [e45, hE.1.2.1]; omega)
    rw [if_pos c, if_pos c] at kB
    have c2 := jTn_ch (h := eTn x.toNat h) x.toNat
    have hi := (c1.trans c2).hi (by decide) (by decide)
    have cc := (c1.trans c2).lo
    have hj := jTn_B hB1 x.toNat (by rw [e45, hE.1.2.1]; omega)
    have hrm : rE h (eTn x.toNat h) := by
      have es := fun a j hp => c1.lo.s (a := a) (j := j) (DR := []) (DS := [(38, 44), (38, 45), (38, 46)]) (by decide) hp
      have er := fun r hp => c1.lo.r (x := r) (DR := [67, 68, 69, 70]) (DS := []) (by decide) hp
      unfold rE
      rw [es 38 44 (by decide), es 38 45 (by decide), es 38 46 (by decide), er 67 (by decide), er 68 (by decide), er 69 (by decide), er 70 (by decide)]
      exact hr
    have hrk := rE_n hrm x.toNat
    have er2 : ∀ r, r = 18 ∨ r = 19 ∨ r = 20 ∨ r = 21 ∨ r = 22 → jTn x.toNat (eTn x.toNat h) r = eTn x.toNat h r := fun r hr => c2.lo.r (DR := [18, 19, 20, 21, 22]) (DS := []) (by decide) (by rcases hr with z | z | z | z | z <;> subst z <;> decide)
    have hE2 : iE (q + 1) (jTn x.toNat (eTn x.toNat h)) := by
      have ho := eTn_ob hE.2.1 x.toNat
      unfold iE eOB
      rw [er2 18 (by omega), er2 19 (by omega), er2 20 (by omega), er2 21 (by omega), er2 22 (by omega)]
      have o2 := ho.2.1
      have o3 := ho.2.2.1
      exact ⟨hrk.1, ⟨ho.1, by omega, by omega, ho.2.2.2⟩, hj.2.2 (by rw [e67]; exact hE.2.2.1), hrk.2.1, hrk.2.2⟩
    refine oOK.FF kA kB ?_ c1.lo c2.lo (by decide) (by decide) ⟨⟨hS, zRf_c cc (by decide) hR, hn, by omega⟩, hj.1, mTx_c cc (by decide) hX, iS_c cc (by decide) (fun a h1 _ _ => ⟨hi a h1, hi (a + 1) (by omega)⟩) hSh, iT_c cc (by decide) (fun x h1 _ => hi x h1) hT, vHab_c cc (by decide) hV, hE2, vRow_c cc (by decide) hRw, iN_c cc (by decide) hN, iU_c cc (by decide) hU, iG_c cc (by decide) hG, (by rw [cc.r (DR := [75]) (DS := []) (by decide) (x := 75) (by decide)]; exact hL), vTok_c cc (by decide) hTk, iW_c cc (by decide) hW⟩
    have : eNum (jTn x.toNat (eTn x.toNat h) 67) 0 = eNum (eTn x.toNat h 19) 0 := eNm_cg 9 0 (fun j hj => hrk.2.1 (0 * 9 + (j : Int)) (by omega) (by omega))
    rw [this]
  · rw [if_neg c, if_neg c] at kA
    have ht := hE.2.1.2.1
    have hb := hE.2.1.2.2.1
    have kB := c_jtn (d := 67) (n := n) (b := 240 * q) hS hR hB hx_ ⟨hE.2.2.1, by rw [hE.1.1]; exact hb⟩ (by omega) (by rw [hE.1.2.1]; omega)
    rw [if_neg c, if_neg c] at kB
    exact oOK.FF kA kB rfl zChL.refl zChL.refl (by decide) (by decide) (hI.keep zCh.refl (by decide) (by decide) hR (by decide) hL)

