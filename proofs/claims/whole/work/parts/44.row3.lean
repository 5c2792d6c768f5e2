/-- the places, below i, of the numbers that are no gaps -/
def rPn (g : Int → Int) : Nat → List Int
  | 0 => []
  | k + 1 => if g k ≠ -2147483648 then rPn g k ++ [(k : Int)] else rPn g k
theorem rPn_len (g : Int → Int) : ∀ k, (rPn g k).length ≤ k
  | 0 => Nat.le_refl 0
  | k + 1 => by
    have := rPn_len g k
    unfold rPn
    split
    · rw [List.length_append]; simp; omega
    · omega
theorem rPn_mem (g : Int → Int) : ∀ (k : Nat) (x : Int), x ∈ rPn g k ↔ (0 ≤ x ∧ x < k) ∧ g x ≠ -2147483648
  | 0, x => by simp [rPn]; omega
  | k + 1, x => by
    have ih := rPn_mem g k x
    unfold rPn
    split
    · rename_i h
      rw [List.mem_append, ih, List.mem_singleton]
      constructor
      · rintro (q | q)
        · exact ⟨by omega, q.2⟩
        · subst q; exact ⟨by omega, h⟩
      · rintro ⟨q1, q2⟩
        by_cases q : x = k
        · right; exact q
        · left; exact ⟨by omega, q2⟩
    · rename_i h
      rw [ih]
      constructor
      · rintro ⟨q1, q2⟩; exact ⟨by omega, q2⟩
      · rintro ⟨q1, q2⟩
        refine ⟨?_, q2⟩
        by_cases q : x = k
        · subst q; exact absurd q2 h
        · omega
/-- a list's elements, by Int places -/
def zgt (l : List Int) (i : Int) : Int := l.getD i.toNat 0
theorem zgt_app {l : List Int} {x i : Int} (h0 : 0 ≤ i) (h1 : i < l.length) : zgt (l ++ [x]) i = zgt l i := by
  unfold zgt; rw [List.getD_eq_getElem?_getD, List.getD_eq_getElem?_getD, List.getElem?_append_left (by omega)]
theorem zgt_last {l : List Int} {x : Int} : zgt (l ++ [x]) l.length = x := by
  unfold zgt; rw [List.getD_eq_getElem?_getD]; simp
theorem zgt_mem {l : List Int} {i : Int} (h0 : 0 ≤ i) (h1 : i < l.length) : zgt l i ∈ l := by
  unfold zgt; rw [List.getD_eq_getElem?_getD, List.getElem?_eq_getElem (by omega)]; exact List.getElem_mem _
abbrev rPl (h : zMem) : List Int := rPn (h 27) (h 26 0).toNat

def rFm (h : zMem) (p : Int) (g : Int → Int) : zMem := znew (zup h 26 5 p) 28 g
theorem rFm_rf {h : zMem} {p : Int} {g : Int → Int} (hR : zRf h) : zRf (rFm h p g) := (hR.up (by decide)).new (by decide)
theorem rFm_p {h : zMem} {p : Int} {g : Int → Int} : rFm h p g 26 5 = p := by unfold rFm; rw [znew_ne (by decide)]; exact zupE
theorem rFm_n {h : zMem} {p x y : Int} {g : Int → Int} (hx : x ≠ 28) (hy : x ≠ 26 ∨ y ≠ 5) : rFm h p g x y = h x y := by
  unfold rFm; rw [znew_ne hx]
  rcases hy with q | q
  · exact zupA q
  · exact zupJ q
theorem rFm_s {h : zMem} {p x : Int} {g : Int → Int} : zup (zup (rFm h p g) 28 p x) 26 5 (p + 1) = rFm h (p + 1) (fun y => if y = p then x else g y) := by
  unfold rFm
  rw [znew_up, zup_znew (by decide)]
  congr 1
  exact zmem_ext (fun a b => by unfold zup; split <;> rfl)
theorem rFm_0 {h : zMem} {p : Int} : zup h 26 5 p = rFm h p (h 28) := by
  unfold rFm
  rw [show h 28 = zup h 26 5 p 28 from (zup_ne (by decide)).symm]; exact znew_self.symm

theorem rFq_end {n : Nat} {sh : zSh} {h : zMem} {p : Int} {g : Int → Int} {k : Nat} (e : (h 26 0).toNat = k) (hp : p = (rPn (h 27) k).length) (hg : ∀ q : Int, 0 ≤ q → q < ((rPn (h 27) k).length : Int) → g q = zgt (rPn (h 27) k) q) : (none : Option zV) = none ∧ n = n ∧ sh = sh ∧ ∃ g1 : Int → Int, rFm h p g = rFm h (rPl h).length g1 ∧ ∀ q : Int, 0 ≤ q → q < ((rPl h).length : Int) → g1 q = zgt (rPl h) q := by
  subst e
  exact ⟨rfl, rfl, rfl, g, by rw [hp], hg⟩

set_option maxRecDepth 100000 in
set_option maxHeartbeats 4000000 in
theorem l_fpl {d n : Nat} {sh : zSh} {h : zMem} (hS : zShp sh) (hR : zRf h) (hr0 : rOK h) (hm : zMok sh h) (hl : 0 ≤ h 26 0 ∧ h 26 0 ≤ 20)  : ∀ (k : Nat) (i : Int) (p : Int) (g : Int → Int), h 26 0 - i < (k : Int) → 0 ≤ i → i ≤ h 26 0 → p = (rPn (h 27) i.toNat).length → (∀ q : Int, 0 ≤ q → q < ((rPn (h 27) i.toNat).length : Int) → g q = zgt (rPn (h 27) i.toNat) q) → zT yX6_findPlaces cX6_findPlaces 2 none (d + 0) 0 0 (fun r n1 sh1 h1 => r = none ∧ n1 = n ∧ sh1 = sh ∧ ∃ g : Int → Int, h1 = rFm h (rPl h).length g ∧ ∀ q : Int, 0 ≤ q → q < ((rPl h).length : Int) → g q = zgt (rPl h) q) 7 [some (2, 26), some (0, i)] [] n sh (rFm h p g) := by
  intro k
  induction k with
  | zero => intros; exfalso; omega
  | succ k ih =>
    intro i p g hk h0 h1 hp hg
    refine zt_iload_n dX6_findPlaces_7 rfl ?_
    refine zt_aload_n dX6_findPlaces_8 rfl ?_
    refine zt_getv (v := h 26 0) dX6_findPlaces_9 fl_X6_28 (zs_26 hS) (rFm_n (by decide) (Or.inr (by decide))) ?_
    refine zt_icmp_ge (tgt := 70) dX6_findPlaces_12 (by decide) (by omega) (by omega) (fun c_12 => ?_) (fun c_12 => ?_)
    · exact zt_vret dX6_findPlaces_70 (rFq_end (show (h 26 0).toNat = i.toNat by omega) hp hg)
    · have hlen := rPn_len (h 27) i.toNat
      refine zt_iload_n dX6_findPlaces_15 rfl ?_
      refine zt_bipush dX6_findPlaces_16 (by decide) ?_
      refine zt_icmp_ge (tgt := 70) dX6_findPlaces_18 (by decide) (by omega) (by decide) (fun c_18 => ?_) (fun c_18 => ?_)
      · exfalso
        omega
      · refine zt_aload_n dX6_findPlaces_21 rfl ?_
        refine zt_getv dX6_findPlaces_22 fl_X6_11 (zs_26 hS) (rf_26_3 (rFm_rf hR)) ?_
        refine zt_iload_n dX6_findPlaces_25 rfl ?_
        refine zt_ialoadv (v := h 27 i) dX6_findPlaces_26 (zs_27 hS) (by decide) (by omega) (by omega) (rFm_n (by decide) (Or.inl (by decide))) ?_
        refine zt_ldc dX6_findPlaces_27 kc_X6_53 ?_
        refine zt_icmp_eq (tgt := 64) dX6_findPlaces_29 (by decide) (hm.int (zs_27 hS) (by omega) (by omega)) (by decide) (fun c_29 => ?_) (fun c_29 => ?_)
        · refine zt_iinc_1 dX6_findPlaces_64 (by decide) rfl ?_
          refine zt_goto (tgt := 7) dX6_findPlaces_67 (by decide) ?_
          have hn : rPn (h 27) (i + 1).toNat = rPn (h 27) i.toNat := by rw [show (i + 1).toNat = i.toNat + 1 by omega]; show (if h 27 (i.toNat : Int) ≠ -2147483648 then _ else _) = _; rw [Int.toNat_of_nonneg h0, if_neg (by omega)]
          exact ih (i + 1) p g (by omega) (by omega) (by omega) (by rw [hn]; exact hp) (by rw [hn]; exact hg)
        · refine zt_aload_n dX6_findPlaces_32 rfl ?_
          refine zt_getv (v := p) dX6_findPlaces_33 fl_X6_60 (zs_26 hS) rFm_p ?_
          refine zt_aload_n dX6_findPlaces_36 rfl ?_
          refine zt_getv dX6_findPlaces_37 fl_X6_15 (zs_26 hS) (rf_26_4 (rFm_rf hR)) ?_
          refine zt_alenv (v := 20) dX6_findPlaces_40 (zs_28 hS) (by decide) (by decide) rfl ?_
          refine zt_icmp_ge (tgt := 64) dX6_findPlaces_41 (by decide) (by omega) (by decide) (fun c_41 => ?_) (fun c_41 => ?_)
          · exfalso
            omega
          · refine zt_aload_n dX6_findPlaces_44 rfl ?_
            refine zt_getv dX6_findPlaces_45 fl_X6_15 (zs_26 hS) (rf_26_4 (rFm_rf hR)) ?_
            refine zt_aload_n dX6_findPlaces_48 rfl ?_
            refine zt_getv (v := p) dX6_findPlaces_49 fl_X6_60 (zs_26 hS) rFm_p ?_
            refine zt_iload_n dX6_findPlaces_52 rfl ?_
            refine zt_iastore dX6_findPlaces_53 (zs_28 hS) (by decide) (by omega) (by omega) (by omega) ?_
            refine zt_aload_n dX6_findPlaces_54 rfl ?_
            refine zt_dup dX6_findPlaces_55 (Nat.ne_of_beq_eq_false rfl) ?_
            refine zt_getv (v := p) dX6_findPlaces_56 fl_X6_60 (zs_26 hS) ((zupA (by decide)).trans rFm_p) ?_
            refine zt_iconst dX6_findPlaces_59 ?_
            refine zt_iadd dX6_findPlaces_60 ?_
            refine zt_puti dX6_findPlaces_61 fl_X6_60 rfl (zs_26 hS) (by omega) ?_
            refine zt_iinc_1 dX6_findPlaces_64 (by decide) rfl ?_
            refine zt_goto (tgt := 7) dX6_findPlaces_67 (by decide) ?_
            rw [rFm_s]
            have hn : rPn (h 27) (i + 1).toNat = rPn (h 27) i.toNat ++ [i] := by rw [show (i + 1).toNat = i.toNat + 1 by omega]; show (if h 27 (i.toNat : Int) ≠ -2147483648 then _ else _) = _; rw [Int.toNat_of_nonneg h0, if_pos c_29]
            exact ih (i + 1) _ _ (by omega) (by omega) (by omega) (by rw [hn, List.length_append]; simp; omega) (fun q a b => by show (if q = p then i else g q) = _; rw [hn, List.length_append, List.length_singleton] at b; rw [hn]; by_cases e : q = p; (rw [if_pos e, e, hp]; exact zgt_last.symm); (rw [if_neg e, zgt_app a (by omega)]; exact hg q a (by omega)))

set_option maxRecDepth 100000 in
set_option maxHeartbeats 4000000 in
theorem c_fpl {d n : Nat} {sh : zSh} {h : zMem} (hS : zShp sh) (hR : zRf h) (hr0 : rOK h) : zM yX6_findPlaces cX6_findPlaces 2 none (d + 0) 0 0 [(2, 26)] n sh h (fun r n1 sh1 h1 => r = none ∧ n1 = n ∧ sh1 = sh ∧ ∃ g : Int → Int, h1 = rFm h (rPl h).length g ∧ ∀ q : Int, 0 ≤ q → q < ((rPl h).length : Int) → g q = zgt (rPl h) q) := by
  refine zM.ofT2 (by decide +kernel) [some (2, 26), none] rfl (Nat.le_of_ble_eq_true rfl) ?_
  refine zt_rg (fun hm => ?_)
  refine zt_aload_n dX6_findPlaces_0 rfl ?_
  refine zt_iconst dX6_findPlaces_1 ?_
  refine zt_puti dX6_findPlaces_2 fl_X6_60 rfl (zs_26 hS) (by decide) ?_
  refine zt_iconst dX6_findPlaces_5 ?_
  refine zt_istore_n_1 dX6_findPlaces_6 (by decide) rfl ?_
  rw [rFm_0]
  exact l_fpl hS hR hr0 hm hr0.1 21 0 0 (h 28) (by have := hr0.1; omega) (by omega) hr0.1.1 rfl (fun q a b => absurd b (by show ¬ q < ((0 : Nat) : Int); omega))
