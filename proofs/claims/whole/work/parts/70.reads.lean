set_option maxHeartbeats 4000000 in
theorem rd_mcl {d n : Nat} {sh : zSh} {h0 : zMem} {Q : Option zV → Nat → zSh → zMem → Prop} (hS : zShp sh) (hX : mTg h0) : mcl (h0 (-2002)) (h0 (-2001) 1) (fun e => ∀ g p w d0 m cf, mS h0 g p w d0 m cf → Q (some (0, e)) n sh g) (fun p w d0 m cf => ∀ g, mS h0 g p w d0 m cf → zT yX11_reads cX11_reads 1 (some .int) (d + 9) 0 0 Q 34 [some (2, 38)] [] n sh g) := by
  refine ⟨?_, ?_, ?_, ?_, ?_, ?_, ?_, ?_, ?_, ?_, ?_, ?_, ?_, ?_, ?_⟩
  · exact fun p w d0 m cf cg e k g hg => k g (hg.cong (fun j a b => (e j a b).symm))
  · exact fun p w d0 m cf ho k g hg => l_rd hS hg (by have := ho.2.1; omega) (by decide) (fun g hg => c_s1 hS hX hg ho.1 (by have := ho.2.1; omega) ho.2.2 ) (fun g hg r n1 sh1 h1 qq => ⟨qq.2.1, qq.2.2.1, Or.inl ⟨qq.1, k _ qq.2.2.2⟩⟩)
  · exact fun p w d0 m cf ho k g hg => l_rd hS hg (by have := ho.2.1; omega) (by decide) (fun g hg => c_s3 hS hX hg ho.1 (by have := ho.2.1; omega) ho.2.2 ) (fun g hg r n1 sh1 h1 qq => ⟨qq.2.1, qq.2.2.1, Or.inl ⟨qq.1, k _ qq.2.2.2⟩⟩)
  · intro p w d0 m cf ho k1 k2 k3 g hg
    by_cases q1 : kK (h0 (-2002)) (h0 (-2001) 1) p = 43
    · exact l_rd hS hg (by have := ho.2.1; omega) (by decide) (fun g hg => c_s2_1 hS hX hg ho.1 (by have := ho.2.1; omega) ho.2.2 q1) (fun g hg r n1 sh1 h1 qq => ⟨qq.2.1, qq.2.2.1, Or.inl ⟨qq.1, k1 q1 _ qq.2.2.2⟩⟩)
    · by_cases q2 : kK (h0 (-2002)) (h0 (-2001) 1) p = 45
      · exact l_rd hS hg (by have := ho.2.1; omega) (by decide) (fun g hg => c_s2_2 hS hX hg ho.1 (by have := ho.2.1; omega) ho.2.2 q2) (fun g hg r n1 sh1 h1 qq => ⟨qq.2.1, qq.2.2.1, Or.inl ⟨qq.1, k2 q2 _ qq.2.2.2⟩⟩)
      · exact l_rd hS hg (by have := ho.2.1; omega) (by decide) (fun g hg => c_s2_0 hS hX hg ho.1 (by have := ho.2.1; omega) ho.2.2 ⟨q1, q2⟩) (fun g hg r n1 sh1 h1 qq => ⟨qq.2.1, qq.2.2.1, Or.inl ⟨qq.1, k3 ⟨q1, q2⟩ _ qq.2.2.2⟩⟩)
  · intro p w d0 m cf ho k1 k2 k3 g hg
    by_cases q1 : kK (h0 (-2002)) (h0 (-2001) 1) p = 42
    · exact l_rd hS hg (by have := ho.2.1; omega) (by decide) (fun g hg => c_s4_1 hS hX hg ho.1 (by have := ho.2.1; omega) ho.2.2 q1) (fun g hg r n1 sh1 h1 qq => ⟨qq.2.1, qq.2.2.1, Or.inl ⟨qq.1, k1 q1 _ qq.2.2.2⟩⟩)
    · by_cases q2 : kK (h0 (-2002)) (h0 (-2001) 1) p = 47
      · exact l_rd hS hg (by have := ho.2.1; omega) (by decide) (fun g hg => c_s4_2 hS hX hg ho.1 (by have := ho.2.1; omega) ho.2.2 q2) (fun g hg r n1 sh1 h1 qq => ⟨qq.2.1, qq.2.2.1, Or.inl ⟨qq.1, k2 q2 _ qq.2.2.2⟩⟩)
      · exact l_rd hS hg (by have := ho.2.1; omega) (by decide) (fun g hg => c_s4_0 hS hX hg ho.1 (by have := ho.2.1; omega) ho.2.2 ⟨q1, q2⟩) (fun g hg r n1 sh1 h1 qq => ⟨qq.2.1, qq.2.2.1, Or.inl ⟨qq.1, k3 ⟨q1, q2⟩ _ qq.2.2.2⟩⟩)
  · exact fun p w d0 m cf ho hm q k g hg => l_rd hS hg (by have := ho.2.1; omega) (by decide) (fun g hg => c_s5N hS hX hg ho.1 (by have := ho.2.1; omega) ho.2.2 q hm) (fun g hg r n1 sh1 h1 qq => ⟨qq.2.1, qq.2.2.1, Or.inl ⟨qq.1, k _ qq.2.2.2⟩⟩)
  · exact fun p w d0 m cf ho hm q k g hg => l_rd hS hg (by have := ho.2.1; omega) (by decide) (fun g hg => c_s5X hS hX hg ho.1 (by have := ho.2.1; omega) ho.2.2 q hm) (fun g hg r n1 sh1 h1 qq => ⟨qq.2.1, qq.2.2.1, Or.inl ⟨qq.1, k _ qq.2.2.2⟩⟩)
  · intro p w d0 m cf ho qo hd k g hg
    unfold kOp at qo
    rcases qo with q | q | q | q | q | q | q
    · rw [q] at k; rw [show mPi 40 ++ 6 :: w = 1 :: 141 :: 6 :: w from rfl] at k
      exact l_rd hS hg (by have := ho.2.1; omega) (by decide) (fun g hg => c_s5_40 hS hX hg ho.1 (by have := ho.2.1; omega) ho.2.2 q hd) (fun g hg r n1 sh1 h1 qq => ⟨qq.2.1, qq.2.2.1, Or.inl ⟨qq.1, k _ qq.2.2.2⟩⟩)
    · rw [q] at k; rw [show mPi 45 ++ 6 :: w = 5 :: 1006 :: 6 :: w from rfl] at k
      exact l_rd hS hg (by have := ho.2.1; omega) (by decide) (fun g hg => c_s5_45 hS hX hg ho.1 (by have := ho.2.1; omega) ho.2.2 q hd) (fun g hg r n1 sh1 h1 qq => ⟨qq.2.1, qq.2.2.1, Or.inl ⟨qq.1, k _ qq.2.2.2⟩⟩)
    · rw [q] at k; rw [show mPi 4 ++ 6 :: w = 5 :: 1007 :: 6 :: w from rfl] at k
      exact l_rd hS hg (by have := ho.2.1; omega) (by decide) (fun g hg => c_s5_4 hS hX hg ho.1 (by have := ho.2.1; omega) ho.2.2 q hd) (fun g hg r n1 sh1 h1 qq => ⟨qq.2.1, qq.2.2.1, Or.inl ⟨qq.1, k _ qq.2.2.2⟩⟩)
    · rw [q] at k; rw [show mPi 5 ++ 6 :: w = 5 :: 1008 :: 6 :: w from rfl] at k
      exact l_rd hS hg (by have := ho.2.1; omega) (by decide) (fun g hg => c_s5_5 hS hX hg ho.1 (by have := ho.2.1; omega) ho.2.2 q hd) (fun g hg r n1 sh1 h1 qq => ⟨qq.2.1, qq.2.2.1, Or.inl ⟨qq.1, k _ qq.2.2.2⟩⟩)
    · rw [q] at k; rw [show mPi 6 ++ 6 :: w = 140 :: 1 :: 144 :: 1 :: 141 :: 1009 :: 6 :: w from rfl] at k
      exact l_rd hS hg (by have := ho.2.1; omega) (by decide) (fun g hg => c_s5_6 hS hX hg ho.1 (by have := ho.2.1; omega) ho.2.2 q hd) (fun g hg r n1 sh1 h1 qq => ⟨qq.2.1, qq.2.2.1, Or.inl ⟨qq.1, k _ qq.2.2.2⟩⟩)
    · rw [q] at k; rw [show mPi 7 ++ 6 :: w = 140 :: 1 :: 144 :: 1 :: 141 :: 1010 :: 6 :: w from rfl] at k
      exact l_rd hS hg (by have := ho.2.1; omega) (by decide) (fun g hg => c_s5_7 hS hX hg ho.1 (by have := ho.2.1; omega) ho.2.2 q hd) (fun g hg r n1 sh1 h1 qq => ⟨qq.2.1, qq.2.2.1, Or.inl ⟨qq.1, k _ qq.2.2.2⟩⟩)
    · rw [q] at k; rw [show mPi 8 ++ 6 :: w = 1 :: 7 :: 6 :: w from rfl] at k
      exact l_rd hS hg (by have := ho.2.1; omega) (by decide) (fun g hg => c_s5_8 hS hX hg ho.1 (by have := ho.2.1; omega) ho.2.2 q hd) (fun g hg r n1 sh1 h1 qq => ⟨qq.2.1, qq.2.2.1, Or.inl ⟨qq.1, k _ qq.2.2.2⟩⟩)
  · intro p w d0 m cf ho q2 q3 qo k g hg
    by_cases ko : kOp (kK (h0 (-2002)) (h0 (-2001) 1) p)
    · have hd : d0 = 10 := by rcases qo with z | z; exact absurd ko z; exact z
      unfold kOp at ko
      rcases ko with q | q | q | q | q | q | q
      · exact l_rd hS hg (by have := ho.2.1; omega) (by decide) (fun g hg => c_s5g40 hS hX hg ho.1 (by have := ho.2.1; omega) ho.2.2 q hd) (fun g hg r n1 sh1 h1 qq => ⟨qq.2.1, qq.2.2.1, Or.inr ⟨qq.1, qq.2.2.2, k g _ _ _ _ _ hg⟩⟩)
      · exact l_rd hS hg (by have := ho.2.1; omega) (by decide) (fun g hg => c_s5g45 hS hX hg ho.1 (by have := ho.2.1; omega) ho.2.2 q hd) (fun g hg r n1 sh1 h1 qq => ⟨qq.2.1, qq.2.2.1, Or.inr ⟨qq.1, qq.2.2.2, k g _ _ _ _ _ hg⟩⟩)
      · exact l_rd hS hg (by have := ho.2.1; omega) (by decide) (fun g hg => c_s5g4 hS hX hg ho.1 (by have := ho.2.1; omega) ho.2.2 q hd) (fun g hg r n1 sh1 h1 qq => ⟨qq.2.1, qq.2.2.1, Or.inr ⟨qq.1, qq.2.2.2, k g _ _ _ _ _ hg⟩⟩)
      · exact l_rd hS hg (by have := ho.2.1; omega) (by decide) (fun g hg => c_s5g5 hS hX hg ho.1 (by have := ho.2.1; omega) ho.2.2 q hd) (fun g hg r n1 sh1 h1 qq => ⟨qq.2.1, qq.2.2.1, Or.inr ⟨qq.1, qq.2.2.2, k g _ _ _ _ _ hg⟩⟩)
      · exact l_rd hS hg (by have := ho.2.1; omega) (by decide) (fun g hg => c_s5g6 hS hX hg ho.1 (by have := ho.2.1; omega) ho.2.2 q hd) (fun g hg r n1 sh1 h1 qq => ⟨qq.2.1, qq.2.2.1, Or.inr ⟨qq.1, qq.2.2.2, k g _ _ _ _ _ hg⟩⟩)
      · exact l_rd hS hg (by have := ho.2.1; omega) (by decide) (fun g hg => c_s5g7 hS hX hg ho.1 (by have := ho.2.1; omega) ho.2.2 q hd) (fun g hg r n1 sh1 h1 qq => ⟨qq.2.1, qq.2.2.1, Or.inr ⟨qq.1, qq.2.2.2, k g _ _ _ _ _ hg⟩⟩)
      · exact l_rd hS hg (by have := ho.2.1; omega) (by decide) (fun g hg => c_s5g8 hS hX hg ho.1 (by have := ho.2.1; omega) ho.2.2 q hd) (fun g hg r n1 sh1 h1 qq => ⟨qq.2.1, qq.2.2.1, Or.inr ⟨qq.1, qq.2.2.2, k g _ _ _ _ _ hg⟩⟩)
    · unfold kOp at ko
      exact l_rd hS hg (by have := ho.2.1; omega) (by decide) (fun g hg => c_s5f hS hX hg ho.1 (by have := ho.2.1; omega) ho.2.2 (by omega)) (fun g hg r n1 sh1 h1 qq => ⟨qq.2.1, qq.2.2.1, Or.inr ⟨qq.1, qq.2.2.2, k g _ _ _ _ _ hg⟩⟩)
  · exact fun p w d0 m cf ho hd k g hg => l_rd hS hg (by have := ho.2.1; omega) (by decide) (fun g hg => c_s6 hS hX hg ho.1 (by have := ho.2.1; omega) ho.2.2 hd) (fun g hg r n1 sh1 h1 qq => ⟨qq.2.1, qq.2.2.1, Or.inl ⟨qq.1, k _ qq.2.2.2⟩⟩)
  · intro p w d0 m cf x ho hx k g hg
    rcases hx with ⟨q, rfl⟩ | ⟨q, rfl⟩ | ⟨q, rfl⟩
    · exact l_rd hS hg (by have := ho.2.1; omega) (by decide) (fun g hg => c_s7_1 hS hX hg ho.1 (by have := ho.2.1; omega) ho.2.2 q) (fun g hg r n1 sh1 h1 qq => ⟨qq.2.1, qq.2.2.1, Or.inl ⟨qq.1, k _ qq.2.2.2⟩⟩)
    · exact l_rd hS hg (by have := ho.2.1; omega) (by decide) (fun g hg => c_s7_2 hS hX hg ho.1 (by have := ho.2.1; omega) ho.2.2 q) (fun g hg r n1 sh1 h1 qq => ⟨qq.2.1, qq.2.2.1, Or.inl ⟨qq.1, k _ qq.2.2.2⟩⟩)
    · exact l_rd hS hg (by have := ho.2.1; omega) (by decide) (fun g hg => c_s7_3 hS hX hg ho.1 (by have := ho.2.1; omega) ho.2.2 q) (fun g hg r n1 sh1 h1 qq => ⟨qq.2.1, qq.2.2.1, Or.inl ⟨qq.1, k _ qq.2.2.2⟩⟩)
  · exact fun p w d0 m cf ho q k g hg => l_rd hS hg (by have := ho.2.1; omega) (by decide) (fun g hg => c_s7_0 hS hX hg ho.1 (by have := ho.2.1; omega) ho.2.2 q) (fun g hg r n1 sh1 h1 qq => ⟨qq.2.1, qq.2.2.1, Or.inr ⟨qq.1, qq.2.2.2, k g _ _ _ _ _ hg⟩⟩)
  · intro p w d0 m cf x c ho hx k1 k2 g hg
    rcases hx with ⟨rfl, rfl⟩ | ⟨rfl, rfl⟩ | ⟨rfl, rfl⟩ | ⟨rfl, rfl⟩ | ⟨rfl, rfl⟩
    · by_cases q : kK (h0 (-2002)) (h0 (-2001) 1) p = 40
      · exact l_rd hS hg (by have := ho.2.1; omega) (by decide) (fun g hg => c_s140 hS hX hg ho.1 (by have := ho.2.1; omega) ho.2.2 q) (fun g hg r n1 sh1 h1 qq => ⟨qq.2.1, qq.2.2.1, Or.inl ⟨qq.1, k1 q _ qq.2.2.2⟩⟩)
      · exact l_rd hS hg (by have := ho.2.1; omega) (by decide) (fun g hg => c_s140f hS hX hg ho.1 (by have := ho.2.1; omega) ho.2.2 q) (fun g hg r n1 sh1 h1 qq => ⟨qq.2.1, qq.2.2.1, Or.inr ⟨qq.1, qq.2.2.2, k2 q g _ _ _ _ _ hg⟩⟩)
    · by_cases q : kK (h0 (-2002)) (h0 (-2001) 1) p = 41
      · exact l_rd hS hg (by have := ho.2.1; omega) (by decide) (fun g hg => c_s141 hS hX hg ho.1 (by have := ho.2.1; omega) ho.2.2 q) (fun g hg r n1 sh1 h1 qq => ⟨qq.2.1, qq.2.2.1, Or.inl ⟨qq.1, k1 q _ qq.2.2.2⟩⟩)
      · exact l_rd hS hg (by have := ho.2.1; omega) (by decide) (fun g hg => c_s141f hS hX hg ho.1 (by have := ho.2.1; omega) ho.2.2 q) (fun g hg r n1 sh1 h1 qq => ⟨qq.2.1, qq.2.2.1, Or.inr ⟨qq.1, qq.2.2.2, k2 q g _ _ _ _ _ hg⟩⟩)
    · by_cases q : kK (h0 (-2002)) (h0 (-2001) 1) p = 44
      · exact l_rd hS hg (by have := ho.2.1; omega) (by decide) (fun g hg => c_s144 hS hX hg ho.1 (by have := ho.2.1; omega) ho.2.2 q) (fun g hg r n1 sh1 h1 qq => ⟨qq.2.1, qq.2.2.1, Or.inl ⟨qq.1, k1 q _ qq.2.2.2⟩⟩)
      · exact l_rd hS hg (by have := ho.2.1; omega) (by decide) (fun g hg => c_s144f hS hX hg ho.1 (by have := ho.2.1; omega) ho.2.2 q) (fun g hg r n1 sh1 h1 qq => ⟨qq.2.1, qq.2.2.1, Or.inr ⟨qq.1, qq.2.2.2, k2 q g _ _ _ _ _ hg⟩⟩)
    · by_cases q : kK (h0 (-2002)) (h0 (-2001) 1) p = 9
      · exact l_rd hS hg (by have := ho.2.1; omega) (by decide) (fun g hg => c_s306 hS hX hg ho.1 (by have := ho.2.1; omega) ho.2.2 q) (fun g hg r n1 sh1 h1 qq => ⟨qq.2.1, qq.2.2.1, Or.inl ⟨qq.1, k1 q _ qq.2.2.2⟩⟩)
      · exact l_rd hS hg (by have := ho.2.1; omega) (by decide) (fun g hg => c_s306f hS hX hg ho.1 (by have := ho.2.1; omega) ho.2.2 q) (fun g hg r n1 sh1 h1 qq => ⟨qq.2.1, qq.2.2.1, Or.inr ⟨qq.1, qq.2.2.2, k2 q g _ _ _ _ _ hg⟩⟩)
    · by_cases q : kK (h0 (-2002)) (h0 (-2001) 1) p = 10
      · exact l_rd hS hg (by have := ho.2.1; omega) (by decide) (fun g hg => c_s307 hS hX hg ho.1 (by have := ho.2.1; omega) ho.2.2 q) (fun g hg r n1 sh1 h1 qq => ⟨qq.2.1, qq.2.2.1, Or.inl ⟨qq.1, k1 q _ qq.2.2.2⟩⟩)
      · exact l_rd hS hg (by have := ho.2.1; omega) (by decide) (fun g hg => c_s307f hS hX hg ho.1 (by have := ho.2.1; omega) ho.2.2 q) (fun g hg r n1 sh1 h1 qq => ⟨qq.2.1, qq.2.2.1, Or.inr ⟨qq.1, qq.2.2.2, k2 q g _ _ _ _ _ hg⟩⟩)
  · intro p w d0 m cf x q ho hm hx hq k g hg
    rcases (show q = 2 ∨ q = 3 ∨ q = 4 ∨ q = 5 ∨ q = 6 ∨ q = 7 ∨ q = 8 ∨ q = 9 ∨ q = 10 ∨ q = 11 ∨ q = 12 ∨ q = 13 by omega) with rfl | rfl | rfl | rfl | rfl | rfl | rfl | rfl | rfl | rfl | rfl | rfl
    · have e : x = 1002 := by omega
      subst e
      exact l_rd hS hg (by have := ho.2.1; omega) (by decide) (fun g hg => c_s1002 hS hX hg ho.1 (by have := ho.2.1; omega) ho.2.2 hm) (fun g hg r n1 sh1 h1 qq => ⟨qq.2.1, qq.2.2.1, Or.inl ⟨qq.1, k _ qq.2.2.2⟩⟩)
    · have e : x = 1003 := by omega
      subst e
      exact l_rd hS hg (by have := ho.2.1; omega) (by decide) (fun g hg => c_s1003 hS hX hg ho.1 (by have := ho.2.1; omega) ho.2.2 hm) (fun g hg r n1 sh1 h1 qq => ⟨qq.2.1, qq.2.2.1, Or.inl ⟨qq.1, k _ qq.2.2.2⟩⟩)
    · have e : x = 1004 := by omega
      subst e
      exact l_rd hS hg (by have := ho.2.1; omega) (by decide) (fun g hg => c_s1004 hS hX hg ho.1 (by have := ho.2.1; omega) ho.2.2 hm) (fun g hg r n1 sh1 h1 qq => ⟨qq.2.1, qq.2.2.1, Or.inl ⟨qq.1, k _ qq.2.2.2⟩⟩)
    · have e : x = 1005 := by omega
      subst e
      exact l_rd hS hg (by have := ho.2.1; omega) (by decide) (fun g hg => c_s1005 hS hX hg ho.1 (by have := ho.2.1; omega) ho.2.2 hm) (fun g hg r n1 sh1 h1 qq => ⟨qq.2.1, qq.2.2.1, Or.inl ⟨qq.1, k _ qq.2.2.2⟩⟩)
    · have e : x = 1006 := by omega
      subst e
      exact l_rd hS hg (by have := ho.2.1; omega) (by decide) (fun g hg => c_s1006 hS hX hg ho.1 (by have := ho.2.1; omega) ho.2.2 hm) (fun g hg r n1 sh1 h1 qq => ⟨qq.2.1, qq.2.2.1, Or.inl ⟨qq.1, k _ qq.2.2.2⟩⟩)
    · have e : x = 1007 := by omega
      subst e
      exact l_rd hS hg (by have := ho.2.1; omega) (by decide) (fun g hg => c_s1007 hS hX hg ho.1 (by have := ho.2.1; omega) ho.2.2 hm) (fun g hg r n1 sh1 h1 qq => ⟨qq.2.1, qq.2.2.1, Or.inl ⟨qq.1, k _ qq.2.2.2⟩⟩)
    · have e : x = 1008 := by omega
      subst e
      exact l_rd hS hg (by have := ho.2.1; omega) (by decide) (fun g hg => c_s1008 hS hX hg ho.1 (by have := ho.2.1; omega) ho.2.2 hm) (fun g hg r n1 sh1 h1 qq => ⟨qq.2.1, qq.2.2.1, Or.inl ⟨qq.1, k _ qq.2.2.2⟩⟩)
    · have e : x = 1009 := by omega
      subst e
      exact l_rd hS hg (by have := ho.2.1; omega) (by decide) (fun g hg => c_s1009 hS hX hg ho.1 (by have := ho.2.1; omega) ho.2.2 hm) (fun g hg r n1 sh1 h1 qq => ⟨qq.2.1, qq.2.2.1, Or.inl ⟨qq.1, k _ qq.2.2.2⟩⟩)
    · have e : x = 1010 := by omega
      subst e
      exact l_rd hS hg (by have := ho.2.1; omega) (by decide) (fun g hg => c_s1010 hS hX hg ho.1 (by have := ho.2.1; omega) ho.2.2 hm) (fun g hg r n1 sh1 h1 qq => ⟨qq.2.1, qq.2.2.1, Or.inl ⟨qq.1, k _ qq.2.2.2⟩⟩)
    · have e : x = 1011 := by omega
      subst e
      exact l_rd hS hg (by have := ho.2.1; omega) (by decide) (fun g hg => c_s1011 hS hX hg ho.1 (by have := ho.2.1; omega) ho.2.2 hm) (fun g hg r n1 sh1 h1 qq => ⟨qq.2.1, qq.2.2.1, Or.inl ⟨qq.1, k _ qq.2.2.2⟩⟩)
    · have e : x = 1012 := by omega
      subst e
      exact l_rd hS hg (by have := ho.2.1; omega) (by decide) (fun g hg => c_s1012 hS hX hg ho.1 (by have := ho.2.1; omega) ho.2.2 hm) (fun g hg r n1 sh1 h1 qq => ⟨qq.2.1, qq.2.2.1, Or.inl ⟨qq.1, k _ qq.2.2.2⟩⟩)
    · have e : x = 1013 := by omega
      subst e
      exact l_rd hS hg (by have := ho.2.1; omega) (by decide) (fun g hg => c_s1013 hS hX hg ho.1 (by have := ho.2.1; omega) ho.2.2 hm) (fun g hg r n1 sh1 h1 qq => ⟨qq.2.1, qq.2.2.1, Or.inl ⟨qq.1, k _ qq.2.2.2⟩⟩)
  · intro p w d0 m cf ho k1 k2 g hg
    by_cases q : kK (h0 (-2002)) (h0 (-2001) 1) p = 0
    · exact l_rd hS hg (by have := ho.2.1; omega) (by decide) (fun g hg => c_s0 hS hX hg ho.1 (by have := ho.2.1; omega) ho.2.2 q) (fun g hg r n1 sh1 h1 qq => ⟨qq.2.1, qq.2.2.1, Or.inl ⟨qq.1, k1 q _ qq.2.2.2⟩⟩)
    · exact l_rd hS hg (by have := ho.2.1; omega) (by decide) (fun g hg => c_s0f hS hX hg ho.1 (by have := ho.2.1; omega) ho.2.2 q) (fun g hg r n1 sh1 h1 qq => ⟨qq.2.1, qq.2.2.1, Or.inr ⟨qq.1, qq.2.2.2, k2 q g _ _ _ _ _ hg⟩⟩)

def mEnd : Int ⊕ zPR → Option zV → zMem → Prop
  | .inl e, r, _ => r = some (0, e)
  | .inr q, r, h1 => r = some (0, -1) ∧ h1 38 11 = q.2.2.2.1 ∧ ∀ j, 0 ≤ j → j < q.2.2.2.1 → h1 41 j = (q.2.2.2.2.1 0 j).1 ∧ h1 42 j = (q.2.2.2.2.1 0 j).2
def rd0 (h : zMem) : zMem := zup (zup (zup (zup h 38 2 0) 38 7 0) 38 8 0) 38 11 0
theorem rd0_n {h : zMem} {x : Int} (hx : x ≠ 38) : rd0 h x = h x := (zup_ne hx).trans ((zup_ne hx).trans ((zup_ne hx).trans (zup_ne hx)))
theorem rd0_o {h : zMem} {y : Int} (hy : y ≠ 2 ∧ y ≠ 7 ∧ y ≠ 8 ∧ y ≠ 11) : rd0 h 38 y = h 38 y := (zupJ hy.2.2.2).trans ((zupJ hy.2.2.1).trans ((zupJ hy.2.1).trans (zupJ hy.1)))
theorem rd0_rf {h : zMem} (hR : zRf h) : zRf (rd0 h) := (((hR.up (by decide)).up (by decide)).up (by decide)).up (by decide)
theorem rd0_2 {h : zMem} : rd0 h 38 2 = 0 := (zupJ (by decide)).trans ((zupJ (by decide)).trans ((zupJ (by decide)).trans zupE))
theorem rd0_7 {h : zMem} : rd0 h 38 7 = 0 := (zupJ (by decide)).trans ((zupJ (by decide)).trans zupE)
theorem rd0_8 {h : zMem} : rd0 h 38 8 = 0 := (zupJ (by decide)).trans zupE
theorem rd0_11 {h : zMem} : rd0 h 38 11 = 0 := zupE
theorem rd0_tx {h : zMem} (hX : mTg h) : mTg (rd0 h) := by
  unfold mTg; rw [rd0_n (x := -2001) (by decide), rd0_n (x := -2002) (by decide), rd0_n (x := 39) (by decide), rd0_o (by decide)]; exact hX
theorem mS_init {h : zMem} {v t : Int} {cf : Int → Int × Int} (hR : zRf h) (hk : mtk (kK (h (-2002)) (h (-2001) 1) 0) (kN (h (-2002)) (h (-2001) 1) 0) t v) : mS h (nM (rd0 h) (kE (h (-2002)) (h (-2001) 1) 0) (kS (h (-2002)) (h (-2001) 1) 0) v t) 0 [] 0 0 cf := by
  refine ⟨⟨fun x a1 a2 a3 a4 => (nM_n a1).trans (rd0_n a1), nM_rf (rd0_rf hR), fun y hy => (nM_o ⟨hy.1, hy.2.1, hy.2.2.1, hy.2.2.2.1⟩).trans (rd0_o ⟨hy.1, hy.2.2.2.2.1, hy.2.2.2.2.2.1, hy.2.2.2.2.2.2⟩)⟩, ⟨nM_38, nM_38, ?_⟩, ⟨?_, trivial⟩, ?_, ?_, fun j a b => by omega⟩
  · rw [show nM (rd0 h) (kE (h (-2002)) (h (-2001) 1) 0) (kS (h (-2002)) (h (-2001) 1) 0) v t 38 3 = t from nM_38, show nM (rd0 h) (kE (h (-2002)) (h (-2001) 1) 0) (kS (h (-2002)) (h (-2001) 1) 0) v t 38 5 = v from nM_38]; exact hk
  · rw [nM_o (by decide), rd0_7]; rfl
  · rw [nM_o (by decide), rd0_8]
  · rw [nM_o (by decide), rd0_11]

set_option maxRecDepth 100000 in
set_option maxHeartbeats 4000000 in
theorem c_readsG {d n : Nat} {sh : zSh} {h : zMem} (hS : zShp sh) (hR : zRf h) (hX : mTg h) : zM yX11_reads cX11_reads 1 (some .int) (d + 9) 0 0 [(2, 38)] n sh h (fun r n1 sh1 h1 => n1 = n ∧ sh1 = sh ∧ (∀ x, x ≠ 38 → x ≠ 40 → x ≠ 41 → x ≠ 42 → h1 x = h x) ∧ zRf h1 ∧ (∀ y, y ≠ 2 ∧ y ≠ 3 ∧ y ≠ 4 ∧ y ≠ 5 ∧ y ≠ 7 ∧ y ≠ 8 ∧ y ≠ 11 → h1 38 y = h 38 y) ∧ mEnd (pAl (h (-2002)) (h (-2001) 1)) r h1) := by
  refine zM.ofT2 (by decide +kernel) [some (2, 38)] rfl (Nat.le_of_ble_eq_true rfl) ?_
  have hw : (0 : Nat) ≤ 700 := by decide
  refine zt_aload_n dX11_reads_0 rfl ?_
  refine zt_iconst dX11_reads_1 ?_
  refine zt_puti dX11_reads_2 fl_X11_159 rfl (zs_38 hS) (by decide) ?_
  refine zt_aload_n dX11_reads_5 rfl ?_
  refine zt_iconst dX11_reads_6 ?_
  refine zt_puti dX11_reads_7 fl_X11_183 rfl (zs_38 hS) (by decide) ?_
  refine zt_aload_n dX11_reads_10 rfl ?_
  refine zt_iconst dX11_reads_11 ?_
  refine zt_puti dX11_reads_12 fl_X11_192 rfl (zs_38 hS) (by decide) ?_
  refine zt_aload_n dX11_reads_15 rfl ?_
  refine zt_iconst dX11_reads_16 ?_
  refine zt_puti dX11_reads_17 fl_X11_186 rfl (zs_38 hS) (by decide) ?_
  refine zt_mem (h1 := rd0 h) rfl ?_
  refine zt_aload_n dX11_reads_20 rfl ?_
  refine zt_callV0q dX11_reads_21 ml_X11_189 (zs_38 hS) (Nat.le_of_ble_eq_true rfl) (c_next (p := 0) hS (rd0_rf hR) (rd0_tx hX) ⟨by decide, by rw [rd0_n (by decide)]; exact hX.1.1.1⟩ rd0_2) ?_
  rintro r n1 sh1 gg ⟨rfl, e1, e2, v, t, hg, hmt⟩
  have e1 := e1.symm
  subst e1
  have e2 := e2.symm
  subst e2
  simp only [Option.toList, List.nil_append]
  rw [rd0_n (by decide), rd0_n (by decide)] at hg hmt
  have s0 : mS h gg 0 [] 0 0 (fun _ => ((0 : Int), (0 : Int))) := hg ▸ mS_init hR hmt
  refine zt_aload_n dX11_reads_24 rfl ?_
  refine zt_iconst dX11_reads_25 ?_
  refine zt_callV1v dX11_reads_26 ml_X11_195 (zs_38 hS) (Nat.le_of_ble_eq_true rfl) (c_mpu hS s0.1.2.1 (by have e := s0.2.2.1.1; (try simp only [List.length_cons, List.length_nil] at e); omega) (by decide)) ?_
  obtain ⟨g1, hg1⟩ : ∃ g, g = mPu gg 0 := ⟨_, rfl⟩
  refine zt_mem hg1.symm ?_
  have s1 : mS h g1 (0) (0 :: []) (0) (0) ((fun _ => ((0 : Int), (0 : Int)))) := hg1 ▸ s0.push
  refine zt_aload_n dX11_reads_29 rfl ?_
  refine zt_iconst dX11_reads_30 ?_
  refine zt_callV1v dX11_reads_31 ml_X11_195 (zs_38 hS) (Nat.le_of_ble_eq_true rfl) (c_mpu hS s1.1.2.1 (by have e := s1.2.2.1.1; (try simp only [List.length_cons, List.length_nil] at e); omega) (by decide)) ?_
  obtain ⟨g2, hg2⟩ : ∃ g, g = mPu g1 1 := ⟨_, rfl⟩
  refine zt_mem hg2.symm ?_
  have s2 : mS h g2 (0) (1 :: 0 :: []) (0) (0) ((fun _ => ((0 : Int), (0 : Int)))) := hg2 ▸ s1.push
  have hall := m_all (Fl := (fun e => ∀ g p w d0 m cf, mS h g p w d0 m cf → (fun r n1 sh1 h1 => n1 = n ∧ sh1 = sh ∧ (∀ x, x ≠ 38 → x ≠ 40 → x ≠ 41 → x ≠ 42 → h1 x = h x) ∧ zRf h1 ∧ (∀ y, y ≠ 2 ∧ y ≠ 3 ∧ y ≠ 4 ∧ y ≠ 5 ∧ y ≠ 7 ∧ y ≠ 8 ∧ y ≠ 11 → h1 38 y = h 38 y) ∧ mEnd (pAl (h (-2002)) (h (-2001) 1)) r h1) (some (0, e)) n sh g)) (J := (fun p w d0 m cf => ∀ g, mS h g p w d0 m cf → zT yX11_reads cX11_reads 1 (some .int) (d + 9) 0 0 (fun r n1 sh1 h1 => n1 = n ∧ sh1 = sh ∧ (∀ x, x ≠ 38 → x ≠ 40 → x ≠ 41 → x ≠ 42 → h1 x = h x) ∧ zRf h1 ∧ (∀ y, y ≠ 2 ∧ y ≠ 3 ∧ y ≠ 4 ∧ y ≠ 5 ∧ y ≠ 7 ∧ y ≠ 8 ∧ y ≠ 11 → h1 38 y = h 38 y) ∧ mEnd (pAl (h (-2002)) (h (-2001) 1)) r h1) 34 [some (2, 38)] [] n sh g)) hX.1.1 (rd_mcl (d := d) hS hX) (fun _ => ((0 : Int), (0 : Int)))
  obtain ⟨R0, hR0⟩ : ∃ R0, R0 = pAl (h (-2002)) (h (-2001) 1) := ⟨_, rfl⟩
  cases R0 with
  | inl x =>
    exact hall.1 x hR0.symm (fun g p w d0 m cf hg => ⟨rfl, rfl, hg.1.1, hg.1.2.1, hg.1.2.2, by rw [← hR0]; exact rfl⟩) _ s2
  | inr q =>
    refine hall.2 q hR0.symm (fun _ g hg => l_rd0 hS hg ⟨rfl, rfl, hg.1.1, hg.1.2.1, hg.1.2.2, ?_⟩) _ s2
    rw [← hR0]
    refine ⟨rfl, hg.2.2.2.2.1, fun j a b => ?_⟩
    have hz := hg.2.2.2.2.2 j a b
    rw [show cfx (fun _ => ((0 : Int), (0 : Int))) 0 q.2.2.2.2.1 j = q.2.2.2.2.1 0 j from if_neg (by omega)] at hz
    exact hz

/-- rows that no object has may hold anything -/
theorem zM_gh {y : MethodName} {cc : ByteArray} {mL : Nat} {rt : Option FieldType} {d kc ks : Nat} {av : List zV} {n : Nat} {sh : zSh} {h hg : zMem} {Q : Option zV → Nat → zSh → zMem → Prop} (e : ∀ x, (0 ≤ x ∨ x = -1000) → hg x = h x) (k : zM y cc mL rt d kc ks av n sh hg Q) : zM y cc mL rt d kc ks av n sh h (fun r n1 sh1 h1 => ∃ g, Q r n1 sh1 g ∧ (∀ x, (0 ≤ x ∨ x = -1000) → h1 x = g x) ∧ ∀ x, ¬ (0 ≤ x ∨ x = -1000) → h1 x = h x) := by
  intro l D cA φ n0 hφ
  have k1 := k l D cA φ n0 hφ
  intro p e1 ha hc hk s m args below hf happ hP ht
  obtain ⟨p1, ⟨p2, p3, p4⟩, p5, p6⟩ := hP
  obtain ⟨k, o, h1, h2, h3, ⟨⟨r, n', sh', h', q1, q2, ⟨u1, u2, u3⟩, q3⟩, q4⟩, q5⟩ := k1 p e1 ha hc hk s m args below hf happ ⟨p1, ⟨p2, p3, fun i hi => by rw [e i (Or.inl (by omega))]; exact p4 i hi⟩, fun L hL => by rw [e (-1000) (Or.inr rfl)]; exact p5 L hL, p6⟩ ht
  refine ⟨k, o, h1, h2, h3, ⟨⟨r, n', sh', fun x => if (0 ≤ x ∨ x = -1000) then h' x else h x, q1, ⟨h', q2, fun x hx => if_pos hx, fun x hx => if_neg hx⟩, ⟨u1, u2, fun i hi => ?_⟩, fun L hL => ?_⟩, q4⟩, q5⟩
  · have : (if (0 ≤ (i : Int) ∨ (i : Int) = -1000) then h' (i : Int) else h (i : Int)) = h' (i : Int) := if_pos (Or.inl (by omega))
    show (sh' i).1 < 106 ∧ zRg (sh' i) (if (0 ≤ (i : Int) ∨ (i : Int) = -1000) then h' (i : Int) else h (i : Int)) ∧ zAt D cA φ (sh' i) (if (0 ≤ (i : Int) ∨ (i : Int) = -1000) then h' (i : Int) else h (i : Int)) (n0 + i) _
    rw [this]; exact u3 i hi
  · exact q3 L hL
theorem zrf_0 : ∀ q ∈ zrf0, 0 ≤ q.1 := by decide
theorem c_reads {d n : Nat} {sh : zSh} {h : zMem} {T : Int → Int} {L : Int} (hS : zShp sh) (hR : zRf h) (hX : mTt h T L) : zM yX11_reads cX11_reads 1 (some .int) (d + 9) 0 0 [(2, 38)] n sh h (fun r n1 sh1 h1 => n1 = n ∧ sh1 = sh ∧ (∀ x, x ≠ 38 → x ≠ 40 → x ≠ 41 → x ≠ 42 → h1 x = h x) ∧ zRf h1 ∧ (∀ y, y ≠ 2 ∧ y ≠ 3 ∧ y ≠ 4 ∧ y ≠ 5 ∧ y ≠ 7 ∧ y ≠ 8 ∧ y ≠ 11 → h1 38 y = h 38 y) ∧ mEnd (pAl T L) r h1) := by
  have e1 : ∀ x, (0 ≤ x ∨ x = -1000) → znew (znew h (-2001) (fun _ => L)) (-2002) T x = h x := fun x hx => by rw [znew_ne (by omega), znew_ne (by omega)]
  have eL : znew (znew h (-2001) (fun _ => L)) (-2002) T (-2001) 1 = L := by rw [znew_ne (by decide), znew_at]
  have eT : znew (znew h (-2001) (fun _ => L)) (-2002) T (-2002) = T := znew_at
  have hG : mTg (znew (znew h (-2001) (fun _ => L)) (-2002) T) := by
    unfold mTg
    rw [eL, eT, e1 38 (by omega), e1 39 (by omega)]; exact hX
  have k := c_readsG (d := d) (n := n) (h := znew (znew h (-2001) (fun _ => L)) (-2002) T) hS (fun q hq => by rw [e1 q.1 (Or.inl (zrf_0 q hq))]; exact hR q hq) hG
  rw [eL, eT] at k
  refine zM_mono (fun r n1 sh1 h1 q => ?_) (zM_gh e1 k)
  obtain ⟨g, ⟨q1, q2, q3, q4, q5, q6⟩, q7, q8⟩ := q
  refine ⟨q1, q2, fun x a1 a2 a3 a4 => ?_, fun q hq => by rw [q7 q.1 (Or.inl (zrf_0 q hq))]; exact q4 q hq, fun y hy => by rw [q7 38 (by omega), q5 y hy, e1 38 (by omega)], ?_⟩
  · by_cases c : 0 ≤ x ∨ x = -1000
    · rw [q7 x c, q3 x a1 a2 a3 a4, e1 x c]
    · exact q8 x c
  · have e38 := q7 38 (by omega)
    have e41 := q7 41 (by omega)
    have e42 := q7 42 (by omega)
    cases e : pAl T L with
    | inl x => rw [e] at q6; exact q6
    | inr z => rw [e] at q6; unfold mEnd at q6 ⊢; simp only [e38, e41, e42]; exact q6
