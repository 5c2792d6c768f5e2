theorem zslen_sh : ∀ i : Nat, i < 10 → (Int32.ofInt ((zStrL.getD i 0 : Nat) : Int) >>> (Int32.ofInt 0 &&& 31)).toInt = ((zStrL.getD i 0 : Nat) : Int) := by decide +kernel
theorem zsb_ok : ∀ i : Nat, i < 10 → ∀ k : Nat, k < zStrL.getD i 0 → (32 ≤ zsb i k ∧ zsb i k ≤ 127) ∧ (Int32.ofInt (zsb i k) &&& Int32.ofInt 255).toInt = zsb i k := by decide +kernel
theorem zsb_r {i : Nat} {k : Int} (hi : i < 10) (h0 : 0 ≤ k) (h1 : k < ((zStrL.getD i 0 : Nat) : Int)) : (32 ≤ zsb i k ∧ zsb i k ≤ 127) ∧ (Int32.ofInt (zsb i k) &&& Int32.ofInt 255).toInt = zsb i k := by
  obtain ⟨q, rfl⟩ : ∃ q : Nat, k = q := ⟨k.toNat, by omega⟩
  exact zsb_ok i hi q (by omega)

set_option maxRecDepth 100000 in
set_option maxHeartbeats 4000000 in
theorem c_scod {d n : Nat} {sh : zSh} {h : zMem} {b : Int} {i : Nat} (hb : zSc b i) : zF yJ0_coder_7d493 cJ0_coder_7d493 1 (some .byte) (d + 0) 0 0 [(2, b)] n sh h (some (0, 0)) n sh h := by
  refine zF.ofTF (by decide +kernel) [some (2, b)] rfl (Nat.le_of_ble_eq_true rfl) ?_
  refine zt_gsC dJ0_coder_7d493_0 fl_J0_38 ?_
  refine zt_if_eq (tgt := 13) dJ0_coder_7d493_3 (by decide) (by decide) (fun q => absurd q (by decide)) (fun c_3 => ?_)
  refine zt_aload_n dJ0_coder_7d493_6 rfl ?_
  refine zt_gfC dJ0_coder_7d493_7 fl_J0_15 hb ?_
  refine zt_goto (tgt := 14) dJ0_coder_7d493_10 (by decide) ?_
  exact zt_bret dJ0_coder_7d493_14 (by decide) ⟨rfl, rfl, rfl, rfl⟩

set_option maxRecDepth 100000 in
set_option maxHeartbeats 4000000 in
theorem c_sisl {d n : Nat} {sh : zSh} {h : zMem} {b : Int} {i : Nat} (hb : zSc b i) : zF yJ0_isLatin1_aae02 cJ0_isLatin1_aae02 1 (some .boolean) (d + 0) 0 0 [(2, b)] n sh h (some (0, 1)) n sh h := by
  refine zF.ofTF (by decide +kernel) [some (2, b)] rfl (Nat.le_of_ble_eq_true rfl) ?_
  refine zt_gsC dJ0_isLatin1_aae02_0 fl_J0_38 ?_
  refine zt_if_eq (tgt := 17) dJ0_isLatin1_aae02_3 (by decide) (by decide) (fun q => absurd q (by decide)) (fun c_3 => ?_)
  refine zt_aload_n dJ0_isLatin1_aae02_6 rfl ?_
  refine zt_gfC dJ0_isLatin1_aae02_7 fl_J0_15 hb ?_
  refine zt_if_ne (tgt := 17) dJ0_isLatin1_aae02_10 (by decide) (by decide) (fun q => absurd q (by decide)) (fun c_10 => ?_)
  refine zt_iconst dJ0_isLatin1_aae02_13 ?_
  refine zt_goto (tgt := 18) dJ0_isLatin1_aae02_14 (by decide) ?_
  exact zt_zret dJ0_isLatin1_aae02_18 (by decide) ⟨rfl, rfl, rfl, rfl⟩

set_option maxRecDepth 100000 in
set_option maxHeartbeats 4000000 in
theorem c_slen {d n : Nat} {sh : zSh} {h : zMem} {b : Int} {i : Nat} (hb : zSc b i) : zF yJ0_length_8abf5 cJ0_length_8abf5 1 (some .int) (d + 1) 0 0 [(2, b)] n sh h (some (0, ((zStrL.getD i 0 : Nat) : Int))) n sh h := by
  refine zF.ofTF (by decide +kernel) [some (2, b)] rfl (Nat.le_of_ble_eq_true rfl) ?_
  refine zt_aload_n dJ0_length_8abf5_0 rfl ?_
  refine zt_gfV dJ0_length_8abf5_1 fl_J0_9 hb ?_
  refine zt_alS (v := ((zStrL.getD i 0 : Nat) : Int)) dJ0_length_8abf5_4 hb rfl ?_
  refine zt_aload_n dJ0_length_8abf5_5 rfl ?_
  refine zt_callVS0r dJ0_length_8abf5_6 ml_J0_335 hb (Nat.le_of_ble_eq_true rfl) (c_scod hb) ?_
  refine zt_ishr dJ0_length_8abf5_9 ?_
  exact zt_iret dJ0_length_8abf5_10 ⟨by congr 2; exact zslen_sh i hb.2, rfl, rfl, rfl⟩

set_option maxRecDepth 100000 in
set_option maxHeartbeats 4000000 in
theorem c_pci {d n : Nat} {sh : zSh} {h : zMem} {k m z : Int} (hk : 0 ≤ k ∧ k < m) (hm : m ≤ 1000) : zF yJ3_checkIndex_8e157 cJ3_checkIndex_8e157 3 (some .int) (d + 0) 0 0 [(0, k), (0, m), (2, z)] n sh h (some (0, k)) n sh h := by
  refine zF.ofTF (by decide +kernel) [some (0, k), some (0, m), some (2, z)] rfl (Nat.le_of_ble_eq_true rfl) ?_
  refine zt_iload_n dJ3_checkIndex_8e157_0 rfl ?_
  refine zt_if_lt (tgt := 9) dJ3_checkIndex_8e157_1 (by decide) (by omega) (fun c_1 => ?_) (fun c_1 => ?_)
  · exfalso
    omega
  · refine zt_iload_n dJ3_checkIndex_8e157_4 rfl ?_
    refine zt_iload_n dJ3_checkIndex_8e157_5 rfl ?_
    refine zt_icmp_lt (tgt := 16) dJ3_checkIndex_8e157_6 (by decide) (by omega) (by omega) (fun c_6 => ?_) (fun c_6 => ?_)
    · refine zt_iload_n dJ3_checkIndex_8e157_16 rfl ?_
      exact zt_iret dJ3_checkIndex_8e157_17 ⟨rfl, rfl, rfl, rfl⟩
    · exfalso
      omega

set_option maxRecDepth 100000 in
set_option maxHeartbeats 4000000 in
theorem c_sci {d n : Nat} {sh : zSh} {h : zMem} {k m : Int} (hk : 0 ≤ k ∧ k < m) (hm : m ≤ 1000) : zF yJ0_checkIndex_df160 cJ0_checkIndex_df160 2 none (d + 1) 0 0 [(0, k), (0, m)] n sh h none n sh h := by
  refine zF.ofTF (by decide +kernel) [some (0, k), some (0, m)] rfl (Nat.le_of_ble_eq_true rfl) ?_
  refine zt_iload_n dJ0_checkIndex_df160_0 rfl ?_
  refine zt_iload_n dJ0_checkIndex_df160_1 rfl ?_
  refine zt_gsF dJ0_checkIndex_df160_2 fl_J0_1053 (fun z => ?_)
  refine zt_callS3r dJ0_checkIndex_df160_5 ml_J0_1059 (Nat.le_of_ble_eq_true rfl) (c_pci hk hm) ?_
  refine zt_pop dJ0_checkIndex_df160_8 (Nat.ne_of_beq_eq_false rfl) ?_
  exact zt_vret dJ0_checkIndex_df160_9 ⟨rfl, rfl, rfl, rfl⟩

set_option maxRecDepth 100000 in
set_option maxHeartbeats 4000000 in
theorem c_l1ch {d n : Nat} {sh : zSh} {h : zMem} {b k : Int} {i : Nat} (hb : zSc b i) (hk : 0 ≤ k ∧ k < ((zStrL.getD i 0 : Nat) : Int)) : zF yJ1_charAt_3b067 cJ1_charAt_3b067 2 (some .char) (d + 2) 0 0 [(2, b - 1), (0, k)] n sh h (some (0, zsb i k)) n sh h := by
  refine zF.ofTF (by decide +kernel) [some (2, b - 1), some (0, k)] rfl (Nat.le_of_ble_eq_true rfl) ?_
  have hz := zsb_r hb.2 hk.1 hk.2
  refine zt_iload_n dJ1_charAt_3b067_0 rfl ?_
  refine zt_aload_n dJ1_charAt_3b067_1 rfl ?_
  refine zt_alS (v := ((zStrL.getD i 0 : Nat) : Int)) dJ1_charAt_3b067_2 hb rfl ?_
  refine zt_callS2v dJ1_charAt_3b067_3 ml_J1_9 (Nat.le_of_ble_eq_true rfl) (c_sci hk (by have := zStrL_b i hb.2; omega)) ?_
  refine zt_aload_n dJ1_charAt_3b067_6 rfl ?_
  refine zt_iload_n dJ1_charAt_3b067_7 rfl ?_
  refine zt_bS dJ1_charAt_3b067_8 hb (by omega) (by omega) rfl ?_
  refine zt_sipush dJ1_charAt_3b067_9 (by decide) ?_
  refine zt_iand dJ1_charAt_3b067_12 ?_
  refine zt_topv (v := zsb i k) hz.2 ?_
  refine zt_i2c dJ1_charAt_3b067_13 ?_
  refine zt_topv (v := zsb i k) (by omega) ?_
  exact zt_cret dJ1_charAt_3b067_14 (by omega) ⟨rfl, rfl, rfl, rfl⟩

set_option maxRecDepth 100000 in
set_option maxHeartbeats 4000000 in
theorem c_sch {d n : Nat} {sh : zSh} {h : zMem} {b k : Int} {i : Nat} (hb : zSc b i) (hk : 0 ≤ k ∧ k < ((zStrL.getD i 0 : Nat) : Int)) : zF yJ0_charAt_5068e cJ0_charAt_5068e 2 (some .char) (d + 3) 0 0 [(2, b), (0, k)] n sh h (some (0, zsb i k)) n sh h := by
  refine zF.ofTF (by decide +kernel) [some (2, b), some (0, k)] rfl (Nat.le_of_ble_eq_true rfl) ?_
  have hz := zsb_r hb.2 hk.1 hk.2
  refine zt_aload_n dJ0_charAt_5068e_0 rfl ?_
  refine zt_callVS0r dJ0_charAt_5068e_1 ml_J0_492 hb (Nat.le_of_ble_eq_true rfl) (c_sisl hb) ?_
  refine zt_if_eq (tgt := 16) dJ0_charAt_5068e_4 (by decide) (by decide) (fun q => absurd q (by decide)) (fun c_4 => ?_)
  refine zt_aload_n dJ0_charAt_5068e_7 rfl ?_
  refine zt_gfV dJ0_charAt_5068e_8 fl_J0_9 hb ?_
  refine zt_iload_n dJ0_charAt_5068e_11 rfl ?_
  refine zt_callS2r dJ0_charAt_5068e_12 ml_J0_495 (Nat.le_of_ble_eq_true rfl) (c_l1ch hb hk) ?_
  exact zt_cret dJ0_charAt_5068e_15 (by omega) ⟨rfl, rfl, rfl, rfl⟩

def sgI (x : Int) : Int := if x = 43 then 0 else if x = 45 then 1 else if x = 42 then 2 else if x = 47 then 3 else if x = 40 then 4 else if x = 41 then 5 else if x = 44 then 6 else if x = 60 then 7 else if x = 62 then 8 else if x = 61 then 9 else -1
theorem zbm {x : Int} (h : 0 ≤ x ∧ x ≤ 255) : (x < 128 ∧ Int.bmod x 256 = x) ∨ (128 ≤ x ∧ Int.bmod x 256 = x - 256) := by
  have e : Int.bmod x 256 = if x % 256 < (256 + 1) / 2 then x % 256 else x % 256 - 256 := rfl
  rw [e]; split <;> omega

set_option maxRecDepth 100000 in
set_option maxHeartbeats 4000000 in
theorem c_cen {d n : Nat} {sh : zSh} {h : zMem} {x : Int} (hx : 0 ≤ x ∧ x ≤ 255) : zF yJ1_canEncode_9a6ad cJ1_canEncode_9a6ad 1 (some .boolean) (d + 0) 0 0 [(0, x)] n sh h (some (0, 1)) n sh h := by
  refine zF.ofTF (by decide +kernel) [some (0, x)] rfl (Nat.le_of_ble_eq_true rfl) ?_
  refine zt_iload_n dJ1_canEncode_9a6ad_0 rfl ?_
  refine zt_if_lt (tgt := 15) dJ1_canEncode_9a6ad_1 (by decide) (by omega) (fun c_1 => ?_) (fun c_1 => ?_)
  · exfalso
    omega
  · refine zt_iload_n dJ1_canEncode_9a6ad_4 rfl ?_
    refine zt_sipush dJ1_canEncode_9a6ad_5 (by decide) ?_
    refine zt_icmp_gt (tgt := 15) dJ1_canEncode_9a6ad_8 (by decide) (by omega) (by decide) (fun c_8 => ?_) (fun c_8 => ?_)
    · exfalso
      omega
    · refine zt_iconst dJ1_canEncode_9a6ad_11 ?_
      refine zt_goto (tgt := 16) dJ1_canEncode_9a6ad_12 (by decide) ?_
      exact zt_zret dJ1_canEncode_9a6ad_16 (by decide) ⟨rfl, rfl, rfl, rfl⟩

set_option maxRecDepth 100000 in
set_option maxHeartbeats 4000000 in
theorem c_ioc {d n : Nat} {sh : zSh} {h : zMem} {b x : Int} (hb : zSc b 8) (hx : 0 ≤ x ∧ x ≤ 255) : zF yJ1_indexOfChar_4cfef cJ1_indexOfChar_4cfef 6 (some .int) (d + 0) 0 0 [(2, b - 1), (0, x), (0, 0), (0, 10)] n sh h (some (0, sgI x)) n sh h := by
  refine zF.ofTF (by decide +kernel) [some (2, b - 1), some (0, x), some (0, 0), some (0, 10), none, none] rfl (Nat.le_of_ble_eq_true rfl) ?_
  have hq := zbm hx
  refine zt_iload_n dJ1_indexOfChar_4cfef_0 rfl ?_
  refine zt_i2b dJ1_indexOfChar_4cfef_1 ?_
  refine zt_istore_4 dJ1_indexOfChar_4cfef_2 (by decide) rfl ?_
  refine zt_iload_n dJ1_indexOfChar_4cfef_4 rfl ?_
  refine zt_istore_5 dJ1_indexOfChar_4cfef_5 (by decide) rfl ?_
  refine zt_iload dJ1_indexOfChar_4cfef_7 rfl ?_
  refine zt_iload_n dJ1_indexOfChar_4cfef_9 rfl ?_
  refine zt_icmp_ge (tgt := 31) dJ1_indexOfChar_4cfef_10 (by decide) (by decide) (by decide) (fun q => absurd q (by decide)) (fun c_10 => ?_)
  refine zt_aload_n dJ1_indexOfChar_4cfef_13 rfl ?_
  refine zt_iload dJ1_indexOfChar_4cfef_14 rfl ?_
  refine zt_bS (v := 43) dJ1_indexOfChar_4cfef_16 hb (by decide) (by decide) (by decide) ?_
  refine zt_iload dJ1_indexOfChar_4cfef_17 rfl ?_
  refine zt_icmp_ne (tgt := 25) dJ1_indexOfChar_4cfef_19 (by decide) (by decide) (by omega) (fun c_19 => ?_) (fun c_19 => ?_)
  · refine zt_iincv_5 (v := 1) dJ1_indexOfChar_4cfef_25 (by decide) rfl (by decide) ?_
    refine zt_goto (tgt := 7) dJ1_indexOfChar_4cfef_28 (by decide) ?_
    refine zt_iload dJ1_indexOfChar_4cfef_7 rfl ?_
    refine zt_iload_n dJ1_indexOfChar_4cfef_9 rfl ?_
    refine zt_icmp_ge (tgt := 31) dJ1_indexOfChar_4cfef_10 (by decide) (by decide) (by decide) (fun q => absurd q (by decide)) (fun c_10 => ?_)
    refine zt_aload_n dJ1_indexOfChar_4cfef_13 rfl ?_
    refine zt_iload dJ1_indexOfChar_4cfef_14 rfl ?_
    refine zt_bS (v := 45) dJ1_indexOfChar_4cfef_16 hb (by decide) (by decide) (by decide) ?_
    refine zt_iload dJ1_indexOfChar_4cfef_17 rfl ?_
    refine zt_icmp_ne (tgt := 25) dJ1_indexOfChar_4cfef_19 (by decide) (by decide) (by omega) (fun c_19 => ?_) (fun c_19 => ?_)
    · refine zt_iincv_5 (v := 2) dJ1_indexOfChar_4cfef_25 (by decide) rfl (by decide) ?_
      refine zt_goto (tgt := 7) dJ1_indexOfChar_4cfef_28 (by decide) ?_
      refine zt_iload dJ1_indexOfChar_4cfef_7 rfl ?_
      refine zt_iload_n dJ1_indexOfChar_4cfef_9 rfl ?_
      refine zt_icmp_ge (tgt := 31) dJ1_indexOfChar_4cfef_10 (by decide) (by decide) (by decide) (fun q => absurd q (by decide)) (fun c_10 => ?_)
      refine zt_aload_n dJ1_indexOfChar_4cfef_13 rfl ?_
      refine zt_iload dJ1_indexOfChar_4cfef_14 rfl ?_
      refine zt_bS (v := 42) dJ1_indexOfChar_4cfef_16 hb (by decide) (by decide) (by decide) ?_
      refine zt_iload dJ1_indexOfChar_4cfef_17 rfl ?_
      refine zt_icmp_ne (tgt := 25) dJ1_indexOfChar_4cfef_19 (by decide) (by decide) (by omega) (fun c_19 => ?_) (fun c_19 => ?_)
      · refine zt_iincv_5 (v := 3) dJ1_indexOfChar_4cfef_25 (by decide) rfl (by decide) ?_
        refine zt_goto (tgt := 7) dJ1_indexOfChar_4cfef_28 (by decide) ?_
        refine zt_iload dJ1_indexOfChar_4cfef_7 rfl ?_
        refine zt_iload_n dJ1_indexOfChar_4cfef_9 rfl ?_
        refine zt_icmp_ge (tgt := 31) dJ1_indexOfChar_4cfef_10 (by decide) (by decide) (by decide) (fun q => absurd q (by decide)) (fun c_10 => ?_)
        refine zt_aload_n dJ1_indexOfChar_4cfef_13 rfl ?_
        refine zt_iload dJ1_indexOfChar_4cfef_14 rfl ?_
        refine zt_bS (v := 47) dJ1_indexOfChar_4cfef_16 hb (by decide) (by decide) (by decide) ?_
        refine zt_iload dJ1_indexOfChar_4cfef_17 rfl ?_
        refine zt_icmp_ne (tgt := 25) dJ1_indexOfChar_4cfef_19 (by decide) (by decide) (by omega) (fun c_19 => ?_) (fun c_19 => ?_)
        · refine zt_iincv_5 (v := 4) dJ1_indexOfChar_4cfef_25 (by decide) rfl (by decide) ?_
          refine zt_goto (tgt := 7) dJ1_indexOfChar_4cfef_28 (by decide) ?_
          refine zt_iload dJ1_indexOfChar_4cfef_7 rfl ?_
          refine zt_iload_n dJ1_indexOfChar_4cfef_9 rfl ?_
          refine zt_icmp_ge (tgt := 31) dJ1_indexOfChar_4cfef_10 (by decide) (by decide) (by decide) (fun q => absurd q (by decide)) (fun c_10 => ?_)
          refine zt_aload_n dJ1_indexOfChar_4cfef_13 rfl ?_
          refine zt_iload dJ1_indexOfChar_4cfef_14 rfl ?_
          refine zt_bS (v := 40) dJ1_indexOfChar_4cfef_16 hb (by decide) (by decide) (by decide) ?_
          refine zt_iload dJ1_indexOfChar_4cfef_17 rfl ?_
          refine zt_icmp_ne (tgt := 25) dJ1_indexOfChar_4cfef_19 (by decide) (by decide) (by omega) (fun c_19 => ?_) (fun c_19 => ?_)
          · refine zt_iincv_5 (v := 5) dJ1_indexOfChar_4cfef_25 (by decide) rfl (by decide) ?_
            refine zt_goto (tgt := 7) dJ1_indexOfChar_4cfef_28 (by decide) ?_
            refine zt_iload dJ1_indexOfChar_4cfef_7 rfl ?_
            refine zt_iload_n dJ1_indexOfChar_4cfef_9 rfl ?_
            refine zt_icmp_ge (tgt := 31) dJ1_indexOfChar_4cfef_10 (by decide) (by decide) (by decide) (fun q => absurd q (by decide)) (fun c_10 => ?_)
            refine zt_aload_n dJ1_indexOfChar_4cfef_13 rfl ?_
            refine zt_iload dJ1_indexOfChar_4cfef_14 rfl ?_
            refine zt_bS (v := 41) dJ1_indexOfChar_4cfef_16 hb (by decide) (by decide) (by decide) ?_
            refine zt_iload dJ1_indexOfChar_4cfef_17 rfl ?_
            refine zt_icmp_ne (tgt := 25) dJ1_indexOfChar_4cfef_19 (by decide) (by decide) (by omega) (fun c_19 => ?_) (fun c_19 => ?_)
            · refine zt_iincv_5 (v := 6) dJ1_indexOfChar_4cfef_25 (by decide) rfl (by decide) ?_
              refine zt_goto (tgt := 7) dJ1_indexOfChar_4cfef_28 (by decide) ?_
              refine zt_iload dJ1_indexOfChar_4cfef_7 rfl ?_
              refine zt_iload_n dJ1_indexOfChar_4cfef_9 rfl ?_
              refine zt_icmp_ge (tgt := 31) dJ1_indexOfChar_4cfef_10 (by decide) (by decide) (by decide) (fun q => absurd q (by decide)) (fun c_10 => ?_)
              refine zt_aload_n dJ1_indexOfChar_4cfef_13 rfl ?_
              refine zt_iload dJ1_indexOfChar_4cfef_14 rfl ?_
              refine zt_bS (v := 44) dJ1_indexOfChar_4cfef_16 hb (by decide) (by decide) (by decide) ?_
              refine zt_iload dJ1_indexOfChar_4cfef_17 rfl ?_
              refine zt_icmp_ne (tgt := 25) dJ1_indexOfChar_4cfef_19 (by decide) (by decide) (by omega) (fun c_19 => ?_) (fun c_19 => ?_)
              · refine zt_iincv_5 (v := 7) dJ1_indexOfChar_4cfef_25 (by decide) rfl (by decide) ?_
                refine zt_goto (tgt := 7) dJ1_indexOfChar_4cfef_28 (by decide) ?_
                refine zt_iload dJ1_indexOfChar_4cfef_7 rfl ?_
                refine zt_iload_n dJ1_indexOfChar_4cfef_9 rfl ?_
                refine zt_icmp_ge (tgt := 31) dJ1_indexOfChar_4cfef_10 (by decide) (by decide) (by decide) (fun q => absurd q (by decide)) (fun c_10 => ?_)
                refine zt_aload_n dJ1_indexOfChar_4cfef_13 rfl ?_
                refine zt_iload dJ1_indexOfChar_4cfef_14 rfl ?_
                refine zt_bS (v := 60) dJ1_indexOfChar_4cfef_16 hb (by decide) (by decide) (by decide) ?_
                refine zt_iload dJ1_indexOfChar_4cfef_17 rfl ?_
                refine zt_icmp_ne (tgt := 25) dJ1_indexOfChar_4cfef_19 (by decide) (by decide) (by omega) (fun c_19 => ?_) (fun c_19 => ?_)
                · refine zt_iincv_5 (v := 8) dJ1_indexOfChar_4cfef_25 (by decide) rfl (by decide) ?_
                  refine zt_goto (tgt := 7) dJ1_indexOfChar_4cfef_28 (by decide) ?_
                  refine zt_iload dJ1_indexOfChar_4cfef_7 rfl ?_
                  refine zt_iload_n dJ1_indexOfChar_4cfef_9 rfl ?_
                  refine zt_icmp_ge (tgt := 31) dJ1_indexOfChar_4cfef_10 (by decide) (by decide) (by decide) (fun q => absurd q (by decide)) (fun c_10 => ?_)
                  refine zt_aload_n dJ1_indexOfChar_4cfef_13 rfl ?_
                  refine zt_iload dJ1_indexOfChar_4cfef_14 rfl ?_
                  refine zt_bS (v := 62) dJ1_indexOfChar_4cfef_16 hb (by decide) (by decide) (by decide) ?_
                  refine zt_iload dJ1_indexOfChar_4cfef_17 rfl ?_
                  refine zt_icmp_ne (tgt := 25) dJ1_indexOfChar_4cfef_19 (by decide) (by decide) (by omega) (fun c_19 => ?_) (fun c_19 => ?_)
                  · refine zt_iincv_5 (v := 9) dJ1_indexOfChar_4cfef_25 (by decide) rfl (by decide) ?_
                    refine zt_goto (tgt := 7) dJ1_indexOfChar_4cfef_28 (by decide) ?_
                    refine zt_iload dJ1_indexOfChar_4cfef_7 rfl ?_
                    refine zt_iload_n dJ1_indexOfChar_4cfef_9 rfl ?_
                    refine zt_icmp_ge (tgt := 31) dJ1_indexOfChar_4cfef_10 (by decide) (by decide) (by decide) (fun q => absurd q (by decide)) (fun c_10 => ?_)
                    refine zt_aload_n dJ1_indexOfChar_4cfef_13 rfl ?_
                    refine zt_iload dJ1_indexOfChar_4cfef_14 rfl ?_
                    refine zt_bS (v := 61) dJ1_indexOfChar_4cfef_16 hb (by decide) (by decide) (by decide) ?_
                    refine zt_iload dJ1_indexOfChar_4cfef_17 rfl ?_
                    refine zt_icmp_ne (tgt := 25) dJ1_indexOfChar_4cfef_19 (by decide) (by decide) (by omega) (fun c_19 => ?_) (fun c_19 => ?_)
                    · refine zt_iincv_5 (v := 10) dJ1_indexOfChar_4cfef_25 (by decide) rfl (by decide) ?_
                      refine zt_goto (tgt := 7) dJ1_indexOfChar_4cfef_28 (by decide) ?_
                      refine zt_iload dJ1_indexOfChar_4cfef_7 rfl ?_
                      refine zt_iload_n dJ1_indexOfChar_4cfef_9 rfl ?_
                      refine zt_icmp_ge (tgt := 31) dJ1_indexOfChar_4cfef_10 (by decide) (by decide) (by decide) (fun c_10 => ?_) (fun q => absurd q (by decide))
                      refine zt_iconst dJ1_indexOfChar_4cfef_31 ?_
                      exact zt_iret dJ1_indexOfChar_4cfef_32 ⟨by congr 2; unfold sgI; (repeat' split) <;> omega, rfl, rfl, rfl⟩
                    · refine zt_iload dJ1_indexOfChar_4cfef_22 rfl ?_
                      exact zt_iret dJ1_indexOfChar_4cfef_24 ⟨by congr 2; unfold sgI; (repeat' split) <;> omega, rfl, rfl, rfl⟩
                  · refine zt_iload dJ1_indexOfChar_4cfef_22 rfl ?_
                    exact zt_iret dJ1_indexOfChar_4cfef_24 ⟨by congr 2; unfold sgI; (repeat' split) <;> omega, rfl, rfl, rfl⟩
                · refine zt_iload dJ1_indexOfChar_4cfef_22 rfl ?_
                  exact zt_iret dJ1_indexOfChar_4cfef_24 ⟨by congr 2; unfold sgI; (repeat' split) <;> omega, rfl, rfl, rfl⟩
              · refine zt_iload dJ1_indexOfChar_4cfef_22 rfl ?_
                exact zt_iret dJ1_indexOfChar_4cfef_24 ⟨by congr 2; unfold sgI; (repeat' split) <;> omega, rfl, rfl, rfl⟩
            · refine zt_iload dJ1_indexOfChar_4cfef_22 rfl ?_
              exact zt_iret dJ1_indexOfChar_4cfef_24 ⟨by congr 2; unfold sgI; (repeat' split) <;> omega, rfl, rfl, rfl⟩
          · refine zt_iload dJ1_indexOfChar_4cfef_22 rfl ?_
            exact zt_iret dJ1_indexOfChar_4cfef_24 ⟨by congr 2; unfold sgI; (repeat' split) <;> omega, rfl, rfl, rfl⟩
        · refine zt_iload dJ1_indexOfChar_4cfef_22 rfl ?_
          exact zt_iret dJ1_indexOfChar_4cfef_24 ⟨by congr 2; unfold sgI; (repeat' split) <;> omega, rfl, rfl, rfl⟩
      · refine zt_iload dJ1_indexOfChar_4cfef_22 rfl ?_
        exact zt_iret dJ1_indexOfChar_4cfef_24 ⟨by congr 2; unfold sgI; (repeat' split) <;> omega, rfl, rfl, rfl⟩
    · refine zt_iload dJ1_indexOfChar_4cfef_22 rfl ?_
      exact zt_iret dJ1_indexOfChar_4cfef_24 ⟨by congr 2; unfold sgI; (repeat' split) <;> omega, rfl, rfl, rfl⟩
  · refine zt_iload dJ1_indexOfChar_4cfef_22 rfl ?_
    exact zt_iret dJ1_indexOfChar_4cfef_24 ⟨by congr 2; unfold sgI; (repeat' split) <;> omega, rfl, rfl, rfl⟩

set_option maxRecDepth 100000 in
set_option maxHeartbeats 4000000 in
theorem c_l1io {d n : Nat} {sh : zSh} {h : zMem} {b x : Int} (hb : zSc b 8) (hx : 0 ≤ x ∧ x ≤ 255) : zF yJ1_indexOf_4cfef cJ1_indexOf_4cfef 4 (some .int) (d + 1) 0 0 [(2, b - 1), (0, x), (0, 0), (0, 10)] n sh h (some (0, sgI x)) n sh h := by
  refine zF.ofTF (by decide +kernel) [some (2, b - 1), some (0, x), some (0, 0), some (0, 10)] rfl (Nat.le_of_ble_eq_true rfl) ?_
  refine zt_iload_n dJ1_indexOf_4cfef_0 rfl ?_
  refine zt_callS1r dJ1_indexOf_4cfef_1 ml_J1_88 (Nat.le_of_ble_eq_true rfl) (c_cen hx) ?_
  refine zt_if_ne (tgt := 9) dJ1_indexOf_4cfef_4 (by decide) (by decide) (fun c_4 => ?_) (fun q => absurd q (by decide))
  refine zt_iload_n dJ1_indexOf_4cfef_9 rfl ?_
  refine zt_iconst dJ1_indexOf_4cfef_10 ?_
  refine zt_callS2r dJ1_indexOf_4cfef_11 ml_J1_92 (Nat.le_of_ble_eq_true rfl) (c_max (x := 0) (y := 0) (by decide) (by decide)) ?_
  refine zt_istore_n_2 dJ1_indexOf_4cfef_14 (by decide) rfl ?_
  refine zt_iload_n dJ1_indexOf_4cfef_15 rfl ?_
  refine zt_aload_n dJ1_indexOf_4cfef_16 rfl ?_
  refine zt_alS (v := 10) dJ1_indexOf_4cfef_17 hb rfl ?_
  refine zt_callS2r dJ1_indexOf_4cfef_18 ml_J1_38 (Nat.le_of_ble_eq_true rfl) (c_min (x := 10) (y := 10) (by decide) (by decide)) ?_
  refine zt_istore_n_3 dJ1_indexOf_4cfef_21 (by decide) rfl ?_
  refine zt_iload_n dJ1_indexOf_4cfef_22 rfl ?_
  refine zt_iload_n dJ1_indexOf_4cfef_23 rfl ?_
  refine zt_icmp_lt (tgt := 29) dJ1_indexOf_4cfef_24 (by decide) (by decide) (by decide) (fun c_24 => ?_) (fun q => absurd q (by decide))
  refine zt_aload_n dJ1_indexOf_4cfef_29 rfl ?_
  refine zt_iload_n dJ1_indexOf_4cfef_30 rfl ?_
  refine zt_iload_n dJ1_indexOf_4cfef_31 rfl ?_
  refine zt_iload_n dJ1_indexOf_4cfef_32 rfl ?_
  refine zt_callS4r dJ1_indexOf_4cfef_33 ml_J1_95 (Nat.le_of_ble_eq_true rfl) (c_ioc hb hx) ?_
  exact zt_iret dJ1_indexOf_4cfef_36 ⟨rfl, rfl, rfl, rfl⟩

set_option maxRecDepth 100000 in
set_option maxHeartbeats 4000000 in
theorem c_sio2 {d n : Nat} {sh : zSh} {h : zMem} {b x : Int} (hb : zSc b 8) (hx : 0 ≤ x ∧ x ≤ 255) : zF yJ0_indexOf_7cf53 cJ0_indexOf_7cf53 3 (some .int) (d + 2) 0 0 [(2, b), (0, x), (0, 0)] n sh h (some (0, sgI x)) n sh h := by
  refine zF.ofTF (by decide +kernel) [some (2, b), some (0, x), some (0, 0)] rfl (Nat.le_of_ble_eq_true rfl) ?_
  refine zt_aload_n dJ0_indexOf_7cf53_0 rfl ?_
  refine zt_callVS0r dJ0_indexOf_7cf53_1 ml_J0_492 hb (Nat.le_of_ble_eq_true rfl) (c_sisl hb) ?_
  refine zt_if_eq (tgt := 23) dJ0_indexOf_7cf53_4 (by decide) (by decide) (fun q => absurd q (by decide)) (fun c_4 => ?_)
  refine zt_aload_n dJ0_indexOf_7cf53_7 rfl ?_
  refine zt_gfV dJ0_indexOf_7cf53_8 fl_J0_9 hb ?_
  refine zt_iload_n dJ0_indexOf_7cf53_11 rfl ?_
  refine zt_iload_n dJ0_indexOf_7cf53_12 rfl ?_
  refine zt_aload_n dJ0_indexOf_7cf53_13 rfl ?_
  refine zt_callVS0r dJ0_indexOf_7cf53_14 ml_J0_505 hb (Nat.le_of_ble_eq_true rfl) (c_slen hb) ?_
  refine zt_callS4r dJ0_indexOf_7cf53_17 ml_J0_637 (Nat.le_of_ble_eq_true rfl) (c_l1io hb hx) ?_
  refine zt_goto (tgt := 36) dJ0_indexOf_7cf53_20 (by decide) ?_
  exact zt_iret dJ0_indexOf_7cf53_36 ⟨rfl, rfl, rfl, rfl⟩

set_option maxRecDepth 100000 in
set_option maxHeartbeats 4000000 in
theorem c_sio {d n : Nat} {sh : zSh} {h : zMem} {b x : Int} (hb : zSc b 8) (hx : 0 ≤ x ∧ x ≤ 255) : zF yJ0_indexOf_0f7a4 cJ0_indexOf_0f7a4 2 (some .int) (d + 3) 0 0 [(2, b), (0, x)] n sh h (some (0, sgI x)) n sh h := by
  refine zF.ofTF (by decide +kernel) [some (2, b), some (0, x)] rfl (Nat.le_of_ble_eq_true rfl) ?_
  refine zt_aload_n dJ0_indexOf_0f7a4_0 rfl ?_
  refine zt_iload_n dJ0_indexOf_0f7a4_1 rfl ?_
  refine zt_iconst dJ0_indexOf_0f7a4_2 ?_
  refine zt_callVS2r dJ0_indexOf_0f7a4_3 ml_J0_633 hb (Nat.le_of_ble_eq_true rfl) (c_sio2 hb hx) ?_
  exact zt_iret dJ0_indexOf_0f7a4_6 ⟨rfl, rfl, rfl, rfl⟩
