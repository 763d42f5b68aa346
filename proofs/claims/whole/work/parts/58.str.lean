theorem sc_sh : ∀ i, i < 12 → bShr ((lenJ.getD i 0 : Nat) : Int) 0 = ((lenJ.getD i 0 : Nat) : Int) := by decide +kernel
theorem sc_chn : ∀ i, i < 12 → ∀ k, k < lenJ.getD i 0 → nbc (bAnd (chJ i ((k : Nat) : Int)) 255) = chJ i k ∧ narrow .char (vi (chJ i ((k : Nat) : Int))) = vi (chJ i k) ∧ 97 ≤ chJ i ((k : Nat) : Int) ∧ chJ i ((k : Nat) : Int) ≤ 122 := by decide +kernel
theorem sc_chz {i : Nat} (hi : i < 12) {z : Int} (h0 : 0 ≤ z) (h1 : z < ((lenJ.getD i 0 : Nat) : Int)) : nbc (bAnd (chJ i z) 255) = chJ i z ∧ narrow .char (vi (chJ i z)) = vi (chJ i z) ∧ 97 ≤ chJ i z ∧ chJ i z ≤ 122 := by
  have h := sc_chn i hi z.toNat (by omega)
  rwa [show ((z.toNat : Nat) : Int) = z by omega] at h
set_option maxRecDepth 100000 in
set_option maxHeartbeats 1000000 in
theorem c_J0_coder_7d493 {G : GX} {S : St} {i : Nat} (hi : i < 12) : Ev G mJ0_coder_7d493 [.ref (adK G i)] (mk G S) (some (vi 0)) (mk G (S)) := by
  refine Ev.enter (by decide +kernel) (Nat.le_of_ble_eq_true rfl) (L := [some (.ref (adK G i))]) rfl ?_
  refine p_gsCS wt2_229 dJ0_coder_7d493_0 ?_
  refine p_if_eq ⟨by omega, by omega⟩ 13 dJ0_coder_7d493_3 (by decide) (fun c3 => absurd c3 (by omega)) (fun c3 => ?_)
  refine p_aload0 dJ0_coder_7d493_6 ?_
  refine p_strC hi wt5_162 dJ0_coder_7d493_7 ?_
  refine p_goto 14 dJ0_coder_7d493_10 (by decide) ?_
  exact p_zret rfl (by decide +kernel) dJ0_coder_7d493_14 rfl rfl
set_option maxRecDepth 100000 in
set_option maxHeartbeats 1000000 in
theorem c_J0_isLatin1_aae02 {G : GX} {S : St} {i : Nat} (hi : i < 12) : Ev G mJ0_isLatin1_aae02 [.ref (adK G i)] (mk G S) (some (vi 1)) (mk G (S)) := by
  refine Ev.enter (by decide +kernel) (Nat.le_of_ble_eq_true rfl) (L := [some (.ref (adK G i))]) rfl ?_
  refine p_gsCS wt2_229 dJ0_isLatin1_aae02_0 ?_
  refine p_if_eq ⟨by omega, by omega⟩ 17 dJ0_isLatin1_aae02_3 (by decide) (fun c3 => absurd c3 (by omega)) (fun c3 => ?_)
  refine p_aload0 dJ0_isLatin1_aae02_6 ?_
  refine p_strC hi wt5_162 dJ0_isLatin1_aae02_7 ?_
  refine p_if_ne ⟨by omega, by omega⟩ 17 dJ0_isLatin1_aae02_10 (by decide) (fun c10 => absurd c10 (by omega)) (fun c10 => ?_)
  refine p_iconst dJ0_isLatin1_aae02_13 ?_
  refine p_goto 18 dJ0_isLatin1_aae02_14 (by decide) ?_
  exact p_zret rfl nz1 dJ0_isLatin1_aae02_18 rfl rfl
set_option maxRecDepth 100000 in
set_option maxHeartbeats 1000000 in
theorem c_J0_length_8abf5 {G : GX} {S : St} {i : Nat} (hi : i < 12) : Ev G mJ0_length_8abf5 [.ref (adK G i)] (mk G S) (some (vi ((lenJ.getD i 0 : Nat) : Int))) (mk G (S)) := by
  refine Ev.enter (by decide +kernel) (Nat.le_of_ble_eq_true rfl) (L := [some (.ref (adK G i))]) rfl ?_
  refine p_aload0 dJ0_length_8abf5_0 ?_
  refine p_strV hi wt5_161 dJ0_length_8abf5_1 ?_
  refine p_strL hi dJ0_length_8abf5_4 ?_
  refine p_aload0 dJ0_length_8abf5_5 ?_
  refine p_cK0r (M2 := mJ0_coder_7d493) hi ml_RJ0_335 mc_J0_coder_7d493 ⟨Nat.le_of_ble_eq_true rfl, Nat.le_of_ble_eq_true rfl⟩ rfl (Nat.le_of_ble_eq_true rfl) dJ0_length_8abf5_6 (c_J0_coder_7d493 hi) ?_
  refine p_ishr dJ0_length_8abf5_9 ?_
  exact p_iret rfl dJ0_length_8abf5_10 (congrArg (fun z => some (vi z)) (sc_sh i hi)) rfl
set_option maxRecDepth 100000 in
set_option maxHeartbeats 1000000 in
theorem c_J3_n {G : GX} {S : St} {a : Nat} {z k : Int} (h0 : 0 ≤ z) (h1 : z < k) (hk : k ≤ 100) : Ev G mJ3_checkIndex_8e157 [vi z, vi k, .null] (mk G S) (some (vi z)) (mk G (S)) := by
  refine Ev.enter (by decide +kernel) (Nat.le_of_ble_eq_true rfl) (L := [some (vi z), some (vi k), some (.null)]) rfl ?_
  refine p_iload0 dJ3_checkIndex_8e157_0 ?_
  refine p_if_lt ⟨by omega, by omega⟩ 9 dJ3_checkIndex_8e157_1 (by decide) (fun c1 => absurd c1 (by omega)) (fun c1 => ?_)
  refine p_iload0 dJ3_checkIndex_8e157_4 ?_
  refine p_iload1 dJ3_checkIndex_8e157_5 ?_
  refine p_icmp_lt ⟨by omega, by omega⟩ ⟨by omega, by omega⟩ 16 dJ3_checkIndex_8e157_6 (by decide) (fun c6 => ?_) (fun c6 => absurd c6 (by omega))
  refine p_iload0 dJ3_checkIndex_8e157_16 ?_
  exact p_iret rfl dJ3_checkIndex_8e157_17 rfl rfl
set_option maxRecDepth 100000 in
set_option maxHeartbeats 1000000 in
theorem c_J3_r {G : GX} {S : St} {a : Nat} {z k : Int} (h0 : 0 ≤ z) (h1 : z < k) (hk : k ≤ 100) : Ev G mJ3_checkIndex_8e157 [vi z, vi k, .ref a] (mk G S) (some (vi z)) (mk G (S)) := by
  refine Ev.enter (by decide +kernel) (Nat.le_of_ble_eq_true rfl) (L := [some (vi z), some (vi k), some (.ref a)]) rfl ?_
  refine p_iload0 dJ3_checkIndex_8e157_0 ?_
  refine p_if_lt ⟨by omega, by omega⟩ 9 dJ3_checkIndex_8e157_1 (by decide) (fun c1 => absurd c1 (by omega)) (fun c1 => ?_)
  refine p_iload0 dJ3_checkIndex_8e157_4 ?_
  refine p_iload1 dJ3_checkIndex_8e157_5 ?_
  refine p_icmp_lt ⟨by omega, by omega⟩ ⟨by omega, by omega⟩ 16 dJ3_checkIndex_8e157_6 (by decide) (fun c6 => ?_) (fun c6 => absurd c6 (by omega))
  refine p_iload0 dJ3_checkIndex_8e157_16 ?_
  exact p_iret rfl dJ3_checkIndex_8e157_17 rfl rfl
theorem c_J3 {G : GX} {S : St} {v : Value} (hv : v = .null ∨ ∃ a, v = .ref a) {z k : Int} (h0 : 0 ≤ z) (h1 : z < k) (hk : k ≤ 100) : Ev G mJ3_checkIndex_8e157 [vi z, vi k, v] (mk G S) (some (vi z)) (mk G S) := by
  rcases hv with rfl | ⟨a, rfl⟩
  · exact c_J3_n (a := 0) h0 h1 hk
  · exact c_J3_r h0 h1 hk
set_option maxRecDepth 100000 in
set_option maxHeartbeats 1000000 in
theorem c_J0_checkIndex_df160 {G : GX} {S : St} {z k : Int} (h0 : 0 ≤ z) (h1 : z < k) (hk : k ≤ 100) : Ev G mJ0_checkIndex_df160 [vi z, vi k] (mk G S) none (mk G (S)) := by
  refine Ev.enter (by decide +kernel) (Nat.le_of_ble_eq_true rfl) (L := [some (vi z), some (vi k)]) rfl ?_
  refine p_iload0 dJ0_checkIndex_df160_0 ?_
  refine p_iload1 dJ0_checkIndex_df160_1 ?_
  refine p_gsSF wt3_5 dJ0_checkIndex_df160_2 (fun v hv => ?_)
  refine p_cS3r (M2 := mJ3_checkIndex_8e157) ms_RJ0_1059 mc_J3_checkIndex_8e157 ⟨Nat.le_of_ble_eq_true rfl, Nat.le_of_ble_eq_true rfl⟩ (Nat.le_of_ble_eq_true rfl) dJ0_checkIndex_df160_5 (c_J3 hv h0 h1 hk) ?_
  refine p_pop rfl dJ0_checkIndex_df160_8 ?_
  exact p_vret rfl dJ0_checkIndex_df160_9 rfl rfl
set_option maxRecDepth 100000 in
set_option maxHeartbeats 1000000 in
theorem c_J1_charAt_3b067 {G : GX} {S : St} {i : Nat} (hi : i < 12) {z : Int} (h0 : 0 ≤ z) (h1 : z < ((lenJ.getD i 0 : Nat) : Int)) : Ev G mJ1_charAt_3b067 [.ref (adV G i), vi z] (mk G S) (some (vi (chJ i z))) (mk G (S)) := by
  have h7 := lenJ_lt i
  have hc := sc_chz hi h0 h1
  refine Ev.enter (by decide +kernel) (Nat.le_of_ble_eq_true rfl) (L := [some (.ref (adV G i)), some (vi z)]) rfl ?_
  refine p_iload1 dJ1_charAt_3b067_0 ?_
  refine p_aload0 dJ1_charAt_3b067_1 ?_
  refine p_strL hi dJ1_charAt_3b067_2 ?_
  refine p_cS2v (M2 := mJ0_checkIndex_df160) ms_RJ1_9 mc_J0_checkIndex_df160 ⟨Nat.le_of_ble_eq_true rfl, Nat.le_of_ble_eq_true rfl⟩ (Nat.le_of_ble_eq_true rfl) dJ1_charAt_3b067_3 (c_J0_checkIndex_df160 h0 h1 (by omega)) ?_
  refine p_aload0 dJ1_charAt_3b067_6 ?_
  refine p_iload1 dJ1_charAt_3b067_7 ?_
  refine p_strB hi (by omega) (by omega) dJ1_charAt_3b067_8 ?_
  refine p_sipush (by decide) (by decide) dJ1_charAt_3b067_9 ?_
  refine p_iand dJ1_charAt_3b067_12 ?_
  refine p_i2c dJ1_charAt_3b067_13 ?_
  rw [hc.1]
  exact p_zret rfl hc.2.1 dJ1_charAt_3b067_14 rfl rfl
set_option maxRecDepth 100000 in
set_option maxHeartbeats 1000000 in
theorem c_J0_charAt_5068e {G : GX} {S : St} {i : Nat} (hi : i < 12) {z : Int} (h0 : 0 ≤ z) (h1 : z < ((lenJ.getD i 0 : Nat) : Int)) : Ev G mJ0_charAt_5068e [.ref (adK G i), vi z] (mk G S) (some (vi (chJ i z))) (mk G (S)) := by
  have hc := sc_chz hi h0 h1
  refine Ev.enter (by decide +kernel) (Nat.le_of_ble_eq_true rfl) (L := [some (.ref (adK G i)), some (vi z)]) rfl ?_
  refine p_aload0 dJ0_charAt_5068e_0 ?_
  refine p_cK0r (M2 := mJ0_isLatin1_aae02) hi ml_RJ0_492 mc_J0_isLatin1_aae02 ⟨Nat.le_of_ble_eq_true rfl, Nat.le_of_ble_eq_true rfl⟩ rfl (Nat.le_of_ble_eq_true rfl) dJ0_charAt_5068e_1 (c_J0_isLatin1_aae02 hi) ?_
  refine p_if_eq ⟨by omega, by omega⟩ 16 dJ0_charAt_5068e_4 (by decide) (fun c4 => absurd c4 (by omega)) (fun c4 => ?_)
  refine p_aload0 dJ0_charAt_5068e_7 ?_
  refine p_strV hi wt5_161 dJ0_charAt_5068e_8 ?_
  refine p_iload1 dJ0_charAt_5068e_11 ?_
  refine p_cS2r (M2 := mJ1_charAt_3b067) ms_RJ0_495 mc_J1_charAt_3b067 ⟨Nat.le_of_ble_eq_true rfl, Nat.le_of_ble_eq_true rfl⟩ (Nat.le_of_ble_eq_true rfl) dJ0_charAt_5068e_12 (c_J1_charAt_3b067 hi h0 h1) ?_
  exact p_zret rfl hc.2.1 dJ0_charAt_5068e_15 rfl rfl
