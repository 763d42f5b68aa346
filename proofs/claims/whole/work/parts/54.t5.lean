theorem Zt_9 (S : St) (k x y l : Int) (p : P5) : Zt S k x y l p = va_up (va_up S 14 (mp k x y l p.2.1 p.2.2.1 p.2.2.2.1 p.2.2.2.2)) 9 p.1 := vup_swap S (by decide : (9 : Nat) ≠ 14) p.1 _
theorem c_adds5 {G : GX} {S : St} {k x y l : Int} {p : P5} {b kd : Int} (hI : IR b p.1) (hr : p.1 0 < 8) : Ev G mX5_adds [rf G 31, vi kd] (mk G (Zt S k x y l p)) (some (vi (p.1 0))) (mk G (Zt S k x y l (asR p.1 kd 20, p.2))) := by
  rw [Zt_9, Zt_9]
  exact c_X5_adds hI hr
theorem c_addsMan5 {G : GX} {S : St} {k x y l : Int} {p : P5} {b g : Int} (hI : IR b p.1) (hr : p.1 1 < 6) : Ev G mX5_addsMan [rf G 31, vi g] (mk G (Zt S k x y l p)) (some (vi (p.1 1))) (mk G (Zt S k x y l (amR p.1 g 0, p.2))) := by
  rw [Zt_9, Zt_9]
  exact c_X5_addsMan hI hr
set_option maxRecDepth 100000 in
set_option maxHeartbeats 1000000 in
theorem c_X5_sheepItem {G : GX} {S : St} {k x y l : Int} {p : P5} (hl : 0 ≤ l ∧ l ≤ 120) (hy : ∀ i, 0 ≤ i → i < 120 → 0 ≤ S 15 i ∧ S 15 i ≤ 255) (hp : wfp (S 15) l p) {b : Int} (hI : IR b p.1) {kd : Int} : Ev G mX5_sheepItem [rf G 31, vi kd] (mk G (Zt S k x y l p)) none (mk G (Zt S k x y l (sheepS (S 15) l kd p))) := by
  have i0 := hI.1
  refine Ev.enter (by decide +kernel) (Nat.le_of_ble_eq_true rfl) (L := [some (rf G 31), some (vi kd), none]) rfl ?_
  refine p_oload0 dX5_sheepItem_0 ?_
  refine p_oload0 dX5_sheepItem_1 ?_
  refine p_get fl_RX5_7 gm_s dX5_sheepItem_2 ?_
  refine p_iconst dX5_sheepItem_5 ?_
  refine p_iald z_s (by omega) (by omega) dX5_sheepItem_6 ?_
  refine p_bipush (by decide) (by decide) dX5_sheepItem_7 ?_
  refine p_icmp_ge ⟨by omega, by omega⟩ ⟨by omega, by omega⟩ 16 dX5_sheepItem_9 (by decide) (fun c9 => ?_) (fun c9 => ?_)
  · unfold sheepS
    rw [show (if p.1 0 < 8 then (1 : Int) else 0) = 0 from if_neg (by omega)]
    have hm := wfp_must (v := 0) hp; have hm2 := hm.2
    have e1 := must_1 (S 15) l 0 p
    refine p_iconst dX5_sheepItem_16 ?_
    refine p_cV1v (M2 := mX5_must) ml_RX5_236 mc_X5_must ⟨Nat.le_of_ble_eq_true rfl, Nat.le_of_ble_eq_true rfl⟩ (isO_m _ _) (Nat.le_of_ble_eq_true rfl) dX5_sheepItem_17 (c_must5 hl hy hp (by omega)) ?_
    refine p_oload0 dX5_sheepItem_20 ?_
    refine p_get fl_RX5_222 z_isWrong dX5_sheepItem_21 ?_
    refine p_if_ne ⟨by omega, by omega⟩ 47 dX5_sheepItem_24 (by decide) (fun c24 => ?_) (fun c24 => ?_)
    · rw [if_neg (by omega)]
      exact p_vret rfl dX5_sheepItem_47 rfl rfl
    · have hI2 := hI
      rw [← e1] at hI2
      have hr2 : (mustS (S 15) l 0 p).1 0 < 8 := by rw [must_1]; have := (must_w c24).2; omega
      rw [if_pos c24, ← e1]
      have hp3 : wfp (S 15) l (asR (mustS (S 15) l 0 p).1 kd 20, (mustS (S 15) l 0 p).2) := hm
      have i9 := hI2.1
      refine p_oload0 dX5_sheepItem_27 ?_
      refine p_iload1 dX5_sheepItem_28 ?_
      refine p_cV1r (M2 := mX5_adds) ml_RX5_84 mc_X5_adds ⟨Nat.le_of_ble_eq_true rfl, Nat.le_of_ble_eq_true rfl⟩ (isO_m _ _) (Nat.le_of_ble_eq_true rfl) dX5_sheepItem_29 (c_adds5 hI2 hr2) ?_
      refine p_istore2 rfl (Nat.le_of_ble_eq_true rfl) dX5_sheepItem_32 ?_
      refine p_oload0 dX5_sheepItem_33 ?_
      refine p_ldc2 wc_RX5_259 dX5_sheepItem_34 ?_
      refine p_iload2 dX5_sheepItem_37 ?_
      refine p_iconst dX5_sheepItem_38 ?_
      refine p_cS2r (M2 := mX5_spotOf) ms_RX5_54 mc_X5_spotOf ⟨Nat.le_of_ble_eq_true rfl, Nat.le_of_ble_eq_true rfl⟩ (Nat.le_of_ble_eq_true rfl) dX5_sheepItem_39 (c_X5_spotOf1) ?_
      refine p_bipush (by decide) (by decide) dX5_sheepItem_42 ?_
      refine p_cV3v (M2 := mX5_partItem) ml_RX5_261 mc_X5_partItem ⟨Nat.le_of_ble_eq_true rfl, Nat.le_of_ble_eq_true rfl⟩ (isO_m _ _) (Nat.le_of_ble_eq_true rfl) dX5_sheepItem_44 (c_X5_partItem hl hy hp3 (by omega) (by omega)) ?_
      exact p_vret rfl dX5_sheepItem_47 rfl rfl
  · unfold sheepS
    rw [show (if p.1 0 < 8 then (1 : Int) else 0) = 1 from if_pos (by omega)]
    have hm := wfp_must (v := 1) hp; have hm2 := hm.2
    have e1 := must_1 (S 15) l 1 p
    refine p_iconst dX5_sheepItem_12 ?_
    refine p_goto 17 dX5_sheepItem_13 (by decide) ?_
    refine p_cV1v (M2 := mX5_must) ml_RX5_236 mc_X5_must ⟨Nat.le_of_ble_eq_true rfl, Nat.le_of_ble_eq_true rfl⟩ (isO_m _ _) (Nat.le_of_ble_eq_true rfl) dX5_sheepItem_17 (c_must5 hl hy hp (by omega)) ?_
    refine p_oload0 dX5_sheepItem_20 ?_
    refine p_get fl_RX5_222 z_isWrong dX5_sheepItem_21 ?_
    refine p_if_ne ⟨by omega, by omega⟩ 47 dX5_sheepItem_24 (by decide) (fun c24 => ?_) (fun c24 => ?_)
    · rw [if_neg (by omega)]
      exact p_vret rfl dX5_sheepItem_47 rfl rfl
    · have hI2 := hI
      rw [← e1] at hI2
      have hr2 : (mustS (S 15) l 1 p).1 0 < 8 := by rw [must_1]; have := (must_w c24).2; omega
      rw [if_pos c24, ← e1]
      have hp3 : wfp (S 15) l (asR (mustS (S 15) l 1 p).1 kd 20, (mustS (S 15) l 1 p).2) := hm
      have i9 := hI2.1
      refine p_oload0 dX5_sheepItem_27 ?_
      refine p_iload1 dX5_sheepItem_28 ?_
      refine p_cV1r (M2 := mX5_adds) ml_RX5_84 mc_X5_adds ⟨Nat.le_of_ble_eq_true rfl, Nat.le_of_ble_eq_true rfl⟩ (isO_m _ _) (Nat.le_of_ble_eq_true rfl) dX5_sheepItem_29 (c_adds5 hI2 hr2) ?_
      refine p_istore2 rfl (Nat.le_of_ble_eq_true rfl) dX5_sheepItem_32 ?_
      refine p_oload0 dX5_sheepItem_33 ?_
      refine p_ldc2 wc_RX5_259 dX5_sheepItem_34 ?_
      refine p_iload2 dX5_sheepItem_37 ?_
      refine p_iconst dX5_sheepItem_38 ?_
      refine p_cS2r (M2 := mX5_spotOf) ms_RX5_54 mc_X5_spotOf ⟨Nat.le_of_ble_eq_true rfl, Nat.le_of_ble_eq_true rfl⟩ (Nat.le_of_ble_eq_true rfl) dX5_sheepItem_39 (c_X5_spotOf1) ?_
      refine p_bipush (by decide) (by decide) dX5_sheepItem_42 ?_
      refine p_cV3v (M2 := mX5_partItem) ml_RX5_261 mc_X5_partItem ⟨Nat.le_of_ble_eq_true rfl, Nat.le_of_ble_eq_true rfl⟩ (isO_m _ _) (Nat.le_of_ble_eq_true rfl) dX5_sheepItem_44 (c_X5_partItem hl hy hp3 (by omega) (by omega)) ?_
      exact p_vret rfl dX5_sheepItem_47 rfl rfl
set_option maxRecDepth 100000 in
set_option maxHeartbeats 1000000 in
theorem c_X5_bitHere {G : GX} {S : St} {k x y l : Int} {p : P5} (hl : 0 ≤ l ∧ l ≤ 120) (hy : ∀ i, 0 ≤ i → i < 120 → 0 ≤ S 15 i ∧ S 15 i ≤ 255) (hp : wfp (S 15) l p) {c v : Int} (hc : 0 < c ∧ c ≤ 1152921504606846970) : Ev G mX5_bitHere [rf G 31, vl c, vi v] (mk G (Zt S k x y l p)) (some (vi (bitV (S 15) l c v p))) (mk G (Zt S k x y l (bitS (S 15) l c p))) := by
  have hz := wzS_le hp
  have hp2 := hp.2
  refine Ev.enter (by decide +kernel) (Nat.le_of_ble_eq_true rfl) (L := [some (rf G 31), some (vl c), none, some (vi v), none]) rfl ?_
  refine p_oload0 dX5_bitHere_0 ?_
  refine p_get fl_RX5_222 z_isWrong dX5_bitHere_1 ?_
  refine p_if_ne ⟨by omega, by omega⟩ 20 dX5_bitHere_4 (by decide) (fun c4 => ?_) (fun c4 => ?_)
  · have hq : ¬ wzS (S 15) l p = c := fun z => c4 (wzS_w hc.1 z)
    unfold bitV bitS
    rw [if_neg hq, if_neg hq]
    refine p_iconst dX5_bitHere_20 ?_
    refine p_istore4 rfl (Nat.le_of_ble_eq_true rfl) dX5_bitHere_21 ?_
    refine p_iload4 dX5_bitHere_23 ?_
    refine p_if_eq ⟨by omega, by omega⟩ 33 dX5_bitHere_25 (by decide) (fun c25 => ?_) (fun c25 => ?_)
    · refine p_iload4 dX5_bitHere_33 ?_
      refine p_if_eq ⟨by omega, by omega⟩ 42 dX5_bitHere_35 (by decide) (fun c35 => ?_) (fun c35 => ?_)
      · refine p_iconst dX5_bitHere_42 ?_
        exact p_iret rfl dX5_bitHere_43 rfl rfl
      · refine p_iload3 dX5_bitHere_38 ?_
        refine p_goto 43 dX5_bitHere_39 (by decide) ?_
        (exfalso; omega)
    · refine p_oload0 dX5_bitHere_28 ?_
      refine p_iconst dX5_bitHere_29 ?_
      refine p_cV1v (M2 := mX5_must) ml_RX5_236 mc_X5_must ⟨Nat.le_of_ble_eq_true rfl, Nat.le_of_ble_eq_true rfl⟩ (isO_m _ _) (Nat.le_of_ble_eq_true rfl) dX5_bitHere_30 (c_must5 hl hy hp (Or.inr rfl)) ?_
      refine p_iload4 dX5_bitHere_33 ?_
      refine p_if_eq ⟨by omega, by omega⟩ 42 dX5_bitHere_35 (by decide) (fun c35 => ?_) (fun c35 => ?_)
      · refine p_iconst dX5_bitHere_42 ?_
        (exfalso; omega)
      · refine p_iload3 dX5_bitHere_38 ?_
        refine p_goto 43 dX5_bitHere_39 (by decide) ?_
        (exfalso; omega)
  · refine p_oload0 dX5_bitHere_7 ?_
    refine p_cV0r (M2 := mX5_word) ml_RX5_240 mc_X5_word ⟨Nat.le_of_ble_eq_true rfl, Nat.le_of_ble_eq_true rfl⟩ (isO_m _ _) (Nat.le_of_ble_eq_true rfl) dX5_bitHere_8 (c_word5 hl hy hp) ?_
    refine p_lload1 dX5_bitHere_11 ?_
    refine p_lc_ne ⟨by omega, by omega⟩ ⟨by omega, by omega⟩ 20 dX5_bitHere_12 dX5_bitHere_13 (by decide) (fun c12 => ?_) (fun c12 => ?_)
    · unfold bitV bitS
      rw [if_neg c12, if_neg c12]
      refine p_iconst dX5_bitHere_20 ?_
      refine p_istore4 rfl (Nat.le_of_ble_eq_true rfl) dX5_bitHere_21 ?_
      refine p_iload4 dX5_bitHere_23 ?_
      refine p_if_eq ⟨by omega, by omega⟩ 33 dX5_bitHere_25 (by decide) (fun c25 => ?_) (fun c25 => ?_)
      · refine p_iload4 dX5_bitHere_33 ?_
        refine p_if_eq ⟨by omega, by omega⟩ 42 dX5_bitHere_35 (by decide) (fun c35 => ?_) (fun c35 => ?_)
        · refine p_iconst dX5_bitHere_42 ?_
          exact p_iret rfl dX5_bitHere_43 rfl rfl
        · refine p_iload3 dX5_bitHere_38 ?_
          refine p_goto 43 dX5_bitHere_39 (by decide) ?_
          (exfalso; omega)
      · refine p_oload0 dX5_bitHere_28 ?_
        refine p_iconst dX5_bitHere_29 ?_
        refine p_cV1v (M2 := mX5_must) ml_RX5_236 mc_X5_must ⟨Nat.le_of_ble_eq_true rfl, Nat.le_of_ble_eq_true rfl⟩ (isO_m _ _) (Nat.le_of_ble_eq_true rfl) dX5_bitHere_30 (c_must5 hl hy hp (Or.inr rfl)) ?_
        refine p_iload4 dX5_bitHere_33 ?_
        refine p_if_eq ⟨by omega, by omega⟩ 42 dX5_bitHere_35 (by decide) (fun c35 => ?_) (fun c35 => ?_)
        · refine p_iconst dX5_bitHere_42 ?_
          (exfalso; omega)
        · refine p_iload3 dX5_bitHere_38 ?_
          refine p_goto 43 dX5_bitHere_39 (by decide) ?_
          (exfalso; omega)
    · have c13 : wzS (S 15) l p = c := by omega
      unfold bitV bitS
      rw [if_pos c13, if_pos c13]
      refine p_iconst dX5_bitHere_16 ?_
      refine p_goto 21 dX5_bitHere_17 (by decide) ?_
      refine p_istore4 rfl (Nat.le_of_ble_eq_true rfl) dX5_bitHere_21 ?_
      refine p_iload4 dX5_bitHere_23 ?_
      refine p_if_eq ⟨by omega, by omega⟩ 33 dX5_bitHere_25 (by decide) (fun c25 => ?_) (fun c25 => ?_)
      · refine p_iload4 dX5_bitHere_33 ?_
        refine p_if_eq ⟨by omega, by omega⟩ 42 dX5_bitHere_35 (by decide) (fun c35 => ?_) (fun c35 => ?_)
        · refine p_iconst dX5_bitHere_42 ?_
          (exfalso; omega)
        · refine p_iload3 dX5_bitHere_38 ?_
          refine p_goto 43 dX5_bitHere_39 (by decide) ?_
          (exfalso; omega)
      · refine p_oload0 dX5_bitHere_28 ?_
        refine p_iconst dX5_bitHere_29 ?_
        refine p_cV1v (M2 := mX5_must) ml_RX5_236 mc_X5_must ⟨Nat.le_of_ble_eq_true rfl, Nat.le_of_ble_eq_true rfl⟩ (isO_m _ _) (Nat.le_of_ble_eq_true rfl) dX5_bitHere_30 (c_must5 hl hy hp (Or.inr rfl)) ?_
        refine p_iload4 dX5_bitHere_33 ?_
        refine p_if_eq ⟨by omega, by omega⟩ 42 dX5_bitHere_35 (by decide) (fun c35 => ?_) (fun c35 => ?_)
        · refine p_iconst dX5_bitHere_42 ?_
          (exfalso; omega)
        · refine p_iload3 dX5_bitHere_38 ?_
          refine p_goto 43 dX5_bitHere_39 (by decide) ?_
          exact p_iret rfl dX5_bitHere_43 rfl rfl
set_option maxRecDepth 100000 in
set_option maxHeartbeats 1000000 in
theorem c_X5_manItem {G : GX} {S : St} {k x y l : Int} {p : P5} (hl : 0 ≤ l ∧ l ≤ 120) (hy : ∀ i, 0 ≤ i → i < 120 → 0 ≤ S 15 i ∧ S 15 i ≤ 255) (hp : wfp (S 15) l p) {b : Int} (hI : IR b p.1) : Ev G mX5_manItem [rf G 31] (mk G (Zt S k x y l p)) none (mk G (Zt S k x y l (manS (S 15) l p))) := by
  have i1 := hI.2.1
  have hm0 : wfp (S 15) l (man0 (S 15) l p) := wfp_must hp
  have hm1 : wfp (S 15) l (man1 (S 15) l p) := wfp_bit hm0
  have hm2 : wfp (S 15) l (man2 (S 15) l p) := wfp_bit hm1
  have hm3 : wfp (S 15) l (man3 (S 15) l p) := wfp_bit hm2
  have hw3 := hm3.2
  have e3 := man3_1 (S 15) l p
  refine Ev.enter (by decide +kernel) (Nat.le_of_ble_eq_true rfl) (L := [some (rf G 31), none, none]) rfl ?_
  refine p_oload0 dX5_manItem_0 ?_
  refine p_oload0 dX5_manItem_1 ?_
  refine p_get fl_RX5_7 gm_s dX5_manItem_2 ?_
  refine p_iconst dX5_manItem_5 ?_
  refine p_iald z_s (by omega) (by omega) dX5_manItem_6 ?_
  refine p_bipush (by decide) (by decide) dX5_manItem_7 ?_
  refine p_icmp_ge ⟨by omega, by omega⟩ ⟨by omega, by omega⟩ 16 dX5_manItem_9 (by decide) (fun c9 => ?_) (fun c9 => ?_)
  · refine p_iconst dX5_manItem_16 ?_
    refine p_cV1v (M2 := mX5_must) ml_RX5_236 mc_X5_must ⟨Nat.le_of_ble_eq_true rfl, Nat.le_of_ble_eq_true rfl⟩ (isO_m _ _) (Nat.le_of_ble_eq_true rfl) dX5_manItem_17 (c_must5 hl hy hp (by omega)) ?_
    rw [show mustS (S 15) l 0 p = man0 (S 15) l p from by unfold man0; rw [if_neg (by omega)]]
    refine p_oload0 dX5_manItem_20 ?_
    refine p_ldc2 wc_RX5_265 dX5_manItem_21 ?_
    refine p_iconst dX5_manItem_24 ?_
    refine p_cV2r (M2 := mX5_bitHere) ml_RX5_267 mc_X5_bitHere ⟨Nat.le_of_ble_eq_true rfl, Nat.le_of_ble_eq_true rfl⟩ (isO_m _ _) (Nat.le_of_ble_eq_true rfl) dX5_manItem_25 (c_X5_bitHere hl hy hm0 (by omega)) ?_
    refine p_istore1 rfl (Nat.le_of_ble_eq_true rfl) dX5_manItem_28 ?_
    rw [show bitS (S 15) l 4583 (man0 (S 15) l p) = man1 (S 15) l p from rfl]
    refine p_iload1 dX5_manItem_29 ?_
    refine p_oload0 dX5_manItem_30 ?_
    refine p_ldc2 wc_RX5_271 dX5_manItem_31 ?_
    refine p_iconst dX5_manItem_34 ?_
    refine p_cV2r (M2 := mX5_bitHere) ml_RX5_267 mc_X5_bitHere ⟨Nat.le_of_ble_eq_true rfl, Nat.le_of_ble_eq_true rfl⟩ (isO_m _ _) (Nat.le_of_ble_eq_true rfl) dX5_manItem_35 (c_X5_bitHere hl hy hm1 (by omega)) ?_
    rw [show bitS (S 15) l 20587627 (man1 (S 15) l p) = man2 (S 15) l p from rfl]
    refine p_ior dX5_manItem_38 ?_
    refine p_istore1 rfl (Nat.le_of_ble_eq_true rfl) dX5_manItem_39 ?_
    refine p_iload1 dX5_manItem_40 ?_
    refine p_oload0 dX5_manItem_41 ?_
    refine p_ldc2 wc_RX5_273 dX5_manItem_42 ?_
    refine p_iconst dX5_manItem_45 ?_
    refine p_cV2r (M2 := mX5_bitHere) ml_RX5_267 mc_X5_bitHere ⟨Nat.le_of_ble_eq_true rfl, Nat.le_of_ble_eq_true rfl⟩ (isO_m _ _) (Nat.le_of_ble_eq_true rfl) dX5_manItem_46 (c_X5_bitHere hl hy hm2 (by omega)) ?_
    rw [show bitS (S 15) l 402864 (man2 (S 15) l p) = man3 (S 15) l p from rfl]
    refine p_ior dX5_manItem_49 ?_
    refine p_istore1 rfl (Nat.le_of_ble_eq_true rfl) dX5_manItem_50 ?_
    refine p_oload0 dX5_manItem_51 ?_
    refine p_get fl_RX5_222 z_isWrong dX5_manItem_52 ?_
    refine p_if_ne ⟨by omega, by omega⟩ 78 dX5_manItem_55 (by decide) (fun c55 => ?_) (fun c55 => ?_)
    · rw [show manS (S 15) l p = man3 (S 15) l p from if_neg (by omega)]
      exact p_vret rfl dX5_manItem_78 rfl rfl
    · have hr2 := man3_w c55
      have hI2 := hI
      rw [← e3] at hI2 hr2
      have i9 := hI2.2.1
      rw [show manS (S 15) l p = partS (S 15) l 769614 (6 + 2 * (man3 (S 15) l p).1 1) (amR (man3 (S 15) l p).1 (manG (S 15) l p) 0, (man3 (S 15) l p).2) from by unfold manS; rw [if_pos c55, e3]]
      have hp3 : wfp (S 15) l (amR (man3 (S 15) l p).1 (manG (S 15) l p) 0, (man3 (S 15) l p).2) := hm3
      refine p_oload0 dX5_manItem_58 ?_
      refine p_iload1 dX5_manItem_59 ?_
      refine p_cV1r (M2 := mX5_addsMan) ml_RX5_66 mc_X5_addsMan ⟨Nat.le_of_ble_eq_true rfl, Nat.le_of_ble_eq_true rfl⟩ (isO_m _ _) (Nat.le_of_ble_eq_true rfl) dX5_manItem_60 (c_addsMan5 hI2 hr2) ?_
      refine p_istore2 rfl (Nat.le_of_ble_eq_true rfl) dX5_manItem_63 ?_
      refine p_oload0 dX5_manItem_64 ?_
      refine p_ldc2 wc_RX5_275 dX5_manItem_65 ?_
      refine p_iload2 dX5_manItem_68 ?_
      refine p_iconst dX5_manItem_69 ?_
      refine p_cS2r (M2 := mX5_placeOf) ms_RX5_50 mc_X5_placeOf ⟨Nat.le_of_ble_eq_true rfl, Nat.le_of_ble_eq_true rfl⟩ (Nat.le_of_ble_eq_true rfl) dX5_manItem_70 (c_X5_placeOf1) ?_
      refine p_bipush (by decide) (by decide) dX5_manItem_73 ?_
      refine p_cV3v (M2 := mX5_partItem) ml_RX5_261 mc_X5_partItem ⟨Nat.le_of_ble_eq_true rfl, Nat.le_of_ble_eq_true rfl⟩ (isO_m _ _) (Nat.le_of_ble_eq_true rfl) dX5_manItem_75 (c_X5_partItem hl hy hp3 (by omega) (by omega)) ?_
      exact p_vret rfl dX5_manItem_78 rfl rfl
  · refine p_iconst dX5_manItem_12 ?_
    refine p_goto 17 dX5_manItem_13 (by decide) ?_
    refine p_cV1v (M2 := mX5_must) ml_RX5_236 mc_X5_must ⟨Nat.le_of_ble_eq_true rfl, Nat.le_of_ble_eq_true rfl⟩ (isO_m _ _) (Nat.le_of_ble_eq_true rfl) dX5_manItem_17 (c_must5 hl hy hp (by omega)) ?_
    rw [show mustS (S 15) l 1 p = man0 (S 15) l p from by unfold man0; rw [if_pos (by omega)]]
    refine p_oload0 dX5_manItem_20 ?_
    refine p_ldc2 wc_RX5_265 dX5_manItem_21 ?_
    refine p_iconst dX5_manItem_24 ?_
    refine p_cV2r (M2 := mX5_bitHere) ml_RX5_267 mc_X5_bitHere ⟨Nat.le_of_ble_eq_true rfl, Nat.le_of_ble_eq_true rfl⟩ (isO_m _ _) (Nat.le_of_ble_eq_true rfl) dX5_manItem_25 (c_X5_bitHere hl hy hm0 (by omega)) ?_
    refine p_istore1 rfl (Nat.le_of_ble_eq_true rfl) dX5_manItem_28 ?_
    rw [show bitS (S 15) l 4583 (man0 (S 15) l p) = man1 (S 15) l p from rfl]
    refine p_iload1 dX5_manItem_29 ?_
    refine p_oload0 dX5_manItem_30 ?_
    refine p_ldc2 wc_RX5_271 dX5_manItem_31 ?_
    refine p_iconst dX5_manItem_34 ?_
    refine p_cV2r (M2 := mX5_bitHere) ml_RX5_267 mc_X5_bitHere ⟨Nat.le_of_ble_eq_true rfl, Nat.le_of_ble_eq_true rfl⟩ (isO_m _ _) (Nat.le_of_ble_eq_true rfl) dX5_manItem_35 (c_X5_bitHere hl hy hm1 (by omega)) ?_
    rw [show bitS (S 15) l 20587627 (man1 (S 15) l p) = man2 (S 15) l p from rfl]
    refine p_ior dX5_manItem_38 ?_
    refine p_istore1 rfl (Nat.le_of_ble_eq_true rfl) dX5_manItem_39 ?_
    refine p_iload1 dX5_manItem_40 ?_
    refine p_oload0 dX5_manItem_41 ?_
    refine p_ldc2 wc_RX5_273 dX5_manItem_42 ?_
    refine p_iconst dX5_manItem_45 ?_
    refine p_cV2r (M2 := mX5_bitHere) ml_RX5_267 mc_X5_bitHere ⟨Nat.le_of_ble_eq_true rfl, Nat.le_of_ble_eq_true rfl⟩ (isO_m _ _) (Nat.le_of_ble_eq_true rfl) dX5_manItem_46 (c_X5_bitHere hl hy hm2 (by omega)) ?_
    rw [show bitS (S 15) l 402864 (man2 (S 15) l p) = man3 (S 15) l p from rfl]
    refine p_ior dX5_manItem_49 ?_
    refine p_istore1 rfl (Nat.le_of_ble_eq_true rfl) dX5_manItem_50 ?_
    refine p_oload0 dX5_manItem_51 ?_
    refine p_get fl_RX5_222 z_isWrong dX5_manItem_52 ?_
    refine p_if_ne ⟨by omega, by omega⟩ 78 dX5_manItem_55 (by decide) (fun c55 => ?_) (fun c55 => ?_)
    · rw [show manS (S 15) l p = man3 (S 15) l p from if_neg (by omega)]
      exact p_vret rfl dX5_manItem_78 rfl rfl
    · have hr2 := man3_w c55
      have hI2 := hI
      rw [← e3] at hI2 hr2
      have i9 := hI2.2.1
      rw [show manS (S 15) l p = partS (S 15) l 769614 (6 + 2 * (man3 (S 15) l p).1 1) (amR (man3 (S 15) l p).1 (manG (S 15) l p) 0, (man3 (S 15) l p).2) from by unfold manS; rw [if_pos c55, e3]]
      have hp3 : wfp (S 15) l (amR (man3 (S 15) l p).1 (manG (S 15) l p) 0, (man3 (S 15) l p).2) := hm3
      refine p_oload0 dX5_manItem_58 ?_
      refine p_iload1 dX5_manItem_59 ?_
      refine p_cV1r (M2 := mX5_addsMan) ml_RX5_66 mc_X5_addsMan ⟨Nat.le_of_ble_eq_true rfl, Nat.le_of_ble_eq_true rfl⟩ (isO_m _ _) (Nat.le_of_ble_eq_true rfl) dX5_manItem_60 (c_addsMan5 hI2 hr2) ?_
      refine p_istore2 rfl (Nat.le_of_ble_eq_true rfl) dX5_manItem_63 ?_
      refine p_oload0 dX5_manItem_64 ?_
      refine p_ldc2 wc_RX5_275 dX5_manItem_65 ?_
      refine p_iload2 dX5_manItem_68 ?_
      refine p_iconst dX5_manItem_69 ?_
      refine p_cS2r (M2 := mX5_placeOf) ms_RX5_50 mc_X5_placeOf ⟨Nat.le_of_ble_eq_true rfl, Nat.le_of_ble_eq_true rfl⟩ (Nat.le_of_ble_eq_true rfl) dX5_manItem_70 (c_X5_placeOf1) ?_
      refine p_bipush (by decide) (by decide) dX5_manItem_73 ?_
      refine p_cV3v (M2 := mX5_partItem) ml_RX5_261 mc_X5_partItem ⟨Nat.le_of_ble_eq_true rfl, Nat.le_of_ble_eq_true rfl⟩ (isO_m _ _) (Nat.le_of_ble_eq_true rfl) dX5_manItem_75 (c_X5_partItem hl hy hp3 (by omega) (by omega)) ?_
      exact p_vret rfl dX5_manItem_78 rfl rfl
set_option maxRecDepth 100000 in
set_option maxHeartbeats 1000000 in
theorem c_X5_item {G : GX} {S : St} {k x y l : Int} {p : P5} (hl : 0 ≤ l ∧ l ≤ 120) (hy : ∀ i, 0 ≤ i → i < 120 → 0 ≤ S 15 i ∧ S 15 i ≤ 255) (hp : wfp (S 15) l p) {b : Int} (hI : IR b p.1) : Ev G mX5_item [rf G 31] (mk G (Zt S k x y l p)) none (mk G (Zt S k x y l (itemS (S 15) l p))) := by
  have hz := wzS_le hp
  have hk := kn_le (wzS (S 15) l p)
  refine Ev.enter (by decide +kernel) (Nat.le_of_ble_eq_true rfl) (L := [some (rf G 31), none]) rfl ?_
  refine p_oload0 dX5_item_0 ?_
  refine p_cV0r (M2 := mX5_kindHere) ml_RX5_277 mc_X5_kindHere ⟨Nat.le_of_ble_eq_true rfl, Nat.le_of_ble_eq_true rfl⟩ (isO_m _ _) (Nat.le_of_ble_eq_true rfl) dX5_item_1 (c_X5_kindHere hl hy hp) ?_
  refine p_istore1 rfl (Nat.le_of_ble_eq_true rfl) dX5_item_4 ?_
  refine p_iload1 dX5_item_5 ?_
  refine p_if_lt ⟨by omega, by omega⟩ 17 dX5_item_6 (by decide) (fun c6 => ?_) (fun c6 => ?_)
  · unfold itemS
    rw [if_neg (by omega)]
    refine p_oload0 dX5_item_17 ?_
    refine p_cV0r (M2 := mX5_word) ml_RX5_240 mc_X5_word ⟨Nat.le_of_ble_eq_true rfl, Nat.le_of_ble_eq_true rfl⟩ (isO_m _ _) (Nat.le_of_ble_eq_true rfl) dX5_item_18 (c_word5 hl hy hp) ?_
    refine p_ldc2 wc_RX5_283 dX5_item_21 ?_
    refine p_lc_ne ⟨by omega, by omega⟩ ⟨by omega, by omega⟩ 35 dX5_item_24 dX5_item_25 (by decide) (fun c24 => ?_) (fun c24 => ?_)
    · rw [if_neg c24]
      refine p_oload0 dX5_item_35 ?_
      refine p_iconst dX5_item_36 ?_
      refine p_cV1v (M2 := mX5_must) ml_RX5_236 mc_X5_must ⟨Nat.le_of_ble_eq_true rfl, Nat.le_of_ble_eq_true rfl⟩ (isO_m _ _) (Nat.le_of_ble_eq_true rfl) dX5_item_37 (c_must5 hl hy hp (Or.inl rfl)) ?_
      exact p_vret rfl dX5_item_40 rfl rfl
    · rw [if_pos (by omega)]
      refine p_oload0 dX5_item_28 ?_
      refine p_cV0v (M2 := mX5_manItem) ml_RX5_285 mc_X5_manItem ⟨Nat.le_of_ble_eq_true rfl, Nat.le_of_ble_eq_true rfl⟩ (isO_m _ _) (Nat.le_of_ble_eq_true rfl) dX5_item_29 (c_X5_manItem hl hy hp hI) ?_
      refine p_goto 40 dX5_item_32 (by decide) ?_
      exact p_vret rfl dX5_item_40 rfl rfl
  · unfold itemS
    rw [if_pos (by omega)]
    refine p_oload0 dX5_item_9 ?_
    refine p_iload1 dX5_item_10 ?_
    refine p_cV1v (M2 := mX5_sheepItem) ml_RX5_280 mc_X5_sheepItem ⟨Nat.le_of_ble_eq_true rfl, Nat.le_of_ble_eq_true rfl⟩ (isO_m _ _) (Nat.le_of_ble_eq_true rfl) dX5_item_11 (c_X5_sheepItem hl hy hp hI) ?_
    refine p_goto 40 dX5_item_14 (by decide) ?_
    exact p_vret rfl dX5_item_40 rfl rfl
