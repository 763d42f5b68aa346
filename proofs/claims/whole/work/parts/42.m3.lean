set_option maxRecDepth 100000 in
set_option maxHeartbeats 4000000 in
theorem c_X5_man {G : GX} {S : St} {r : Row} {b : Int} (hI : IR b r) (hb : b ≤ 99999) {g : Int} (h_g : inR g) : Ev G mX5_man [rf G 31, vi g] (mk G (va_up S 9 r)) (some (vi (v_man r g))) (mk G (va_up (va_up S 13 (tl (S 13) (v_man r g))) 9 (r_man r g))) := by
  have i0 := hI.1; have i1 := hI.2.1; have i2 := hI.2.2.1; have i3 := hI.2.2.2.1; have i4 := hI.2.2.2.2.1
  obtain ⟨g1, g2⟩ := h_g
  refine Ev.enter (by decide +kernel) (Nat.le_of_ble_eq_true rfl) (L := [some (rf G 31), some (vi g)]) rfl ?_
  refine p_iload1 dX5_man_0 ?_
  refine p_cS1r (M2 := mX5_isGuise) ms_RX5_57 mc_X5_isGuise ⟨Nat.le_of_ble_eq_true rfl, Nat.le_of_ble_eq_true rfl⟩ (Nat.le_of_ble_eq_true rfl) dX5_man_1 (c_X5_isGuise ⟨by omega, by omega⟩) ?_
  refine p_bif_ne 14 dX5_man_4 (by decide) (fun c4 => ?_) (fun c4 => ?_)
  · refine p_oload0 dX5_man_14 ?_
    refine p_get fl_RX5_7 gm_s dX5_man_15 ?_
    refine p_iconst dX5_man_18 ?_
    refine p_iald alq_s (by omega) (by omega) dX5_man_19 ?_
    refine p_bipush (by decide) (by decide) dX5_man_20 ?_
    refine p_icmp_ne ⟨by omega, by omega⟩ ⟨by omega, by omega⟩ 34 dX5_man_22 (by decide) (fun c22 => ?_) (fun c22 => ?_)
    · refine p_oload0 dX5_man_34 ?_
      refine p_iload1 dX5_man_35 ?_
      refine p_cV1r (M2 := mX5_addsMan) ml_RX5_66 mc_X5_addsMan ⟨Nat.le_of_ble_eq_true rfl, Nat.le_of_ble_eq_true rfl⟩ (isO_m _ _) (Nat.le_of_ble_eq_true rfl) dX5_man_36 (c_X5_addsMan hI (by omega)) ?_
      exact m_v (by unfold v_man; (try split) <;> (try split) <;> (try split) <;> (try split) <;> (try split) <;> (try split) <;> (try split) <;> omega) (by omega) (by unfold r_man; (try split) <;> (try split) <;> (try split) <;> (try split) <;> (try split) <;> (try split) <;> (try split) <;> first | rfl | (exfalso; omega)) rfl dX5_man_39
    · refine p_oload0 dX5_man_25 ?_
      refine p_ldc wc_RX5_65 dX5_man_26 ?_
      refine p_cV1r (M2 := mX5_finds) ml_RX5_61 mc_X5_finds ⟨Nat.le_of_ble_eq_true rfl, Nat.le_of_ble_eq_true rfl⟩ (isO_m _ _) (Nat.le_of_ble_eq_true rfl) dX5_man_28 (c_X5_finds (by omega)) ?_
      refine p_goto 39 dX5_man_31 (by decide) ?_
      exact m_f (by unfold v_man; (try split) <;> (try split) <;> (try split) <;> (try split) <;> (try split) <;> (try split) <;> (try split) <;> omega) (by unfold r_man; (try split) <;> (try split) <;> (try split) <;> (try split) <;> (try split) <;> (try split) <;> (try split) <;> first | rfl | (exfalso; omega)) rfl dX5_man_39
  · refine p_oload0 dX5_man_7 ?_
    refine p_ldc wc_RX5_41 dX5_man_8 ?_
    refine p_cV1r (M2 := mX5_finds) ml_RX5_61 mc_X5_finds ⟨Nat.le_of_ble_eq_true rfl, Nat.le_of_ble_eq_true rfl⟩ (isO_m _ _) (Nat.le_of_ble_eq_true rfl) dX5_man_10 (c_X5_finds (by omega)) ?_
    exact m_f (by unfold v_man; (try split) <;> (try split) <;> (try split) <;> (try split) <;> (try split) <;> (try split) <;> (try split) <;> omega) (by unfold r_man; (try split) <;> (try split) <;> (try split) <;> (try split) <;> (try split) <;> (try split) <;> (try split) <;> first | rfl | (exfalso; omega)) rfl dX5_man_13
set_option maxRecDepth 100000 in
set_option maxHeartbeats 4000000 in
theorem c_X5_manOf {G : GX} {S : St} {r : Row} {b : Int} (hI : IR b r) (hb : b ≤ 99999) {m : Int} (h_m : inR m) {w : Int} (h_w : inR w) : Ev G mX5_manOf [rf G 31, vi m, vi w] (mk G (va_up S 9 r)) (some (vi (v_manOf r m w))) (mk G (va_up (va_up S 13 (tl (S 13) (v_manOf r m w))) 9 (r))) := by
  have i0 := hI.1; have i1 := hI.2.1; have i2 := hI.2.2.1; have i3 := hI.2.2.2.1; have i4 := hI.2.2.2.2.1
  obtain ⟨m1, m2⟩ := h_m
  obtain ⟨w1, w2⟩ := h_w
  refine Ev.enter (by decide +kernel) (Nat.le_of_ble_eq_true rfl) (L := [some (rf G 31), some (vi m), some (vi w)]) rfl ?_
  refine p_oload0 dX5_manOf_0 ?_
  refine p_iload1 dX5_manOf_1 ?_
  refine p_cV1r (M2 := mX5_isMan) ml_RX5_69 mc_X5_isMan ⟨Nat.le_of_ble_eq_true rfl, Nat.le_of_ble_eq_true rfl⟩ (isO_m _ _) (Nat.le_of_ble_eq_true rfl) dX5_manOf_2 (c_X5_isMan hI ⟨by omega, by omega⟩) ?_
  refine p_bif_eq 27 dX5_manOf_5 (by decide) (fun c5 => ?_) (fun c5 => ?_)
  · refine p_oload0 dX5_manOf_27 ?_
    refine p_ldc wc_RX5_41 dX5_manOf_28 ?_
    refine p_cV1r (M2 := mX5_finds) ml_RX5_61 mc_X5_finds ⟨Nat.le_of_ble_eq_true rfl, Nat.le_of_ble_eq_true rfl⟩ (isO_m _ _) (Nat.le_of_ble_eq_true rfl) dX5_manOf_30 (c_X5_finds (by omega)) ?_
    exact m_f (by unfold v_manOf; first | (rw [if_neg (by omega)]; done) | (rw [if_pos (by omega)]; done)) rfl rfl dX5_manOf_33
  · refine p_iload2 dX5_manOf_8 ?_
    refine p_i2l ⟨by omega, by omega⟩ dX5_manOf_9 ?_
    refine p_lconst0 dX5_manOf_10 ?_
    refine p_lconst1 dX5_manOf_11 ?_
    refine p_cS3r (M2 := mX5_in) ms_RX5_42 mc_X5_in ⟨Nat.le_of_ble_eq_true rfl, Nat.le_of_ble_eq_true rfl⟩ (Nat.le_of_ble_eq_true rfl) dX5_manOf_12 (c_X5_in ⟨by omega, by omega⟩ ⟨by omega, by omega⟩ ⟨by omega, by omega⟩) ?_
    refine p_bif_eq 27 dX5_manOf_15 (by decide) (fun c15 => ?_) (fun c15 => ?_)
    · refine p_oload0 dX5_manOf_27 ?_
      refine p_ldc wc_RX5_41 dX5_manOf_28 ?_
      refine p_cV1r (M2 := mX5_finds) ml_RX5_61 mc_X5_finds ⟨Nat.le_of_ble_eq_true rfl, Nat.le_of_ble_eq_true rfl⟩ (isO_m _ _) (Nat.le_of_ble_eq_true rfl) dX5_manOf_30 (c_X5_finds (by omega)) ?_
      exact m_f (by unfold v_manOf; first | (rw [if_neg (by omega)]; done) | (rw [if_pos (by omega)]; done)) rfl rfl dX5_manOf_33
    · refine p_oload0 dX5_manOf_18 ?_
      refine p_iload1 dX5_manOf_19 ?_
      refine p_iload2 dX5_manOf_20 ?_
      refine p_cV2r (M2 := mX5_his) ml_RX5_72 mc_X5_his ⟨Nat.le_of_ble_eq_true rfl, Nat.le_of_ble_eq_true rfl⟩ (isO_m _ _) (Nat.le_of_ble_eq_true rfl) dX5_manOf_21 (c_X5_his hI (by omega) (by omega)) ?_
      refine p_goto 33 dX5_manOf_24 (by decide) ?_
      exact m_v (by unfold v_manOf; first | (rw [if_neg (by omega)]; done) | (rw [if_pos (by omega)]; done)) (by have i5 := hI.2.2.2.2.2.1 m (by omega) (by omega); rcases (show w = 0 ∨ w = 1 by omega) with q | q <;> subst q; rw [show 5 + 2 * m + 0 = 5 + 2 * m by omega]; omega; rw [show 5 + 2 * m + 1 = 6 + 2 * m by omega]; omega) rfl rfl dX5_manOf_33
set_option maxRecDepth 100000 in
set_option maxHeartbeats 4000000 in
theorem c_X5_dress {G : GX} {S : St} {r : Row} {b : Int} (hI : IR b r) (hb : b ≤ 99999) {m : Int} (h_m : inR m) {w : Int} (h_w : inR w) {v : Int} (h_v : inR v) : Ev G mX5_dress [rf G 31, vi m, vi w, vi v] (mk G (va_up S 9 r)) (some (vi (v_dress r m w v))) (mk G (va_up (va_up S 13 (tl (S 13) (v_dress r m w v))) 9 (r_dress r m w v))) := by
  have i0 := hI.1; have i1 := hI.2.1; have i2 := hI.2.2.1; have i3 := hI.2.2.2.1; have i4 := hI.2.2.2.2.1
  obtain ⟨m1, m2⟩ := h_m
  obtain ⟨w1, w2⟩ := h_w
  obtain ⟨v1, v2⟩ := h_v
  refine Ev.enter (by decide +kernel) (Nat.le_of_ble_eq_true rfl) (L := [some (rf G 31), some (vi m), some (vi w), some (vi v), none]) rfl ?_
  refine p_iload2 dX5_dress_0 ?_
  refine p_if_ne ⟨by omega, by omega⟩ 11 dX5_dress_1 (by decide) (fun c1 => ?_) (fun c1 => ?_)
  · refine p_iload2 dX5_dress_11 ?_
    refine p_iconst dX5_dress_12 ?_
    refine p_icmp_ne ⟨by omega, by omega⟩ ⟨by omega, by omega⟩ 32 dX5_dress_13 (by decide) (fun c13 => ?_) (fun c13 => ?_)
    · refine p_iconst dX5_dress_32 ?_
      refine p_istore4 rfl (Nat.le_of_ble_eq_true rfl) dX5_dress_33 ?_
      refine p_oload0 dX5_dress_35 ?_
      refine p_iload1 dX5_dress_36 ?_
      refine p_cV1r (M2 := mX5_isMan) ml_RX5_69 mc_X5_isMan ⟨Nat.le_of_ble_eq_true rfl, Nat.le_of_ble_eq_true rfl⟩ (isO_m _ _) (Nat.le_of_ble_eq_true rfl) dX5_dress_37 (c_X5_isMan hI ⟨by omega, by omega⟩) ?_
      refine p_bif_eq 61 dX5_dress_40 (by decide) (fun c40 => ?_) (fun c40 => ?_)
      · refine p_oload0 dX5_dress_61 ?_
        refine p_ldc wc_RX5_41 dX5_dress_62 ?_
        refine p_cV1r (M2 := mX5_finds) ml_RX5_61 mc_X5_finds ⟨Nat.le_of_ble_eq_true rfl, Nat.le_of_ble_eq_true rfl⟩ (isO_m _ _) (Nat.le_of_ble_eq_true rfl) dX5_dress_64 (c_X5_finds (by omega)) ?_
        exact m_f (by unfold v_dress ok_dress; first | (rw [if_neg (by omega)]; done) | (rw [if_pos (by omega)]; done)) (by unfold r_dress ok_dress; first | (rw [if_neg (by omega)]; done) | (rw [if_pos (by omega)]; done)) rfl dX5_dress_67
      · refine p_iload4 dX5_dress_43 ?_
        refine p_if_eq ⟨by omega, by omega⟩ 61 dX5_dress_45 (by decide) (fun c45 => ?_) (fun c45 => ?_)
        · refine p_oload0 dX5_dress_61 ?_
          refine p_ldc wc_RX5_41 dX5_dress_62 ?_
          refine p_cV1r (M2 := mX5_finds) ml_RX5_61 mc_X5_finds ⟨Nat.le_of_ble_eq_true rfl, Nat.le_of_ble_eq_true rfl⟩ (isO_m _ _) (Nat.le_of_ble_eq_true rfl) dX5_dress_64 (c_X5_finds (by omega)) ?_
          exact m_f (by unfold v_dress ok_dress; first | (rw [if_neg (by omega)]; done) | (rw [if_pos (by omega)]; done)) (by unfold r_dress ok_dress; first | (rw [if_neg (by omega)]; done) | (rw [if_pos (by omega)]; done)) rfl dX5_dress_67
        · refine p_oload0 dX5_dress_48 ?_
          refine p_iload1 dX5_dress_49 ?_
          refine p_iload2 dX5_dress_50 ?_
          refine p_cS2r (M2 := mX5_placeOf) ms_RX5_50 mc_X5_placeOf ⟨Nat.le_of_ble_eq_true rfl, Nat.le_of_ble_eq_true rfl⟩ (Nat.le_of_ble_eq_true rfl) dX5_dress_51 (c_X5_placeOf) ?_
          refine p_iload3 dX5_dress_54 ?_
          refine p_cV2r (M2 := mX5_becomes) ml_RX5_77 mc_X5_becomes ⟨Nat.le_of_ble_eq_true rfl, Nat.le_of_ble_eq_true rfl⟩ (isO_m _ _) (Nat.le_of_ble_eq_true rfl) dX5_dress_55 (c_X5_becomes (by omega)) ?_
          refine p_goto 67 dX5_dress_58 (by decide) ?_
          exact m_v (by unfold v_dress ok_dress; first | (rw [if_neg (by omega)]; done) | (rw [if_pos (by omega)]; done)) (by have i5 := hI.2.2.2.2.2.1 m (by omega) (by omega); rcases (show w = 0 ∨ w = 1 by omega) with q | q <;> subst q; rw [show 5 + 2 * m + 0 = 5 + 2 * m by omega]; omega; rw [show 5 + 2 * m + 1 = 6 + 2 * m by omega]; omega) (by unfold r_dress ok_dress; first | (rw [if_neg (by omega)]; done) | (rw [if_pos (by omega)]; done)) rfl dX5_dress_67
    · refine p_iload3 dX5_dress_16 ?_
      refine p_i2l ⟨by omega, by omega⟩ dX5_dress_17 ?_
      refine p_lconst0 dX5_dress_18 ?_
      refine p_ldc2 wc_RX5_75 dX5_dress_19 ?_
      refine p_cS3r (M2 := mX5_in) ms_RX5_42 mc_X5_in ⟨Nat.le_of_ble_eq_true rfl, Nat.le_of_ble_eq_true rfl⟩ (Nat.le_of_ble_eq_true rfl) dX5_dress_22 (c_X5_in ⟨by omega, by omega⟩ ⟨by omega, by omega⟩ ⟨by omega, by omega⟩) ?_
      refine p_bif_eq 32 dX5_dress_25 (by decide) (fun c25 => ?_) (fun c25 => ?_)
      · refine p_iconst dX5_dress_32 ?_
        refine p_istore4 rfl (Nat.le_of_ble_eq_true rfl) dX5_dress_33 ?_
        refine p_oload0 dX5_dress_35 ?_
        refine p_iload1 dX5_dress_36 ?_
        refine p_cV1r (M2 := mX5_isMan) ml_RX5_69 mc_X5_isMan ⟨Nat.le_of_ble_eq_true rfl, Nat.le_of_ble_eq_true rfl⟩ (isO_m _ _) (Nat.le_of_ble_eq_true rfl) dX5_dress_37 (c_X5_isMan hI ⟨by omega, by omega⟩) ?_
        refine p_bif_eq 61 dX5_dress_40 (by decide) (fun c40 => ?_) (fun c40 => ?_)
        · refine p_oload0 dX5_dress_61 ?_
          refine p_ldc wc_RX5_41 dX5_dress_62 ?_
          refine p_cV1r (M2 := mX5_finds) ml_RX5_61 mc_X5_finds ⟨Nat.le_of_ble_eq_true rfl, Nat.le_of_ble_eq_true rfl⟩ (isO_m _ _) (Nat.le_of_ble_eq_true rfl) dX5_dress_64 (c_X5_finds (by omega)) ?_
          exact m_f (by unfold v_dress ok_dress; first | (rw [if_neg (by omega)]; done) | (rw [if_pos (by omega)]; done)) (by unfold r_dress ok_dress; first | (rw [if_neg (by omega)]; done) | (rw [if_pos (by omega)]; done)) rfl dX5_dress_67
        · refine p_iload4 dX5_dress_43 ?_
          refine p_if_eq ⟨by omega, by omega⟩ 61 dX5_dress_45 (by decide) (fun c45 => ?_) (fun c45 => ?_)
          · refine p_oload0 dX5_dress_61 ?_
            refine p_ldc wc_RX5_41 dX5_dress_62 ?_
            refine p_cV1r (M2 := mX5_finds) ml_RX5_61 mc_X5_finds ⟨Nat.le_of_ble_eq_true rfl, Nat.le_of_ble_eq_true rfl⟩ (isO_m _ _) (Nat.le_of_ble_eq_true rfl) dX5_dress_64 (c_X5_finds (by omega)) ?_
            exact m_f (by unfold v_dress ok_dress; first | (rw [if_neg (by omega)]; done) | (rw [if_pos (by omega)]; done)) (by unfold r_dress ok_dress; first | (rw [if_neg (by omega)]; done) | (rw [if_pos (by omega)]; done)) rfl dX5_dress_67
          · refine p_oload0 dX5_dress_48 ?_
            refine p_iload1 dX5_dress_49 ?_
            refine p_iload2 dX5_dress_50 ?_
            refine p_cS2r (M2 := mX5_placeOf) ms_RX5_50 mc_X5_placeOf ⟨Nat.le_of_ble_eq_true rfl, Nat.le_of_ble_eq_true rfl⟩ (Nat.le_of_ble_eq_true rfl) dX5_dress_51 (c_X5_placeOf) ?_
            refine p_iload3 dX5_dress_54 ?_
            refine p_cV2r (M2 := mX5_becomes) ml_RX5_77 mc_X5_becomes ⟨Nat.le_of_ble_eq_true rfl, Nat.le_of_ble_eq_true rfl⟩ (isO_m _ _) (Nat.le_of_ble_eq_true rfl) dX5_dress_55 (c_X5_becomes (by omega)) ?_
            refine p_goto 67 dX5_dress_58 (by decide) ?_
            exact m_v (by unfold v_dress ok_dress; first | (rw [if_neg (by omega)]; done) | (rw [if_pos (by omega)]; done)) (by have i5 := hI.2.2.2.2.2.1 m (by omega) (by omega); rcases (show w = 0 ∨ w = 1 by omega) with q | q <;> subst q; rw [show 5 + 2 * m + 0 = 5 + 2 * m by omega]; omega; rw [show 5 + 2 * m + 1 = 6 + 2 * m by omega]; omega) (by unfold r_dress ok_dress; first | (rw [if_neg (by omega)]; done) | (rw [if_pos (by omega)]; done)) rfl dX5_dress_67
      · refine p_iconst dX5_dress_28 ?_
        refine p_goto 33 dX5_dress_29 (by decide) ?_
        refine p_istore4 rfl (Nat.le_of_ble_eq_true rfl) dX5_dress_33 ?_
        refine p_oload0 dX5_dress_35 ?_
        refine p_iload1 dX5_dress_36 ?_
        refine p_cV1r (M2 := mX5_isMan) ml_RX5_69 mc_X5_isMan ⟨Nat.le_of_ble_eq_true rfl, Nat.le_of_ble_eq_true rfl⟩ (isO_m _ _) (Nat.le_of_ble_eq_true rfl) dX5_dress_37 (c_X5_isMan hI ⟨by omega, by omega⟩) ?_
        refine p_bif_eq 61 dX5_dress_40 (by decide) (fun c40 => ?_) (fun c40 => ?_)
        · refine p_oload0 dX5_dress_61 ?_
          refine p_ldc wc_RX5_41 dX5_dress_62 ?_
          refine p_cV1r (M2 := mX5_finds) ml_RX5_61 mc_X5_finds ⟨Nat.le_of_ble_eq_true rfl, Nat.le_of_ble_eq_true rfl⟩ (isO_m _ _) (Nat.le_of_ble_eq_true rfl) dX5_dress_64 (c_X5_finds (by omega)) ?_
          exact m_f (by unfold v_dress ok_dress; first | (rw [if_neg (by omega)]; done) | (rw [if_pos (by omega)]; done)) (by unfold r_dress ok_dress; first | (rw [if_neg (by omega)]; done) | (rw [if_pos (by omega)]; done)) rfl dX5_dress_67
        · refine p_iload4 dX5_dress_43 ?_
          refine p_if_eq ⟨by omega, by omega⟩ 61 dX5_dress_45 (by decide) (fun c45 => ?_) (fun c45 => ?_)
          · refine p_oload0 dX5_dress_61 ?_
            refine p_ldc wc_RX5_41 dX5_dress_62 ?_
            refine p_cV1r (M2 := mX5_finds) ml_RX5_61 mc_X5_finds ⟨Nat.le_of_ble_eq_true rfl, Nat.le_of_ble_eq_true rfl⟩ (isO_m _ _) (Nat.le_of_ble_eq_true rfl) dX5_dress_64 (c_X5_finds (by omega)) ?_
            exact m_f (by unfold v_dress ok_dress; first | (rw [if_neg (by omega)]; done) | (rw [if_pos (by omega)]; done)) (by unfold r_dress ok_dress; first | (rw [if_neg (by omega)]; done) | (rw [if_pos (by omega)]; done)) rfl dX5_dress_67
          · refine p_oload0 dX5_dress_48 ?_
            refine p_iload1 dX5_dress_49 ?_
            refine p_iload2 dX5_dress_50 ?_
            refine p_cS2r (M2 := mX5_placeOf) ms_RX5_50 mc_X5_placeOf ⟨Nat.le_of_ble_eq_true rfl, Nat.le_of_ble_eq_true rfl⟩ (Nat.le_of_ble_eq_true rfl) dX5_dress_51 (c_X5_placeOf) ?_
            refine p_iload3 dX5_dress_54 ?_
            refine p_cV2r (M2 := mX5_becomes) ml_RX5_77 mc_X5_becomes ⟨Nat.le_of_ble_eq_true rfl, Nat.le_of_ble_eq_true rfl⟩ (isO_m _ _) (Nat.le_of_ble_eq_true rfl) dX5_dress_55 (c_X5_becomes (by omega)) ?_
            refine p_goto 67 dX5_dress_58 (by decide) ?_
            exact m_v (by unfold v_dress ok_dress; first | (rw [if_neg (by omega)]; done) | (rw [if_pos (by omega)]; done)) (by have i5 := hI.2.2.2.2.2.1 m (by omega) (by omega); rcases (show w = 0 ∨ w = 1 by omega) with q | q <;> subst q; rw [show 5 + 2 * m + 0 = 5 + 2 * m by omega]; omega; rw [show 5 + 2 * m + 1 = 6 + 2 * m by omega]; omega) (by unfold r_dress ok_dress; first | (rw [if_neg (by omega)]; done) | (rw [if_pos (by omega)]; done)) rfl dX5_dress_67
  · refine p_iload3 dX5_dress_4 ?_
    refine p_cS1r (M2 := mX5_isGuise) ms_RX5_57 mc_X5_isGuise ⟨Nat.le_of_ble_eq_true rfl, Nat.le_of_ble_eq_true rfl⟩ (Nat.le_of_ble_eq_true rfl) dX5_dress_5 (c_X5_isGuise ⟨by omega, by omega⟩) ?_
    refine p_goto 33 dX5_dress_8 (by decide) ?_
    refine p_istore4 rfl (Nat.le_of_ble_eq_true rfl) dX5_dress_33 ?_
    refine p_oload0 dX5_dress_35 ?_
    refine p_iload1 dX5_dress_36 ?_
    refine p_cV1r (M2 := mX5_isMan) ml_RX5_69 mc_X5_isMan ⟨Nat.le_of_ble_eq_true rfl, Nat.le_of_ble_eq_true rfl⟩ (isO_m _ _) (Nat.le_of_ble_eq_true rfl) dX5_dress_37 (c_X5_isMan hI ⟨by omega, by omega⟩) ?_
    refine p_bif_eq 61 dX5_dress_40 (by decide) (fun c40 => ?_) (fun c40 => ?_)
    · refine p_oload0 dX5_dress_61 ?_
      refine p_ldc wc_RX5_41 dX5_dress_62 ?_
      refine p_cV1r (M2 := mX5_finds) ml_RX5_61 mc_X5_finds ⟨Nat.le_of_ble_eq_true rfl, Nat.le_of_ble_eq_true rfl⟩ (isO_m _ _) (Nat.le_of_ble_eq_true rfl) dX5_dress_64 (c_X5_finds (by omega)) ?_
      exact m_f (by unfold v_dress ok_dress; first | (rw [if_neg (by omega)]; done) | (rw [if_pos (by omega)]; done)) (by unfold r_dress ok_dress; first | (rw [if_neg (by omega)]; done) | (rw [if_pos (by omega)]; done)) rfl dX5_dress_67
    · refine p_iload4 dX5_dress_43 ?_
      refine p_bif_eq 61 dX5_dress_45 (by decide) (fun c45 => ?_) (fun c45 => ?_)
      · refine p_oload0 dX5_dress_61 ?_
        refine p_ldc wc_RX5_41 dX5_dress_62 ?_
        refine p_cV1r (M2 := mX5_finds) ml_RX5_61 mc_X5_finds ⟨Nat.le_of_ble_eq_true rfl, Nat.le_of_ble_eq_true rfl⟩ (isO_m _ _) (Nat.le_of_ble_eq_true rfl) dX5_dress_64 (c_X5_finds (by omega)) ?_
        exact m_f (by unfold v_dress ok_dress; first | (rw [if_neg (by omega)]; done) | (rw [if_pos (by omega)]; done)) (by unfold r_dress ok_dress; first | (rw [if_neg (by omega)]; done) | (rw [if_pos (by omega)]; done)) rfl dX5_dress_67
      · refine p_oload0 dX5_dress_48 ?_
        refine p_iload1 dX5_dress_49 ?_
        refine p_iload2 dX5_dress_50 ?_
        refine p_cS2r (M2 := mX5_placeOf) ms_RX5_50 mc_X5_placeOf ⟨Nat.le_of_ble_eq_true rfl, Nat.le_of_ble_eq_true rfl⟩ (Nat.le_of_ble_eq_true rfl) dX5_dress_51 (c_X5_placeOf) ?_
        refine p_iload3 dX5_dress_54 ?_
        refine p_cV2r (M2 := mX5_becomes) ml_RX5_77 mc_X5_becomes ⟨Nat.le_of_ble_eq_true rfl, Nat.le_of_ble_eq_true rfl⟩ (isO_m _ _) (Nat.le_of_ble_eq_true rfl) dX5_dress_55 (c_X5_becomes (by omega)) ?_
        refine p_goto 67 dX5_dress_58 (by decide) ?_
        exact m_v (by unfold v_dress ok_dress; first | (rw [if_neg (by omega)]; done) | (rw [if_pos (by omega)]; done)) (by have i5 := hI.2.2.2.2.2.1 m (by omega) (by omega); rcases (show w = 0 ∨ w = 1 by omega) with q | q <;> subst q; rw [show 5 + 2 * m + 0 = 5 + 2 * m by omega]; omega; rw [show 5 + 2 * m + 1 = 6 + 2 * m by omega]; omega) (by unfold r_dress ok_dress; first | (rw [if_neg (by omega)]; done) | (rw [if_pos (by omega)]; done)) rfl dX5_dress_67
set_option maxRecDepth 100000 in
set_option maxHeartbeats 4000000 in
theorem c_X5_first {G : GX} {S : St} {r : Row} {b : Int} (hI : IR b r) (hb : b ≤ 99999) {m : Int} (h_m : inR m) : Ev G mX5_first [rf G 31, vi m] (mk G (va_up S 9 r)) (some (vi (v_first r m))) (mk G (va_up (va_up S 13 (tl (S 13) (v_first r m))) 9 (r_first r m))) := by
  have i0 := hI.1; have i1 := hI.2.1; have i2 := hI.2.2.1; have i3 := hI.2.2.2.1; have i4 := hI.2.2.2.2.1
  obtain ⟨m1, m2⟩ := h_m
  refine Ev.enter (by decide +kernel) (Nat.le_of_ble_eq_true rfl) (L := [some (rf G 31), some (vi m)]) rfl ?_
  refine p_oload0 dX5_first_0 ?_
  refine p_iload1 dX5_first_1 ?_
  refine p_cV1r (M2 := mX5_isMan) ml_RX5_69 mc_X5_isMan ⟨Nat.le_of_ble_eq_true rfl, Nat.le_of_ble_eq_true rfl⟩ (isO_m _ _) (Nat.le_of_ble_eq_true rfl) dX5_first_2 (c_X5_isMan hI ⟨by omega, by omega⟩) ?_
  refine p_bif_eq 17 dX5_first_5 (by decide) (fun c5 => ?_) (fun c5 => ?_)
  · refine p_oload0 dX5_first_17 ?_
    refine p_ldc wc_RX5_41 dX5_first_18 ?_
    refine p_cV1r (M2 := mX5_finds) ml_RX5_61 mc_X5_finds ⟨Nat.le_of_ble_eq_true rfl, Nat.le_of_ble_eq_true rfl⟩ (isO_m _ _) (Nat.le_of_ble_eq_true rfl) dX5_first_20 (c_X5_finds (by omega)) ?_
    exact m_f (by unfold v_first; first | (rw [if_neg (by omega)]; done) | (rw [if_pos (by omega)]; done)) (by unfold r_first; first | (rw [if_neg (by omega)]; done) | (rw [if_pos (by omega)]; done)) rfl dX5_first_23
  · refine p_oload0 dX5_first_8 ?_
    refine p_iconst dX5_first_9 ?_
    refine p_iload1 dX5_first_10 ?_
    refine p_cV2r (M2 := mX5_becomes) ml_RX5_77 mc_X5_becomes ⟨Nat.le_of_ble_eq_true rfl, Nat.le_of_ble_eq_true rfl⟩ (isO_m _ _) (Nat.le_of_ble_eq_true rfl) dX5_first_11 (c_X5_becomes (by omega)) ?_
    refine p_goto 23 dX5_first_14 (by decide) ?_
    exact m_v (by unfold v_first; first | (rw [if_neg (by omega)]; done) | (rw [if_pos (by omega)]; done)) (by omega) (by unfold r_first; first | (rw [if_neg (by omega)]; done) | (rw [if_pos (by omega)]; done)) rfl dX5_first_23
set_option maxRecDepth 100000 in
set_option maxHeartbeats 4000000 in
theorem c_X5_goesHome {G : GX} {S : St} {r : Row} {b : Int} (hI : IR b r) (hb : b ≤ 99999) : Ev G mX5_goesHome [rf G 31] (mk G (va_up S 9 r)) (some (vi (v_goesHome r))) (mk G (va_up (va_up S 13 (tl (S 13) (v_goesHome r))) 9 (r_goesHome r))) := by
  have i0 := hI.1; have i1 := hI.2.1; have i2 := hI.2.2.1; have i3 := hI.2.2.2.1; have i4 := hI.2.2.2.2.1
  refine Ev.enter (by decide +kernel) (Nat.le_of_ble_eq_true rfl) (L := [some (rf G 31)]) rfl ?_
  refine p_oload0 dX5_goesHome_0 ?_
  refine p_get fl_RX5_7 gm_s dX5_goesHome_1 ?_
  refine p_iconst dX5_goesHome_4 ?_
  refine p_iald alq_s (by omega) (by omega) dX5_goesHome_5 ?_
  refine p_if_ne ⟨by omega, by omega⟩ 16 dX5_goesHome_6 (by decide) (fun c6 => ?_) (fun c6 => ?_)
  · refine p_oload0 dX5_goesHome_16 ?_
    refine p_get fl_RX5_7 gm_s dX5_goesHome_17 ?_
    refine p_iconst dX5_goesHome_20 ?_
    refine p_dup2 rfl rfl dX5_goesHome_21 ?_
    refine p_iald alq_s (by omega) (by omega) dX5_goesHome_22 ?_
    refine p_iconst dX5_goesHome_23 ?_
    refine p_isub dX5_goesHome_24 ?_
    refine p_iast alq_s (by omega) (by omega) asq_s dX5_goesHome_25 ?_
    refine p_oload0 dX5_goesHome_26 ?_
    refine p_get fl_RX5_7 gm_s dX5_goesHome_27 ?_
    refine p_iconst dX5_goesHome_30 ?_
    refine p_oload0 dX5_goesHome_31 ?_
    refine p_get fl_RX5_7 gm_s dX5_goesHome_32 ?_
    refine p_iconst dX5_goesHome_35 ?_
    refine p_iald alq_s (by omega) (by omega) dX5_goesHome_36 ?_
    refine p_oload0 dX5_goesHome_37 ?_
    refine p_get fl_RX5_7 gm_s dX5_goesHome_38 ?_
    refine p_iconst dX5_goesHome_41 ?_
    refine p_iald alq_s (by omega) (by omega) dX5_goesHome_42 ?_
    refine p_icmp_ne ⟨by rw [uz_ne _ _ (by omega)]; omega, by rw [uz_ne _ _ (by omega)]; omega⟩ ⟨by rw [uz_self]; omega, by rw [uz_self]; omega⟩ 50 dX5_goesHome_43 (by decide) (fun c43 => ?_) (fun c43 => ?_)
    · rw [uz_ne _ _ (by omega), uz_self] at c43
      refine p_oload0 dX5_goesHome_50 ?_
      refine p_get fl_RX5_7 gm_s dX5_goesHome_51 ?_
      refine p_iconst dX5_goesHome_54 ?_
      refine p_iald alq_s (by omega) (by omega) dX5_goesHome_55 ?_
      refine p_iast alq_s (by omega) (by omega) asq_s dX5_goesHome_56 ?_
      refine p_oload0 dX5_goesHome_57 ?_
      refine p_get fl_RX5_7 gm_s dX5_goesHome_58 ?_
      refine p_iconst dX5_goesHome_61 ?_
      refine p_iald alq_s (by omega) (by omega) dX5_goesHome_62 ?_
      exact m_v (by unfold v_goesHome; rw [if_neg (by omega), uz_ne _ _ (by omega), uz_self]) (by rw [uz_ne _ _ (by omega), uz_self]; omega) (by unfold r_goesHome ghR; rw [if_neg (by omega)]; first | (rw [if_neg (by omega), uz_ne (j := 4) _ _ (by omega)]; done) | (rw [if_pos (by omega)]; done)) rfl dX5_goesHome_63
    · rw [uz_ne _ _ (by omega), uz_self] at c43
      refine p_iconst dX5_goesHome_46 ?_
      refine p_goto 56 dX5_goesHome_47 (by decide) ?_
      refine p_iast alq_s (by omega) (by omega) asq_s dX5_goesHome_56 ?_
      refine p_oload0 dX5_goesHome_57 ?_
      refine p_get fl_RX5_7 gm_s dX5_goesHome_58 ?_
      refine p_iconst dX5_goesHome_61 ?_
      refine p_iald alq_s (by omega) (by omega) dX5_goesHome_62 ?_
      exact m_v (by unfold v_goesHome; rw [if_neg (by omega), uz_ne _ _ (by omega), uz_self]) (by rw [uz_ne _ _ (by omega), uz_self]; omega) (by unfold r_goesHome ghR; rw [if_neg (by omega)]; first | (rw [if_neg (by omega), uz_ne (j := 4) _ _ (by omega)]; done) | (rw [if_pos (by omega)]; done)) rfl dX5_goesHome_63
  · refine p_oload0 dX5_goesHome_9 ?_
    refine p_ldc wc_RX5_80 dX5_goesHome_10 ?_
    refine p_cV1r (M2 := mX5_finds) ml_RX5_61 mc_X5_finds ⟨Nat.le_of_ble_eq_true rfl, Nat.le_of_ble_eq_true rfl⟩ (isO_m _ _) (Nat.le_of_ble_eq_true rfl) dX5_goesHome_12 (c_X5_finds (by omega)) ?_
    exact m_f (by unfold v_goesHome; first | (rw [if_neg (by omega)]; done) | (rw [if_pos (by omega)]; done)) (by unfold r_goesHome; first | (rw [if_neg (by omega)]; done) | (rw [if_pos (by omega)]; done)) rfl dX5_goesHome_15
set_option maxRecDepth 100000 in
set_option maxHeartbeats 4000000 in
theorem c_X5_sheep {G : GX} {S : St} {r : Row} {b : Int} (hI : IR b r) (hb : b ≤ 99999) {k : Int} (h_k : inR k) : Ev G mX5_sheep [rf G 31, vi k] (mk G (va_up S 9 r)) (some (vi (v_sheep r k))) (mk G (va_up (va_up S 13 (tl (S 13) (v_sheep r k))) 9 (r_sheep r k))) := by
  have i0 := hI.1; have i1 := hI.2.1; have i2 := hI.2.2.1; have i3 := hI.2.2.2.1; have i4 := hI.2.2.2.2.1
  obtain ⟨k1, k2⟩ := h_k
  refine Ev.enter (by decide +kernel) (Nat.le_of_ble_eq_true rfl) (L := [some (rf G 31), some (vi k)]) rfl ?_
  refine p_iload1 dX5_sheep_0 ?_
  refine p_cS1r (M2 := mX5_isKind) ms_RX5_81 mc_X5_isKind ⟨Nat.le_of_ble_eq_true rfl, Nat.le_of_ble_eq_true rfl⟩ (Nat.le_of_ble_eq_true rfl) dX5_sheep_1 (c_X5_isKind ⟨by omega, by omega⟩) ?_
  refine p_bif_ne 14 dX5_sheep_4 (by decide) (fun c4 => ?_) (fun c4 => ?_)
  · refine p_oload0 dX5_sheep_14 ?_
    refine p_get fl_RX5_7 gm_s dX5_sheep_15 ?_
    refine p_iconst dX5_sheep_18 ?_
    refine p_iald alq_s (by omega) (by omega) dX5_sheep_19 ?_
    refine p_bipush (by decide) (by decide) dX5_sheep_20 ?_
    refine p_icmp_ne ⟨by omega, by omega⟩ ⟨by omega, by omega⟩ 34 dX5_sheep_22 (by decide) (fun c22 => ?_) (fun c22 => ?_)
    · refine p_oload0 dX5_sheep_34 ?_
      refine p_iload1 dX5_sheep_35 ?_
      refine p_cV1r (M2 := mX5_adds) ml_RX5_84 mc_X5_adds ⟨Nat.le_of_ble_eq_true rfl, Nat.le_of_ble_eq_true rfl⟩ (isO_m _ _) (Nat.le_of_ble_eq_true rfl) dX5_sheep_36 (c_X5_adds hI (by omega)) ?_
      exact m_v (by unfold v_sheep; (try split) <;> (try split) <;> (try split) <;> (try split) <;> (try split) <;> (try split) <;> (try split) <;> omega) (by omega) (by unfold r_sheep; (try split) <;> (try split) <;> (try split) <;> (try split) <;> (try split) <;> (try split) <;> (try split) <;> first | rfl | (exfalso; omega)) rfl dX5_sheep_39
    · refine p_oload0 dX5_sheep_25 ?_
      refine p_ldc wc_RX5_65 dX5_sheep_26 ?_
      refine p_cV1r (M2 := mX5_finds) ml_RX5_61 mc_X5_finds ⟨Nat.le_of_ble_eq_true rfl, Nat.le_of_ble_eq_true rfl⟩ (isO_m _ _) (Nat.le_of_ble_eq_true rfl) dX5_sheep_28 (c_X5_finds (by omega)) ?_
      refine p_goto 39 dX5_sheep_31 (by decide) ?_
      exact m_f (by unfold v_sheep; (try split) <;> (try split) <;> (try split) <;> (try split) <;> (try split) <;> (try split) <;> (try split) <;> omega) (by unfold r_sheep; (try split) <;> (try split) <;> (try split) <;> (try split) <;> (try split) <;> (try split) <;> (try split) <;> first | rfl | (exfalso; omega)) rfl dX5_sheep_39
  · refine p_oload0 dX5_sheep_7 ?_
    refine p_ldc wc_RX5_41 dX5_sheep_8 ?_
    refine p_cV1r (M2 := mX5_finds) ml_RX5_61 mc_X5_finds ⟨Nat.le_of_ble_eq_true rfl, Nat.le_of_ble_eq_true rfl⟩ (isO_m _ _) (Nat.le_of_ble_eq_true rfl) dX5_sheep_10 (c_X5_finds (by omega)) ?_
    exact m_f (by unfold v_sheep; (try split) <;> (try split) <;> (try split) <;> (try split) <;> (try split) <;> (try split) <;> (try split) <;> omega) (by unfold r_sheep; (try split) <;> (try split) <;> (try split) <;> (try split) <;> (try split) <;> (try split) <;> (try split) <;> first | rfl | (exfalso; omega)) rfl dX5_sheep_13
set_option maxRecDepth 100000 in
set_option maxHeartbeats 4000000 in
theorem c_X5_of {G : GX} {S : St} {r : Row} {b : Int} (hI : IR b r) (hb : b ≤ 99999) {p : Int} (h_p : inR p) {w : Int} (h_w : inR w) : Ev G mX5_of [rf G 31, vi p, vi w] (mk G (va_up S 9 r)) (some (vi (v_of r p w))) (mk G (va_up (va_up S 13 (tl (S 13) (v_of r p w))) 9 (r))) := by
  have i0 := hI.1; have i1 := hI.2.1; have i2 := hI.2.2.1; have i3 := hI.2.2.2.1; have i4 := hI.2.2.2.2.1
  obtain ⟨p1, p2⟩ := h_p
  obtain ⟨w1, w2⟩ := h_w
  refine Ev.enter (by decide +kernel) (Nat.le_of_ble_eq_true rfl) (L := [some (rf G 31), some (vi p), some (vi w)]) rfl ?_
  refine p_oload0 dX5_of_0 ?_
  refine p_iload1 dX5_of_1 ?_
  refine p_cV1r (M2 := mX5_isSheep) ml_RX5_93 mc_X5_isSheep ⟨Nat.le_of_ble_eq_true rfl, Nat.le_of_ble_eq_true rfl⟩ (isO_m _ _) (Nat.le_of_ble_eq_true rfl) dX5_of_2 (c_X5_isSheep hI ⟨by omega, by omega⟩) ?_
  refine p_bif_eq 20 dX5_of_5 (by decide) (fun c5 => ?_) (fun c5 => ?_)
  · refine p_oload0 dX5_of_20 ?_
    refine p_ldc wc_RX5_41 dX5_of_21 ?_
    refine p_cV1r (M2 := mX5_finds) ml_RX5_61 mc_X5_finds ⟨Nat.le_of_ble_eq_true rfl, Nat.le_of_ble_eq_true rfl⟩ (isO_m _ _) (Nat.le_of_ble_eq_true rfl) dX5_of_23 (c_X5_finds (by omega)) ?_
    exact m_f (by unfold v_of; first | (rw [if_neg (by omega)]; done) | (rw [if_pos (by omega)]; first | (rw [if_neg (by omega), if_neg (by omega), if_neg (by omega)]; done) | (subst c28; first | rfl | (rw [if_pos rfl]; first | (rw [if_pos (by omega)]; done) | (rw [if_neg (by omega)]; done))))) rfl rfl dX5_of_26
  · refine p_iload2 dX5_of_8 ?_
    refine p_i2l ⟨by omega, by omega⟩ dX5_of_9 ?_
    refine p_lconst0 dX5_of_10 ?_
    refine p_ldc2 wc_RX5_46 dX5_of_11 ?_
    refine p_cS3r (M2 := mX5_in) ms_RX5_42 mc_X5_in ⟨Nat.le_of_ble_eq_true rfl, Nat.le_of_ble_eq_true rfl⟩ (Nat.le_of_ble_eq_true rfl) dX5_of_14 (c_X5_in ⟨by omega, by omega⟩ ⟨by omega, by omega⟩ ⟨by omega, by omega⟩) ?_
    refine p_bif_ne 27 dX5_of_17 (by decide) (fun c17 => ?_) (fun c17 => ?_)
    · refine p_iload2 dX5_of_27 ?_
      rcases (show w = 3 ∨ w = 4 ∨ w = 5 ∨ (w < 3 ∨ 5 < w) by omega) with c28 | c28 | c28 | c28
      · refine p_tswI ⟨by omega, by omega⟩ 0 56 dX5_of_28 (by omega) (by decide) rfl (by decide) ?_
        refine p_oload0 dX5_of_56 ?_
        refine p_iload1 dX5_of_57 ?_
        refine p_cV1r (M2 := mX5_isAsleep) ml_RX5_96 mc_X5_isAsleep ⟨Nat.le_of_ble_eq_true rfl, Nat.le_of_ble_eq_true rfl⟩ (isO_m _ _) (Nat.le_of_ble_eq_true rfl) dX5_of_58 (c_X5_isAsleep hI (by omega) (by omega)) ?_
        refine p_bif_eq 68 dX5_of_61 (by decide) (fun c61 => ?_) (fun c61 => ?_)
        · refine p_iconst dX5_of_68 ?_
          exact m_v (by unfold v_of; first | (rw [if_neg (by omega)]; done) | (rw [if_pos (by omega)]; first | (rw [if_neg (by omega), if_neg (by omega), if_neg (by omega)]; done) | (subst c28; first | rfl | (rw [if_pos rfl]; first | (rw [if_pos (by omega)]; done) | (rw [if_neg (by omega)]; done))))) (by omega) rfl rfl dX5_of_69
        · refine p_iconst dX5_of_64 ?_
          refine p_goto 69 dX5_of_65 (by decide) ?_
          exact m_v (by unfold v_of; first | (rw [if_neg (by omega)]; done) | (rw [if_pos (by omega)]; first | (rw [if_neg (by omega), if_neg (by omega), if_neg (by omega)]; done) | (subst c28; first | rfl | (rw [if_pos rfl]; first | (rw [if_pos (by omega)]; done) | (rw [if_neg (by omega)]; done))))) (by omega) rfl rfl dX5_of_69
      · refine p_tswI ⟨by omega, by omega⟩ 1 70 dX5_of_28 (by omega) (by decide) rfl (by decide) ?_
        refine p_oload0 dX5_of_70 ?_
        refine p_iload1 dX5_of_71 ?_
        refine p_cV1r (M2 := mX5_wakesOf) ml_RX5_99 mc_X5_wakesOf ⟨Nat.le_of_ble_eq_true rfl, Nat.le_of_ble_eq_true rfl⟩ (isO_m _ _) (Nat.le_of_ble_eq_true rfl) dX5_of_72 (c_X5_wakesOf hI (by omega) (by omega)) ?_
        exact m_v (by unfold v_of; first | (rw [if_neg (by omega)]; done) | (rw [if_pos (by omega)]; first | (rw [if_neg (by omega), if_neg (by omega), if_neg (by omega)]; done) | (subst c28; first | rfl | (rw [if_pos rfl]; first | (rw [if_pos (by omega)]; done) | (rw [if_neg (by omega)]; done))))) (by have := tW_le (r (17 + 3 * p)); omega) rfl rfl dX5_of_75
      · refine p_tswI ⟨by omega, by omega⟩ 2 76 dX5_of_28 (by omega) (by decide) rfl (by decide) ?_
        refine p_oload0 dX5_of_76 ?_
        refine p_iload1 dX5_of_77 ?_
        refine p_cV1r (M2 := mX5_tiresOf) ml_RX5_102 mc_X5_tiresOf ⟨Nat.le_of_ble_eq_true rfl, Nat.le_of_ble_eq_true rfl⟩ (isO_m _ _) (Nat.le_of_ble_eq_true rfl) dX5_of_78 (c_X5_tiresOf hI (by omega) (by omega)) ?_
        exact m_v (by unfold v_of; first | (rw [if_neg (by omega)]; done) | (rw [if_pos (by omega)]; first | (rw [if_neg (by omega), if_neg (by omega), if_neg (by omega)]; done) | (subst c28; first | rfl | (rw [if_pos rfl]; first | (rw [if_pos (by omega)]; done) | (rw [if_neg (by omega)]; done))))) (by have := tT_le (r (17 + 3 * p)); omega) rfl rfl dX5_of_81
      · refine p_tswO ⟨by omega, by omega⟩ 82 dX5_of_28 (by omega) (by decide) ?_
        refine p_oload0 dX5_of_82 ?_
        refine p_iload1 dX5_of_83 ?_
        refine p_iload2 dX5_of_84 ?_
        refine p_cV2r (M2 := mX5_its) ml_RX5_87 mc_X5_its ⟨Nat.le_of_ble_eq_true rfl, Nat.le_of_ble_eq_true rfl⟩ (isO_m _ _) (Nat.le_of_ble_eq_true rfl) dX5_of_85 (c_X5_its hI (by omega) (by omega)) ?_
        exact m_v (by unfold v_of; first | (rw [if_neg (by omega)]; done) | (rw [if_pos (by omega)]; first | (rw [if_neg (by omega), if_neg (by omega), if_neg (by omega)]; done) | (subst c28; first | rfl | (rw [if_pos rfl]; first | (rw [if_pos (by omega)]; done) | (rw [if_neg (by omega)]; done))))) (by have i6 := hI.2.2.2.2.2.2 p (by omega) (by omega); rcases (show w = 0 ∨ w = 1 ∨ w = 2 by omega) with q | q | q <;> subst q; rw [show 17 + 3 * p + 0 = 17 + 3 * p by omega]; omega; rw [show 17 + 3 * p + 1 = 18 + 3 * p by omega]; omega; rw [show 17 + 3 * p + 2 = 19 + 3 * p by omega]; omega) rfl rfl dX5_of_88
    · refine p_oload0 dX5_of_20 ?_
      refine p_ldc wc_RX5_41 dX5_of_21 ?_
      refine p_cV1r (M2 := mX5_finds) ml_RX5_61 mc_X5_finds ⟨Nat.le_of_ble_eq_true rfl, Nat.le_of_ble_eq_true rfl⟩ (isO_m _ _) (Nat.le_of_ble_eq_true rfl) dX5_of_23 (c_X5_finds (by omega)) ?_
      exact m_f (by unfold v_of; first | (rw [if_neg (by omega)]; done) | (rw [if_pos (by omega)]; first | (rw [if_neg (by omega), if_neg (by omega), if_neg (by omega)]; done) | (subst c28; first | rfl | (rw [if_pos rfl]; first | (rw [if_pos (by omega)]; done) | (rw [if_neg (by omega)]; done))))) rfl rfl dX5_of_26
set_option maxRecDepth 100000 in
set_option maxHeartbeats 4000000 in
theorem c_X5_set {G : GX} {S : St} {r : Row} {b : Int} (hI : IR b r) (hb : b ≤ 99999) {p : Int} (h_p : inR p) {w : Int} (h_w : inR w) {v : Int} (h_v : inR v) : Ev G mX5_set [rf G 31, vi p, vi w, vi v] (mk G (va_up S 9 r)) (some (vi (v_set r p w v))) (mk G (va_up (va_up S 13 (tl (S 13) (v_set r p w v))) 9 (r_set r p w v))) := by
  have i0 := hI.1; have i1 := hI.2.1; have i2 := hI.2.2.1; have i3 := hI.2.2.2.1; have i4 := hI.2.2.2.2.1
  obtain ⟨p1, p2⟩ := h_p
  obtain ⟨w1, w2⟩ := h_w
  obtain ⟨v1, v2⟩ := h_v
  refine Ev.enter (by decide +kernel) (Nat.le_of_ble_eq_true rfl) (L := [some (rf G 31), some (vi p), some (vi w), some (vi v), none]) rfl ?_
  refine p_iload2 dX5_set_0 ?_
  refine p_iconst dX5_set_1 ?_
  refine p_icmp_ne ⟨by omega, by omega⟩ ⟨by omega, by omega⟩ 17 dX5_set_2 (by decide) (fun c2 => ?_) (fun c2 => ?_)
  · refine p_iload2 dX5_set_17 ?_
    refine p_iconst dX5_set_18 ?_
    refine p_icmp_ne ⟨by omega, by omega⟩ ⟨by omega, by omega⟩ 38 dX5_set_19 (by decide) (fun c19 => ?_) (fun c19 => ?_)
    · refine p_iconst dX5_set_38 ?_
      refine p_istore4 rfl (Nat.le_of_ble_eq_true rfl) dX5_set_39 ?_
      refine p_oload0 dX5_set_41 ?_
      refine p_iload1 dX5_set_42 ?_
      refine p_cV1r (M2 := mX5_isSheep) ml_RX5_93 mc_X5_isSheep ⟨Nat.le_of_ble_eq_true rfl, Nat.le_of_ble_eq_true rfl⟩ (isO_m _ _) (Nat.le_of_ble_eq_true rfl) dX5_set_43 (c_X5_isSheep hI ⟨by omega, by omega⟩) ?_
      refine p_bif_eq 67 dX5_set_46 (by decide) (fun c46 => ?_) (fun c46 => ?_)
      · refine p_oload0 dX5_set_67 ?_
        refine p_ldc wc_RX5_41 dX5_set_68 ?_
        refine p_cV1r (M2 := mX5_finds) ml_RX5_61 mc_X5_finds ⟨Nat.le_of_ble_eq_true rfl, Nat.le_of_ble_eq_true rfl⟩ (isO_m _ _) (Nat.le_of_ble_eq_true rfl) dX5_set_70 (c_X5_finds (by omega)) ?_
        exact m_f (by unfold v_set ok_set; first | (rw [if_neg (by omega)]; done) | (rw [if_pos (by omega)]; done)) (by unfold r_set ok_set; first | (rw [if_neg (by omega)]; done) | (rw [if_pos (by omega)]; done)) rfl dX5_set_73
      · refine p_iload4 dX5_set_49 ?_
        refine p_if_eq ⟨by omega, by omega⟩ 67 dX5_set_51 (by decide) (fun c51 => ?_) (fun c51 => ?_)
        · refine p_oload0 dX5_set_67 ?_
          refine p_ldc wc_RX5_41 dX5_set_68 ?_
          refine p_cV1r (M2 := mX5_finds) ml_RX5_61 mc_X5_finds ⟨Nat.le_of_ble_eq_true rfl, Nat.le_of_ble_eq_true rfl⟩ (isO_m _ _) (Nat.le_of_ble_eq_true rfl) dX5_set_70 (c_X5_finds (by omega)) ?_
          exact m_f (by unfold v_set ok_set; first | (rw [if_neg (by omega)]; done) | (rw [if_pos (by omega)]; done)) (by unfold r_set ok_set; first | (rw [if_neg (by omega)]; done) | (rw [if_pos (by omega)]; done)) rfl dX5_set_73
        · refine p_oload0 dX5_set_54 ?_
          refine p_iload1 dX5_set_55 ?_
          refine p_iload2 dX5_set_56 ?_
          refine p_cS2r (M2 := mX5_spotOf) ms_RX5_54 mc_X5_spotOf ⟨Nat.le_of_ble_eq_true rfl, Nat.le_of_ble_eq_true rfl⟩ (Nat.le_of_ble_eq_true rfl) dX5_set_57 (c_X5_spotOf) ?_
          refine p_iload3 dX5_set_60 ?_
          refine p_cV2r (M2 := mX5_becomes) ml_RX5_77 mc_X5_becomes ⟨Nat.le_of_ble_eq_true rfl, Nat.le_of_ble_eq_true rfl⟩ (isO_m _ _) (Nat.le_of_ble_eq_true rfl) dX5_set_61 (c_X5_becomes (by omega)) ?_
          refine p_goto 73 dX5_set_64 (by decide) ?_
          exact m_v (by unfold v_set ok_set; first | (rw [if_neg (by omega)]; done) | (rw [if_pos (by omega)]; done)) (by have i6 := hI.2.2.2.2.2.2 p (by omega) (by omega); rcases (show w = 1 ∨ w = 2 by omega) with q | q <;> subst q; rw [show 17 + 3 * p + 1 = 18 + 3 * p by omega]; omega; rw [show 17 + 3 * p + 2 = 19 + 3 * p by omega]; omega) (by unfold r_set ok_set; first | (rw [if_neg (by omega)]; done) | (rw [if_pos (by omega)]; done)) rfl dX5_set_73
    · refine p_iload3 dX5_set_22 ?_
      refine p_i2l ⟨by omega, by omega⟩ dX5_set_23 ?_
      refine p_lconst0 dX5_set_24 ?_
      refine p_ldc2 wc_RX5_105 dX5_set_25 ?_
      refine p_cS3r (M2 := mX5_in) ms_RX5_42 mc_X5_in ⟨Nat.le_of_ble_eq_true rfl, Nat.le_of_ble_eq_true rfl⟩ (Nat.le_of_ble_eq_true rfl) dX5_set_28 (c_X5_in ⟨by omega, by omega⟩ ⟨by omega, by omega⟩ ⟨by omega, by omega⟩) ?_
      refine p_bif_eq 38 dX5_set_31 (by decide) (fun c31 => ?_) (fun c31 => ?_)
      · refine p_iconst dX5_set_38 ?_
        refine p_istore4 rfl (Nat.le_of_ble_eq_true rfl) dX5_set_39 ?_
        refine p_oload0 dX5_set_41 ?_
        refine p_iload1 dX5_set_42 ?_
        refine p_cV1r (M2 := mX5_isSheep) ml_RX5_93 mc_X5_isSheep ⟨Nat.le_of_ble_eq_true rfl, Nat.le_of_ble_eq_true rfl⟩ (isO_m _ _) (Nat.le_of_ble_eq_true rfl) dX5_set_43 (c_X5_isSheep hI ⟨by omega, by omega⟩) ?_
        refine p_bif_eq 67 dX5_set_46 (by decide) (fun c46 => ?_) (fun c46 => ?_)
        · refine p_oload0 dX5_set_67 ?_
          refine p_ldc wc_RX5_41 dX5_set_68 ?_
          refine p_cV1r (M2 := mX5_finds) ml_RX5_61 mc_X5_finds ⟨Nat.le_of_ble_eq_true rfl, Nat.le_of_ble_eq_true rfl⟩ (isO_m _ _) (Nat.le_of_ble_eq_true rfl) dX5_set_70 (c_X5_finds (by omega)) ?_
          exact m_f (by unfold v_set ok_set; first | (rw [if_neg (by omega)]; done) | (rw [if_pos (by omega)]; done)) (by unfold r_set ok_set; first | (rw [if_neg (by omega)]; done) | (rw [if_pos (by omega)]; done)) rfl dX5_set_73
        · refine p_iload4 dX5_set_49 ?_
          refine p_if_eq ⟨by omega, by omega⟩ 67 dX5_set_51 (by decide) (fun c51 => ?_) (fun c51 => ?_)
          · refine p_oload0 dX5_set_67 ?_
            refine p_ldc wc_RX5_41 dX5_set_68 ?_
            refine p_cV1r (M2 := mX5_finds) ml_RX5_61 mc_X5_finds ⟨Nat.le_of_ble_eq_true rfl, Nat.le_of_ble_eq_true rfl⟩ (isO_m _ _) (Nat.le_of_ble_eq_true rfl) dX5_set_70 (c_X5_finds (by omega)) ?_
            exact m_f (by unfold v_set ok_set; first | (rw [if_neg (by omega)]; done) | (rw [if_pos (by omega)]; done)) (by unfold r_set ok_set; first | (rw [if_neg (by omega)]; done) | (rw [if_pos (by omega)]; done)) rfl dX5_set_73
          · refine p_oload0 dX5_set_54 ?_
            refine p_iload1 dX5_set_55 ?_
            refine p_iload2 dX5_set_56 ?_
            refine p_cS2r (M2 := mX5_spotOf) ms_RX5_54 mc_X5_spotOf ⟨Nat.le_of_ble_eq_true rfl, Nat.le_of_ble_eq_true rfl⟩ (Nat.le_of_ble_eq_true rfl) dX5_set_57 (c_X5_spotOf) ?_
            refine p_iload3 dX5_set_60 ?_
            refine p_cV2r (M2 := mX5_becomes) ml_RX5_77 mc_X5_becomes ⟨Nat.le_of_ble_eq_true rfl, Nat.le_of_ble_eq_true rfl⟩ (isO_m _ _) (Nat.le_of_ble_eq_true rfl) dX5_set_61 (c_X5_becomes (by omega)) ?_
            refine p_goto 73 dX5_set_64 (by decide) ?_
            exact m_v (by unfold v_set ok_set; first | (rw [if_neg (by omega)]; done) | (rw [if_pos (by omega)]; done)) (by have i6 := hI.2.2.2.2.2.2 p (by omega) (by omega); rcases (show w = 1 ∨ w = 2 by omega) with q | q <;> subst q; rw [show 17 + 3 * p + 1 = 18 + 3 * p by omega]; omega; rw [show 17 + 3 * p + 2 = 19 + 3 * p by omega]; omega) (by unfold r_set ok_set; first | (rw [if_neg (by omega)]; done) | (rw [if_pos (by omega)]; done)) rfl dX5_set_73
      · refine p_iconst dX5_set_34 ?_
        refine p_goto 39 dX5_set_35 (by decide) ?_
        refine p_istore4 rfl (Nat.le_of_ble_eq_true rfl) dX5_set_39 ?_
        refine p_oload0 dX5_set_41 ?_
        refine p_iload1 dX5_set_42 ?_
        refine p_cV1r (M2 := mX5_isSheep) ml_RX5_93 mc_X5_isSheep ⟨Nat.le_of_ble_eq_true rfl, Nat.le_of_ble_eq_true rfl⟩ (isO_m _ _) (Nat.le_of_ble_eq_true rfl) dX5_set_43 (c_X5_isSheep hI ⟨by omega, by omega⟩) ?_
        refine p_bif_eq 67 dX5_set_46 (by decide) (fun c46 => ?_) (fun c46 => ?_)
        · refine p_oload0 dX5_set_67 ?_
          refine p_ldc wc_RX5_41 dX5_set_68 ?_
          refine p_cV1r (M2 := mX5_finds) ml_RX5_61 mc_X5_finds ⟨Nat.le_of_ble_eq_true rfl, Nat.le_of_ble_eq_true rfl⟩ (isO_m _ _) (Nat.le_of_ble_eq_true rfl) dX5_set_70 (c_X5_finds (by omega)) ?_
          exact m_f (by unfold v_set ok_set; first | (rw [if_neg (by omega)]; done) | (rw [if_pos (by omega)]; done)) (by unfold r_set ok_set; first | (rw [if_neg (by omega)]; done) | (rw [if_pos (by omega)]; done)) rfl dX5_set_73
        · refine p_iload4 dX5_set_49 ?_
          refine p_if_eq ⟨by omega, by omega⟩ 67 dX5_set_51 (by decide) (fun c51 => ?_) (fun c51 => ?_)
          · refine p_oload0 dX5_set_67 ?_
            refine p_ldc wc_RX5_41 dX5_set_68 ?_
            refine p_cV1r (M2 := mX5_finds) ml_RX5_61 mc_X5_finds ⟨Nat.le_of_ble_eq_true rfl, Nat.le_of_ble_eq_true rfl⟩ (isO_m _ _) (Nat.le_of_ble_eq_true rfl) dX5_set_70 (c_X5_finds (by omega)) ?_
            exact m_f (by unfold v_set ok_set; first | (rw [if_neg (by omega)]; done) | (rw [if_pos (by omega)]; done)) (by unfold r_set ok_set; first | (rw [if_neg (by omega)]; done) | (rw [if_pos (by omega)]; done)) rfl dX5_set_73
          · refine p_oload0 dX5_set_54 ?_
            refine p_iload1 dX5_set_55 ?_
            refine p_iload2 dX5_set_56 ?_
            refine p_cS2r (M2 := mX5_spotOf) ms_RX5_54 mc_X5_spotOf ⟨Nat.le_of_ble_eq_true rfl, Nat.le_of_ble_eq_true rfl⟩ (Nat.le_of_ble_eq_true rfl) dX5_set_57 (c_X5_spotOf) ?_
            refine p_iload3 dX5_set_60 ?_
            refine p_cV2r (M2 := mX5_becomes) ml_RX5_77 mc_X5_becomes ⟨Nat.le_of_ble_eq_true rfl, Nat.le_of_ble_eq_true rfl⟩ (isO_m _ _) (Nat.le_of_ble_eq_true rfl) dX5_set_61 (c_X5_becomes (by omega)) ?_
            refine p_goto 73 dX5_set_64 (by decide) ?_
            exact m_v (by unfold v_set ok_set; first | (rw [if_neg (by omega)]; done) | (rw [if_pos (by omega)]; done)) (by have i6 := hI.2.2.2.2.2.2 p (by omega) (by omega); rcases (show w = 1 ∨ w = 2 by omega) with q | q <;> subst q; rw [show 17 + 3 * p + 1 = 18 + 3 * p by omega]; omega; rw [show 17 + 3 * p + 2 = 19 + 3 * p by omega]; omega) (by unfold r_set ok_set; first | (rw [if_neg (by omega)]; done) | (rw [if_pos (by omega)]; done)) rfl dX5_set_73
  · refine p_iload3 dX5_set_5 ?_
    refine p_i2l ⟨by omega, by omega⟩ dX5_set_6 ?_
    refine p_lconst0 dX5_set_7 ?_
    refine p_ldc2 wc_RX5_75 dX5_set_8 ?_
    refine p_cS3r (M2 := mX5_in) ms_RX5_42 mc_X5_in ⟨Nat.le_of_ble_eq_true rfl, Nat.le_of_ble_eq_true rfl⟩ (Nat.le_of_ble_eq_true rfl) dX5_set_11 (c_X5_in ⟨by omega, by omega⟩ ⟨by omega, by omega⟩ ⟨by omega, by omega⟩) ?_
    refine p_goto 39 dX5_set_14 (by decide) ?_
    refine p_istore4 rfl (Nat.le_of_ble_eq_true rfl) dX5_set_39 ?_
    refine p_oload0 dX5_set_41 ?_
    refine p_iload1 dX5_set_42 ?_
    refine p_cV1r (M2 := mX5_isSheep) ml_RX5_93 mc_X5_isSheep ⟨Nat.le_of_ble_eq_true rfl, Nat.le_of_ble_eq_true rfl⟩ (isO_m _ _) (Nat.le_of_ble_eq_true rfl) dX5_set_43 (c_X5_isSheep hI ⟨by omega, by omega⟩) ?_
    refine p_bif_eq 67 dX5_set_46 (by decide) (fun c46 => ?_) (fun c46 => ?_)
    · refine p_oload0 dX5_set_67 ?_
      refine p_ldc wc_RX5_41 dX5_set_68 ?_
      refine p_cV1r (M2 := mX5_finds) ml_RX5_61 mc_X5_finds ⟨Nat.le_of_ble_eq_true rfl, Nat.le_of_ble_eq_true rfl⟩ (isO_m _ _) (Nat.le_of_ble_eq_true rfl) dX5_set_70 (c_X5_finds (by omega)) ?_
      exact m_f (by unfold v_set ok_set; first | (rw [if_neg (by omega)]; done) | (rw [if_pos (by omega)]; done)) (by unfold r_set ok_set; first | (rw [if_neg (by omega)]; done) | (rw [if_pos (by omega)]; done)) rfl dX5_set_73
    · refine p_iload4 dX5_set_49 ?_
      refine p_bif_eq 67 dX5_set_51 (by decide) (fun c51 => ?_) (fun c51 => ?_)
      · refine p_oload0 dX5_set_67 ?_
        refine p_ldc wc_RX5_41 dX5_set_68 ?_
        refine p_cV1r (M2 := mX5_finds) ml_RX5_61 mc_X5_finds ⟨Nat.le_of_ble_eq_true rfl, Nat.le_of_ble_eq_true rfl⟩ (isO_m _ _) (Nat.le_of_ble_eq_true rfl) dX5_set_70 (c_X5_finds (by omega)) ?_
        exact m_f (by unfold v_set ok_set; first | (rw [if_neg (by omega)]; done) | (rw [if_pos (by omega)]; done)) (by unfold r_set ok_set; first | (rw [if_neg (by omega)]; done) | (rw [if_pos (by omega)]; done)) rfl dX5_set_73
      · refine p_oload0 dX5_set_54 ?_
        refine p_iload1 dX5_set_55 ?_
        refine p_iload2 dX5_set_56 ?_
        refine p_cS2r (M2 := mX5_spotOf) ms_RX5_54 mc_X5_spotOf ⟨Nat.le_of_ble_eq_true rfl, Nat.le_of_ble_eq_true rfl⟩ (Nat.le_of_ble_eq_true rfl) dX5_set_57 (c_X5_spotOf) ?_
        refine p_iload3 dX5_set_60 ?_
        refine p_cV2r (M2 := mX5_becomes) ml_RX5_77 mc_X5_becomes ⟨Nat.le_of_ble_eq_true rfl, Nat.le_of_ble_eq_true rfl⟩ (isO_m _ _) (Nat.le_of_ble_eq_true rfl) dX5_set_61 (c_X5_becomes (by omega)) ?_
        refine p_goto 73 dX5_set_64 (by decide) ?_
        exact m_v (by unfold v_set ok_set; first | (rw [if_neg (by omega)]; done) | (rw [if_pos (by omega)]; done)) (by have i6 := hI.2.2.2.2.2.2 p (by omega) (by omega); rcases (show w = 1 ∨ w = 2 by omega) with q | q <;> subst q; rw [show 17 + 3 * p + 1 = 18 + 3 * p by omega]; omega; rw [show 17 + 3 * p + 2 = 19 + 3 * p by omega]; omega) (by unfold r_set ok_set; first | (rw [if_neg (by omega)]; done) | (rw [if_pos (by omega)]; done)) rfl dX5_set_73
set_option maxRecDepth 100000 in
set_option maxHeartbeats 4000000 in
theorem c_X5_turn {G : GX} {S : St} {r : Row} {b : Int} (hI : IR b r) (hb : b ≤ 99999) {p : Int} (h_p : inR p) {k : Int} (h_k : inR k) : Ev G mX5_turn [rf G 31, vi p, vi k] (mk G (va_up S 9 r)) (some (vi (v_turn r p k))) (mk G (va_up (va_up S 13 (tl (S 13) (v_turn r p k))) 9 (r_turn r p k))) := by
  have i0 := hI.1; have i1 := hI.2.1; have i2 := hI.2.2.1; have i3 := hI.2.2.2.1; have i4 := hI.2.2.2.2.1
  obtain ⟨p1, p2⟩ := h_p
  obtain ⟨k1, k2⟩ := h_k
  refine Ev.enter (by decide +kernel) (Nat.le_of_ble_eq_true rfl) (L := [some (rf G 31), some (vi p), some (vi k)]) rfl ?_
  refine p_oload0 dX5_turn_0 ?_
  refine p_iload1 dX5_turn_1 ?_
  refine p_cV1r (M2 := mX5_isSheep) ml_RX5_93 mc_X5_isSheep ⟨Nat.le_of_ble_eq_true rfl, Nat.le_of_ble_eq_true rfl⟩ (isO_m _ _) (Nat.le_of_ble_eq_true rfl) dX5_turn_2 (c_X5_isSheep hI ⟨by omega, by omega⟩) ?_
  refine p_bif_eq 28 dX5_turn_5 (by decide) (fun c5 => ?_) (fun c5 => ?_)
  · refine p_oload0 dX5_turn_28 ?_
    refine p_ldc wc_RX5_41 dX5_turn_29 ?_
    refine p_cV1r (M2 := mX5_finds) ml_RX5_61 mc_X5_finds ⟨Nat.le_of_ble_eq_true rfl, Nat.le_of_ble_eq_true rfl⟩ (isO_m _ _) (Nat.le_of_ble_eq_true rfl) dX5_turn_31 (c_X5_finds (by omega)) ?_
    exact m_f (by unfold v_turn; first | (rw [if_neg (by omega)]; done) | (rw [if_pos (by omega)]; done)) (by unfold r_turn; first | (rw [if_neg (by omega)]; done) | (rw [if_pos (by omega)]; done)) rfl dX5_turn_34
  · refine p_iload2 dX5_turn_8 ?_
    refine p_cS1r (M2 := mX5_isKind) ms_RX5_81 mc_X5_isKind ⟨Nat.le_of_ble_eq_true rfl, Nat.le_of_ble_eq_true rfl⟩ (Nat.le_of_ble_eq_true rfl) dX5_turn_9 (c_X5_isKind ⟨by omega, by omega⟩) ?_
    refine p_bif_eq 28 dX5_turn_12 (by decide) (fun c12 => ?_) (fun c12 => ?_)
    · refine p_oload0 dX5_turn_28 ?_
      refine p_ldc wc_RX5_41 dX5_turn_29 ?_
      refine p_cV1r (M2 := mX5_finds) ml_RX5_61 mc_X5_finds ⟨Nat.le_of_ble_eq_true rfl, Nat.le_of_ble_eq_true rfl⟩ (isO_m _ _) (Nat.le_of_ble_eq_true rfl) dX5_turn_31 (c_X5_finds (by omega)) ?_
      exact m_f (by unfold v_turn; first | (rw [if_neg (by omega)]; done) | (rw [if_pos (by omega)]; done)) (by unfold r_turn; first | (rw [if_neg (by omega)]; done) | (rw [if_pos (by omega)]; done)) rfl dX5_turn_34
    · refine p_oload0 dX5_turn_15 ?_
      refine p_iload1 dX5_turn_16 ?_
      refine p_iconst dX5_turn_17 ?_
      refine p_cS2r (M2 := mX5_spotOf) ms_RX5_54 mc_X5_spotOf ⟨Nat.le_of_ble_eq_true rfl, Nat.le_of_ble_eq_true rfl⟩ (Nat.le_of_ble_eq_true rfl) dX5_turn_18 (c_X5_spotOf0) ?_
      refine p_iload2 dX5_turn_21 ?_
      refine p_cV2r (M2 := mX5_becomes) ml_RX5_77 mc_X5_becomes ⟨Nat.le_of_ble_eq_true rfl, Nat.le_of_ble_eq_true rfl⟩ (isO_m _ _) (Nat.le_of_ble_eq_true rfl) dX5_turn_22 (c_X5_becomes (by omega)) ?_
      refine p_goto 34 dX5_turn_25 (by decide) ?_
      exact m_v (by unfold v_turn; first | (rw [if_neg (by omega)]; done) | (rw [if_pos (by omega)]; done)) (by have i6 := hI.2.2.2.2.2.2 p (by omega) (by omega); omega) (by unfold r_turn; first | (rw [if_neg (by omega)]; done) | (rw [if_pos (by omega)]; done)) rfl dX5_turn_34
set_option maxRecDepth 100000 in
set_option maxHeartbeats 4000000 in
theorem c_X5_isUnder {G : GX} {S : St} {k o : Int} (hk : 0 ≤ k ∧ k ≤ 5) (ho : 0 ≤ o ∧ o ≤ 5) : Ev G mX5_isUnder [vi k, vi o] (mk G S) (some (vi (if isu k o then 1 else 0))) (mk G (S)) := by
  refine Ev.enter (by decide +kernel) (Nat.le_of_ble_eq_true rfl) (L := [some (vi k), some (vi o)]) rfl ?_
  refine p_iload1 dX5_isUnder_0 ?_
  refine p_if_eq ⟨by omega, by omega⟩ 29 dX5_isUnder_1 (by decide) (fun c1 => ?_) (fun c1 => ?_)
  · refine p_iconst dX5_isUnder_29 ?_
    refine p_goto 34 dX5_isUnder_30 (by decide) ?_
    exact p_zret rfl (by first | exact nz0 | exact nz1 | exact nzb _) dX5_isUnder_34 (congrArg (fun z => some (vi z)) (by unfold isu; first | (rw [if_pos (by omega)]; done) | (rw [if_neg (by omega)]; done))) rfl
  · refine p_iload0 dX5_isUnder_4 ?_
    refine p_iload1 dX5_isUnder_5 ?_
    refine p_icmp_eq ⟨by omega, by omega⟩ ⟨by omega, by omega⟩ 29 dX5_isUnder_6 (by decide) (fun c6 => ?_) (fun c6 => ?_)
    · refine p_iconst dX5_isUnder_29 ?_
      refine p_goto 34 dX5_isUnder_30 (by decide) ?_
      exact p_zret rfl (by first | exact nz0 | exact nz1 | exact nzb _) dX5_isUnder_34 (congrArg (fun z => some (vi z)) (by unfold isu; first | (rw [if_pos (by omega)]; done) | (rw [if_neg (by omega)]; done))) rfl
    · refine p_iload0 dX5_isUnder_9 ?_
      refine p_iconst dX5_isUnder_10 ?_
      refine p_icmp_ne ⟨by omega, by omega⟩ ⟨by omega, by omega⟩ 19 dX5_isUnder_11 (by decide) (fun c11 => ?_) (fun c11 => ?_)
      · refine p_iload0 dX5_isUnder_19 ?_
        refine p_iconst dX5_isUnder_20 ?_
        refine p_icmp_ne ⟨by omega, by omega⟩ ⟨by omega, by omega⟩ 33 dX5_isUnder_21 (by decide) (fun c21 => ?_) (fun c21 => ?_)
        · refine p_iconst dX5_isUnder_33 ?_
          exact p_zret rfl (by first | exact nz0 | exact nz1 | exact nzb _) dX5_isUnder_34 (congrArg (fun z => some (vi z)) (by unfold isu; first | (rw [if_pos (by omega)]; done) | (rw [if_neg (by omega)]; done))) rfl
        · refine p_iload1 dX5_isUnder_24 ?_
          refine p_iconst dX5_isUnder_25 ?_
          refine p_icmp_ne ⟨by omega, by omega⟩ ⟨by omega, by omega⟩ 33 dX5_isUnder_26 (by decide) (fun c26 => ?_) (fun c26 => ?_)
          · refine p_iconst dX5_isUnder_33 ?_
            exact p_zret rfl (by first | exact nz0 | exact nz1 | exact nzb _) dX5_isUnder_34 (congrArg (fun z => some (vi z)) (by unfold isu; first | (rw [if_pos (by omega)]; done) | (rw [if_neg (by omega)]; done))) rfl
          · refine p_iconst dX5_isUnder_29 ?_
            refine p_goto 34 dX5_isUnder_30 (by decide) ?_
            exact p_zret rfl (by first | exact nz0 | exact nz1 | exact nzb _) dX5_isUnder_34 (congrArg (fun z => some (vi z)) (by unfold isu; first | (rw [if_pos (by omega)]; done) | (rw [if_neg (by omega)]; done))) rfl
      · refine p_iload1 dX5_isUnder_14 ?_
        refine p_iconst dX5_isUnder_15 ?_
        refine p_icmp_eq ⟨by omega, by omega⟩ ⟨by omega, by omega⟩ 29 dX5_isUnder_16 (by decide) (fun c16 => ?_) (fun c16 => ?_)
        · refine p_iconst dX5_isUnder_29 ?_
          refine p_goto 34 dX5_isUnder_30 (by decide) ?_
          exact p_zret rfl (by first | exact nz0 | exact nz1 | exact nzb _) dX5_isUnder_34 (congrArg (fun z => some (vi z)) (by unfold isu; first | (rw [if_pos (by omega)]; done) | (rw [if_neg (by omega)]; done))) rfl
        · refine p_iload0 dX5_isUnder_19 ?_
          refine p_iconst dX5_isUnder_20 ?_
          refine p_icmp_ne ⟨by omega, by omega⟩ ⟨by omega, by omega⟩ 33 dX5_isUnder_21 (by decide) (fun c21 => ?_) (fun c21 => ?_)
          · refine p_iconst dX5_isUnder_33 ?_
            exact p_zret rfl (by first | exact nz0 | exact nz1 | exact nzb _) dX5_isUnder_34 (congrArg (fun z => some (vi z)) (by unfold isu; first | (rw [if_pos (by omega)]; done) | (rw [if_neg (by omega)]; done))) rfl
          · refine p_iload1 dX5_isUnder_24 ?_
            refine p_iconst dX5_isUnder_25 ?_
            refine p_icmp_ne ⟨by omega, by omega⟩ ⟨by omega, by omega⟩ 33 dX5_isUnder_26 (by decide) (fun c26 => ?_) (fun c26 => ?_)
            · refine p_iconst dX5_isUnder_33 ?_
              exact p_zret rfl (by first | exact nz0 | exact nz1 | exact nzb _) dX5_isUnder_34 (congrArg (fun z => some (vi z)) (by unfold isu; first | (rw [if_pos (by omega)]; done) | (rw [if_neg (by omega)]; done))) rfl
            · refine p_iconst dX5_isUnder_29 ?_
              refine p_goto 34 dX5_isUnder_30 (by decide) ?_
              exact p_zret rfl (by first | exact nz0 | exact nz1 | exact nzb _) dX5_isUnder_34 (congrArg (fun z => some (vi z)) (by unfold isu; first | (rw [if_pos (by omega)]; done) | (rw [if_neg (by omega)]; done))) rfl
set_option maxRecDepth 100000 in
set_option maxHeartbeats 4000000 in
theorem c_X5_as {G : GX} {S : St} {r : Row} {b : Int} (hI : IR b r) (hb : b ≤ 99999) {p : Int} (h_p : inR p) {k : Int} (h_k : inR k) : Ev G mX5_as [rf G 31, vi p, vi k] (mk G (va_up S 9 r)) (some (vi (v_as r p k))) (mk G (va_up (va_up S 13 (tl (S 13) (v_as r p k))) 9 (r))) := by
  have i0 := hI.1; have i1 := hI.2.1; have i2 := hI.2.2.1; have i3 := hI.2.2.2.1; have i4 := hI.2.2.2.2.1
  obtain ⟨p1, p2⟩ := h_p
  obtain ⟨k1, k2⟩ := h_k
  refine Ev.enter (by decide +kernel) (Nat.le_of_ble_eq_true rfl) (L := [some (rf G 31), some (vi p), some (vi k)]) rfl ?_
  refine p_oload0 dX5_as_0 ?_
  refine p_iload1 dX5_as_1 ?_
  refine p_cV1r (M2 := mX5_isSheep) ml_RX5_93 mc_X5_isSheep ⟨Nat.le_of_ble_eq_true rfl, Nat.le_of_ble_eq_true rfl⟩ (isO_m _ _) (Nat.le_of_ble_eq_true rfl) dX5_as_2 (c_X5_isSheep hI ⟨by omega, by omega⟩) ?_
  refine p_bif_eq 15 dX5_as_5 (by decide) (fun c5 => ?_) (fun c5 => ?_)
  · refine p_oload0 dX5_as_15 ?_
    refine p_ldc wc_RX5_41 dX5_as_16 ?_
    refine p_cV1r (M2 := mX5_finds) ml_RX5_61 mc_X5_finds ⟨Nat.le_of_ble_eq_true rfl, Nat.le_of_ble_eq_true rfl⟩ (isO_m _ _) (Nat.le_of_ble_eq_true rfl) dX5_as_18 (c_X5_finds (by omega)) ?_
    exact m_f (by unfold v_as; first | (rw [if_neg (by omega)]; done) | (rw [if_pos (by omega), if_pos c32]; done) | (rw [if_pos (by omega), if_neg c32]; done)) rfl rfl dX5_as_21
  · refine p_iload2 dX5_as_8 ?_
    refine p_cS1r (M2 := mX5_isKind) ms_RX5_81 mc_X5_isKind ⟨Nat.le_of_ble_eq_true rfl, Nat.le_of_ble_eq_true rfl⟩ (Nat.le_of_ble_eq_true rfl) dX5_as_9 (c_X5_isKind ⟨by omega, by omega⟩) ?_
    refine p_bif_ne 22 dX5_as_12 (by decide) (fun c12 => ?_) (fun c12 => ?_)
    · refine p_oload0 dX5_as_22 ?_
      refine p_iload1 dX5_as_23 ?_
      refine p_iconst dX5_as_24 ?_
      refine p_cV2r (M2 := mX5_its) ml_RX5_87 mc_X5_its ⟨Nat.le_of_ble_eq_true rfl, Nat.le_of_ble_eq_true rfl⟩ (isO_m _ _) (Nat.le_of_ble_eq_true rfl) dX5_as_25 (c_X5_its0 hI (by omega) (by omega)) ?_
      refine p_iload2 dX5_as_28 ?_
      refine p_cS2r (M2 := mX5_isUnder) ms_RX5_107 mc_X5_isUnder ⟨Nat.le_of_ble_eq_true rfl, Nat.le_of_ble_eq_true rfl⟩ (Nat.le_of_ble_eq_true rfl) dX5_as_29 (c_X5_isUnder (by have i6 := hI.2.2.2.2.2.2 p (by omega) (by omega); omega) (by omega)) ?_
      refine p_bif_eq 44 dX5_as_32 (by decide) (fun c32 => ?_) (fun c32 => ?_)
      · refine p_oload0 dX5_as_44 ?_
        refine p_ldc wc_RX5_111 dX5_as_45 ?_
        refine p_cV1r (M2 := mX5_finds) ml_RX5_61 mc_X5_finds ⟨Nat.le_of_ble_eq_true rfl, Nat.le_of_ble_eq_true rfl⟩ (isO_m _ _) (Nat.le_of_ble_eq_true rfl) dX5_as_47 (c_X5_finds (by omega)) ?_
        exact m_f (by unfold v_as; first | (rw [if_neg (by omega)]; done) | (rw [if_pos (by omega), if_pos c32]; done) | (rw [if_pos (by omega), if_neg c32]; done)) rfl rfl dX5_as_50
      · refine p_oload0 dX5_as_35 ?_
        refine p_iload1 dX5_as_36 ?_
        refine p_iconst dX5_as_37 ?_
        refine p_cV2r (M2 := mX5_its) ml_RX5_87 mc_X5_its ⟨Nat.le_of_ble_eq_true rfl, Nat.le_of_ble_eq_true rfl⟩ (isO_m _ _) (Nat.le_of_ble_eq_true rfl) dX5_as_38 (c_X5_its1 hI (by omega) (by omega)) ?_
        refine p_goto 50 dX5_as_41 (by decide) ?_
        exact m_v (by unfold v_as; first | (rw [if_neg (by omega)]; done) | (rw [if_pos (by omega), if_pos c32]; done) | (rw [if_pos (by omega), if_neg c32]; done)) (by have i6 := hI.2.2.2.2.2.2 p (by omega) (by omega); omega) rfl rfl dX5_as_50
    · refine p_oload0 dX5_as_15 ?_
      refine p_ldc wc_RX5_41 dX5_as_16 ?_
      refine p_cV1r (M2 := mX5_finds) ml_RX5_61 mc_X5_finds ⟨Nat.le_of_ble_eq_true rfl, Nat.le_of_ble_eq_true rfl⟩ (isO_m _ _) (Nat.le_of_ble_eq_true rfl) dX5_as_18 (c_X5_finds (by omega)) ?_
      exact m_f (by unfold v_as; first | (rw [if_neg (by omega)]; done) | (rw [if_pos (by omega), if_pos c32]; done) | (rw [if_pos (by omega), if_neg c32]; done)) rfl rfl dX5_as_21
set_option maxRecDepth 100000 in
set_option maxHeartbeats 4000000 in
theorem c_X5_counts {G : GX} {S : St} {r : Row} {b : Int} (hI : IR b r) (hb : b ≤ 99999) {p : Int} (h_p : inR p) {g : Int} (h_g : inR g) : Ev G mX5_counts [rf G 31, vi p, vi g] (mk G (va_up S 9 r)) (some (vi (v_counts r p g))) (mk G (va_up (va_up S 13 (tl (S 13) (v_counts r p g))) 9 (r))) := by
  have i0 := hI.1; have i1 := hI.2.1; have i2 := hI.2.2.1; have i3 := hI.2.2.2.1; have i4 := hI.2.2.2.2.1
  obtain ⟨p1, p2⟩ := h_p
  obtain ⟨g1, g2⟩ := h_g
  refine Ev.enter (by decide +kernel) (Nat.le_of_ble_eq_true rfl) (L := [some (rf G 31), some (vi p), some (vi g)]) rfl ?_
  refine p_oload0 dX5_counts_0 ?_
  refine p_iload1 dX5_counts_1 ?_
  refine p_cV1r (M2 := mX5_isSheep) ml_RX5_93 mc_X5_isSheep ⟨Nat.le_of_ble_eq_true rfl, Nat.le_of_ble_eq_true rfl⟩ (isO_m _ _) (Nat.le_of_ble_eq_true rfl) dX5_counts_2 (c_X5_isSheep hI ⟨by omega, by omega⟩) ?_
  refine p_bif_eq 24 dX5_counts_5 (by decide) (fun c5 => ?_) (fun c5 => ?_)
  · refine p_oload0 dX5_counts_24 ?_
    refine p_ldc wc_RX5_41 dX5_counts_25 ?_
    refine p_cV1r (M2 := mX5_finds) ml_RX5_61 mc_X5_finds ⟨Nat.le_of_ble_eq_true rfl, Nat.le_of_ble_eq_true rfl⟩ (isO_m _ _) (Nat.le_of_ble_eq_true rfl) dX5_counts_27 (c_X5_finds (by omega)) ?_
    exact m_f (by unfold v_counts; first | (rw [if_neg (by omega)]; done) | (rw [if_pos (by omega)]; done)) rfl rfl dX5_counts_30
  · refine p_iload2 dX5_counts_8 ?_
    refine p_cS1r (M2 := mX5_isGuise) ms_RX5_57 mc_X5_isGuise ⟨Nat.le_of_ble_eq_true rfl, Nat.le_of_ble_eq_true rfl⟩ (Nat.le_of_ble_eq_true rfl) dX5_counts_9 (c_X5_isGuise ⟨by omega, by omega⟩) ?_
    refine p_bif_eq 24 dX5_counts_12 (by decide) (fun c12 => ?_) (fun c12 => ?_)
    · refine p_oload0 dX5_counts_24 ?_
      refine p_ldc wc_RX5_41 dX5_counts_25 ?_
      refine p_cV1r (M2 := mX5_finds) ml_RX5_61 mc_X5_finds ⟨Nat.le_of_ble_eq_true rfl, Nat.le_of_ble_eq_true rfl⟩ (isO_m _ _) (Nat.le_of_ble_eq_true rfl) dX5_counts_27 (c_X5_finds (by omega)) ?_
      exact m_f (by unfold v_counts; first | (rw [if_neg (by omega)]; done) | (rw [if_pos (by omega)]; done)) rfl rfl dX5_counts_30
    · refine p_oload0 dX5_counts_15 ?_
      refine p_iload1 dX5_counts_16 ?_
      refine p_iload2 dX5_counts_17 ?_
      refine p_cV2r (M2 := mX5_countsOf) ml_RX5_112 mc_X5_countsOf ⟨Nat.le_of_ble_eq_true rfl, Nat.le_of_ble_eq_true rfl⟩ (isO_m _ _) (Nat.le_of_ble_eq_true rfl) dX5_counts_18 (c_X5_countsOf hI (by omega) (by omega) (by omega) (by omega)) ?_
      refine p_goto 30 dX5_counts_21 (by decide) ?_
      exact m_v (by unfold v_counts; first | (rw [if_neg (by omega)]; done) | (rw [if_pos (by omega)]; done)) (by have := tk_le (k := r (17 + 3 * p)) (g := g) (m := r 2) (un_le g (r 3)); omega) rfl rfl dX5_counts_30
set_option maxRecDepth 100000 in
set_option maxHeartbeats 4000000 in
theorem c_X5_minutes {G : GX} {S : St} {r : Row} {b : Int} (hI : IR b r) (hb : b ≤ 99999) {n : Int} (h_n : inR n) : Ev G mX5_minutes [rf G 31, vi n] (mk G (va_up S 9 r)) (some (vi (v_minutes r n))) (mk G (va_up (va_up S 13 (tl (S 13) (v_minutes r n))) 9 (r_minutes r n))) := by
  have i0 := hI.1; have i1 := hI.2.1; have i2 := hI.2.2.1; have i3 := hI.2.2.2.1; have i4 := hI.2.2.2.2.1
  obtain ⟨n1, n2⟩ := h_n
  refine Ev.enter (by decide +kernel) (Nat.le_of_ble_eq_true rfl) (L := [some (rf G 31), some (vi n)]) rfl ?_
  refine p_iload1 dX5_minutes_0 ?_
  refine p_i2l ⟨by omega, by omega⟩ dX5_minutes_1 ?_
  refine p_lconst1 dX5_minutes_2 ?_
  refine p_ldc2 wc_RX5_131 dX5_minutes_3 ?_
  refine p_cS3r (M2 := mX5_in) ms_RX5_42 mc_X5_in ⟨Nat.le_of_ble_eq_true rfl, Nat.le_of_ble_eq_true rfl⟩ (Nat.le_of_ble_eq_true rfl) dX5_minutes_6 (c_X5_in ⟨by omega, by omega⟩ ⟨by omega, by omega⟩ ⟨by omega, by omega⟩) ?_
  refine p_bif_ne 19 dX5_minutes_9 (by decide) (fun c9 => ?_) (fun c9 => ?_)
  · refine p_oload0 dX5_minutes_19 ?_
    refine p_get fl_RX5_7 gm_s dX5_minutes_20 ?_
    refine p_iconst dX5_minutes_23 ?_
    refine p_iald alq_s (by omega) (by omega) dX5_minutes_24 ?_
    refine p_iload1 dX5_minutes_25 ?_
    refine p_iadd dX5_minutes_26 ?_
    refine p_ldc wc_RX5_133 dX5_minutes_27 ?_
    refine p_icmp_le ⟨by omega, by omega⟩ ⟨by omega, by omega⟩ 39 dX5_minutes_29 (by decide) (fun c29 => ?_) (fun c29 => ?_)
    · refine p_oload0 dX5_minutes_39 ?_
      refine p_iload1 dX5_minutes_40 ?_
      refine p_cV1v (M2 := mX5_minutesGo) ml_RX5_135 mc_X5_minutesGo ⟨Nat.le_of_ble_eq_true rfl, Nat.le_of_ble_eq_true rfl⟩ (isO_m _ _) (Nat.le_of_ble_eq_true rfl) dX5_minutes_41 (c_X5_minutesGo hI (by omega) (by omega)) ?_
      refine p_oload0 dX5_minutes_44 ?_
      refine p_cV0r (M2 := mX5_asleep) ml_RX5_138 mc_X5_asleep ⟨Nat.le_of_ble_eq_true rfl, Nat.le_of_ble_eq_true rfl⟩ (isO_m _ _) (Nat.le_of_ble_eq_true rfl) dX5_minutes_45 (c_X5_asleep (IR.minsR n.toNat hI)) ?_
      exact m_v (by unfold v_minutes; first | (rw [if_neg (by omega)]; done) | (rw [if_pos (by omega), if_neg (by omega)]; done) | (rw [if_pos (by omega), if_pos (by omega)]; done)) (by have hs := slp_le (IR.minsR n.toNat hI); omega) (by unfold r_minutes; first | (rw [if_neg (by omega)]; done) | (rw [if_pos (by omega)]; done)) rfl dX5_minutes_48
    · refine p_oload0 dX5_minutes_32 ?_
      refine p_ldc wc_RX5_134 dX5_minutes_33 ?_
      refine p_cV1r (M2 := mX5_finds) ml_RX5_61 mc_X5_finds ⟨Nat.le_of_ble_eq_true rfl, Nat.le_of_ble_eq_true rfl⟩ (isO_m _ _) (Nat.le_of_ble_eq_true rfl) dX5_minutes_35 (c_X5_finds (by omega)) ?_
      exact m_f (by unfold v_minutes; first | (rw [if_neg (by omega)]; done) | (rw [if_pos (by omega), if_neg (by omega)]; done) | (rw [if_pos (by omega), if_pos (by omega)]; done)) (by unfold r_minutes; first | (rw [if_neg (by omega)]; done) | (rw [if_pos (by omega)]; done)) rfl dX5_minutes_38
  · refine p_oload0 dX5_minutes_12 ?_
    refine p_ldc wc_RX5_41 dX5_minutes_13 ?_
    refine p_cV1r (M2 := mX5_finds) ml_RX5_61 mc_X5_finds ⟨Nat.le_of_ble_eq_true rfl, Nat.le_of_ble_eq_true rfl⟩ (isO_m _ _) (Nat.le_of_ble_eq_true rfl) dX5_minutes_15 (c_X5_finds (by omega)) ?_
    exact m_f (by unfold v_minutes; first | (rw [if_neg (by omega)]; done) | (rw [if_pos (by omega), if_neg (by omega)]; done) | (rw [if_pos (by omega), if_pos (by omega)]; done)) (by unfold r_minutes; first | (rw [if_neg (by omega)]; done) | (rw [if_pos (by omega)]; done)) rfl dX5_minutes_18
set_option maxRecDepth 100000 in
set_option maxHeartbeats 4000000 in
theorem c_X5_now {G : GX} {S : St} {r : Row} {b : Int} (hI : IR b r) (hb : b ≤ 99999) {w : Int} (h_w : inR w) : Ev G mX5_now [rf G 31, vi w] (mk G (va_up S 9 r)) (some (vi (v_now r w))) (mk G (va_up (va_up S 13 (tl (S 13) (v_now r w))) 9 (r))) := by
  have i0 := hI.1; have i1 := hI.2.1; have i2 := hI.2.2.1; have i3 := hI.2.2.2.1; have i4 := hI.2.2.2.2.1
  obtain ⟨w1, w2⟩ := h_w
  have j1 := slp_le hI; have j2 := pss_le hI; have j3 := wsm_le hI; have j4 := wal_le hI
  refine Ev.enter (by decide +kernel) (Nat.le_of_ble_eq_true rfl) (L := [some (rf G 31), some (vi w)]) rfl ?_
  refine p_iload1 dX5_now_0 ?_
  rcases (show w = 0 ∨ w = 1 ∨ w = 2 ∨ w = 3 ∨ w = 4 ∨ w = 5 ∨ w = 6 ∨ (w < 0 ∨ 6 < w) by omega) with c1 | c1 | c1 | c1 | c1 | c1 | c1 | c1
  · refine p_tswI ⟨by omega, by omega⟩ 0 44 dX5_now_1 (by omega) (by decide) rfl (by decide) ?_
    refine p_oload0 dX5_now_44 ?_
    refine p_get fl_RX5_7 gm_s dX5_now_45 ?_
    refine p_iconst dX5_now_48 ?_
    refine p_iald alq_s (by omega) (by omega) dX5_now_49 ?_
    exact m_v (by first | (subst c1; rfl) | (unfold v_now; first | (subst c1; simp only [c64]; rfl) | (subst c1; simp [c64]; done) | ((try split) <;> (try split) <;> (try split) <;> (try split) <;> (try split) <;> (try split) <;> (try split) <;> omega))) (by omega) rfl rfl dX5_now_50
  · refine p_tswI ⟨by omega, by omega⟩ 1 51 dX5_now_1 (by omega) (by decide) rfl (by decide) ?_
    refine p_oload0 dX5_now_51 ?_
    refine p_get fl_RX5_7 gm_s dX5_now_52 ?_
    refine p_iconst dX5_now_55 ?_
    refine p_iald alq_s (by omega) (by omega) dX5_now_56 ?_
    exact m_v (by first | (subst c1; rfl) | (unfold v_now; first | (subst c1; simp only [c64]; rfl) | (subst c1; simp [c64]; done) | ((try split) <;> (try split) <;> (try split) <;> (try split) <;> (try split) <;> (try split) <;> (try split) <;> omega))) (by omega) rfl rfl dX5_now_57
  · refine p_tswI ⟨by omega, by omega⟩ 2 58 dX5_now_1 (by omega) (by decide) rfl (by decide) ?_
    refine p_oload0 dX5_now_58 ?_
    refine p_get fl_RX5_7 gm_s dX5_now_59 ?_
    refine p_iconst dX5_now_62 ?_
    refine p_iald alq_s (by omega) (by omega) dX5_now_63 ?_
    refine p_if_ne ⟨by omega, by omega⟩ 71 dX5_now_64 (by decide) (fun c64 => ?_) (fun c64 => ?_)
    · refine p_oload0 dX5_now_71 ?_
      refine p_get fl_RX5_7 gm_s dX5_now_72 ?_
      refine p_iconst dX5_now_75 ?_
      refine p_iald alq_s (by omega) (by omega) dX5_now_76 ?_
      exact m_v (by first | (subst c1; rfl) | (unfold v_now; first | (subst c1; simp only [c64]; rfl) | (subst c1; simp [c64]; done) | ((try split) <;> (try split) <;> (try split) <;> (try split) <;> (try split) <;> (try split) <;> (try split) <;> omega))) (by omega) rfl rfl dX5_now_77
    · refine p_iconst dX5_now_67 ?_
      refine p_goto 77 dX5_now_68 (by decide) ?_
      exact m_v (by first | (subst c1; rfl) | (unfold v_now; first | (subst c1; simp only [c64]; rfl) | (subst c1; simp [c64]; done) | ((try split) <;> (try split) <;> (try split) <;> (try split) <;> (try split) <;> (try split) <;> (try split) <;> omega))) (by omega) rfl rfl dX5_now_77
  · refine p_tswI ⟨by omega, by omega⟩ 3 78 dX5_now_1 (by omega) (by decide) rfl (by decide) ?_
    refine p_oload0 dX5_now_78 ?_
    refine p_cV0r (M2 := mX5_asleep) ml_RX5_138 mc_X5_asleep ⟨Nat.le_of_ble_eq_true rfl, Nat.le_of_ble_eq_true rfl⟩ (isO_m _ _) (Nat.le_of_ble_eq_true rfl) dX5_now_79 (c_X5_asleep hI) ?_
    exact m_v (by first | (subst c1; rfl) | (unfold v_now; first | (subst c1; simp only [c64]; rfl) | (subst c1; simp [c64]; done) | ((try split) <;> (try split) <;> (try split) <;> (try split) <;> (try split) <;> (try split) <;> (try split) <;> omega))) (by omega) rfl rfl dX5_now_82
  · refine p_tswI ⟨by omega, by omega⟩ 4 83 dX5_now_1 (by omega) (by decide) rfl (by decide) ?_
    refine p_oload0 dX5_now_83 ?_
    refine p_iconst dX5_now_84 ?_
    refine p_cV1r (M2 := mX5_together) ml_RX5_142 mc_X5_together ⟨Nat.le_of_ble_eq_true rfl, Nat.le_of_ble_eq_true rfl⟩ (isO_m _ _) (Nat.le_of_ble_eq_true rfl) dX5_now_85 (c_X5_together1 hI) ?_
    exact m_v (by first | (subst c1; rfl) | (unfold v_now; first | (subst c1; simp only [c64]; rfl) | (subst c1; simp [c64]; done) | ((try split) <;> (try split) <;> (try split) <;> (try split) <;> (try split) <;> (try split) <;> (try split) <;> omega))) (by omega) rfl rfl dX5_now_88
  · refine p_tswI ⟨by omega, by omega⟩ 5 89 dX5_now_1 (by omega) (by decide) rfl (by decide) ?_
    refine p_oload0 dX5_now_89 ?_
    refine p_iconst dX5_now_90 ?_
    refine p_oload0 dX5_now_91 ?_
    refine p_get fl_RX5_7 gm_s dX5_now_92 ?_
    refine p_iconst dX5_now_95 ?_
    refine p_iald alq_s (by omega) (by omega) dX5_now_96 ?_
    refine p_ishl dX5_now_97 ?_
    refine p_iconst dX5_now_98 ?_
    refine p_isub dX5_now_99 ?_
    refine p_cV1r (M2 := mX5_wearOf) ml_RX5_145 mc_X5_wearOf ⟨Nat.le_of_ble_eq_true rfl, Nat.le_of_ble_eq_true rfl⟩ (isO_m _ _) (Nat.le_of_ble_eq_true rfl) dX5_now_100 (c_X5_wearOf hI) ?_
    exact m_v (by subst c1; rw [wof_all hI]; rfl) (by rw [wof_all hI]; omega) rfl rfl dX5_now_103
  · refine p_tswI ⟨by omega, by omega⟩ 6 104 dX5_now_1 (by omega) (by decide) rfl (by decide) ?_
    refine p_oload0 dX5_now_104 ?_
    refine p_cV0r (M2 := mX5_passing) ml_RX5_148 mc_X5_passing ⟨Nat.le_of_ble_eq_true rfl, Nat.le_of_ble_eq_true rfl⟩ (isO_m _ _) (Nat.le_of_ble_eq_true rfl) dX5_now_105 (c_X5_passing hI) ?_
    exact m_v (by first | (subst c1; rfl) | (unfold v_now; first | (subst c1; simp only [c64]; rfl) | (subst c1; simp [c64]; done) | ((try split) <;> (try split) <;> (try split) <;> (try split) <;> (try split) <;> (try split) <;> (try split) <;> omega))) (by omega) rfl rfl dX5_now_108
  · refine p_tswO ⟨by omega, by omega⟩ 109 dX5_now_1 (by omega) (by decide) ?_
    refine p_oload0 dX5_now_109 ?_
    refine p_ldc wc_RX5_41 dX5_now_110 ?_
    refine p_cV1r (M2 := mX5_finds) ml_RX5_61 mc_X5_finds ⟨Nat.le_of_ble_eq_true rfl, Nat.le_of_ble_eq_true rfl⟩ (isO_m _ _) (Nat.le_of_ble_eq_true rfl) dX5_now_112 (c_X5_finds (by omega)) ?_
    exact m_f (by first | (subst c1; rfl) | (unfold v_now; first | (subst c1; simp only [c64]; rfl) | (subst c1; simp [c64]; done) | ((try split) <;> (try split) <;> (try split) <;> (try split) <;> (try split) <;> (try split) <;> (try split) <;> omega))) rfl rfl dX5_now_115
set_option maxRecDepth 100000 in
set_option maxHeartbeats 4000000 in
theorem c_X5_on {G : GX} {S : St} {r : Row} {b : Int} (hI : IR b r) (hb : b ≤ 99999) {p : Int} (h_p : inR p) {n : Int} (h_n : inR n) {w : Int} (h_w : inR w) : Ev G mX5_on [rf G 31, vi p, vi n, vi w] (mk G (va_up S 9 r)) (some (vi (v_on r p n w))) (mk G (va_up (va_up (va_up S 12 (if (0 ≤ p ∧ p < r 0) ∧ (0 ≤ n ∧ n ≤ 100) ∧ (0 ≤ w ∧ w ≤ 1) then r else S 12)) 13 (tl (S 13) (v_on r p n w))) 9 (r))) := by
  have i0 := hI.1; have i1 := hI.2.1; have i2 := hI.2.2.1; have i3 := hI.2.2.2.1; have i4 := hI.2.2.2.2.1
  obtain ⟨p1, p2⟩ := h_p
  obtain ⟨n1, n2⟩ := h_n
  obtain ⟨w1, w2⟩ := h_w
  refine Ev.enter (by decide +kernel) (Nat.le_of_ble_eq_true rfl) (L := [some (rf G 31), some (vi p), some (vi n), some (vi w)]) rfl ?_
  refine p_oload0 dX5_on_0 ?_
  refine p_iload1 dX5_on_1 ?_
  refine p_cV1r (M2 := mX5_isSheep) ml_RX5_93 mc_X5_isSheep ⟨Nat.le_of_ble_eq_true rfl, Nat.le_of_ble_eq_true rfl⟩ (isO_m _ _) (Nat.le_of_ble_eq_true rfl) dX5_on_2 (c_X5_isSheep hI ⟨by omega, by omega⟩) ?_
  refine p_bif_eq 30 dX5_on_5 (by decide) (fun c5 => ?_) (fun c5 => ?_)
  · refine p_oload0 dX5_on_30 ?_
    refine p_ldc wc_RX5_41 dX5_on_31 ?_
    refine p_cV1r (M2 := mX5_finds) ml_RX5_61 mc_X5_finds ⟨Nat.le_of_ble_eq_true rfl, Nat.le_of_ble_eq_true rfl⟩ (isO_m _ _) (Nat.le_of_ble_eq_true rfl) dX5_on_33 (c_X5_finds (by omega)) ?_
    (rw [if_neg (by omega), vup_same S 12]; exact m_f (by unfold v_on; first | (rw [if_neg (by omega)]; done) | (rw [if_pos (by omega)]; exact congrArg _ (by omega))) rfl rfl dX5_on_36)
  · refine p_iload2 dX5_on_8 ?_
    refine p_i2l ⟨by omega, by omega⟩ dX5_on_9 ?_
    refine p_lconst0 dX5_on_10 ?_
    refine p_ldc2 wc_RX5_131 dX5_on_11 ?_
    refine p_cS3r (M2 := mX5_in) ms_RX5_42 mc_X5_in ⟨Nat.le_of_ble_eq_true rfl, Nat.le_of_ble_eq_true rfl⟩ (Nat.le_of_ble_eq_true rfl) dX5_on_14 (c_X5_in ⟨by omega, by omega⟩ ⟨by omega, by omega⟩ ⟨by omega, by omega⟩) ?_
    refine p_bif_eq 30 dX5_on_17 (by decide) (fun c17 => ?_) (fun c17 => ?_)
    · refine p_oload0 dX5_on_30 ?_
      refine p_ldc wc_RX5_41 dX5_on_31 ?_
      refine p_cV1r (M2 := mX5_finds) ml_RX5_61 mc_X5_finds ⟨Nat.le_of_ble_eq_true rfl, Nat.le_of_ble_eq_true rfl⟩ (isO_m _ _) (Nat.le_of_ble_eq_true rfl) dX5_on_33 (c_X5_finds (by omega)) ?_
      (rw [if_neg (by omega), vup_same S 12]; exact m_f (by unfold v_on; first | (rw [if_neg (by omega)]; done) | (rw [if_pos (by omega)]; exact congrArg _ (by omega))) rfl rfl dX5_on_36)
    · refine p_iload3 dX5_on_20 ?_
      refine p_i2l ⟨by omega, by omega⟩ dX5_on_21 ?_
      refine p_lconst0 dX5_on_22 ?_
      refine p_lconst1 dX5_on_23 ?_
      refine p_cS3r (M2 := mX5_in) ms_RX5_42 mc_X5_in ⟨Nat.le_of_ble_eq_true rfl, Nat.le_of_ble_eq_true rfl⟩ (Nat.le_of_ble_eq_true rfl) dX5_on_24 (c_X5_in ⟨by omega, by omega⟩ ⟨by omega, by omega⟩ ⟨by omega, by omega⟩) ?_
      refine p_bif_ne 37 dX5_on_27 (by decide) (fun c27 => ?_) (fun c27 => ?_)
      · refine p_oload0 dX5_on_37 ?_
        refine p_iload1 dX5_on_38 ?_
        refine p_iload3 dX5_on_39 ?_
        refine p_if_ne ⟨by omega, by omega⟩ 47 dX5_on_40 (by decide) (fun c40 => ?_) (fun c40 => ?_)
        · refine p_iconst dX5_on_47 ?_
          refine p_cS2r (M2 := mX5_spotOf) ms_RX5_54 mc_X5_spotOf ⟨Nat.le_of_ble_eq_true rfl, Nat.le_of_ble_eq_true rfl⟩ (Nat.le_of_ble_eq_true rfl) dX5_on_48 (c_X5_spotOf2) ?_
          refine p_iload2 dX5_on_51 ?_
          refine p_cV2r (M2 := mX5_behind) ml_RX5_157 mc_X5_behind ⟨Nat.le_of_ble_eq_true rfl, Nat.le_of_ble_eq_true rfl⟩ (isO_m _ _) (Nat.le_of_ble_eq_true rfl) dX5_on_52 (c_X5_behind hI (by omega) (by omega) (by omega)) ?_
          (rw [if_pos (by omega)]; exact m_v (S := va_up S 12 r) (by unfold v_on; first | (rw [if_neg (by omega)]; done) | (rw [if_pos (by omega)]; exact congrArg _ (by omega))) (by have i6 := (IR.minsR n.toNat hI).2.2.2.2.2.2 p (by omega) (by omega); omega) rfl rfl dX5_on_55)
        · refine p_iconst dX5_on_43 ?_
          refine p_goto 48 dX5_on_44 (by decide) ?_
          refine p_cS2r (M2 := mX5_spotOf) ms_RX5_54 mc_X5_spotOf ⟨Nat.le_of_ble_eq_true rfl, Nat.le_of_ble_eq_true rfl⟩ (Nat.le_of_ble_eq_true rfl) dX5_on_48 (c_X5_spotOf1) ?_
          refine p_iload2 dX5_on_51 ?_
          refine p_cV2r (M2 := mX5_behind) ml_RX5_157 mc_X5_behind ⟨Nat.le_of_ble_eq_true rfl, Nat.le_of_ble_eq_true rfl⟩ (isO_m _ _) (Nat.le_of_ble_eq_true rfl) dX5_on_52 (c_X5_behind hI (by omega) (by omega) (by omega)) ?_
          (rw [if_pos (by omega)]; exact m_v (S := va_up S 12 r) (by unfold v_on; first | (rw [if_neg (by omega)]; done) | (rw [if_pos (by omega)]; exact congrArg _ (by omega))) (by have i6 := (IR.minsR n.toNat hI).2.2.2.2.2.2 p (by omega) (by omega); omega) rfl rfl dX5_on_55)
      · refine p_oload0 dX5_on_30 ?_
        refine p_ldc wc_RX5_41 dX5_on_31 ?_
        refine p_cV1r (M2 := mX5_finds) ml_RX5_61 mc_X5_finds ⟨Nat.le_of_ble_eq_true rfl, Nat.le_of_ble_eq_true rfl⟩ (isO_m _ _) (Nat.le_of_ble_eq_true rfl) dX5_on_33 (c_X5_finds (by omega)) ?_
        (rw [if_neg (by omega), vup_same S 12]; exact m_f (by unfold v_on; first | (rw [if_neg (by omega)]; done) | (rw [if_pos (by omega)]; exact congrArg _ (by omega))) rfl rfl dX5_on_36)
set_option maxRecDepth 100000 in
set_option maxHeartbeats 4000000 in
theorem c_X5_worn {G : GX} {S : St} {r : Row} {b : Int} (hI : IR b r) (hb : b ≤ 99999) {m : Int} (h_m : inR m) {n : Int} (h_n : inR n) : Ev G mX5_worn [rf G 31, vi m, vi n] (mk G (va_up S 9 r)) (some (vi (v_worn r m n))) (mk G (va_up (va_up (va_up S 12 (if (0 ≤ m ∧ m < r 1) ∧ (0 ≤ n ∧ n ≤ 100) then r else S 12)) 13 (tl (S 13) (v_worn r m n))) 9 (r))) := by
  have i0 := hI.1; have i1 := hI.2.1; have i2 := hI.2.2.1; have i3 := hI.2.2.2.1; have i4 := hI.2.2.2.2.1
  obtain ⟨m1, m2⟩ := h_m
  obtain ⟨n1, n2⟩ := h_n
  refine Ev.enter (by decide +kernel) (Nat.le_of_ble_eq_true rfl) (L := [some (rf G 31), some (vi m), some (vi n)]) rfl ?_
  refine p_oload0 dX5_worn_0 ?_
  refine p_iload1 dX5_worn_1 ?_
  refine p_cV1r (M2 := mX5_isMan) ml_RX5_69 mc_X5_isMan ⟨Nat.le_of_ble_eq_true rfl, Nat.le_of_ble_eq_true rfl⟩ (isO_m _ _) (Nat.le_of_ble_eq_true rfl) dX5_worn_2 (c_X5_isMan hI ⟨by omega, by omega⟩) ?_
  refine p_bif_eq 33 dX5_worn_5 (by decide) (fun c5 => ?_) (fun c5 => ?_)
  · refine p_oload0 dX5_worn_33 ?_
    refine p_ldc wc_RX5_41 dX5_worn_34 ?_
    refine p_cV1r (M2 := mX5_finds) ml_RX5_61 mc_X5_finds ⟨Nat.le_of_ble_eq_true rfl, Nat.le_of_ble_eq_true rfl⟩ (isO_m _ _) (Nat.le_of_ble_eq_true rfl) dX5_worn_36 (c_X5_finds (by omega)) ?_
    (rw [if_neg (by omega), vup_same S 12]; exact m_f (by unfold v_worn; first | (rw [if_neg (by omega)]; done) | (rw [if_pos (by omega)]; done)) rfl rfl dX5_worn_39)
  · refine p_iload2 dX5_worn_8 ?_
    refine p_i2l ⟨by omega, by omega⟩ dX5_worn_9 ?_
    refine p_lconst0 dX5_worn_10 ?_
    refine p_ldc2 wc_RX5_131 dX5_worn_11 ?_
    refine p_cS3r (M2 := mX5_in) ms_RX5_42 mc_X5_in ⟨Nat.le_of_ble_eq_true rfl, Nat.le_of_ble_eq_true rfl⟩ (Nat.le_of_ble_eq_true rfl) dX5_worn_14 (c_X5_in ⟨by omega, by omega⟩ ⟨by omega, by omega⟩ ⟨by omega, by omega⟩) ?_
    refine p_bif_eq 33 dX5_worn_17 (by decide) (fun c17 => ?_) (fun c17 => ?_)
    · refine p_oload0 dX5_worn_33 ?_
      refine p_ldc wc_RX5_41 dX5_worn_34 ?_
      refine p_cV1r (M2 := mX5_finds) ml_RX5_61 mc_X5_finds ⟨Nat.le_of_ble_eq_true rfl, Nat.le_of_ble_eq_true rfl⟩ (isO_m _ _) (Nat.le_of_ble_eq_true rfl) dX5_worn_36 (c_X5_finds (by omega)) ?_
      (rw [if_neg (by omega), vup_same S 12]; exact m_f (by unfold v_worn; first | (rw [if_neg (by omega)]; done) | (rw [if_pos (by omega)]; done)) rfl rfl dX5_worn_39)
    · refine p_oload0 dX5_worn_20 ?_
      refine p_iload1 dX5_worn_21 ?_
      refine p_iconst dX5_worn_22 ?_
      refine p_cS2r (M2 := mX5_placeOf) ms_RX5_50 mc_X5_placeOf ⟨Nat.le_of_ble_eq_true rfl, Nat.le_of_ble_eq_true rfl⟩ (Nat.le_of_ble_eq_true rfl) dX5_worn_23 (c_X5_placeOf1) ?_
      refine p_iload2 dX5_worn_26 ?_
      refine p_cV2r (M2 := mX5_behind) ml_RX5_157 mc_X5_behind ⟨Nat.le_of_ble_eq_true rfl, Nat.le_of_ble_eq_true rfl⟩ (isO_m _ _) (Nat.le_of_ble_eq_true rfl) dX5_worn_27 (c_X5_behind hI (by omega) (by omega) (by omega)) ?_
      refine p_goto 39 dX5_worn_30 (by decide) ?_
      (rw [if_pos (by omega)]; exact m_v (S := va_up S 12 r) (by unfold v_worn; first | (rw [if_neg (by omega)]; done) | (rw [if_pos (by omega)]; done)) (by have i5 := (IR.minsR n.toNat hI).2.2.2.2.2.1 m (by omega) (by omega); omega) rfl rfl dX5_worn_39)
set_option maxRecDepth 100000 in
set_option maxHeartbeats 4000000 in
theorem c_X5_sleeps {G : GX} {S : St} {r : Row} {b : Int} (hI : IR b r) (hb : b ≤ 99999) {p : Int} (h_p : inR p) : Ev G mX5_sleeps [rf G 31, vi p] (mk G (va_up S 9 r)) (some (vi (v_sleeps r p))) (mk G (va_up (va_up (va_up S 12 (if 0 ≤ p ∧ p < r 0 then r else S 12)) 13 (tl (S 13) (v_sleeps r p))) 9 (r))) := by
  have i0 := hI.1; have i1 := hI.2.1; have i2 := hI.2.2.1; have i3 := hI.2.2.2.1; have i4 := hI.2.2.2.2.1
  obtain ⟨p1, p2⟩ := h_p
  refine Ev.enter (by decide +kernel) (Nat.le_of_ble_eq_true rfl) (L := [some (rf G 31), some (vi p)]) rfl ?_
  refine p_oload0 dX5_sleeps_0 ?_
  refine p_iload1 dX5_sleeps_1 ?_
  refine p_cV1r (M2 := mX5_isSheep) ml_RX5_93 mc_X5_isSheep ⟨Nat.le_of_ble_eq_true rfl, Nat.le_of_ble_eq_true rfl⟩ (isO_m _ _) (Nat.le_of_ble_eq_true rfl) dX5_sleeps_2 (c_X5_isSheep hI ⟨by omega, by omega⟩) ?_
  refine p_bif_eq 31 dX5_sleeps_5 (by decide) (fun c5 => ?_) (fun c5 => ?_)
  · refine p_oload0 dX5_sleeps_31 ?_
    refine p_ldc wc_RX5_41 dX5_sleeps_32 ?_
    refine p_cV1r (M2 := mX5_finds) ml_RX5_61 mc_X5_finds ⟨Nat.le_of_ble_eq_true rfl, Nat.le_of_ble_eq_true rfl⟩ (isO_m _ _) (Nat.le_of_ble_eq_true rfl) dX5_sleeps_34 (c_X5_finds (by omega)) ?_
    (rw [if_neg (by omega), vup_same S 12]; exact m_f (by unfold v_sleeps; first | (rw [if_neg (by omega)]; done) | (rw [if_pos (by omega)]; done)) rfl rfl dX5_sleeps_37)
  · refine p_oload0 dX5_sleeps_8 ?_
    refine p_oload0 dX5_sleeps_9 ?_
    refine p_iload1 dX5_sleeps_10 ?_
    refine p_iconst dX5_sleeps_11 ?_
    refine p_cS2r (M2 := mX5_spotOf) ms_RX5_54 mc_X5_spotOf ⟨Nat.le_of_ble_eq_true rfl, Nat.le_of_ble_eq_true rfl⟩ (Nat.le_of_ble_eq_true rfl) dX5_sleeps_12 (c_X5_spotOf1) ?_
    refine p_iconst dX5_sleeps_15 ?_
    refine p_sipush (by decide) (by decide) dX5_sleeps_16 ?_
    refine p_cV3r (M2 := mX5_firstAs) ml_RX5_160 mc_X5_firstAs ⟨Nat.le_of_ble_eq_true rfl, Nat.le_of_ble_eq_true rfl⟩ (isO_m _ _) (Nat.le_of_ble_eq_true rfl) dX5_sleeps_19 (c_X5_firstAs hI (by omega) (by omega) (fun b r h => by have := h.2.2.2.2.2.2 p (by omega) (by omega); exact ⟨by omega, by omega⟩) ⟨by omega, by omega⟩ (by omega)) ?_
    rw [show ((200 : Int) + 1).toNat = 201 from rfl]
    refine p_sipush (by decide) (by decide) dX5_sleeps_22 ?_
    refine p_cV2r (M2 := mX5_orNone) ml_RX5_164 mc_X5_orNone ⟨Nat.le_of_ble_eq_true rfl, Nat.le_of_ble_eq_true rfl⟩ (isO_m _ _) (Nat.le_of_ble_eq_true rfl) dX5_sleeps_25 (c_X5_orNone (S := va_up S 12 r) (by have := ft_le (P := at_ (18 + 3 * p) 0) 201 0 r; omega) (by omega)) ?_
    refine p_goto 37 dX5_sleeps_28 (by decide) ?_
    (rw [if_pos (by omega)]; exact m_f (S := va_up S 12 r) (by unfold v_sleeps; first | (rw [if_neg (by omega)]; done) | (rw [if_pos (by omega)]; done)) rfl rfl dX5_sleeps_37)
set_option maxRecDepth 100000 in
set_option maxHeartbeats 4000000 in
theorem c_X5_bare {G : GX} {S : St} {r : Row} {b : Int} (hI : IR b r) (hb : b ≤ 99999) {m : Int} (h_m : inR m) : Ev G mX5_bare [rf G 31, vi m] (mk G (va_up S 9 r)) (some (vi (v_bare r m))) (mk G (va_up (va_up (va_up S 12 (if 0 ≤ m ∧ m < r 1 then r else S 12)) 13 (tl (S 13) (v_bare r m))) 9 (r))) := by
  have i0 := hI.1; have i1 := hI.2.1; have i2 := hI.2.2.1; have i3 := hI.2.2.2.1; have i4 := hI.2.2.2.2.1
  obtain ⟨m1, m2⟩ := h_m
  refine Ev.enter (by decide +kernel) (Nat.le_of_ble_eq_true rfl) (L := [some (rf G 31), some (vi m)]) rfl ?_
  refine p_oload0 dX5_bare_0 ?_
  refine p_iload1 dX5_bare_1 ?_
  refine p_cV1r (M2 := mX5_isMan) ml_RX5_69 mc_X5_isMan ⟨Nat.le_of_ble_eq_true rfl, Nat.le_of_ble_eq_true rfl⟩ (isO_m _ _) (Nat.le_of_ble_eq_true rfl) dX5_bare_2 (c_X5_isMan hI ⟨by omega, by omega⟩) ?_
  refine p_bif_eq 32 dX5_bare_5 (by decide) (fun c5 => ?_) (fun c5 => ?_)
  · refine p_oload0 dX5_bare_32 ?_
    refine p_ldc wc_RX5_41 dX5_bare_33 ?_
    refine p_cV1r (M2 := mX5_finds) ml_RX5_61 mc_X5_finds ⟨Nat.le_of_ble_eq_true rfl, Nat.le_of_ble_eq_true rfl⟩ (isO_m _ _) (Nat.le_of_ble_eq_true rfl) dX5_bare_35 (c_X5_finds (by omega)) ?_
    (rw [if_neg (by omega), vup_same S 12]; exact m_f (by unfold v_bare; first | (rw [if_neg (by omega)]; done) | (rw [if_pos (by omega)]; done)) rfl rfl dX5_bare_38)
  · refine p_oload0 dX5_bare_8 ?_
    refine p_oload0 dX5_bare_9 ?_
    refine p_iload1 dX5_bare_10 ?_
    refine p_iconst dX5_bare_11 ?_
    refine p_cS2r (M2 := mX5_placeOf) ms_RX5_50 mc_X5_placeOf ⟨Nat.le_of_ble_eq_true rfl, Nat.le_of_ble_eq_true rfl⟩ (Nat.le_of_ble_eq_true rfl) dX5_bare_12 (c_X5_placeOf1) ?_
    refine p_bipush (by decide) (by decide) dX5_bare_15 ?_
    refine p_sipush (by decide) (by decide) dX5_bare_17 ?_
    refine p_cV3r (M2 := mX5_firstAs) ml_RX5_160 mc_X5_firstAs ⟨Nat.le_of_ble_eq_true rfl, Nat.le_of_ble_eq_true rfl⟩ (isO_m _ _) (Nat.le_of_ble_eq_true rfl) dX5_bare_20 (c_X5_firstAs hI (by omega) (by omega) (fun b r h => by have := h.2.2.2.2.2.1 m (by omega) (by omega); exact ⟨by omega, by omega⟩) ⟨by omega, by omega⟩ (by omega)) ?_
    rw [show ((200 : Int) + 1).toNat = 201 from rfl]
    refine p_sipush (by decide) (by decide) dX5_bare_23 ?_
    refine p_cV2r (M2 := mX5_orNone) ml_RX5_164 mc_X5_orNone ⟨Nat.le_of_ble_eq_true rfl, Nat.le_of_ble_eq_true rfl⟩ (isO_m _ _) (Nat.le_of_ble_eq_true rfl) dX5_bare_26 (c_X5_orNone (S := va_up S 12 r) (by have := ft_le (P := at_ (6 + 2 * m) 99) 201 0 r; omega) (by omega)) ?_
    refine p_goto 38 dX5_bare_29 (by decide) ?_
    (rw [if_pos (by omega)]; exact m_f (S := va_up S 12 r) (by unfold v_bare; first | (rw [if_neg (by omega)]; done) | (rw [if_pos (by omega)]; done)) rfl rfl dX5_bare_38)
set_option maxRecDepth 100000 in
set_option maxHeartbeats 4000000 in
theorem c_X5_quiet {G : GX} {S : St} {r : Row} {b : Int} (hI : IR b r) (hb : b ≤ 99999) : Ev G mX5_quiet [rf G 31] (mk G (va_up S 9 r)) (some (vi (v_quiet r))) (mk G (va_up (va_up (va_up S 12 r) 13 (tl (S 13) (v_quiet r))) 9 r)) := by
  refine Ev.enter (by decide +kernel) (Nat.le_of_ble_eq_true rfl) (L := [some (rf G 31)]) rfl ?_
  refine p_oload0 dX5_quiet_0 ?_
  refine p_oload0 dX5_quiet_1 ?_
  refine p_sipush (by decide) (by decide) dX5_quiet_2 ?_
  refine p_cV1r (M2 := mX5_quietIn) ml_RX5_167 mc_X5_quietIn ⟨Nat.le_of_ble_eq_true rfl, Nat.le_of_ble_eq_true rfl⟩ (isO_m _ _) (Nat.le_of_ble_eq_true rfl) dX5_quiet_5 (c_X5_quietIn hI (by omega) (by omega)) ?_
  rw [show ((200 : Int) + 1).toNat = 201 from rfl]
  refine p_sipush (by decide) (by decide) dX5_quiet_8 ?_
  refine p_cV2r (M2 := mX5_orNone) ml_RX5_164 mc_X5_orNone ⟨Nat.le_of_ble_eq_true rfl, Nat.le_of_ble_eq_true rfl⟩ (isO_m _ _) (Nat.le_of_ble_eq_true rfl) dX5_quiet_11 (c_X5_orNone (S := va_up S 12 r) (by have := ft_le (P := qt) 201 0 r; omega) (by omega)) ?_
  exact m_f (S := va_up S 12 r) rfl rfl rfl dX5_quiet_14
