set_option maxRecDepth 100000 in
set_option maxHeartbeats 4000000 in
theorem c_X4_man {G : GX} {S : St} {b : Int} (hI : IR b (S 0)) (hb : b ≤ 99999) {g : Int} (h_g : inR g) : Ev G mX4_man [rf G 0, vi g] (mk G S) (some (vi (v_man (S 0) g))) (mk G (va_up (va_up S 5 (tl (S 5) (v_man (S 0) g))) 0 (r_man (S 0) g))) := by
  have i0 := hI.1; have i1 := hI.2.1; have i2 := hI.2.2.1; have i3 := hI.2.2.2.1; have i4 := hI.2.2.2.2.1
  obtain ⟨g1, g2⟩ := h_g
  refine Ev.enter (by decide +kernel) (Nat.le_of_ble_eq_true rfl) (L := [some (rf G 0), some (vi g)]) rfl ?_
  refine p_iload1 dX4_man_0 ?_
  refine p_cS1r (M2 := mX4_isGuise) ms_RX4_40 mc_X4_isGuise ⟨Nat.le_of_ble_eq_true rfl, Nat.le_of_ble_eq_true rfl⟩ (Nat.le_of_ble_eq_true rfl) dX4_man_1 (c_X4_isGuise ⟨by omega, by omega⟩) ?_
  refine p_bif_ne 14 dX4_man_4 (by decide) (fun c4 => ?_) (fun c4 => ?_)
  · refine p_oload0 dX4_man_14 ?_
    refine p_get fl_RX4_10 gx_fold dX4_man_15 ?_
    refine p_cV0r (M2 := mX0_hasRoomForMan) ml_RX4_49 mc_X0_hasRoomForMan ⟨Nat.le_of_ble_eq_true rfl, Nat.le_of_ble_eq_true rfl⟩ (isO_fo _ _ _) (Nat.le_of_ble_eq_true rfl) dX4_man_18 (c0_hasRoomForMan hI) ?_
    refine p_bif_ne 31 dX4_man_21 (by decide) (fun c21 => ?_) (fun c21 => ?_)
    · refine p_oload0 dX4_man_31 ?_
      refine p_get fl_RX4_10 gx_fold dX4_man_32 ?_
      refine p_iload1 dX4_man_35 ?_
      refine p_iconst dX4_man_36 ?_
      refine p_cV2r (M2 := mX0_addMan) ml_RX4_54 mc_X0_addMan ⟨Nat.le_of_ble_eq_true rfl, Nat.le_of_ble_eq_true rfl⟩ (isO_fo _ _ _) (Nat.le_of_ble_eq_true rfl) dX4_man_37 (c0_addMan hI (by omega)) ?_
      exact q_g (by unfold v_man; (try split) <;> (try split) <;> (try split) <;> (try split) <;> (try split) <;> (try split) <;> (try split) <;> omega) (by omega) (by unfold r_man; (try split) <;> (try split) <;> (try split) <;> (try split) <;> (try split) <;> (try split) <;> (try split) <;> first | rfl | (exfalso; omega)) rfl dX4_man_40
    · refine p_oload0 dX4_man_24 ?_
      refine p_ldc wc_RX4_53 dX4_man_25 ?_
      refine p_cV1r (M2 := mX4_tell) ml_RX4_45 mc_X4_tell ⟨Nat.le_of_ble_eq_true rfl, Nat.le_of_ble_eq_true rfl⟩ (isO_x _ _) (Nat.le_of_ble_eq_true rfl) dX4_man_27 (c_X4_tell (by omega)) ?_
      exact q_fg (by unfold v_man; (try split) <;> (try split) <;> (try split) <;> (try split) <;> (try split) <;> (try split) <;> (try split) <;> omega) (by unfold r_man; (try split) <;> (try split) <;> (try split) <;> (try split) <;> (try split) <;> (try split) <;> (try split) <;> first | rfl | (exfalso; omega)) rfl dX4_man_30
  · refine p_oload0 dX4_man_7 ?_
    refine p_ldc wc_RX4_44 dX4_man_8 ?_
    refine p_cV1r (M2 := mX4_tell) ml_RX4_45 mc_X4_tell ⟨Nat.le_of_ble_eq_true rfl, Nat.le_of_ble_eq_true rfl⟩ (isO_x _ _) (Nat.le_of_ble_eq_true rfl) dX4_man_10 (c_X4_tell (by omega)) ?_
    exact q_fg (by unfold v_man; (try split) <;> (try split) <;> (try split) <;> (try split) <;> (try split) <;> (try split) <;> (try split) <;> omega) (by unfold r_man; (try split) <;> (try split) <;> (try split) <;> (try split) <;> (try split) <;> (try split) <;> (try split) <;> first | rfl | (exfalso; omega)) rfl dX4_man_13
set_option maxRecDepth 100000 in
set_option maxHeartbeats 4000000 in
theorem c_X4_manOf {G : GX} {S : St} {b : Int} (hI : IR b (S 0)) (hb : b ≤ 99999) {m : Int} (h_m : inR m) {w : Int} (h_w : inR w) : Ev G mX4_manOf [rf G 0, vi m, vi w] (mk G S) (some (vi (v_manOf (S 0) m w))) (mk G (va_up S 5 (tl (S 5) (v_manOf (S 0) m w)))) := by
  have i0 := hI.1; have i1 := hI.2.1; have i2 := hI.2.2.1; have i3 := hI.2.2.2.1; have i4 := hI.2.2.2.2.1
  obtain ⟨m1, m2⟩ := h_m
  obtain ⟨w1, w2⟩ := h_w
  refine Ev.enter (by decide +kernel) (Nat.le_of_ble_eq_true rfl) (L := [some (rf G 0), some (vi m), some (vi w)]) rfl ?_
  refine p_oload0 dX4_manOf_0 ?_
  refine p_get fl_RX4_10 gx_fold dX4_manOf_1 ?_
  refine p_iload1 dX4_manOf_4 ?_
  refine p_cV1r (M2 := mX0_hasMan) ml_RX4_58 mc_X0_hasMan ⟨Nat.le_of_ble_eq_true rfl, Nat.le_of_ble_eq_true rfl⟩ (isO_fo _ _ _) (Nat.le_of_ble_eq_true rfl) dX4_manOf_5 (c0_hasMan hI ⟨by omega, by omega⟩) ?_
  refine p_bif_eq 20 dX4_manOf_8 (by decide) (fun c8 => ?_) (fun c8 => ?_)
  · refine p_oload0 dX4_manOf_20 ?_
    refine p_ldc wc_RX4_44 dX4_manOf_21 ?_
    refine p_cV1r (M2 := mX4_tell) ml_RX4_45 mc_X4_tell ⟨Nat.le_of_ble_eq_true rfl, Nat.le_of_ble_eq_true rfl⟩ (isO_x _ _) (Nat.le_of_ble_eq_true rfl) dX4_manOf_23 (c_X4_tell (by omega)) ?_
    exact q_fv (by unfold v_manOf; (try split) <;> (try split) <;> (try split) <;> (try split) <;> (try split) <;> (try split) <;> (try split) <;> omega) rfl dX4_manOf_26
  · refine p_iload2 dX4_manOf_11 ?_
    refine p_if_lt ⟨by omega, by omega⟩ 20 dX4_manOf_12 (by decide) (fun c12 => ?_) (fun c12 => ?_)
    · refine p_oload0 dX4_manOf_20 ?_
      refine p_ldc wc_RX4_44 dX4_manOf_21 ?_
      refine p_cV1r (M2 := mX4_tell) ml_RX4_45 mc_X4_tell ⟨Nat.le_of_ble_eq_true rfl, Nat.le_of_ble_eq_true rfl⟩ (isO_x _ _) (Nat.le_of_ble_eq_true rfl) dX4_manOf_23 (c_X4_tell (by omega)) ?_
      exact q_fv (by unfold v_manOf; (try split) <;> (try split) <;> (try split) <;> (try split) <;> (try split) <;> (try split) <;> (try split) <;> omega) rfl dX4_manOf_26
    · refine p_iload2 dX4_manOf_15 ?_
      refine p_iconst dX4_manOf_16 ?_
      refine p_icmp_le ⟨by omega, by omega⟩ ⟨by omega, by omega⟩ 27 dX4_manOf_17 (by decide) (fun c17 => ?_) (fun c17 => ?_)
      · have i5 := hI.2.2.2.2.2.1 m (by omega) (by omega)
        refine p_iload2 dX4_manOf_27 ?_
        refine p_if_ne ⟨by omega, by omega⟩ 43 dX4_manOf_28 (by decide) (fun c28 => ?_) (fun c28 => ?_)
        · refine p_oload0 dX4_manOf_43 ?_
          refine p_get fl_RX4_10 gx_fold dX4_manOf_44 ?_
          refine p_get fl_RX4_64 g0_wears dX4_manOf_47 ?_
          refine p_iload1 dX4_manOf_50 ?_
          refine p_iald al0_wears (by omega) (by omega) dX4_manOf_51 ?_
          exact q_v (by unfold v_manOf; rw [if_pos (by omega)]; exact congrArg (S 0) (by omega)) (by omega) rfl dX4_manOf_52
        · refine p_oload0 dX4_manOf_31 ?_
          refine p_get fl_RX4_10 gx_fold dX4_manOf_32 ?_
          refine p_get fl_RX4_61 g0_guises dX4_manOf_35 ?_
          refine p_iload1 dX4_manOf_38 ?_
          refine p_iald al0_guises (by omega) (by omega) dX4_manOf_39 ?_
          refine p_goto 52 dX4_manOf_40 (by decide) ?_
          exact q_v (by unfold v_manOf; rw [if_pos (by omega)]; exact congrArg (S 0) (by omega)) (by omega) rfl dX4_manOf_52
      · refine p_oload0 dX4_manOf_20 ?_
        refine p_ldc wc_RX4_44 dX4_manOf_21 ?_
        refine p_cV1r (M2 := mX4_tell) ml_RX4_45 mc_X4_tell ⟨Nat.le_of_ble_eq_true rfl, Nat.le_of_ble_eq_true rfl⟩ (isO_x _ _) (Nat.le_of_ble_eq_true rfl) dX4_manOf_23 (c_X4_tell (by omega)) ?_
        exact q_fv (by unfold v_manOf; (try split) <;> (try split) <;> (try split) <;> (try split) <;> (try split) <;> (try split) <;> (try split) <;> omega) rfl dX4_manOf_26
set_option maxRecDepth 100000 in
set_option maxHeartbeats 4000000 in
theorem c_X4_dress {G : GX} {S : St} {b : Int} (hI : IR b (S 0)) (hb : b ≤ 99999) {m : Int} (h_m : inR m) {w : Int} (h_w : inR w) {v : Int} (h_v : inR v) : Ev G mX4_dress [rf G 0, vi m, vi w, vi v] (mk G S) (some (vi (v_dress (S 0) m w v))) (mk G (va_up (va_up S 5 (tl (S 5) (v_dress (S 0) m w v))) 0 (r_dress (S 0) m w v))) := by
  have i0 := hI.1; have i1 := hI.2.1; have i2 := hI.2.2.1; have i3 := hI.2.2.2.1; have i4 := hI.2.2.2.2.1
  obtain ⟨m1, m2⟩ := h_m
  obtain ⟨w1, w2⟩ := h_w
  obtain ⟨v1, v2⟩ := h_v
  refine Ev.enter (by decide +kernel) (Nat.le_of_ble_eq_true rfl) (L := [some (rf G 0), some (vi m), some (vi w), some (vi v), none]) rfl ?_
  refine p_oload0 dX4_dress_0 ?_
  refine p_get fl_RX4_10 gx_fold dX4_dress_1 ?_
  refine p_iload1 dX4_dress_4 ?_
  refine p_cV1r (M2 := mX0_hasMan) ml_RX4_58 mc_X0_hasMan ⟨Nat.le_of_ble_eq_true rfl, Nat.le_of_ble_eq_true rfl⟩ (isO_fo _ _ _) (Nat.le_of_ble_eq_true rfl) dX4_dress_5 (c0_hasMan hI ⟨by omega, by omega⟩) ?_
  refine p_bif_ne 18 dX4_dress_8 (by decide) (fun c8 => ?_) (fun c8 => ?_)
  · have i5 := hI.2.2.2.2.2.1 m (by omega) (by omega)
    refine p_iload2 dX4_dress_18 ?_
    refine p_if_ne ⟨by omega, by omega⟩ 53 dX4_dress_19 (by decide) (fun c19 => ?_) (fun c19 => ?_)
    · refine p_iload2 dX4_dress_53 ?_
      refine p_iconst dX4_dress_54 ?_
      refine p_icmp_ne ⟨by omega, by omega⟩ ⟨by omega, by omega⟩ 92 dX4_dress_55 (by decide) (fun c55 => ?_) (fun c55 => ?_)
      · refine p_oload0 dX4_dress_92 ?_
        refine p_ldc wc_RX4_44 dX4_dress_93 ?_
        refine p_cV1r (M2 := mX4_tell) ml_RX4_45 mc_X4_tell ⟨Nat.le_of_ble_eq_true rfl, Nat.le_of_ble_eq_true rfl⟩ (isO_x _ _) (Nat.le_of_ble_eq_true rfl) dX4_dress_95 (c_X4_tell (by omega)) ?_
        exact q_fg (by unfold v_dress; (try split) <;> (try split) <;> (try split) <;> (try split) <;> (try split) <;> (try split) <;> (try split) <;> omega) (by unfold r_dress; (try split) <;> (try split) <;> (try split) <;> (try split) <;> (try split) <;> (try split) <;> (try split) <;> first | rfl | (exfalso; omega)) rfl dX4_dress_98
      · refine p_iload3 dX4_dress_58 ?_
        refine p_iconst dX4_dress_59 ?_
        refine p_bipush (by decide) (by decide) dX4_dress_60 ?_
        refine p_cS3r (M2 := mX4_isWithin) ms_RX4_67 mc_X4_isWithin ⟨Nat.le_of_ble_eq_true rfl, Nat.le_of_ble_eq_true rfl⟩ (Nat.le_of_ble_eq_true rfl) dX4_dress_62 (c_X4_isWithin ⟨by omega, by omega⟩ ⟨by omega, by omega⟩ ⟨by omega, by omega⟩) ?_
        refine p_bif_eq 92 dX4_dress_65 (by decide) (fun c65 => ?_) (fun c65 => ?_)
        · refine p_oload0 dX4_dress_92 ?_
          refine p_ldc wc_RX4_44 dX4_dress_93 ?_
          refine p_cV1r (M2 := mX4_tell) ml_RX4_45 mc_X4_tell ⟨Nat.le_of_ble_eq_true rfl, Nat.le_of_ble_eq_true rfl⟩ (isO_x _ _) (Nat.le_of_ble_eq_true rfl) dX4_dress_95 (c_X4_tell (by omega)) ?_
          exact q_fg (by unfold v_dress; (try split) <;> (try split) <;> (try split) <;> (try split) <;> (try split) <;> (try split) <;> (try split) <;> omega) (by unfold r_dress; (try split) <;> (try split) <;> (try split) <;> (try split) <;> (try split) <;> (try split) <;> (try split) <;> first | rfl | (exfalso; omega)) rfl dX4_dress_98
        · refine p_oload0 dX4_dress_68 ?_
          refine p_get fl_RX4_10 gx_fold dX4_dress_69 ?_
          refine p_get fl_RX4_64 g0_wears dX4_dress_72 ?_
          refine p_iload1 dX4_dress_75 ?_
          refine p_iald al0_wears (by omega) (by omega) dX4_dress_76 ?_
          refine p_istore4 rfl (Nat.le_of_ble_eq_true rfl) dX4_dress_77 ?_
          refine p_oload0 dX4_dress_79 ?_
          refine p_get fl_RX4_10 gx_fold dX4_dress_80 ?_
          refine p_get fl_RX4_64 g0_wears dX4_dress_83 ?_
          refine p_iload1 dX4_dress_86 ?_
          refine p_iload3 dX4_dress_87 ?_
          refine p_iast al0_wears (by omega) (by omega) (as0_wears (by omega) (by omega)) dX4_dress_88 ?_
          refine p_iload4 dX4_dress_89 ?_
          exact q_g (by unfold v_dress; rw [if_pos (by omega)]; exact congrArg (S 0) (by omega)) (by omega) (by unfold r_dress; rw [if_pos (by omega)]; rw [show 5 + 2 * m + w = 6 + 2 * m by omega]) rfl dX4_dress_91
    · refine p_iload3 dX4_dress_22 ?_
      refine p_cS1r (M2 := mX4_isGuise) ms_RX4_40 mc_X4_isGuise ⟨Nat.le_of_ble_eq_true rfl, Nat.le_of_ble_eq_true rfl⟩ (Nat.le_of_ble_eq_true rfl) dX4_dress_23 (c_X4_isGuise ⟨by omega, by omega⟩) ?_
      refine p_bif_eq 53 dX4_dress_26 (by decide) (fun c26 => ?_) (fun c26 => ?_)
      · refine p_iload2 dX4_dress_53 ?_
        refine p_iconst dX4_dress_54 ?_
        refine p_icmp_ne ⟨by omega, by omega⟩ ⟨by omega, by omega⟩ 92 dX4_dress_55 (by decide) (fun c55 => ?_) (fun c55 => ?_)
        · refine p_oload0 dX4_dress_92 ?_
          refine p_ldc wc_RX4_44 dX4_dress_93 ?_
          refine p_cV1r (M2 := mX4_tell) ml_RX4_45 mc_X4_tell ⟨Nat.le_of_ble_eq_true rfl, Nat.le_of_ble_eq_true rfl⟩ (isO_x _ _) (Nat.le_of_ble_eq_true rfl) dX4_dress_95 (c_X4_tell (by omega)) ?_
          exact q_fg (by unfold v_dress; (try split) <;> (try split) <;> (try split) <;> (try split) <;> (try split) <;> (try split) <;> (try split) <;> omega) (by unfold r_dress; (try split) <;> (try split) <;> (try split) <;> (try split) <;> (try split) <;> (try split) <;> (try split) <;> first | rfl | (exfalso; omega)) rfl dX4_dress_98
        · refine p_iload3 dX4_dress_58 ?_
          refine p_iconst dX4_dress_59 ?_
          refine p_bipush (by decide) (by decide) dX4_dress_60 ?_
          refine p_cS3r (M2 := mX4_isWithin) ms_RX4_67 mc_X4_isWithin ⟨Nat.le_of_ble_eq_true rfl, Nat.le_of_ble_eq_true rfl⟩ (Nat.le_of_ble_eq_true rfl) dX4_dress_62 (c_X4_isWithin ⟨by omega, by omega⟩ ⟨by omega, by omega⟩ ⟨by omega, by omega⟩) ?_
          refine p_bif_eq 92 dX4_dress_65 (by decide) (fun c65 => ?_) (fun c65 => ?_)
          · refine p_oload0 dX4_dress_92 ?_
            refine p_ldc wc_RX4_44 dX4_dress_93 ?_
            refine p_cV1r (M2 := mX4_tell) ml_RX4_45 mc_X4_tell ⟨Nat.le_of_ble_eq_true rfl, Nat.le_of_ble_eq_true rfl⟩ (isO_x _ _) (Nat.le_of_ble_eq_true rfl) dX4_dress_95 (c_X4_tell (by omega)) ?_
            exact q_fg (by unfold v_dress; (try split) <;> (try split) <;> (try split) <;> (try split) <;> (try split) <;> (try split) <;> (try split) <;> omega) (by unfold r_dress; (try split) <;> (try split) <;> (try split) <;> (try split) <;> (try split) <;> (try split) <;> (try split) <;> first | rfl | (exfalso; omega)) rfl dX4_dress_98
          · refine p_oload0 dX4_dress_68 ?_
            refine p_get fl_RX4_10 gx_fold dX4_dress_69 ?_
            refine p_get fl_RX4_64 g0_wears dX4_dress_72 ?_
            refine p_iload1 dX4_dress_75 ?_
            refine p_iald al0_wears (by omega) (by omega) dX4_dress_76 ?_
            refine p_istore4 rfl (Nat.le_of_ble_eq_true rfl) dX4_dress_77 ?_
            refine p_oload0 dX4_dress_79 ?_
            refine p_get fl_RX4_10 gx_fold dX4_dress_80 ?_
            refine p_get fl_RX4_64 g0_wears dX4_dress_83 ?_
            refine p_iload1 dX4_dress_86 ?_
            refine p_iload3 dX4_dress_87 ?_
            refine p_iast al0_wears (by omega) (by omega) (as0_wears (by omega) (by omega)) dX4_dress_88 ?_
            refine p_iload4 dX4_dress_89 ?_
            exact q_g (by unfold v_dress; rw [if_pos (by omega)]; exact congrArg (S 0) (by omega)) (by omega) (by unfold r_dress; rw [if_pos (by omega)]; rw [show 5 + 2 * m + w = 6 + 2 * m by omega]) rfl dX4_dress_91
      · refine p_oload0 dX4_dress_29 ?_
        refine p_get fl_RX4_10 gx_fold dX4_dress_30 ?_
        refine p_get fl_RX4_61 g0_guises dX4_dress_33 ?_
        refine p_iload1 dX4_dress_36 ?_
        refine p_iald al0_guises (by omega) (by omega) dX4_dress_37 ?_
        refine p_istore4 rfl (Nat.le_of_ble_eq_true rfl) dX4_dress_38 ?_
        refine p_oload0 dX4_dress_40 ?_
        refine p_get fl_RX4_10 gx_fold dX4_dress_41 ?_
        refine p_get fl_RX4_61 g0_guises dX4_dress_44 ?_
        refine p_iload1 dX4_dress_47 ?_
        refine p_iload3 dX4_dress_48 ?_
        refine p_iast al0_guises (by omega) (by omega) (as0_guises (by omega) (by omega)) dX4_dress_49 ?_
        refine p_iload4 dX4_dress_50 ?_
        exact q_g (by unfold v_dress; rw [if_pos (by omega)]; exact congrArg (S 0) (by omega)) (by omega) (by unfold r_dress; rw [if_pos (by omega)]; rw [show 5 + 2 * m + w = 5 + 2 * m by omega]) rfl dX4_dress_52
  · refine p_oload0 dX4_dress_11 ?_
    refine p_ldc wc_RX4_44 dX4_dress_12 ?_
    refine p_cV1r (M2 := mX4_tell) ml_RX4_45 mc_X4_tell ⟨Nat.le_of_ble_eq_true rfl, Nat.le_of_ble_eq_true rfl⟩ (isO_x _ _) (Nat.le_of_ble_eq_true rfl) dX4_dress_14 (c_X4_tell (by omega)) ?_
    exact q_fg (by unfold v_dress; (try split) <;> (try split) <;> (try split) <;> (try split) <;> (try split) <;> (try split) <;> (try split) <;> omega) (by unfold r_dress; (try split) <;> (try split) <;> (try split) <;> (try split) <;> (try split) <;> (try split) <;> (try split) <;> first | rfl | (exfalso; omega)) rfl dX4_dress_17
set_option maxRecDepth 100000 in
set_option maxHeartbeats 4000000 in
theorem c_X4_first {G : GX} {S : St} {b : Int} (hI : IR b (S 0)) (hb : b ≤ 99999) {m : Int} (h_m : inR m) : Ev G mX4_first [rf G 0, vi m] (mk G S) (some (vi (v_first (S 0) m))) (mk G (va_up (va_up S 5 (tl (S 5) (v_first (S 0) m))) 0 (r_first (S 0) m))) := by
  have i0 := hI.1; have i1 := hI.2.1; have i2 := hI.2.2.1; have i3 := hI.2.2.2.1; have i4 := hI.2.2.2.2.1
  obtain ⟨m1, m2⟩ := h_m
  refine Ev.enter (by decide +kernel) (Nat.le_of_ble_eq_true rfl) (L := [some (rf G 0), some (vi m), none]) rfl ?_
  refine p_oload0 dX4_first_0 ?_
  refine p_get fl_RX4_10 gx_fold dX4_first_1 ?_
  refine p_iload1 dX4_first_4 ?_
  refine p_cV1r (M2 := mX0_hasMan) ml_RX4_58 mc_X0_hasMan ⟨Nat.le_of_ble_eq_true rfl, Nat.le_of_ble_eq_true rfl⟩ (isO_fo _ _ _) (Nat.le_of_ble_eq_true rfl) dX4_first_5 (c0_hasMan hI ⟨by omega, by omega⟩) ?_
  refine p_bif_ne 18 dX4_first_8 (by decide) (fun c8 => ?_) (fun c8 => ?_)
  · refine p_oload0 dX4_first_18 ?_
    refine p_get fl_RX4_10 gx_fold dX4_first_19 ?_
    refine p_get fl_RX4_71 g0_turn dX4_first_22 ?_
    refine p_istore2 rfl (Nat.le_of_ble_eq_true rfl) dX4_first_25 ?_
    refine p_oload0 dX4_first_26 ?_
    refine p_get fl_RX4_10 gx_fold dX4_first_27 ?_
    refine p_iload1 dX4_first_30 ?_
    refine p_put fw_RX4_71 rfl rfl p0_turn dX4_first_31 ?_
    refine p_iload2 dX4_first_34 ?_
    exact q_g (by unfold v_first; (try split) <;> (try split) <;> (try split) <;> (try split) <;> (try split) <;> (try split) <;> (try split) <;> omega) (by omega) (by unfold r_first; (try split) <;> (try split) <;> (try split) <;> (try split) <;> (try split) <;> (try split) <;> (try split) <;> first | rfl | (exfalso; omega)) rfl dX4_first_35
  · refine p_oload0 dX4_first_11 ?_
    refine p_ldc wc_RX4_44 dX4_first_12 ?_
    refine p_cV1r (M2 := mX4_tell) ml_RX4_45 mc_X4_tell ⟨Nat.le_of_ble_eq_true rfl, Nat.le_of_ble_eq_true rfl⟩ (isO_x _ _) (Nat.le_of_ble_eq_true rfl) dX4_first_14 (c_X4_tell (by omega)) ?_
    exact q_fg (by unfold v_first; (try split) <;> (try split) <;> (try split) <;> (try split) <;> (try split) <;> (try split) <;> (try split) <;> omega) (by unfold r_first; (try split) <;> (try split) <;> (try split) <;> (try split) <;> (try split) <;> (try split) <;> (try split) <;> first | rfl | (exfalso; omega)) rfl dX4_first_17
set_option maxRecDepth 100000 in
set_option maxHeartbeats 4000000 in
theorem c_X4_goesHome {G : GX} {S : St} {b : Int} (hI : IR b (S 0)) (hb : b ≤ 99999) : Ev G mX4_goesHome [rf G 0] (mk G S) (some (vi (v_goesHome (S 0)))) (mk G (va_up (va_up S 5 (tl (S 5) (v_goesHome (S 0)))) 0 (r_goesHome (S 0)))) := by
  have i0 := hI.1; have i1 := hI.2.1; have i2 := hI.2.2.1; have i3 := hI.2.2.2.1; have i4 := hI.2.2.2.2.1
  refine Ev.enter (by decide +kernel) (Nat.le_of_ble_eq_true rfl) (L := [some (rf G 0)]) rfl ?_
  refine p_oload0 dX4_goesHome_0 ?_
  refine p_get fl_RX4_10 gx_fold dX4_goesHome_1 ?_
  refine p_get fl_RX4_75 g0_manCount dX4_goesHome_4 ?_
  refine p_if_ne ⟨by omega, by omega⟩ 17 dX4_goesHome_7 (by decide) (fun c7 => ?_) (fun c7 => ?_)
  · refine p_oload0 dX4_goesHome_17 ?_
    refine p_get fl_RX4_10 gx_fold dX4_goesHome_18 ?_
    refine p_cV0v (M2 := mX0_dropLastMan) ml_RX4_79 mc_X0_dropLastMan ⟨Nat.le_of_ble_eq_true rfl, Nat.le_of_ble_eq_true rfl⟩ (isO_fo _ _ _) (Nat.le_of_ble_eq_true rfl) dX4_goesHome_21 (c0_dropLastMan hI (by omega)) ?_
    refine p_oload0 dX4_goesHome_24 ?_
    refine p_get fl_RX4_10 gx_fold dX4_goesHome_25 ?_
    refine p_get fl_RX4_75 g0_manCount dX4_goesHome_28 ?_
    exact q_g (by unfold v_goesHome; rw [if_neg (by omega)]; show ghR (S 0) 1 = S 0 1 - 1; unfold ghR; rw [uz_ne _ _ (by omega), uz_self]) (by show -1000000000 ≤ ghR (S 0) 1; unfold ghR; rw [uz_ne _ _ (by omega), uz_self]; omega) (by unfold r_goesHome; (try split) <;> (try split) <;> (try split) <;> (try split) <;> (try split) <;> (try split) <;> (try split) <;> first | rfl | (exfalso; omega)) rfl dX4_goesHome_31
  · refine p_oload0 dX4_goesHome_10 ?_
    refine p_ldc wc_RX4_78 dX4_goesHome_11 ?_
    refine p_cV1r (M2 := mX4_tell) ml_RX4_45 mc_X4_tell ⟨Nat.le_of_ble_eq_true rfl, Nat.le_of_ble_eq_true rfl⟩ (isO_x _ _) (Nat.le_of_ble_eq_true rfl) dX4_goesHome_13 (c_X4_tell (by omega)) ?_
    exact q_fg (by unfold v_goesHome; (try split) <;> (try split) <;> (try split) <;> (try split) <;> (try split) <;> (try split) <;> (try split) <;> omega) (by unfold r_goesHome; (try split) <;> (try split) <;> (try split) <;> (try split) <;> (try split) <;> (try split) <;> (try split) <;> first | rfl | (exfalso; omega)) rfl dX4_goesHome_16
set_option maxRecDepth 100000 in
set_option maxHeartbeats 4000000 in
theorem c_X4_sheep {G : GX} {S : St} {b : Int} (hI : IR b (S 0)) (hb : b ≤ 99999) {k : Int} (h_k : inR k) : Ev G mX4_sheep [rf G 0, vi k] (mk G S) (some (vi (v_sheep (S 0) k))) (mk G (va_up (va_up S 5 (tl (S 5) (v_sheep (S 0) k))) 0 (r_sheep (S 0) k))) := by
  have i0 := hI.1; have i1 := hI.2.1; have i2 := hI.2.2.1; have i3 := hI.2.2.2.1; have i4 := hI.2.2.2.2.1
  obtain ⟨k1, k2⟩ := h_k
  refine Ev.enter (by decide +kernel) (Nat.le_of_ble_eq_true rfl) (L := [some (rf G 0), some (vi k)]) rfl ?_
  refine p_iload1 dX4_sheep_0 ?_
  refine p_cS1r (M2 := mX1_isKind) ms_RX4_82 mc_X1_isKind ⟨Nat.le_of_ble_eq_true rfl, Nat.le_of_ble_eq_true rfl⟩ (Nat.le_of_ble_eq_true rfl) dX4_sheep_1 (c_X1_isKind ⟨by omega, by omega⟩) ?_
  refine p_bif_ne 14 dX4_sheep_4 (by decide) (fun c4 => ?_) (fun c4 => ?_)
  · refine p_oload0 dX4_sheep_14 ?_
    refine p_get fl_RX4_10 gx_fold dX4_sheep_15 ?_
    refine p_cV0r (M2 := mX0_hasRoomForSheep) ml_RX4_87 mc_X0_hasRoomForSheep ⟨Nat.le_of_ble_eq_true rfl, Nat.le_of_ble_eq_true rfl⟩ (isO_fo _ _ _) (Nat.le_of_ble_eq_true rfl) dX4_sheep_18 (c0_hasRoomForSheep hI) ?_
    refine p_bif_ne 31 dX4_sheep_21 (by decide) (fun c21 => ?_) (fun c21 => ?_)
    · refine p_oload0 dX4_sheep_31 ?_
      refine p_get fl_RX4_10 gx_fold dX4_sheep_32 ?_
      refine p_iload1 dX4_sheep_35 ?_
      refine p_bipush (by decide) (by decide) dX4_sheep_36 ?_
      refine p_cV2r (M2 := mX0_addSheep) ml_RX4_90 mc_X0_addSheep ⟨Nat.le_of_ble_eq_true rfl, Nat.le_of_ble_eq_true rfl⟩ (isO_fo _ _ _) (Nat.le_of_ble_eq_true rfl) dX4_sheep_38 (c0_addSheep hI (by omega)) ?_
      exact q_g (by unfold v_sheep; (try split) <;> (try split) <;> (try split) <;> (try split) <;> (try split) <;> (try split) <;> (try split) <;> omega) (by omega) (by unfold r_sheep; (try split) <;> (try split) <;> (try split) <;> (try split) <;> (try split) <;> (try split) <;> (try split) <;> first | rfl | (exfalso; omega)) rfl dX4_sheep_41
    · refine p_oload0 dX4_sheep_24 ?_
      refine p_ldc wc_RX4_53 dX4_sheep_25 ?_
      refine p_cV1r (M2 := mX4_tell) ml_RX4_45 mc_X4_tell ⟨Nat.le_of_ble_eq_true rfl, Nat.le_of_ble_eq_true rfl⟩ (isO_x _ _) (Nat.le_of_ble_eq_true rfl) dX4_sheep_27 (c_X4_tell (by omega)) ?_
      exact q_fg (by unfold v_sheep; (try split) <;> (try split) <;> (try split) <;> (try split) <;> (try split) <;> (try split) <;> (try split) <;> omega) (by unfold r_sheep; (try split) <;> (try split) <;> (try split) <;> (try split) <;> (try split) <;> (try split) <;> (try split) <;> first | rfl | (exfalso; omega)) rfl dX4_sheep_30
  · refine p_oload0 dX4_sheep_7 ?_
    refine p_ldc wc_RX4_44 dX4_sheep_8 ?_
    refine p_cV1r (M2 := mX4_tell) ml_RX4_45 mc_X4_tell ⟨Nat.le_of_ble_eq_true rfl, Nat.le_of_ble_eq_true rfl⟩ (isO_x _ _) (Nat.le_of_ble_eq_true rfl) dX4_sheep_10 (c_X4_tell (by omega)) ?_
    exact q_fg (by unfold v_sheep; (try split) <;> (try split) <;> (try split) <;> (try split) <;> (try split) <;> (try split) <;> (try split) <;> omega) (by unfold r_sheep; (try split) <;> (try split) <;> (try split) <;> (try split) <;> (try split) <;> (try split) <;> (try split) <;> first | rfl | (exfalso; omega)) rfl dX4_sheep_13
set_option maxRecDepth 100000 in
set_option maxHeartbeats 4000000 in
theorem c_X4_of {G : GX} {S : St} {b : Int} (hI : IR b (S 0)) (hb : b ≤ 99999) {p : Int} (h_p : inR p) {w : Int} (h_w : inR w) : Ev G mX4_of [rf G 0, vi p, vi w] (mk G S) (some (vi (v_of (S 0) p w))) (mk G (va_up S 5 (tl (S 5) (v_of (S 0) p w)))) := by
  have i0 := hI.1; have i1 := hI.2.1; have i2 := hI.2.2.1; have i3 := hI.2.2.2.1; have i4 := hI.2.2.2.2.1
  obtain ⟨p1, p2⟩ := h_p
  obtain ⟨w1, w2⟩ := h_w
  refine Ev.enter (by decide +kernel) (Nat.le_of_ble_eq_true rfl) (L := [some (rf G 0), some (vi p), some (vi w)]) rfl ?_
  refine p_oload0 dX4_of_0 ?_
  refine p_get fl_RX4_10 gx_fold dX4_of_1 ?_
  refine p_iload1 dX4_of_4 ?_
  refine p_cV1r (M2 := mX0_hasSheep) ml_RX4_93 mc_X0_hasSheep ⟨Nat.le_of_ble_eq_true rfl, Nat.le_of_ble_eq_true rfl⟩ (isO_fo _ _ _) (Nat.le_of_ble_eq_true rfl) dX4_of_5 (c0_hasSheep hI ⟨by omega, by omega⟩) ?_
  refine p_bif_ne 18 dX4_of_8 (by decide) (fun c8 => ?_) (fun c8 => ?_)
  · have i6 := hI.2.2.2.2.2.2 p (by omega) (by omega)
    have j1 := tW_le (S 0 (17 + 3 * p)); have j2 := tT_le (S 0 (17 + 3 * p))
    refine p_iload2 dX4_of_18 ?_
    rcases (show w = 0 ∨ w = 1 ∨ w = 2 ∨ w = 3 ∨ w = 4 ∨ w = 5 ∨ (w < 0 ∨ 5 < w) by omega) with c19 | c19 | c19 | c19 | c19 | c19 | c19
    · refine p_tswI ⟨by omega, by omega⟩ 0 56 dX4_of_19 (by omega) (by decide) rfl (by decide) ?_
      refine p_oload0 dX4_of_56 ?_
      refine p_get fl_RX4_10 gx_fold dX4_of_57 ?_
      refine p_get fl_RX4_96 g0_kinds dX4_of_60 ?_
      refine p_iload1 dX4_of_63 ?_
      refine p_iald al0_kinds (by omega) (by omega) dX4_of_64 ?_
      exact q_v (by subst c19; unfold v_of; rw [if_pos (by omega)]; exact congrArg (S 0) (by omega)) (by omega) rfl dX4_of_65
    · refine p_tswI ⟨by omega, by omega⟩ 1 66 dX4_of_19 (by omega) (by decide) rfl (by decide) ?_
      refine p_oload0 dX4_of_66 ?_
      refine p_get fl_RX4_10 gx_fold dX4_of_67 ?_
      refine p_get fl_RX4_99 g0_wants dX4_of_70 ?_
      refine p_iload1 dX4_of_73 ?_
      refine p_iald al0_wants (by omega) (by omega) dX4_of_74 ?_
      exact q_v (by subst c19; unfold v_of; rw [if_pos (by omega)]; exact congrArg (S 0) (by omega)) (by omega) rfl dX4_of_75
    · refine p_tswI ⟨by omega, by omega⟩ 2 76 dX4_of_19 (by omega) (by decide) rfl (by decide) ?_
      refine p_oload0 dX4_of_76 ?_
      refine p_get fl_RX4_10 gx_fold dX4_of_77 ?_
      refine p_get fl_RX4_102 g0_seen dX4_of_80 ?_
      refine p_iload1 dX4_of_83 ?_
      refine p_iald al0_seen (by omega) (by omega) dX4_of_84 ?_
      exact q_v (by subst c19; unfold v_of; rw [if_pos (by omega)]; exact congrArg (S 0) (by omega)) (by omega) rfl dX4_of_85
    · refine p_tswI ⟨by omega, by omega⟩ 3 86 dX4_of_19 (by omega) (by decide) rfl (by decide) ?_
      refine p_oload0 dX4_of_86 ?_
      refine p_get fl_RX4_10 gx_fold dX4_of_87 ?_
      refine p_iload1 dX4_of_90 ?_
      refine p_cV1r (M2 := mX0_isAsleep) ml_RX4_105 mc_X0_isAsleep ⟨Nat.le_of_ble_eq_true rfl, Nat.le_of_ble_eq_true rfl⟩ (isO_fo _ _ _) (Nat.le_of_ble_eq_true rfl) dX4_of_91 (c0_isAsleep hI (by omega) (by omega)) ?_
      refine p_bif_eq 101 dX4_of_94 (by decide) (fun c94 => ?_) (fun c94 => ?_)
      · refine p_iconst dX4_of_101 ?_
        exact q_v (by subst c19; unfold v_of; rw [if_pos (by omega)]; simp [c94]) (by omega) rfl dX4_of_102
      · refine p_iconst dX4_of_97 ?_
        refine p_goto 102 dX4_of_98 (by decide) ?_
        exact q_v (by subst c19; unfold v_of; rw [if_pos (by omega)]; simp [c94]) (by omega) rfl dX4_of_102
    · refine p_tswI ⟨by omega, by omega⟩ 4 103 dX4_of_19 (by omega) (by decide) rfl (by decide) ?_
      refine p_oload0 dX4_of_103 ?_
      refine p_get fl_RX4_10 gx_fold dX4_of_104 ?_
      refine p_get fl_RX4_96 g0_kinds dX4_of_107 ?_
      refine p_iload1 dX4_of_110 ?_
      refine p_iald al0_kinds (by omega) (by omega) dX4_of_111 ?_
      refine p_cS1r (M2 := mX1_wakesBy) ms_RX4_108 mc_X1_wakesBy ⟨Nat.le_of_ble_eq_true rfl, Nat.le_of_ble_eq_true rfl⟩ (Nat.le_of_ble_eq_true rfl) dX4_of_112 (c_X1_wakesBy (by omega)) ?_
      exact q_v (by subst c19; unfold v_of; rw [if_pos (by omega)]; rfl) (by omega) rfl dX4_of_115
    · refine p_tswI ⟨by omega, by omega⟩ 5 116 dX4_of_19 (by omega) (by decide) rfl (by decide) ?_
      refine p_oload0 dX4_of_116 ?_
      refine p_get fl_RX4_10 gx_fold dX4_of_117 ?_
      refine p_get fl_RX4_96 g0_kinds dX4_of_120 ?_
      refine p_iload1 dX4_of_123 ?_
      refine p_iald al0_kinds (by omega) (by omega) dX4_of_124 ?_
      refine p_cS1r (M2 := mX1_tiresBy) ms_RX4_111 mc_X1_tiresBy ⟨Nat.le_of_ble_eq_true rfl, Nat.le_of_ble_eq_true rfl⟩ (Nat.le_of_ble_eq_true rfl) dX4_of_125 (c_X1_tiresBy (by omega)) ?_
      exact q_v (by subst c19; unfold v_of; rw [if_pos (by omega)]; rfl) (by omega) rfl dX4_of_128
    · refine p_tswO ⟨by omega, by omega⟩ 129 dX4_of_19 (by omega) (by decide) ?_
      refine p_oload0 dX4_of_129 ?_
      refine p_ldc wc_RX4_44 dX4_of_130 ?_
      refine p_cV1r (M2 := mX4_tell) ml_RX4_45 mc_X4_tell ⟨Nat.le_of_ble_eq_true rfl, Nat.le_of_ble_eq_true rfl⟩ (isO_x _ _) (Nat.le_of_ble_eq_true rfl) dX4_of_132 (c_X4_tell (by omega)) ?_
      exact q_fv (by unfold v_of; (try split) <;> (try split) <;> (try split) <;> (try split) <;> (try split) <;> (try split) <;> (try split) <;> omega) rfl dX4_of_135
  · refine p_oload0 dX4_of_11 ?_
    refine p_ldc wc_RX4_44 dX4_of_12 ?_
    refine p_cV1r (M2 := mX4_tell) ml_RX4_45 mc_X4_tell ⟨Nat.le_of_ble_eq_true rfl, Nat.le_of_ble_eq_true rfl⟩ (isO_x _ _) (Nat.le_of_ble_eq_true rfl) dX4_of_14 (c_X4_tell (by omega)) ?_
    exact q_fv (by unfold v_of; (try split) <;> (try split) <;> (try split) <;> (try split) <;> (try split) <;> (try split) <;> (try split) <;> omega) rfl dX4_of_17
set_option maxRecDepth 100000 in
set_option maxHeartbeats 4000000 in
theorem c_X4_set {G : GX} {S : St} {b : Int} (hI : IR b (S 0)) (hb : b ≤ 99999) {p : Int} (h_p : inR p) {w : Int} (h_w : inR w) {v : Int} (h_v : inR v) : Ev G mX4_set [rf G 0, vi p, vi w, vi v] (mk G S) (some (vi (v_set (S 0) p w v))) (mk G (va_up (va_up S 5 (tl (S 5) (v_set (S 0) p w v))) 0 (r_set (S 0) p w v))) := by
  have i0 := hI.1; have i1 := hI.2.1; have i2 := hI.2.2.1; have i3 := hI.2.2.2.1; have i4 := hI.2.2.2.2.1
  obtain ⟨p1, p2⟩ := h_p
  obtain ⟨w1, w2⟩ := h_w
  obtain ⟨v1, v2⟩ := h_v
  refine Ev.enter (by decide +kernel) (Nat.le_of_ble_eq_true rfl) (L := [some (rf G 0), some (vi p), some (vi w), some (vi v), none]) rfl ?_
  refine p_oload0 dX4_set_0 ?_
  refine p_get fl_RX4_10 gx_fold dX4_set_1 ?_
  refine p_iload1 dX4_set_4 ?_
  refine p_cV1r (M2 := mX0_hasSheep) ml_RX4_93 mc_X0_hasSheep ⟨Nat.le_of_ble_eq_true rfl, Nat.le_of_ble_eq_true rfl⟩ (isO_fo _ _ _) (Nat.le_of_ble_eq_true rfl) dX4_set_5 (c0_hasSheep hI ⟨by omega, by omega⟩) ?_
  refine p_bif_ne 18 dX4_set_8 (by decide) (fun c8 => ?_) (fun c8 => ?_)
  · have i6 := hI.2.2.2.2.2.2 p (by omega) (by omega)
    refine p_iload2 dX4_set_18 ?_
    refine p_iconst dX4_set_19 ?_
    refine p_icmp_ne ⟨by omega, by omega⟩ ⟨by omega, by omega⟩ 57 dX4_set_20 (by decide) (fun c20 => ?_) (fun c20 => ?_)
    · refine p_iload2 dX4_set_57 ?_
      refine p_iconst dX4_set_58 ?_
      refine p_icmp_ne ⟨by omega, by omega⟩ ⟨by omega, by omega⟩ 97 dX4_set_59 (by decide) (fun c59 => ?_) (fun c59 => ?_)
      · refine p_oload0 dX4_set_97 ?_
        refine p_ldc wc_RX4_44 dX4_set_98 ?_
        refine p_cV1r (M2 := mX4_tell) ml_RX4_45 mc_X4_tell ⟨Nat.le_of_ble_eq_true rfl, Nat.le_of_ble_eq_true rfl⟩ (isO_x _ _) (Nat.le_of_ble_eq_true rfl) dX4_set_100 (c_X4_tell (by omega)) ?_
        exact q_fg (by unfold v_set; (try split) <;> (try split) <;> (try split) <;> (try split) <;> (try split) <;> (try split) <;> (try split) <;> omega) (by unfold r_set; (try split) <;> (try split) <;> (try split) <;> (try split) <;> (try split) <;> (try split) <;> (try split) <;> first | rfl | (exfalso; omega)) rfl dX4_set_103
      · refine p_iload3 dX4_set_62 ?_
        refine p_iconst dX4_set_63 ?_
        refine p_sipush (by decide) (by decide) dX4_set_64 ?_
        refine p_cS3r (M2 := mX4_isWithin) ms_RX4_67 mc_X4_isWithin ⟨Nat.le_of_ble_eq_true rfl, Nat.le_of_ble_eq_true rfl⟩ (Nat.le_of_ble_eq_true rfl) dX4_set_67 (c_X4_isWithin ⟨by omega, by omega⟩ ⟨by omega, by omega⟩ ⟨by omega, by omega⟩) ?_
        refine p_bif_eq 97 dX4_set_70 (by decide) (fun c70 => ?_) (fun c70 => ?_)
        · refine p_oload0 dX4_set_97 ?_
          refine p_ldc wc_RX4_44 dX4_set_98 ?_
          refine p_cV1r (M2 := mX4_tell) ml_RX4_45 mc_X4_tell ⟨Nat.le_of_ble_eq_true rfl, Nat.le_of_ble_eq_true rfl⟩ (isO_x _ _) (Nat.le_of_ble_eq_true rfl) dX4_set_100 (c_X4_tell (by omega)) ?_
          exact q_fg (by unfold v_set; (try split) <;> (try split) <;> (try split) <;> (try split) <;> (try split) <;> (try split) <;> (try split) <;> omega) (by unfold r_set; (try split) <;> (try split) <;> (try split) <;> (try split) <;> (try split) <;> (try split) <;> (try split) <;> first | rfl | (exfalso; omega)) rfl dX4_set_103
        · refine p_oload0 dX4_set_73 ?_
          refine p_get fl_RX4_10 gx_fold dX4_set_74 ?_
          refine p_get fl_RX4_102 g0_seen dX4_set_77 ?_
          refine p_iload1 dX4_set_80 ?_
          refine p_iald al0_seen (by omega) (by omega) dX4_set_81 ?_
          refine p_istore4 rfl (Nat.le_of_ble_eq_true rfl) dX4_set_82 ?_
          refine p_oload0 dX4_set_84 ?_
          refine p_get fl_RX4_10 gx_fold dX4_set_85 ?_
          refine p_get fl_RX4_102 g0_seen dX4_set_88 ?_
          refine p_iload1 dX4_set_91 ?_
          refine p_iload3 dX4_set_92 ?_
          refine p_iast al0_seen (by omega) (by omega) (as0_seen (by omega) (by omega)) dX4_set_93 ?_
          refine p_iload4 dX4_set_94 ?_
          exact q_g (by unfold v_set; rw [if_pos (by omega)]; exact congrArg (S 0) (by omega)) (by omega) (by unfold r_set; rw [if_pos (by omega)]; rw [show 17 + 3 * p + w = 19 + 3 * p by omega]) rfl dX4_set_96
    · refine p_iload3 dX4_set_23 ?_
      refine p_iconst dX4_set_24 ?_
      refine p_bipush (by decide) (by decide) dX4_set_25 ?_
      refine p_cS3r (M2 := mX4_isWithin) ms_RX4_67 mc_X4_isWithin ⟨Nat.le_of_ble_eq_true rfl, Nat.le_of_ble_eq_true rfl⟩ (Nat.le_of_ble_eq_true rfl) dX4_set_27 (c_X4_isWithin ⟨by omega, by omega⟩ ⟨by omega, by omega⟩ ⟨by omega, by omega⟩) ?_
      refine p_bif_eq 57 dX4_set_30 (by decide) (fun c30 => ?_) (fun c30 => ?_)
      · refine p_iload2 dX4_set_57 ?_
        refine p_iconst dX4_set_58 ?_
        refine p_icmp_ne ⟨by omega, by omega⟩ ⟨by omega, by omega⟩ 97 dX4_set_59 (by decide) (fun c59 => ?_) (fun c59 => ?_)
        · refine p_oload0 dX4_set_97 ?_
          refine p_ldc wc_RX4_44 dX4_set_98 ?_
          refine p_cV1r (M2 := mX4_tell) ml_RX4_45 mc_X4_tell ⟨Nat.le_of_ble_eq_true rfl, Nat.le_of_ble_eq_true rfl⟩ (isO_x _ _) (Nat.le_of_ble_eq_true rfl) dX4_set_100 (c_X4_tell (by omega)) ?_
          exact q_fg (by unfold v_set; (try split) <;> (try split) <;> (try split) <;> (try split) <;> (try split) <;> (try split) <;> (try split) <;> omega) (by unfold r_set; (try split) <;> (try split) <;> (try split) <;> (try split) <;> (try split) <;> (try split) <;> (try split) <;> first | rfl | (exfalso; omega)) rfl dX4_set_103
        · refine p_iload3 dX4_set_62 ?_
          refine p_iconst dX4_set_63 ?_
          refine p_sipush (by decide) (by decide) dX4_set_64 ?_
          refine p_cS3r (M2 := mX4_isWithin) ms_RX4_67 mc_X4_isWithin ⟨Nat.le_of_ble_eq_true rfl, Nat.le_of_ble_eq_true rfl⟩ (Nat.le_of_ble_eq_true rfl) dX4_set_67 (c_X4_isWithin ⟨by omega, by omega⟩ ⟨by omega, by omega⟩ ⟨by omega, by omega⟩) ?_
          refine p_bif_eq 97 dX4_set_70 (by decide) (fun c70 => ?_) (fun c70 => ?_)
          · refine p_oload0 dX4_set_97 ?_
            refine p_ldc wc_RX4_44 dX4_set_98 ?_
            refine p_cV1r (M2 := mX4_tell) ml_RX4_45 mc_X4_tell ⟨Nat.le_of_ble_eq_true rfl, Nat.le_of_ble_eq_true rfl⟩ (isO_x _ _) (Nat.le_of_ble_eq_true rfl) dX4_set_100 (c_X4_tell (by omega)) ?_
            exact q_fg (by unfold v_set; (try split) <;> (try split) <;> (try split) <;> (try split) <;> (try split) <;> (try split) <;> (try split) <;> omega) (by unfold r_set; (try split) <;> (try split) <;> (try split) <;> (try split) <;> (try split) <;> (try split) <;> (try split) <;> first | rfl | (exfalso; omega)) rfl dX4_set_103
          · refine p_oload0 dX4_set_73 ?_
            refine p_get fl_RX4_10 gx_fold dX4_set_74 ?_
            refine p_get fl_RX4_102 g0_seen dX4_set_77 ?_
            refine p_iload1 dX4_set_80 ?_
            refine p_iald al0_seen (by omega) (by omega) dX4_set_81 ?_
            refine p_istore4 rfl (Nat.le_of_ble_eq_true rfl) dX4_set_82 ?_
            refine p_oload0 dX4_set_84 ?_
            refine p_get fl_RX4_10 gx_fold dX4_set_85 ?_
            refine p_get fl_RX4_102 g0_seen dX4_set_88 ?_
            refine p_iload1 dX4_set_91 ?_
            refine p_iload3 dX4_set_92 ?_
            refine p_iast al0_seen (by omega) (by omega) (as0_seen (by omega) (by omega)) dX4_set_93 ?_
            refine p_iload4 dX4_set_94 ?_
            exact q_g (by unfold v_set; rw [if_pos (by omega)]; exact congrArg (S 0) (by omega)) (by omega) (by unfold r_set; rw [if_pos (by omega)]; rw [show 17 + 3 * p + w = 19 + 3 * p by omega]) rfl dX4_set_96
      · refine p_oload0 dX4_set_33 ?_
        refine p_get fl_RX4_10 gx_fold dX4_set_34 ?_
        refine p_get fl_RX4_99 g0_wants dX4_set_37 ?_
        refine p_iload1 dX4_set_40 ?_
        refine p_iald al0_wants (by omega) (by omega) dX4_set_41 ?_
        refine p_istore4 rfl (Nat.le_of_ble_eq_true rfl) dX4_set_42 ?_
        refine p_oload0 dX4_set_44 ?_
        refine p_get fl_RX4_10 gx_fold dX4_set_45 ?_
        refine p_get fl_RX4_99 g0_wants dX4_set_48 ?_
        refine p_iload1 dX4_set_51 ?_
        refine p_iload3 dX4_set_52 ?_
        refine p_iast al0_wants (by omega) (by omega) (as0_wants (by omega) (by omega)) dX4_set_53 ?_
        refine p_iload4 dX4_set_54 ?_
        exact q_g (by unfold v_set; rw [if_pos (by omega)]; exact congrArg (S 0) (by omega)) (by omega) (by unfold r_set; rw [if_pos (by omega)]; rw [show 17 + 3 * p + w = 18 + 3 * p by omega]) rfl dX4_set_56
  · refine p_oload0 dX4_set_11 ?_
    refine p_ldc wc_RX4_44 dX4_set_12 ?_
    refine p_cV1r (M2 := mX4_tell) ml_RX4_45 mc_X4_tell ⟨Nat.le_of_ble_eq_true rfl, Nat.le_of_ble_eq_true rfl⟩ (isO_x _ _) (Nat.le_of_ble_eq_true rfl) dX4_set_14 (c_X4_tell (by omega)) ?_
    exact q_fg (by unfold v_set; (try split) <;> (try split) <;> (try split) <;> (try split) <;> (try split) <;> (try split) <;> (try split) <;> omega) (by unfold r_set; (try split) <;> (try split) <;> (try split) <;> (try split) <;> (try split) <;> (try split) <;> (try split) <;> first | rfl | (exfalso; omega)) rfl dX4_set_17
set_option maxRecDepth 100000 in
set_option maxHeartbeats 4000000 in
theorem c_X4_turn {G : GX} {S : St} {b : Int} (hI : IR b (S 0)) (hb : b ≤ 99999) {p : Int} (h_p : inR p) {k : Int} (h_k : inR k) : Ev G mX4_turn [rf G 0, vi p, vi k] (mk G S) (some (vi (v_turn (S 0) p k))) (mk G (va_up (va_up S 5 (tl (S 5) (v_turn (S 0) p k))) 0 (r_turn (S 0) p k))) := by
  have i0 := hI.1; have i1 := hI.2.1; have i2 := hI.2.2.1; have i3 := hI.2.2.2.1; have i4 := hI.2.2.2.2.1
  obtain ⟨p1, p2⟩ := h_p
  obtain ⟨k1, k2⟩ := h_k
  refine Ev.enter (by decide +kernel) (Nat.le_of_ble_eq_true rfl) (L := [some (rf G 0), some (vi p), some (vi k), none]) rfl ?_
  refine p_oload0 dX4_turn_0 ?_
  refine p_get fl_RX4_10 gx_fold dX4_turn_1 ?_
  refine p_iload1 dX4_turn_4 ?_
  refine p_cV1r (M2 := mX0_hasSheep) ml_RX4_93 mc_X0_hasSheep ⟨Nat.le_of_ble_eq_true rfl, Nat.le_of_ble_eq_true rfl⟩ (isO_fo _ _ _) (Nat.le_of_ble_eq_true rfl) dX4_turn_5 (c0_hasSheep hI ⟨by omega, by omega⟩) ?_
  refine p_bif_eq 18 dX4_turn_8 (by decide) (fun c8 => ?_) (fun c8 => ?_)
  · refine p_oload0 dX4_turn_18 ?_
    refine p_ldc wc_RX4_44 dX4_turn_19 ?_
    refine p_cV1r (M2 := mX4_tell) ml_RX4_45 mc_X4_tell ⟨Nat.le_of_ble_eq_true rfl, Nat.le_of_ble_eq_true rfl⟩ (isO_x _ _) (Nat.le_of_ble_eq_true rfl) dX4_turn_21 (c_X4_tell (by omega)) ?_
    exact q_fg (by unfold v_turn; (try split) <;> (try split) <;> (try split) <;> (try split) <;> (try split) <;> (try split) <;> (try split) <;> omega) (by unfold r_turn; (try split) <;> (try split) <;> (try split) <;> (try split) <;> (try split) <;> (try split) <;> (try split) <;> first | rfl | (exfalso; omega)) rfl dX4_turn_24
  · refine p_iload2 dX4_turn_11 ?_
    refine p_cS1r (M2 := mX1_isKind) ms_RX4_82 mc_X1_isKind ⟨Nat.le_of_ble_eq_true rfl, Nat.le_of_ble_eq_true rfl⟩ (Nat.le_of_ble_eq_true rfl) dX4_turn_12 (c_X1_isKind ⟨by omega, by omega⟩) ?_
    refine p_bif_ne 25 dX4_turn_15 (by decide) (fun c15 => ?_) (fun c15 => ?_)
    · have i6 := hI.2.2.2.2.2.2 p (by omega) (by omega)
      refine p_oload0 dX4_turn_25 ?_
      refine p_get fl_RX4_10 gx_fold dX4_turn_26 ?_
      refine p_get fl_RX4_96 g0_kinds dX4_turn_29 ?_
      refine p_iload1 dX4_turn_32 ?_
      refine p_iald al0_kinds (by omega) (by omega) dX4_turn_33 ?_
      refine p_istore3 rfl (Nat.le_of_ble_eq_true rfl) dX4_turn_34 ?_
      refine p_oload0 dX4_turn_35 ?_
      refine p_get fl_RX4_10 gx_fold dX4_turn_36 ?_
      refine p_get fl_RX4_96 g0_kinds dX4_turn_39 ?_
      refine p_iload1 dX4_turn_42 ?_
      refine p_iload2 dX4_turn_43 ?_
      refine p_iast al0_kinds (by omega) (by omega) (as0_kinds (by omega) (by omega)) dX4_turn_44 ?_
      refine p_iload3 dX4_turn_45 ?_
      exact q_g (by unfold v_turn; (try split) <;> (try split) <;> (try split) <;> (try split) <;> (try split) <;> (try split) <;> (try split) <;> omega) (by omega) (by unfold r_turn; (try split) <;> (try split) <;> (try split) <;> (try split) <;> (try split) <;> (try split) <;> (try split) <;> first | rfl | (exfalso; omega)) rfl dX4_turn_46
    · refine p_oload0 dX4_turn_18 ?_
      refine p_ldc wc_RX4_44 dX4_turn_19 ?_
      refine p_cV1r (M2 := mX4_tell) ml_RX4_45 mc_X4_tell ⟨Nat.le_of_ble_eq_true rfl, Nat.le_of_ble_eq_true rfl⟩ (isO_x _ _) (Nat.le_of_ble_eq_true rfl) dX4_turn_21 (c_X4_tell (by omega)) ?_
      exact q_fg (by unfold v_turn; (try split) <;> (try split) <;> (try split) <;> (try split) <;> (try split) <;> (try split) <;> (try split) <;> omega) (by unfold r_turn; (try split) <;> (try split) <;> (try split) <;> (try split) <;> (try split) <;> (try split) <;> (try split) <;> first | rfl | (exfalso; omega)) rfl dX4_turn_24
set_option maxRecDepth 100000 in
set_option maxHeartbeats 4000000 in
theorem c_X4_as {G : GX} {S : St} {b : Int} (hI : IR b (S 0)) (hb : b ≤ 99999) {p : Int} (h_p : inR p) {k : Int} (h_k : inR k) : Ev G mX4_as [rf G 0, vi p, vi k] (mk G S) (some (vi (v_as (S 0) p k))) (mk G (va_up S 5 (tl (S 5) (v_as (S 0) p k)))) := by
  have i0 := hI.1; have i1 := hI.2.1; have i2 := hI.2.2.1; have i3 := hI.2.2.2.1; have i4 := hI.2.2.2.2.1
  obtain ⟨p1, p2⟩ := h_p
  obtain ⟨k1, k2⟩ := h_k
  refine Ev.enter (by decide +kernel) (Nat.le_of_ble_eq_true rfl) (L := [some (rf G 0), some (vi p), some (vi k)]) rfl ?_
  refine p_oload0 dX4_as_0 ?_
  refine p_get fl_RX4_10 gx_fold dX4_as_1 ?_
  refine p_iload1 dX4_as_4 ?_
  refine p_cV1r (M2 := mX0_hasSheep) ml_RX4_93 mc_X0_hasSheep ⟨Nat.le_of_ble_eq_true rfl, Nat.le_of_ble_eq_true rfl⟩ (isO_fo _ _ _) (Nat.le_of_ble_eq_true rfl) dX4_as_5 (c0_hasSheep hI ⟨by omega, by omega⟩) ?_
  refine p_bif_eq 18 dX4_as_8 (by decide) (fun c8 => ?_) (fun c8 => ?_)
  · refine p_oload0 dX4_as_18 ?_
    refine p_ldc wc_RX4_44 dX4_as_19 ?_
    refine p_cV1r (M2 := mX4_tell) ml_RX4_45 mc_X4_tell ⟨Nat.le_of_ble_eq_true rfl, Nat.le_of_ble_eq_true rfl⟩ (isO_x _ _) (Nat.le_of_ble_eq_true rfl) dX4_as_21 (c_X4_tell (by omega)) ?_
    exact q_fv (by unfold v_as; (try split) <;> (try split) <;> (try split) <;> (try split) <;> (try split) <;> (try split) <;> (try split) <;> omega) rfl dX4_as_24
  · refine p_iload2 dX4_as_11 ?_
    refine p_cS1r (M2 := mX1_isKind) ms_RX4_82 mc_X1_isKind ⟨Nat.le_of_ble_eq_true rfl, Nat.le_of_ble_eq_true rfl⟩ (Nat.le_of_ble_eq_true rfl) dX4_as_12 (c_X1_isKind ⟨by omega, by omega⟩) ?_
    refine p_bif_ne 25 dX4_as_15 (by decide) (fun c15 => ?_) (fun c15 => ?_)
    · have i6 := hI.2.2.2.2.2.2 p (by omega) (by omega)
      refine p_oload0 dX4_as_25 ?_
      refine p_get fl_RX4_10 gx_fold dX4_as_26 ?_
      refine p_get fl_RX4_96 g0_kinds dX4_as_29 ?_
      refine p_iload1 dX4_as_32 ?_
      refine p_iald al0_kinds (by omega) (by omega) dX4_as_33 ?_
      refine p_iload2 dX4_as_34 ?_
      refine p_cS2r (M2 := mX1_isOf) ms_RX4_114 mc_X1_isOf ⟨Nat.le_of_ble_eq_true rfl, Nat.le_of_ble_eq_true rfl⟩ (Nat.le_of_ble_eq_true rfl) dX4_as_35 (c_X1_isOf (by omega) (by omega)) ?_
      refine p_bif_ne 48 dX4_as_38 (by decide) (fun c38 => ?_) (fun c38 => ?_)
      · refine p_oload0 dX4_as_48 ?_
        refine p_get fl_RX4_10 gx_fold dX4_as_49 ?_
        refine p_get fl_RX4_99 g0_wants dX4_as_52 ?_
        refine p_iload1 dX4_as_55 ?_
        refine p_iald al0_wants (by omega) (by omega) dX4_as_56 ?_
        exact q_v (by unfold v_as; rw [if_pos (by omega), if_pos c38]) (by omega) rfl dX4_as_57
      · refine p_oload0 dX4_as_41 ?_
        refine p_ldc wc_RX4_118 dX4_as_42 ?_
        refine p_cV1r (M2 := mX4_tell) ml_RX4_45 mc_X4_tell ⟨Nat.le_of_ble_eq_true rfl, Nat.le_of_ble_eq_true rfl⟩ (isO_x _ _) (Nat.le_of_ble_eq_true rfl) dX4_as_44 (c_X4_tell (by omega)) ?_
        exact q_fv (by unfold v_as; rw [if_pos (by omega), if_neg c38]) rfl dX4_as_47
    · refine p_oload0 dX4_as_18 ?_
      refine p_ldc wc_RX4_44 dX4_as_19 ?_
      refine p_cV1r (M2 := mX4_tell) ml_RX4_45 mc_X4_tell ⟨Nat.le_of_ble_eq_true rfl, Nat.le_of_ble_eq_true rfl⟩ (isO_x _ _) (Nat.le_of_ble_eq_true rfl) dX4_as_21 (c_X4_tell (by omega)) ?_
      exact q_fv (by unfold v_as; (try split) <;> (try split) <;> (try split) <;> (try split) <;> (try split) <;> (try split) <;> (try split) <;> omega) rfl dX4_as_24
set_option maxRecDepth 100000 in
set_option maxHeartbeats 4000000 in
theorem c_X4_counts {G : GX} {S : St} {b : Int} (hI : IR b (S 0)) (hb : b ≤ 99999) {p : Int} (h_p : inR p) {g : Int} (h_g : inR g) : Ev G mX4_counts [rf G 0, vi p, vi g] (mk G S) (some (vi (v_counts (S 0) p g))) (mk G (va_up S 5 (tl (S 5) (v_counts (S 0) p g)))) := by
  have i0 := hI.1; have i1 := hI.2.1; have i2 := hI.2.2.1; have i3 := hI.2.2.2.1; have i4 := hI.2.2.2.2.1
  obtain ⟨p1, p2⟩ := h_p
  obtain ⟨g1, g2⟩ := h_g
  refine Ev.enter (by decide +kernel) (Nat.le_of_ble_eq_true rfl) (L := [some (rf G 0), some (vi p), some (vi g)]) rfl ?_
  refine p_oload0 dX4_counts_0 ?_
  refine p_get fl_RX4_10 gx_fold dX4_counts_1 ?_
  refine p_iload1 dX4_counts_4 ?_
  refine p_cV1r (M2 := mX0_hasSheep) ml_RX4_93 mc_X0_hasSheep ⟨Nat.le_of_ble_eq_true rfl, Nat.le_of_ble_eq_true rfl⟩ (isO_fo _ _ _) (Nat.le_of_ble_eq_true rfl) dX4_counts_5 (c0_hasSheep hI ⟨by omega, by omega⟩) ?_
  refine p_bif_eq 18 dX4_counts_8 (by decide) (fun c8 => ?_) (fun c8 => ?_)
  · refine p_oload0 dX4_counts_18 ?_
    refine p_ldc wc_RX4_44 dX4_counts_19 ?_
    refine p_cV1r (M2 := mX4_tell) ml_RX4_45 mc_X4_tell ⟨Nat.le_of_ble_eq_true rfl, Nat.le_of_ble_eq_true rfl⟩ (isO_x _ _) (Nat.le_of_ble_eq_true rfl) dX4_counts_21 (c_X4_tell (by omega)) ?_
    exact q_fv (by unfold v_counts; (try split) <;> (try split) <;> (try split) <;> (try split) <;> (try split) <;> (try split) <;> (try split) <;> omega) rfl dX4_counts_24
  · refine p_iload2 dX4_counts_11 ?_
    refine p_cS1r (M2 := mX4_isGuise) ms_RX4_40 mc_X4_isGuise ⟨Nat.le_of_ble_eq_true rfl, Nat.le_of_ble_eq_true rfl⟩ (Nat.le_of_ble_eq_true rfl) dX4_counts_12 (c_X4_isGuise ⟨by omega, by omega⟩) ?_
    refine p_bif_ne 25 dX4_counts_15 (by decide) (fun c15 => ?_) (fun c15 => ?_)
    · have i6 := hI.2.2.2.2.2.2 p (by omega) (by omega)
      have hu := un_le g (S 0 3)
      have ht := tk_le (k := S 0 (17 + 3 * p)) (g := g) (m := S 0 2) hu
      refine p_oload0 dX4_counts_25 ?_
      refine p_get fl_RX4_10 gx_fold dX4_counts_26 ?_
      refine p_get fl_RX4_96 g0_kinds dX4_counts_29 ?_
      refine p_iload1 dX4_counts_32 ?_
      refine p_iald al0_kinds (by omega) (by omega) dX4_counts_33 ?_
      refine p_iload2 dX4_counts_34 ?_
      refine p_iload2 dX4_counts_35 ?_
      refine p_oload0 dX4_counts_36 ?_
      refine p_get fl_RX4_10 gx_fold dX4_counts_37 ?_
      refine p_get fl_RX4_119 g0_last dX4_counts_40 ?_
      refine p_cS2r (M2 := mX1_unlike) ms_RX4_122 mc_X1_unlike ⟨Nat.le_of_ble_eq_true rfl, Nat.le_of_ble_eq_true rfl⟩ (Nat.le_of_ble_eq_true rfl) dX4_counts_43 (c_X1_unlike (by omega) (by omega)) ?_
      refine p_oload0 dX4_counts_46 ?_
      refine p_get fl_RX4_10 gx_fold dX4_counts_47 ?_
      refine p_get fl_RX4_125 g0_minute dX4_counts_50 ?_
      refine p_cS4r (M2 := mX1_takesOff) ms_RX4_128 mc_X1_takesOff ⟨Nat.le_of_ble_eq_true rfl, Nat.le_of_ble_eq_true rfl⟩ (Nat.le_of_ble_eq_true rfl) dX4_counts_53 (c_X1_takesOff (by omega) hu (by omega)) ?_
      exact q_v (by unfold v_counts; rw [if_pos (by omega)]) (by omega) rfl dX4_counts_56
    · refine p_oload0 dX4_counts_18 ?_
      refine p_ldc wc_RX4_44 dX4_counts_19 ?_
      refine p_cV1r (M2 := mX4_tell) ml_RX4_45 mc_X4_tell ⟨Nat.le_of_ble_eq_true rfl, Nat.le_of_ble_eq_true rfl⟩ (isO_x _ _) (Nat.le_of_ble_eq_true rfl) dX4_counts_21 (c_X4_tell (by omega)) ?_
      exact q_fv (by unfold v_counts; (try split) <;> (try split) <;> (try split) <;> (try split) <;> (try split) <;> (try split) <;> (try split) <;> omega) rfl dX4_counts_24
set_option maxRecDepth 100000 in
set_option maxHeartbeats 4000000 in
theorem c_X4_minutes {G : GX} {S : St} {b : Int} (hI : IR b (S 0)) (hb : b ≤ 99999) {n : Int} (h_n : inR n) : Ev G mX4_minutes [rf G 0, vi n] (mk G S) (some (vi (v_minutes (S 0) n))) (mk G (va_up (va_up S 5 (tl (S 5) (v_minutes (S 0) n))) 0 (r_minutes (S 0) n))) := by
  have i0 := hI.1; have i1 := hI.2.1; have i2 := hI.2.2.1; have i3 := hI.2.2.2.1; have i4 := hI.2.2.2.2.1
  obtain ⟨n1, n2⟩ := h_n
  refine Ev.enter (by decide +kernel) (Nat.le_of_ble_eq_true rfl) (L := [some (rf G 0), some (vi n)]) rfl ?_
  refine p_iload1 dX4_minutes_0 ?_
  refine p_iconst dX4_minutes_1 ?_
  refine p_bipush (by decide) (by decide) dX4_minutes_2 ?_
  refine p_cS3r (M2 := mX4_isWithin) ms_RX4_67 mc_X4_isWithin ⟨Nat.le_of_ble_eq_true rfl, Nat.le_of_ble_eq_true rfl⟩ (Nat.le_of_ble_eq_true rfl) dX4_minutes_4 (c_X4_isWithin ⟨by omega, by omega⟩ ⟨by omega, by omega⟩ ⟨by omega, by omega⟩) ?_
  refine p_bif_ne 17 dX4_minutes_7 (by decide) (fun c7 => ?_) (fun c7 => ?_)
  · refine p_oload0 dX4_minutes_17 ?_
    refine p_get fl_RX4_10 gx_fold dX4_minutes_18 ?_
    refine p_get fl_RX4_125 g0_minute dX4_minutes_21 ?_
    refine p_ldc wc_RX4_132 dX4_minutes_24 ?_
    refine p_iload1 dX4_minutes_26 ?_
    refine p_isub dX4_minutes_27 ?_
    refine p_icmp_le ⟨by omega, by omega⟩ ⟨by omega, by omega⟩ 38 dX4_minutes_28 (by decide) (fun c28 => ?_) (fun c28 => ?_)
    · have hM : IR (b + n.toNat) (minsR n.toNat (S 0)) := IR.minsR n.toNat hI
      have hs := slp_le hM
      refine p_oload0 dX4_minutes_38 ?_
      refine p_get fl_RX4_10 gx_fold dX4_minutes_39 ?_
      refine p_iload1 dX4_minutes_42 ?_
      refine p_cV1v (M2 := mX0_play) ml_RX4_134 mc_X0_play ⟨Nat.le_of_ble_eq_true rfl, Nat.le_of_ble_eq_true rfl⟩ (isO_fo _ _ _) (Nat.le_of_ble_eq_true rfl) dX4_minutes_43 (c0_play hI (by omega) (by omega)) ?_
      refine p_oload0 dX4_minutes_46 ?_
      refine p_get fl_RX4_10 gx_fold dX4_minutes_47 ?_
      refine p_cV0r (M2 := mX0_sleepers) ml_RX4_138 mc_X0_sleepers ⟨Nat.le_of_ble_eq_true rfl, Nat.le_of_ble_eq_true rfl⟩ (isO_fo _ _ _) (Nat.le_of_ble_eq_true rfl) dX4_minutes_50 (c0_sleepers (S := va_up S 0 (minsR n.toNat (S 0))) hM) ?_
      exact q_g (by unfold v_minutes; rw [if_pos (by omega), if_pos (by omega)]; rfl) (by show -1000000000 ≤ slp (minsR n.toNat (S 0)); omega) (by unfold r_minutes; rw [if_pos (by omega)]) rfl dX4_minutes_53
    · refine p_oload0 dX4_minutes_31 ?_
      refine p_ldc wc_RX4_133 dX4_minutes_32 ?_
      refine p_cV1r (M2 := mX4_tell) ml_RX4_45 mc_X4_tell ⟨Nat.le_of_ble_eq_true rfl, Nat.le_of_ble_eq_true rfl⟩ (isO_x _ _) (Nat.le_of_ble_eq_true rfl) dX4_minutes_34 (c_X4_tell (by omega)) ?_
      exact q_fg (by unfold v_minutes; (try split) <;> (try split) <;> (try split) <;> (try split) <;> (try split) <;> (try split) <;> (try split) <;> omega) (by unfold r_minutes; (try split) <;> (try split) <;> (try split) <;> (try split) <;> (try split) <;> (try split) <;> (try split) <;> first | rfl | (exfalso; omega)) rfl dX4_minutes_37
  · refine p_oload0 dX4_minutes_10 ?_
    refine p_ldc wc_RX4_44 dX4_minutes_11 ?_
    refine p_cV1r (M2 := mX4_tell) ml_RX4_45 mc_X4_tell ⟨Nat.le_of_ble_eq_true rfl, Nat.le_of_ble_eq_true rfl⟩ (isO_x _ _) (Nat.le_of_ble_eq_true rfl) dX4_minutes_13 (c_X4_tell (by omega)) ?_
    exact q_fg (by unfold v_minutes; (try split) <;> (try split) <;> (try split) <;> (try split) <;> (try split) <;> (try split) <;> (try split) <;> omega) (by unfold r_minutes; (try split) <;> (try split) <;> (try split) <;> (try split) <;> (try split) <;> (try split) <;> (try split) <;> first | rfl | (exfalso; omega)) rfl dX4_minutes_16
set_option maxRecDepth 100000 in
set_option maxHeartbeats 4000000 in
theorem c_X4_now {G : GX} {S : St} {b : Int} (hI : IR b (S 0)) (hb : b ≤ 99999) {w : Int} (h_w : inR w) : Ev G mX4_now [rf G 0, vi w] (mk G S) (some (vi (v_now (S 0) w))) (mk G (va_up S 5 (tl (S 5) (v_now (S 0) w)))) := by
  have i0 := hI.1; have i1 := hI.2.1; have i2 := hI.2.2.1; have i3 := hI.2.2.2.1; have i4 := hI.2.2.2.2.1
  obtain ⟨w1, w2⟩ := h_w
  have j1 := slp_le hI; have j2 := pss_le hI; have j3 := wsm_le hI; have j4 := wal_le hI; have j5 := wwo_wal hI
  refine Ev.enter (by decide +kernel) (Nat.le_of_ble_eq_true rfl) (L := [some (rf G 0), some (vi w)]) rfl ?_
  refine p_iload1 dX4_now_0 ?_
  rcases (show w = 0 ∨ w = 1 ∨ w = 2 ∨ w = 3 ∨ w = 4 ∨ w = 5 ∨ w = 6 ∨ (w < 0 ∨ 6 < w) by omega) with c1 | c1 | c1 | c1 | c1 | c1 | c1 | c1
  · refine p_tswI ⟨by omega, by omega⟩ 0 44 dX4_now_1 (by omega) (by decide) rfl (by decide) ?_
    refine p_oload0 dX4_now_44 ?_
    refine p_get fl_RX4_10 gx_fold dX4_now_45 ?_
    refine p_get fl_RX4_125 g0_minute dX4_now_48 ?_
    exact q_v (by subst c1; rfl) (by omega) rfl dX4_now_51
  · refine p_tswI ⟨by omega, by omega⟩ 1 52 dX4_now_1 (by omega) (by decide) rfl (by decide) ?_
    refine p_oload0 dX4_now_52 ?_
    refine p_get fl_RX4_10 gx_fold dX4_now_53 ?_
    refine p_get fl_RX4_119 g0_last dX4_now_56 ?_
    exact q_v (by subst c1; rfl) (by omega) rfl dX4_now_59
  · refine p_tswI ⟨by omega, by omega⟩ 2 60 dX4_now_1 (by omega) (by decide) rfl (by decide) ?_
    refine p_oload0 dX4_now_60 ?_
    refine p_get fl_RX4_10 gx_fold dX4_now_61 ?_
    refine p_get fl_RX4_75 g0_manCount dX4_now_64 ?_
    refine p_if_ne ⟨by omega, by omega⟩ 74 dX4_now_67 (by decide) (fun c67 => ?_) (fun c67 => ?_)
    · refine p_oload0 dX4_now_74 ?_
      refine p_get fl_RX4_10 gx_fold dX4_now_75 ?_
      refine p_get fl_RX4_71 g0_turn dX4_now_78 ?_
      exact q_v (by subst c1; unfold v_now; simp [c67]) (by omega) rfl dX4_now_81
    · refine p_iconst dX4_now_70 ?_
      refine p_goto 81 dX4_now_71 (by decide) ?_
      exact q_v (by subst c1; unfold v_now; simp [c67]) (by omega) rfl dX4_now_81
  · refine p_tswI ⟨by omega, by omega⟩ 3 82 dX4_now_1 (by omega) (by decide) rfl (by decide) ?_
    refine p_oload0 dX4_now_82 ?_
    refine p_get fl_RX4_10 gx_fold dX4_now_83 ?_
    refine p_cV0r (M2 := mX0_sleepers) ml_RX4_138 mc_X0_sleepers ⟨Nat.le_of_ble_eq_true rfl, Nat.le_of_ble_eq_true rfl⟩ (isO_fo _ _ _) (Nat.le_of_ble_eq_true rfl) dX4_now_86 (c0_sleepers hI) ?_
    exact q_v (by subst c1; rfl) (by omega) rfl dX4_now_89
  · refine p_tswI ⟨by omega, by omega⟩ 4 90 dX4_now_1 (by omega) (by decide) rfl (by decide) ?_
    refine p_oload0 dX4_now_90 ?_
    refine p_get fl_RX4_10 gx_fold dX4_now_91 ?_
    refine p_cV0r (M2 := mX0_wantsOfAll) ml_RX4_142 mc_X0_wantsOfAll ⟨Nat.le_of_ble_eq_true rfl, Nat.le_of_ble_eq_true rfl⟩ (isO_fo _ _ _) (Nat.le_of_ble_eq_true rfl) dX4_now_94 (c0_wantsOfAll hI) ?_
    exact q_v (by subst c1; rfl) (by omega) rfl dX4_now_97
  · refine p_tswI ⟨by omega, by omega⟩ 5 98 dX4_now_1 (by omega) (by decide) rfl (by decide) ?_
    refine p_oload0 dX4_now_98 ?_
    refine p_get fl_RX4_10 gx_fold dX4_now_99 ?_
    refine p_iconst dX4_now_102 ?_
    refine p_cV1r (M2 := mX0_wearWithout) ml_RX4_145 mc_X0_wearWithout ⟨Nat.le_of_ble_eq_true rfl, Nat.le_of_ble_eq_true rfl⟩ (isO_fo _ _ _) (Nat.le_of_ble_eq_true rfl) dX4_now_103 (c0_wearWithout hI) ?_
    exact q_v (by subst c1; rw [j5]; rfl) (by omega) rfl dX4_now_106
  · refine p_tswI ⟨by omega, by omega⟩ 6 107 dX4_now_1 (by omega) (by decide) rfl (by decide) ?_
    refine p_oload0 dX4_now_107 ?_
    refine p_get fl_RX4_10 gx_fold dX4_now_108 ?_
    refine p_cV0r (M2 := mX0_passers) ml_RX4_148 mc_X0_passers ⟨Nat.le_of_ble_eq_true rfl, Nat.le_of_ble_eq_true rfl⟩ (isO_fo _ _ _) (Nat.le_of_ble_eq_true rfl) dX4_now_111 (c0_passers hI) ?_
    exact q_v (by subst c1; rfl) (by omega) rfl dX4_now_114
  · refine p_tswO ⟨by omega, by omega⟩ 115 dX4_now_1 (by omega) (by decide) ?_
    refine p_oload0 dX4_now_115 ?_
    refine p_ldc wc_RX4_44 dX4_now_116 ?_
    refine p_cV1r (M2 := mX4_tell) ml_RX4_45 mc_X4_tell ⟨Nat.le_of_ble_eq_true rfl, Nat.le_of_ble_eq_true rfl⟩ (isO_x _ _) (Nat.le_of_ble_eq_true rfl) dX4_now_118 (c_X4_tell (by omega)) ?_
    exact q_fv (by unfold v_now; (try split) <;> (try split) <;> (try split) <;> (try split) <;> (try split) <;> (try split) <;> (try split) <;> omega) rfl dX4_now_121
