set_option maxRecDepth 100000 in
set_option maxHeartbeats 4000000 in
theorem c_X4_on {G : GX} {S : St} {b : Int} (hI : IR b (S 0)) (hb : b ≤ 99999) {p : Int} (h_p : inR p) {n : Int} (h_n : inR n) {w : Int} (h_w : inR w) : Ev G mX4_on [rf G 0, vi p, vi n, vi w] (mk G S) (some (vi (v_on (S 0) p n w))) (mk G (va_up (va_up S 1 (if (0 ≤ p ∧ p < S 0 0) ∧ (0 ≤ n ∧ n ≤ 100) ∧ (0 ≤ w ∧ w ≤ 1) then minsR n.toNat (S 0) else S 1)) 5 (tl (S 5) (v_on (S 0) p n w)))) := by
  have i0 := hI.1; have i1 := hI.2.1; have i2 := hI.2.2.1; have i3 := hI.2.2.2.1; have i4 := hI.2.2.2.2.1
  obtain ⟨p1, p2⟩ := h_p
  obtain ⟨n1, n2⟩ := h_n
  obtain ⟨w1, w2⟩ := h_w
  refine Ev.enter (by decide +kernel) (Nat.le_of_ble_eq_true rfl) (L := [some (rf G 0), some (vi p), some (vi n), some (vi w)]) rfl ?_
  refine p_oload0 dX4_on_0 ?_
  refine p_get fl_RX4_10 gx_fold dX4_on_1 ?_
  refine p_iload1 dX4_on_4 ?_
  refine p_cV1r (M2 := mX0_hasSheep) ml_RX4_93 mc_X0_hasSheep ⟨Nat.le_of_ble_eq_true rfl, Nat.le_of_ble_eq_true rfl⟩ (isO_fo _ _ _) (Nat.le_of_ble_eq_true rfl) dX4_on_5 (c0_hasSheep hI ⟨by omega, by omega⟩) ?_
  refine p_bif_eq 30 dX4_on_8 (by decide) (fun c8 => ?_) (fun c8 => ?_)
  · refine p_oload0 dX4_on_30 ?_
    refine p_ldc wc_RX4_44 dX4_on_31 ?_
    refine p_cV1r (M2 := mX4_tell) ml_RX4_45 mc_X4_tell ⟨Nat.le_of_ble_eq_true rfl, Nat.le_of_ble_eq_true rfl⟩ (isO_x _ _) (Nat.le_of_ble_eq_true rfl) dX4_on_33 (c_X4_tell (by omega)) ?_
    exact q_fT (by unfold v_on; (try split) <;> (try split) <;> (try split) <;> (try split) <;> (try split) <;> (try split) <;> (try split) <;> omega) (by first | rfl | (rw [if_pos (by omega)]; done) | (rw [if_neg (by omega)]; done)) rfl dX4_on_36
  · refine p_iload2 dX4_on_11 ?_
    refine p_iconst dX4_on_12 ?_
    refine p_bipush (by decide) (by decide) dX4_on_13 ?_
    refine p_cS3r (M2 := mX4_isWithin) ms_RX4_67 mc_X4_isWithin ⟨Nat.le_of_ble_eq_true rfl, Nat.le_of_ble_eq_true rfl⟩ (Nat.le_of_ble_eq_true rfl) dX4_on_15 (c_X4_isWithin ⟨by omega, by omega⟩ ⟨by omega, by omega⟩ ⟨by omega, by omega⟩) ?_
    refine p_bif_eq 30 dX4_on_18 (by decide) (fun c18 => ?_) (fun c18 => ?_)
    · refine p_oload0 dX4_on_30 ?_
      refine p_ldc wc_RX4_44 dX4_on_31 ?_
      refine p_cV1r (M2 := mX4_tell) ml_RX4_45 mc_X4_tell ⟨Nat.le_of_ble_eq_true rfl, Nat.le_of_ble_eq_true rfl⟩ (isO_x _ _) (Nat.le_of_ble_eq_true rfl) dX4_on_33 (c_X4_tell (by omega)) ?_
      exact q_fT (by unfold v_on; (try split) <;> (try split) <;> (try split) <;> (try split) <;> (try split) <;> (try split) <;> (try split) <;> omega) (by first | rfl | (rw [if_pos (by omega)]; done) | (rw [if_neg (by omega)]; done)) rfl dX4_on_36
    · refine p_iload3 dX4_on_21 ?_
      refine p_if_lt ⟨by omega, by omega⟩ 30 dX4_on_22 (by decide) (fun c22 => ?_) (fun c22 => ?_)
      · refine p_oload0 dX4_on_30 ?_
        refine p_ldc wc_RX4_44 dX4_on_31 ?_
        refine p_cV1r (M2 := mX4_tell) ml_RX4_45 mc_X4_tell ⟨Nat.le_of_ble_eq_true rfl, Nat.le_of_ble_eq_true rfl⟩ (isO_x _ _) (Nat.le_of_ble_eq_true rfl) dX4_on_33 (c_X4_tell (by omega)) ?_
        exact q_fT (by unfold v_on; (try split) <;> (try split) <;> (try split) <;> (try split) <;> (try split) <;> (try split) <;> (try split) <;> omega) (by first | rfl | (rw [if_pos (by omega)]; done) | (rw [if_neg (by omega)]; done)) rfl dX4_on_36
      · refine p_iload3 dX4_on_25 ?_
        refine p_iconst dX4_on_26 ?_
        refine p_icmp_le ⟨by omega, by omega⟩ ⟨by omega, by omega⟩ 37 dX4_on_27 (by decide) (fun c27 => ?_) (fun c27 => ?_)
        · have hM : IR (b + n.toNat) (minsR n.toNat (S 0)) := IR.minsR n.toNat hI
          have k6 := hM.2.2.2.2.2.2 p (by omega) (by omega)
          refine p_oload0 dX4_on_37 ?_
          refine p_cV0v (M2 := mX4_startTrial) ml_RX4_151 mc_X4_startTrial ⟨Nat.le_of_ble_eq_true rfl, Nat.le_of_ble_eq_true rfl⟩ (isO_x _ _) (Nat.le_of_ble_eq_true rfl) dX4_on_38 (c_X4_startTrial) ?_
          refine p_oload0 dX4_on_41 ?_
          refine p_get fl_RX4_16 gx_trial dX4_on_42 ?_
          refine p_iload2 dX4_on_45 ?_
          refine p_cV1v (M2 := mX0_play) ml_RX4_134 mc_X0_play ⟨Nat.le_of_ble_eq_true rfl, Nat.le_of_ble_eq_true rfl⟩ (isO_fo _ _ _) (Nat.le_of_ble_eq_true rfl) dX4_on_46 (c1_play hI (by omega) (by omega)) ?_
          refine p_iload3 dX4_on_49 ?_
          refine p_if_ne ⟨by omega, by omega⟩ 65 dX4_on_50 (by decide) (fun c50 => ?_) (fun c50 => ?_)
          · refine p_oload0 dX4_on_65 ?_
            refine p_get fl_RX4_16 gx_trial dX4_on_66 ?_
            refine p_get fl_RX4_102 g1q_seen dX4_on_69 ?_
            refine p_iload1 dX4_on_72 ?_
            refine p_iald al1q_seen (by omega) (by omega) dX4_on_73 ?_
            exact q_T (by unfold v_on; rw [if_pos (by omega)]; exact congrArg (minsR n.toNat (S 0)) (by omega)) (by omega) (by first | rfl | (rw [if_pos (by omega)]; done) | (rw [if_neg (by omega)]; done)) rfl dX4_on_74
          · refine p_oload0 dX4_on_53 ?_
            refine p_get fl_RX4_16 gx_trial dX4_on_54 ?_
            refine p_get fl_RX4_99 g1q_wants dX4_on_57 ?_
            refine p_iload1 dX4_on_60 ?_
            refine p_iald al1q_wants (by omega) (by omega) dX4_on_61 ?_
            refine p_goto 74 dX4_on_62 (by decide) ?_
            exact q_T (by unfold v_on; rw [if_pos (by omega)]; exact congrArg (minsR n.toNat (S 0)) (by omega)) (by omega) (by first | rfl | (rw [if_pos (by omega)]; done) | (rw [if_neg (by omega)]; done)) rfl dX4_on_74
        · refine p_oload0 dX4_on_30 ?_
          refine p_ldc wc_RX4_44 dX4_on_31 ?_
          refine p_cV1r (M2 := mX4_tell) ml_RX4_45 mc_X4_tell ⟨Nat.le_of_ble_eq_true rfl, Nat.le_of_ble_eq_true rfl⟩ (isO_x _ _) (Nat.le_of_ble_eq_true rfl) dX4_on_33 (c_X4_tell (by omega)) ?_
          exact q_fT (by unfold v_on; (try split) <;> (try split) <;> (try split) <;> (try split) <;> (try split) <;> (try split) <;> (try split) <;> omega) (by first | rfl | (rw [if_pos (by omega)]; done) | (rw [if_neg (by omega)]; done)) rfl dX4_on_36
set_option maxRecDepth 100000 in
set_option maxHeartbeats 4000000 in
theorem c_X4_worn {G : GX} {S : St} {b : Int} (hI : IR b (S 0)) (hb : b ≤ 99999) {m : Int} (h_m : inR m) {n : Int} (h_n : inR n) : Ev G mX4_worn [rf G 0, vi m, vi n] (mk G S) (some (vi (v_worn (S 0) m n))) (mk G (va_up (va_up S 1 (if (0 ≤ m ∧ m < S 0 1) ∧ (0 ≤ n ∧ n ≤ 100) then minsR n.toNat (S 0) else S 1)) 5 (tl (S 5) (v_worn (S 0) m n)))) := by
  have i0 := hI.1; have i1 := hI.2.1; have i2 := hI.2.2.1; have i3 := hI.2.2.2.1; have i4 := hI.2.2.2.2.1
  obtain ⟨m1, m2⟩ := h_m
  obtain ⟨n1, n2⟩ := h_n
  refine Ev.enter (by decide +kernel) (Nat.le_of_ble_eq_true rfl) (L := [some (rf G 0), some (vi m), some (vi n)]) rfl ?_
  refine p_oload0 dX4_worn_0 ?_
  refine p_get fl_RX4_10 gx_fold dX4_worn_1 ?_
  refine p_iload1 dX4_worn_4 ?_
  refine p_cV1r (M2 := mX0_hasMan) ml_RX4_58 mc_X0_hasMan ⟨Nat.le_of_ble_eq_true rfl, Nat.le_of_ble_eq_true rfl⟩ (isO_fo _ _ _) (Nat.le_of_ble_eq_true rfl) dX4_worn_5 (c0_hasMan hI ⟨by omega, by omega⟩) ?_
  refine p_bif_eq 21 dX4_worn_8 (by decide) (fun c8 => ?_) (fun c8 => ?_)
  · refine p_oload0 dX4_worn_21 ?_
    refine p_ldc wc_RX4_44 dX4_worn_22 ?_
    refine p_cV1r (M2 := mX4_tell) ml_RX4_45 mc_X4_tell ⟨Nat.le_of_ble_eq_true rfl, Nat.le_of_ble_eq_true rfl⟩ (isO_x _ _) (Nat.le_of_ble_eq_true rfl) dX4_worn_24 (c_X4_tell (by omega)) ?_
    exact q_fT (by unfold v_worn; (try split) <;> (try split) <;> (try split) <;> (try split) <;> (try split) <;> (try split) <;> (try split) <;> omega) (by first | rfl | (rw [if_pos (by omega)]; done) | (rw [if_neg (by omega)]; done)) rfl dX4_worn_27
  · refine p_iload2 dX4_worn_11 ?_
    refine p_iconst dX4_worn_12 ?_
    refine p_bipush (by decide) (by decide) dX4_worn_13 ?_
    refine p_cS3r (M2 := mX4_isWithin) ms_RX4_67 mc_X4_isWithin ⟨Nat.le_of_ble_eq_true rfl, Nat.le_of_ble_eq_true rfl⟩ (Nat.le_of_ble_eq_true rfl) dX4_worn_15 (c_X4_isWithin ⟨by omega, by omega⟩ ⟨by omega, by omega⟩ ⟨by omega, by omega⟩) ?_
    refine p_bif_ne 28 dX4_worn_18 (by decide) (fun c18 => ?_) (fun c18 => ?_)
    · have hM : IR (b + n.toNat) (minsR n.toNat (S 0)) := IR.minsR n.toNat hI
      have k5 := hM.2.2.2.2.2.1 m (by omega) (by omega)
      refine p_oload0 dX4_worn_28 ?_
      refine p_cV0v (M2 := mX4_startTrial) ml_RX4_151 mc_X4_startTrial ⟨Nat.le_of_ble_eq_true rfl, Nat.le_of_ble_eq_true rfl⟩ (isO_x _ _) (Nat.le_of_ble_eq_true rfl) dX4_worn_29 (c_X4_startTrial) ?_
      refine p_oload0 dX4_worn_32 ?_
      refine p_get fl_RX4_16 gx_trial dX4_worn_33 ?_
      refine p_iload2 dX4_worn_36 ?_
      refine p_cV1v (M2 := mX0_play) ml_RX4_134 mc_X0_play ⟨Nat.le_of_ble_eq_true rfl, Nat.le_of_ble_eq_true rfl⟩ (isO_fo _ _ _) (Nat.le_of_ble_eq_true rfl) dX4_worn_37 (c1_play hI (by omega) (by omega)) ?_
      refine p_oload0 dX4_worn_40 ?_
      refine p_get fl_RX4_16 gx_trial dX4_worn_41 ?_
      refine p_get fl_RX4_64 g1q_wears dX4_worn_44 ?_
      refine p_iload1 dX4_worn_47 ?_
      refine p_iald al1q_wears (by omega) (by omega) dX4_worn_48 ?_
      exact q_T (by unfold v_worn; rw [if_pos (by omega)]) (by omega) (by first | rfl | (rw [if_pos (by omega)]; done) | (rw [if_neg (by omega)]; done)) rfl dX4_worn_49
    · refine p_oload0 dX4_worn_21 ?_
      refine p_ldc wc_RX4_44 dX4_worn_22 ?_
      refine p_cV1r (M2 := mX4_tell) ml_RX4_45 mc_X4_tell ⟨Nat.le_of_ble_eq_true rfl, Nat.le_of_ble_eq_true rfl⟩ (isO_x _ _) (Nat.le_of_ble_eq_true rfl) dX4_worn_24 (c_X4_tell (by omega)) ?_
      exact q_fT (by unfold v_worn; (try split) <;> (try split) <;> (try split) <;> (try split) <;> (try split) <;> (try split) <;> (try split) <;> omega) (by first | rfl | (rw [if_pos (by omega)]; done) | (rw [if_neg (by omega)]; done)) rfl dX4_worn_27
set_option maxRecDepth 100000 in
set_option maxHeartbeats 4000000 in
theorem c_X4_sleeps {G : GX} {S : St} {b : Int} (hI : IR b (S 0)) (hb : b ≤ 99999) {p : Int} (h_p : inR p) : Ev G mX4_sleeps [rf G 0, vi p] (mk G S) (some (vi (v_sleeps (S 0) p))) (mk G (va_up (va_up S 1 (if 0 ≤ p ∧ p < S 0 0 then (ft (at_ (18 + 3 * p) 0) 201 0 (S 0)).2 else S 1)) 5 (tl (S 5) (v_sleeps (S 0) p)))) := by
  have i0 := hI.1; have i1 := hI.2.1; have i2 := hI.2.2.1; have i3 := hI.2.2.2.1; have i4 := hI.2.2.2.2.1
  obtain ⟨p1, p2⟩ := h_p
  refine Ev.enter (by decide +kernel) (Nat.le_of_ble_eq_true rfl) (L := [some (rf G 0), some (vi p)]) rfl ?_
  refine p_oload0 dX4_sleeps_0 ?_
  refine p_get fl_RX4_10 gx_fold dX4_sleeps_1 ?_
  refine p_iload1 dX4_sleeps_4 ?_
  refine p_cV1r (M2 := mX0_hasSheep) ml_RX4_93 mc_X0_hasSheep ⟨Nat.le_of_ble_eq_true rfl, Nat.le_of_ble_eq_true rfl⟩ (isO_fo _ _ _) (Nat.le_of_ble_eq_true rfl) dX4_sleeps_5 (c0_hasSheep hI ⟨by omega, by omega⟩) ?_
  refine p_bif_ne 18 dX4_sleeps_8 (by decide) (fun c8 => ?_) (fun c8 => ?_)
  · have hf := ft_le (P := at_ (18 + 3 * p) 0) 201 0 (S 0)
    refine p_oload0 dX4_sleeps_18 ?_
    refine p_cV0v (M2 := mX4_startTrial) ml_RX4_151 mc_X4_startTrial ⟨Nat.le_of_ble_eq_true rfl, Nat.le_of_ble_eq_true rfl⟩ (isO_x _ _) (Nat.le_of_ble_eq_true rfl) dX4_sleeps_19 (c_X4_startTrial) ?_
    refine p_oload0 dX4_sleeps_22 ?_
    refine p_oload0 dX4_sleeps_23 ?_
    refine p_get fl_RX4_16 gx_trial dX4_sleeps_24 ?_
    refine p_iload1 dX4_sleeps_27 ?_
    refine p_sipush (by decide) (by decide) dX4_sleeps_28 ?_
    refine p_cV2r (M2 := mX0_playTillAsleep) ml_RX4_154 mc_X0_playTillAsleep ⟨Nat.le_of_ble_eq_true rfl, Nat.le_of_ble_eq_true rfl⟩ (isO_fo _ _ _) (Nat.le_of_ble_eq_true rfl) dX4_sleeps_31 (c1_playTillAsleep hI (by omega) (by omega) (by omega)) ?_
    rw [show ((200 : Int) + 1).toNat = 201 from rfl]
    refine p_cV1r (M2 := mX4_withinWait) ml_RX4_157 mc_X4_withinWait ⟨Nat.le_of_ble_eq_true rfl, Nat.le_of_ble_eq_true rfl⟩ (isO_x _ _) (Nat.le_of_ble_eq_true rfl) dX4_sleeps_34 (c_X4_withinWait (by omega)) ?_
    exact q_fT2 (S := S) (by unfold v_sleeps; exact (if_pos c8).symm) (by first | rfl | (rw [if_pos (by omega)]; done) | (rw [if_neg (by omega)]; done)) rfl dX4_sleeps_37
  · refine p_oload0 dX4_sleeps_11 ?_
    refine p_ldc wc_RX4_44 dX4_sleeps_12 ?_
    refine p_cV1r (M2 := mX4_tell) ml_RX4_45 mc_X4_tell ⟨Nat.le_of_ble_eq_true rfl, Nat.le_of_ble_eq_true rfl⟩ (isO_x _ _) (Nat.le_of_ble_eq_true rfl) dX4_sleeps_14 (c_X4_tell (by omega)) ?_
    exact q_fT (by unfold v_sleeps; (try split) <;> (try split) <;> (try split) <;> (try split) <;> (try split) <;> (try split) <;> (try split) <;> omega) (by first | rfl | (rw [if_pos (by omega)]; done) | (rw [if_neg (by omega)]; done)) rfl dX4_sleeps_17
set_option maxRecDepth 100000 in
set_option maxHeartbeats 4000000 in
theorem c_X4_quiet {G : GX} {S : St} {b : Int} (hI : IR b (S 0)) (hb : b ≤ 99999) : Ev G mX4_quiet [rf G 0] (mk G S) (some (vi (v_quiet (S 0)))) (mk G (va_up (va_up S 1 ((ft qt 201 0 (S 0)).2)) 5 (tl (S 5) (v_quiet (S 0))))) := by
  have i0 := hI.1; have i1 := hI.2.1; have i2 := hI.2.2.1; have i3 := hI.2.2.2.1; have i4 := hI.2.2.2.2.1
  have hf := ft_le (P := qt) 201 0 (S 0)
  refine Ev.enter (by decide +kernel) (Nat.le_of_ble_eq_true rfl) (L := [some (rf G 0)]) rfl ?_
  refine p_oload0 dX4_quiet_0 ?_
  refine p_cV0v (M2 := mX4_startTrial) ml_RX4_151 mc_X4_startTrial ⟨Nat.le_of_ble_eq_true rfl, Nat.le_of_ble_eq_true rfl⟩ (isO_x _ _) (Nat.le_of_ble_eq_true rfl) dX4_quiet_1 (c_X4_startTrial) ?_
  refine p_oload0 dX4_quiet_4 ?_
  refine p_oload0 dX4_quiet_5 ?_
  refine p_get fl_RX4_16 gx_trial dX4_quiet_6 ?_
  refine p_sipush (by decide) (by decide) dX4_quiet_9 ?_
  refine p_cV1r (M2 := mX0_playTillQuiet) ml_RX4_160 mc_X0_playTillQuiet ⟨Nat.le_of_ble_eq_true rfl, Nat.le_of_ble_eq_true rfl⟩ (isO_fo _ _ _) (Nat.le_of_ble_eq_true rfl) dX4_quiet_12 (c1_playTillQuiet hI (by omega) (by omega)) ?_
  rw [show ((200 : Int) + 1).toNat = 201 from rfl]
  refine p_cV1r (M2 := mX4_withinWait) ml_RX4_157 mc_X4_withinWait ⟨Nat.le_of_ble_eq_true rfl, Nat.le_of_ble_eq_true rfl⟩ (isO_x _ _) (Nat.le_of_ble_eq_true rfl) dX4_quiet_15 (c_X4_withinWait (by omega)) ?_
  exact q_fT2 (S := S) (by unfold v_quiet; rfl) (by first | rfl | (rw [if_pos (by omega)]; done) | (rw [if_neg (by omega)]; done)) rfl dX4_quiet_18
set_option maxRecDepth 100000 in
set_option maxHeartbeats 4000000 in
theorem c_X4_bare {G : GX} {S : St} {b : Int} (hI : IR b (S 0)) (hb : b ≤ 99999) {m : Int} (h_m : inR m) : Ev G mX4_bare [rf G 0, vi m] (mk G S) (some (vi (v_bare (S 0) m))) (mk G (va_up (va_up S 1 (if 0 ≤ m ∧ m < S 0 1 then (ft (at_ (6 + 2 * m) 99) 201 0 (S 0)).2 else S 1)) 5 (tl (S 5) (v_bare (S 0) m)))) := by
  have i0 := hI.1; have i1 := hI.2.1; have i2 := hI.2.2.1; have i3 := hI.2.2.2.1; have i4 := hI.2.2.2.2.1
  obtain ⟨m1, m2⟩ := h_m
  refine Ev.enter (by decide +kernel) (Nat.le_of_ble_eq_true rfl) (L := [some (rf G 0), some (vi m)]) rfl ?_
  refine p_oload0 dX4_bare_0 ?_
  refine p_get fl_RX4_10 gx_fold dX4_bare_1 ?_
  refine p_iload1 dX4_bare_4 ?_
  refine p_cV1r (M2 := mX0_hasMan) ml_RX4_58 mc_X0_hasMan ⟨Nat.le_of_ble_eq_true rfl, Nat.le_of_ble_eq_true rfl⟩ (isO_fo _ _ _) (Nat.le_of_ble_eq_true rfl) dX4_bare_5 (c0_hasMan hI ⟨by omega, by omega⟩) ?_
  refine p_bif_ne 18 dX4_bare_8 (by decide) (fun c8 => ?_) (fun c8 => ?_)
  · have hf := ft_le (P := at_ (6 + 2 * m) 99) 201 0 (S 0)
    refine p_oload0 dX4_bare_18 ?_
    refine p_cV0v (M2 := mX4_startTrial) ml_RX4_151 mc_X4_startTrial ⟨Nat.le_of_ble_eq_true rfl, Nat.le_of_ble_eq_true rfl⟩ (isO_x _ _) (Nat.le_of_ble_eq_true rfl) dX4_bare_19 (c_X4_startTrial) ?_
    refine p_oload0 dX4_bare_22 ?_
    refine p_oload0 dX4_bare_23 ?_
    refine p_get fl_RX4_16 gx_trial dX4_bare_24 ?_
    refine p_iload1 dX4_bare_27 ?_
    refine p_sipush (by decide) (by decide) dX4_bare_28 ?_
    refine p_cV2r (M2 := mX0_playTillBare) ml_RX4_163 mc_X0_playTillBare ⟨Nat.le_of_ble_eq_true rfl, Nat.le_of_ble_eq_true rfl⟩ (isO_fo _ _ _) (Nat.le_of_ble_eq_true rfl) dX4_bare_31 (c1_playTillBare hI (by omega) (by omega) (by omega)) ?_
    rw [show ((200 : Int) + 1).toNat = 201 from rfl]
    refine p_cV1r (M2 := mX4_withinWait) ml_RX4_157 mc_X4_withinWait ⟨Nat.le_of_ble_eq_true rfl, Nat.le_of_ble_eq_true rfl⟩ (isO_x _ _) (Nat.le_of_ble_eq_true rfl) dX4_bare_34 (c_X4_withinWait (by omega)) ?_
    exact q_fT2 (S := S) (by unfold v_bare; exact (if_pos c8).symm) (by first | rfl | (rw [if_pos (by omega)]; done) | (rw [if_neg (by omega)]; done)) rfl dX4_bare_37
  · refine p_oload0 dX4_bare_11 ?_
    refine p_ldc wc_RX4_44 dX4_bare_12 ?_
    refine p_cV1r (M2 := mX4_tell) ml_RX4_45 mc_X4_tell ⟨Nat.le_of_ble_eq_true rfl, Nat.le_of_ble_eq_true rfl⟩ (isO_x _ _) (Nat.le_of_ble_eq_true rfl) dX4_bare_14 (c_X4_tell (by omega)) ?_
    exact q_fT (by unfold v_bare; (try split) <;> (try split) <;> (try split) <;> (try split) <;> (try split) <;> (try split) <;> (try split) <;> omega) (by first | rfl | (rw [if_pos (by omega)]; done) | (rw [if_neg (by omega)]; done)) rfl dX4_bare_17
set_option maxRecDepth 100000 in
set_option maxHeartbeats 4000000 in
theorem l_X4_guise {G : GX} {S : St} {b : Int} (hI : IR b (S 0)) (hb : b ≤ 99999) {m : Int} (hm : 0 ≤ m ∧ m < S 0 1) : ∀ (n : Nat) (g : Int) (be : Int) (so : Int) (t : Row), (be = -1000000004 ∨ 0 ≤ be ∧ be ≤ 7) → 0 ≤ so ∧ so ≤ 101 → 0 ≤ g → g ≤ 8 → 8 - g < (n : Int) → Rn G mX4_guise 27 [some (rf G 0), some (vi m), some (vi be), some (vi so), some (vi g), none] [] (mk G (va_up S 1 t)) (some (vi (xsr (fun g => g) (fun g s => ft qt s.toNat 0 (uz (S 0) (5 + 2 * m) g)) (8 - g).toNat g (be, so, t)).1)) (mk G (va_up (va_up S 1 (xsr (fun g => g) (fun g s => ft qt s.toNat 0 (uz (S 0) (5 + 2 * m) g)) (8 - g).toNat g (be, so, t)).2.2) 5 (tl (S 5) (xsr (fun g => g) (fun g s => ft qt s.toNat 0 (uz (S 0) (5 + 2 * m) g)) (8 - g).toNat g (be, so, t)).1))) := by
  intro n
  induction n with
  | zero =>
    intro g be so t hbe hso h0 h1 h2
    exfalso
    omega
  | succ n ih =>
    intro g be so t hbe hso h0 h1 h2
    have i0 := hI.1; have i1 := hI.2.1; have i2 := hI.2.2.1; have i3 := hI.2.2.2.1; have i4 := hI.2.2.2.2.1
    push_cast at h2
    refine p_iload4 dX4_guise_27 ?_
    refine p_bipush (by decide) (by decide) dX4_guise_29 ?_
    refine p_icmp_ge ⟨by omega, by omega⟩ ⟨by omega, by omega⟩ 79 dX4_guise_31 (by decide) (fun c31 => ?_) (fun c31 => ?_)
    · rw [show (8 - g).toNat = 0 by omega, xsr]
      refine p_oload0 dX4_guise_79 ?_
      refine p_iload2 dX4_guise_80 ?_
      refine p_cV1r (M2 := mX4_answer) ml_RX4_166 mc_X4_answer ⟨Nat.le_of_ble_eq_true rfl, Nat.le_of_ble_eq_true rfl⟩ (isO_x _ _) (Nat.le_of_ble_eq_true rfl) dX4_guise_81 (c_X4_answer (S := va_up S 1 t) (by omega)) ?_
      exact p_iret rfl dX4_guise_84 rfl rfl
    · rw [show (8 - g).toNat = (8 - (g + 1)).toNat + 1 by omega, xsr]
      dsimp only
      have hT : IR b (uz (S 0) (5 + 2 * m) g) := hI.guise (by omega) (by omega)
      have hf := ft_le (P := qt) so.toNat 0 (uz (S 0) (5 + 2 * m) g)
      refine p_oload0 dX4_guise_34 ?_
      refine p_cV0v (M2 := mX4_startTrial) ml_RX4_151 mc_X4_startTrial ⟨Nat.le_of_ble_eq_true rfl, Nat.le_of_ble_eq_true rfl⟩ (isO_x _ _) (Nat.le_of_ble_eq_true rfl) dX4_guise_35 (c_startTrial2) ?_
      refine p_oload0 dX4_guise_38 ?_
      refine p_get fl_RX4_16 gx_trial dX4_guise_39 ?_
      refine p_get fl_RX4_61 g1q_guises dX4_guise_42 ?_
      refine p_iload1 dX4_guise_45 ?_
      refine p_iload4 dX4_guise_46 ?_
      refine p_iast al1q_guises (by omega) (by omega) (as1q_guises (by omega) (by omega)) dX4_guise_48 ?_
      refine p_oload0 dX4_guise_49 ?_
      refine p_get fl_RX4_16 gx_trial dX4_guise_50 ?_
      refine p_iload3 dX4_guise_53 ?_
      refine p_iconst dX4_guise_54 ?_
      refine p_isub dX4_guise_55 ?_
      refine p_cV1r (M2 := mX0_playTillQuiet) ml_RX4_160 mc_X0_playTillQuiet ⟨Nat.le_of_ble_eq_true rfl, Nat.le_of_ble_eq_true rfl⟩ (isO_fo _ _ _) (Nat.le_of_ble_eq_true rfl) dX4_guise_56 (c1_playTillQuiet hT (by omega) (by omega)) ?_
      rw [show so - 1 + 1 = so by omega]
      refine p_istore5 rfl (Nat.le_of_ble_eq_true rfl) dX4_guise_59 ?_
      refine p_iload5 dX4_guise_61 ?_
      refine p_iload3 dX4_guise_63 ?_
      refine p_icmp_ge ⟨by omega, by omega⟩ ⟨by omega, by omega⟩ 73 dX4_guise_64 (by decide) (fun c64 => ?_) (fun c64 => ?_)
      · rw [if_neg (by omega)]
        refine p_iinc4 rfl (Nat.le_of_ble_eq_true rfl) dX4_guise_73 ?_
        refine p_goto 27 dX4_guise_76 (by decide) ?_
        exact Rn.kp (ih (g + 1) be so _ hbe hso (by omega) (by omega) (by omega)) ⟨rfl, rfl, rfl, rfl, rfl, trivial⟩
      · rw [if_pos (by omega)]
        refine p_iload5 dX4_guise_67 ?_
        refine p_istore3 rfl (Nat.le_of_ble_eq_true rfl) dX4_guise_69 ?_
        refine p_iload4 dX4_guise_70 ?_
        refine p_istore2 rfl (Nat.le_of_ble_eq_true rfl) dX4_guise_72 ?_
        refine p_iinc4 rfl (Nat.le_of_ble_eq_true rfl) dX4_guise_73 ?_
        refine p_goto 27 dX4_guise_76 (by decide) ?_
        exact Rn.kp (ih (g + 1) g _ _ (by omega) (by omega) (by omega) (by omega) (by omega)) ⟨rfl, rfl, rfl, rfl, rfl, trivial⟩
theorem e_guise (r t : Row) (m : Int) : (xsr (fun g => g) (fun g s => ft qt s.toNat 0 (uz r (5 + 2 * m) g)) 8 0 (-1000000004, 101, t)).1 = nn (s_guise r m) := by
  have h := xsr_bst (V := fun g => g) (f := fun g => (ft qt 101 0 (uz r (5 + 2 * m) g)).1) (F := fun g s => ft qt s.toNat 0 (uz r (5 + 2 * m) g)) (lim := 101) (fun g h => h) (fun g s _ h1 h2 => ft_F (lim := 101) s h1 (by omega)) 8 0 (-1000000004, 101, t) (-1, 101) (by omega) (by show (0 : Int) ≤ 101; omega) (by show (101 : Int) ≤ 101; omega) ⟨rfl, Or.inl ⟨rfl, rfl⟩⟩
  exact xeq_nn h.1
set_option maxRecDepth 100000 in
set_option maxHeartbeats 4000000 in
theorem c_X4_guise {G : GX} {S : St} {b : Int} (hI : IR b (S 0)) (hb : b ≤ 99999) {m : Int} (h_m : inR m) : Ev G mX4_guise [rf G 0, vi m] (mk G S) (some (vi (v_guise (S 0) m))) (mk G (va_up (va_up S 1 (if 0 ≤ m ∧ m < S 0 1 then (xsr (fun g => g) (fun g s => ft qt s.toNat 0 (uz (S 0) (5 + 2 * m) g)) (8 : Int).toNat 0 (-1000000004, 101, S 1)).2.2 else S 1)) 5 (tl (S 5) (v_guise (S 0) m)))) := by
  have i0 := hI.1; have i1 := hI.2.1; have i2 := hI.2.2.1; have i3 := hI.2.2.2.1; have i4 := hI.2.2.2.2.1
  obtain ⟨m1, m2⟩ := h_m
  refine Ev.enter (by decide +kernel) (Nat.le_of_ble_eq_true rfl) (L := [some (rf G 0), some (vi m), none, none, none, none]) rfl ?_
  refine p_oload0 dX4_guise_0 ?_
  refine p_get fl_RX4_10 gx_fold dX4_guise_1 ?_
  refine p_iload1 dX4_guise_4 ?_
  refine p_cV1r (M2 := mX0_hasMan) ml_RX4_58 mc_X0_hasMan ⟨Nat.le_of_ble_eq_true rfl, Nat.le_of_ble_eq_true rfl⟩ (isO_fo _ _ _) (Nat.le_of_ble_eq_true rfl) dX4_guise_5 (c0_hasMan hI ⟨by omega, by omega⟩) ?_
  refine p_bif_ne 18 dX4_guise_8 (by decide) (fun c8 => ?_) (fun c8 => ?_)
  · refine p_ldc wc_RX4_78 dX4_guise_18 ?_
    refine p_istore2 rfl (Nat.le_of_ble_eq_true rfl) dX4_guise_20 ?_
    refine p_bipush (by decide) (by decide) dX4_guise_21 ?_
    refine p_istore3 rfl (Nat.le_of_ble_eq_true rfl) dX4_guise_23 ?_
    refine p_iconst dX4_guise_24 ?_
    refine p_istore4 rfl (Nat.le_of_ble_eq_true rfl) dX4_guise_25 ?_
    have h := l_X4_guise (G := G) hI hb (m := m) (by omega) 9 0 (-1000000004) 101 (S 1) (Or.inl rfl) (by omega) (by omega) (by omega) (by omega)
    rw [vup_same, Int.sub_zero] at h
    rw [if_pos (by omega), show v_guise (S 0) m = (xsr (fun g => g) (fun g s => ft qt s.toNat 0 (uz (S 0) (5 + 2 * m) g)) (8 : Int).toNat 0 (-1000000004, 101, S 1)).1 from by unfold v_guise; rw [if_pos (by omega)]; exact (e_guise (S 0) (S 1) m).symm]
    exact h
  · refine p_oload0 dX4_guise_11 ?_
    refine p_ldc wc_RX4_44 dX4_guise_12 ?_
    refine p_cV1r (M2 := mX4_tell) ml_RX4_45 mc_X4_tell ⟨Nat.le_of_ble_eq_true rfl, Nat.le_of_ble_eq_true rfl⟩ (isO_x _ _) (Nat.le_of_ble_eq_true rfl) dX4_guise_14 (c_X4_tell (by omega)) ?_
    exact q_fT (by unfold v_guise; (try split) <;> (try split) <;> (try split) <;> (try split) <;> (try split) <;> (try split) <;> (try split) <;> omega) (by first | rfl | (rw [if_pos (by omega)]; done) | (rw [if_neg (by omega)]; done)) rfl dX4_guise_17
set_option maxRecDepth 100000 in
set_option maxHeartbeats 4000000 in
theorem l_X4_guises {G : GX} {S : St} {b : Int} (hI : IR b (S 0)) (hb : b ≤ 99999) {m o : Int} (hm : 0 ≤ m ∧ m < S 0 1) (ho : 0 ≤ o ∧ o < S 0 1) : ∀ (n : Nat) (g : Int) (be : Int) (so : Int) (t : Row), (be = -1000000004 ∨ 0 ≤ be ∧ be ≤ 63) → 0 ≤ so ∧ so ≤ 61 → 0 ≤ g → g ≤ 64 → 64 - g < (n : Int) → Rn G mX4_guises 44 [some (rf G 0), some (vi m), some (vi o), some (vi be), some (vi so), some (vi g), none] [] (mk G (va_up S 1 t)) (some (vi (xsr (fun g => g) (fun z s => ft qt s.toNat 0 (gu2 (S 0) m o z)) (64 - g).toNat g (be, so, t)).1)) (mk G (va_up (va_up S 1 (xsr (fun g => g) (fun z s => ft qt s.toNat 0 (gu2 (S 0) m o z)) (64 - g).toNat g (be, so, t)).2.2) 5 (tl (S 5) (xsr (fun g => g) (fun z s => ft qt s.toNat 0 (gu2 (S 0) m o z)) (64 - g).toNat g (be, so, t)).1))) := by
  intro n
  induction n with
  | zero =>
    intro g be so t hbe hso h0 h1 h2
    exfalso
    omega
  | succ n ih =>
    intro g be so t hbe hso h0 h1 h2
    have i0 := hI.1; have i1 := hI.2.1; have i2 := hI.2.2.1; have i3 := hI.2.2.2.1; have i4 := hI.2.2.2.2.1
    push_cast at h2
    refine p_iload5 dX4_guises_44 ?_
    refine p_bipush (by decide) (by decide) dX4_guises_46 ?_
    refine p_icmp_ge ⟨by omega, by omega⟩ ⟨by omega, by omega⟩ 116 dX4_guises_48 (by decide) (fun c48 => ?_) (fun c48 => ?_)
    · rw [show (64 - g).toNat = 0 by omega, xsr]
      refine p_oload0 dX4_guises_116 ?_
      refine p_iload3 dX4_guises_117 ?_
      refine p_cV1r (M2 := mX4_answer) ml_RX4_166 mc_X4_answer ⟨Nat.le_of_ble_eq_true rfl, Nat.le_of_ble_eq_true rfl⟩ (isO_x _ _) (Nat.le_of_ble_eq_true rfl) dX4_guises_118 (c_X4_answer (S := va_up S 1 t) (by omega)) ?_
      exact p_iret rfl dX4_guises_121 rfl rfl
    · rw [show (64 - g).toNat = (64 - (g + 1)).toNat + 1 by omega, xsr]
      dsimp only
      have hT : IR b (gu2 (S 0) m o g) := (hI.guise (by omega) (by omega)).guise (by omega) (by omega)
      have hf := ft_le (P := qt) so.toNat 0 (gu2 (S 0) m o g)
      refine p_oload0 dX4_guises_51 ?_
      refine p_cV0v (M2 := mX4_startTrial) ml_RX4_151 mc_X4_startTrial ⟨Nat.le_of_ble_eq_true rfl, Nat.le_of_ble_eq_true rfl⟩ (isO_x _ _) (Nat.le_of_ble_eq_true rfl) dX4_guises_52 (c_startTrial2) ?_
      refine p_oload0 dX4_guises_55 ?_
      refine p_get fl_RX4_16 gx_trial dX4_guises_56 ?_
      refine p_get fl_RX4_61 g1q_guises dX4_guises_59 ?_
      refine p_iload1 dX4_guises_62 ?_
      refine p_iload5 dX4_guises_63 ?_
      refine p_bipush (by decide) (by decide) dX4_guises_65 ?_
      refine p_idiv ⟨by omega, by omega⟩ ⟨by omega, by omega⟩ (by omega) (by omega) dX4_guises_67 ?_
      refine p_iast al1q_guises (by omega) (by omega) (as1q_guises (by omega) (by omega)) dX4_guises_68 ?_
      refine p_oload0 dX4_guises_69 ?_
      refine p_get fl_RX4_16 gx_trial dX4_guises_70 ?_
      refine p_get fl_RX4_61 g1q_guises dX4_guises_73 ?_
      refine p_iload2 dX4_guises_76 ?_
      refine p_iload5 dX4_guises_77 ?_
      refine p_bipush (by decide) (by decide) dX4_guises_79 ?_
      refine p_irem ⟨by omega, by omega⟩ ⟨by omega, by omega⟩ (by omega) (by omega) dX4_guises_81 ?_
      refine p_iast al1q_guises (by omega) (by omega) (as1q_guises (by omega) (by omega)) dX4_guises_82 ?_
      refine p_oload0 dX4_guises_83 ?_
      refine p_get fl_RX4_16 gx_trial dX4_guises_84 ?_
      refine p_iload4 dX4_guises_87 ?_
      refine p_iconst dX4_guises_89 ?_
      refine p_isub dX4_guises_90 ?_
      refine p_cV1r (M2 := mX0_playTillQuiet) ml_RX4_160 mc_X0_playTillQuiet ⟨Nat.le_of_ble_eq_true rfl, Nat.le_of_ble_eq_true rfl⟩ (isO_fo _ _ _) (Nat.le_of_ble_eq_true rfl) dX4_guises_91 (c1_playTillQuiet (r := gu2 (S 0) m o g) hT (by omega) (by omega)) ?_
      rw [show so - 1 + 1 = so by omega]
      refine p_istore6 rfl (Nat.le_of_ble_eq_true rfl) dX4_guises_94 ?_
      refine p_iload6 dX4_guises_96 ?_
      refine p_iload4 dX4_guises_98 ?_
      refine p_icmp_ge ⟨by omega, by omega⟩ ⟨by omega, by omega⟩ 110 dX4_guises_100 (by decide) (fun c100 => ?_) (fun c100 => ?_)
      · rw [if_neg (by omega)]
        refine p_iinc5 rfl (Nat.le_of_ble_eq_true rfl) dX4_guises_110 ?_
        refine p_goto 44 dX4_guises_113 (by decide) ?_
        exact Rn.kp (ih (g + 1) be so _ hbe hso (by omega) (by omega) (by omega)) ⟨rfl, rfl, rfl, rfl, rfl, rfl, trivial⟩
      · rw [if_pos (by omega)]
        refine p_iload6 dX4_guises_103 ?_
        refine p_istore4 rfl (Nat.le_of_ble_eq_true rfl) dX4_guises_105 ?_
        refine p_iload5 dX4_guises_107 ?_
        refine p_istore3 rfl (Nat.le_of_ble_eq_true rfl) dX4_guises_109 ?_
        refine p_iinc5 rfl (Nat.le_of_ble_eq_true rfl) dX4_guises_110 ?_
        refine p_goto 44 dX4_guises_113 (by decide) ?_
        exact Rn.kp (ih (g + 1) g _ _ (by omega) (by omega) (by omega) (by omega) (by omega)) ⟨rfl, rfl, rfl, rfl, rfl, rfl, trivial⟩
theorem e_guises (r t : Row) (m o : Int) : (xsr (fun g => g) (fun z s => ft qt s.toNat 0 (gu2 r m o z)) 64 0 (-1000000004, 61, t)).1 = nn (s_guises r m o) := by
  have h := xsr_bst (V := fun g => g) (f := fun z => (ft qt 61 0 (gu2 r m o z)).1) (F := fun z s => ft qt s.toNat 0 (gu2 r m o z)) (lim := 61) (fun g h => h) (fun g s _ h1 h2 => ft_F (lim := 61) s h1 (by omega)) 64 0 (-1000000004, 61, t) (-1, 61) (by omega) (by show (0 : Int) ≤ 61; omega) (by show (61 : Int) ≤ 61; omega) ⟨rfl, Or.inl ⟨rfl, rfl⟩⟩
  exact xeq_nn h.1
set_option maxRecDepth 100000 in
set_option maxHeartbeats 4000000 in
theorem c_X4_guises {G : GX} {S : St} {b : Int} (hI : IR b (S 0)) (hb : b ≤ 99999) {m : Int} (h_m : inR m) {o : Int} (h_o : inR o) : Ev G mX4_guises [rf G 0, vi m, vi o] (mk G S) (some (vi (v_guises (S 0) m o))) (mk G (va_up (va_up S 1 (if (0 ≤ m ∧ m < S 0 1) ∧ (0 ≤ o ∧ o < S 0 1) ∧ m ≠ o then (xsr (fun g => g) (fun z s => ft qt s.toNat 0 (gu2 (S 0) m o z)) (64 : Int).toNat 0 (-1000000004, 61, S 1)).2.2 else S 1)) 5 (tl (S 5) (v_guises (S 0) m o)))) := by
  have i0 := hI.1; have i1 := hI.2.1; have i2 := hI.2.2.1; have i3 := hI.2.2.2.1; have i4 := hI.2.2.2.2.1
  obtain ⟨m1, m2⟩ := h_m
  obtain ⟨o1, o2⟩ := h_o
  refine Ev.enter (by decide +kernel) (Nat.le_of_ble_eq_true rfl) (L := [some (rf G 0), some (vi m), some (vi o), none, none, none, none]) rfl ?_
  refine p_oload0 dX4_guises_0 ?_
  refine p_get fl_RX4_10 gx_fold dX4_guises_1 ?_
  refine p_iload1 dX4_guises_4 ?_
  refine p_cV1r (M2 := mX0_hasMan) ml_RX4_58 mc_X0_hasMan ⟨Nat.le_of_ble_eq_true rfl, Nat.le_of_ble_eq_true rfl⟩ (isO_fo _ _ _) (Nat.le_of_ble_eq_true rfl) dX4_guises_5 (c0_hasMan hI ⟨by omega, by omega⟩) ?_
  refine p_bif_eq 27 dX4_guises_8 (by decide) (fun c8 => ?_) (fun c8 => ?_)
  · refine p_oload0 dX4_guises_27 ?_
    refine p_ldc wc_RX4_44 dX4_guises_28 ?_
    refine p_cV1r (M2 := mX4_tell) ml_RX4_45 mc_X4_tell ⟨Nat.le_of_ble_eq_true rfl, Nat.le_of_ble_eq_true rfl⟩ (isO_x _ _) (Nat.le_of_ble_eq_true rfl) dX4_guises_30 (c_X4_tell (by omega)) ?_
    exact q_fT (by unfold v_guises; (try split) <;> (try split) <;> (try split) <;> (try split) <;> (try split) <;> (try split) <;> (try split) <;> omega) (by first | rfl | (rw [if_pos (by omega)]; done) | (rw [if_neg (by omega)]; done)) rfl dX4_guises_33
  · refine p_oload0 dX4_guises_11 ?_
    refine p_get fl_RX4_10 gx_fold dX4_guises_12 ?_
    refine p_iload2 dX4_guises_15 ?_
    refine p_cV1r (M2 := mX0_hasMan) ml_RX4_58 mc_X0_hasMan ⟨Nat.le_of_ble_eq_true rfl, Nat.le_of_ble_eq_true rfl⟩ (isO_fo _ _ _) (Nat.le_of_ble_eq_true rfl) dX4_guises_16 (c0_hasMan hI ⟨by omega, by omega⟩) ?_
    refine p_bif_eq 27 dX4_guises_19 (by decide) (fun c19 => ?_) (fun c19 => ?_)
    · refine p_oload0 dX4_guises_27 ?_
      refine p_ldc wc_RX4_44 dX4_guises_28 ?_
      refine p_cV1r (M2 := mX4_tell) ml_RX4_45 mc_X4_tell ⟨Nat.le_of_ble_eq_true rfl, Nat.le_of_ble_eq_true rfl⟩ (isO_x _ _) (Nat.le_of_ble_eq_true rfl) dX4_guises_30 (c_X4_tell (by omega)) ?_
      exact q_fT (by unfold v_guises; (try split) <;> (try split) <;> (try split) <;> (try split) <;> (try split) <;> (try split) <;> (try split) <;> omega) (by first | rfl | (rw [if_pos (by omega)]; done) | (rw [if_neg (by omega)]; done)) rfl dX4_guises_33
    · refine p_iload1 dX4_guises_22 ?_
      refine p_iload2 dX4_guises_23 ?_
      refine p_icmp_ne ⟨by omega, by omega⟩ ⟨by omega, by omega⟩ 34 dX4_guises_24 (by decide) (fun c24 => ?_) (fun c24 => ?_)
      · refine p_ldc wc_RX4_78 dX4_guises_34 ?_
        refine p_istore3 rfl (Nat.le_of_ble_eq_true rfl) dX4_guises_36 ?_
        refine p_bipush (by decide) (by decide) dX4_guises_37 ?_
        refine p_istore4 rfl (Nat.le_of_ble_eq_true rfl) dX4_guises_39 ?_
        refine p_iconst dX4_guises_41 ?_
        refine p_istore5 rfl (Nat.le_of_ble_eq_true rfl) dX4_guises_42 ?_
        have h := l_X4_guises (G := G) hI hb (m := m) (o := o) (by omega) (by omega) 65 0 (-1000000004) 61 (S 1) (Or.inl rfl) (by omega) (by omega) (by omega) (by omega)
        rw [vup_same, Int.sub_zero] at h
        rw [if_pos (by omega), show v_guises (S 0) m o = (xsr (fun g => g) (fun z s => ft qt s.toNat 0 (gu2 (S 0) m o z)) (64 : Int).toNat 0 (-1000000004, 61, S 1)).1 from by unfold v_guises; rw [if_pos (by omega)]; exact (e_guises (S 0) (S 1) m o).symm]
        exact h
      · refine p_oload0 dX4_guises_27 ?_
        refine p_ldc wc_RX4_44 dX4_guises_28 ?_
        refine p_cV1r (M2 := mX4_tell) ml_RX4_45 mc_X4_tell ⟨Nat.le_of_ble_eq_true rfl, Nat.le_of_ble_eq_true rfl⟩ (isO_x _ _) (Nat.le_of_ble_eq_true rfl) dX4_guises_30 (c_X4_tell (by omega)) ?_
        exact q_fT (by unfold v_guises; (try split) <;> (try split) <;> (try split) <;> (try split) <;> (try split) <;> (try split) <;> (try split) <;> omega) (by first | rfl | (rw [if_pos (by omega)]; done) | (rw [if_neg (by omega)]; done)) rfl dX4_guises_33
set_option maxRecDepth 100000 in
set_option maxHeartbeats 4000000 in
theorem l_X4_kind {G : GX} {S : St} {b : Int} (hI : IR b (S 0)) (hb : b ≤ 99999) {p : Int} (hp : 0 ≤ p ∧ p < S 0 0) : ∀ (n : Nat) (g : Int) (be : Int) (so : Int) (t : Row), (be = -1000000004 ∨ 0 ≤ be ∧ be ≤ 5) → 0 ≤ so ∧ so ≤ 101 → 0 ≤ g → g ≤ 6 → 6 - g < (n : Int) → Rn G mX4_kind 27 [some (rf G 0), some (vi p), some (vi be), some (vi so), some (vi g), none] [] (mk G (va_up S 1 t)) (some (vi (xsr (fun g => g) (fun k s => ft (at_ (18 + 3 * p) 0) s.toNat 0 (uz (S 0) (17 + 3 * p) k)) (6 - g).toNat g (be, so, t)).1)) (mk G (va_up (va_up S 1 (xsr (fun g => g) (fun k s => ft (at_ (18 + 3 * p) 0) s.toNat 0 (uz (S 0) (17 + 3 * p) k)) (6 - g).toNat g (be, so, t)).2.2) 5 (tl (S 5) (xsr (fun g => g) (fun k s => ft (at_ (18 + 3 * p) 0) s.toNat 0 (uz (S 0) (17 + 3 * p) k)) (6 - g).toNat g (be, so, t)).1))) := by
  intro n
  induction n with
  | zero =>
    intro g be so t hbe hso h0 h1 h2
    exfalso
    omega
  | succ n ih =>
    intro g be so t hbe hso h0 h1 h2
    have i0 := hI.1; have i1 := hI.2.1; have i2 := hI.2.2.1; have i3 := hI.2.2.2.1; have i4 := hI.2.2.2.2.1
    push_cast at h2
    refine p_iload4 dX4_kind_27 ?_
    refine p_bipush (by decide) (by decide) dX4_kind_29 ?_
    refine p_icmp_ge ⟨by omega, by omega⟩ ⟨by omega, by omega⟩ 80 dX4_kind_31 (by decide) (fun c31 => ?_) (fun c31 => ?_)
    · rw [show (6 - g).toNat = 0 by omega, xsr]
      refine p_oload0 dX4_kind_80 ?_
      refine p_iload2 dX4_kind_81 ?_
      refine p_cV1r (M2 := mX4_answer) ml_RX4_166 mc_X4_answer ⟨Nat.le_of_ble_eq_true rfl, Nat.le_of_ble_eq_true rfl⟩ (isO_x _ _) (Nat.le_of_ble_eq_true rfl) dX4_kind_82 (c_X4_answer (S := va_up S 1 t) (by omega)) ?_
      exact p_iret rfl dX4_kind_85 rfl rfl
    · rw [show (6 - g).toNat = (6 - (g + 1)).toNat + 1 by omega, xsr]
      dsimp only
      have hT : IR b (uz (S 0) (17 + 3 * p) g) := hI.kind (by omega) (by omega)
      have hf := ft_le (P := at_ (18 + 3 * p) 0) so.toNat 0 (uz (S 0) (17 + 3 * p) g)
      refine p_oload0 dX4_kind_34 ?_
      refine p_cV0v (M2 := mX4_startTrial) ml_RX4_151 mc_X4_startTrial ⟨Nat.le_of_ble_eq_true rfl, Nat.le_of_ble_eq_true rfl⟩ (isO_x _ _) (Nat.le_of_ble_eq_true rfl) dX4_kind_35 (c_startTrial2) ?_
      refine p_oload0 dX4_kind_38 ?_
      refine p_get fl_RX4_16 gx_trial dX4_kind_39 ?_
      refine p_get fl_RX4_96 g1q_kinds dX4_kind_42 ?_
      refine p_iload1 dX4_kind_45 ?_
      refine p_iload4 dX4_kind_46 ?_
      refine p_iast al1q_kinds (by omega) (by omega) (as1q_kinds (by omega) (by omega)) dX4_kind_48 ?_
      refine p_oload0 dX4_kind_49 ?_
      refine p_get fl_RX4_16 gx_trial dX4_kind_50 ?_
      refine p_iload1 dX4_kind_53 ?_
      refine p_iload3 dX4_kind_54 ?_
      refine p_iconst dX4_kind_55 ?_
      refine p_isub dX4_kind_56 ?_
      refine p_cV2r (M2 := mX0_playTillAsleep) ml_RX4_154 mc_X0_playTillAsleep ⟨Nat.le_of_ble_eq_true rfl, Nat.le_of_ble_eq_true rfl⟩ (isO_fo _ _ _) (Nat.le_of_ble_eq_true rfl) dX4_kind_57 (c1_playTillAsleep hT (by omega) (by omega) (by omega)) ?_
      rw [show so - 1 + 1 = so by omega]
      refine p_istore5 rfl (Nat.le_of_ble_eq_true rfl) dX4_kind_60 ?_
      refine p_iload5 dX4_kind_62 ?_
      refine p_iload3 dX4_kind_64 ?_
      refine p_icmp_ge ⟨by omega, by omega⟩ ⟨by omega, by omega⟩ 74 dX4_kind_65 (by decide) (fun c65 => ?_) (fun c65 => ?_)
      · rw [if_neg (by omega)]
        refine p_iinc4 rfl (Nat.le_of_ble_eq_true rfl) dX4_kind_74 ?_
        refine p_goto 27 dX4_kind_77 (by decide) ?_
        exact Rn.kp (ih (g + 1) be so _ hbe hso (by omega) (by omega) (by omega)) ⟨rfl, rfl, rfl, rfl, rfl, trivial⟩
      · rw [if_pos (by omega)]
        refine p_iload5 dX4_kind_68 ?_
        refine p_istore3 rfl (Nat.le_of_ble_eq_true rfl) dX4_kind_70 ?_
        refine p_iload4 dX4_kind_71 ?_
        refine p_istore2 rfl (Nat.le_of_ble_eq_true rfl) dX4_kind_73 ?_
        refine p_iinc4 rfl (Nat.le_of_ble_eq_true rfl) dX4_kind_74 ?_
        refine p_goto 27 dX4_kind_77 (by decide) ?_
        exact Rn.kp (ih (g + 1) g _ _ (by omega) (by omega) (by omega) (by omega) (by omega)) ⟨rfl, rfl, rfl, rfl, rfl, trivial⟩
theorem e_kind (r t : Row) (p : Int) : (xsr (fun g => g) (fun k s => ft (at_ (18 + 3 * p) 0) s.toNat 0 (uz r (17 + 3 * p) k)) 6 0 (-1000000004, 101, t)).1 = nn (s_kind r p) := by
  have h := xsr_bst (V := fun g => g) (f := fun k => (ft (at_ (18 + 3 * p) 0) 101 0 (uz r (17 + 3 * p) k)).1) (F := fun k s => ft (at_ (18 + 3 * p) 0) s.toNat 0 (uz r (17 + 3 * p) k)) (lim := 101) (fun g h => h) (fun g s _ h1 h2 => ft_F (lim := 101) s h1 (by omega)) 6 0 (-1000000004, 101, t) (-1, 101) (by omega) (by show (0 : Int) ≤ 101; omega) (by show (101 : Int) ≤ 101; omega) ⟨rfl, Or.inl ⟨rfl, rfl⟩⟩
  exact xeq_nn h.1
set_option maxRecDepth 100000 in
set_option maxHeartbeats 4000000 in
theorem c_X4_kind {G : GX} {S : St} {b : Int} (hI : IR b (S 0)) (hb : b ≤ 99999) {p : Int} (h_p : inR p) : Ev G mX4_kind [rf G 0, vi p] (mk G S) (some (vi (v_kind (S 0) p))) (mk G (va_up (va_up S 1 (if 0 ≤ p ∧ p < S 0 0 then (xsr (fun g => g) (fun k s => ft (at_ (18 + 3 * p) 0) s.toNat 0 (uz (S 0) (17 + 3 * p) k)) (6 : Int).toNat 0 (-1000000004, 101, S 1)).2.2 else S 1)) 5 (tl (S 5) (v_kind (S 0) p)))) := by
  have i0 := hI.1; have i1 := hI.2.1; have i2 := hI.2.2.1; have i3 := hI.2.2.2.1; have i4 := hI.2.2.2.2.1
  obtain ⟨p1, p2⟩ := h_p
  refine Ev.enter (by decide +kernel) (Nat.le_of_ble_eq_true rfl) (L := [some (rf G 0), some (vi p), none, none, none, none]) rfl ?_
  refine p_oload0 dX4_kind_0 ?_
  refine p_get fl_RX4_10 gx_fold dX4_kind_1 ?_
  refine p_iload1 dX4_kind_4 ?_
  refine p_cV1r (M2 := mX0_hasSheep) ml_RX4_93 mc_X0_hasSheep ⟨Nat.le_of_ble_eq_true rfl, Nat.le_of_ble_eq_true rfl⟩ (isO_fo _ _ _) (Nat.le_of_ble_eq_true rfl) dX4_kind_5 (c0_hasSheep hI ⟨by omega, by omega⟩) ?_
  refine p_bif_ne 18 dX4_kind_8 (by decide) (fun c8 => ?_) (fun c8 => ?_)
  · refine p_ldc wc_RX4_78 dX4_kind_18 ?_
    refine p_istore2 rfl (Nat.le_of_ble_eq_true rfl) dX4_kind_20 ?_
    refine p_bipush (by decide) (by decide) dX4_kind_21 ?_
    refine p_istore3 rfl (Nat.le_of_ble_eq_true rfl) dX4_kind_23 ?_
    refine p_iconst dX4_kind_24 ?_
    refine p_istore4 rfl (Nat.le_of_ble_eq_true rfl) dX4_kind_25 ?_
    have h := l_X4_kind (G := G) hI hb (p := p) (by omega) 7 0 (-1000000004) 101 (S 1) (Or.inl rfl) (by omega) (by omega) (by omega) (by omega)
    rw [vup_same, Int.sub_zero] at h
    rw [if_pos (by omega), show v_kind (S 0) p = (xsr (fun g => g) (fun k s => ft (at_ (18 + 3 * p) 0) s.toNat 0 (uz (S 0) (17 + 3 * p) k)) (6 : Int).toNat 0 (-1000000004, 101, S 1)).1 from by unfold v_kind; rw [if_pos (by omega)]; exact (e_kind (S 0) (S 1) p).symm]
    exact h
  · refine p_oload0 dX4_kind_11 ?_
    refine p_ldc wc_RX4_44 dX4_kind_12 ?_
    refine p_cV1r (M2 := mX4_tell) ml_RX4_45 mc_X4_tell ⟨Nat.le_of_ble_eq_true rfl, Nat.le_of_ble_eq_true rfl⟩ (isO_x _ _) (Nat.le_of_ble_eq_true rfl) dX4_kind_14 (c_X4_tell (by omega)) ?_
    exact q_fT (by unfold v_kind; (try split) <;> (try split) <;> (try split) <;> (try split) <;> (try split) <;> (try split) <;> (try split) <;> omega) (by first | rfl | (rw [if_pos (by omega)]; done) | (rw [if_neg (by omega)]; done)) rfl dX4_kind_17
set_option maxRecDepth 100000 in
set_option maxHeartbeats 4000000 in
theorem l_X4_begin {G : GX} {S : St} {b : Int} (hI : IR b (S 0)) (hb : b ≤ 99999) {k : Int} (hk : 1 ≤ k ∧ k ≤ 100) : ∀ (n : Nat) (g : Int) (be : Int) (so : Int) (t : Row), (be = -1000000004 ∨ 0 ≤ be ∧ be ≤ 5) → 0 ≤ so ∧ so ≤ 793 → 0 ≤ g → g ≤ S 0 1 → S 0 1 - g < (n : Int) → Rn G mX4_begin 27 [some (rf G 0), some (vi k), some (vi be), some (vi so), some (vi g), none] [] (mk G (va_up S 1 t)) (some (vi (xsr (fun g => g) (fun m _ => (wsm (beQ (S 0) k m), beQ (S 0) k m)) (S 0 1 - g).toNat g (be, so, t)).1)) (mk G (va_up (va_up S 1 (xsr (fun g => g) (fun m _ => (wsm (beQ (S 0) k m), beQ (S 0) k m)) (S 0 1 - g).toNat g (be, so, t)).2.2) 5 (tl (S 5) (xsr (fun g => g) (fun m _ => (wsm (beQ (S 0) k m), beQ (S 0) k m)) (S 0 1 - g).toNat g (be, so, t)).1))) := by
  intro n
  induction n with
  | zero =>
    intro g be so t hbe hso h0 h1 h2
    exfalso
    omega
  | succ n ih =>
    intro g be so t hbe hso h0 h1 h2
    have i0 := hI.1; have i1 := hI.2.1; have i2 := hI.2.2.1; have i3 := hI.2.2.2.1; have i4 := hI.2.2.2.2.1
    push_cast at h2
    refine p_iload4 dX4_begin_27 ?_
    refine p_oload0 dX4_begin_29 ?_
    refine p_get fl_RX4_10 gx_fold dX4_begin_30 ?_
    refine p_get fl_RX4_75 g0t_manCount dX4_begin_33 ?_
    refine p_icmp_ge ⟨by omega, by omega⟩ ⟨by omega, by omega⟩ 87 dX4_begin_36 (by decide) (fun c36 => ?_) (fun c36 => ?_)
    · rw [show (S 0 1 - g).toNat = 0 by omega, xsr]
      refine p_oload0 dX4_begin_87 ?_
      refine p_iload2 dX4_begin_88 ?_
      refine p_cV1r (M2 := mX4_answer) ml_RX4_166 mc_X4_answer ⟨Nat.le_of_ble_eq_true rfl, Nat.le_of_ble_eq_true rfl⟩ (isO_x _ _) (Nat.le_of_ble_eq_true rfl) dX4_begin_89 (c_X4_answer (S := va_up S 1 t) (by omega)) ?_
      exact p_iret rfl dX4_begin_92 rfl rfl
    · rw [show (S 0 1 - g).toNat = (S 0 1 - (g + 1)).toNat + 1 by omega, xsr]
      dsimp only
      have hT : IR b (uz (S 0) 4 g) := hI.u4 (by omega)
      have hM : IR (b + k.toNat) (beQ (S 0) k g) := IR.minsR k.toNat hT
      have hf := wsm_le hM
      refine p_oload0 dX4_begin_39 ?_
      refine p_cV0v (M2 := mX4_startTrial) ml_RX4_151 mc_X4_startTrial ⟨Nat.le_of_ble_eq_true rfl, Nat.le_of_ble_eq_true rfl⟩ (isO_x _ _) (Nat.le_of_ble_eq_true rfl) dX4_begin_40 (c_startTrial2) ?_
      refine p_oload0 dX4_begin_43 ?_
      refine p_get fl_RX4_16 gx_trial dX4_begin_44 ?_
      refine p_iload4 dX4_begin_47 ?_
      refine p_put fw_RX4_71 rfl rfl p1q_turn dX4_begin_49 ?_
      refine p_oload0 dX4_begin_52 ?_
      refine p_get fl_RX4_16 gx_trial dX4_begin_53 ?_
      refine p_iload1 dX4_begin_56 ?_
      refine p_cV1v (M2 := mX0_play) ml_RX4_134 mc_X0_play ⟨Nat.le_of_ble_eq_true rfl, Nat.le_of_ble_eq_true rfl⟩ (isO_fo _ _ _) (Nat.le_of_ble_eq_true rfl) dX4_begin_57 (c1_play hT (by omega) (by omega)) ?_
      refine p_oload0 dX4_begin_60 ?_
      refine p_get fl_RX4_16 gx_trial dX4_begin_61 ?_
      refine p_cV0r (M2 := mX0_wantsOfAll) ml_RX4_142 mc_X0_wantsOfAll ⟨Nat.le_of_ble_eq_true rfl, Nat.le_of_ble_eq_true rfl⟩ (isO_fo _ _ _) (Nat.le_of_ble_eq_true rfl) dX4_begin_64 (c1_wantsOfAll (r := beQ (S 0) k g) hM) ?_
      refine p_istore5 rfl (Nat.le_of_ble_eq_true rfl) dX4_begin_67 ?_
      refine p_iload5 dX4_begin_69 ?_
      refine p_iload3 dX4_begin_71 ?_
      refine p_icmp_ge ⟨by omega, by omega⟩ ⟨by omega, by omega⟩ 81 dX4_begin_72 (by decide) (fun c72 => ?_) (fun c72 => ?_)
      · rw [if_neg (by omega)]
        refine p_iinc4 rfl (Nat.le_of_ble_eq_true rfl) dX4_begin_81 ?_
        refine p_goto 27 dX4_begin_84 (by decide) ?_
        exact Rn.kp (ih (g + 1) be so _ hbe hso (by omega) (by omega) (by omega)) ⟨rfl, rfl, rfl, rfl, rfl, trivial⟩
      · rw [if_pos (by omega)]
        refine p_iload5 dX4_begin_75 ?_
        refine p_istore3 rfl (Nat.le_of_ble_eq_true rfl) dX4_begin_77 ?_
        refine p_iload4 dX4_begin_78 ?_
        refine p_istore2 rfl (Nat.le_of_ble_eq_true rfl) dX4_begin_80 ?_
        refine p_iinc4 rfl (Nat.le_of_ble_eq_true rfl) dX4_begin_81 ?_
        refine p_goto 27 dX4_begin_84 (by decide) ?_
        exact Rn.kp (ih (g + 1) g _ _ (by omega) (by omega) (by omega) (by omega) (by omega)) ⟨rfl, rfl, rfl, rfl, rfl, trivial⟩
theorem bst_lo {V f : Int → Int} {s s' : Int} (n : Nat) (g : Int) (b b' : Int) (hn : 0 < n) (h : f g < s) (h' : f g < s') : bst V f n g (b, s) = bst V f n g (b', s') := by
  obtain ⟨k, rfl⟩ : ∃ k, n = k + 1 := ⟨n - 1, by omega⟩
  rw [bst, bst]
  unfold tri
  rw [if_pos h, if_pos h']
theorem e_begin (r t : Row) {b k : Int} (hI : IR b r) (hk : 1 ≤ k ∧ k ≤ 100) : (xsr (fun g => g) (fun m _ => (wsm (beQ r k m), beQ r k m)) (r 1).toNat 0 (-1000000004, 793, t)).1 = nn (s_begin r k) := by
  have i1 := hI.2.1
  have hw : ∀ m, 0 ≤ m → m < r 1 → 0 ≤ wsm (beQ r k m) ∧ wsm (beQ r k m) ≤ 792 := fun m h0 h1 => wsm_le (b := b + k.toNat) (IR.minsR k.toNat (hI.u4 ⟨h0, Or.inl h1⟩))
  have key : ∀ (n : Nat) (g : Int) (a : Int × Int × Row) (c : Int × Int), 0 ≤ g → g + n ≤ r 1 → xeq a c → xeq (xsr (fun g => g) (fun m _ => (wsm (beQ r k m), beQ r k m)) n g a) (bst (fun g => g) (fun m => wsm (beQ r k m)) n g c) := by
    intro n
    induction n with
    | zero => intro g a c _ _ h; exact h
    | succ n ih =>
      intro g a c h0 h1 h
      rw [xsr, bst]
      refine ih (g + 1) _ _ (by omega) (by omega) ?_
      dsimp only
      unfold tri
      rw [← h.1]
      by_cases q : wsm (beQ r k g) < a.2.1
      · rw [if_pos q, if_pos q]; exact ⟨rfl, Or.inr ⟨rfl, h0⟩⟩
      · rw [if_neg q, if_neg q]; exact h
  have h := key (r 1).toNat 0 (-1000000004, 793, t) (-1, 793) (by omega) (by omega) ⟨rfl, Or.inl ⟨rfl, rfl⟩⟩
  rw [xeq_nn h]
  unfold s_begin
  by_cases q : 0 < (r 1).toNat
  · have h2 := hw 0 (by omega) (by omega)
    rw [bst_lo (r 1).toNat 0 (-1) (-1) q (s := 793) (s' := 99999) (by show wsm (beQ r k 0) < 793; omega) (by show wsm (beQ r k 0) < 99999; omega)]
  · rw [show (r 1).toNat = 0 by omega]; rfl
set_option maxRecDepth 100000 in
set_option maxHeartbeats 4000000 in
theorem c_X4_begin {G : GX} {S : St} {b : Int} (hI : IR b (S 0)) (hb : b ≤ 99999) {k : Int} (h_k : inR k) : Ev G mX4_begin [rf G 0, vi k] (mk G S) (some (vi (v_begin (S 0) k))) (mk G (va_up (va_up S 1 (if 1 ≤ k ∧ k ≤ 100 then (xsr (fun g => g) (fun m _ => (wsm (beQ (S 0) k m), beQ (S 0) k m)) (S 0 1 : Int).toNat 0 (-1000000004, 793, S 1)).2.2 else S 1)) 5 (tl (S 5) (v_begin (S 0) k)))) := by
  have i0 := hI.1; have i1 := hI.2.1; have i2 := hI.2.2.1; have i3 := hI.2.2.2.1; have i4 := hI.2.2.2.2.1
  obtain ⟨k1, k2⟩ := h_k
  refine Ev.enter (by decide +kernel) (Nat.le_of_ble_eq_true rfl) (L := [some (rf G 0), some (vi k), none, none, none, none]) rfl ?_
  refine p_iload1 dX4_begin_0 ?_
  refine p_iconst dX4_begin_1 ?_
  refine p_bipush (by decide) (by decide) dX4_begin_2 ?_
  refine p_cS3r (M2 := mX4_isWithin) ms_RX4_67 mc_X4_isWithin ⟨Nat.le_of_ble_eq_true rfl, Nat.le_of_ble_eq_true rfl⟩ (Nat.le_of_ble_eq_true rfl) dX4_begin_4 (c_X4_isWithin ⟨by omega, by omega⟩ ⟨by omega, by omega⟩ ⟨by omega, by omega⟩) ?_
  refine p_bif_ne 17 dX4_begin_7 (by decide) (fun c7 => ?_) (fun c7 => ?_)
  · refine p_ldc wc_RX4_78 dX4_begin_17 ?_
    refine p_istore2 rfl (Nat.le_of_ble_eq_true rfl) dX4_begin_19 ?_
    refine p_sipush (by decide) (by decide) dX4_begin_20 ?_
    refine p_istore3 rfl (Nat.le_of_ble_eq_true rfl) dX4_begin_23 ?_
    refine p_iconst dX4_begin_24 ?_
    refine p_istore4 rfl (Nat.le_of_ble_eq_true rfl) dX4_begin_25 ?_
    have h := l_X4_begin (G := G) hI hb (k := k) (by omega) 7 0 (-1000000004) 793 (S 1) (Or.inl rfl) (by omega) (by omega) (by omega) (by omega)
    rw [vup_same, Int.sub_zero] at h
    rw [if_pos (by omega), show v_begin (S 0) k = (xsr (fun g => g) (fun m _ => (wsm (beQ (S 0) k m), beQ (S 0) k m)) (S 0 1 : Int).toNat 0 (-1000000004, 793, S 1)).1 from by unfold v_begin; rw [if_pos (by omega)]; exact (e_begin (S 0) (S 1) hI (by omega)).symm]
    exact h
  · refine p_oload0 dX4_begin_10 ?_
    refine p_ldc wc_RX4_44 dX4_begin_11 ?_
    refine p_cV1r (M2 := mX4_tell) ml_RX4_45 mc_X4_tell ⟨Nat.le_of_ble_eq_true rfl, Nat.le_of_ble_eq_true rfl⟩ (isO_x _ _) (Nat.le_of_ble_eq_true rfl) dX4_begin_13 (c_X4_tell (by omega)) ?_
    exact q_fT (by unfold v_begin; (try split) <;> (try split) <;> (try split) <;> (try split) <;> (try split) <;> (try split) <;> (try split) <;> omega) (by first | rfl | (rw [if_pos (by omega)]; done) | (rw [if_neg (by omega)]; done)) rfl dX4_begin_16
set_option maxRecDepth 100000 in
set_option maxHeartbeats 4000000 in
theorem l_X4_last {G : GX} {S : St} {b : Int} (hI : IR b (S 0)) (hb : b ≤ 99999) : ∀ (n : Nat) (g : Int) (be : Int) (la : Int) (t : Row), (be = -1000000004 ∨ 0 ≤ be ∧ be ≤ 7) → -1 ≤ la ∧ la ≤ 201 → 0 ≤ g → g ≤ S 0 0 → S 0 0 - g < (n : Int) → Rn G mX4_last 7 [some (rf G 0), some (vi be), some (vi la), some (vi g), none] [] (mk G (va_up S 1 t)) (some (vi (xla (fun p => ft (at_ (18 + 3 * p) 0) 201 0 (S 0)) (S 0 0 - g).toNat g (be, la, t)).1)) (mk G (va_up (va_up S 1 (xla (fun p => ft (at_ (18 + 3 * p) 0) 201 0 (S 0)) (S 0 0 - g).toNat g (be, la, t)).2.2) 5 (tl (S 5) (xla (fun p => ft (at_ (18 + 3 * p) 0) 201 0 (S 0)) (S 0 0 - g).toNat g (be, la, t)).1))) := by
  intro n
  induction n with
  | zero =>
    intro g be la t hbe hla h0 h1 h2
    exfalso
    omega
  | succ n ih =>
    intro g be la t hbe hla h0 h1 h2
    have i0 := hI.1; have i1 := hI.2.1; have i2 := hI.2.2.1; have i3 := hI.2.2.2.1; have i4 := hI.2.2.2.2.1
    push_cast at h2
    refine p_iload3 dX4_last_7 ?_
    refine p_oload0 dX4_last_8 ?_
    refine p_get fl_RX4_10 gx_fold dX4_last_9 ?_
    refine p_get fl_RX4_181 g0t_sheepCount dX4_last_12 ?_
    refine p_icmp_ge ⟨by omega, by omega⟩ ⟨by omega, by omega⟩ 52 dX4_last_15 (by decide) (fun c15 => ?_) (fun c15 => ?_)
    · rw [show (S 0 0 - g).toNat = 0 by omega, xla]
      refine p_oload0 dX4_last_52 ?_
      refine p_iload1 dX4_last_53 ?_
      refine p_cV1r (M2 := mX4_answer) ml_RX4_166 mc_X4_answer ⟨Nat.le_of_ble_eq_true rfl, Nat.le_of_ble_eq_true rfl⟩ (isO_x _ _) (Nat.le_of_ble_eq_true rfl) dX4_last_54 (c_X4_answer (S := va_up S 1 t) (by omega)) ?_
      exact p_iret rfl dX4_last_57 rfl rfl
    · rw [show (S 0 0 - g).toNat = (S 0 0 - (g + 1)).toNat + 1 by omega, xla]
      dsimp only
      have hf := ft_le (P := at_ (18 + 3 * g) 0) 201 0 (S 0)
      refine p_oload0 dX4_last_18 ?_
      refine p_cV0v (M2 := mX4_startTrial) ml_RX4_151 mc_X4_startTrial ⟨Nat.le_of_ble_eq_true rfl, Nat.le_of_ble_eq_true rfl⟩ (isO_x _ _) (Nat.le_of_ble_eq_true rfl) dX4_last_19 (c_startTrial2) ?_
      refine p_oload0 dX4_last_22 ?_
      refine p_get fl_RX4_16 gx_trial dX4_last_23 ?_
      refine p_iload3 dX4_last_26 ?_
      refine p_sipush (by decide) (by decide) dX4_last_27 ?_
      refine p_cV2r (M2 := mX0_playTillAsleep) ml_RX4_154 mc_X0_playTillAsleep ⟨Nat.le_of_ble_eq_true rfl, Nat.le_of_ble_eq_true rfl⟩ (isO_fo _ _ _) (Nat.le_of_ble_eq_true rfl) dX4_last_30 (c1_playTillAsleep hI (by omega) (by omega) (by omega)) ?_
      rw [show ((200 : Int) + 1).toNat = 201 from rfl]
      refine p_istore4 rfl (Nat.le_of_ble_eq_true rfl) dX4_last_33 ?_
      refine p_iload4 dX4_last_35 ?_
      refine p_iload2 dX4_last_37 ?_
      refine p_icmp_le ⟨by omega, by omega⟩ ⟨by omega, by omega⟩ 46 dX4_last_38 (by decide) (fun c38 => ?_) (fun c38 => ?_)
      · rw [if_neg (by omega)]
        refine p_iinc3 rfl (Nat.le_of_ble_eq_true rfl) dX4_last_46 ?_
        refine p_goto 7 dX4_last_49 (by decide) ?_
        exact Rn.kp (ih (g + 1) be la _ hbe hla (by omega) (by omega) (by omega)) ⟨rfl, rfl, rfl, rfl, trivial⟩
      · rw [if_pos (by omega)]
        refine p_iload4 dX4_last_41 ?_
        refine p_istore2 rfl (Nat.le_of_ble_eq_true rfl) dX4_last_43 ?_
        refine p_iload3 dX4_last_44 ?_
        refine p_istore1 rfl (Nat.le_of_ble_eq_true rfl) dX4_last_45 ?_
        refine p_iinc3 rfl (Nat.le_of_ble_eq_true rfl) dX4_last_46 ?_
        refine p_goto 7 dX4_last_49 (by decide) ?_
        exact Rn.kp (ih (g + 1) g _ _ (by omega) (by omega) (by omega) (by omega) (by omega)) ⟨rfl, rfl, rfl, rfl, trivial⟩
theorem e_last (r t : Row) : (xla (fun p => ft (at_ (18 + 3 * p) 0) 201 0 r) (r 0).toNat 0 (-1000000004, -1, t)).1 = v_last r := by
  have key : ∀ (n : Nat) (g : Int) (a : Int × Int × Row) (c : Int × Int), 0 ≤ g → xeq a c → xeq (xla (fun p => ft (at_ (18 + 3 * p) 0) 201 0 r) n g a) (bla (fun p => (ft (at_ (18 + 3 * p) 0) 201 0 r).1) n g c) := by
    intro n
    induction n with
    | zero => intro g a c _ h; exact h
    | succ n ih =>
      intro g a c h0 h
      rw [xla, bla]
      refine ih (g + 1) _ _ (by omega) ?_
      rw [← h.1]
      by_cases q : a.2.1 < (ft (at_ (18 + 3 * g) 0) 201 0 r).1
      · rw [if_pos q, if_pos q]; exact ⟨rfl, Or.inr ⟨rfl, h0⟩⟩
      · rw [if_neg q, if_neg q]; exact h
  exact xeq_nn (key (r 0).toNat 0 (-1000000004, -1, t) (-1, -1) (by omega) ⟨rfl, Or.inl ⟨rfl, rfl⟩⟩)
set_option maxRecDepth 100000 in
set_option maxHeartbeats 4000000 in
theorem c_X4_last {G : GX} {S : St} {b : Int} (hI : IR b (S 0)) (hb : b ≤ 99999) : Ev G mX4_last [rf G 0] (mk G S) (some (vi (v_last (S 0)))) (mk G (va_up (va_up S 1 ((xla (fun p => ft (at_ (18 + 3 * p) 0) 201 0 (S 0)) (S 0 0).toNat 0 (-1000000004, -1, S 1)).2.2)) 5 (tl (S 5) (v_last (S 0))))) := by
  have i0 := hI.1; have i1 := hI.2.1; have i2 := hI.2.2.1; have i3 := hI.2.2.2.1; have i4 := hI.2.2.2.2.1
  refine Ev.enter (by decide +kernel) (Nat.le_of_ble_eq_true rfl) (L := [some (rf G 0), none, none, none, none]) rfl ?_
  refine p_ldc wc_RX4_78 dX4_last_0 ?_
  refine p_istore1 rfl (Nat.le_of_ble_eq_true rfl) dX4_last_2 ?_
  refine p_iconst dX4_last_3 ?_
  refine p_istore2 rfl (Nat.le_of_ble_eq_true rfl) dX4_last_4 ?_
  refine p_iconst dX4_last_5 ?_
  refine p_istore3 rfl (Nat.le_of_ble_eq_true rfl) dX4_last_6 ?_
  have h := l_X4_last (G := G) hI hb 9 0 (-1000000004) (-1) (S 1) (Or.inl rfl) (by omega) (by omega) (by omega) (by omega)
  rw [vup_same, Int.sub_zero] at h
  rw [← e_last (S 0) (S 1)]
  exact h
set_option maxRecDepth 100000 in
set_option maxHeartbeats 4000000 in
theorem l_X4_most {G : GX} {S : St} {b : Int} (hI : IR b (S 0)) (hb : b ≤ 99999) {p k : Int} (hp : 0 ≤ p ∧ p < S 0 0) (hk : 1 ≤ k ∧ k ≤ 100) : ∀ (n : Nat) (v : Int) (t : Row), -1 ≤ v → v ≤ 99 → v + 1 < (n : Int) → Rn G mX4_most 31 [some (rf G 0), some (vi p), some (vi k), some (vi v)] [] (mk G (va_up S 1 t)) (some (vi (xmo (moQ (S 0) p k) (18 + 3 * p) (v + 1).toNat v t).1)) (mk G (va_up (va_up S 1 (xmo (moQ (S 0) p k) (18 + 3 * p) (v + 1).toNat v t).2) 5 (tl (S 5) (xmo (moQ (S 0) p k) (18 + 3 * p) (v + 1).toNat v t).1))) := by
  intro n
  induction n with
  | zero =>
    intro v t h0 h1 h2
    exfalso
    omega
  | succ n ih =>
    intro v t h0 h1 h2
    have i0 := hI.1; have i1 := hI.2.1; have i2 := hI.2.2.1; have i3 := hI.2.2.2.1; have i4 := hI.2.2.2.2.1
    push_cast at h2
    refine p_iload3 dX4_most_31 ?_
    refine p_if_lt ⟨by omega, by omega⟩ 76 dX4_most_32 (by decide) (fun c32 => ?_) (fun c32 => ?_)
    · rw [show (v + 1).toNat = 0 by omega, xmo]
      refine p_oload0 dX4_most_76 ?_
      refine p_ldc wc_RX4_78 dX4_most_77 ?_
      refine p_cV1r (M2 := mX4_tell) ml_RX4_45 mc_X4_tell ⟨Nat.le_of_ble_eq_true rfl, Nat.le_of_ble_eq_true rfl⟩ (isO_x _ _) (Nat.le_of_ble_eq_true rfl) dX4_most_79 (c_X4_tell (S := va_up S 1 t) (by omega)) ?_
      exact p_iret rfl dX4_most_82 rfl rfl
    · have hT : IR b (uz (S 0) (18 + 3 * p) v) := hI.wants (by omega) (by omega)
      have hM : IR (b + k.toNat) (moQ (S 0) p k v) := IR.minsR k.toNat hT
      rw [show (v + 1).toNat = (v - 1 + 1).toNat + 1 by omega, xmo]
      refine p_oload0 dX4_most_35 ?_
      refine p_cV0v (M2 := mX4_startTrial) ml_RX4_151 mc_X4_startTrial ⟨Nat.le_of_ble_eq_true rfl, Nat.le_of_ble_eq_true rfl⟩ (isO_x _ _) (Nat.le_of_ble_eq_true rfl) dX4_most_36 (c_startTrial2) ?_
      refine p_oload0 dX4_most_39 ?_
      refine p_get fl_RX4_16 gx_trial dX4_most_40 ?_
      refine p_get fl_RX4_99 g1q_wants dX4_most_43 ?_
      refine p_iload1 dX4_most_46 ?_
      refine p_iload3 dX4_most_47 ?_
      refine p_iast al1q_wants (by omega) (by omega) (as1q_wants (by omega) (by omega)) dX4_most_48 ?_
      refine p_oload0 dX4_most_49 ?_
      refine p_get fl_RX4_16 gx_trial dX4_most_50 ?_
      refine p_iload2 dX4_most_53 ?_
      refine p_cV1v (M2 := mX0_play) ml_RX4_134 mc_X0_play ⟨Nat.le_of_ble_eq_true rfl, Nat.le_of_ble_eq_true rfl⟩ (isO_fo _ _ _) (Nat.le_of_ble_eq_true rfl) dX4_most_54 (c1_play hT (by omega) (by omega)) ?_
      refine p_oload0 dX4_most_57 ?_
      refine p_get fl_RX4_16 gx_trial dX4_most_58 ?_
      refine p_iload1 dX4_most_61 ?_
      refine p_cV1r (M2 := mX0_isAsleep) ml_RX4_105 mc_X0_isAsleep ⟨Nat.le_of_ble_eq_true rfl, Nat.le_of_ble_eq_true rfl⟩ (isO_fo _ _ _) (Nat.le_of_ble_eq_true rfl) dX4_most_62 (c1_isAsleep (r := moQ (S 0) p k v) hM (by omega) (by omega)) ?_
      refine p_bif_eq 70 dX4_most_65 (by decide) (fun c65 => ?_) (fun c65 => ?_)
      · rw [if_neg c65]
        refine p_iinc3 rfl (Nat.le_of_ble_eq_true rfl) dX4_most_70 ?_
        refine p_goto 31 dX4_most_73 (by decide) ?_
        exact ih (v - 1) _ (by omega) (by omega) (by omega)
      · rw [if_pos c65]
        refine p_iload3 dX4_most_68 ?_
        exact q_t (S := S) rfl (by omega) rfl dX4_most_69
theorem xmo_t (Q : Int → Row) (z : Int) : ∀ (n : Nat) (v : Int) (t t' : Row), (xmo Q z n v t).1 = (xmo Q z n v t').1 := by
  intro n
  induction n with
  | zero => intro v t t'; rfl
  | succ n ih =>
    intro v t t'
    rw [xmo, xmo]
set_option maxRecDepth 100000 in
set_option maxHeartbeats 4000000 in
theorem c_X4_most {G : GX} {S : St} {b : Int} (hI : IR b (S 0)) (hb : b ≤ 99999) {p : Int} (h_p : inR p) {k : Int} (h_k : inR k) : Ev G mX4_most [rf G 0, vi p, vi k] (mk G S) (some (vi (v_most (S 0) p k))) (mk G (va_up (va_up S 1 (if (0 ≤ p ∧ p < S 0 0) ∧ (1 ≤ k ∧ k ≤ 100) then (xmo (moQ (S 0) p k) (18 + 3 * p) 100 99 (S 1)).2 else S 1)) 5 (tl (S 5) (v_most (S 0) p k)))) := by
  have i0 := hI.1; have i1 := hI.2.1; have i2 := hI.2.2.1; have i3 := hI.2.2.2.1; have i4 := hI.2.2.2.2.1
  obtain ⟨p1, p2⟩ := h_p
  obtain ⟨k1, k2⟩ := h_k
  refine Ev.enter (by decide +kernel) (Nat.le_of_ble_eq_true rfl) (L := [some (rf G 0), some (vi p), some (vi k), none]) rfl ?_
  refine p_oload0 dX4_most_0 ?_
  refine p_get fl_RX4_10 gx_fold dX4_most_1 ?_
  refine p_iload1 dX4_most_4 ?_
  refine p_cV1r (M2 := mX0_hasSheep) ml_RX4_93 mc_X0_hasSheep ⟨Nat.le_of_ble_eq_true rfl, Nat.le_of_ble_eq_true rfl⟩ (isO_fo _ _ _) (Nat.le_of_ble_eq_true rfl) dX4_most_5 (c0_hasSheep hI ⟨by omega, by omega⟩) ?_
  refine p_bif_eq 21 dX4_most_8 (by decide) (fun c8 => ?_) (fun c8 => ?_)
  · refine p_oload0 dX4_most_21 ?_
    refine p_ldc wc_RX4_44 dX4_most_22 ?_
    refine p_cV1r (M2 := mX4_tell) ml_RX4_45 mc_X4_tell ⟨Nat.le_of_ble_eq_true rfl, Nat.le_of_ble_eq_true rfl⟩ (isO_x _ _) (Nat.le_of_ble_eq_true rfl) dX4_most_24 (c_X4_tell (by omega)) ?_
    exact q_fT (by unfold v_most; (try split) <;> (try split) <;> (try split) <;> (try split) <;> (try split) <;> (try split) <;> (try split) <;> omega) (by first | rfl | (rw [if_pos (by omega)]; done) | (rw [if_neg (by omega)]; done)) rfl dX4_most_27
  · refine p_iload2 dX4_most_11 ?_
    refine p_iconst dX4_most_12 ?_
    refine p_bipush (by decide) (by decide) dX4_most_13 ?_
    refine p_cS3r (M2 := mX4_isWithin) ms_RX4_67 mc_X4_isWithin ⟨Nat.le_of_ble_eq_true rfl, Nat.le_of_ble_eq_true rfl⟩ (Nat.le_of_ble_eq_true rfl) dX4_most_15 (c_X4_isWithin ⟨by omega, by omega⟩ ⟨by omega, by omega⟩ ⟨by omega, by omega⟩) ?_
    refine p_bif_ne 28 dX4_most_18 (by decide) (fun c18 => ?_) (fun c18 => ?_)
    · refine p_bipush (by decide) (by decide) dX4_most_28 ?_
      refine p_istore3 rfl (Nat.le_of_ble_eq_true rfl) dX4_most_30 ?_
      have h := l_X4_most (G := G) hI hb (p := p) (k := k) (by omega) (by omega) 101 99 (S 1) (by omega) (by omega) (by omega)
      rw [vup_same] at h
      rw [if_pos (by omega), show v_most (S 0) p k = (xmo (moQ (S 0) p k) (18 + 3 * p) 100 99 (S 1)).1 from by unfold v_most s_most; rw [if_pos (by omega)]; exact xmo_t _ _ 100 99 _ _]
      exact h
    · refine p_oload0 dX4_most_21 ?_
      refine p_ldc wc_RX4_44 dX4_most_22 ?_
      refine p_cV1r (M2 := mX4_tell) ml_RX4_45 mc_X4_tell ⟨Nat.le_of_ble_eq_true rfl, Nat.le_of_ble_eq_true rfl⟩ (isO_x _ _) (Nat.le_of_ble_eq_true rfl) dX4_most_24 (c_X4_tell (by omega)) ?_
      exact q_fT (by unfold v_most; (try split) <;> (try split) <;> (try split) <;> (try split) <;> (try split) <;> (try split) <;> (try split) <;> omega) (by first | rfl | (rw [if_pos (by omega)]; done) | (rw [if_neg (by omega)]; done)) rfl dX4_most_27
