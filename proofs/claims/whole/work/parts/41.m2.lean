set_option maxRecDepth 100000 in
set_option maxHeartbeats 4000000 in
theorem c_X5_isPassing {G : GX} {S : St} {r : Row} {b : Int} (hI : IR b r) {m : Int} (h0 : 0 ≤ m) (h6 : m < 6) : Ev G mX5_isPassing [rf G 31, vi m] (mk G (va_up S 9 r)) (some (vi (if r (6 + 2 * m) < 99 then 1 else 0))) (mk G ((va_up S 9 r))) := by
  have i5 := hI.2.2.2.2.2.1 m h0 h6
  refine Ev.enter (by decide +kernel) (Nat.le_of_ble_eq_true rfl) (L := [some (rf G 31), some (vi m)]) rfl ?_
  refine p_oload0 dX5_isPassing_0 ?_
  refine p_iload1 dX5_isPassing_1 ?_
  refine p_iconst dX5_isPassing_2 ?_
  refine p_cV2r (M2 := mX5_his) ml_RX5_72 mc_X5_his ⟨Nat.le_of_ble_eq_true rfl, Nat.le_of_ble_eq_true rfl⟩ (isO_m _ _) (Nat.le_of_ble_eq_true rfl) dX5_isPassing_3 (c_X5_his1 hI (by omega) (by omega)) ?_
  refine p_bipush (by decide) (by decide) dX5_isPassing_6 ?_
  refine p_icmp_ge ⟨by omega, by omega⟩ ⟨by omega, by omega⟩ 15 dX5_isPassing_8 (by decide) (fun c8 => ?_) (fun c8 => ?_)
  · refine p_iconst dX5_isPassing_15 ?_
    exact p_zret rfl (by first | exact nz0 | exact nz1 | exact nzb _) dX5_isPassing_16 (congrArg (fun z => some (vi z)) (by first | rfl | omega | (split <;> omega))) rfl
  · refine p_iconst dX5_isPassing_11 ?_
    refine p_goto 16 dX5_isPassing_12 (by decide) ?_
    exact p_zret rfl (by first | exact nz0 | exact nz1 | exact nzb _) dX5_isPassing_16 (congrArg (fun z => some (vi z)) (by first | rfl | omega | (split <;> omega))) rfl
set_option maxRecDepth 100000 in
set_option maxHeartbeats 4000000 in
theorem l_X5_passes {G : GX} {S : St} {b m u g l : Int} (hm : 0 ≤ m ∧ m < 6) (hu : u = un g l) (hb : b ≤ 1000000) : ∀ (n : Nat) (p : Int) (r : Row) (w : Int), IR b r → r (5 + 2 * m) = g → r 3 = l → 0 ≤ w ∧ w ≤ 99 + 2 * p → 0 ≤ p → p ≤ r 0 → r 0 - p < (n : Int) → Rn G mX5_passes 9 [some (rf G 31), some (vi m), some (vi w), some (vi p), none] [] (mk G (va_up S 9 r)) none (mk G (va_up S 9 (uz (uz (pasL g u (r 0 - p).toNat p r w).1 (6 + 2 * m) (mn 99 (pasL g u (r 0 - p).toNat p r w).2)) 3 g))) := by
  intro n
  induction n with
  | zero =>
    intro p r w hI hg hl hw h0 h1 h2
    exfalso
    omega
  | succ n ih =>
    intro p r w hI hg hl hw h0 h1 h2
    have i0 := hI.1; have i2 := hI.2.2.1
    have i5 := hI.2.2.2.2.2.1 m hm.1 hm.2
    push_cast at h2
    have hu2 := un_le g l
    rw [← hu] at hu2
    refine p_iload3 dX5_passes_9 ?_
    refine p_oload0 dX5_passes_10 ?_
    refine p_get fl_RX5_7 gm_s dX5_passes_11 ?_
    refine p_iconst dX5_passes_14 ?_
    refine p_iald alq_s (by omega) (by omega) dX5_passes_15 ?_
    refine p_icmp_ge ⟨by omega, by omega⟩ ⟨by omega, by omega⟩ 106 dX5_passes_16 (by decide) (fun c16 => ?_) (fun c16 => ?_)
    · rw [show (r 0 - p).toNat = 0 by omega]
      refine p_oload0 dX5_passes_106 ?_
      refine p_get fl_RX5_7 gm_s dX5_passes_107 ?_
      refine p_iload1 dX5_passes_110 ?_
      refine p_iconst dX5_passes_111 ?_
      refine p_cS2r (M2 := mX5_placeOf) ms_RX5_50 mc_X5_placeOf ⟨Nat.le_of_ble_eq_true rfl, Nat.le_of_ble_eq_true rfl⟩ (Nat.le_of_ble_eq_true rfl) dX5_passes_112 (c_X5_placeOf1) ?_
      refine p_iload2 dX5_passes_115 ?_
      refine p_bipush (by decide) (by decide) dX5_passes_116 ?_
      refine p_cS2r (M2 := mX5_heldTo) ms_RX5_115 mc_X5_heldTo ⟨Nat.le_of_ble_eq_true rfl, Nat.le_of_ble_eq_true rfl⟩ (Nat.le_of_ble_eq_true rfl) dX5_passes_118 (c_X5_heldTo ⟨by omega, by omega⟩ ⟨by omega, by omega⟩) ?_
      refine p_iast alq_s (by omega) (by omega) asq_s dX5_passes_121 ?_
      refine p_oload0 dX5_passes_122 ?_
      refine p_get fl_RX5_7 gm_s dX5_passes_123 ?_
      refine p_iconst dX5_passes_126 ?_
      refine p_oload0 dX5_passes_127 ?_
      refine p_iload1 dX5_passes_128 ?_
      refine p_iconst dX5_passes_129 ?_
      refine p_cV2r (M2 := mX5_his) ml_RX5_72 mc_X5_his ⟨Nat.le_of_ble_eq_true rfl, Nat.le_of_ble_eq_true rfl⟩ (isO_m _ _) (Nat.le_of_ble_eq_true rfl) dX5_passes_130 (c_X5_his0 (hI.wear hm ⟨by unfold mn; split <;> omega, mn_le.1⟩) (by omega) (by omega)) ?_
      refine p_iast alq_s (by omega) (by omega) asq_s dX5_passes_133 ?_
      exact p_vret rfl dX5_passes_134 rfl (congrArg (fun q => mk G (va_up S 9 q)) (by show uz (uz r (6 + 2 * m) _) 3 _ = _; rw [uz_ne _ _ (by omega), hg]; rfl))
    · have i6 := hI.2.2.2.2.2.2 p h0 (by omega)
      have ht := tk_le (k := r (17 + 3 * p)) (g := r (5 + 2 * m)) (m := r 2) (un_le (r (5 + 2 * m)) (r 3))
      have hs := hI.stp (g := g) ⟨h0, by omega⟩ hu2
      have hq := tir_le r p
      have hst := stp_lo g u r (i := 0) h0 (by omega)
      have hst3 := stp_lo g u r (i := 3) h0 (by omega)
      have hsg := stp_lo g u r (i := 5 + 2 * m) h0 (by omega)
      rw [show (r 0 - p).toNat = (r 0 - (p + 1)).toNat + 1 by omega, pasL]
      refine p_oload0 dX5_passes_19 ?_
      refine p_iload3 dX5_passes_20 ?_
      refine p_cV1r (M2 := mX5_isAsleep) ml_RX5_96 mc_X5_isAsleep ⟨Nat.le_of_ble_eq_true rfl, Nat.le_of_ble_eq_true rfl⟩ (isO_m _ _) (Nat.le_of_ble_eq_true rfl) dX5_passes_21 (c_X5_isAsleep hI (by omega) (by omega)) ?_
      refine p_bif_ne 100 dX5_passes_24 (by decide) (fun c24 => ?_) (fun c24 => ?_)
      · rw [show stp g u r p = r by unfold stp; rw [if_pos c24], show tir r p = 0 by unfold tir; rw [if_pos c24], Int.add_zero]
        refine p_iinc3 rfl (Nat.le_of_ble_eq_true rfl) dX5_passes_100 ?_
        refine p_goto 9 dX5_passes_103 (by decide) ?_
        exact Rn.kp (ih (p + 1) r w hI hg hl (by omega) (by omega) (by omega) (by omega)) ⟨rfl, rfl, rfl, rfl, trivial⟩
      · refine p_oload0 dX5_passes_27 ?_
        refine p_iload3 dX5_passes_28 ?_
        refine p_iconst dX5_passes_29 ?_
        refine p_cV2r (M2 := mX5_its) ml_RX5_87 mc_X5_its ⟨Nat.le_of_ble_eq_true rfl, Nat.le_of_ble_eq_true rfl⟩ (isO_m _ _) (Nat.le_of_ble_eq_true rfl) dX5_passes_30 (c_X5_its1 hI (by omega) (by omega)) ?_
        refine p_oload0 dX5_passes_33 ?_
        refine p_iload3 dX5_passes_34 ?_
        refine p_oload0 dX5_passes_35 ?_
        refine p_iload1 dX5_passes_36 ?_
        refine p_iconst dX5_passes_37 ?_
        refine p_cV2r (M2 := mX5_his) ml_RX5_72 mc_X5_his ⟨Nat.le_of_ble_eq_true rfl, Nat.le_of_ble_eq_true rfl⟩ (isO_m _ _) (Nat.le_of_ble_eq_true rfl) dX5_passes_38 (c_X5_his0 hI (by omega) (by omega)) ?_
        refine p_cV2r (M2 := mX5_countsOf) ml_RX5_112 mc_X5_countsOf ⟨Nat.le_of_ble_eq_true rfl, Nat.le_of_ble_eq_true rfl⟩ (isO_m _ _) (Nat.le_of_ble_eq_true rfl) dX5_passes_41 (c_X5_countsOf hI (by omega) (by omega) (by omega) hb) ?_
        refine p_isub dX5_passes_44 ?_
        refine p_istore4 rfl (Nat.le_of_ble_eq_true rfl) dX5_passes_45 ?_
        refine p_oload0 dX5_passes_47 ?_
        refine p_get fl_RX5_7 gm_s dX5_passes_48 ?_
        refine p_iload3 dX5_passes_51 ?_
        refine p_iconst dX5_passes_52 ?_
        refine p_cS2r (M2 := mX5_spotOf) ms_RX5_54 mc_X5_spotOf ⟨Nat.le_of_ble_eq_true rfl, Nat.le_of_ble_eq_true rfl⟩ (Nat.le_of_ble_eq_true rfl) dX5_passes_53 (c_X5_spotOf1) ?_
        refine p_iload4 dX5_passes_56 ?_
        refine p_if_ge ⟨by omega, by omega⟩ 65 dX5_passes_58 (by decide) (fun c58 => ?_) (fun c58 => ?_)
        · have hIw : IR b (uz r (18 + 3 * p) (r (18 + 3 * p) - tk (r (17 + 3 * p)) (r (5 + 2 * m)) (un (r (5 + 2 * m)) (r 3)) (r 2))) := hI.wants h0 (by omega)
          refine p_iload4 dX5_passes_65 ?_
          refine p_iast alq_s (by omega) (by omega) asq_s dX5_passes_67 ?_
          refine p_oload0 dX5_passes_68 ?_
          refine p_get fl_RX5_7 gm_s dX5_passes_69 ?_
          refine p_iload3 dX5_passes_72 ?_
          refine p_iconst dX5_passes_73 ?_
          refine p_cS2r (M2 := mX5_spotOf) ms_RX5_54 mc_X5_spotOf ⟨Nat.le_of_ble_eq_true rfl, Nat.le_of_ble_eq_true rfl⟩ (Nat.le_of_ble_eq_true rfl) dX5_passes_74 (c_X5_spotOf2) ?_
          refine p_oload0 dX5_passes_77 ?_
          refine p_iload3 dX5_passes_78 ?_
          refine p_iconst dX5_passes_79 ?_
          refine p_cV2r (M2 := mX5_its) ml_RX5_87 mc_X5_its ⟨Nat.le_of_ble_eq_true rfl, Nat.le_of_ble_eq_true rfl⟩ (isO_m _ _) (Nat.le_of_ble_eq_true rfl) dX5_passes_80 (c_X5_its2 hIw (by omega) (by omega)) ?_
          refine p_iconst dX5_passes_83 ?_
          refine p_iadd dX5_passes_84 ?_
          refine p_sipush (by decide) (by decide) dX5_passes_85 ?_
          refine p_cS2r (M2 := mX5_heldTo) ms_RX5_115 mc_X5_heldTo ⟨Nat.le_of_ble_eq_true rfl, Nat.le_of_ble_eq_true rfl⟩ (Nat.le_of_ble_eq_true rfl) dX5_passes_88 (c_X5_heldTo ⟨by rw [uz_ne _ _ (by omega)]; omega, by rw [uz_ne _ _ (by omega)]; omega⟩ ⟨by omega, by omega⟩) ?_
          refine p_iast alq_s (by omega) (by omega) asq_s dX5_passes_91 ?_
          rw [show (uz (uz r (18 + 3 * p) (r (18 + 3 * p) - tk (r (17 + 3 * p)) (r (5 + 2 * m)) (un (r (5 + 2 * m)) (r 3)) (r 2))) (19 + 3 * p) (mn 9999 ((uz r (18 + 3 * p) (r (18 + 3 * p) - tk (r (17 + 3 * p)) (r (5 + 2 * m)) (un (r (5 + 2 * m)) (r 3)) (r 2))) (19 + 3 * p) + 1))) = stp g u r p from by unfold stp mx0; rw [if_neg c24, uz_ne _ _ (by omega), ← hg, hu, ← hl, ← hg]; rw [show (if 0 < (r (18 + 3 * p) - tk (r (17 + 3 * p)) (r (5 + 2 * m)) (un (r (5 + 2 * m)) (r 3)) (r 2)) then (r (18 + 3 * p) - tk (r (17 + 3 * p)) (r (5 + 2 * m)) (un (r (5 + 2 * m)) (r 3)) (r 2)) else 0) = (r (18 + 3 * p) - tk (r (17 + 3 * p)) (r (5 + 2 * m)) (un (r (5 + 2 * m)) (r 3)) (r 2)) from by split <;> omega]]
          refine p_iload2 dX5_passes_92 ?_
          refine p_oload0 dX5_passes_93 ?_
          refine p_iload3 dX5_passes_94 ?_
          refine p_cV1r (M2 := mX5_tiresOf) ml_RX5_102 mc_X5_tiresOf ⟨Nat.le_of_ble_eq_true rfl, Nat.le_of_ble_eq_true rfl⟩ (isO_m _ _) (Nat.le_of_ble_eq_true rfl) dX5_passes_95 (c_X5_tiresOf hs (by omega) (by omega)) ?_
          refine p_iadd dX5_passes_98 ?_
          refine p_istore2 rfl (Nat.le_of_ble_eq_true rfl) dX5_passes_99 ?_
          refine p_iinc3 rfl (Nat.le_of_ble_eq_true rfl) dX5_passes_100 ?_
          refine p_goto 9 dX5_passes_103 (by decide) ?_
          rw [show tT (stp g u r p (17 + 3 * p)) = tir r p by rw [stp_k _ _ _ h0]; unfold tir; rw [if_neg c24]]
          have h := ih (p + 1) (stp g u r p) (w + tir r p) hs (by omega) (by omega) (by omega) (by omega) (by omega) (by omega)
          rw [hst] at h
          exact Rn.kp h ⟨rfl, rfl, rfl, rfl, trivial⟩
        · have hIw : IR b (uz r (18 + 3 * p) 0) := hI.wants h0 (by omega)
          refine p_iconst dX5_passes_61 ?_
          refine p_goto 67 dX5_passes_62 (by decide) ?_
          refine p_iast alq_s (by omega) (by omega) asq_s dX5_passes_67 ?_
          refine p_oload0 dX5_passes_68 ?_
          refine p_get fl_RX5_7 gm_s dX5_passes_69 ?_
          refine p_iload3 dX5_passes_72 ?_
          refine p_iconst dX5_passes_73 ?_
          refine p_cS2r (M2 := mX5_spotOf) ms_RX5_54 mc_X5_spotOf ⟨Nat.le_of_ble_eq_true rfl, Nat.le_of_ble_eq_true rfl⟩ (Nat.le_of_ble_eq_true rfl) dX5_passes_74 (c_X5_spotOf2) ?_
          refine p_oload0 dX5_passes_77 ?_
          refine p_iload3 dX5_passes_78 ?_
          refine p_iconst dX5_passes_79 ?_
          refine p_cV2r (M2 := mX5_its) ml_RX5_87 mc_X5_its ⟨Nat.le_of_ble_eq_true rfl, Nat.le_of_ble_eq_true rfl⟩ (isO_m _ _) (Nat.le_of_ble_eq_true rfl) dX5_passes_80 (c_X5_its2 hIw (by omega) (by omega)) ?_
          refine p_iconst dX5_passes_83 ?_
          refine p_iadd dX5_passes_84 ?_
          refine p_sipush (by decide) (by decide) dX5_passes_85 ?_
          refine p_cS2r (M2 := mX5_heldTo) ms_RX5_115 mc_X5_heldTo ⟨Nat.le_of_ble_eq_true rfl, Nat.le_of_ble_eq_true rfl⟩ (Nat.le_of_ble_eq_true rfl) dX5_passes_88 (c_X5_heldTo ⟨by rw [uz_ne _ _ (by omega)]; omega, by rw [uz_ne _ _ (by omega)]; omega⟩ ⟨by omega, by omega⟩) ?_
          refine p_iast alq_s (by omega) (by omega) asq_s dX5_passes_91 ?_
          rw [show (uz (uz r (18 + 3 * p) 0) (19 + 3 * p) (mn 9999 ((uz r (18 + 3 * p) 0) (19 + 3 * p) + 1))) = stp g u r p from by unfold stp mx0; rw [if_neg c24, uz_ne _ _ (by omega), ← hg, hu, ← hl, ← hg]; rw [show (if 0 < (r (18 + 3 * p) - tk (r (17 + 3 * p)) (r (5 + 2 * m)) (un (r (5 + 2 * m)) (r 3)) (r 2)) then (r (18 + 3 * p) - tk (r (17 + 3 * p)) (r (5 + 2 * m)) (un (r (5 + 2 * m)) (r 3)) (r 2)) else 0) = 0 from by split <;> omega]]
          refine p_iload2 dX5_passes_92 ?_
          refine p_oload0 dX5_passes_93 ?_
          refine p_iload3 dX5_passes_94 ?_
          refine p_cV1r (M2 := mX5_tiresOf) ml_RX5_102 mc_X5_tiresOf ⟨Nat.le_of_ble_eq_true rfl, Nat.le_of_ble_eq_true rfl⟩ (isO_m _ _) (Nat.le_of_ble_eq_true rfl) dX5_passes_95 (c_X5_tiresOf hs (by omega) (by omega)) ?_
          refine p_iadd dX5_passes_98 ?_
          refine p_istore2 rfl (Nat.le_of_ble_eq_true rfl) dX5_passes_99 ?_
          refine p_iinc3 rfl (Nat.le_of_ble_eq_true rfl) dX5_passes_100 ?_
          refine p_goto 9 dX5_passes_103 (by decide) ?_
          rw [show tT (stp g u r p (17 + 3 * p)) = tir r p by rw [stp_k _ _ _ h0]; unfold tir; rw [if_neg c24]]
          have h := ih (p + 1) (stp g u r p) (w + tir r p) hs (by omega) (by omega) (by omega) (by omega) (by omega) (by omega)
          rw [hst] at h
          exact Rn.kp h ⟨rfl, rfl, rfl, rfl, trivial⟩
set_option maxRecDepth 100000 in
set_option maxHeartbeats 4000000 in
theorem c_X5_passes {G : GX} {S : St} {r : Row} {b : Int} (hI : IR b r) (hb : b ≤ 1000000) {m : Int} (hm : 0 ≤ m ∧ m < 6) : Ev G mX5_passes [rf G 31, vi m] (mk G (va_up S 9 r)) none (mk G (va_up S 9 (passR m r))) := by
  have i0 := hI.1
  have i5 := hI.2.2.2.2.2.1 m hm.1 hm.2
  refine Ev.enter (by decide +kernel) (Nat.le_of_ble_eq_true rfl) (L := [some (rf G 31), some (vi m), none, none, none]) rfl ?_
  refine p_oload0 dX5_passes_0 ?_
  refine p_iload1 dX5_passes_1 ?_
  refine p_iconst dX5_passes_2 ?_
  refine p_cV2r (M2 := mX5_his) ml_RX5_72 mc_X5_his ⟨Nat.le_of_ble_eq_true rfl, Nat.le_of_ble_eq_true rfl⟩ (isO_m _ _) (Nat.le_of_ble_eq_true rfl) dX5_passes_3 (c_X5_his1 hI (by omega) (by omega)) ?_
  refine p_istore2 rfl (Nat.le_of_ble_eq_true rfl) dX5_passes_6 ?_
  refine p_iconst dX5_passes_7 ?_
  refine p_istore3 rfl (Nat.le_of_ble_eq_true rfl) dX5_passes_8 ?_
  have h := l_X5_passes (G := G) (S := S) hm (u := un (r (5 + 2 * m)) (r 3)) rfl hb 9 0 r (r (6 + 2 * m)) hI rfl rfl (by omega) (by omega) (by omega) (by omega)
  rw [Int.sub_zero] at h
  exact h
set_option maxRecDepth 100000 in
set_option maxHeartbeats 4000000 in
theorem l_X5_nobodyPasses {G : GX} {S : St} {b : Int} : ∀ (n : Nat) (p : Int) (r : Row), IR b r → 0 ≤ p → p ≤ r 0 → r 0 - p < (n : Int) → Rn G mX5_nobodyPasses 2 [some (rf G 31), some (vi p)] [] (mk G (va_up S 9 r)) none (mk G (va_up S 9 (uz (nobL (r 0 - p).toNat p r) 3 (-1)))) := by
  intro n
  induction n with
  | zero =>
    intro p r hI h0 h1 h2
    exfalso
    omega
  | succ n ih =>
    intro p r hI h0 h1 h2
    have i0 := hI.1
    push_cast at h2
    refine p_iload1 dX5_nobodyPasses_2 ?_
    refine p_oload0 dX5_nobodyPasses_3 ?_
    refine p_get fl_RX5_7 gm_s dX5_nobodyPasses_4 ?_
    refine p_iconst dX5_nobodyPasses_7 ?_
    refine p_iald alq_s (by omega) (by omega) dX5_nobodyPasses_8 ?_
    refine p_icmp_ge ⟨by omega, by omega⟩ ⟨by omega, by omega⟩ 45 dX5_nobodyPasses_9 (by decide) (fun c9 => ?_) (fun c9 => ?_)
    · rw [show (r 0 - p).toNat = 0 by omega]
      refine p_oload0 dX5_nobodyPasses_45 ?_
      refine p_get fl_RX5_7 gm_s dX5_nobodyPasses_46 ?_
      refine p_iconst dX5_nobodyPasses_49 ?_
      refine p_iconst dX5_nobodyPasses_50 ?_
      refine p_iast alq_s (by omega) (by omega) asq_s dX5_nobodyPasses_51 ?_
      exact p_vret rfl dX5_nobodyPasses_52 rfl rfl
    · have i6 := hI.2.2.2.2.2.2 p h0 (by omega)
      have hw := tW_le (r (17 + 3 * p))
      rw [show (r 0 - p).toNat = (r 0 - (p + 1)).toNat + 1 by omega, nobL]
      refine p_oload0 dX5_nobodyPasses_12 ?_
      refine p_get fl_RX5_7 gm_s dX5_nobodyPasses_13 ?_
      refine p_iload1 dX5_nobodyPasses_16 ?_
      refine p_iconst dX5_nobodyPasses_17 ?_
      refine p_cS2r (M2 := mX5_spotOf) ms_RX5_54 mc_X5_spotOf ⟨Nat.le_of_ble_eq_true rfl, Nat.le_of_ble_eq_true rfl⟩ (Nat.le_of_ble_eq_true rfl) dX5_nobodyPasses_18 (c_X5_spotOf1) ?_
      refine p_oload0 dX5_nobodyPasses_21 ?_
      refine p_iload1 dX5_nobodyPasses_22 ?_
      refine p_iconst dX5_nobodyPasses_23 ?_
      refine p_cV2r (M2 := mX5_its) ml_RX5_87 mc_X5_its ⟨Nat.le_of_ble_eq_true rfl, Nat.le_of_ble_eq_true rfl⟩ (isO_m _ _) (Nat.le_of_ble_eq_true rfl) dX5_nobodyPasses_24 (c_X5_its1 hI (by omega) (by omega)) ?_
      refine p_oload0 dX5_nobodyPasses_27 ?_
      refine p_iload1 dX5_nobodyPasses_28 ?_
      refine p_cV1r (M2 := mX5_wakesOf) ml_RX5_99 mc_X5_wakesOf ⟨Nat.le_of_ble_eq_true rfl, Nat.le_of_ble_eq_true rfl⟩ (isO_m _ _) (Nat.le_of_ble_eq_true rfl) dX5_nobodyPasses_29 (c_X5_wakesOf hI (by omega) (by omega)) ?_
      refine p_iadd dX5_nobodyPasses_32 ?_
      refine p_bipush (by decide) (by decide) dX5_nobodyPasses_33 ?_
      refine p_cS2r (M2 := mX5_heldTo) ms_RX5_115 mc_X5_heldTo ⟨Nat.le_of_ble_eq_true rfl, Nat.le_of_ble_eq_true rfl⟩ (Nat.le_of_ble_eq_true rfl) dX5_nobodyPasses_35 (c_X5_heldTo ⟨by omega, by omega⟩ ⟨by omega, by omega⟩) ?_
      refine p_iast alq_s (by omega) (by omega) asq_s dX5_nobodyPasses_38 ?_
      refine p_iinc1 rfl (Nat.le_of_ble_eq_true rfl) dX5_nobodyPasses_39 ?_
      refine p_goto 2 dX5_nobodyPasses_42 (by decide) ?_
      have h := ih (p + 1) (uz r (18 + 3 * p) (mn 99 (r (18 + 3 * p) + tW (r (17 + 3 * p))))) (hI.wants h0 ⟨by unfold mn; split <;> omega, mn_le.1⟩) (by omega) (by rw [uz_ne _ _ (by omega)]; omega) (by rw [uz_ne _ _ (by omega)]; omega)
      rw [uz_ne (j := 0) _ _ (by omega)] at h
      exact h
set_option maxRecDepth 100000 in
set_option maxHeartbeats 4000000 in
theorem c_X5_nobodyPasses {G : GX} {S : St} {r : Row} {b : Int} (hI : IR b r) : Ev G mX5_nobodyPasses [rf G 31] (mk G (va_up S 9 r)) none (mk G (va_up S 9 (nobR r))) := by
  have i0 := hI.1
  refine Ev.enter (by decide +kernel) (Nat.le_of_ble_eq_true rfl) (L := [some (rf G 31), none]) rfl ?_
  refine p_iconst dX5_nobodyPasses_0 ?_
  refine p_istore1 rfl (Nat.le_of_ble_eq_true rfl) dX5_nobodyPasses_1 ?_
  have h := l_X5_nobodyPasses (G := G) (S := S) 9 0 r hI (by omega) (by omega) (by omega)
  rw [Int.sub_zero] at h
  exact h
set_option maxRecDepth 100000 in
set_option maxHeartbeats 4000000 in
theorem t_X5_minute {G : GX} {S : St} {q : Row} {b : Int} (hI : IR b q) (hb : b ≤ 1000000) {z : Int} : Rn G mX5_minute 49 [some (rf G 31), some (vi z)] [] (mk G (va_up S 9 q)) none (mk G (va_up S 9 (endR q))) := by
  have i1 := hI.2.1; have i2 := hI.2.2.1; have i4 := hI.2.2.2.2.1
  refine p_oload0 dX5_minute_49 ?_
  refine p_get fl_RX5_7 gm_s dX5_minute_50 ?_
  refine p_iconst dX5_minute_53 ?_
  refine p_oload0 dX5_minute_54 ?_
  refine p_get fl_RX5_7 gm_s dX5_minute_55 ?_
  refine p_iconst dX5_minute_58 ?_
  refine p_iald alq_s (by omega) (by omega) dX5_minute_59 ?_
  refine p_iconst dX5_minute_60 ?_
  refine p_iadd dX5_minute_61 ?_
  refine p_oload0 dX5_minute_62 ?_
  refine p_get fl_RX5_7 gm_s dX5_minute_63 ?_
  refine p_iconst dX5_minute_66 ?_
  refine p_iald alq_s (by omega) (by omega) dX5_minute_67 ?_
  refine p_icmp_ge ⟨by omega, by omega⟩ ⟨by omega, by omega⟩ 82 dX5_minute_68 (by decide) (fun c68 => ?_) (fun c68 => ?_)
  · refine p_iconst dX5_minute_82 ?_
    refine p_iast alq_s (by omega) (by omega) asq_s dX5_minute_83 ?_
    refine p_oload0 dX5_minute_84 ?_
    refine p_get fl_RX5_7 gm_s dX5_minute_85 ?_
    refine p_iconst dX5_minute_88 ?_
    refine p_dup2 rfl rfl dX5_minute_89 ?_
    refine p_iald alq_s (by omega) (by omega) dX5_minute_90 ?_
    refine p_iconst dX5_minute_91 ?_
    refine p_iadd dX5_minute_92 ?_
    refine p_iast alq_s (by omega) (by omega) asq_s dX5_minute_93 ?_
    exact p_vret rfl dX5_minute_94 rfl (congrArg (fun z => mk G (va_up S 9 z)) (by unfold endR; first | (rw [if_neg (by omega), uz_ne (j := 2) _ _ (by omega)]; done) | (rw [if_pos (by omega), uz_ne (j := 2) _ _ (by omega)]; done)))
  · refine p_oload0 dX5_minute_71 ?_
    refine p_get fl_RX5_7 gm_s dX5_minute_72 ?_
    refine p_iconst dX5_minute_75 ?_
    refine p_iald alq_s (by omega) (by omega) dX5_minute_76 ?_
    refine p_iconst dX5_minute_77 ?_
    refine p_iadd dX5_minute_78 ?_
    refine p_goto 83 dX5_minute_79 (by decide) ?_
    refine p_iast alq_s (by omega) (by omega) asq_s dX5_minute_83 ?_
    refine p_oload0 dX5_minute_84 ?_
    refine p_get fl_RX5_7 gm_s dX5_minute_85 ?_
    refine p_iconst dX5_minute_88 ?_
    refine p_dup2 rfl rfl dX5_minute_89 ?_
    refine p_iald alq_s (by omega) (by omega) dX5_minute_90 ?_
    refine p_iconst dX5_minute_91 ?_
    refine p_iadd dX5_minute_92 ?_
    refine p_iast alq_s (by omega) (by omega) asq_s dX5_minute_93 ?_
    exact p_vret rfl dX5_minute_94 rfl (congrArg (fun z => mk G (va_up S 9 z)) (by unfold endR; first | (rw [if_neg (by omega), uz_ne (j := 2) _ _ (by omega)]; done) | (rw [if_pos (by omega), uz_ne (j := 2) _ _ (by omega)]; done)))
set_option maxRecDepth 100000 in
set_option maxHeartbeats 4000000 in
theorem c_X5_minute {G : GX} {S : St} {r : Row} {b : Int} (hI : IR b r) (hb : b ≤ 1000000) : Ev G mX5_minute [rf G 31] (mk G (va_up S 9 r)) none (mk G (va_up S 9 (minR r))) := by
  have i1 := hI.2.1; have i4 := hI.2.2.2.2.1; have t6 := hI.t6
  refine Ev.enter (by decide +kernel) (Nat.le_of_ble_eq_true rfl) (L := [some (rf G 31), none]) rfl ?_
  refine p_oload0 dX5_minute_0 ?_
  refine p_get fl_RX5_7 gm_s dX5_minute_1 ?_
  refine p_iconst dX5_minute_4 ?_
  refine p_iald alq_s (by omega) (by omega) dX5_minute_5 ?_
  refine p_if_le ⟨by omega, by omega⟩ 26 dX5_minute_6 (by decide) (fun c6 => ?_) (fun c6 => ?_)
  · refine p_iconst dX5_minute_26 ?_
    refine p_istore1 rfl (Nat.le_of_ble_eq_true rfl) dX5_minute_27 ?_
    refine p_iload1 dX5_minute_28 ?_
    refine p_if_eq ⟨by omega, by omega⟩ 45 dX5_minute_29 (by decide) (fun c29 => ?_) (fun c29 => ?_)
    · refine p_oload0 dX5_minute_45 ?_
      refine p_cV0v (M2 := mX5_nobodyPasses) ml_RX5_125 mc_X5_nobodyPasses ⟨Nat.le_of_ble_eq_true rfl, Nat.le_of_ble_eq_true rfl⟩ (isO_m _ _) (Nat.le_of_ble_eq_true rfl) dX5_minute_46 (c_X5_nobodyPasses hI) ?_
      have hq := hI.goR
      unfold minR
      first
      | (exfalso; omega)
      | (rw [show goR r = passR (r 4) r by unfold goR; rw [if_pos (by omega)]] at hq ⊢; exact t_X5_minute hq hb)
      | (rw [show goR r = nobR r by unfold goR; rw [if_neg (by omega)]] at hq ⊢; exact t_X5_minute hq hb)
    · refine p_oload0 dX5_minute_32 ?_
      refine p_oload0 dX5_minute_33 ?_
      refine p_get fl_RX5_7 gm_s dX5_minute_34 ?_
      refine p_iconst dX5_minute_37 ?_
      refine p_iald alq_s (by omega) (by omega) dX5_minute_38 ?_
      refine p_cV1v (M2 := mX5_passes) ml_RX5_121 mc_X5_passes ⟨Nat.le_of_ble_eq_true rfl, Nat.le_of_ble_eq_true rfl⟩ (isO_m _ _) (Nat.le_of_ble_eq_true rfl) dX5_minute_39 (c_X5_passes hI hb (by omega)) ?_
      refine p_goto 49 dX5_minute_42 (by decide) ?_
      have hq := hI.goR
      unfold minR
      first
      | (exfalso; omega)
      | (rw [show goR r = passR (r 4) r by unfold goR; rw [if_pos (by omega)]] at hq ⊢; exact t_X5_minute hq hb)
      | (rw [show goR r = nobR r by unfold goR; rw [if_neg (by omega)]] at hq ⊢; exact t_X5_minute hq hb)
  · refine p_oload0 dX5_minute_9 ?_
    refine p_oload0 dX5_minute_10 ?_
    refine p_get fl_RX5_7 gm_s dX5_minute_11 ?_
    refine p_iconst dX5_minute_14 ?_
    refine p_iald alq_s (by omega) (by omega) dX5_minute_15 ?_
    refine p_cV1r (M2 := mX5_isPassing) ml_RX5_118 mc_X5_isPassing ⟨Nat.le_of_ble_eq_true rfl, Nat.le_of_ble_eq_true rfl⟩ (isO_m _ _) (Nat.le_of_ble_eq_true rfl) dX5_minute_16 (c_X5_isPassing hI (by omega) (by omega)) ?_
    refine p_bif_eq 26 dX5_minute_19 (by decide) (fun c19 => ?_) (fun c19 => ?_)
    · refine p_iconst dX5_minute_26 ?_
      refine p_istore1 rfl (Nat.le_of_ble_eq_true rfl) dX5_minute_27 ?_
      refine p_iload1 dX5_minute_28 ?_
      refine p_if_eq ⟨by omega, by omega⟩ 45 dX5_minute_29 (by decide) (fun c29 => ?_) (fun c29 => ?_)
      · refine p_oload0 dX5_minute_45 ?_
        refine p_cV0v (M2 := mX5_nobodyPasses) ml_RX5_125 mc_X5_nobodyPasses ⟨Nat.le_of_ble_eq_true rfl, Nat.le_of_ble_eq_true rfl⟩ (isO_m _ _) (Nat.le_of_ble_eq_true rfl) dX5_minute_46 (c_X5_nobodyPasses hI) ?_
        have hq := hI.goR
        unfold minR
        first
        | (exfalso; omega)
        | (rw [show goR r = passR (r 4) r by unfold goR; rw [if_pos (by omega)]] at hq ⊢; exact t_X5_minute hq hb)
        | (rw [show goR r = nobR r by unfold goR; rw [if_neg (by omega)]] at hq ⊢; exact t_X5_minute hq hb)
      · refine p_oload0 dX5_minute_32 ?_
        refine p_oload0 dX5_minute_33 ?_
        refine p_get fl_RX5_7 gm_s dX5_minute_34 ?_
        refine p_iconst dX5_minute_37 ?_
        refine p_iald alq_s (by omega) (by omega) dX5_minute_38 ?_
        refine p_cV1v (M2 := mX5_passes) ml_RX5_121 mc_X5_passes ⟨Nat.le_of_ble_eq_true rfl, Nat.le_of_ble_eq_true rfl⟩ (isO_m _ _) (Nat.le_of_ble_eq_true rfl) dX5_minute_39 (c_X5_passes hI hb (by omega)) ?_
        refine p_goto 49 dX5_minute_42 (by decide) ?_
        have hq := hI.goR
        unfold minR
        first
        | (exfalso; omega)
        | (rw [show goR r = passR (r 4) r by unfold goR; rw [if_pos (by omega)]] at hq ⊢; exact t_X5_minute hq hb)
        | (rw [show goR r = nobR r by unfold goR; rw [if_neg (by omega)]] at hq ⊢; exact t_X5_minute hq hb)
    · refine p_iconst dX5_minute_22 ?_
      refine p_goto 27 dX5_minute_23 (by decide) ?_
      refine p_istore1 rfl (Nat.le_of_ble_eq_true rfl) dX5_minute_27 ?_
      refine p_iload1 dX5_minute_28 ?_
      refine p_if_eq ⟨by omega, by omega⟩ 45 dX5_minute_29 (by decide) (fun c29 => ?_) (fun c29 => ?_)
      · refine p_oload0 dX5_minute_45 ?_
        refine p_cV0v (M2 := mX5_nobodyPasses) ml_RX5_125 mc_X5_nobodyPasses ⟨Nat.le_of_ble_eq_true rfl, Nat.le_of_ble_eq_true rfl⟩ (isO_m _ _) (Nat.le_of_ble_eq_true rfl) dX5_minute_46 (c_X5_nobodyPasses hI) ?_
        have hq := hI.goR
        unfold minR
        first
        | (exfalso; omega)
        | (rw [show goR r = passR (r 4) r by unfold goR; rw [if_pos (by omega)]] at hq ⊢; exact t_X5_minute hq hb)
        | (rw [show goR r = nobR r by unfold goR; rw [if_neg (by omega)]] at hq ⊢; exact t_X5_minute hq hb)
      · refine p_oload0 dX5_minute_32 ?_
        refine p_oload0 dX5_minute_33 ?_
        refine p_get fl_RX5_7 gm_s dX5_minute_34 ?_
        refine p_iconst dX5_minute_37 ?_
        refine p_iald alq_s (by omega) (by omega) dX5_minute_38 ?_
        refine p_cV1v (M2 := mX5_passes) ml_RX5_121 mc_X5_passes ⟨Nat.le_of_ble_eq_true rfl, Nat.le_of_ble_eq_true rfl⟩ (isO_m _ _) (Nat.le_of_ble_eq_true rfl) dX5_minute_39 (c_X5_passes hI hb (by omega)) ?_
        refine p_goto 49 dX5_minute_42 (by decide) ?_
        have hq := hI.goR
        unfold minR
        first
        | (exfalso; omega)
        | (rw [show goR r = passR (r 4) r by unfold goR; rw [if_pos (by omega)]] at hq ⊢; exact t_X5_minute hq hb)
        | (rw [show goR r = nobR r by unfold goR; rw [if_neg (by omega)]] at hq ⊢; exact t_X5_minute hq hb)
set_option maxRecDepth 100000 in
set_option maxHeartbeats 4000000 in
theorem l_X5_minutesGo {G : GX} {S : St} {k : Int} (hk : 0 ≤ k ∧ k ≤ 1000) : ∀ (n : Nat) (i : Int) (r : Row) (b : Int), IR b r → b ≤ 900000 + i → 0 ≤ i → i ≤ k → k - i < (n : Int) → Rn G mX5_minutesGo 2 [some (rf G 31), some (vi k), some (vi i)] [] (mk G (va_up S 9 r)) none (mk G (va_up S 9 (minsR (k - i).toNat r))) := by
  intro n
  induction n with
  | zero =>
    intro i r b hI hb h0 h1 h2
    exfalso
    omega
  | succ n ih =>
    intro i r b hI hb h0 h1 h2
    push_cast at h2
    refine p_iload2 dX5_minutesGo_2 ?_
    refine p_iload1 dX5_minutesGo_3 ?_
    refine p_icmp_ge ⟨by omega, by omega⟩ ⟨by omega, by omega⟩ 17 dX5_minutesGo_4 (by decide) (fun c4 => ?_) (fun c4 => ?_)
    · rw [show (k - i).toNat = 0 by omega]
      exact p_vret rfl dX5_minutesGo_17 rfl rfl
    · rw [show (k - i).toNat = (k - (i + 1)).toNat + 1 by omega, minsR]
      refine p_oload0 dX5_minutesGo_7 ?_
      refine p_cV0v (M2 := mX5_minute) ml_RX5_128 mc_X5_minute ⟨Nat.le_of_ble_eq_true rfl, Nat.le_of_ble_eq_true rfl⟩ (isO_m _ _) (Nat.le_of_ble_eq_true rfl) dX5_minutesGo_8 (c_X5_minute hI (by omega)) ?_
      refine p_iinc2 rfl (Nat.le_of_ble_eq_true rfl) dX5_minutesGo_11 ?_
      refine p_goto 2 dX5_minutesGo_14 (by decide) ?_
      exact ih (i + 1) _ _ hI.minR (by omega) (by omega) (by omega) (by omega)
set_option maxRecDepth 100000 in
set_option maxHeartbeats 4000000 in
theorem c_X5_minutesGo {G : GX} {S : St} {r : Row} {b : Int} (hI : IR b r) (hb : b ≤ 900000) {k : Int} (hk : 0 ≤ k ∧ k ≤ 1000) : Ev G mX5_minutesGo [rf G 31, vi k] (mk G (va_up S 9 r)) none (mk G (va_up S 9 (minsR k.toNat r))) := by
  refine Ev.enter (by decide +kernel) (Nat.le_of_ble_eq_true rfl) (L := [some (rf G 31), some (vi k), none]) rfl ?_
  refine p_iconst dX5_minutesGo_0 ?_
  refine p_istore2 rfl (Nat.le_of_ble_eq_true rfl) dX5_minutesGo_1 ?_
  have h := l_X5_minutesGo (G := G) (S := S) hk 1001 0 r b hI (by omega) (by omega) (by omega) (by omega)
  rw [Int.sub_zero] at h
  exact h
set_option maxRecDepth 100000 in
set_option maxHeartbeats 4000000 in
theorem l_X5_asleep {G : GX} {S : St} {r : Row} {b : Int} (hI : IR b r) : ∀ (n : Nat) (p : Int) (a : Int), inR a → 0 ≤ p → p ≤ r 0 → r 0 - p < (n : Int) → Rn G mX5_asleep 4 [some (rf G 31), some (vi a), some (vi p)] [] (mk G (va_up S 9 r)) (some (vi (lset (fun p => decide (r (18 + 3 * p) = 0)) (r 0 - p).toNat p a))) (mk G (va_up S 9 r)) := by
  intro n
  induction n with
  | zero =>
    intro p a ha h0 h1 h2
    exfalso
    omega
  | succ n ih =>
    intro p a ha h0 h1 h2
    have i0 := hI.1; have i1 := hI.2.1; have i2 := hI.2.2.1; have i3 := hI.2.2.2.1; have i4 := hI.2.2.2.2.1
    push_cast at h2
    refine p_iload2 dX5_asleep_4 ?_
    refine p_oload0 dX5_asleep_5 ?_
    refine p_get fl_RX5_7 gm_s dX5_asleep_6 ?_
    refine p_iconst dX5_asleep_9 ?_
    refine p_iald alq_s (by omega) (by omega) dX5_asleep_10 ?_
    refine p_icmp_ge ⟨by omega, by omega⟩ ⟨by omega, by omega⟩ 38 dX5_asleep_11 (by decide) (fun c11 => ?_) (fun c11 => ?_)
    · rw [show (r 0 - p).toNat = 0 by omega]
      refine p_iload1 dX5_asleep_38 ?_
      exact p_iret rfl dX5_asleep_39 rfl rfl
    · rw [show (r 0 - p).toNat = (r 0 - (p + 1)).toNat + 1 by omega, lset]
      refine p_iload1 dX5_asleep_14 ?_
      refine p_oload0 dX5_asleep_15 ?_
      refine p_iload2 dX5_asleep_16 ?_
      refine p_cV1r (M2 := mX5_isAsleep) ml_RX5_96 mc_X5_isAsleep ⟨Nat.le_of_ble_eq_true rfl, Nat.le_of_ble_eq_true rfl⟩ (isO_m _ _) (Nat.le_of_ble_eq_true rfl) dX5_asleep_17 (c_X5_isAsleep hI (by omega) (by omega)) ?_
      refine p_bif_eq 29 dX5_asleep_20 (by decide) (fun c20 => ?_) (fun c20 => ?_)
      · rw [if_neg (by simpa using c20)]
        refine p_iconst dX5_asleep_29 ?_
        refine p_ior dX5_asleep_30 ?_
        refine p_istore1 rfl (Nat.le_of_ble_eq_true rfl) dX5_asleep_31 ?_
        refine p_iinc2 rfl (Nat.le_of_ble_eq_true rfl) dX5_asleep_32 ?_
        refine p_goto 4 dX5_asleep_35 (by decide) ?_
        rw [bOr_0 ha]
        exact ih (p + 1) a ha (by omega) (by omega) (by omega)
      · rw [if_pos (by simpa using c20)]
        refine p_iconst dX5_asleep_23 ?_
        refine p_iload2 dX5_asleep_24 ?_
        refine p_ishl dX5_asleep_25 ?_
        refine p_goto 30 dX5_asleep_26 (by decide) ?_
        refine p_ior dX5_asleep_30 ?_
        refine p_istore1 rfl (Nat.le_of_ble_eq_true rfl) dX5_asleep_31 ?_
        refine p_iinc2 rfl (Nat.le_of_ble_eq_true rfl) dX5_asleep_32 ?_
        refine p_goto 4 dX5_asleep_35 (by decide) ?_
        exact ih (p + 1) _ (bOr_in _ _) (by omega) (by omega) (by omega)
set_option maxRecDepth 100000 in
set_option maxHeartbeats 4000000 in
theorem c_X5_asleep {G : GX} {S : St} {r : Row} {b : Int} (hI : IR b r) : Ev G mX5_asleep [rf G 31] (mk G (va_up S 9 r)) (some (vi (slp r))) (mk G ((va_up S 9 r))) := by
  have i0 := hI.1; have i1 := hI.2.1; have i2 := hI.2.2.1; have i3 := hI.2.2.2.1; have i4 := hI.2.2.2.2.1
  refine Ev.enter (by decide +kernel) (Nat.le_of_ble_eq_true rfl) (L := [some (rf G 31), none, none]) rfl ?_
  refine p_iconst dX5_asleep_0 ?_
  refine p_istore1 rfl (Nat.le_of_ble_eq_true rfl) dX5_asleep_1 ?_
  refine p_iconst dX5_asleep_2 ?_
  refine p_istore2 rfl (Nat.le_of_ble_eq_true rfl) dX5_asleep_3 ?_
  have h := l_X5_asleep (G := G) (S := S) hI 9 0 0 ⟨by omega, by omega⟩ (by omega) (by omega) (by omega); rw [Int.sub_zero] at h; exact h
set_option maxRecDepth 100000 in
set_option maxHeartbeats 4000000 in
theorem l_X5_passing {G : GX} {S : St} {r : Row} {b : Int} (hI : IR b r) : ∀ (n : Nat) (p : Int) (a : Int), inR a → 0 ≤ p → p ≤ r 1 → r 1 - p < (n : Int) → Rn G mX5_passing 4 [some (rf G 31), some (vi a), some (vi p)] [] (mk G (va_up S 9 r)) (some (vi (lset (fun p => decide (r (6 + 2 * p) < 99)) (r 1 - p).toNat p a))) (mk G (va_up S 9 r)) := by
  intro n
  induction n with
  | zero =>
    intro p a ha h0 h1 h2
    exfalso
    omega
  | succ n ih =>
    intro p a ha h0 h1 h2
    have i0 := hI.1; have i1 := hI.2.1; have i2 := hI.2.2.1; have i3 := hI.2.2.2.1; have i4 := hI.2.2.2.2.1
    push_cast at h2
    refine p_iload2 dX5_passing_4 ?_
    refine p_oload0 dX5_passing_5 ?_
    refine p_get fl_RX5_7 gm_s dX5_passing_6 ?_
    refine p_iconst dX5_passing_9 ?_
    refine p_iald alq_s (by omega) (by omega) dX5_passing_10 ?_
    refine p_icmp_ge ⟨by omega, by omega⟩ ⟨by omega, by omega⟩ 38 dX5_passing_11 (by decide) (fun c11 => ?_) (fun c11 => ?_)
    · rw [show (r 1 - p).toNat = 0 by omega]
      refine p_iload1 dX5_passing_38 ?_
      exact p_iret rfl dX5_passing_39 rfl rfl
    · rw [show (r 1 - p).toNat = (r 1 - (p + 1)).toNat + 1 by omega, lset]
      refine p_iload1 dX5_passing_14 ?_
      refine p_oload0 dX5_passing_15 ?_
      refine p_iload2 dX5_passing_16 ?_
      refine p_cV1r (M2 := mX5_isPassing) ml_RX5_118 mc_X5_isPassing ⟨Nat.le_of_ble_eq_true rfl, Nat.le_of_ble_eq_true rfl⟩ (isO_m _ _) (Nat.le_of_ble_eq_true rfl) dX5_passing_17 (c_X5_isPassing hI (by omega) (by omega)) ?_
      refine p_bif_eq 29 dX5_passing_20 (by decide) (fun c20 => ?_) (fun c20 => ?_)
      · rw [if_neg (by simpa using c20)]
        refine p_iconst dX5_passing_29 ?_
        refine p_ior dX5_passing_30 ?_
        refine p_istore1 rfl (Nat.le_of_ble_eq_true rfl) dX5_passing_31 ?_
        refine p_iinc2 rfl (Nat.le_of_ble_eq_true rfl) dX5_passing_32 ?_
        refine p_goto 4 dX5_passing_35 (by decide) ?_
        rw [bOr_0 ha]
        exact ih (p + 1) a ha (by omega) (by omega) (by omega)
      · rw [if_pos (by simpa using c20)]
        refine p_iconst dX5_passing_23 ?_
        refine p_iload2 dX5_passing_24 ?_
        refine p_ishl dX5_passing_25 ?_
        refine p_goto 30 dX5_passing_26 (by decide) ?_
        refine p_ior dX5_passing_30 ?_
        refine p_istore1 rfl (Nat.le_of_ble_eq_true rfl) dX5_passing_31 ?_
        refine p_iinc2 rfl (Nat.le_of_ble_eq_true rfl) dX5_passing_32 ?_
        refine p_goto 4 dX5_passing_35 (by decide) ?_
        exact ih (p + 1) _ (bOr_in _ _) (by omega) (by omega) (by omega)
set_option maxRecDepth 100000 in
set_option maxHeartbeats 4000000 in
theorem c_X5_passing {G : GX} {S : St} {r : Row} {b : Int} (hI : IR b r) : Ev G mX5_passing [rf G 31] (mk G (va_up S 9 r)) (some (vi (pss r))) (mk G ((va_up S 9 r))) := by
  have i0 := hI.1; have i1 := hI.2.1; have i2 := hI.2.2.1; have i3 := hI.2.2.2.1; have i4 := hI.2.2.2.2.1
  refine Ev.enter (by decide +kernel) (Nat.le_of_ble_eq_true rfl) (L := [some (rf G 31), none, none]) rfl ?_
  refine p_iconst dX5_passing_0 ?_
  refine p_istore1 rfl (Nat.le_of_ble_eq_true rfl) dX5_passing_1 ?_
  refine p_iconst dX5_passing_2 ?_
  refine p_istore2 rfl (Nat.le_of_ble_eq_true rfl) dX5_passing_3 ?_
  have h := l_X5_passing (G := G) (S := S) hI 9 0 0 ⟨by omega, by omega⟩ (by omega) (by omega) (by omega); rw [Int.sub_zero] at h; exact h
set_option maxRecDepth 100000 in
set_option maxHeartbeats 4000000 in
theorem l_X5_together {G : GX} {S : St} {r : Row} {b : Int} (hI : IR b r) {w : Int} (hw : 0 ≤ w ∧ w ≤ 2) : ∀ (n : Nat) (p : Int) (a : Int), 0 ≤ p → p ≤ r 0 → r 0 - p < (n : Int) → Rn G mX5_together 4 [some (rf G 31), some (vi w), some (vi a), some (vi p)] [] (mk G (va_up S 9 r)) (some (vi (lsum (fun p => r (17 + 3 * p + w)) (r 0 - p).toNat p a))) (mk G (va_up S 9 r)) := by
  intro n
  induction n with
  | zero =>
    intro p a h0 h1 h2
    exfalso
    omega
  | succ n ih =>
    intro p a h0 h1 h2
    have i0 := hI.1; have i1 := hI.2.1; have i2 := hI.2.2.1; have i3 := hI.2.2.2.1; have i4 := hI.2.2.2.2.1
    push_cast at h2
    refine p_iload3 dX5_together_4 ?_
    refine p_oload0 dX5_together_5 ?_
    refine p_get fl_RX5_7 gm_s dX5_together_6 ?_
    refine p_iconst dX5_together_9 ?_
    refine p_iald alq_s (by omega) (by omega) dX5_together_10 ?_
    refine p_icmp_ge ⟨by omega, by omega⟩ ⟨by omega, by omega⟩ 29 dX5_together_11 (by decide) (fun c11 => ?_) (fun c11 => ?_)
    · rw [show (r 0 - p).toNat = 0 by omega]
      refine p_iload2 dX5_together_29 ?_
      exact p_iret rfl dX5_together_30 rfl rfl
    · rw [show (r 0 - p).toNat = (r 0 - (p + 1)).toNat + 1 by omega]
      refine p_iload2 dX5_together_14 ?_
      refine p_oload0 dX5_together_15 ?_
      refine p_iload3 dX5_together_16 ?_
      refine p_iload1 dX5_together_17 ?_
      refine p_cV2r (M2 := mX5_its) ml_RX5_87 mc_X5_its ⟨Nat.le_of_ble_eq_true rfl, Nat.le_of_ble_eq_true rfl⟩ (isO_m _ _) (Nat.le_of_ble_eq_true rfl) dX5_together_18 (c_X5_its hI (by omega) hw) ?_
      refine p_iadd dX5_together_21 ?_
      refine p_istore2 rfl (Nat.le_of_ble_eq_true rfl) dX5_together_22 ?_
      refine p_iinc3 rfl (Nat.le_of_ble_eq_true rfl) dX5_together_23 ?_
      refine p_goto 4 dX5_together_26 (by decide) ?_
      exact ih (p + 1) _ (by omega) (by omega) (by omega)
set_option maxRecDepth 100000 in
set_option maxHeartbeats 4000000 in
theorem c_X5_together {G : GX} {S : St} {r : Row} {b : Int} (hI : IR b r) {w : Int} (hw : 0 ≤ w ∧ w ≤ 2) : Ev G mX5_together [rf G 31, vi w] (mk G (va_up S 9 r)) (some (vi (lsum (fun p => r (17 + 3 * p + w)) (r 0).toNat 0 0))) (mk G ((va_up S 9 r))) := by
  have i0 := hI.1; have i1 := hI.2.1; have i2 := hI.2.2.1; have i3 := hI.2.2.2.1; have i4 := hI.2.2.2.2.1
  refine Ev.enter (by decide +kernel) (Nat.le_of_ble_eq_true rfl) (L := [some (rf G 31), some (vi w), none, none]) rfl ?_
  refine p_iconst dX5_together_0 ?_
  refine p_istore2 rfl (Nat.le_of_ble_eq_true rfl) dX5_together_1 ?_
  refine p_iconst dX5_together_2 ?_
  refine p_istore3 rfl (Nat.le_of_ble_eq_true rfl) dX5_together_3 ?_
  have h := l_X5_together (G := G) (S := S) hI hw 9 0 0 (by omega) (by omega) (by omega); rw [Int.sub_zero] at h; exact h
theorem c_X5_together1 {G : GX} {S : St} {r : Row} {b : Int} (hI : IR b r) : Ev G mX5_together [rf G 31, vi 1] (mk G (va_up S 9 r)) (some (vi (wsm r))) (mk G (va_up S 9 r)) := by
  have h := c_X5_together (G := G) (S := S) hI (w := 1) (by omega)
  rw [show lsum (fun p => r (17 + 3 * p + 1)) (r 0).toNat 0 0 = wsm r from lsum_congr _ _ _ (fun q _ _ => by show r (17 + 3 * q + 1) = r (18 + 3 * q); congr 1; omega)] at h
  exact h
theorem c_X5_together2 {G : GX} {S : St} {r : Row} {b : Int} (hI : IR b r) : Ev G mX5_together [rf G 31, vi 2] (mk G (va_up S 9 r)) (some (vi (ssm r))) (mk G (va_up S 9 r)) := by
  have h := c_X5_together (G := G) (S := S) hI (w := 2) (by omega)
  rw [show lsum (fun p => r (17 + 3 * p + 2)) (r 0).toNat 0 0 = ssm r from lsum_congr _ _ _ (fun q _ _ => by show r (17 + 3 * q + 2) = r (19 + 3 * q); congr 1; omega)] at h
  exact h
def wof (r : Row) (s : Int) : Int → Int := fun m => if bAnd (bShr s m) 1 = 1 then r (6 + 2 * m) else 0
set_option maxRecDepth 100000 in
set_option maxHeartbeats 4000000 in
theorem l_X5_wearOf {G : GX} {S : St} {r : Row} {b : Int} (hI : IR b r) {s : Int} : ∀ (n : Nat) (p : Int) (a : Int), 0 ≤ p → p ≤ r 1 → r 1 - p < (n : Int) → Rn G mX5_wearOf 4 [some (rf G 31), some (vi s), some (vi a), some (vi p)] [] (mk G (va_up S 9 r)) (some (vi (lsum (wof r s) (r 1 - p).toNat p a))) (mk G (va_up S 9 r)) := by
  intro n
  induction n with
  | zero =>
    intro p a h0 h1 h2
    exfalso
    omega
  | succ n ih =>
    intro p a h0 h1 h2
    have i0 := hI.1; have i1 := hI.2.1; have i2 := hI.2.2.1; have i3 := hI.2.2.2.1; have i4 := hI.2.2.2.2.1
    push_cast at h2
    refine p_iload3 dX5_wearOf_4 ?_
    refine p_oload0 dX5_wearOf_5 ?_
    refine p_get fl_RX5_7 gm_s dX5_wearOf_6 ?_
    refine p_iconst dX5_wearOf_9 ?_
    refine p_iald alq_s (by omega) (by omega) dX5_wearOf_10 ?_
    refine p_icmp_ge ⟨by omega, by omega⟩ ⟨by omega, by omega⟩ 42 dX5_wearOf_11 (by decide) (fun c11 => ?_) (fun c11 => ?_)
    · rw [show (r 1 - p).toNat = 0 by omega]
      refine p_iload2 dX5_wearOf_42 ?_
      exact p_iret rfl dX5_wearOf_43 rfl rfl
    · rw [show (r 1 - p).toNat = (r 1 - (p + 1)).toNat + 1 by omega, lsum]
      refine p_iload2 dX5_wearOf_14 ?_
      refine p_iload1 dX5_wearOf_15 ?_
      refine p_iload3 dX5_wearOf_16 ?_
      refine p_ishr dX5_wearOf_17 ?_
      refine p_iconst dX5_wearOf_18 ?_
      refine p_iand dX5_wearOf_19 ?_
      refine p_iconst dX5_wearOf_20 ?_
      refine p_icmp_ne (bAnd_in _ _) ⟨by omega, by omega⟩ 33 dX5_wearOf_21 (by decide) (fun c21 => ?_) (fun c21 => ?_)
      · rw [show wof r s p = 0 by unfold wof; rw [if_neg c21]]
        refine p_iconst dX5_wearOf_33 ?_
        refine p_iadd dX5_wearOf_34 ?_
        refine p_istore2 rfl (Nat.le_of_ble_eq_true rfl) dX5_wearOf_35 ?_
        refine p_iinc3 rfl (Nat.le_of_ble_eq_true rfl) dX5_wearOf_36 ?_
        refine p_goto 4 dX5_wearOf_39 (by decide) ?_
        exact ih (p + 1) _ (by omega) (by omega) (by omega)
      · rw [show wof r s p = r (6 + 2 * p) by unfold wof; rw [if_pos (by omega)]]
        refine p_oload0 dX5_wearOf_24 ?_
        refine p_iload3 dX5_wearOf_25 ?_
        refine p_iconst dX5_wearOf_26 ?_
        refine p_cV2r (M2 := mX5_his) ml_RX5_72 mc_X5_his ⟨Nat.le_of_ble_eq_true rfl, Nat.le_of_ble_eq_true rfl⟩ (isO_m _ _) (Nat.le_of_ble_eq_true rfl) dX5_wearOf_27 (c_X5_his1 hI (by omega) (by omega)) ?_
        refine p_goto 34 dX5_wearOf_30 (by decide) ?_
        refine p_iadd dX5_wearOf_34 ?_
        refine p_istore2 rfl (Nat.le_of_ble_eq_true rfl) dX5_wearOf_35 ?_
        refine p_iinc3 rfl (Nat.le_of_ble_eq_true rfl) dX5_wearOf_36 ?_
        refine p_goto 4 dX5_wearOf_39 (by decide) ?_
        exact ih (p + 1) _ (by omega) (by omega) (by omega)
set_option maxRecDepth 100000 in
set_option maxHeartbeats 4000000 in
theorem c_X5_wearOf {G : GX} {S : St} {r : Row} {b : Int} (hI : IR b r) {s : Int} : Ev G mX5_wearOf [rf G 31, vi s] (mk G (va_up S 9 r)) (some (vi (lsum (wof r s) (r 1).toNat 0 0))) (mk G ((va_up S 9 r))) := by
  have i0 := hI.1; have i1 := hI.2.1; have i2 := hI.2.2.1; have i3 := hI.2.2.2.1; have i4 := hI.2.2.2.2.1
  refine Ev.enter (by decide +kernel) (Nat.le_of_ble_eq_true rfl) (L := [some (rf G 31), some (vi s), none, none]) rfl ?_
  refine p_iconst dX5_wearOf_0 ?_
  refine p_istore2 rfl (Nat.le_of_ble_eq_true rfl) dX5_wearOf_1 ?_
  refine p_iconst dX5_wearOf_2 ?_
  refine p_istore3 rfl (Nat.le_of_ble_eq_true rfl) dX5_wearOf_3 ?_
  have h := l_X5_wearOf (G := G) (S := S) hI (s := s) 7 0 0 (by omega) (by omega) (by omega); rw [Int.sub_zero] at h; exact h
theorem wo_cc : ∀ n, n < 7 → ∀ m, m < n → (Int32.ofInt (Int32.ofInt ((Int32.ofInt 1 <<< (Int32.ofInt ((n : Nat) : Int) &&& 31)).toInt - 1) >>> (Int32.ofInt ((m : Nat) : Int) &&& 31)).toInt &&& Int32.ofInt 1).toInt = 1 := by decide +kernel
theorem wof_all {b : Int} {r : Row} (h : IR b r) : lsum (wof r (bShl 1 (r 1) - 1)) (r 1).toNat 0 0 = wal r := by
  have h1 := h.2.1
  refine lsum_congr _ _ _ (fun q a c => ?_)
  have h2 := wo_cc (r 1).toNat (by omega) q.toNat (by omega)
  rw [show (((r 1).toNat : Nat) : Int) = r 1 by omega, show ((q.toNat : Nat) : Int) = q by omega] at h2
  unfold wof
  exact if_pos h2
theorem wx_cc : ∀ n, n < 7 → ∀ s, s < 2 ^ n → ∀ m, m < n → ((Int32.ofInt (Int32.ofInt (Int32.ofInt ((Int32.ofInt 1 <<< (Int32.ofInt ((n : Nat) : Int) &&& 31)).toInt - 1) &&& Int32.ofInt (Int32.ofInt ((s : Nat) : Int) ^^^ Int32.ofInt (-1)).toInt).toInt >>> (Int32.ofInt ((m : Nat) : Int) &&& 31)).toInt &&& Int32.ofInt 1).toInt = 1 ↔ ¬ (Int32.ofInt (Int32.ofInt ((s : Nat) : Int) >>> (Int32.ofInt ((m : Nat) : Int) &&& 31)).toInt &&& Int32.ofInt 1).toInt = 1) := by decide +kernel
set_option maxRecDepth 100000 in
set_option maxHeartbeats 4000000 in
theorem c_X5_behind {G : GX} {S : St} {r : Row} {b : Int} (hI : IR b r) (hb : b ≤ 900000) {w k : Int} (hw : 0 ≤ w ∧ w < 41) (hk : 0 ≤ k ∧ k ≤ 1000) : Ev G mX5_behind [rf G 31, vi w, vi k] (mk G (va_up S 9 r)) (some (vi (minsR k.toNat r w))) (mk G (va_up (va_up S 12 r) 9 r)) := by
  refine Ev.enter (by decide +kernel) (Nat.le_of_ble_eq_true rfl) (L := [some (rf G 31), some (vi w), some (vi k)]) rfl ?_
  refine p_oload0 dX5_behind_0 ?_
  refine p_cV0v (M2 := mX5_laysAside) ml_RX5_151 mc_X5_laysAside ⟨Nat.le_of_ble_eq_true rfl, Nat.le_of_ble_eq_true rfl⟩ (isO_m _ _) (Nat.le_of_ble_eq_true rfl) dX5_behind_1 (c_X5_laysAside) ?_
  refine p_oload0 dX5_behind_4 ?_
  refine p_iload2 dX5_behind_5 ?_
  refine p_cV1v (M2 := mX5_minutesGo) ml_RX5_135 mc_X5_minutesGo ⟨Nat.le_of_ble_eq_true rfl, Nat.le_of_ble_eq_true rfl⟩ (isO_m _ _) (Nat.le_of_ble_eq_true rfl) dX5_behind_6 (c_X5_minutesGo hI hb hk) ?_
  refine p_oload0 dX5_behind_9 ?_
  refine p_oload0 dX5_behind_10 ?_
  refine p_get fl_RX5_7 gm_s dX5_behind_11 ?_
  refine p_iload1 dX5_behind_14 ?_
  refine p_iald alq_s (by omega) (by omega) dX5_behind_15 ?_
  refine p_cV1r (M2 := mX5_takesBack) ml_RX5_154 mc_X5_takesBack ⟨Nat.le_of_ble_eq_true rfl, Nat.le_of_ble_eq_true rfl⟩ (isO_m _ _) (Nat.le_of_ble_eq_true rfl) dX5_behind_16 (c_X5_takesBack) ?_
  exact p_iret rfl dX5_behind_19 (congrArg (fun z => some (vi z)) (by first | rfl | omega | (split <;> omega))) rfl
set_option maxRecDepth 100000 in
set_option maxHeartbeats 4000000 in
theorem l_X5_firstAs {G : GX} {S : St} {a : Row} {w v k : Int} (hw : 0 ≤ w ∧ w < 41) (hr : ∀ b r, IR b r → inR (r w)) (hv : inR v) (hk : 0 ≤ k ∧ k ≤ 1000) : ∀ (n : Nat) (i : Int) (r : Row) (b : Int), IR b r → b ≤ 900000 + i → 0 ≤ i → i ≤ k + 1 → k + 1 - i < (n : Int) → Rn G mX5_firstAs 7 [some (rf G 31), some (vi w), some (vi v), some (vi k), some (vi i)] [] (mk G (va_up (va_up S 12 a) 9 r)) (some (vi (ft (at_ w v) (k + 1 - i).toNat i r).1)) (mk G (va_up (va_up S 12 a) 9 a)) := by
  intro n
  induction n with
  | zero =>
    intro i r b hI hb h0 h1 h2
    exfalso
    omega
  | succ n ih =>
    intro i r b hI hb h0 h1 h2
    push_cast at h2
    have hrw := hr b r hI
    refine p_iload4 dX5_firstAs_7 ?_
    refine p_iload3 dX5_firstAs_9 ?_
    refine p_icmp_gt ⟨by omega, by omega⟩ ⟨by omega, by omega⟩ 33 dX5_firstAs_10 (by decide) (fun c10 => ?_) (fun c10 => ?_)
    · rw [show (k + 1 - i).toNat = 0 by omega, ft, show i = k + 1 by omega]
      refine p_oload0 dX5_firstAs_33 ?_
      refine p_iload4 dX5_firstAs_34 ?_
      refine p_cV1r (M2 := mX5_takesBack) ml_RX5_154 mc_X5_takesBack ⟨Nat.le_of_ble_eq_true rfl, Nat.le_of_ble_eq_true rfl⟩ (isO_m _ _) (Nat.le_of_ble_eq_true rfl) dX5_firstAs_36 (c_X5_takesBack) ?_
      exact p_iret rfl dX5_firstAs_39 rfl rfl
    · rw [show (k + 1 - i).toNat = (k + 1 - (i + 1)).toNat + 1 by omega, ft]
      refine p_oload0 dX5_firstAs_13 ?_
      refine p_get fl_RX5_7 gm_s dX5_firstAs_14 ?_
      refine p_iload1 dX5_firstAs_17 ?_
      refine p_iald alq_s (by omega) (by omega) dX5_firstAs_18 ?_
      refine p_iload2 dX5_firstAs_19 ?_
      refine p_icmp_eq hrw hv 33 dX5_firstAs_20 (by decide) (fun c20 => ?_) (fun c20 => ?_)
      · rw [if_pos (show at_ w v r = true from decide_eq_true c20)]
        refine p_oload0 dX5_firstAs_33 ?_
        refine p_iload4 dX5_firstAs_34 ?_
        refine p_cV1r (M2 := mX5_takesBack) ml_RX5_154 mc_X5_takesBack ⟨Nat.le_of_ble_eq_true rfl, Nat.le_of_ble_eq_true rfl⟩ (isO_m _ _) (Nat.le_of_ble_eq_true rfl) dX5_firstAs_36 (c_X5_takesBack) ?_
        exact p_iret rfl dX5_firstAs_39 rfl rfl
      · rw [if_neg (show ¬ at_ w v r = true from fun q => c20 (of_decide_eq_true q))]
        refine p_oload0 dX5_firstAs_23 ?_
        refine p_cV0v (M2 := mX5_minute) ml_RX5_128 mc_X5_minute ⟨Nat.le_of_ble_eq_true rfl, Nat.le_of_ble_eq_true rfl⟩ (isO_m _ _) (Nat.le_of_ble_eq_true rfl) dX5_firstAs_24 (c_X5_minute hI (by omega)) ?_
        refine p_iinc4 rfl (Nat.le_of_ble_eq_true rfl) dX5_firstAs_27 ?_
        refine p_goto 7 dX5_firstAs_30 (by decide) ?_
        exact ih (i + 1) _ _ hI.minR (by omega) (by omega) (by omega) (by omega)
set_option maxRecDepth 100000 in
set_option maxHeartbeats 4000000 in
theorem c_X5_firstAs {G : GX} {S : St} {r : Row} {b : Int} (hI : IR b r) (hb : b ≤ 900000) {w v k : Int} (hw : 0 ≤ w ∧ w < 41) (hr : ∀ b r, IR b r → inR (r w)) (hv : inR v) (hk : 0 ≤ k ∧ k ≤ 1000) : Ev G mX5_firstAs [rf G 31, vi w, vi v, vi k] (mk G (va_up S 9 r)) (some (vi (ft (at_ w v) (k + 1).toNat 0 r).1)) (mk G (va_up (va_up S 12 r) 9 r)) := by
  refine Ev.enter (by decide +kernel) (Nat.le_of_ble_eq_true rfl) (L := [some (rf G 31), some (vi w), some (vi v), some (vi k), none]) rfl ?_
  refine p_oload0 dX5_firstAs_0 ?_
  refine p_cV0v (M2 := mX5_laysAside) ml_RX5_151 mc_X5_laysAside ⟨Nat.le_of_ble_eq_true rfl, Nat.le_of_ble_eq_true rfl⟩ (isO_m _ _) (Nat.le_of_ble_eq_true rfl) dX5_firstAs_1 (c_X5_laysAside) ?_
  refine p_iconst dX5_firstAs_4 ?_
  refine p_istore4 rfl (Nat.le_of_ble_eq_true rfl) dX5_firstAs_5 ?_
  have h := l_X5_firstAs (G := G) (S := S) (a := r) hw hr hv hk 1002 0 r b hI (by omega) (by omega) (by omega) (by omega)
  rw [Int.sub_zero] at h
  exact h
theorem aq_sum {r : Row} : ∀ (n : Nat) (p a : Int), (∀ q, p ≤ q → q < p + n → 0 ≤ r (18 + 3 * q)) → 0 ≤ a → (lsum (wnt r) n p a ≤ 0 ↔ a = 0 ∧ aq n p r = true) := by
  intro n
  induction n with
  | zero => intro p a _ ha; rw [lsum, aq]; constructor <;> intro h <;> simp at * <;> omega
  | succ n ih =>
    intro p a h ha
    have h1 := h p (by omega) (by omega)
    have h2 := ih (p + 1) (a + wnt r p) (fun q a c => h q (by omega) (by omega)) (by unfold wnt; omega)
    rw [lsum, aq, h2]
    unfold wnt
    by_cases q : r (18 + 3 * p) = 0
    · rw [if_pos q, q]; constructor
      · intro x; exact ⟨by omega, x.2⟩
      · intro x; exact ⟨by omega, x.2⟩
    · rw [if_neg q]; constructor
      · intro x; omega
      · intro x; exact absurd x.2 (by decide)
theorem qt_sum {b : Int} {r : Row} (h : IR b r) : (wsm r ≤ 0 ↔ qt r = true) := by
  have h0 := h.1
  have h1 := aq_sum (r := r) (r 0).toNat 0 0 (fun q a c => (h.2.2.2.2.2.2 q a (by omega)).2.2.1) (by omega)
  unfold wsm qt
  rw [h1]
  simp
set_option maxRecDepth 100000 in
set_option maxHeartbeats 4000000 in
theorem l_X5_quietIn {G : GX} {S : St} {a : Row} {k : Int} (hk : 0 ≤ k ∧ k ≤ 1000) : ∀ (n : Nat) (i : Int) (r : Row) (b : Int), IR b r → b ≤ 900000 + i → 0 ≤ i → i ≤ k + 1 → k + 1 - i < (n : Int) → Rn G mX5_quietIn 6 [some (rf G 31), some (vi k), some (vi i)] [] (mk G (va_up (va_up S 12 a) 9 r)) (some (vi (ft qt (k + 1 - i).toNat i r).1)) (mk G (va_up (va_up S 12 a) 9 a)) := by
  intro n
  induction n with
  | zero =>
    intro i r b hI hb h0 h1 h2
    exfalso
    omega
  | succ n ih =>
    intro i r b hI hb h0 h1 h2
    push_cast at h2
    have hws := wsm_le hI
    refine p_iload2 dX5_quietIn_6 ?_
    refine p_iload1 dX5_quietIn_7 ?_
    refine p_icmp_gt ⟨by omega, by omega⟩ ⟨by omega, by omega⟩ 29 dX5_quietIn_8 (by decide) (fun c8 => ?_) (fun c8 => ?_)
    · rw [show (k + 1 - i).toNat = 0 by omega, ft, show i = k + 1 by omega]
      refine p_oload0 dX5_quietIn_29 ?_
      refine p_iload2 dX5_quietIn_30 ?_
      refine p_cV1r (M2 := mX5_takesBack) ml_RX5_154 mc_X5_takesBack ⟨Nat.le_of_ble_eq_true rfl, Nat.le_of_ble_eq_true rfl⟩ (isO_m _ _) (Nat.le_of_ble_eq_true rfl) dX5_quietIn_31 (c_X5_takesBack) ?_
      exact p_iret rfl dX5_quietIn_34 rfl rfl
    · rw [show (k + 1 - i).toNat = (k + 1 - (i + 1)).toNat + 1 by omega, ft]
      refine p_oload0 dX5_quietIn_11 ?_
      refine p_iconst dX5_quietIn_12 ?_
      refine p_cV1r (M2 := mX5_together) ml_RX5_142 mc_X5_together ⟨Nat.le_of_ble_eq_true rfl, Nat.le_of_ble_eq_true rfl⟩ (isO_m _ _) (Nat.le_of_ble_eq_true rfl) dX5_quietIn_13 (c_X5_together1 hI) ?_
      refine p_if_le ⟨by omega, by omega⟩ 29 dX5_quietIn_16 (by decide) (fun c16 => ?_) (fun c16 => ?_)
      · rw [if_pos ((qt_sum hI).mp c16)]
        refine p_oload0 dX5_quietIn_29 ?_
        refine p_iload2 dX5_quietIn_30 ?_
        refine p_cV1r (M2 := mX5_takesBack) ml_RX5_154 mc_X5_takesBack ⟨Nat.le_of_ble_eq_true rfl, Nat.le_of_ble_eq_true rfl⟩ (isO_m _ _) (Nat.le_of_ble_eq_true rfl) dX5_quietIn_31 (c_X5_takesBack) ?_
        exact p_iret rfl dX5_quietIn_34 rfl rfl
      · rw [if_neg (fun q => c16 ((qt_sum hI).mpr q))]
        refine p_oload0 dX5_quietIn_19 ?_
        refine p_cV0v (M2 := mX5_minute) ml_RX5_128 mc_X5_minute ⟨Nat.le_of_ble_eq_true rfl, Nat.le_of_ble_eq_true rfl⟩ (isO_m _ _) (Nat.le_of_ble_eq_true rfl) dX5_quietIn_20 (c_X5_minute hI (by omega)) ?_
        refine p_iinc2 rfl (Nat.le_of_ble_eq_true rfl) dX5_quietIn_23 ?_
        refine p_goto 6 dX5_quietIn_26 (by decide) ?_
        exact ih (i + 1) _ _ hI.minR (by omega) (by omega) (by omega) (by omega)
set_option maxRecDepth 100000 in
set_option maxHeartbeats 4000000 in
theorem c_X5_quietIn {G : GX} {S : St} {r : Row} {b : Int} (hI : IR b r) (hb : b ≤ 900000) {k : Int} (hk : 0 ≤ k ∧ k ≤ 1000) : Ev G mX5_quietIn [rf G 31, vi k] (mk G (va_up S 9 r)) (some (vi (ft qt (k + 1).toNat 0 r).1)) (mk G (va_up (va_up S 12 r) 9 r)) := by
  refine Ev.enter (by decide +kernel) (Nat.le_of_ble_eq_true rfl) (L := [some (rf G 31), some (vi k), none]) rfl ?_
  refine p_oload0 dX5_quietIn_0 ?_
  refine p_cV0v (M2 := mX5_laysAside) ml_RX5_151 mc_X5_laysAside ⟨Nat.le_of_ble_eq_true rfl, Nat.le_of_ble_eq_true rfl⟩ (isO_m _ _) (Nat.le_of_ble_eq_true rfl) dX5_quietIn_1 (c_X5_laysAside) ?_
  refine p_iconst dX5_quietIn_4 ?_
  refine p_istore2 rfl (Nat.le_of_ble_eq_true rfl) dX5_quietIn_5 ?_
  have h := l_X5_quietIn (G := G) (S := S) (a := r) hk 1002 0 r b hI (by omega) (by omega) (by omega) (by omega)
  rw [Int.sub_zero] at h
  exact h
theorem m_v {G : GX} {M : MI} {pc : Nat} {L : LL} {S : St} {a v : Int} {X r : Row} (e : a = v) (hx : -1000000000 ≤ a) (er : X = r) (hr : M.2.2.2.1 = some .int) (hd : decode M.2.1 pc = .ok (.ireturn, 1)) : Rn G M pc L [vi a] (mk G (va_up S 9 X)) (some (vi v)) (mk G (va_up (va_up S 13 (tl (S 13) v)) 9 r)) := by
  subst e; subst er
  exact p_iret hr hd rfl (by rw [tl_no hx, vup_same])
theorem m_f {G : GX} {M : MI} {pc : Nat} {L : LL} {S : St} {a v : Int} {X r : Row} (e : a = v) (er : X = r) (hr : M.2.2.2.1 = some .int) (hd : decode M.2.1 pc = .ok (.ireturn, 1)) : Rn G M pc L [vi a] (mk G (va_up (va_up S 13 (tl (S 13) a)) 9 X)) (some (vi v)) (mk G (va_up (va_up S 13 (tl (S 13) v)) 9 r)) := by
  subst e; subst er
  exact p_iret hr hd rfl rfl
set_option maxRecDepth 100000 in
set_option maxHeartbeats 4000000 in
theorem c_X5_orNone {G : GX} {S : St} {r : Row} {k n : Int} (hk : 0 ≤ k ∧ k ≤ 1000) (hn : 0 ≤ n ∧ n ≤ 1000) : Ev G mX5_orNone [rf G 31, vi k, vi n] (mk G (va_up S 9 r)) (some (vi (orN k n))) (mk G (va_up (va_up S 13 (tl (S 13) (orN k n))) 9 r)) := by
  refine Ev.enter (by decide +kernel) (Nat.le_of_ble_eq_true rfl) (L := [some (rf G 31), some (vi k), some (vi n)]) rfl ?_
  refine p_iload1 dX5_orNone_0 ?_
  refine p_iload2 dX5_orNone_1 ?_
  refine p_icmp_le ⟨by omega, by omega⟩ ⟨by omega, by omega⟩ 14 dX5_orNone_2 (by decide) (fun c2 => ?_) (fun c2 => ?_)
  · rw [show orN k n = k by unfold orN; rw [if_pos c2]]
    refine p_iload1 dX5_orNone_14 ?_
    exact m_v rfl (by omega) rfl rfl dX5_orNone_15
  · rw [show orN k n = -1000000004 by unfold orN; rw [if_neg c2]]
    refine p_oload0 dX5_orNone_5 ?_
    refine p_ldc wc_RX5_80 dX5_orNone_6 ?_
    refine p_cV1r (M2 := mX5_finds) ml_RX5_61 mc_X5_finds ⟨Nat.le_of_ble_eq_true rfl, Nat.le_of_ble_eq_true rfl⟩ (isO_m _ _) (Nat.le_of_ble_eq_true rfl) dX5_orNone_8 (c_X5_finds (by omega)) ?_
    refine p_goto 15 dX5_orNone_11 (by decide) ?_
    exact m_f rfl rfl rfl dX5_orNone_15
def m2 (t : Row) (x y : Int) : Row := uz (uz t 1 x) 2 y
theorem m2_1 (t : Row) (x y : Int) : m2 t x y 1 = x := by unfold m2; rw [uz_ne _ _ (by omega), uz_self]
theorem m2_2 (t : Row) (x y : Int) : m2 t x y 2 = y := by unfold m2; rw [uz_self]
theorem y_gb {G : GX} {S : St} {t r : Row} {x y : Int} : fld (mk G (va_up (va_up S 14 (m2 t x y)) 9 r)) 31 4 6 (vi x) := by
  have h : fld (mk G (va_up (va_up S 14 (m2 t x y)) 9 r)) 31 4 6 (vi (m2 t x y 1)) := gm_best
  rwa [m2_1] at h
theorem y_gs {G : GX} {S : St} {t r : Row} {x y : Int} : fld (mk G (va_up (va_up S 14 (m2 t x y)) 9 r)) 31 4 7 (vi y) := by
  have h : fld (mk G (va_up (va_up S 14 (m2 t x y)) 9 r)) 31 4 7 (vi (m2 t x y 2)) := gm_soonest
  rwa [m2_2] at h
theorem y_pb0 {G : GX} {S : St} {t r : Row} {v : Int} : put (mk G (va_up (va_up S 14 t) 9 r)) 31 4 6 (vi v) (mk G (va_up (va_up S 14 (uz t 1 v)) 9 r)) := ⟨by decide, _, rfl, Nat.le_of_ble_eq_true rfl, mk_set (by decide) rfl⟩
theorem y_ps0 {G : GX} {S : St} {t r : Row} {v : Int} : put (mk G (va_up (va_up S 14 t) 9 r)) 31 4 7 (vi v) (mk G (va_up (va_up S 14 (uz t 2 v)) 9 r)) := ⟨by decide, _, rfl, Nat.le_of_ble_eq_true rfl, mk_set (by decide) rfl⟩
theorem y_pb {G : GX} {S : St} {t r : Row} {x y v : Int} : put (mk G (va_up (va_up S 14 (m2 t x y)) 9 r)) 31 4 6 (vi v) (mk G (va_up (va_up S 14 (m2 t v y)) 9 r)) := by
  have h := y_pb0 (G := G) (S := S) (t := m2 t x y) (r := r) (v := v)
  rw [show uz (m2 t x y) 1 v = m2 t v y by unfold m2; rw [uz_swap _ (by omega), uz_uz]] at h
  exact h
theorem y_ps {G : GX} {S : St} {t r : Row} {x y v : Int} : put (mk G (va_up (va_up S 14 (m2 t x y)) 9 r)) 31 4 7 (vi v) (mk G (va_up (va_up S 14 (m2 t x v)) 9 r)) := by
  have h := y_ps0 (G := G) (S := S) (t := m2 t x y) (r := r) (v := v)
  rw [show uz (m2 t x y) 2 v = m2 t x v by unfold m2; rw [uz_uz]] at h
  exact h
set_option maxRecDepth 100000 in
set_option maxHeartbeats 4000000 in
theorem c_X5_begins {G : GX} {S : St} {t r : Row} {k : Int} : Ev G mX5_begins [rf G 31, vi k] (mk G (va_up (va_up S 14 t) 9 r)) none (mk G (va_up (va_up S 14 (m2 t (-1) k)) 9 r)) := by
  refine Ev.enter (by decide +kernel) (Nat.le_of_ble_eq_true rfl) (L := [some (rf G 31), some (vi k)]) rfl ?_
  refine p_oload0 dX5_begins_0 ?_
  refine p_iconst dX5_begins_1 ?_
  refine p_put fw_RX5_170 rfl rfl y_pb0 dX5_begins_2 ?_
  refine p_oload0 dX5_begins_5 ?_
  refine p_iload1 dX5_begins_6 ?_
  refine p_put fw_RX5_174 rfl rfl y_ps0 dX5_begins_7 ?_
  exact p_vret rfl dX5_begins_10 rfl rfl
set_option maxRecDepth 100000 in
set_option maxHeartbeats 4000000 in
theorem c_X5_tries {G : GX} {S : St} {t r : Row} {x y v k : Int} (hk : inR k) (hy : inR y) : Ev G mX5_tries [rf G 31, vi v, vi k] (mk G (va_up (va_up S 14 (m2 t x y)) 9 r)) none (mk G (va_up (va_up S 14 (m2 t (tri (x, y) v k).1 (tri (x, y) v k).2)) 9 r)) := by
  refine Ev.enter (by decide +kernel) (Nat.le_of_ble_eq_true rfl) (L := [some (rf G 31), some (vi v), some (vi k)]) rfl ?_
  refine p_oload0 dX5_tries_0 ?_
  refine p_iload2 dX5_tries_1 ?_
  refine p_oload0 dX5_tries_2 ?_
  refine p_get fl_RX5_174 y_gs dX5_tries_3 ?_
  refine p_icmp_ge hk hy 13 dX5_tries_6 (by decide) (fun c6 => ?_) (fun c6 => ?_)
  · rw [show tri (x, y) v k = (x, y) by unfold tri; rw [if_neg (by show ¬ k < y; omega)]]
    refine p_oload0 dX5_tries_13 ?_
    refine p_get fl_RX5_170 y_gb dX5_tries_14 ?_
    refine p_put fw_RX5_170 rfl rfl y_pb dX5_tries_17 ?_
    refine p_oload0 dX5_tries_20 ?_
    refine p_iload2 dX5_tries_21 ?_
    refine p_oload0 dX5_tries_22 ?_
    refine p_get fl_RX5_174 y_gs dX5_tries_23 ?_
    refine p_icmp_ge hk hy 33 dX5_tries_26 (by decide) (fun c26 => ?_) (fun c26 => ?_)
    · refine p_oload0 dX5_tries_33 ?_
      refine p_get fl_RX5_174 y_gs dX5_tries_34 ?_
      refine p_put fw_RX5_174 rfl rfl y_ps dX5_tries_37 ?_
      exact p_vret rfl dX5_tries_40 rfl rfl
    · refine p_iload2 dX5_tries_29 ?_
      refine p_goto 37 dX5_tries_30 (by decide) ?_
      refine p_put fw_RX5_174 rfl rfl y_ps dX5_tries_37 ?_
      exact p_vret rfl dX5_tries_40 rfl (absurd c26 (by omega))
  · rw [show tri (x, y) v k = (v, k) by unfold tri; rw [if_pos (by show k < y; omega)]]
    refine p_iload1 dX5_tries_9 ?_
    refine p_goto 17 dX5_tries_10 (by decide) ?_
    refine p_put fw_RX5_170 rfl rfl y_pb dX5_tries_17 ?_
    refine p_oload0 dX5_tries_20 ?_
    refine p_iload2 dX5_tries_21 ?_
    refine p_oload0 dX5_tries_22 ?_
    refine p_get fl_RX5_174 y_gs dX5_tries_23 ?_
    refine p_icmp_ge hk hy 33 dX5_tries_26 (by decide) (fun c26 => ?_) (fun c26 => ?_)
    · refine p_oload0 dX5_tries_33 ?_
      refine p_get fl_RX5_174 y_gs dX5_tries_34 ?_
      refine p_put fw_RX5_174 rfl rfl y_ps dX5_tries_37 ?_
      exact p_vret rfl dX5_tries_40 rfl (absurd c26 (by omega))
    · refine p_iload2 dX5_tries_29 ?_
      refine p_goto 37 dX5_tries_30 (by decide) ?_
      refine p_put fw_RX5_174 rfl rfl y_ps dX5_tries_37 ?_
      exact p_vret rfl dX5_tries_40 rfl rfl
set_option maxRecDepth 100000 in
set_option maxHeartbeats 4000000 in
theorem c_X5_bestOrNone {G : GX} {S : St} {t r : Row} {x y : Int} (hx : -1 ≤ x ∧ x ≤ 1000) : Ev G mX5_bestOrNone [rf G 31] (mk G (va_up (va_up S 14 (m2 t x y)) 9 r)) (some (vi (nn x))) (mk G (va_up (va_up (va_up S 14 (m2 t x y)) 13 (tl (S 13) (nn x))) 9 r)) := by
  refine Ev.enter (by decide +kernel) (Nat.le_of_ble_eq_true rfl) (L := [some (rf G 31)]) rfl ?_
  refine p_oload0 dX5_bestOrNone_0 ?_
  refine p_get fl_RX5_170 y_gb dX5_bestOrNone_1 ?_
  refine p_if_ge ⟨by omega, by omega⟩ 16 dX5_bestOrNone_4 (by decide) (fun c4 => ?_) (fun c4 => ?_)
  · rw [show nn x = x by unfold nn; rw [if_neg (by omega)]]
    refine p_oload0 dX5_bestOrNone_16 ?_
    refine p_get fl_RX5_170 y_gb dX5_bestOrNone_17 ?_
    exact m_v (S := va_up S 14 (m2 t x y)) rfl (by omega) rfl rfl dX5_bestOrNone_20
  · rw [show nn x = -1000000004 by unfold nn; rw [if_pos (by omega)]]
    refine p_oload0 dX5_bestOrNone_7 ?_
    refine p_ldc wc_RX5_80 dX5_bestOrNone_8 ?_
    refine p_cV1r (M2 := mX5_finds) ml_RX5_61 mc_X5_finds ⟨Nat.le_of_ble_eq_true rfl, Nat.le_of_ble_eq_true rfl⟩ (isO_m _ _) (Nat.le_of_ble_eq_true rfl) dX5_bestOrNone_10 (c_X5_finds (by omega)) ?_
    refine p_goto 20 dX5_bestOrNone_13 (by decide) ?_
    exact m_f (S := va_up S 14 (m2 t x y)) rfl rfl rfl dX5_bestOrNone_20
