set_option maxRecDepth 100000 in
set_option maxHeartbeats 4000000 in
theorem c_X4_sheet {G : GX} {S : St} (hb6 : ∀ q : Fin 4, inR (S 6 q)) {s w k : Int} (h_s : inR s) (h_w : inR w) (h_k : inR k) : Ev G mX4_sheet [rf G 0, vi s, vi w, vi k] (mk G S) (some (vi (v_sheet s w k))) (mk G (if okS s w k then va_up (va_up (va_up S 6 (uz (S 6) s w)) 7 (uz (S 7) s (if w = 0 then 0 else k))) 8 (zer (S 8) s) else va_up S 5 (tl (S 5) (v_sheet s w k)))) := by
  have h_w2 := h_w
  obtain ⟨s1, s2⟩ := h_s; obtain ⟨w1, w2⟩ := h_w; obtain ⟨k1, k2⟩ := h_k
  refine Ev.enter (by decide +kernel) (Nat.le_of_ble_eq_true rfl) (L := [some (rf G 0), some (vi s), some (vi w), some (vi k)]) rfl ?_
  refine p_oload0 dX4_sheet_0 ?_
  refine p_iload1 dX4_sheet_1 ?_
  refine p_cV1r (M2 := mX4_isSheet) ml_RX4_201 mc_X4_isSheet ⟨Nat.le_of_ble_eq_true rfl, Nat.le_of_ble_eq_true rfl⟩ (isO_x _ _) (Nat.le_of_ble_eq_true rfl) dX4_sheet_2 (c_X4_isSheet ⟨by omega, by omega⟩) ?_
  refine p_bif_eq 19 dX4_sheet_5 (by decide) (fun c5 => ?_) (fun c5 => ?_)
  · refine p_oload0 dX4_sheet_19 ?_
    refine p_ldc wc_RX4_44 dX4_sheet_20 ?_
    refine p_cV1r (M2 := mX4_tell) ml_RX4_45 mc_X4_tell ⟨Nat.le_of_ble_eq_true rfl, Nat.le_of_ble_eq_true rfl⟩ (isO_x _ _) (Nat.le_of_ble_eq_true rfl) dX4_sheet_22 (c_X4_tell (by omega)) ?_
    exact p_iret rfl dX4_sheet_25 (congrArg (fun z => some (vi z)) (by unfold v_sheet; (try split) <;> (try split) <;> (try split) <;> (try split) <;> (try split) <;> (try split) <;> (try split) <;> omega)) (by rw [if_neg (by omega)]; exact congrArg (fun z => mk G (va_up S 5 (tl (S 5) z))) (by unfold v_sheet; (try split) <;> (try split) <;> (try split) <;> (try split) <;> (try split) <;> (try split) <;> (try split) <;> omega))
  · refine p_iload2 dX4_sheet_8 ?_
    refine p_cS1r (M2 := mX2_isWidth) ms_RX4_204 mc_X2_isWidth ⟨Nat.le_of_ble_eq_true rfl, Nat.le_of_ble_eq_true rfl⟩ (Nat.le_of_ble_eq_true rfl) dX4_sheet_9 (c_X2_isWidth h_w2) ?_
    refine p_bif_ne 26 dX4_sheet_12 (by decide) (fun c12 => ?_) (fun c12 => ?_)
    · refine p_iload3 dX4_sheet_26 ?_
      refine p_if_ge ⟨by omega, by omega⟩ 37 dX4_sheet_27 (by decide) (fun c27 => ?_) (fun c27 => ?_)
      · refine p_iload3 dX4_sheet_37 ?_
        refine p_bipush (by decide) (by decide) dX4_sheet_38 ?_
        refine p_icmp_le ⟨by omega, by omega⟩ ⟨by omega, by omega⟩ 50 dX4_sheet_40 (by decide) (fun c40 => ?_) (fun c40 => ?_)
        · obtain ⟨q, hq⟩ := q4 (v := s) (by omega)
          subst hq
          refine p_oload0 dX4_sheet_50 ?_
          refine p_get fl_RX4_32 gx_sheets dX4_sheet_51 ?_
          refine p_iload1 dX4_sheet_54 ?_
          refine p_qald ql_sheets (by omega) (by omega) (w := so q) (by simp [so]) dX4_sheet_55 ?_
          refine p_iload2 dX4_sheet_56 ?_
          refine p_iload3 dX4_sheet_57 ?_
          refine p_cV2v (M2 := mX2_ruleAnew) ml_RX4_208 mc_X2_ruleAnew ⟨Nat.le_of_ble_eq_true rfl, Nat.le_of_ble_eq_true rfl⟩ (isO_so _ _ _) (Nat.le_of_ble_eq_true rfl) dX4_sheet_58 (c_X2_ruleAnew (q := q) h_w2) ?_
          refine p_oload0 dX4_sheet_61 ?_
          refine p_get fl_RX4_32 gx_sheets dX4_sheet_62 ?_
          refine p_iload1 dX4_sheet_65 ?_
          refine p_qald ql_sheets (by omega) (by omega) (w := so q) (by simp [so]) dX4_sheet_66 ?_
          refine p_get fl_RX4_211 gs_length dX4_sheet_67 ?_
          exact p_iret rfl dX4_sheet_70 (congrArg (fun z => some (vi z)) (by show uz (S 7) (q : Int) (if w = 0 then 0 else k) q = _; rw [uz_self]; unfold v_sheet; (try split) <;> (try split) <;> (try split) <;> (try split) <;> (try split) <;> (try split) <;> (try split) <;> omega)) (congrArg (mk G) (if_pos (show okS (q : Int) w k by omega)).symm)
        · refine p_oload0 dX4_sheet_43 ?_
          refine p_ldc wc_RX4_44 dX4_sheet_44 ?_
          refine p_cV1r (M2 := mX4_tell) ml_RX4_45 mc_X4_tell ⟨Nat.le_of_ble_eq_true rfl, Nat.le_of_ble_eq_true rfl⟩ (isO_x _ _) (Nat.le_of_ble_eq_true rfl) dX4_sheet_46 (c_X4_tell (by omega)) ?_
          exact p_iret rfl dX4_sheet_49 (congrArg (fun z => some (vi z)) (by unfold v_sheet; (try split) <;> (try split) <;> (try split) <;> (try split) <;> (try split) <;> (try split) <;> (try split) <;> omega)) (by rw [if_neg (by omega)]; exact congrArg (fun z => mk G (va_up S 5 (tl (S 5) z))) (by unfold v_sheet; (try split) <;> (try split) <;> (try split) <;> (try split) <;> (try split) <;> (try split) <;> (try split) <;> omega))
      · refine p_oload0 dX4_sheet_30 ?_
        refine p_ldc wc_RX4_207 dX4_sheet_31 ?_
        refine p_cV1r (M2 := mX4_tell) ml_RX4_45 mc_X4_tell ⟨Nat.le_of_ble_eq_true rfl, Nat.le_of_ble_eq_true rfl⟩ (isO_x _ _) (Nat.le_of_ble_eq_true rfl) dX4_sheet_33 (c_X4_tell (by omega)) ?_
        exact p_iret rfl dX4_sheet_36 (congrArg (fun z => some (vi z)) (by unfold v_sheet; (try split) <;> (try split) <;> (try split) <;> (try split) <;> (try split) <;> (try split) <;> (try split) <;> omega)) (by rw [if_neg (by omega)]; exact congrArg (fun z => mk G (va_up S 5 (tl (S 5) z))) (by unfold v_sheet; (try split) <;> (try split) <;> (try split) <;> (try split) <;> (try split) <;> (try split) <;> (try split) <;> omega))
    · refine p_iload2 dX4_sheet_15 ?_
      refine p_if_eq ⟨by omega, by omega⟩ 26 dX4_sheet_16 (by decide) (fun c16 => ?_) (fun c16 => ?_)
      · refine p_iload3 dX4_sheet_26 ?_
        refine p_if_ge ⟨by omega, by omega⟩ 37 dX4_sheet_27 (by decide) (fun c27 => ?_) (fun c27 => ?_)
        · refine p_iload3 dX4_sheet_37 ?_
          refine p_bipush (by decide) (by decide) dX4_sheet_38 ?_
          refine p_icmp_le ⟨by omega, by omega⟩ ⟨by omega, by omega⟩ 50 dX4_sheet_40 (by decide) (fun c40 => ?_) (fun c40 => ?_)
          · obtain ⟨q, hq⟩ := q4 (v := s) (by omega)
            subst hq
            refine p_oload0 dX4_sheet_50 ?_
            refine p_get fl_RX4_32 gx_sheets dX4_sheet_51 ?_
            refine p_iload1 dX4_sheet_54 ?_
            refine p_qald ql_sheets (by omega) (by omega) (w := so q) (by simp [so]) dX4_sheet_55 ?_
            refine p_iload2 dX4_sheet_56 ?_
            refine p_iload3 dX4_sheet_57 ?_
            refine p_cV2v (M2 := mX2_ruleAnew) ml_RX4_208 mc_X2_ruleAnew ⟨Nat.le_of_ble_eq_true rfl, Nat.le_of_ble_eq_true rfl⟩ (isO_so _ _ _) (Nat.le_of_ble_eq_true rfl) dX4_sheet_58 (c_X2_ruleAnew (q := q) h_w2) ?_
            refine p_oload0 dX4_sheet_61 ?_
            refine p_get fl_RX4_32 gx_sheets dX4_sheet_62 ?_
            refine p_iload1 dX4_sheet_65 ?_
            refine p_qald ql_sheets (by omega) (by omega) (w := so q) (by simp [so]) dX4_sheet_66 ?_
            refine p_get fl_RX4_211 gs_length dX4_sheet_67 ?_
            exact p_iret rfl dX4_sheet_70 (congrArg (fun z => some (vi z)) (by show uz (S 7) (q : Int) (if w = 0 then 0 else k) q = _; rw [uz_self]; unfold v_sheet; (try split) <;> (try split) <;> (try split) <;> (try split) <;> (try split) <;> (try split) <;> (try split) <;> omega)) (congrArg (mk G) (if_pos (show okS (q : Int) w k by omega)).symm)
          · refine p_oload0 dX4_sheet_43 ?_
            refine p_ldc wc_RX4_44 dX4_sheet_44 ?_
            refine p_cV1r (M2 := mX4_tell) ml_RX4_45 mc_X4_tell ⟨Nat.le_of_ble_eq_true rfl, Nat.le_of_ble_eq_true rfl⟩ (isO_x _ _) (Nat.le_of_ble_eq_true rfl) dX4_sheet_46 (c_X4_tell (by omega)) ?_
            exact p_iret rfl dX4_sheet_49 (congrArg (fun z => some (vi z)) (by unfold v_sheet; (try split) <;> (try split) <;> (try split) <;> (try split) <;> (try split) <;> (try split) <;> (try split) <;> omega)) (by rw [if_neg (by omega)]; exact congrArg (fun z => mk G (va_up S 5 (tl (S 5) z))) (by unfold v_sheet; (try split) <;> (try split) <;> (try split) <;> (try split) <;> (try split) <;> (try split) <;> (try split) <;> omega))
        · refine p_oload0 dX4_sheet_30 ?_
          refine p_ldc wc_RX4_207 dX4_sheet_31 ?_
          refine p_cV1r (M2 := mX4_tell) ml_RX4_45 mc_X4_tell ⟨Nat.le_of_ble_eq_true rfl, Nat.le_of_ble_eq_true rfl⟩ (isO_x _ _) (Nat.le_of_ble_eq_true rfl) dX4_sheet_33 (c_X4_tell (by omega)) ?_
          exact p_iret rfl dX4_sheet_36 (congrArg (fun z => some (vi z)) (by unfold v_sheet; (try split) <;> (try split) <;> (try split) <;> (try split) <;> (try split) <;> (try split) <;> (try split) <;> omega)) (by rw [if_neg (by omega)]; exact congrArg (fun z => mk G (va_up S 5 (tl (S 5) z))) (by unfold v_sheet; (try split) <;> (try split) <;> (try split) <;> (try split) <;> (try split) <;> (try split) <;> (try split) <;> omega))
      · refine p_oload0 dX4_sheet_19 ?_
        refine p_ldc wc_RX4_44 dX4_sheet_20 ?_
        refine p_cV1r (M2 := mX4_tell) ml_RX4_45 mc_X4_tell ⟨Nat.le_of_ble_eq_true rfl, Nat.le_of_ble_eq_true rfl⟩ (isO_x _ _) (Nat.le_of_ble_eq_true rfl) dX4_sheet_22 (c_X4_tell (by omega)) ?_
        exact p_iret rfl dX4_sheet_25 (congrArg (fun z => some (vi z)) (by unfold v_sheet; (try split) <;> (try split) <;> (try split) <;> (try split) <;> (try split) <;> (try split) <;> (try split) <;> omega)) (by rw [if_neg (by omega)]; exact congrArg (fun z => mk G (va_up S 5 (tl (S 5) z))) (by unfold v_sheet; (try split) <;> (try split) <;> (try split) <;> (try split) <;> (try split) <;> (try split) <;> (try split) <;> omega))
set_option maxRecDepth 100000 in
set_option maxHeartbeats 4000000 in
theorem c_X4_write {G : GX} {S : St} (hb6 : ∀ q : Fin 4, inR (S 6 q)) (hle : ∀ q : Fin 4, 0 ≤ S 7 q ∧ S 7 q ≤ 40) {s i v : Int} (h_s : inR s) (h_i : inR i) : Ev G mX4_write [rf G 0, vi s, vi i, vl v] (mk G S) (some (vl (v_write (S 6) (S 7) (S 8) s i))) (mk G (va_up (va_up S 5 (t_write (S 5) (S 6) (S 7) s i)) 8 (n_write (S 6) (S 7) (S 8) s i v))) := by
  obtain ⟨s1, s2⟩ := h_s; obtain ⟨i1, i2⟩ := h_i
  have hms : mS (S 6) s = (if 0 ≤ s ∧ s ≤ 3 then (if S 6 s = 0 then -1000000006 else 0) else -1000000001) := rfl
  have hmr : mS (S 6) s = 0 ∨ mS (S 6) s = -1000000001 ∨ mS (S 6) s = -1000000006 := by unfold mS; split <;> (try split) <;> omega
  refine Ev.enter (by decide +kernel) (Nat.le_of_ble_eq_true rfl) (L := [some (rf G 0), some (vi s), some (vi i), some (vl v), none, none, none, none]) rfl ?_
  refine p_oload0 dX4_write_0 ?_
  refine p_iload1 dX4_write_1 ?_
  refine p_cV1r (M2 := mX4_missingSheet) ml_RX4_212 mc_X4_missingSheet ⟨Nat.le_of_ble_eq_true rfl, Nat.le_of_ble_eq_true rfl⟩ (isO_x _ _) (Nat.le_of_ble_eq_true rfl) dX4_write_2 (c_X4_missingSheet ⟨by omega, by omega⟩ hb6) ?_
  rw [← hms]
  refine p_istore5 rfl (Nat.le_of_ble_eq_true rfl) dX4_write_5 ?_
  refine p_iload5 dX4_write_7 ?_
  refine p_if_eq ⟨by omega, by omega⟩ 20 dX4_write_9 (by decide) (fun c9 => ?_) (fun c9 => ?_)
  · have hv3 : 0 ≤ s ∧ s ≤ 3 := by unfold mS at c9; split at c9 <;> omega
    obtain ⟨q, hq⟩ := q4 (v := s) (by omega)
    subst hq
    have hlq := hle q; have h6q := hb6 q; have hqq := q.isLt
    refine p_iload2 dX4_write_20 ?_
    refine p_iconst dX4_write_21 ?_
    refine p_oload0 dX4_write_22 ?_
    refine p_get fl_RX4_32 gx_sheets dX4_write_23 ?_
    refine p_iload1 dX4_write_26 ?_
    refine p_qald ql_sheets (by omega) (by omega) (w := so q) (by simp [so]) dX4_write_27 ?_
    refine p_get fl_RX4_211 gs_length dX4_write_28 ?_
    refine p_iconst dX4_write_31 ?_
    refine p_isub dX4_write_32 ?_
    refine p_cS3r (M2 := mX4_isWithin) ms_RX4_67 mc_X4_isWithin ⟨Nat.le_of_ble_eq_true rfl, Nat.le_of_ble_eq_true rfl⟩ (Nat.le_of_ble_eq_true rfl) dX4_write_33 (c_X4_isWithin ⟨by omega, by omega⟩ ⟨by omega, by omega⟩ ⟨by omega, by omega⟩) ?_
    refine p_bif_ne 47 dX4_write_36 (by decide) (fun c36 => ?_) (fun c36 => ?_)
    · refine p_oload0 dX4_write_47 ?_
      refine p_get fl_RX4_32 gx_sheets dX4_write_48 ?_
      refine p_iload1 dX4_write_51 ?_
      refine p_qald ql_sheets (by omega) (by omega) (w := so q) (by simp [so]) dX4_write_52 ?_
      refine p_get fl_RX4_215 gs_numbers dX4_write_53 ?_
      refine p_iload2 dX4_write_56 ?_
      refine p_jald al_numbers (by omega) (by omega) dX4_write_57 ?_
      refine p_lstore6 rfl (Nat.le_of_ble_eq_true rfl) dX4_write_58 ?_
      refine p_oload0 dX4_write_60 ?_
      refine p_get fl_RX4_32 gx_sheets dX4_write_61 ?_
      refine p_iload1 dX4_write_64 ?_
      refine p_qald ql_sheets (by omega) (by omega) (w := so q) (by simp [so]) dX4_write_65 ?_
      refine p_iload2 dX4_write_66 ?_
      refine p_lload3 dX4_write_67 ?_
      refine p_cV2v (M2 := mX2_put) ml_RX4_219 mc_X2_put ⟨Nat.le_of_ble_eq_true rfl, Nat.le_of_ble_eq_true rfl⟩ (isO_so _ _ _) (Nat.le_of_ble_eq_true rfl) dX4_write_68 (c_X2_put (q := q) (by omega) (by omega) (hb6 q)) ?_
      refine p_lload6 dX4_write_71 ?_
      exact p_lret rfl dX4_write_73 (congrArg (fun z => some (vl z)) (by unfold v_write; rw [if_pos c9, if_pos (by omega)])) (by unfold t_write n_write; rw [if_pos c9, if_pos (by omega), if_pos (by omega), vup_same])
    · refine p_oload0 dX4_write_39 ?_
      refine p_ldc wc_RX4_44 dX4_write_40 ?_
      refine p_cV1r (M2 := mX4_tell) ml_RX4_45 mc_X4_tell ⟨Nat.le_of_ble_eq_true rfl, Nat.le_of_ble_eq_true rfl⟩ (isO_x _ _) (Nat.le_of_ble_eq_true rfl) dX4_write_42 (c_X4_tell (by omega)) ?_
      refine p_i2l ⟨by omega, by omega⟩ dX4_write_45 ?_
      exact p_lret rfl dX4_write_46 (congrArg (fun z => some (vl z)) (by unfold v_write; rw [if_pos c9, if_neg (by omega)])) (by unfold t_write n_write; rw [if_pos c9, if_neg (by omega), if_neg (by omega)]; exact congrArg (mk G) (vup_same (va_up S 5 _) 8).symm)
  · refine p_oload0 dX4_write_12 ?_
    refine p_iload5 dX4_write_13 ?_
    refine p_cV1r (M2 := mX4_tell) ml_RX4_45 mc_X4_tell ⟨Nat.le_of_ble_eq_true rfl, Nat.le_of_ble_eq_true rfl⟩ (isO_x _ _) (Nat.le_of_ble_eq_true rfl) dX4_write_15 (c_X4_tell (by omega)) ?_
    refine p_i2l ⟨by omega, by omega⟩ dX4_write_18 ?_
    exact p_lret rfl dX4_write_19 (congrArg (fun z => some (vl z)) (by unfold v_write; rw [if_neg c9])) (by unfold t_write n_write; rw [if_neg c9, if_neg (by omega)]; exact congrArg (mk G) (vup_same (va_up S 5 _) 8).symm)
theorem mk_copy {G : GX} {S : St} {a c : Fin 4} {f o k : Int} (hf : 0 ≤ f) (ho : 0 ≤ o) (hk : 0 ≤ k) (h1 : f + k ≤ 40) (h2 : o + k ≤ 40) : va_up (mk G S) (sn c) (ja G 40 (cpz (fun k => S 8 (40 * a + k)) (fun k => S 8 (40 * c + k)) f o k)) = mk G (va_up S 8 (cpz (S 8) (S 8) (40 * a + f) (40 * c + o) k)) := by
  refine mk_nu (ja_congr G fun i h0 h4 => ?_) (fun q hq => ja_congr G fun i h0 h4 => ?_)
  · unfold cpz
    by_cases c1 : o ≤ i ∧ i < o + k
    · rw [if_pos c1, if_pos (by omega)]; show S 8 _ = S 8 _; congr 1; omega
    · rw [if_neg c1, if_neg (by omega)]
  · unfold cpz
    rw [if_neg]
    have := c.isLt; have := q.isLt
    have hne : (q : Nat) ≠ c := fun e => hq (Fin.ext e)
    omega
theorem q_cf {G : GX} {M : MI} {pc : Nat} {L : LL} {S : St} {a v : Int} {r : Row} (e : a = v) (er : r = S 8) (hr : M.2.2.2.1 = some .int) (hd : decode M.2.1 pc = .ok (.ireturn, 1)) : Rn G M pc L [vi a] (mk G (va_up S 5 (tl (S 5) a))) (some (vi v)) (mk G (va_up (va_up S 5 (tl (S 5) v)) 8 r)) := by
  subst e; subst er
  exact p_iret hr hd rfl (congrArg (mk G) (vup_same (va_up S 5 _) 8).symm)
theorem q_cg {G : GX} {M : MI} {pc : Nat} {L : LL} {S : St} {a v : Int} {X r : Row} (e : a = v) (hx : -1000000000 ≤ a) (er : r = X) (hr : M.2.2.2.1 = some .int) (hd : decode M.2.1 pc = .ok (.ireturn, 1)) : Rn G M pc L [vi a] (mk G (va_up S 8 X)) (some (vi v)) (mk G (va_up (va_up S 5 (tl (S 5) v)) 8 r)) := by
  subst e; subst er
  exact p_iret hr hd rfl (by rw [tl_no hx, vup_same])
set_option maxRecDepth 100000 in
set_option maxHeartbeats 4000000 in
theorem c_X4_copy {G : GX} {S : St} (hb6 : ∀ q : Fin 4, inR (S 6 q)) (hle : ∀ q : Fin 4, 0 ≤ S 7 q ∧ S 7 q ≤ 40) {s f t o k : Int} (h_s : inR s) (h_f : inR f) (h_t : inR t) (h_o : inR o) (h_k : inR k) : Ev G mX4_copy [rf G 0, vi s, vi f, vi t, vi o, vi k] (mk G S) (some (vi (v_copy (S 6) (S 7) s f t o k))) (mk G (va_up (va_up S 5 (tl (S 5) (v_copy (S 6) (S 7) s f t o k))) 8 (n_copy (S 6) (S 7) (S 8) s f t o k))) := by
  obtain ⟨s1, s2⟩ := h_s; obtain ⟨f1, f2⟩ := h_f; obtain ⟨t1, t2⟩ := h_t; obtain ⟨o1, o2⟩ := h_o; obtain ⟨k1, k2⟩ := h_k
  refine Ev.enter (by decide +kernel) (Nat.le_of_ble_eq_true rfl) (L := [some (rf G 0), some (vi s), some (vi f), some (vi t), some (vi o), some (vi k), none, none]) rfl ?_
  refine p_oload0 dX4_copy_0 ?_
  refine p_iload1 dX4_copy_1 ?_
  refine p_cV1r (M2 := mX4_isSheet) ml_RX4_201 mc_X4_isSheet ⟨Nat.le_of_ble_eq_true rfl, Nat.le_of_ble_eq_true rfl⟩ (isO_x _ _) (Nat.le_of_ble_eq_true rfl) dX4_copy_2 (c_X4_isSheet ⟨by omega, by omega⟩) ?_
  refine p_bif_eq 16 dX4_copy_5 (by decide) (fun c5 => ?_) (fun c5 => ?_)
  · refine p_oload0 dX4_copy_16 ?_
    refine p_ldc wc_RX4_44 dX4_copy_17 ?_
    refine p_cV1r (M2 := mX4_tell) ml_RX4_45 mc_X4_tell ⟨Nat.le_of_ble_eq_true rfl, Nat.le_of_ble_eq_true rfl⟩ (isO_x _ _) (Nat.le_of_ble_eq_true rfl) dX4_copy_19 (c_X4_tell (by omega)) ?_
    exact q_cf (by unfold v_copy; (try split) <;> (try split) <;> (try split) <;> (try split) <;> (try split) <;> (try split) <;> (try split) <;> omega) (by unfold n_copy; rw [if_neg (by omega)]) rfl dX4_copy_22
  · refine p_oload0 dX4_copy_8 ?_
    refine p_iload3 dX4_copy_9 ?_
    refine p_cV1r (M2 := mX4_isSheet) ml_RX4_201 mc_X4_isSheet ⟨Nat.le_of_ble_eq_true rfl, Nat.le_of_ble_eq_true rfl⟩ (isO_x _ _) (Nat.le_of_ble_eq_true rfl) dX4_copy_10 (c_X4_isSheet ⟨by omega, by omega⟩) ?_
    refine p_bif_ne 23 dX4_copy_13 (by decide) (fun c13 => ?_) (fun c13 => ?_)
    · obtain ⟨q, hq⟩ := q4 (v := s) (by omega)
      subst hq
      obtain ⟨q2, hq2⟩ := q4 (v := t) (by omega)
      subst hq2
      have hlq := hle q; have hlq2 := hle q2
      obtain ⟨j1, j2⟩ := hb6 q; obtain ⟨j3, j4⟩ := hb6 q2
      refine p_oload0 dX4_copy_23 ?_
      refine p_get fl_RX4_32 gx_sheets dX4_copy_24 ?_
      refine p_iload1 dX4_copy_27 ?_
      refine p_qald ql_sheets (by omega) (by omega) (w := so q) (by simp [so]) dX4_copy_28 ?_
      refine p_ostore6 rfl (Nat.le_of_ble_eq_true rfl) dX4_copy_29 ?_
      refine p_oload0 dX4_copy_31 ?_
      refine p_get fl_RX4_32 gx_sheets dX4_copy_32 ?_
      refine p_iload3 dX4_copy_35 ?_
      refine p_qald ql_sheets (by omega) (by omega) (w := so q2) (by simp [so]) dX4_copy_36 ?_
      refine p_ostore7 rfl (Nat.le_of_ble_eq_true rfl) dX4_copy_37 ?_
      refine p_oload6 dX4_copy_39 ?_
      refine p_cV0r (M2 := mX2_isMissing) ml_RX4_223 mc_X2_isMissing ⟨Nat.le_of_ble_eq_true rfl, Nat.le_of_ble_eq_true rfl⟩ (isO_so _ _ _) (Nat.le_of_ble_eq_true rfl) dX4_copy_41 (c_X2_isMissing (q := q) (hb6 q)) ?_
      refine p_bif_ne 55 dX4_copy_44 (by decide) (fun c44 => ?_) (fun c44 => ?_)
      · refine p_oload0 dX4_copy_55 ?_
        refine p_ldc wc_RX4_226 dX4_copy_56 ?_
        refine p_cV1r (M2 := mX4_tell) ml_RX4_45 mc_X4_tell ⟨Nat.le_of_ble_eq_true rfl, Nat.le_of_ble_eq_true rfl⟩ (isO_x _ _) (Nat.le_of_ble_eq_true rfl) dX4_copy_58 (c_X4_tell (by omega)) ?_
        exact q_cf (by unfold v_copy; (try split) <;> (try split) <;> (try split) <;> (try split) <;> (try split) <;> (try split) <;> (try split) <;> omega) (by unfold n_copy; rw [if_neg (by omega)]) rfl dX4_copy_61
      · refine p_oload7 dX4_copy_47 ?_
        refine p_cV0r (M2 := mX2_isMissing) ml_RX4_223 mc_X2_isMissing ⟨Nat.le_of_ble_eq_true rfl, Nat.le_of_ble_eq_true rfl⟩ (isO_so _ _ _) (Nat.le_of_ble_eq_true rfl) dX4_copy_49 (c_X2_isMissing (q := q2) (hb6 q2)) ?_
        refine p_bif_eq 62 dX4_copy_52 (by decide) (fun c52 => ?_) (fun c52 => ?_)
        · refine p_oload6 dX4_copy_62 ?_
          refine p_get fl_RX4_227 gs_bits dX4_copy_64 ?_
          refine p_oload7 dX4_copy_67 ?_
          refine p_get fl_RX4_227 gs_bits dX4_copy_69 ?_
          refine p_icmp_eq ⟨by omega, by omega⟩ ⟨by omega, by omega⟩ 82 dX4_copy_72 (by decide) (fun c72 => ?_) (fun c72 => ?_)
          · refine p_oload6 dX4_copy_82 ?_
            refine p_iload2 dX4_copy_84 ?_
            refine p_iload5 dX4_copy_85 ?_
            refine p_cV2r (M2 := mX2_hasRun) ml_RX4_230 mc_X2_hasRun ⟨Nat.le_of_ble_eq_true rfl, Nat.le_of_ble_eq_true rfl⟩ (isO_so _ _ _) (Nat.le_of_ble_eq_true rfl) dX4_copy_87 (c_X2_hasRun (q := q) ⟨by omega, by omega⟩ ⟨by omega, by omega⟩ (by omega)) ?_
            refine p_bif_eq 105 dX4_copy_90 (by decide) (fun c90 => ?_) (fun c90 => ?_)
            · refine p_oload0 dX4_copy_105 ?_
              refine p_ldc wc_RX4_44 dX4_copy_106 ?_
              refine p_cV1r (M2 := mX4_tell) ml_RX4_45 mc_X4_tell ⟨Nat.le_of_ble_eq_true rfl, Nat.le_of_ble_eq_true rfl⟩ (isO_x _ _) (Nat.le_of_ble_eq_true rfl) dX4_copy_108 (c_X4_tell (by omega)) ?_
              exact q_cf (by unfold v_copy; (try split) <;> (try split) <;> (try split) <;> (try split) <;> (try split) <;> (try split) <;> (try split) <;> omega) (by unfold n_copy; rw [if_neg (by omega)]) rfl dX4_copy_111
            · refine p_oload7 dX4_copy_93 ?_
              refine p_iload4 dX4_copy_95 ?_
              refine p_iload5 dX4_copy_97 ?_
              refine p_cV2r (M2 := mX2_hasRun) ml_RX4_230 mc_X2_hasRun ⟨Nat.le_of_ble_eq_true rfl, Nat.le_of_ble_eq_true rfl⟩ (isO_so _ _ _) (Nat.le_of_ble_eq_true rfl) dX4_copy_99 (c_X2_hasRun (q := q2) ⟨by omega, by omega⟩ ⟨by omega, by omega⟩ (by omega)) ?_
              refine p_bif_ne 112 dX4_copy_102 (by decide) (fun c102 => ?_) (fun c102 => ?_)
              · refine p_oload6 dX4_copy_112 ?_
                refine p_get fl_RX4_215 gs_numbers dX4_copy_114 ?_
                refine p_iload2 dX4_copy_117 ?_
                refine p_oload7 dX4_copy_118 ?_
                refine p_get fl_RX4_215 gs_numbers dX4_copy_120 ?_
                refine p_iload4 dX4_copy_123 ?_
                refine p_iload5 dX4_copy_125 ?_
                refine p_acopy wt3_114 wt3_116 wt3_115 wt1_13 (al_numbers (j := q)) (al_numbers (j := q2)) (by omega) (by omega) (by omega) (by omega) (by omega) (mk_copy (by omega) (by omega) (by omega) (by omega) (by omega)) (Nat.le_of_ble_eq_true rfl) (Nat.le_of_ble_eq_true rfl) dX4_copy_127 ?_
                refine p_iload5 dX4_copy_130 ?_
                exact q_cg (by unfold v_copy; (try split) <;> (try split) <;> (try split) <;> (try split) <;> (try split) <;> (try split) <;> (try split) <;> omega) (by omega) (by unfold n_copy; rw [if_pos (by omega)]) rfl dX4_copy_132
              · refine p_oload0 dX4_copy_105 ?_
                refine p_ldc wc_RX4_44 dX4_copy_106 ?_
                refine p_cV1r (M2 := mX4_tell) ml_RX4_45 mc_X4_tell ⟨Nat.le_of_ble_eq_true rfl, Nat.le_of_ble_eq_true rfl⟩ (isO_x _ _) (Nat.le_of_ble_eq_true rfl) dX4_copy_108 (c_X4_tell (by omega)) ?_
                exact q_cf (by unfold v_copy; (try split) <;> (try split) <;> (try split) <;> (try split) <;> (try split) <;> (try split) <;> (try split) <;> omega) (by unfold n_copy; rw [if_neg (by omega)]) rfl dX4_copy_111
          · refine p_oload0 dX4_copy_75 ?_
            refine p_ldc wc_RX4_118 dX4_copy_76 ?_
            refine p_cV1r (M2 := mX4_tell) ml_RX4_45 mc_X4_tell ⟨Nat.le_of_ble_eq_true rfl, Nat.le_of_ble_eq_true rfl⟩ (isO_x _ _) (Nat.le_of_ble_eq_true rfl) dX4_copy_78 (c_X4_tell (by omega)) ?_
            exact q_cf (by unfold v_copy; (try split) <;> (try split) <;> (try split) <;> (try split) <;> (try split) <;> (try split) <;> (try split) <;> omega) (by unfold n_copy; rw [if_neg (by omega)]) rfl dX4_copy_81
        · refine p_oload0 dX4_copy_55 ?_
          refine p_ldc wc_RX4_226 dX4_copy_56 ?_
          refine p_cV1r (M2 := mX4_tell) ml_RX4_45 mc_X4_tell ⟨Nat.le_of_ble_eq_true rfl, Nat.le_of_ble_eq_true rfl⟩ (isO_x _ _) (Nat.le_of_ble_eq_true rfl) dX4_copy_58 (c_X4_tell (by omega)) ?_
          exact q_cf (by unfold v_copy; (try split) <;> (try split) <;> (try split) <;> (try split) <;> (try split) <;> (try split) <;> (try split) <;> omega) (by unfold n_copy; rw [if_neg (by omega)]) rfl dX4_copy_61
    · refine p_oload0 dX4_copy_16 ?_
      refine p_ldc wc_RX4_44 dX4_copy_17 ?_
      refine p_cV1r (M2 := mX4_tell) ml_RX4_45 mc_X4_tell ⟨Nat.le_of_ble_eq_true rfl, Nat.le_of_ble_eq_true rfl⟩ (isO_x _ _) (Nat.le_of_ble_eq_true rfl) dX4_copy_19 (c_X4_tell (by omega)) ?_
      exact q_cf (by unfold v_copy; (try split) <;> (try split) <;> (try split) <;> (try split) <;> (try split) <;> (try split) <;> (try split) <;> omega) (by unfold n_copy; rw [if_neg (by omega)]) rfl dX4_copy_22
theorem y_len0 {G : GX} {S : St} {r : Row} {q : Fin 4} : fld (mk G (va_up S 0 r)) (so q) 1 1 (vi (S 7 q)) := gs_length
theorem y_num0 {G : GX} {S : St} {r : Row} {q : Fin 4} : fld (mk G (va_up S 0 r)) (so q) 1 2 (rf G (sn q)) := gs_numbers
theorem y_aln0 {G : GX} {S : St} {r : Row} {q : Fin 4} : jld G (mk G (va_up S 0 r)) (sn q) 40 (fun k => S 8 (40 * q + k)) := al_numbers
theorem y_cnt0 {G : GX} {S : St} {r : Row} : fld (mk G (va_up S 0 r)) (fo 0) 0 6 (vi (r 0)) := gf_sheepCount (j := 0)
theorem y_wan0 {G : GX} {S : St} {r : Row} : fld (mk G (va_up S 0 r)) (fo 0) 0 8 (rf G (fn 0)) := gf_wants (j := 0)
theorem y_alw0 {G : GX} {S : St} {r : Row} : ald G (mk G (va_up S 0 r)) (fn 0) 8 (fun i => r (18 + 3 * i)) := al_wants (j := 0)
theorem y_asw0 {G : GX} {S : St} {r : Row} {m v : Int} (h0 : 0 ≤ m) (hm : m < 8) : va_up (mk G (va_up S 0 r)) (fn 0) (ia G 8 (uz (fun i => r (18 + 3 * i)) m v)) = mk G (va_up S 0 (uz r (18 + 3 * m) v)) := asq_wants (j := 0) h0 hm
theorem y_len1 {G : GX} {S : St} {r : Row} {q : Fin 4} : fld (mk G (va_up S 1 r)) (so q) 1 1 (vi (S 7 q)) := gs_length
theorem y_num1 {G : GX} {S : St} {r : Row} {q : Fin 4} : fld (mk G (va_up S 1 r)) (so q) 1 2 (rf G (sn q)) := gs_numbers
theorem y_aln1 {G : GX} {S : St} {r : Row} {q : Fin 4} : jld G (mk G (va_up S 1 r)) (sn q) 40 (fun k => S 8 (40 * q + k)) := al_numbers
set_option maxRecDepth 100000 in
set_option maxHeartbeats 4000000 in
theorem l_X4_lays {G : GX} {S : St} {q : Fin 4} {f0 : Int} (hle : ∀ q : Fin 4, 0 ≤ S 7 q ∧ S 7 q ≤ 40) (hnu : ∀ i, 0 ≤ i → i < 160 → inL (S 8 i)) : ∀ (n : Nat) (i : Int) (r : Row) (a : Int) (b : Int), IR b r → 0 ≤ a ∧ a ≤ i → 0 ≤ i → i ≤ (if S 7 q < r 0 then S 7 q else r 0) → (if S 7 q < r 0 then S 7 q else r 0) - i < (n : Int) → Rn G mX4_lays 29 [some (rf G 0), some (vi q), some (vi f0), some (rf G (so q)), some (vi a), some (vi i), none, none] [] (mk G (va_up S 0 r)) (some (vi (lyL (fun k => S 8 (40 * q + k)) ((if S 7 q < r 0 then S 7 q else r 0) - i).toNat i r a).2)) (mk G (va_up S 0 (lyL (fun k => S 8 (40 * q + k)) ((if S 7 q < r 0 then S 7 q else r 0) - i).toNat i r a).1)) := by
  intro n
  induction n with
  | zero =>
    intro i r a b hI ha h0 h1 h2
    exfalso
    omega
  | succ n ih =>
    intro i r a b hI ha h0 h1 h2
    push_cast at h2
    have hlq := hle q; have i0 := hI.1; have hqq := q.isLt
    refine p_iload5 dX4_lays_29 ?_
    refine p_oload3 dX4_lays_31 ?_
    refine p_get fl_RX4_211 y_len0 dX4_lays_32 ?_
    refine p_icmp_ge ⟨by omega, by omega⟩ ⟨by omega, by omega⟩ 97 dX4_lays_35 (by decide) (fun c35 => ?_) (fun c35 => ?_)
    · rw [show ((if S 7 q < r 0 then S 7 q else r 0) - i).toNat = 0 by split at h1 <;> split <;> omega]
      refine p_iload4 dX4_lays_97 ?_
      exact p_iret rfl dX4_lays_99 rfl rfl
    · refine p_iload5 dX4_lays_38 ?_
      refine p_oload0 dX4_lays_40 ?_
      refine p_get fl_RX4_10 gx_fold dX4_lays_41 ?_
      refine p_get fl_RX4_181 y_cnt0 dX4_lays_44 ?_
      refine p_icmp_ge ⟨by omega, by omega⟩ ⟨by omega, by omega⟩ 97 dX4_lays_47 (by decide) (fun c47 => ?_) (fun c47 => ?_)
      · rw [show ((if S 7 q < r 0 then S 7 q else r 0) - i).toNat = 0 by split at h1 <;> split <;> omega]
        refine p_iload4 dX4_lays_97 ?_
        exact p_iret rfl dX4_lays_99 rfl rfl
      · have hlt : i < (if S 7 q < r 0 then S 7 q else r 0) := by split <;> omega
        rw [show ((if S 7 q < r 0 then S 7 q else r 0) - i).toNat = ((if S 7 q < r 0 then S 7 q else r 0) - (i + 1)).toNat + 1 by omega, lyL]
        have hn := hnu (40 * q + i) (by omega) (by omega)
        refine p_oload3 dX4_lays_50 ?_
        refine p_get fl_RX4_215 y_num0 dX4_lays_51 ?_
        refine p_iload5 dX4_lays_54 ?_
        refine p_jald y_aln0 (by omega) (by omega) dX4_lays_56 ?_
        refine p_lstore6 rfl (Nat.le_of_ble_eq_true rfl) dX4_lays_57 ?_
        refine p_lload6 dX4_lays_59 ?_
        refine p_lconst0 dX4_lays_61 ?_
        refine p_lc_lt hn ⟨by omega, by omega⟩ 91 dX4_lays_62 dX4_lays_63 (by decide) (fun c62 => ?_) (fun c62 => ?_)
        · rw [if_neg (by omega)]
          refine p_iinc5 rfl (Nat.le_of_ble_eq_true rfl) dX4_lays_91 ?_
          refine p_goto 29 dX4_lays_94 (by decide) ?_
          exact Rn.kp (ih (i + 1) r a b hI (by omega) (by omega) (by omega) (by omega)) ⟨rfl, rfl, rfl, rfl, rfl, rfl, trivial⟩
        · refine p_lload6 dX4_lays_66 ?_
          refine p_ldc2 wc_RX4_239 dX4_lays_68 ?_
          refine p_lc_gt hn ⟨by omega, by omega⟩ 91 dX4_lays_71 dX4_lays_72 (by decide) (fun c71 => ?_) (fun c71 => ?_)
          · rw [if_neg (by omega)]
            refine p_iinc5 rfl (Nat.le_of_ble_eq_true rfl) dX4_lays_91 ?_
            refine p_goto 29 dX4_lays_94 (by decide) ?_
            exact Rn.kp (ih (i + 1) r a b hI (by omega) (by omega) (by omega) (by omega)) ⟨rfl, rfl, rfl, rfl, rfl, rfl, trivial⟩
          · rw [if_pos (by omega)]
            refine p_oload0 dX4_lays_75 ?_
            refine p_get fl_RX4_10 gx_fold dX4_lays_76 ?_
            refine p_get fl_RX4_99 y_wan0 dX4_lays_79 ?_
            refine p_iload5 dX4_lays_82 ?_
            refine p_lload6 dX4_lays_84 ?_
            refine p_l2i dX4_lays_86 ?_
            refine p_iast y_alw0 (by omega) (by omega) (y_asw0 (by omega) (by omega)) dX4_lays_87 ?_
            refine p_iinc4 rfl (Nat.le_of_ble_eq_true rfl) dX4_lays_88 ?_
            refine p_iinc5 rfl (Nat.le_of_ble_eq_true rfl) dX4_lays_91 ?_
            refine p_goto 29 dX4_lays_94 (by decide) ?_
            have h := ih (i + 1) (uz r (18 + 3 * i) (S 8 (40 * q + i))) (a + 1) b (hI.wants h0 (by omega)) (by omega) (by omega) (by rw [uz_ne _ _ (by omega)]; omega) (by rw [uz_ne _ _ (by omega)]; omega)
            rw [uz_ne (j := 0) _ _ (by omega)] at h
            exact Rn.kp h ⟨rfl, rfl, rfl, rfl, rfl, rfl, trivial⟩
theorem lyL_le (f : Int → Int) : ∀ (n : Nat) (k : Int) (r : Row) (c : Int), c ≤ (lyL f n k r c).2 ∧ (lyL f n k r c).2 ≤ c + n := by
  intro n
  induction n with
  | zero => intro k r c; rw [lyL]; simp
  | succ n ih =>
    intro k r c
    rw [lyL]
    split
    · have := ih (k + 1) (uz r (18 + 3 * k) (f k)) (c + 1); omega
    · have := ih (k + 1) r c; omega
set_option maxRecDepth 100000 in
set_option maxHeartbeats 4000000 in
theorem c_X4_lays {G : GX} {S : St} {b : Int} (hI : IR b (S 0)) (hb : b ≤ 99999) (hb6 : ∀ q : Fin 4, inR (S 6 q)) (hle : ∀ q : Fin 4, 0 ≤ S 7 q ∧ S 7 q ≤ 40) (hnu : ∀ i, 0 ≤ i → i < 160 → inL (S 8 i)) {s : Int} (h_s : inR s) : Ev G mX4_lays [rf G 0, vi s] (mk G S) (some (vi (v_lays (S 0) (S 6) (S 7) (S 8) s))) (mk G (va_up (va_up S 5 (tl (S 5) (v_lays (S 0) (S 6) (S 7) (S 8) s))) 0 (r_lays (S 0) (S 6) (S 7) (S 8) s))) := by
  have i0 := hI.1; have i1 := hI.2.1; have i2 := hI.2.2.1; have i3 := hI.2.2.2.1; have i4 := hI.2.2.2.2.1
  obtain ⟨s1, s2⟩ := h_s
  have hms : mS (S 6) s = (if 0 ≤ s ∧ s ≤ 3 then (if S 6 s = 0 then -1000000006 else 0) else -1000000001) := rfl
  have hmr : mS (S 6) s = 0 ∨ mS (S 6) s = -1000000001 ∨ mS (S 6) s = -1000000006 := by unfold mS; split <;> (try split) <;> omega
  refine Ev.enter (by decide +kernel) (Nat.le_of_ble_eq_true rfl) (L := [some (rf G 0), some (vi s), none, none, none, none, none, none]) rfl ?_
  refine p_oload0 dX4_lays_0 ?_
  refine p_iload1 dX4_lays_1 ?_
  refine p_cV1r (M2 := mX4_missingSheet) ml_RX4_212 mc_X4_missingSheet ⟨Nat.le_of_ble_eq_true rfl, Nat.le_of_ble_eq_true rfl⟩ (isO_x _ _) (Nat.le_of_ble_eq_true rfl) dX4_lays_2 (c_X4_missingSheet ⟨by omega, by omega⟩ hb6) ?_
  rw [← hms]
  refine p_istore2 rfl (Nat.le_of_ble_eq_true rfl) dX4_lays_5 ?_
  refine p_iload2 dX4_lays_6 ?_
  refine p_if_eq ⟨by omega, by omega⟩ 16 dX4_lays_7 (by decide) (fun c7 => ?_) (fun c7 => ?_)
  · have hv3 : 0 ≤ s ∧ s ≤ 3 := by unfold mS at c7; split at c7 <;> omega
    obtain ⟨q, hq⟩ := q4 (v := s) (by omega)
    subst hq
    refine p_oload0 dX4_lays_16 ?_
    refine p_get fl_RX4_32 gx_sheets dX4_lays_17 ?_
    refine p_iload1 dX4_lays_20 ?_
    refine p_qald ql_sheets (by omega) (by omega) (w := so q) (by simp [so]) dX4_lays_21 ?_
    refine p_ostore3 rfl (Nat.le_of_ble_eq_true rfl) dX4_lays_22 ?_
    refine p_iconst dX4_lays_23 ?_
    refine p_istore4 rfl (Nat.le_of_ble_eq_true rfl) dX4_lays_24 ?_
    refine p_iconst dX4_lays_26 ?_
    refine p_istore5 rfl (Nat.le_of_ble_eq_true rfl) dX4_lays_27 ?_
    have hlq := hle q
    have h := l_X4_lays (G := G) (S := S) (q := q) (f0 := mS (S 6) q) hle hnu 9 0 (S 0) 0 b hI (by omega) (by omega) (by split <;> omega) (by split <;> omega)
    rw [Int.sub_zero, vup_same] at h
    have hb2 := lyL_le (fun k => S 8 (40 * q + k)) (lyn (S 0) (S 7) q) 0 (S 0) 0
    rw [show v_lays (S 0) (S 6) (S 7) (S 8) q = (lyL (fun k => S 8 (40 * q + k)) (lyn (S 0) (S 7) q) 0 (S 0) 0).2 from by unfold v_lays; rw [if_pos c7], show r_lays (S 0) (S 6) (S 7) (S 8) q = (lyL (fun k => S 8 (40 * q + k)) (lyn (S 0) (S 7) q) 0 (S 0) 0).1 from by unfold r_lays; rw [if_pos c7], tl_no (by omega), vup_same]
    exact h
  · refine p_oload0 dX4_lays_10 ?_
    refine p_iload2 dX4_lays_11 ?_
    refine p_cV1r (M2 := mX4_tell) ml_RX4_45 mc_X4_tell ⟨Nat.le_of_ble_eq_true rfl, Nat.le_of_ble_eq_true rfl⟩ (isO_x _ _) (Nat.le_of_ble_eq_true rfl) dX4_lays_12 (c_X4_tell (by omega)) ?_
    exact q_fg (by unfold v_lays; rw [if_neg c7]) (by unfold r_lays; rw [if_neg c7]) rfl dX4_lays_15
theorem c_put2 {G : GX} {S : St} {q : Fin 4} {t f : Row} {i v : Int} (h0 : 0 ≤ i) (h1 : i < 40) (hb : inR (S 6 q)) : Ev G mX2_put [rf G (so q), vi i, vl v] (mk G (va_up (va_up S 1 t) 8 f)) none (mk G (va_up (va_up S 1 t) 8 (uz f (40 * q + i) (nr (S 6 q) v)))) := by
  have h := c_X2_put (G := G) (S := va_up (va_up S 1 t) 8 f) (q := q) (i := i) (v := v) h0 h1 hb
  rw [show va_up (va_up (va_up S 1 t) 8 f) 8 (uz ((va_up (va_up S 1 t) 8 f) 8) (40 * q + i) (nr ((va_up (va_up S 1 t) 8 f) 6 q) v)) = va_up (va_up S 1 t) 8 (uz f (40 * q + i) (nr (S 6 q) v)) from vup_up (va_up S 1 t) 8 f _] at h
  exact h
theorem c_play2 {G : GX} {S : St} {t f : Row} {b : Int} (hI : IR b t) (hb : b ≤ 900000) : Ev G mX0_play [rf G (fo 1), vi 1] (mk G (va_up (va_up S 1 t) 8 f)) none (mk G (va_up (va_up S 1 (minR t)) 8 f)) := by
  have h := c1_play (G := G) (S := va_up S 8 f) (r := t) hI hb (k := 1) (by omega)
  rw [vup_swap S (by decide : (8 : Nat) ≠ 1) f t, show va_up (va_up S 8 f) 1 (minsR (1 : Int).toNat t) = va_up (va_up S 1 (minR t)) 8 f from vup_swap S (by decide : (8 : Nat) ≠ 1) f (minR t)] at h
  exact h
theorem g1w {G : GX} {S : St} {t f : Row} : fld (mk G (va_up (va_up S 1 t) 8 f)) (fo 1) 0 8 (rf G (fn 1)) := gf_wants (j := 1)
theorem al1w {G : GX} {S : St} {t f : Row} : ald G (mk G (va_up (va_up S 1 t) 8 f)) (fn 1) 8 (fun i => t (18 + 3 * i)) := al_wants (j := 1)
theorem gsl2 {G : GX} {S : St} {t f : Row} {q : Fin 4} : fld (mk G (va_up (va_up S 1 t) 8 f)) (so q) 1 1 (vi (S 7 q)) := gs_length
set_option maxRecDepth 100000 in
set_option maxHeartbeats 4000000 in
theorem l_X4_book {G : GX} {S : St} (hb6 : ∀ q : Fin 4, inR (S 6 q)) (hle : ∀ q : Fin 4, 0 ≤ S 7 q ∧ S 7 q ≤ 40) {q : Fin 4} {p f0 : Int} (hp : 0 ≤ p ∧ p < 8) : ∀ (n : Nat) (i : Int) (t f : Row) (b : Int), IR b t → b ≤ 100000 + i → 0 ≤ i → i ≤ S 7 q → S 7 q - i < (n : Int) → Rn G mX4_book 49 [some (rf G 0), some (vi q), some (vi p), some (vi f0), some (rf G (so q)), some (vi i)] [] (mk G (va_up (va_up S 1 t) 8 f)) (some (vi (S 7 q))) (mk G (va_up (va_up S 1 (minsR (S 7 q - i).toNat t)) 8 (bkL (S 6 q) p q (S 7 q - i).toNat i t f))) := by
  intro n
  induction n with
  | zero =>
    intro i t f b hI hb h0 h1 h2
    exfalso
    omega
  | succ n ih =>
    intro i t f b hI hb h0 h1 h2
    push_cast at h2
    have hlq := hle q
    refine p_iload5 dX4_book_49 ?_
    refine p_oload4 dX4_book_51 ?_
    refine p_get fl_RX4_211 gsl2 dX4_book_53 ?_
    refine p_icmp_ge ⟨by omega, by omega⟩ ⟨by omega, by omega⟩ 90 dX4_book_56 (by decide) (fun c56 => ?_) (fun c56 => ?_)
    · rw [show (S 7 q - i).toNat = 0 by omega]
      refine p_oload4 dX4_book_90 ?_
      refine p_get fl_RX4_211 gsl2 dX4_book_92 ?_
      exact p_iret rfl dX4_book_95 rfl rfl
    · have i6 := hI.2.2.2.2.2.2 p hp.1 hp.2
      rw [show (S 7 q - i).toNat = (S 7 q - (i + 1)).toNat + 1 by omega, minsR, bkL]
      refine p_oload4 dX4_book_59 ?_
      refine p_iload5 dX4_book_61 ?_
      refine p_oload0 dX4_book_63 ?_
      refine p_get fl_RX4_16 gx_trial dX4_book_64 ?_
      refine p_get fl_RX4_99 g1w dX4_book_67 ?_
      refine p_iload2 dX4_book_70 ?_
      refine p_iald al1w (by omega) (by omega) dX4_book_71 ?_
      refine p_i2l ⟨by omega, by omega⟩ dX4_book_72 ?_
      refine p_cV2v (M2 := mX2_put) ml_RX4_219 mc_X2_put ⟨Nat.le_of_ble_eq_true rfl, Nat.le_of_ble_eq_true rfl⟩ (isO_so _ _ _) (Nat.le_of_ble_eq_true rfl) dX4_book_73 (c_put2 h0 (by omega) (hb6 q)) ?_
      refine p_oload0 dX4_book_76 ?_
      refine p_get fl_RX4_16 gx_trial dX4_book_77 ?_
      refine p_iconst dX4_book_80 ?_
      refine p_cV1v (M2 := mX0_play) ml_RX4_134 mc_X0_play ⟨Nat.le_of_ble_eq_true rfl, Nat.le_of_ble_eq_true rfl⟩ (isO_fo _ _ _) (Nat.le_of_ble_eq_true rfl) dX4_book_81 (c_play2 hI (by omega)) ?_
      refine p_iinc5 rfl (Nat.le_of_ble_eq_true rfl) dX4_book_84 ?_
      refine p_goto 49 dX4_book_87 (by decide) ?_
      exact ih (i + 1) _ _ (b + 1) hI.minR (by omega) (by omega) (by omega) (by omega)
set_option maxRecDepth 100000 in
set_option maxHeartbeats 4000000 in
theorem c_X4_book {G : GX} {S : St} {b : Int} (hI : IR b (S 0)) (hb : b ≤ 99999) (hb6 : ∀ q : Fin 4, inR (S 6 q)) (hle : ∀ q : Fin 4, 0 ≤ S 7 q ∧ S 7 q ≤ 40) {s p : Int} (h_s : inR s) (h_p : inR p) : Ev G mX4_book [rf G 0, vi s, vi p] (mk G S) (some (vi (v_book (S 0) (S 6) (S 7) s p))) (mk G (if mB (S 0) (S 6) s p = 0 then va_up (va_up S 1 (minsR (S 7 s).toNat (S 0))) 8 (n_book (S 0) (S 6) (S 7) (S 8) s p) else va_up S 5 (tl (S 5) (mB (S 0) (S 6) s p)))) := by
  have i0 := hI.1; have i1 := hI.2.1; have i2 := hI.2.2.1; have i3 := hI.2.2.2.1; have i4 := hI.2.2.2.2.1
  obtain ⟨s1, s2⟩ := h_s; obtain ⟨p1, p2⟩ := h_p
  have hms : mS (S 6) s = (if 0 ≤ s ∧ s ≤ 3 then (if S 6 s = 0 then -1000000006 else 0) else -1000000001) := rfl
  have hmr : mS (S 6) s = 0 ∨ mS (S 6) s = -1000000001 ∨ mS (S 6) s = -1000000006 := by unfold mS; split <;> (try split) <;> omega
  refine Ev.enter (by decide +kernel) (Nat.le_of_ble_eq_true rfl) (L := [some (rf G 0), some (vi s), some (vi p), none, none, none]) rfl ?_
  refine p_oload0 dX4_book_0 ?_
  refine p_iload1 dX4_book_1 ?_
  refine p_cV1r (M2 := mX4_missingSheet) ml_RX4_212 mc_X4_missingSheet ⟨Nat.le_of_ble_eq_true rfl, Nat.le_of_ble_eq_true rfl⟩ (isO_x _ _) (Nat.le_of_ble_eq_true rfl) dX4_book_2 (c_X4_missingSheet ⟨by omega, by omega⟩ hb6) ?_
  rw [← hms]
  refine p_istore3 rfl (Nat.le_of_ble_eq_true rfl) dX4_book_5 ?_
  refine p_iload3 dX4_book_6 ?_
  refine p_if_eq ⟨by omega, by omega⟩ 16 dX4_book_7 (by decide) (fun c7 => ?_) (fun c7 => ?_)
  · refine p_oload0 dX4_book_16 ?_
    refine p_get fl_RX4_10 gx_fold dX4_book_17 ?_
    refine p_iload2 dX4_book_20 ?_
    refine p_cV1r (M2 := mX0_hasSheep) ml_RX4_93 mc_X0_hasSheep ⟨Nat.le_of_ble_eq_true rfl, Nat.le_of_ble_eq_true rfl⟩ (isO_fo _ _ _) (Nat.le_of_ble_eq_true rfl) dX4_book_21 (c0_hasSheep hI ⟨by omega, by omega⟩) ?_
    refine p_bif_ne 34 dX4_book_24 (by decide) (fun c24 => ?_) (fun c24 => ?_)
    · have hv3 : 0 ≤ s ∧ s ≤ 3 := by unfold mS at c7; split at c7 <;> omega
      obtain ⟨q, hq⟩ := q4 (v := s) (by omega)
      subst hq
      refine p_oload0 dX4_book_34 ?_
      refine p_get fl_RX4_32 gx_sheets dX4_book_35 ?_
      refine p_iload1 dX4_book_38 ?_
      refine p_qald ql_sheets (by omega) (by omega) (w := so q) (by simp [so]) dX4_book_39 ?_
      refine p_ostore4 rfl (Nat.le_of_ble_eq_true rfl) dX4_book_40 ?_
      refine p_oload0 dX4_book_42 ?_
      refine p_cV0v (M2 := mX4_startTrial) ml_RX4_151 mc_X4_startTrial ⟨Nat.le_of_ble_eq_true rfl, Nat.le_of_ble_eq_true rfl⟩ (isO_x _ _) (Nat.le_of_ble_eq_true rfl) dX4_book_43 (c_X4_startTrial) ?_
      refine p_iconst dX4_book_46 ?_
      refine p_istore5 rfl (Nat.le_of_ble_eq_true rfl) dX4_book_47 ?_
      have hlq := hle q
      have h := l_X4_book (G := G) (S := S) hb6 hle (q := q) (p := p) (f0 := mS (S 6) q) (by omega) 41 0 (S 0) (S 8) b hI (by omega) (by omega) (by omega) (by omega)
      rw [Int.sub_zero, show va_up (va_up S 1 (S 0)) 8 (S 8) = va_up S 1 (S 0) from vup_same (va_up S 1 (S 0)) 8] at h
      rw [show v_book (S 0) (S 6) (S 7) q p = S 7 q from by unfold v_book; rw [show mB (S 0) (S 6) q p = 0 from (by unfold mB; rw [if_pos c7, if_pos (by omega)])]; rfl, if_pos (by unfold mB; rw [if_pos c7, if_pos (by omega)]), show n_book (S 0) (S 6) (S 7) (S 8) q p = bkL (S 6 q) p q (S 7 q).toNat 0 (S 0) (S 8) from by unfold n_book; rw [if_pos (by unfold mB; rw [if_pos c7, if_pos (by omega)])]]
      exact h
    · refine p_oload0 dX4_book_27 ?_
      refine p_ldc wc_RX4_44 dX4_book_28 ?_
      refine p_cV1r (M2 := mX4_tell) ml_RX4_45 mc_X4_tell ⟨Nat.le_of_ble_eq_true rfl, Nat.le_of_ble_eq_true rfl⟩ (isO_x _ _) (Nat.le_of_ble_eq_true rfl) dX4_book_30 (c_X4_tell (by omega)) ?_
      exact p_iret rfl dX4_book_33 (congrArg (fun z => some (vi z)) (by unfold v_book; rw [show mB (S 0) (S 6) s p = -1000000001 from (by unfold mB; rw [if_pos c7, if_neg (by omega)])]; rfl)) (by rw [show mB (S 0) (S 6) s p = -1000000001 from (by unfold mB; rw [if_pos c7, if_neg (by omega)])]; rfl)
  · refine p_oload0 dX4_book_10 ?_
    refine p_iload3 dX4_book_11 ?_
    refine p_cV1r (M2 := mX4_tell) ml_RX4_45 mc_X4_tell ⟨Nat.le_of_ble_eq_true rfl, Nat.le_of_ble_eq_true rfl⟩ (isO_x _ _) (Nat.le_of_ble_eq_true rfl) dX4_book_12 (c_X4_tell (by omega)) ?_
    exact p_iret rfl dX4_book_15 (congrArg (fun z => some (vi z)) (by unfold v_book; rw [show mB (S 0) (S 6) s p = mS (S 6) s from (by unfold mB; rw [if_neg c7]), if_neg c7])) (by rw [show mB (S 0) (S 6) s p = mS (S 6) s from (by unfold mB; rw [if_neg c7]), if_neg c7])
set_option maxRecDepth 100000 in
set_option maxHeartbeats 4000000 in
theorem l_X4_trialSees {G : GX} {S : St} (hle : ∀ q : Fin 4, 0 ≤ S 7 q ∧ S 7 q ≤ 40) (hnu : ∀ i, 0 ≤ i → i < 160 → inL (S 8 i)) {q : Fin 4} {p : Int} (hp : 0 ≤ p ∧ p < 8) : ∀ (n : Nat) (i : Int) (t : Row) (b : Int), IR b t → b ≤ 200000 + i → 0 ≤ i → i ≤ S 7 q → S 7 q - i < (n : Int) → Rn G mX4_trialSees 2 [some (rf G 0), some (rf G (so q)), some (vi p), some (vi i)] [] (mk G (va_up S 1 t)) (some (vi (if (seL (fun k => S 8 (40 * q + k)) p (S 7 q - i).toNat i t).1 = true then 1 else 0))) (mk G (va_up S 1 (seL (fun k => S 8 (40 * q + k)) p (S 7 q - i).toNat i t).2)) := by
  intro n
  induction n with
  | zero =>
    intro i t b hI hb h0 h1 h2
    exfalso
    omega
  | succ n ih =>
    intro i t b hI hb h0 h1 h2
    push_cast at h2
    have hlq := hle q; have hqq := q.isLt
    refine p_iload3 dX4_trialSees_2 ?_
    refine p_oload1 dX4_trialSees_3 ?_
    refine p_get fl_RX4_211 y_len1 dX4_trialSees_4 ?_
    refine p_icmp_ge ⟨by omega, by omega⟩ ⟨by omega, by omega⟩ 46 dX4_trialSees_7 (by decide) (fun c7 => ?_) (fun c7 => ?_)
    · rw [show (S 7 q - i).toNat = 0 by omega, seL]
      refine p_iconst dX4_trialSees_46 ?_
      exact p_zret rfl (by first | exact nz0 | exact nz1 | exact nzb _) dX4_trialSees_47 rfl rfl
    · have i6 := hI.2.2.2.2.2.2 p hp.1 hp.2
      have hn := hnu (40 * q + i) (by omega) (by omega)
      rw [show (S 7 q - i).toNat = (S 7 q - (i + 1)).toNat + 1 by omega, seL]
      refine p_oload1 dX4_trialSees_10 ?_
      refine p_get fl_RX4_215 y_num1 dX4_trialSees_11 ?_
      refine p_iload3 dX4_trialSees_14 ?_
      refine p_jald y_aln1 (by omega) (by omega) dX4_trialSees_15 ?_
      refine p_oload0 dX4_trialSees_16 ?_
      refine p_get fl_RX4_16 gx_trial dX4_trialSees_17 ?_
      refine p_get fl_RX4_102 g1q_seen dX4_trialSees_20 ?_
      refine p_iload2 dX4_trialSees_23 ?_
      refine p_iald al1q_seen (by omega) (by omega) dX4_trialSees_24 ?_
      refine p_i2l ⟨by omega, by omega⟩ dX4_trialSees_25 ?_
      refine p_lc_eq hn ⟨by omega, by omega⟩ 32 dX4_trialSees_26 dX4_trialSees_27 (by decide) (fun c26 => ?_) (fun c26 => ?_)
      · rw [if_pos c26]
        refine p_oload0 dX4_trialSees_32 ?_
        refine p_get fl_RX4_16 gx_trial dX4_trialSees_33 ?_
        refine p_iconst dX4_trialSees_36 ?_
        refine p_cV1v (M2 := mX0_play) ml_RX4_134 mc_X0_play ⟨Nat.le_of_ble_eq_true rfl, Nat.le_of_ble_eq_true rfl⟩ (isO_fo _ _ _) (Nat.le_of_ble_eq_true rfl) dX4_trialSees_37 (c1_play hI (by omega) (by omega)) ?_
        refine p_iinc3 rfl (Nat.le_of_ble_eq_true rfl) dX4_trialSees_40 ?_
        refine p_goto 2 dX4_trialSees_43 (by decide) ?_
        exact ih (i + 1) _ (b + 1) hI.minR (by omega) (by omega) (by omega) (by omega)
      · rw [if_neg c26]
        refine p_iconst dX4_trialSees_30 ?_
        exact p_zret rfl (by first | exact nz0 | exact nz1 | exact nzb _) dX4_trialSees_31 rfl rfl
set_option maxRecDepth 100000 in
set_option maxHeartbeats 4000000 in
theorem c_X4_trialSees {G : GX} {S : St} (hle : ∀ q : Fin 4, 0 ≤ S 7 q ∧ S 7 q ≤ 40) (hnu : ∀ i, 0 ≤ i → i < 160 → inL (S 8 i)) {q : Fin 4} {t : Row} {b p : Int} (hI : IR b t) (hb : b ≤ 200000) (hp : 0 ≤ p ∧ p < 8) : Ev G mX4_trialSees [rf G 0, rf G (so q), vi p] (mk G (va_up S 1 t)) (some (vi (if (seL (fun k => S 8 (40 * q + k)) p (S 7 q).toNat 0 t).1 = true then 1 else 0))) (mk G (va_up S 1 (seL (fun k => S 8 (40 * q + k)) p (S 7 q).toNat 0 t).2)) := by
  refine Ev.enter (by decide +kernel) (Nat.le_of_ble_eq_true rfl) (L := [some (rf G 0), some (rf G (so q)), some (vi p), none]) rfl ?_
  refine p_iconst dX4_trialSees_0 ?_
  refine p_istore3 rfl (Nat.le_of_ble_eq_true rfl) dX4_trialSees_1 ?_
  have hlq := hle q
  have h := l_X4_trialSees (G := G) (S := S) hle hnu (q := q) hp 41 0 t b hI (by omega) (by omega) (by omega) (by omega)
  rw [Int.sub_zero] at h
  exact h
set_option maxRecDepth 100000 in
set_option maxHeartbeats 4000000 in
theorem l_X4_read {G : GX} {S : St} {b : Int} (hI : IR b (S 0)) (hb : b ≤ 99999) (hb6 : ∀ q : Fin 4, inR (S 6 q)) (hle : ∀ q : Fin 4, 0 ≤ S 7 q ∧ S 7 q ≤ 40) (hnu : ∀ i, 0 ≤ i → i < 160 → inL (S 8 i)) {q : Fin 4} {p f0 : Int} (hp : 0 ≤ p ∧ p < S 0 0) : ∀ (n : Nat) (k : Int) (w : Int) (c : Int) (t : Row), 0 ≤ k ∧ k ≤ 5 → 0 ≤ w ∧ w ≤ 100 → (600 - 100 * k - w) + (6 - k) < (n : Int) → Rn G mX4_read 50 [some (rf G 0), some (vi q), some (vi p), some (vi f0), some (vi c), some (vi k), some (vi w)] [] (mk G (va_up S 1 t)) (some (vi (rdL (fun k => S 8 (40 * q + k)) (S 7 q).toNat (S 0) p (600 - (100 * k + w)).toNat (100 * k + w) (c, t)).1)) (mk G (va_up S 1 (rdL (fun k => S 8 (40 * q + k)) (S 7 q).toNat (S 0) p (600 - (100 * k + w)).toNat (100 * k + w) (c, t)).2)) := by
  intro n
  induction n with
  | zero =>
    intro k w c t hk hw h2
    exfalso
    omega
  | succ n ih =>
    intro k w c t hk hw h2
    have i0 := hI.1; have i1 := hI.2.1; have i2 := hI.2.2.1; have i3 := hI.2.2.2.1; have i4 := hI.2.2.2.2.1
    push_cast at h2
    have hqq := q.isLt
    refine p_iload6 dX4_read_50 ?_
    refine p_bipush (by decide) (by decide) dX4_read_52 ?_
    refine p_icmp_gt ⟨by omega, by omega⟩ ⟨by omega, by omega⟩ 106 dX4_read_54 (by decide) (fun c54 => ?_) (fun c54 => ?_)
    · have e0 : w = 100 := by omega
      subst e0
      refine p_iinc5 rfl (Nat.le_of_ble_eq_true rfl) dX4_read_106 ?_
      refine p_goto 40 dX4_read_109 (by decide) ?_
      refine p_iload5 dX4_read_40 ?_
      refine p_bipush (by decide) (by decide) dX4_read_42 ?_
      refine p_icmp_ge ⟨by omega, by omega⟩ ⟨by omega, by omega⟩ 112 dX4_read_44 (by decide) (fun c44 => ?_) (fun c44 => ?_)
      · rw [show (600 - (100 * k + 100)).toNat = 0 by omega, rdL]
        refine p_iload4 dX4_read_112 ?_
        exact p_iret rfl dX4_read_114 rfl rfl
      · refine p_iconst dX4_read_47 ?_
        refine p_istore6 rfl (Nat.le_of_ble_eq_true rfl) dX4_read_48 ?_
        have h := ih (k + 1) 0 c t (by omega) (by omega) (by omega)
        rw [show 100 * (k + 1) + 0 = 100 * k + 100 by omega] at h
        exact h
    · have hT : IR b (rdQ (S 0) p (100 * k + w)) := (hI.kind (by omega) (by omega)).wants (by omega) (by omega)
      rw [show (600 - (100 * k + w)).toNat = (600 - (100 * k + (w + 1))).toNat + 1 by omega, rdL]
      dsimp only
      refine p_oload0 dX4_read_57 ?_
      refine p_cV0v (M2 := mX4_startTrial) ml_RX4_151 mc_X4_startTrial ⟨Nat.le_of_ble_eq_true rfl, Nat.le_of_ble_eq_true rfl⟩ (isO_x _ _) (Nat.le_of_ble_eq_true rfl) dX4_read_58 (c_startTrial2) ?_
      refine p_oload0 dX4_read_61 ?_
      refine p_get fl_RX4_16 gx_trial dX4_read_62 ?_
      refine p_get fl_RX4_96 g1q_kinds dX4_read_65 ?_
      refine p_iload2 dX4_read_68 ?_
      refine p_iload5 dX4_read_69 ?_
      refine p_iast al1q_kinds (by omega) (by omega) (as1q_kinds (by omega) (by omega)) dX4_read_71 ?_
      refine p_oload0 dX4_read_72 ?_
      refine p_get fl_RX4_16 gx_trial dX4_read_73 ?_
      refine p_get fl_RX4_99 g1q_wants dX4_read_76 ?_
      refine p_iload2 dX4_read_79 ?_
      refine p_iload6 dX4_read_80 ?_
      refine p_iast al1q_wants (by omega) (by omega) (as1q_wants (by omega) (by omega)) dX4_read_82 ?_
      rw [show uz (uz (S 0) (17 + 3 * p) k) (18 + 3 * p) w = rdQ (S 0) p (100 * k + w) by unfold rdQ; rw [show (100 * k + w) / 100 = k by omega, show (100 * k + w) % 100 = w by omega]]
      refine p_oload0 dX4_read_83 ?_
      refine p_oload0 dX4_read_84 ?_
      refine p_get fl_RX4_32 gx_sheets dX4_read_85 ?_
      refine p_iload1 dX4_read_88 ?_
      refine p_qald ql_sheets (by omega) (by omega) (w := so q) (by simp [so]) dX4_read_89 ?_
      refine p_iload2 dX4_read_90 ?_
      refine p_cV2r (M2 := mX4_trialSees) ml_RX4_241 mc_X4_trialSees ⟨Nat.le_of_ble_eq_true rfl, Nat.le_of_ble_eq_true rfl⟩ (isO_x _ _) (Nat.le_of_ble_eq_true rfl) dX4_read_91 (c_X4_trialSees hle hnu (q := q) (t := rdQ (S 0) p (100 * k + w)) hT (by omega) (by omega)) ?_
      refine p_bif_eq 100 dX4_read_94 (by decide) (fun c94 => ?_) (fun c94 => ?_)
      · rw [show rdG (fun k => S 8 (40 * q + k)) (S 7 q).toNat (S 0) p (100 * k + w) = 0 by unfold rdG; rw [if_neg c94], Int.add_zero]
        refine p_iinc6 rfl (Nat.le_of_ble_eq_true rfl) dX4_read_100 ?_
        refine p_goto 50 dX4_read_103 (by decide) ?_
        have h := fun c => ih k (w + 1) c (seL (fun k => S 8 (40 * q + k)) p (S 7 q).toNat 0 (rdQ (S 0) p (100 * k + w))).2 hk (by omega) (by omega)
        rw [show 100 * k + w + 1 = 100 * k + (w + 1) by omega]
        exact h _
      · rw [show rdG (fun k => S 8 (40 * q + k)) (S 7 q).toNat (S 0) p (100 * k + w) = 1 by unfold rdG; rw [if_pos c94]]
        refine p_iinc4 rfl (Nat.le_of_ble_eq_true rfl) dX4_read_97 ?_
        refine p_iinc6 rfl (Nat.le_of_ble_eq_true rfl) dX4_read_100 ?_
        refine p_goto 50 dX4_read_103 (by decide) ?_
        have h := fun c => ih k (w + 1) c (seL (fun k => S 8 (40 * q + k)) p (S 7 q).toNat 0 (rdQ (S 0) p (100 * k + w))).2 hk (by omega) (by omega)
        rw [show 100 * k + w + 1 = 100 * k + (w + 1) by omega]
        exact h _
set_option maxRecDepth 100000 in
set_option maxHeartbeats 4000000 in
theorem c_X4_read {G : GX} {S : St} {b : Int} (hI : IR b (S 0)) (hb : b ≤ 99999) (hb6 : ∀ q : Fin 4, inR (S 6 q)) (hle : ∀ q : Fin 4, 0 ≤ S 7 q ∧ S 7 q ≤ 40) (hnu : ∀ i, 0 ≤ i → i < 160 → inL (S 8 i)) {s p : Int} (h_s : inR s) (h_p : inR p) : Ev G mX4_read [rf G 0, vi s, vi p] (mk G S) (some (vi (v_read (S 0) (S 6) (S 7) (S 8) s p))) (mk G (if mB (S 0) (S 6) s p = 0 then va_up S 1 (rdL (fun k => S 8 (40 * s + k)) (S 7 s).toNat (S 0) p 600 0 (0, S 1)).2 else va_up S 5 (tl (S 5) (mB (S 0) (S 6) s p)))) := by
  have i0 := hI.1; have i1 := hI.2.1; have i2 := hI.2.2.1; have i3 := hI.2.2.2.1; have i4 := hI.2.2.2.2.1
  obtain ⟨s1, s2⟩ := h_s; obtain ⟨p1, p2⟩ := h_p
  have hms : mS (S 6) s = (if 0 ≤ s ∧ s ≤ 3 then (if S 6 s = 0 then -1000000006 else 0) else -1000000001) := rfl
  have hmr : mS (S 6) s = 0 ∨ mS (S 6) s = -1000000001 ∨ mS (S 6) s = -1000000006 := by unfold mS; split <;> (try split) <;> omega
  refine Ev.enter (by decide +kernel) (Nat.le_of_ble_eq_true rfl) (L := [some (rf G 0), some (vi s), some (vi p), none, none, none, none]) rfl ?_
  refine p_oload0 dX4_read_0 ?_
  refine p_iload1 dX4_read_1 ?_
  refine p_cV1r (M2 := mX4_missingSheet) ml_RX4_212 mc_X4_missingSheet ⟨Nat.le_of_ble_eq_true rfl, Nat.le_of_ble_eq_true rfl⟩ (isO_x _ _) (Nat.le_of_ble_eq_true rfl) dX4_read_2 (c_X4_missingSheet ⟨by omega, by omega⟩ hb6) ?_
  rw [← hms]
  refine p_istore3 rfl (Nat.le_of_ble_eq_true rfl) dX4_read_5 ?_
  refine p_iload3 dX4_read_6 ?_
  refine p_if_eq ⟨by omega, by omega⟩ 16 dX4_read_7 (by decide) (fun c7 => ?_) (fun c7 => ?_)
  · refine p_oload0 dX4_read_16 ?_
    refine p_get fl_RX4_10 gx_fold dX4_read_17 ?_
    refine p_iload2 dX4_read_20 ?_
    refine p_cV1r (M2 := mX0_hasSheep) ml_RX4_93 mc_X0_hasSheep ⟨Nat.le_of_ble_eq_true rfl, Nat.le_of_ble_eq_true rfl⟩ (isO_fo _ _ _) (Nat.le_of_ble_eq_true rfl) dX4_read_21 (c0_hasSheep hI ⟨by omega, by omega⟩) ?_
    refine p_bif_ne 34 dX4_read_24 (by decide) (fun c24 => ?_) (fun c24 => ?_)
    · have hv3 : 0 ≤ s ∧ s ≤ 3 := by unfold mS at c7; split at c7 <;> omega
      obtain ⟨q, hq⟩ := q4 (v := s) (by omega)
      subst hq
      refine p_iconst dX4_read_34 ?_
      refine p_istore4 rfl (Nat.le_of_ble_eq_true rfl) dX4_read_35 ?_
      refine p_iconst dX4_read_37 ?_
      refine p_istore5 rfl (Nat.le_of_ble_eq_true rfl) dX4_read_38 ?_
      refine p_iload5 dX4_read_40 ?_
      refine p_bipush (by decide) (by decide) dX4_read_42 ?_
      refine p_icmp_ge ⟨by omega, by omega⟩ ⟨by omega, by omega⟩ 112 dX4_read_44 (by decide) (fun c44 => absurd c44 (by omega)) (fun c44 => ?_)
      refine p_iconst dX4_read_47 ?_
      refine p_istore6 rfl (Nat.le_of_ble_eq_true rfl) dX4_read_48 ?_
      have h := l_X4_read (G := G) (S := S) hI hb hb6 hle hnu (q := q) (p := p) (f0 := mS (S 6) q) (by omega) 607 0 0 0 (S 1) (by omega) (by omega) (by omega)
      rw [vup_same] at h
      rw [show v_read (S 0) (S 6) (S 7) (S 8) q p = (rdL (fun k => S 8 (40 * q + k)) (S 7 q).toNat (S 0) p 600 0 (0, S 1)).1 from by unfold v_read; rw [if_pos (by unfold mB; rw [if_pos c7, if_pos (by omega)]), rdL_1], if_pos (by unfold mB; rw [if_pos c7, if_pos (by omega)])]
      exact h
    · refine p_oload0 dX4_read_27 ?_
      refine p_ldc wc_RX4_44 dX4_read_28 ?_
      refine p_cV1r (M2 := mX4_tell) ml_RX4_45 mc_X4_tell ⟨Nat.le_of_ble_eq_true rfl, Nat.le_of_ble_eq_true rfl⟩ (isO_x _ _) (Nat.le_of_ble_eq_true rfl) dX4_read_30 (c_X4_tell (by omega)) ?_
      exact p_iret rfl dX4_read_33 (congrArg (fun z => some (vi z)) (by unfold v_read; rw [show mB (S 0) (S 6) s p = -1000000001 from (by unfold mB; rw [if_pos c7, if_neg (by omega)])]; rfl)) (by rw [show mB (S 0) (S 6) s p = -1000000001 from (by unfold mB; rw [if_pos c7, if_neg (by omega)])]; rfl)
  · refine p_oload0 dX4_read_10 ?_
    refine p_iload3 dX4_read_11 ?_
    refine p_cV1r (M2 := mX4_tell) ml_RX4_45 mc_X4_tell ⟨Nat.le_of_ble_eq_true rfl, Nat.le_of_ble_eq_true rfl⟩ (isO_x _ _) (Nat.le_of_ble_eq_true rfl) dX4_read_12 (c_X4_tell (by omega)) ?_
    exact p_iret rfl dX4_read_15 (congrArg (fun z => some (vi z)) (by unfold v_read; rw [show mB (S 0) (S 6) s p = mS (S 6) s from (by unfold mB; rw [if_neg c7]), if_neg c7])) (by rw [show mB (S 0) (S 6) s p = mS (S 6) s from (by unfold mB; rw [if_neg c7]), if_neg c7])
