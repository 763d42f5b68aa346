theorem c_finds0 {G : GX} {S : St} {v : Int} (hv : -1000000007 ≤ v ∧ v ≤ -1000000001) : Ev G mX5_finds [rf G 31, vi v] (mk G S) (some (vi v)) (mk G (va_up S 13 (tl (S 13) v))) := by
  have h := c_X5_finds (G := G) (S := S) (r := S 9) hv
  rw [vup_same S 9, show va_up (va_up S 13 (tl (S 13) v)) 9 (S 9) = va_up S 13 (tl (S 13) v) from vup_same (va_up S 13 _) 9] at h
  exact h
theorem y_gt {G : GX} {S : St} {t s : Row} {l : Int} : fld (mk G (va_up (va_up S 15 t) 14 (uz s 3 l))) 31 4 9 (vi l) := by
  have h : fld (mk G (va_up (va_up S 15 t) 14 (uz s 3 l))) 31 4 9 (vi (uz s 3 l 3)) := gm_taped
  rwa [uz_self] at h
theorem y_pt {G : GX} {S : St} {t s : Row} {l v : Int} : put (mk G (va_up (va_up S 15 t) 14 (uz s 3 l))) 31 4 9 (vi v) (mk G (va_up (va_up S 15 t) 14 (uz s 3 v))) := by
  have h : put (mk G (va_up (va_up S 15 t) 14 (uz s 3 l))) 31 4 9 (vi v) (mk G (va_up (va_up S 15 t) 14 (uz (uz s 3 l) 3 v))) := ⟨by decide, _, rfl, Nat.le_of_ble_eq_true rfl, mk_set (by decide) rfl⟩
  rwa [uz_uz] at h
theorem y_al15 {G : GX} {S : St} {t s : Row} : ald G (mk G (va_up (va_up S 15 t) 14 s)) 37 120 t := al_mtape
theorem y_as15 {G : GX} {S : St} {t s : Row} {m v : Int} : va_up (mk G (va_up (va_up S 15 t) 14 s)) 37 (ia G 120 (uz t m v)) = mk G (va_up (va_up S 15 (uz t m v)) 14 s) := mk_set (by decide) rfl
set_option maxRecDepth 100000 in
set_option maxHeartbeats 4000000 in
theorem l_X5_feed {G : GX} {S : St} {by_ m : Int} {s : Row} : ∀ (n : Nat) (i : Int) (t : Row) (l : Int), 0 ≤ l → l + i + 1 ≤ 120 → -1 ≤ i → i ≤ 3 → i + 1 < (n : Int) → Rn G mX5_feed 41 [some (rf G 31), some (vi by_), some (vi m), some (vi i)] [] (mk G (va_up (va_up S 15 t) 14 (uz s 3 l))) (some (vi (l + i + 1))) (mk G (va_up (va_up S 15 (fdL by_ (i + 1).toNat t l)) 14 (uz s 3 (l + i + 1)))) := by
  intro n
  induction n with
  | zero =>
    intro i t l hl hl2 h0 h1 h2
    exfalso
    omega
  | succ n ih =>
    intro i t l hl hl2 h0 h1 h2
    push_cast at h2
    refine p_iload3 dX5_feed_41 ?_
    refine p_if_lt ⟨by omega, by omega⟩ 80 dX5_feed_42 (by decide) (fun c42 => ?_) (fun c42 => ?_)
    · rw [show (i + 1).toNat = 0 by omega, fdL, show l + i + 1 = l by omega]
      refine p_oload0 dX5_feed_80 ?_
      refine p_get fl_RX5_196 y_gt dX5_feed_81 ?_
      exact p_iret rfl dX5_feed_84 (congrArg (fun z => some (vi z)) (by first | rfl | omega | (split <;> omega))) rfl
    · rw [show (i + 1).toNat = i.toNat + 1 by omega, fdL, show ((i.toNat : Nat) : Int) = i by omega]
      refine p_oload0 dX5_feed_45 ?_
      refine p_get fl_RX5_25 gm_tape dX5_feed_46 ?_
      refine p_oload0 dX5_feed_49 ?_
      refine p_get fl_RX5_196 y_gt dX5_feed_50 ?_
      refine p_iload1 dX5_feed_53 ?_
      refine p_bipush (by decide) (by decide) dX5_feed_54 ?_
      refine p_iload3 dX5_feed_56 ?_
      refine p_imul dX5_feed_57 ?_
      refine p_ishr dX5_feed_58 ?_
      refine p_sipush (by decide) (by decide) dX5_feed_59 ?_
      refine p_iand dX5_feed_62 ?_
      refine p_iast y_al15 (by omega) (by omega) y_as15 dX5_feed_63 ?_
      refine p_oload0 dX5_feed_64 ?_
      refine p_dup rfl dX5_feed_65 ?_
      refine p_get fl_RX5_196 y_gt dX5_feed_66 ?_
      refine p_iconst dX5_feed_69 ?_
      refine p_iadd dX5_feed_70 ?_
      refine p_put fw_RX5_196 rfl rfl y_pt dX5_feed_71 ?_
      refine p_iinc3 rfl (Nat.le_of_ble_eq_true rfl) dX5_feed_74 ?_
      refine p_goto 41 dX5_feed_77 (by decide) ?_
      have h := ih (i - 1) (uz t l (bAnd (bShr by_ (8 * i)) 255)) (l + 1) (by omega) (by omega) (by omega) (by omega) (by omega)
      rw [show (i - 1 + 1).toNat = i.toNat by omega, show l + 1 + (i - 1) + 1 = l + i + 1 by omega] at h
      exact h
set_option maxRecDepth 100000 in
set_option maxHeartbeats 4000000 in
theorem c_X5_feed {G : GX} {S : St} (hl : 0 ≤ S 14 3 ∧ S 14 3 ≤ 120) {by_ k : Int} (h_k : inR k) : Ev G mX5_feed [rf G 31, vi by_, vi k] (mk G S) (some (vi (v_feed (S 14 3) k))) (mk G (va_up (va_up (va_up S 13 (tl (S 13) (v_feed (S 14 3) k))) 15 (t_feed (S 15) (S 14 3) by_ k)) 14 (uz (S 14) 3 (l_feed (S 14 3) k)))) := by
  obtain ⟨k1, k2⟩ := h_k
  refine Ev.enter (by decide +kernel) (Nat.le_of_ble_eq_true rfl) (L := [some (rf G 31), some (vi by_), some (vi k), none]) rfl ?_
  refine p_iload2 dX5_feed_0 ?_
  refine p_i2l ⟨by omega, by omega⟩ dX5_feed_1 ?_
  refine p_lconst1 dX5_feed_2 ?_
  refine p_ldc2 wc_RX5_194 dX5_feed_3 ?_
  refine p_cS3r (M2 := mX5_in) ms_RX5_42 mc_X5_in ⟨Nat.le_of_ble_eq_true rfl, Nat.le_of_ble_eq_true rfl⟩ (Nat.le_of_ble_eq_true rfl) dX5_feed_6 (c_X5_in ⟨by omega, by omega⟩ ⟨by omega, by omega⟩ ⟨by omega, by omega⟩) ?_
  refine p_bif_ne 19 dX5_feed_9 (by decide) (fun c9 => ?_) (fun c9 => ?_)
  · refine p_oload0 dX5_feed_19 ?_
    refine p_get fl_RX5_196 gm_taped dX5_feed_20 ?_
    refine p_iload2 dX5_feed_23 ?_
    refine p_iadd dX5_feed_24 ?_
    refine p_bipush (by decide) (by decide) dX5_feed_25 ?_
    refine p_icmp_le ⟨by omega, by omega⟩ ⟨by omega, by omega⟩ 37 dX5_feed_27 (by decide) (fun c27 => ?_) (fun c27 => ?_)
    · refine p_iload2 dX5_feed_37 ?_
      refine p_iconst dX5_feed_38 ?_
      refine p_isub dX5_feed_39 ?_
      refine p_istore3 rfl (Nat.le_of_ble_eq_true rfl) dX5_feed_40 ?_
      have h := l_X5_feed (G := G) (S := S) (by_ := by_) (m := k) (s := S 14) 5 (k - 1) (S 15) (S 14 3) (by omega) (by omega) (by omega) (by omega) (by omega)
      rw [vup_same, uz_same, vup_same, show S 14 3 + (k - 1) + 1 = S 14 3 + k by omega, show k - 1 + 1 = k by omega] at h
      rw [show v_feed (S 14 3) k = S 14 3 + k from by unfold v_feed; rw [if_pos (by omega), if_pos (by omega)], show t_feed (S 15) (S 14 3) by_ k = fdL by_ k.toNat (S 15) (S 14 3) from by unfold t_feed; rw [if_pos (by omega)], show l_feed (S 14 3) k = S 14 3 + k from by unfold l_feed; rw [if_pos (by omega)], tl_no (by omega), vup_same]
      exact h
    · refine p_oload0 dX5_feed_30 ?_
      refine p_ldc wc_RX5_65 dX5_feed_31 ?_
      refine p_cV1r (M2 := mX5_finds) ml_RX5_61 mc_X5_finds ⟨Nat.le_of_ble_eq_true rfl, Nat.le_of_ble_eq_true rfl⟩ (isO_m _ _) (Nat.le_of_ble_eq_true rfl) dX5_feed_33 (c_finds0 (by omega)) ?_
      exact p_iret rfl dX5_feed_36 (congrArg (fun z => some (vi z)) (by unfold v_feed; (try split) <;> (try split) <;> (try split) <;> (try split) <;> (try split) <;> (try split) <;> (try split) <;> omega)) (by rw [show v_feed (S 14 3) k = _ from by unfold v_feed; first | (rw [if_neg (by omega)]; done) | (rw [if_pos (by omega), if_neg (by omega)]; done), show t_feed (S 15) (S 14 3) by_ k = S 15 from by unfold t_feed; rw [if_neg (by omega)], show l_feed (S 14 3) k = S 14 3 from by unfold l_feed; rw [if_neg (by omega)], uz_same]; exact congrArg (mk G) ((vup_same _ 14).symm.trans (congrArg (fun z => va_up z 14 (S 14)) (vup_same _ 15).symm)))
  · refine p_oload0 dX5_feed_12 ?_
    refine p_ldc wc_RX5_41 dX5_feed_13 ?_
    refine p_cV1r (M2 := mX5_finds) ml_RX5_61 mc_X5_finds ⟨Nat.le_of_ble_eq_true rfl, Nat.le_of_ble_eq_true rfl⟩ (isO_m _ _) (Nat.le_of_ble_eq_true rfl) dX5_feed_15 (c_finds0 (by omega)) ?_
    exact p_iret rfl dX5_feed_18 (congrArg (fun z => some (vi z)) (by unfold v_feed; (try split) <;> (try split) <;> (try split) <;> (try split) <;> (try split) <;> (try split) <;> (try split) <;> omega)) (by rw [show v_feed (S 14 3) k = _ from by unfold v_feed; first | (rw [if_neg (by omega)]; done) | (rw [if_pos (by omega), if_neg (by omega)]; done), show t_feed (S 15) (S 14 3) by_ k = S 15 from by unfold t_feed; rw [if_neg (by omega)], show l_feed (S 14 3) k = S 14 3 from by unfold l_feed; rw [if_neg (by omega)], uz_same]; exact congrArg (mk G) ((vup_same _ 14).symm.trans (congrArg (fun z => va_up z 14 (S 14)) (vup_same _ 15).symm)))
set_option maxRecDepth 100000 in
set_option maxHeartbeats 4000000 in
theorem c_X5_wipe {G : GX} {S : St} : Ev G mX5_wipe [rf G 31] (mk G S) (some (vi (S 14 3))) (mk G (va_up S 14 (uz (S 14) 3 0))) := by
  refine Ev.enter (by decide +kernel) (Nat.le_of_ble_eq_true rfl) (L := [some (rf G 31), none]) rfl ?_
  refine p_oload0 dX5_wipe_0 ?_
  refine p_get fl_RX5_196 gm_taped dX5_wipe_1 ?_
  refine p_istore1 rfl (Nat.le_of_ble_eq_true rfl) dX5_wipe_4 ?_
  refine p_oload0 dX5_wipe_5 ?_
  refine p_iconst dX5_wipe_6 ?_
  refine p_put fw_RX5_196 rfl rfl pm_taped dX5_wipe_7 ?_
  refine p_iload1 dX5_wipe_10 ?_
  exact p_iret rfl dX5_wipe_11 (congrArg (fun z => some (vi z)) (by first | rfl | omega | (split <;> omega))) rfl
set_option maxRecDepth 100000 in
set_option maxHeartbeats 4000000 in
theorem c_X5_count {G : GX} {S : St} {r : Row} {b : Int} (hI : IR b r) (hb : b ≤ 99999) {w : Int} (h_w : inR w) (hl : 0 ≤ S 14 3 ∧ S 14 3 ≤ 120) : Ev G mX5_count [rf G 31, vi w] (mk G (va_up S 9 r)) (some (vi (v_count r (S 14 3) w))) (mk G (va_up (va_up S 13 (tl (S 13) (v_count r (S 14 3) w))) 9 (r))) := by
  have i0 := hI.1; have i1 := hI.2.1; have i2 := hI.2.2.1; have i3 := hI.2.2.2.1; have i4 := hI.2.2.2.2.1
  obtain ⟨w1, w2⟩ := h_w
  have j1 := ssm_le hI
  refine Ev.enter (by decide +kernel) (Nat.le_of_ble_eq_true rfl) (L := [some (rf G 31), some (vi w)]) rfl ?_
  refine p_iload1 dX5_count_0 ?_
  rcases (show w = 0 ∨ w = 1 ∨ w = 2 ∨ w = 3 ∨ (w < 0 ∨ 3 < w) by omega) with c1 | c1 | c1 | c1 | c1
  · refine p_tswI ⟨by omega, by omega⟩ 0 32 dX5_count_1 (by omega) (by decide) rfl (by decide) ?_
    refine p_oload0 dX5_count_32 ?_
    refine p_get fl_RX5_7 gm_s dX5_count_33 ?_
    refine p_iconst dX5_count_36 ?_
    refine p_iald alq_s (by omega) (by omega) dX5_count_37 ?_
    exact m_v (by first | (subst c1; rfl) | (unfold v_count; (try split) <;> (try split) <;> (try split) <;> (try split) <;> (try split) <;> (try split) <;> (try split) <;> omega)) (by omega) rfl rfl dX5_count_38
  · refine p_tswI ⟨by omega, by omega⟩ 1 39 dX5_count_1 (by omega) (by decide) rfl (by decide) ?_
    refine p_oload0 dX5_count_39 ?_
    refine p_get fl_RX5_7 gm_s dX5_count_40 ?_
    refine p_iconst dX5_count_43 ?_
    refine p_iald alq_s (by omega) (by omega) dX5_count_44 ?_
    exact m_v (by first | (subst c1; rfl) | (unfold v_count; (try split) <;> (try split) <;> (try split) <;> (try split) <;> (try split) <;> (try split) <;> (try split) <;> omega)) (by omega) rfl rfl dX5_count_45
  · refine p_tswI ⟨by omega, by omega⟩ 2 46 dX5_count_1 (by omega) (by decide) rfl (by decide) ?_
    refine p_oload0 dX5_count_46 ?_
    refine p_get fl_RX5_196 gm_taped dX5_count_47 ?_
    exact m_v (by first | (subst c1; rfl) | (unfold v_count; (try split) <;> (try split) <;> (try split) <;> (try split) <;> (try split) <;> (try split) <;> (try split) <;> omega)) (by show -1000000000 ≤ S 14 3; omega) rfl rfl dX5_count_50
  · refine p_tswI ⟨by omega, by omega⟩ 3 51 dX5_count_1 (by omega) (by decide) rfl (by decide) ?_
    refine p_oload0 dX5_count_51 ?_
    refine p_iconst dX5_count_52 ?_
    refine p_cV1r (M2 := mX5_together) ml_RX5_142 mc_X5_together ⟨Nat.le_of_ble_eq_true rfl, Nat.le_of_ble_eq_true rfl⟩ (isO_m _ _) (Nat.le_of_ble_eq_true rfl) dX5_count_53 (c_X5_together2 hI) ?_
    exact m_v (by first | (subst c1; rfl) | (unfold v_count; (try split) <;> (try split) <;> (try split) <;> (try split) <;> (try split) <;> (try split) <;> (try split) <;> omega)) (by omega) rfl rfl dX5_count_56
  · refine p_tswO ⟨by omega, by omega⟩ 57 dX5_count_1 (by omega) (by decide) ?_
    refine p_oload0 dX5_count_57 ?_
    refine p_ldc wc_RX5_41 dX5_count_58 ?_
    refine p_cV1r (M2 := mX5_finds) ml_RX5_61 mc_X5_finds ⟨Nat.le_of_ble_eq_true rfl, Nat.le_of_ble_eq_true rfl⟩ (isO_m _ _) (Nat.le_of_ble_eq_true rfl) dX5_count_60 (c_X5_finds (by omega)) ?_
    exact m_f (by first | (subst c1; rfl) | (unfold v_count; (try split) <;> (try split) <;> (try split) <;> (try split) <;> (try split) <;> (try split) <;> (try split) <;> omega)) rfl rfl dX5_count_63
def stF (t : Row) (w : Int) : Int → Int := fun k => if w < 0 ∨ k = w then t k else 0
theorem stF_v (t : Row) {w : Int} (h : -1 ≤ w ∧ w ≤ 6) : lsum (stF t w) 7 0 0 = v_status t w := by
  unfold v_status
  by_cases q : w = -1
  · rw [if_pos q]
    exact lsum_congr _ _ _ (fun k _ _ => by unfold stF; rw [if_pos (by omega)])
  · rw [if_neg q, if_pos (by omega)]
    have e : ∀ k, k = w → stF t w k = t k := fun k a => by unfold stF; rw [if_pos (by omega)]
    have e2 : ∀ k, k ≠ w → stF t w k = 0 := fun k a => by unfold stF; rw [if_neg (by omega)]
    rcases (show w = 0 ∨ w = 1 ∨ w = 2 ∨ w = 3 ∨ w = 4 ∨ w = 5 ∨ w = 6 by omega) with x | x | x | x | x | x | x <;> subst x <;> simp only [lsum] <;> simp [e, e2]
theorem stF_le {t : Row} {w : Int} (hT : ∀ i, 0 ≤ i → i < 7 → 0 ≤ t i) : ∀ (n : Nat) (p a : Int), 0 ≤ p → p + n ≤ 7 → a ≤ lsum (stF t w) n p a := by
  intro n
  induction n with
  | zero => intro p a _ _; exact Int.le_refl a
  | succ n ih => intro p a h1 h2; have := ih (p + 1) (a + stF t w p) (by omega) (by omega); have h3 := hT p h1 (by omega); have h4 : 0 ≤ stF t w p := by { unfold stF; split <;> omega }; rw [lsum]; omega
set_option maxRecDepth 100000 in
set_option maxHeartbeats 4000000 in
theorem l_X5_status {G : GX} {S : St} {r : Row} {w : Int} (hw : -1 ≤ w ∧ w ≤ 6) : ∀ (n : Nat) (i : Int) (a : Int), 0 ≤ i → i ≤ 7 → 7 - i < (n : Int) → Rn G mX5_status 25 [some (rf G 31), some (vi w), some (vi a), some (vi i)] [] (mk G (va_up S 9 r)) (some (vi (lsum (stF (S 13) w) (7 - i).toNat i a))) (mk G (va_up S 9 r)) := by
  intro n
  induction n with
  | zero =>
    intro i a h0 h1 h2
    exfalso
    omega
  | succ n ih =>
    intro i a h0 h1 h2
    push_cast at h2
    refine p_iload3 dX5_status_25 ?_
    refine p_bipush (by decide) (by decide) dX5_status_26 ?_
    refine p_icmp_ge ⟨by omega, by omega⟩ ⟨by omega, by omega⟩ 59 dX5_status_28 (by decide) (fun c28 => ?_) (fun c28 => ?_)
    · rw [show (7 - i).toNat = 0 by omega]
      refine p_iload2 dX5_status_59 ?_
      exact p_iret rfl dX5_status_60 rfl rfl
    · rw [show (7 - i).toNat = (7 - (i + 1)).toNat + 1 by omega, lsum]
      refine p_iload2 dX5_status_31 ?_
      refine p_iload1 dX5_status_32 ?_
      refine p_if_lt ⟨by omega, by omega⟩ 41 dX5_status_33 (by decide) (fun c33 => ?_) (fun c33 => ?_)
      · rw [show stF (S 13) w i = S 13 i by unfold stF; rw [if_pos (by omega)]]
        refine p_oload0 dX5_status_41 ?_
        refine p_get fl_RX5_22 gm_statuses dX5_status_42 ?_
        refine p_iload3 dX5_status_45 ?_
        refine p_iald al_statuses (by omega) (by omega) dX5_status_46 ?_
        refine p_goto 51 dX5_status_47 (by decide) ?_
        refine p_iadd dX5_status_51 ?_
        refine p_istore2 rfl (Nat.le_of_ble_eq_true rfl) dX5_status_52 ?_
        refine p_iinc3 rfl (Nat.le_of_ble_eq_true rfl) dX5_status_53 ?_
        refine p_goto 25 dX5_status_56 (by decide) ?_
        exact ih (i + 1) _ (by omega) (by omega) (by omega)
      · refine p_iload3 dX5_status_36 ?_
        refine p_iload1 dX5_status_37 ?_
        refine p_icmp_ne ⟨by omega, by omega⟩ ⟨by omega, by omega⟩ 50 dX5_status_38 (by decide) (fun c38 => ?_) (fun c38 => ?_)
        · rw [show stF (S 13) w i = 0 by unfold stF; rw [if_neg (by omega)]]
          refine p_iconst dX5_status_50 ?_
          refine p_iadd dX5_status_51 ?_
          refine p_istore2 rfl (Nat.le_of_ble_eq_true rfl) dX5_status_52 ?_
          refine p_iinc3 rfl (Nat.le_of_ble_eq_true rfl) dX5_status_53 ?_
          refine p_goto 25 dX5_status_56 (by decide) ?_
          exact ih (i + 1) _ (by omega) (by omega) (by omega)
        · rw [show stF (S 13) w i = S 13 i by unfold stF; rw [if_pos (by omega)]]
          refine p_oload0 dX5_status_41 ?_
          refine p_get fl_RX5_22 gm_statuses dX5_status_42 ?_
          refine p_iload3 dX5_status_45 ?_
          refine p_iald al_statuses (by omega) (by omega) dX5_status_46 ?_
          refine p_goto 51 dX5_status_47 (by decide) ?_
          refine p_iadd dX5_status_51 ?_
          refine p_istore2 rfl (Nat.le_of_ble_eq_true rfl) dX5_status_52 ?_
          refine p_iinc3 rfl (Nat.le_of_ble_eq_true rfl) dX5_status_53 ?_
          refine p_goto 25 dX5_status_56 (by decide) ?_
          exact ih (i + 1) _ (by omega) (by omega) (by omega)
set_option maxRecDepth 100000 in
set_option maxHeartbeats 4000000 in
theorem c_X5_status {G : GX} {S : St} {r : Row} (hT : ∀ i, 0 ≤ i → i < 7 → 0 ≤ S 13 i) {w : Int} (h_w : inR w) : Ev G mX5_status [rf G 31, vi w] (mk G (va_up S 9 r)) (some (vi (v_status (S 13) w))) (mk G (va_up (va_up S 13 (tl (S 13) (v_status (S 13) w))) 9 r)) := by
  obtain ⟨w1, w2⟩ := h_w
  refine Ev.enter (by decide +kernel) (Nat.le_of_ble_eq_true rfl) (L := [some (rf G 31), some (vi w), none, none]) rfl ?_
  refine p_iload1 dX5_status_0 ?_
  refine p_i2l ⟨by omega, by omega⟩ dX5_status_1 ?_
  refine p_ldc2 wc_RX5_320 dX5_status_2 ?_
  refine p_ldc2 wc_RX5_322 dX5_status_5 ?_
  refine p_cS3r (M2 := mX5_in) ms_RX5_42 mc_X5_in ⟨Nat.le_of_ble_eq_true rfl, Nat.le_of_ble_eq_true rfl⟩ (Nat.le_of_ble_eq_true rfl) dX5_status_8 (c_X5_in ⟨by omega, by omega⟩ ⟨by omega, by omega⟩ ⟨by omega, by omega⟩) ?_
  refine p_bif_ne 21 dX5_status_11 (by decide) (fun c11 => ?_) (fun c11 => ?_)
  · refine p_iconst dX5_status_21 ?_
    refine p_istore2 rfl (Nat.le_of_ble_eq_true rfl) dX5_status_22 ?_
    refine p_iconst dX5_status_23 ?_
    refine p_istore3 rfl (Nat.le_of_ble_eq_true rfl) dX5_status_24 ?_
    have h := l_X5_status (G := G) (S := S) (r := r) (w := w) (by omega) 8 0 0 (by omega) (by omega) (by omega)
    have hs := stF_le (w := w) hT 7 0 0 (by omega) (by omega)
    rw [← stF_v (S 13) (w := w) (by omega), tl_no (by omega), vup_same]
    exact h
  · refine p_oload0 dX5_status_14 ?_
    refine p_ldc wc_RX5_41 dX5_status_15 ?_
    refine p_cV1r (M2 := mX5_finds) ml_RX5_61 mc_X5_finds ⟨Nat.le_of_ble_eq_true rfl, Nat.le_of_ble_eq_true rfl⟩ (isO_m _ _) (Nat.le_of_ble_eq_true rfl) dX5_status_17 (c_X5_finds (by omega)) ?_
    exact m_f (by unfold v_status; rw [if_neg (by omega), if_neg (by omega)]) rfl rfl dX5_status_20
theorem y_img {G : GX} {S : St} {a r X : Row} (h : ∀ i, 0 ≤ i → i < 41 → a i = r i) : mk G (va_up (va_up (va_up S 10 a) 9 r) 14 X) = mk G (va_up (va_up (va_up S 10 r) 14 X) 9 r) := by
  rw [vup_swap (va_up S 10 a) (by decide : (9 : Nat) ≠ 14) r X, vup_swap S (by decide : (10 : Nat) ≠ 14) a X, vup_swap S (by decide : (10 : Nat) ≠ 14) r X]
  exact y_mk10 h
set_option maxRecDepth 100000 in
set_option maxHeartbeats 4000000 in
theorem l_X5_image {G : GX} {S : St} {r : Row} : ∀ (n : Nat) (k : Int) (a : Row), (∀ i, 0 ≤ i → i < k → a i = r i) → 0 ≤ k → k ≤ 41 → 41 - k < (n : Int) → Rn G mX5_image 2 [some (rf G 31), some (vi k)] [] (mk G (va_up (va_up S 10 a) 9 r)) (some (vi 1)) (mk G (va_up (va_up (va_up S 10 r) 14 (uz (S 14) 0 1)) 9 r)) := by
  intro n
  induction n with
  | zero =>
    intro k a hr h0 h1 h2
    exfalso
    omega
  | succ n ih =>
    intro k a hr h0 h1 h2
    push_cast at h2
    refine p_iload1 dX5_image_2 ?_
    refine p_bipush (by decide) (by decide) dX5_image_3 ?_
    refine p_icmp_ge ⟨by omega, by omega⟩ ⟨by omega, by omega⟩ 26 dX5_image_5 (by decide) (fun c5 => ?_) (fun c5 => ?_)
    · refine p_oload0 dX5_image_26 ?_
      refine p_iconst dX5_image_27 ?_
      refine p_put fw_RX5_317 rfl rfl pm_isKept dX5_image_28 ?_
      refine p_iconst dX5_image_31 ?_
      exact p_iret rfl dX5_image_32 rfl (y_img fun i a c => hr i a (by omega))
    · refine p_oload0 dX5_image_8 ?_
      refine p_get fl_RX5_13 gm_keptS dX5_image_9 ?_
      refine p_iload1 dX5_image_12 ?_
      refine p_oload0 dX5_image_13 ?_
      refine p_get fl_RX5_7 gm_s dX5_image_14 ?_
      refine p_iload1 dX5_image_17 ?_
      refine p_iald alq_s (by omega) (by omega) dX5_image_18 ?_
      refine p_iast y_al10 (by omega) (by omega) y_as10 dX5_image_19 ?_
      refine p_iinc1 rfl (Nat.le_of_ble_eq_true rfl) dX5_image_20 ?_
      refine p_goto 2 dX5_image_23 (by decide) ?_
      refine ih (k + 1) _ (fun i a c => ?_) (by omega) (by omega) (by omega)
      unfold uz
      by_cases e : i = k
      · rw [if_pos e, e]
      · rw [if_neg e]; exact hr i a (by omega)
set_option maxRecDepth 100000 in
set_option maxHeartbeats 4000000 in
theorem c_X5_image {G : GX} {S : St} {r : Row} : Ev G mX5_image [rf G 31] (mk G (va_up S 9 r)) (some (vi 1)) (mk G (va_up (va_up (va_up S 10 r) 14 (uz (S 14) 0 1)) 9 r)) := by
  refine Ev.enter (by decide +kernel) (Nat.le_of_ble_eq_true rfl) (L := [some (rf G 31), none]) rfl ?_
  refine p_iconst dX5_image_0 ?_
  refine p_istore1 rfl (Nat.le_of_ble_eq_true rfl) dX5_image_1 ?_
  have h := l_X5_image (G := G) (S := S) (r := r) 42 0 (S 10) (fun i a c => by omega) (by omega) (by omega) (by omega)
  rw [vup_same] at h
  exact h
set_option maxRecDepth 100000 in
set_option maxHeartbeats 4000000 in
theorem l_X5_undo {G : GX} {S : St} (hx : 0 ≤ S 10 0) : ∀ (n : Nat) (k : Int) (q : Row), (∀ i, 0 ≤ i → i < k → q i = S 10 i) → 0 ≤ k → k ≤ 41 → 41 - k < (n : Int) → Rn G mX5_undo 16 [some (rf G 31), some (vi k)] [] (mk G (va_up S 9 q)) (some (vi (S 10 0))) (mk G (va_up (va_up S 13 (tl (S 13) (S 10 0))) 9 (S 10))) := by
  intro n
  induction n with
  | zero =>
    intro k q hr h0 h1 h2
    exfalso
    omega
  | succ n ih =>
    intro k q hr h0 h1 h2
    push_cast at h2
    refine p_iload1 dX5_undo_16 ?_
    refine p_bipush (by decide) (by decide) dX5_undo_17 ?_
    refine p_icmp_ge ⟨by omega, by omega⟩ ⟨by omega, by omega⟩ 40 dX5_undo_19 (by decide) (fun c19 => ?_) (fun c19 => ?_)
    · have e : mk G (va_up S 9 q) = mk G (va_up S 9 (S 10)) := mk_s fun i a c => hr i a (by omega)
      rw [e]
      refine p_oload0 dX5_undo_40 ?_
      refine p_get fl_RX5_7 gm_s dX5_undo_41 ?_
      refine p_iconst dX5_undo_44 ?_
      refine p_iald alq_s (by omega) (by omega) dX5_undo_45 ?_
      exact m_v rfl (by omega) rfl rfl dX5_undo_46
    · refine p_oload0 dX5_undo_22 ?_
      refine p_get fl_RX5_7 gm_s dX5_undo_23 ?_
      refine p_iload1 dX5_undo_26 ?_
      refine p_oload0 dX5_undo_27 ?_
      refine p_get fl_RX5_13 gm_keptS dX5_undo_28 ?_
      refine p_iload1 dX5_undo_31 ?_
      refine p_iald al_keptS (by omega) (by omega) dX5_undo_32 ?_
      refine p_iast alq_s (by omega) (by omega) asq_s dX5_undo_33 ?_
      refine p_iinc1 rfl (Nat.le_of_ble_eq_true rfl) dX5_undo_34 ?_
      refine p_goto 16 dX5_undo_37 (by decide) ?_
      refine ih (k + 1) _ (fun i a c => ?_) (by omega) (by omega) (by omega)
      unfold uz
      by_cases e : i = k
      · rw [if_pos e, e]; rfl
      · rw [if_neg e]; exact hr i a (by omega)
set_option maxRecDepth 100000 in
set_option maxHeartbeats 4000000 in
theorem c_X5_undo {G : GX} {S : St} {r : Row} (hk : S 14 0 = 0 ∨ S 14 0 = 1) {b2 : Int} (hI2 : IR b2 (S 10)) : Ev G mX5_undo [rf G 31] (mk G (va_up S 9 r)) (some (vi (v_undo (S 14 0) (S 10)))) (mk G (va_up (va_up S 13 (tl (S 13) (v_undo (S 14 0) (S 10)))) 9 (r_undo (S 14 0) r (S 10)))) := by
  have i0 := hI2.1
  have e : (va_up S 9 r) 14 0 = S 14 0 := rfl
  refine Ev.enter (by decide +kernel) (Nat.le_of_ble_eq_true rfl) (L := [some (rf G 31), none]) rfl ?_
  refine p_oload0 dX5_undo_0 ?_
  refine p_get fl_RX5_317 gm_isKept dX5_undo_1 ?_
  refine p_if_ne (by show inR (S 14 0); exact ⟨by omega, by omega⟩) 14 dX5_undo_4 (by decide) (fun c4 => ?_) (fun c4 => ?_)
  · have c5 : S 14 0 ≠ 0 := c4
    refine p_iconst dX5_undo_14 ?_
    refine p_istore1 rfl (Nat.le_of_ble_eq_true rfl) dX5_undo_15 ?_
    have h := l_X5_undo (G := G) (S := S) i0.1 42 0 r (fun i a c => by omega) (by omega) (by omega) (by omega)
    rw [show v_undo (S 14 0) (S 10) = S 10 0 from by unfold v_undo; rw [if_neg (by omega)], show r_undo (S 14 0) r (S 10) = S 10 from by unfold r_undo; rw [if_neg (by omega)]]
    exact h
  · have c5 : S 14 0 = 0 := c4
    refine p_oload0 dX5_undo_7 ?_
    refine p_ldc wc_RX5_80 dX5_undo_8 ?_
    refine p_cV1r (M2 := mX5_finds) ml_RX5_61 mc_X5_finds ⟨Nat.le_of_ble_eq_true rfl, Nat.le_of_ble_eq_true rfl⟩ (isO_m _ _) (Nat.le_of_ble_eq_true rfl) dX5_undo_10 (c_X5_finds (by omega)) ?_
    exact m_f (by unfold v_undo; rw [if_pos (by omega)]) (by unfold r_undo; rw [if_pos (by omega)]) rfl dX5_undo_13
set_option maxRecDepth 100000 in
set_option maxHeartbeats 4000000 in
theorem c_X5_tear {G : GX} {S : St} (hk : S 14 0 = 0 ∨ S 14 0 = 1) : Ev G mX5_tear [rf G 31] (mk G S) (some (vi (v_tear (S 14 0)))) (mk G (va_up S 14 (uz (S 14) 0 0))) := by
  refine Ev.enter (by decide +kernel) (Nat.le_of_ble_eq_true rfl) (L := [some (rf G 31), none]) rfl ?_
  refine p_oload0 dX5_tear_0 ?_
  refine p_get fl_RX5_317 gm_isKept dX5_tear_1 ?_
  refine p_if_eq ⟨by omega, by omega⟩ 11 dX5_tear_4 (by decide) (fun c4 => ?_) (fun c4 => ?_)
  · refine p_iconst dX5_tear_11 ?_
    refine p_istore1 rfl (Nat.le_of_ble_eq_true rfl) dX5_tear_12 ?_
    refine p_oload0 dX5_tear_13 ?_
    refine p_iconst dX5_tear_14 ?_
    refine p_put fw_RX5_317 rfl rfl pm_isKept dX5_tear_15 ?_
    refine p_iload1 dX5_tear_18 ?_
    exact p_iret rfl dX5_tear_19 (congrArg (fun z => some (vi z)) (by unfold v_tear; first | (rw [if_pos (by omega)]; done) | (rw [if_neg (by omega)]; done))) rfl
  · refine p_iconst dX5_tear_7 ?_
    refine p_goto 12 dX5_tear_8 (by decide) ?_
    refine p_istore1 rfl (Nat.le_of_ble_eq_true rfl) dX5_tear_12 ?_
    refine p_oload0 dX5_tear_13 ?_
    refine p_iconst dX5_tear_14 ?_
    refine p_put fw_RX5_317 rfl rfl pm_isKept dX5_tear_15 ?_
    refine p_iload1 dX5_tear_18 ?_
    exact p_iret rfl dX5_tear_19 (congrArg (fun z => some (vi z)) (by unfold v_tear; first | (rw [if_pos (by omega)]; done) | (rw [if_neg (by omega)]; done))) rfl
set_option maxRecDepth 100000 in
set_option maxHeartbeats 4000000 in
theorem c_X5_isOne {G : GX} {S : St} {m : Int} (hm : inR m) : Ev G mX5_isOne [vi m] (mk G S) (some (vi (if 0 ≤ m ∧ m ≤ 3 then 1 else 0))) (mk G (S)) := by
  obtain ⟨h1, h2⟩ := hm
  refine Ev.enter (by decide +kernel) (Nat.le_of_ble_eq_true rfl) (L := [some (vi m)]) rfl ?_
  refine p_iload0 dX5_isOne_0 ?_
  refine p_i2l ⟨by omega, by omega⟩ dX5_isOne_1 ?_
  refine p_lconst0 dX5_isOne_2 ?_
  refine p_ldc2 wc_RX5_297 dX5_isOne_3 ?_
  refine p_cS3r (M2 := mX5_in) ms_RX5_42 mc_X5_in ⟨Nat.le_of_ble_eq_true rfl, Nat.le_of_ble_eq_true rfl⟩ (Nat.le_of_ble_eq_true rfl) dX5_isOne_6 (c_X5_in ⟨by omega, by omega⟩ ⟨by omega, by omega⟩ ⟨by omega, by omega⟩) ?_
  exact p_zret rfl (by first | exact nz0 | exact nz1 | exact nzb _) dX5_isOne_9 (congrArg (fun z => some (vi z)) (by first | rfl | omega | (split <;> omega))) rfl
set_option maxRecDepth 100000 in
set_option maxHeartbeats 4000000 in
theorem c_X5_narrowed {G : GX} {S : St} {k v : Int} (hk : inR k) : Ev G mX5_narrowed [vi k, vl v] (mk G S) (some (vl (nr k v))) (mk G (S)) := by
  obtain ⟨h1, h2⟩ := hk
  refine Ev.enter (by decide +kernel) (Nat.le_of_ble_eq_true rfl) (L := [some (vi k), some (vl v), none]) rfl ?_
  refine p_iload0 dX5_narrowed_0 ?_
  refine p_bipush (by decide) (by decide) dX5_narrowed_1 ?_
  refine p_icmp_ne ⟨by omega, by omega⟩ ⟨by omega, by omega⟩ 13 dX5_narrowed_3 (by decide) (fun c3 => ?_) (fun c3 => ?_)
  · refine p_iload0 dX5_narrowed_13 ?_
    refine p_bipush (by decide) (by decide) dX5_narrowed_14 ?_
    refine p_icmp_ne ⟨by omega, by omega⟩ ⟨by omega, by omega⟩ 26 dX5_narrowed_16 (by decide) (fun c16 => ?_) (fun c16 => ?_)
    · refine p_lload1 dX5_narrowed_26 ?_
      exact p_lret rfl dX5_narrowed_27 (congrArg (fun z => some (vl z)) (by unfold nr; first | (rw [if_pos (by omega)]; done) | (rw [if_neg (by omega), if_pos (by omega)]; done) | (rw [if_neg (by omega), if_neg (by omega)]; done))) rfl
    · refine p_lload1 dX5_narrowed_19 ?_
      refine p_l2i dX5_narrowed_20 ?_
      refine p_i2s dX5_narrowed_21 ?_
      refine p_i2l (inR_any _) dX5_narrowed_22 ?_
      refine p_goto 27 dX5_narrowed_23 (by decide) ?_
      exact p_lret rfl dX5_narrowed_27 (congrArg (fun z => some (vl z)) (by unfold nr; first | (rw [if_pos (by omega)]; done) | (rw [if_neg (by omega), if_pos (by omega)]; done) | (rw [if_neg (by omega), if_neg (by omega)]; done))) rfl
  · refine p_lload1 dX5_narrowed_6 ?_
    refine p_l2i dX5_narrowed_7 ?_
    refine p_i2b dX5_narrowed_8 ?_
    refine p_i2l (inR_any _) dX5_narrowed_9 ?_
    refine p_goto 27 dX5_narrowed_10 (by decide) ?_
    exact p_lret rfl dX5_narrowed_27 (congrArg (fun z => some (vl z)) (by unfold nr; first | (rw [if_pos (by omega)]; done) | (rw [if_neg (by omega), if_pos (by omega)]; done) | (rw [if_neg (by omega), if_neg (by omega)]; done))) rfl
set_option maxRecDepth 100000 in
set_option maxHeartbeats 4000000 in
theorem c_X5_wrongSheet {G : GX} {S : St} (hb6 : ∀ i, 0 ≤ i → i < 4 → inR (S 16 i)) {s : Int} (h_s : inR s) : Ev G mX5_wrongSheet [rf G 31, vi s] (mk G S) (some (vi (mS (S 16) s))) (mk G (S)) := by
  obtain ⟨s1, s2⟩ := h_s
  refine Ev.enter (by decide +kernel) (Nat.le_of_ble_eq_true rfl) (L := [some (rf G 31), some (vi s)]) rfl ?_
  refine p_iload1 dX5_wrongSheet_0 ?_
  refine p_cS1r (M2 := mX5_isOne) ms_RX5_299 mc_X5_isOne ⟨Nat.le_of_ble_eq_true rfl, Nat.le_of_ble_eq_true rfl⟩ (Nat.le_of_ble_eq_true rfl) dX5_wrongSheet_1 (c_X5_isOne ⟨by omega, by omega⟩) ?_
  refine p_bif_ne 12 dX5_wrongSheet_4 (by decide) (fun c4 => ?_) (fun c4 => ?_)
  · refine p_oload0 dX5_wrongSheet_12 ?_
    refine p_get fl_RX5_28 gm_bitsOf dX5_wrongSheet_13 ?_
    refine p_iload1 dX5_wrongSheet_16 ?_
    refine p_iald al_bitsOf (by omega) (by omega) dX5_wrongSheet_17 ?_
    refine p_if_ne (hb6 s (by omega) (by omega)) 27 dX5_wrongSheet_18 (by decide) (fun c18 => ?_) (fun c18 => ?_)
    · refine p_iconst dX5_wrongSheet_27 ?_
      exact p_iret rfl dX5_wrongSheet_28 (congrArg (fun z => some (vi z)) (by unfold mS; (try split) <;> (try split) <;> (try split) <;> (try split) <;> (try split) <;> (try split) <;> (try split) <;> omega)) rfl
    · refine p_ldcw wc_RX5_303 dX5_wrongSheet_21 ?_
      refine p_goto 28 dX5_wrongSheet_24 (by decide) ?_
      exact p_iret rfl dX5_wrongSheet_28 (congrArg (fun z => some (vi z)) (by unfold mS; (try split) <;> (try split) <;> (try split) <;> (try split) <;> (try split) <;> (try split) <;> (try split) <;> omega)) rfl
  · refine p_ldc wc_RX5_41 dX5_wrongSheet_7 ?_
    refine p_goto 28 dX5_wrongSheet_9 (by decide) ?_
    exact p_iret rfl dX5_wrongSheet_28 (congrArg (fun z => some (vi z)) (by unfold mS; (try split) <;> (try split) <;> (try split) <;> (try split) <;> (try split) <;> (try split) <;> (try split) <;> omega)) rfl
set_option maxRecDepth 100000 in
set_option maxHeartbeats 4000000 in
theorem c_X5_wrongBook {G : GX} {S : St} {r : Row} {b : Int} (hI : IR b r) (hb6 : ∀ i, 0 ≤ i → i < 4 → inR (S 16 i)) {s p : Int} (h_s : inR s) (h_p : inR p) : Ev G mX5_wrongBook [rf G 31, vi s, vi p] (mk G (va_up S 9 r)) (some (vi (mB r (S 16) s p))) (mk G ((va_up S 9 r))) := by
  have i0 := hI.1; have i1 := hI.2.1; have i2 := hI.2.2.1; have i3 := hI.2.2.2.1; have i4 := hI.2.2.2.2.1
  obtain ⟨s1, s2⟩ := h_s; obtain ⟨p1, p2⟩ := h_p
  have hmr : mS (S 16) s = 0 ∨ mS (S 16) s = -1000000001 ∨ mS (S 16) s = -1000000006 := by unfold mS; split <;> (try split) <;> omega
  refine Ev.enter (by decide +kernel) (Nat.le_of_ble_eq_true rfl) (L := [some (rf G 31), some (vi s), some (vi p), none]) rfl ?_
  refine p_oload0 dX5_wrongBook_0 ?_
  refine p_iload1 dX5_wrongBook_1 ?_
  refine p_cV1r (M2 := mX5_wrongSheet) ml_RX5_304 mc_X5_wrongSheet ⟨Nat.le_of_ble_eq_true rfl, Nat.le_of_ble_eq_true rfl⟩ (isO_m _ _) (Nat.le_of_ble_eq_true rfl) dX5_wrongBook_2 (c_X5_wrongSheet (S := va_up S 9 r) hb6 ⟨by omega, by omega⟩) ?_
  rw [show mS ((va_up S 9 r) 16) s = mS (S 16) s from rfl]
  refine p_istore3 rfl (Nat.le_of_ble_eq_true rfl) dX5_wrongBook_5 ?_
  refine p_iload3 dX5_wrongBook_6 ?_
  refine p_if_eq ⟨by omega, by omega⟩ 14 dX5_wrongBook_7 (by decide) (fun c7 => ?_) (fun c7 => ?_)
  · refine p_oload0 dX5_wrongBook_14 ?_
    refine p_iload2 dX5_wrongBook_15 ?_
    refine p_cV1r (M2 := mX5_isSheep) ml_RX5_93 mc_X5_isSheep ⟨Nat.le_of_ble_eq_true rfl, Nat.le_of_ble_eq_true rfl⟩ (isO_m _ _) (Nat.le_of_ble_eq_true rfl) dX5_wrongBook_16 (c_X5_isSheep hI ⟨by omega, by omega⟩) ?_
    refine p_bif_eq 26 dX5_wrongBook_19 (by decide) (fun c19 => ?_) (fun c19 => ?_)
    · refine p_ldc wc_RX5_41 dX5_wrongBook_26 ?_
      exact p_iret rfl dX5_wrongBook_28 (congrArg (fun z => some (vi z)) (by unfold mB; (try split) <;> (try split) <;> (try split) <;> (try split) <;> (try split) <;> (try split) <;> (try split) <;> omega)) rfl
    · refine p_iconst dX5_wrongBook_22 ?_
      refine p_goto 28 dX5_wrongBook_23 (by decide) ?_
      exact p_iret rfl dX5_wrongBook_28 (congrArg (fun z => some (vi z)) (by unfold mB; (try split) <;> (try split) <;> (try split) <;> (try split) <;> (try split) <;> (try split) <;> (try split) <;> omega)) rfl
  · refine p_iload3 dX5_wrongBook_10 ?_
    refine p_goto 28 dX5_wrongBook_11 (by decide) ?_
    exact p_iret rfl dX5_wrongBook_28 (congrArg (fun z => some (vi z)) (by unfold mB; (try split) <;> (try split) <;> (try split) <;> (try split) <;> (try split) <;> (try split) <;> (try split) <;> omega)) rfl
set_option maxRecDepth 100000 in
set_option maxHeartbeats 4000000 in
theorem l_X5_sheet {G : GX} {S : St} {f0 : Row} {s w k0 : Int} (hs : 0 ≤ s ∧ s ≤ 3) : ∀ (n : Nat) (k : Int) (f : Row), (∀ i, 0 ≤ i → i < 160 → f i = if 40 * s ≤ i ∧ i < 40 * s + k then 0 else f0 i) → 0 ≤ k → k ≤ 40 → 40 - k < (n : Int) → Rn G mX5_sheet 86 [some (rf G 31), some (vi s), some (vi w), some (vi k0), some (vi k)] [] (mk G (va_up S 18 f)) (some (vi (S 17 s))) (mk G (va_up S 18 (zer f0 s))) := by
  intro n
  induction n with
  | zero =>
    intro k f hf h0 h1 h2
    exfalso
    omega
  | succ n ih =>
    intro k f hf h0 h1 h2
    push_cast at h2
    refine p_iload4 dX5_sheet_86 ?_
    refine p_bipush (by decide) (by decide) dX5_sheet_88 ?_
    refine p_icmp_ge ⟨by omega, by omega⟩ ⟨by omega, by omega⟩ 112 dX5_sheet_90 (by decide) (fun c90 => ?_) (fun c90 => ?_)
    · refine p_oload0 dX5_sheet_112 ?_
      refine p_get fl_RX5_31 gm_sizeOf dX5_sheet_113 ?_
      refine p_iload1 dX5_sheet_116 ?_
      refine p_iald al_sizeOf (by omega) (by omega) dX5_sheet_117 ?_
      exact p_iret rfl dX5_sheet_118 rfl (mk_mnumbers fun i a c => by rw [hf i a c, show k = 40 by omega]; rfl)
    · refine p_oload0 dX5_sheet_93 ?_
      refine p_get fl_RX5_34 gm_numbers dX5_sheet_94 ?_
      refine p_bipush (by decide) (by decide) dX5_sheet_97 ?_
      refine p_iload1 dX5_sheet_99 ?_
      refine p_imul dX5_sheet_100 ?_
      refine p_iload4 dX5_sheet_101 ?_
      refine p_iadd dX5_sheet_103 ?_
      refine p_lconst0 dX5_sheet_104 ?_
      refine p_jast alq_mnumbers (by omega) (by omega) asq_mnumbers dX5_sheet_105 ?_
      refine p_iinc4 rfl (Nat.le_of_ble_eq_true rfl) dX5_sheet_106 ?_
      refine p_goto 86 dX5_sheet_109 (by decide) ?_
      refine ih (k + 1) _ (fun i a c => ?_) (by omega) (by omega) (by omega)
      unfold uz
      by_cases e : i = 40 * s + k
      · rw [if_pos e, if_pos (by omega)]
      · rw [if_neg e, hf i a c]
        by_cases e2 : 40 * s ≤ i ∧ i < 40 * s + k
        · rw [if_pos e2, if_pos (by omega)]
        · rw [if_neg e2, if_neg (by omega)]
set_option maxRecDepth 100000 in
set_option maxHeartbeats 4000000 in
theorem c_X5_sheet {G : GX} {S : St} {s w k : Int} (h_s : inR s) (h_w : inR w) (h_k : inR k) : Ev G mX5_sheet [rf G 31, vi s, vi w, vi k] (mk G S) (some (vi (v_sheet s w k))) (mk G (if okS s w k then va_up (va_up (va_up S 16 (uz (S 16) s w)) 17 (uz (S 17) s (if w = 0 then 0 else k))) 18 (zer (S 18) s) else va_up S 13 (tl (S 13) (v_sheet s w k)))) := by
  obtain ⟨s1, s2⟩ := h_s; obtain ⟨w1, w2⟩ := h_w; obtain ⟨k1, k2⟩ := h_k
  refine Ev.enter (by decide +kernel) (Nat.le_of_ble_eq_true rfl) (L := [some (rf G 31), some (vi s), some (vi w), some (vi k), none]) rfl ?_
  refine p_iload1 dX5_sheet_0 ?_
  refine p_cS1r (M2 := mX5_isOne) ms_RX5_299 mc_X5_isOne ⟨Nat.le_of_ble_eq_true rfl, Nat.le_of_ble_eq_true rfl⟩ (Nat.le_of_ble_eq_true rfl) dX5_sheet_1 (c_X5_isOne ⟨by omega, by omega⟩) ?_
  refine p_bif_eq 29 dX5_sheet_4 (by decide) (fun c4 => ?_) (fun c4 => ?_)
  · refine p_oload0 dX5_sheet_29 ?_
    refine p_ldc wc_RX5_41 dX5_sheet_30 ?_
    refine p_cV1r (M2 := mX5_finds) ml_RX5_61 mc_X5_finds ⟨Nat.le_of_ble_eq_true rfl, Nat.le_of_ble_eq_true rfl⟩ (isO_m _ _) (Nat.le_of_ble_eq_true rfl) dX5_sheet_32 (c_finds0 (by omega)) ?_
    exact p_iret rfl dX5_sheet_35 (congrArg (fun z => some (vi z)) (by unfold v_sheet; (try split) <;> (try split) <;> (try split) <;> (try split) <;> (try split) <;> (try split) <;> (try split) <;> omega)) (by rw [if_neg (by omega)]; exact congrArg (fun z => mk G (va_up S 13 (tl (S 13) z))) (by unfold v_sheet; (try split) <;> (try split) <;> (try split) <;> (try split) <;> (try split) <;> (try split) <;> (try split) <;> omega))
  · refine p_iload2 dX5_sheet_7 ?_
    refine p_if_eq ⟨by omega, by omega⟩ 36 dX5_sheet_8 (by decide) (fun c8 => ?_) (fun c8 => ?_)
    · refine p_iload3 dX5_sheet_36 ?_
      refine p_if_ge ⟨by omega, by omega⟩ 48 dX5_sheet_37 (by decide) (fun c37 => ?_) (fun c37 => ?_)
      · refine p_iload3 dX5_sheet_48 ?_
        refine p_bipush (by decide) (by decide) dX5_sheet_49 ?_
        refine p_icmp_le ⟨by omega, by omega⟩ ⟨by omega, by omega⟩ 61 dX5_sheet_51 (by decide) (fun c51 => ?_) (fun c51 => ?_)
        · refine p_oload0 dX5_sheet_61 ?_
          refine p_get fl_RX5_28 gm_bitsOf dX5_sheet_62 ?_
          refine p_iload1 dX5_sheet_65 ?_
          refine p_iload2 dX5_sheet_66 ?_
          refine p_iast al_bitsOf (by omega) (by omega) as_bitsOf dX5_sheet_67 ?_
          refine p_oload0 dX5_sheet_68 ?_
          refine p_get fl_RX5_31 gm_sizeOf dX5_sheet_69 ?_
          refine p_iload1 dX5_sheet_72 ?_
          refine p_iload2 dX5_sheet_73 ?_
          refine p_if_ne ⟨by omega, by omega⟩ 81 dX5_sheet_74 (by decide) (fun c74 => ?_) (fun c74 => ?_)
          · refine p_iload3 dX5_sheet_81 ?_
            refine p_iast al_sizeOf (by omega) (by omega) as_sizeOf dX5_sheet_82 ?_
            refine p_iconst dX5_sheet_83 ?_
            refine p_istore4 rfl (Nat.le_of_ble_eq_true rfl) dX5_sheet_84 ?_
            have h := l_X5_sheet (G := G) (S := va_up (va_up S 16 (uz (S 16) s w)) 17 (uz (S 17) s k)) (f0 := S 18) (s := s) (w := w) (k0 := k) (by omega) 41 0 (S 18) (fun i a c => by rw [if_neg (by omega)]) (by omega) (by omega) (by omega)
            rw [show va_up (va_up (va_up S 16 (uz (S 16) s w)) 17 (uz (S 17) s k)) 18 (S 18) = va_up (va_up S 16 (uz (S 16) s w)) 17 (uz (S 17) s k) from vup_same (va_up (va_up S 16 _) 17 _) 18] at h
            rw [if_pos (show okS s w k by omega), show (if w = 0 then 0 else k) = k by rw [if_neg (by omega)], show v_sheet s w k = uz (S 17) s k s from by rw [uz_self]; unfold v_sheet; (try split) <;> (try split) <;> (try split) <;> (try split) <;> (try split) <;> (try split) <;> (try split) <;> omega]
            exact h
          · refine p_iconst dX5_sheet_77 ?_
            refine p_goto 82 dX5_sheet_78 (by decide) ?_
            refine p_iast al_sizeOf (by omega) (by omega) as_sizeOf dX5_sheet_82 ?_
            refine p_iconst dX5_sheet_83 ?_
            refine p_istore4 rfl (Nat.le_of_ble_eq_true rfl) dX5_sheet_84 ?_
            have h := l_X5_sheet (G := G) (S := va_up (va_up S 16 (uz (S 16) s w)) 17 (uz (S 17) s 0)) (f0 := S 18) (s := s) (w := w) (k0 := k) (by omega) 41 0 (S 18) (fun i a c => by rw [if_neg (by omega)]) (by omega) (by omega) (by omega)
            rw [show va_up (va_up (va_up S 16 (uz (S 16) s w)) 17 (uz (S 17) s 0)) 18 (S 18) = va_up (va_up S 16 (uz (S 16) s w)) 17 (uz (S 17) s 0) from vup_same (va_up (va_up S 16 _) 17 _) 18] at h
            rw [if_pos (show okS s w k by omega), show (if w = 0 then 0 else k) = 0 by rw [if_pos (by omega)], show v_sheet s w k = uz (S 17) s 0 s from by rw [uz_self]; unfold v_sheet; (try split) <;> (try split) <;> (try split) <;> (try split) <;> (try split) <;> (try split) <;> (try split) <;> omega]
            exact h
        · refine p_oload0 dX5_sheet_54 ?_
          refine p_ldc wc_RX5_41 dX5_sheet_55 ?_
          refine p_cV1r (M2 := mX5_finds) ml_RX5_61 mc_X5_finds ⟨Nat.le_of_ble_eq_true rfl, Nat.le_of_ble_eq_true rfl⟩ (isO_m _ _) (Nat.le_of_ble_eq_true rfl) dX5_sheet_57 (c_finds0 (by omega)) ?_
          exact p_iret rfl dX5_sheet_60 (congrArg (fun z => some (vi z)) (by unfold v_sheet; (try split) <;> (try split) <;> (try split) <;> (try split) <;> (try split) <;> (try split) <;> (try split) <;> omega)) (by rw [if_neg (by omega)]; exact congrArg (fun z => mk G (va_up S 13 (tl (S 13) z))) (by unfold v_sheet; (try split) <;> (try split) <;> (try split) <;> (try split) <;> (try split) <;> (try split) <;> (try split) <;> omega))
      · refine p_oload0 dX5_sheet_40 ?_
        refine p_ldcw wc_RX5_302 dX5_sheet_41 ?_
        refine p_cV1r (M2 := mX5_finds) ml_RX5_61 mc_X5_finds ⟨Nat.le_of_ble_eq_true rfl, Nat.le_of_ble_eq_true rfl⟩ (isO_m _ _) (Nat.le_of_ble_eq_true rfl) dX5_sheet_44 (c_finds0 (by omega)) ?_
        exact p_iret rfl dX5_sheet_47 (congrArg (fun z => some (vi z)) (by unfold v_sheet; (try split) <;> (try split) <;> (try split) <;> (try split) <;> (try split) <;> (try split) <;> (try split) <;> omega)) (by rw [if_neg (by omega)]; exact congrArg (fun z => mk G (va_up S 13 (tl (S 13) z))) (by unfold v_sheet; (try split) <;> (try split) <;> (try split) <;> (try split) <;> (try split) <;> (try split) <;> (try split) <;> omega))
    · refine p_iload2 dX5_sheet_11 ?_
      refine p_bipush (by decide) (by decide) dX5_sheet_12 ?_
      refine p_icmp_eq ⟨by omega, by omega⟩ ⟨by omega, by omega⟩ 36 dX5_sheet_14 (by decide) (fun c14 => ?_) (fun c14 => ?_)
      · refine p_iload3 dX5_sheet_36 ?_
        refine p_if_ge ⟨by omega, by omega⟩ 48 dX5_sheet_37 (by decide) (fun c37 => ?_) (fun c37 => ?_)
        · refine p_iload3 dX5_sheet_48 ?_
          refine p_bipush (by decide) (by decide) dX5_sheet_49 ?_
          refine p_icmp_le ⟨by omega, by omega⟩ ⟨by omega, by omega⟩ 61 dX5_sheet_51 (by decide) (fun c51 => ?_) (fun c51 => ?_)
          · refine p_oload0 dX5_sheet_61 ?_
            refine p_get fl_RX5_28 gm_bitsOf dX5_sheet_62 ?_
            refine p_iload1 dX5_sheet_65 ?_
            refine p_iload2 dX5_sheet_66 ?_
            refine p_iast al_bitsOf (by omega) (by omega) as_bitsOf dX5_sheet_67 ?_
            refine p_oload0 dX5_sheet_68 ?_
            refine p_get fl_RX5_31 gm_sizeOf dX5_sheet_69 ?_
            refine p_iload1 dX5_sheet_72 ?_
            refine p_iload2 dX5_sheet_73 ?_
            refine p_if_ne ⟨by omega, by omega⟩ 81 dX5_sheet_74 (by decide) (fun c74 => ?_) (fun c74 => ?_)
            · refine p_iload3 dX5_sheet_81 ?_
              refine p_iast al_sizeOf (by omega) (by omega) as_sizeOf dX5_sheet_82 ?_
              refine p_iconst dX5_sheet_83 ?_
              refine p_istore4 rfl (Nat.le_of_ble_eq_true rfl) dX5_sheet_84 ?_
              have h := l_X5_sheet (G := G) (S := va_up (va_up S 16 (uz (S 16) s w)) 17 (uz (S 17) s k)) (f0 := S 18) (s := s) (w := w) (k0 := k) (by omega) 41 0 (S 18) (fun i a c => by rw [if_neg (by omega)]) (by omega) (by omega) (by omega)
              rw [show va_up (va_up (va_up S 16 (uz (S 16) s w)) 17 (uz (S 17) s k)) 18 (S 18) = va_up (va_up S 16 (uz (S 16) s w)) 17 (uz (S 17) s k) from vup_same (va_up (va_up S 16 _) 17 _) 18] at h
              rw [if_pos (show okS s w k by omega), show (if w = 0 then 0 else k) = k by rw [if_neg (by omega)], show v_sheet s w k = uz (S 17) s k s from by rw [uz_self]; unfold v_sheet; (try split) <;> (try split) <;> (try split) <;> (try split) <;> (try split) <;> (try split) <;> (try split) <;> omega]
              exact h
            · refine p_iconst dX5_sheet_77 ?_
              refine p_goto 82 dX5_sheet_78 (by decide) ?_
              refine p_iast al_sizeOf (by omega) (by omega) as_sizeOf dX5_sheet_82 ?_
              refine p_iconst dX5_sheet_83 ?_
              refine p_istore4 rfl (Nat.le_of_ble_eq_true rfl) dX5_sheet_84 ?_
              have h := l_X5_sheet (G := G) (S := va_up (va_up S 16 (uz (S 16) s w)) 17 (uz (S 17) s 0)) (f0 := S 18) (s := s) (w := w) (k0 := k) (by omega) 41 0 (S 18) (fun i a c => by rw [if_neg (by omega)]) (by omega) (by omega) (by omega)
              rw [show va_up (va_up (va_up S 16 (uz (S 16) s w)) 17 (uz (S 17) s 0)) 18 (S 18) = va_up (va_up S 16 (uz (S 16) s w)) 17 (uz (S 17) s 0) from vup_same (va_up (va_up S 16 _) 17 _) 18] at h
              rw [if_pos (show okS s w k by omega), show (if w = 0 then 0 else k) = 0 by rw [if_pos (by omega)], show v_sheet s w k = uz (S 17) s 0 s from by rw [uz_self]; unfold v_sheet; (try split) <;> (try split) <;> (try split) <;> (try split) <;> (try split) <;> (try split) <;> (try split) <;> omega]
              exact h
          · refine p_oload0 dX5_sheet_54 ?_
            refine p_ldc wc_RX5_41 dX5_sheet_55 ?_
            refine p_cV1r (M2 := mX5_finds) ml_RX5_61 mc_X5_finds ⟨Nat.le_of_ble_eq_true rfl, Nat.le_of_ble_eq_true rfl⟩ (isO_m _ _) (Nat.le_of_ble_eq_true rfl) dX5_sheet_57 (c_finds0 (by omega)) ?_
            exact p_iret rfl dX5_sheet_60 (congrArg (fun z => some (vi z)) (by unfold v_sheet; (try split) <;> (try split) <;> (try split) <;> (try split) <;> (try split) <;> (try split) <;> (try split) <;> omega)) (by rw [if_neg (by omega)]; exact congrArg (fun z => mk G (va_up S 13 (tl (S 13) z))) (by unfold v_sheet; (try split) <;> (try split) <;> (try split) <;> (try split) <;> (try split) <;> (try split) <;> (try split) <;> omega))
        · refine p_oload0 dX5_sheet_40 ?_
          refine p_ldcw wc_RX5_302 dX5_sheet_41 ?_
          refine p_cV1r (M2 := mX5_finds) ml_RX5_61 mc_X5_finds ⟨Nat.le_of_ble_eq_true rfl, Nat.le_of_ble_eq_true rfl⟩ (isO_m _ _) (Nat.le_of_ble_eq_true rfl) dX5_sheet_44 (c_finds0 (by omega)) ?_
          exact p_iret rfl dX5_sheet_47 (congrArg (fun z => some (vi z)) (by unfold v_sheet; (try split) <;> (try split) <;> (try split) <;> (try split) <;> (try split) <;> (try split) <;> (try split) <;> omega)) (by rw [if_neg (by omega)]; exact congrArg (fun z => mk G (va_up S 13 (tl (S 13) z))) (by unfold v_sheet; (try split) <;> (try split) <;> (try split) <;> (try split) <;> (try split) <;> (try split) <;> (try split) <;> omega))
      · refine p_iload2 dX5_sheet_17 ?_
        refine p_bipush (by decide) (by decide) dX5_sheet_18 ?_
        refine p_icmp_eq ⟨by omega, by omega⟩ ⟨by omega, by omega⟩ 36 dX5_sheet_20 (by decide) (fun c20 => ?_) (fun c20 => ?_)
        · refine p_iload3 dX5_sheet_36 ?_
          refine p_if_ge ⟨by omega, by omega⟩ 48 dX5_sheet_37 (by decide) (fun c37 => ?_) (fun c37 => ?_)
          · refine p_iload3 dX5_sheet_48 ?_
            refine p_bipush (by decide) (by decide) dX5_sheet_49 ?_
            refine p_icmp_le ⟨by omega, by omega⟩ ⟨by omega, by omega⟩ 61 dX5_sheet_51 (by decide) (fun c51 => ?_) (fun c51 => ?_)
            · refine p_oload0 dX5_sheet_61 ?_
              refine p_get fl_RX5_28 gm_bitsOf dX5_sheet_62 ?_
              refine p_iload1 dX5_sheet_65 ?_
              refine p_iload2 dX5_sheet_66 ?_
              refine p_iast al_bitsOf (by omega) (by omega) as_bitsOf dX5_sheet_67 ?_
              refine p_oload0 dX5_sheet_68 ?_
              refine p_get fl_RX5_31 gm_sizeOf dX5_sheet_69 ?_
              refine p_iload1 dX5_sheet_72 ?_
              refine p_iload2 dX5_sheet_73 ?_
              refine p_if_ne ⟨by omega, by omega⟩ 81 dX5_sheet_74 (by decide) (fun c74 => ?_) (fun c74 => ?_)
              · refine p_iload3 dX5_sheet_81 ?_
                refine p_iast al_sizeOf (by omega) (by omega) as_sizeOf dX5_sheet_82 ?_
                refine p_iconst dX5_sheet_83 ?_
                refine p_istore4 rfl (Nat.le_of_ble_eq_true rfl) dX5_sheet_84 ?_
                have h := l_X5_sheet (G := G) (S := va_up (va_up S 16 (uz (S 16) s w)) 17 (uz (S 17) s k)) (f0 := S 18) (s := s) (w := w) (k0 := k) (by omega) 41 0 (S 18) (fun i a c => by rw [if_neg (by omega)]) (by omega) (by omega) (by omega)
                rw [show va_up (va_up (va_up S 16 (uz (S 16) s w)) 17 (uz (S 17) s k)) 18 (S 18) = va_up (va_up S 16 (uz (S 16) s w)) 17 (uz (S 17) s k) from vup_same (va_up (va_up S 16 _) 17 _) 18] at h
                rw [if_pos (show okS s w k by omega), show (if w = 0 then 0 else k) = k by rw [if_neg (by omega)], show v_sheet s w k = uz (S 17) s k s from by rw [uz_self]; unfold v_sheet; (try split) <;> (try split) <;> (try split) <;> (try split) <;> (try split) <;> (try split) <;> (try split) <;> omega]
                exact h
              · refine p_iconst dX5_sheet_77 ?_
                refine p_goto 82 dX5_sheet_78 (by decide) ?_
                refine p_iast al_sizeOf (by omega) (by omega) as_sizeOf dX5_sheet_82 ?_
                refine p_iconst dX5_sheet_83 ?_
                refine p_istore4 rfl (Nat.le_of_ble_eq_true rfl) dX5_sheet_84 ?_
                have h := l_X5_sheet (G := G) (S := va_up (va_up S 16 (uz (S 16) s w)) 17 (uz (S 17) s 0)) (f0 := S 18) (s := s) (w := w) (k0 := k) (by omega) 41 0 (S 18) (fun i a c => by rw [if_neg (by omega)]) (by omega) (by omega) (by omega)
                rw [show va_up (va_up (va_up S 16 (uz (S 16) s w)) 17 (uz (S 17) s 0)) 18 (S 18) = va_up (va_up S 16 (uz (S 16) s w)) 17 (uz (S 17) s 0) from vup_same (va_up (va_up S 16 _) 17 _) 18] at h
                rw [if_pos (show okS s w k by omega), show (if w = 0 then 0 else k) = 0 by rw [if_pos (by omega)], show v_sheet s w k = uz (S 17) s 0 s from by rw [uz_self]; unfold v_sheet; (try split) <;> (try split) <;> (try split) <;> (try split) <;> (try split) <;> (try split) <;> (try split) <;> omega]
                exact h
            · refine p_oload0 dX5_sheet_54 ?_
              refine p_ldc wc_RX5_41 dX5_sheet_55 ?_
              refine p_cV1r (M2 := mX5_finds) ml_RX5_61 mc_X5_finds ⟨Nat.le_of_ble_eq_true rfl, Nat.le_of_ble_eq_true rfl⟩ (isO_m _ _) (Nat.le_of_ble_eq_true rfl) dX5_sheet_57 (c_finds0 (by omega)) ?_
              exact p_iret rfl dX5_sheet_60 (congrArg (fun z => some (vi z)) (by unfold v_sheet; (try split) <;> (try split) <;> (try split) <;> (try split) <;> (try split) <;> (try split) <;> (try split) <;> omega)) (by rw [if_neg (by omega)]; exact congrArg (fun z => mk G (va_up S 13 (tl (S 13) z))) (by unfold v_sheet; (try split) <;> (try split) <;> (try split) <;> (try split) <;> (try split) <;> (try split) <;> (try split) <;> omega))
          · refine p_oload0 dX5_sheet_40 ?_
            refine p_ldcw wc_RX5_302 dX5_sheet_41 ?_
            refine p_cV1r (M2 := mX5_finds) ml_RX5_61 mc_X5_finds ⟨Nat.le_of_ble_eq_true rfl, Nat.le_of_ble_eq_true rfl⟩ (isO_m _ _) (Nat.le_of_ble_eq_true rfl) dX5_sheet_44 (c_finds0 (by omega)) ?_
            exact p_iret rfl dX5_sheet_47 (congrArg (fun z => some (vi z)) (by unfold v_sheet; (try split) <;> (try split) <;> (try split) <;> (try split) <;> (try split) <;> (try split) <;> (try split) <;> omega)) (by rw [if_neg (by omega)]; exact congrArg (fun z => mk G (va_up S 13 (tl (S 13) z))) (by unfold v_sheet; (try split) <;> (try split) <;> (try split) <;> (try split) <;> (try split) <;> (try split) <;> (try split) <;> omega))
        · refine p_iload2 dX5_sheet_23 ?_
          refine p_bipush (by decide) (by decide) dX5_sheet_24 ?_
          refine p_icmp_eq ⟨by omega, by omega⟩ ⟨by omega, by omega⟩ 36 dX5_sheet_26 (by decide) (fun c26 => ?_) (fun c26 => ?_)
          · refine p_iload3 dX5_sheet_36 ?_
            refine p_if_ge ⟨by omega, by omega⟩ 48 dX5_sheet_37 (by decide) (fun c37 => ?_) (fun c37 => ?_)
            · refine p_iload3 dX5_sheet_48 ?_
              refine p_bipush (by decide) (by decide) dX5_sheet_49 ?_
              refine p_icmp_le ⟨by omega, by omega⟩ ⟨by omega, by omega⟩ 61 dX5_sheet_51 (by decide) (fun c51 => ?_) (fun c51 => ?_)
              · refine p_oload0 dX5_sheet_61 ?_
                refine p_get fl_RX5_28 gm_bitsOf dX5_sheet_62 ?_
                refine p_iload1 dX5_sheet_65 ?_
                refine p_iload2 dX5_sheet_66 ?_
                refine p_iast al_bitsOf (by omega) (by omega) as_bitsOf dX5_sheet_67 ?_
                refine p_oload0 dX5_sheet_68 ?_
                refine p_get fl_RX5_31 gm_sizeOf dX5_sheet_69 ?_
                refine p_iload1 dX5_sheet_72 ?_
                refine p_iload2 dX5_sheet_73 ?_
                refine p_if_ne ⟨by omega, by omega⟩ 81 dX5_sheet_74 (by decide) (fun c74 => ?_) (fun c74 => ?_)
                · refine p_iload3 dX5_sheet_81 ?_
                  refine p_iast al_sizeOf (by omega) (by omega) as_sizeOf dX5_sheet_82 ?_
                  refine p_iconst dX5_sheet_83 ?_
                  refine p_istore4 rfl (Nat.le_of_ble_eq_true rfl) dX5_sheet_84 ?_
                  have h := l_X5_sheet (G := G) (S := va_up (va_up S 16 (uz (S 16) s w)) 17 (uz (S 17) s k)) (f0 := S 18) (s := s) (w := w) (k0 := k) (by omega) 41 0 (S 18) (fun i a c => by rw [if_neg (by omega)]) (by omega) (by omega) (by omega)
                  rw [show va_up (va_up (va_up S 16 (uz (S 16) s w)) 17 (uz (S 17) s k)) 18 (S 18) = va_up (va_up S 16 (uz (S 16) s w)) 17 (uz (S 17) s k) from vup_same (va_up (va_up S 16 _) 17 _) 18] at h
                  rw [if_pos (show okS s w k by omega), show (if w = 0 then 0 else k) = k by rw [if_neg (by omega)], show v_sheet s w k = uz (S 17) s k s from by rw [uz_self]; unfold v_sheet; (try split) <;> (try split) <;> (try split) <;> (try split) <;> (try split) <;> (try split) <;> (try split) <;> omega]
                  exact h
                · refine p_iconst dX5_sheet_77 ?_
                  refine p_goto 82 dX5_sheet_78 (by decide) ?_
                  refine p_iast al_sizeOf (by omega) (by omega) as_sizeOf dX5_sheet_82 ?_
                  refine p_iconst dX5_sheet_83 ?_
                  refine p_istore4 rfl (Nat.le_of_ble_eq_true rfl) dX5_sheet_84 ?_
                  have h := l_X5_sheet (G := G) (S := va_up (va_up S 16 (uz (S 16) s w)) 17 (uz (S 17) s 0)) (f0 := S 18) (s := s) (w := w) (k0 := k) (by omega) 41 0 (S 18) (fun i a c => by rw [if_neg (by omega)]) (by omega) (by omega) (by omega)
                  rw [show va_up (va_up (va_up S 16 (uz (S 16) s w)) 17 (uz (S 17) s 0)) 18 (S 18) = va_up (va_up S 16 (uz (S 16) s w)) 17 (uz (S 17) s 0) from vup_same (va_up (va_up S 16 _) 17 _) 18] at h
                  rw [if_pos (show okS s w k by omega), show (if w = 0 then 0 else k) = 0 by rw [if_pos (by omega)], show v_sheet s w k = uz (S 17) s 0 s from by rw [uz_self]; unfold v_sheet; (try split) <;> (try split) <;> (try split) <;> (try split) <;> (try split) <;> (try split) <;> (try split) <;> omega]
                  exact h
              · refine p_oload0 dX5_sheet_54 ?_
                refine p_ldc wc_RX5_41 dX5_sheet_55 ?_
                refine p_cV1r (M2 := mX5_finds) ml_RX5_61 mc_X5_finds ⟨Nat.le_of_ble_eq_true rfl, Nat.le_of_ble_eq_true rfl⟩ (isO_m _ _) (Nat.le_of_ble_eq_true rfl) dX5_sheet_57 (c_finds0 (by omega)) ?_
                exact p_iret rfl dX5_sheet_60 (congrArg (fun z => some (vi z)) (by unfold v_sheet; (try split) <;> (try split) <;> (try split) <;> (try split) <;> (try split) <;> (try split) <;> (try split) <;> omega)) (by rw [if_neg (by omega)]; exact congrArg (fun z => mk G (va_up S 13 (tl (S 13) z))) (by unfold v_sheet; (try split) <;> (try split) <;> (try split) <;> (try split) <;> (try split) <;> (try split) <;> (try split) <;> omega))
            · refine p_oload0 dX5_sheet_40 ?_
              refine p_ldcw wc_RX5_302 dX5_sheet_41 ?_
              refine p_cV1r (M2 := mX5_finds) ml_RX5_61 mc_X5_finds ⟨Nat.le_of_ble_eq_true rfl, Nat.le_of_ble_eq_true rfl⟩ (isO_m _ _) (Nat.le_of_ble_eq_true rfl) dX5_sheet_44 (c_finds0 (by omega)) ?_
              exact p_iret rfl dX5_sheet_47 (congrArg (fun z => some (vi z)) (by unfold v_sheet; (try split) <;> (try split) <;> (try split) <;> (try split) <;> (try split) <;> (try split) <;> (try split) <;> omega)) (by rw [if_neg (by omega)]; exact congrArg (fun z => mk G (va_up S 13 (tl (S 13) z))) (by unfold v_sheet; (try split) <;> (try split) <;> (try split) <;> (try split) <;> (try split) <;> (try split) <;> (try split) <;> omega))
          · refine p_oload0 dX5_sheet_29 ?_
            refine p_ldc wc_RX5_41 dX5_sheet_30 ?_
            refine p_cV1r (M2 := mX5_finds) ml_RX5_61 mc_X5_finds ⟨Nat.le_of_ble_eq_true rfl, Nat.le_of_ble_eq_true rfl⟩ (isO_m _ _) (Nat.le_of_ble_eq_true rfl) dX5_sheet_32 (c_finds0 (by omega)) ?_
            exact p_iret rfl dX5_sheet_35 (congrArg (fun z => some (vi z)) (by unfold v_sheet; (try split) <;> (try split) <;> (try split) <;> (try split) <;> (try split) <;> (try split) <;> (try split) <;> omega)) (by rw [if_neg (by omega)]; exact congrArg (fun z => mk G (va_up S 13 (tl (S 13) z))) (by unfold v_sheet; (try split) <;> (try split) <;> (try split) <;> (try split) <;> (try split) <;> (try split) <;> (try split) <;> omega))
set_option maxRecDepth 100000 in
set_option maxHeartbeats 4000000 in
theorem c_X5_write {G : GX} {S : St} (hb6 : ∀ i, 0 ≤ i → i < 4 → inR (S 16 i)) (hle : ∀ i, 0 ≤ i → i < 4 → 0 ≤ S 17 i ∧ S 17 i ≤ 40) {s i v : Int} (h_s : inR s) (h_i : inR i) : Ev G mX5_write [rf G 31, vi s, vi i, vl v] (mk G S) (some (vl (v_write (S 16) (S 17) (S 18) s i))) (mk G (va_up (va_up S 13 (t_write (S 13) (S 16) (S 17) s i)) 18 (n_write (S 16) (S 17) (S 18) s i v))) := by
  obtain ⟨s1, s2⟩ := h_s; obtain ⟨i1, i2⟩ := h_i
  have hmr : mS (S 16) s = 0 ∨ mS (S 16) s = -1000000001 ∨ mS (S 16) s = -1000000006 := by unfold mS; split <;> (try split) <;> omega
  refine Ev.enter (by decide +kernel) (Nat.le_of_ble_eq_true rfl) (L := [some (rf G 31), some (vi s), some (vi i), some (vl v), none, none, none, none]) rfl ?_
  refine p_oload0 dX5_write_0 ?_
  refine p_iload1 dX5_write_1 ?_
  refine p_cV1r (M2 := mX5_wrongSheet) ml_RX5_304 mc_X5_wrongSheet ⟨Nat.le_of_ble_eq_true rfl, Nat.le_of_ble_eq_true rfl⟩ (isO_m _ _) (Nat.le_of_ble_eq_true rfl) dX5_write_2 (c_X5_wrongSheet hb6 ⟨by omega, by omega⟩) ?_
  refine p_istore5 rfl (Nat.le_of_ble_eq_true rfl) dX5_write_5 ?_
  refine p_iload5 dX5_write_7 ?_
  refine p_if_eq ⟨by omega, by omega⟩ 20 dX5_write_9 (by decide) (fun c9 => ?_) (fun c9 => ?_)
  · have hv3 : 0 ≤ s ∧ s ≤ 3 := by unfold mS at c9; split at c9 <;> omega
    have hlq := hle s (by omega) (by omega)
    refine p_iload2 dX5_write_20 ?_
    refine p_i2l ⟨by omega, by omega⟩ dX5_write_21 ?_
    refine p_lconst0 dX5_write_22 ?_
    refine p_oload0 dX5_write_23 ?_
    refine p_get fl_RX5_31 gm_sizeOf dX5_write_24 ?_
    refine p_iload1 dX5_write_27 ?_
    refine p_iald al_sizeOf (by omega) (by omega) dX5_write_28 ?_
    refine p_iconst dX5_write_29 ?_
    refine p_isub dX5_write_30 ?_
    refine p_i2l ⟨by omega, by omega⟩ dX5_write_31 ?_
    refine p_cS3r (M2 := mX5_in) ms_RX5_42 mc_X5_in ⟨Nat.le_of_ble_eq_true rfl, Nat.le_of_ble_eq_true rfl⟩ (Nat.le_of_ble_eq_true rfl) dX5_write_32 (c_X5_in ⟨by omega, by omega⟩ ⟨by omega, by omega⟩ ⟨by omega, by omega⟩) ?_
    refine p_bif_ne 46 dX5_write_35 (by decide) (fun c35 => ?_) (fun c35 => ?_)
    · refine p_oload0 dX5_write_46 ?_
      refine p_get fl_RX5_34 gm_numbers dX5_write_47 ?_
      refine p_bipush (by decide) (by decide) dX5_write_50 ?_
      refine p_iload1 dX5_write_52 ?_
      refine p_imul dX5_write_53 ?_
      refine p_iload2 dX5_write_54 ?_
      refine p_iadd dX5_write_55 ?_
      refine p_jald al_mnumbers (by omega) (by omega) dX5_write_56 ?_
      refine p_lstore6 rfl (Nat.le_of_ble_eq_true rfl) dX5_write_57 ?_
      refine p_oload0 dX5_write_59 ?_
      refine p_get fl_RX5_34 gm_numbers dX5_write_60 ?_
      refine p_bipush (by decide) (by decide) dX5_write_63 ?_
      refine p_iload1 dX5_write_65 ?_
      refine p_imul dX5_write_66 ?_
      refine p_iload2 dX5_write_67 ?_
      refine p_iadd dX5_write_68 ?_
      refine p_oload0 dX5_write_69 ?_
      refine p_get fl_RX5_28 gm_bitsOf dX5_write_70 ?_
      refine p_iload1 dX5_write_73 ?_
      refine p_iald al_bitsOf (by omega) (by omega) dX5_write_74 ?_
      refine p_lload3 dX5_write_75 ?_
      refine p_cS2r (M2 := mX5_narrowed) ms_RX5_307 mc_X5_narrowed ⟨Nat.le_of_ble_eq_true rfl, Nat.le_of_ble_eq_true rfl⟩ (Nat.le_of_ble_eq_true rfl) dX5_write_76 (c_X5_narrowed (hb6 s (by omega) (by omega))) ?_
      refine p_jast al_mnumbers (by omega) (by omega) as_mnumbers dX5_write_79 ?_
      refine p_lload6 dX5_write_80 ?_
      exact p_lret rfl dX5_write_82 (congrArg (fun z => some (vl z)) (by unfold v_write; rw [if_pos c9, if_pos (by omega)])) (by unfold t_write n_write; rw [if_pos c9, if_pos (by omega), if_pos (by omega), vup_same])
    · refine p_oload0 dX5_write_38 ?_
      refine p_ldc wc_RX5_41 dX5_write_39 ?_
      refine p_cV1r (M2 := mX5_finds) ml_RX5_61 mc_X5_finds ⟨Nat.le_of_ble_eq_true rfl, Nat.le_of_ble_eq_true rfl⟩ (isO_m _ _) (Nat.le_of_ble_eq_true rfl) dX5_write_41 (c_finds0 (by omega)) ?_
      refine p_i2l ⟨by omega, by omega⟩ dX5_write_44 ?_
      exact p_lret rfl dX5_write_45 (congrArg (fun z => some (vl z)) (by unfold v_write; rw [if_pos c9, if_neg (by omega)])) (by unfold t_write n_write; rw [if_pos c9, if_neg (by omega), if_neg (by omega)]; exact congrArg (mk G) (vup_same (va_up S 13 _) 18).symm)
  · refine p_oload0 dX5_write_12 ?_
    refine p_iload5 dX5_write_13 ?_
    refine p_cV1r (M2 := mX5_finds) ml_RX5_61 mc_X5_finds ⟨Nat.le_of_ble_eq_true rfl, Nat.le_of_ble_eq_true rfl⟩ (isO_m _ _) (Nat.le_of_ble_eq_true rfl) dX5_write_15 (c_finds0 (by omega)) ?_
    refine p_i2l ⟨by omega, by omega⟩ dX5_write_18 ?_
    exact p_lret rfl dX5_write_19 (congrArg (fun z => some (vl z)) (by unfold v_write; rw [if_neg c9])) (by unfold t_write n_write; rw [if_neg c9, if_neg (by omega)]; exact congrArg (mk G) (vup_same (va_up S 13 _) 18).symm)
