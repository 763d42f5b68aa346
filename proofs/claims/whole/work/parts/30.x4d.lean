theorem cut_cpy {n0 n1 : Nat} {f g : Int → Int} {z d k : Int} (h1 : 0 ≤ z) (h2 : 0 ≤ d) (h3 : 0 ≤ k) (h4 : z + k ≤ n0) (h5 : d + k ≤ n1) : va_cpy (fun i : Nat => if i < n0 then Int64.ofInt (f i) else 0) (fun i : Nat => if i < n1 then Int64.ofInt (g i) else 0) z.toNat d.toNat k.toNat = fun i : Nat => if i < n1 then Int64.ofInt (cpz f g z d k i) else 0 := by
  funext j
  unfold va_cpy cpz
  dsimp only
  by_cases c : d.toNat ≤ j ∧ j < d.toNat + k.toNat
  · rw [if_pos c, if_pos (by omega), if_pos (by omega), if_pos (by omega)]
    congr 2
    omega
  · rw [if_neg c]
    by_cases q : j < n1
    · rw [if_pos q, if_pos q, if_neg (by omega)]
    · rw [if_neg q, if_neg q]
theorem p_acopy {G : GX} {M : MI} {pc : Nat} {L : LL} {st : List Value} {σ σ' σ1 : SG} {r : Option Value} {ix i0 i1 n0 n1 : Nat} {f g : Int → Int} {z d k : Int} (hw : Cond.methodLink M.1.cls ix arraycopyName ∈ wsL) (hw2 : Cond.native arraycopyName ∈ wsL) (hw3 : Cond.static arraycopyName ∈ wsL) (hw4 : Cond.initialized "java/lang/System" ∈ wsL) (hσ0 : jld G σ i0 n0 f) (hσ1 : jld G σ i1 n1 g) (h1 : 0 ≤ z) (h2 : 0 ≤ d) (h3 : 0 ≤ k) (h4 : z + k ≤ n0) (h5 : d + k ≤ n1) (hs : va_up σ i1 (ja G n1 (cpz f g z d k)) = σ1) (hfr : 1 ≤ M.2.2.2.2.1) (hlo : (st.map fun v => v.category).sum + 18 ≤ M.2.2.2.2.2) (hd : decode M.2.1 pc = .ok (.invokestatic ix, 3)) (kk : Rn G M (pc + 3) L st σ1 r σ') : Rn G M pc L (vi k :: vi d :: rf G i1 :: vi z :: rf G i0 :: st) σ r σ' := by
  intro p l e s m args below meth c H locs ls C X hl
  obtain ⟨hi0, hn0, e0⟩ := hσ0
  obtain ⟨hi1, hn1, e1⟩ := hσ1
  subst hs
  have cl : ∀ x : Int, 0 ≤ x → x < 2147483648 → (Int32.ofInt x).toNatClampNeg = x.toNat := fun x a b => i32_clamp (by omega) (by omega)
  have ng : ∀ x : Int, 0 ≤ x → x < 2147483648 → ¬ Int32.ofInt x < 0 := fun x a b h => by
    have := (i32_lt (b := 0) ⟨by omega, by omega⟩ inR0).mp h
    omega
  refine va_copyl (D := G.1) (ty := .long) C.1 C.2.1 (by rw [C.2.2.2.1]; exact hl.1.symm) C.2.2.2.2.1 (C.2.2.2.2.2.1 _ hw) (C.2.2.2.2.2.1 _ hw2) (C.2.2.2.2.2.1 _ hw3) (C.2.2.2.2.2.1 _ hw4) C.2.2.2.2.2.2.2.1 X.1 (wl_D C.2.2.2.2.2.2.2.2.2 σ) X.2 i0 i1 1 1 (by rw [wl_get G σ hi0, e0]; rfl) (by rw [wl_get G σ hi1, e1]; rfl) rfl rfl rfl (ng z h1 (by omega)) (ng d h2 (by omega)) (ng k h3 (by omega)) (by rw [cl z h1 (by omega), cl k h3 (by omega)]; omega) (by rw [cl d h2 (by omega), cl k h3 (by omega)]; omega) (fun i _ => rfl) hfr hlo hd (fun H1 locs1 hP hD hS => ?_)
  rw [cl z h1 (by omega), cl d h2 (by omega), cl k h3 (by omega), cut_cpy h1 h2 h3 h4 h5] at hP
  have hP2 : va_P G.1 vwCl ((wl G σ).set i1 (ad G i1, ja G n1 (cpz f g z d k))) H1 := hP
  rw [wl_set G σ hi1] at hP2
  exact kk p l e s m args below meth c H1 locs1 ls C ⟨hP2, hS⟩ hl
theorem q4 {v : Int} (h : 0 ≤ v ∧ v ≤ 3) : ∃ q : Fin 4, v = ((q : Nat) : Int) := ⟨⟨v.toNat, by omega⟩, by show v = ((v.toNat : Nat) : Int); omega⟩
theorem vup2 (S : St) {c d : Nat} (h : c ≠ d) (a b a' b' : Row) : va_up (va_up (va_up (va_up S c a) d b) c a') d b' = va_up (va_up S c a') d b' := by
  rw [vup_swap (va_up S c a) (Ne.symm h) b a', vup_up, vup_up]
theorem c_append2 {G : GX} {S : St} {t s : Row} {l v : Int} (hl : 0 ≤ l ∧ l < 120) : Ev G mX3_append [rf G 19, vi v] (mk G (va_up (va_up S 4 t) 3 (uz s 1 l))) none (mk G (va_up (va_up S 4 (uz t l v)) 3 (uz s 1 (l + 1)))) := by
  have e1 : (va_up (va_up S 4 t) 3 (uz s 1 l)) 3 1 = l := uz_self s 1 l
  have h := c_X3_append (G := G) (S := va_up (va_up S 4 t) 3 (uz s 1 l)) (v := v) (by rw [e1]; omega) (by rw [e1]; omega)
  rw [e1] at h
  have e2 : va_up (va_up (va_up (va_up S 4 t) 3 (uz s 1 l)) 4 (uz ((va_up (va_up S 4 t) 3 (uz s 1 l)) 4) l v)) 3 (uz ((va_up (va_up S 4 t) 3 (uz s 1 l)) 3) 1 (l + 1)) = va_up (va_up S 4 (uz t l v)) 3 (uz s 1 (l + 1)) := by
    rw [vup2 S (by decide)]
    show va_up (va_up S 4 (uz t l v)) 3 (uz (uz s 1 l) 1 (l + 1)) = _
    rw [uz_uz]
  rw [e2] at h
  exact h
set_option maxRecDepth 100000 in
set_option maxHeartbeats 4000000 in
theorem l_X4_feed {G : GX} {S : St} {by_ m : Int} {s : Row} : ∀ (n : Nat) (i : Int) (t : Row) (l : Int), 0 ≤ l → l + i + 1 ≤ 120 → -1 ≤ i → i ≤ 3 → i + 1 < (n : Int) → Rn G mX4_feed 38 [some (rf G 0), some (vi by_), some (vi m), some (vi i)] [] (mk G (va_up (va_up S 4 t) 3 (uz s 1 l))) (some (vi (l + i + 1))) (mk G (va_up (va_up S 4 (fdL by_ (i + 1).toNat t l)) 3 (uz s 1 (l + i + 1)))) := by
  intro n
  induction n with
  | zero =>
    intro i t l hl hl2 h0 h1 h2
    exfalso
    omega
  | succ n ih =>
    intro i t l hl hl2 h0 h1 h2
    push_cast at h2
    refine p_iload3 dX4_feed_38 ?_
    refine p_if_lt ⟨by omega, by omega⟩ 65 dX4_feed_39 (by decide) (fun c39 => ?_) (fun c39 => ?_)
    · rw [show (i + 1).toNat = 0 by omega, fdL, show l + i + 1 = l by omega]
      refine p_oload0 dX4_feed_65 ?_
      refine p_get fl_RX4_25 gx_tape dX4_feed_66 ?_
      refine p_get fl_RX4_190 gt_length dX4_feed_69 ?_
      exact p_iret rfl dX4_feed_72 (congrArg (fun z => some (vi z)) (uz_self s 1 l)) rfl
    · rw [show (i + 1).toNat = i.toNat + 1 by omega, fdL, show ((i.toNat : Nat) : Int) = i by omega]
      refine p_oload0 dX4_feed_42 ?_
      refine p_get fl_RX4_25 gx_tape dX4_feed_43 ?_
      refine p_iload1 dX4_feed_46 ?_
      refine p_bipush (by decide) (by decide) dX4_feed_47 ?_
      refine p_iload3 dX4_feed_49 ?_
      refine p_imul dX4_feed_50 ?_
      refine p_ishr dX4_feed_51 ?_
      refine p_sipush (by decide) (by decide) dX4_feed_52 ?_
      refine p_iand dX4_feed_55 ?_
      refine p_cV1v (M2 := mX3_append) ml_RX4_187 mc_X3_append ⟨Nat.le_of_ble_eq_true rfl, Nat.le_of_ble_eq_true rfl⟩ (isO_t _ _) (Nat.le_of_ble_eq_true rfl) dX4_feed_56 (c_append2 (by omega)) ?_
      refine p_iinc3 rfl (Nat.le_of_ble_eq_true rfl) dX4_feed_59 ?_
      refine p_goto 38 dX4_feed_62 (by decide) ?_
      have h := ih (i - 1) (uz t l (bAnd (bShr by_ (8 * i)) 255)) (l + 1) (by omega) (by omega) (by omega) (by omega) (by omega)
      rw [show (i - 1 + 1).toNat = i.toNat by omega, show l + 1 + (i - 1) + 1 = l + i + 1 by omega] at h
      exact h
set_option maxRecDepth 100000 in
set_option maxHeartbeats 4000000 in
theorem c_X4_feed {G : GX} {S : St} (hl : 0 ≤ S 3 1 ∧ S 3 1 ≤ 120) {by_ k : Int} (h_k : inR k) : Ev G mX4_feed [rf G 0, vi by_, vi k] (mk G S) (some (vi (v_feed (S 3 1) k))) (mk G (va_up (va_up (va_up S 5 (tl (S 5) (v_feed (S 3 1) k))) 4 (t_feed (S 4) (S 3 1) by_ k)) 3 (uz (S 3) 1 (l_feed (S 3 1) k)))) := by
  obtain ⟨k1, k2⟩ := h_k
  refine Ev.enter (by decide +kernel) (Nat.le_of_ble_eq_true rfl) (L := [some (rf G 0), some (vi by_), some (vi k), none]) rfl ?_
  refine p_iload2 dX4_feed_0 ?_
  refine p_iconst dX4_feed_1 ?_
  refine p_iconst dX4_feed_2 ?_
  refine p_cS3r (M2 := mX4_isWithin) ms_RX4_67 mc_X4_isWithin ⟨Nat.le_of_ble_eq_true rfl, Nat.le_of_ble_eq_true rfl⟩ (Nat.le_of_ble_eq_true rfl) dX4_feed_3 (c_X4_isWithin ⟨by omega, by omega⟩ ⟨by omega, by omega⟩ ⟨by omega, by omega⟩) ?_
  refine p_bif_ne 16 dX4_feed_6 (by decide) (fun c6 => ?_) (fun c6 => ?_)
  · refine p_oload0 dX4_feed_16 ?_
    refine p_get fl_RX4_25 gx_tape dX4_feed_17 ?_
    refine p_iload2 dX4_feed_20 ?_
    refine p_cV1r (M2 := mX3_hasRoomFor) ml_RX4_184 mc_X3_hasRoomFor ⟨Nat.le_of_ble_eq_true rfl, Nat.le_of_ble_eq_true rfl⟩ (isO_t _ _) (Nat.le_of_ble_eq_true rfl) dX4_feed_21 (c_X3_hasRoomFor hl ⟨by omega, by omega⟩) ?_
    refine p_bif_ne 34 dX4_feed_24 (by decide) (fun c24 => ?_) (fun c24 => ?_)
    · refine p_iload2 dX4_feed_34 ?_
      refine p_iconst dX4_feed_35 ?_
      refine p_isub dX4_feed_36 ?_
      refine p_istore3 rfl (Nat.le_of_ble_eq_true rfl) dX4_feed_37 ?_
      have h := l_X4_feed (G := G) (S := S) (by_ := by_) (m := k) (s := S 3) 5 (k - 1) (S 4) (S 3 1) (by omega) (by omega) (by omega) (by omega) (by omega)
      rw [vup_same, uz_same, vup_same, show S 3 1 + (k - 1) + 1 = S 3 1 + k by omega, show k - 1 + 1 = k by omega] at h
      rw [show v_feed (S 3 1) k = S 3 1 + k from by unfold v_feed; rw [if_pos (by omega), if_pos (by omega)], show t_feed (S 4) (S 3 1) by_ k = fdL by_ k.toNat (S 4) (S 3 1) from by unfold t_feed; rw [if_pos (by omega)], show l_feed (S 3 1) k = S 3 1 + k from by unfold l_feed; rw [if_pos (by omega)], tl_no (by omega), vup_same]
      exact h
    · refine p_oload0 dX4_feed_27 ?_
      refine p_ldc wc_RX4_53 dX4_feed_28 ?_
      refine p_cV1r (M2 := mX4_tell) ml_RX4_45 mc_X4_tell ⟨Nat.le_of_ble_eq_true rfl, Nat.le_of_ble_eq_true rfl⟩ (isO_x _ _) (Nat.le_of_ble_eq_true rfl) dX4_feed_30 (c_X4_tell (by omega)) ?_
      exact p_iret rfl dX4_feed_33 (congrArg (fun z => some (vi z)) (by unfold v_feed; (try split) <;> (try split) <;> (try split) <;> (try split) <;> (try split) <;> (try split) <;> (try split) <;> omega)) (by rw [show v_feed (S 3 1) k = _ from by unfold v_feed; first | (rw [if_neg (by omega)]; done) | (rw [if_pos (by omega), if_neg (by omega)]; done), show t_feed (S 4) (S 3 1) by_ k = S 4 from by unfold t_feed; rw [if_neg (by omega)], show l_feed (S 3 1) k = S 3 1 from by unfold l_feed; rw [if_neg (by omega)], uz_same]; exact congrArg (mk G) ((vup_same _ 3).symm.trans (congrArg (fun z => va_up z 3 (S 3)) (vup_same _ 4).symm)))
  · refine p_oload0 dX4_feed_9 ?_
    refine p_ldc wc_RX4_44 dX4_feed_10 ?_
    refine p_cV1r (M2 := mX4_tell) ml_RX4_45 mc_X4_tell ⟨Nat.le_of_ble_eq_true rfl, Nat.le_of_ble_eq_true rfl⟩ (isO_x _ _) (Nat.le_of_ble_eq_true rfl) dX4_feed_12 (c_X4_tell (by omega)) ?_
    exact p_iret rfl dX4_feed_15 (congrArg (fun z => some (vi z)) (by unfold v_feed; (try split) <;> (try split) <;> (try split) <;> (try split) <;> (try split) <;> (try split) <;> (try split) <;> omega)) (by rw [show v_feed (S 3 1) k = _ from by unfold v_feed; first | (rw [if_neg (by omega)]; done) | (rw [if_pos (by omega), if_neg (by omega)]; done), show t_feed (S 4) (S 3 1) by_ k = S 4 from by unfold t_feed; rw [if_neg (by omega)], show l_feed (S 3 1) k = S 3 1 from by unfold l_feed; rw [if_neg (by omega)], uz_same]; exact congrArg (mk G) ((vup_same _ 3).symm.trans (congrArg (fun z => va_up z 3 (S 3)) (vup_same _ 4).symm)))
set_option maxRecDepth 100000 in
set_option maxHeartbeats 4000000 in
theorem c_X4_wipe {G : GX} {S : St} : Ev G mX4_wipe [rf G 0] (mk G S) (some (vi (S 3 1))) (mk G (va_up S 3 (uz (S 3) 1 0))) := by
  refine Ev.enter (by decide +kernel) (Nat.le_of_ble_eq_true rfl) (L := [some (rf G 0), none]) rfl ?_
  refine p_oload0 dX4_wipe_0 ?_
  refine p_get fl_RX4_25 gx_tape dX4_wipe_1 ?_
  refine p_get fl_RX4_190 gt_length dX4_wipe_4 ?_
  refine p_istore1 rfl (Nat.le_of_ble_eq_true rfl) dX4_wipe_7 ?_
  refine p_oload0 dX4_wipe_8 ?_
  refine p_get fl_RX4_25 gx_tape dX4_wipe_9 ?_
  refine p_iconst dX4_wipe_12 ?_
  refine p_put fw_RX4_190 rfl rfl pt_length dX4_wipe_13 ?_
  refine p_iload1 dX4_wipe_16 ?_
  exact p_iret rfl dX4_wipe_17 (congrArg (fun z => some (vi z)) (by first | rfl | omega | (split <;> omega))) rfl
set_option maxRecDepth 100000 in
set_option maxHeartbeats 4000000 in
theorem c_X4_count {G : GX} {S : St} {b : Int} (hI : IR b (S 0)) (hb : b ≤ 99999) {w : Int} (h_w : inR w) (hl : 0 ≤ S 3 1 ∧ S 3 1 ≤ 120) : Ev G mX4_count [rf G 0, vi w] (mk G S) (some (vi (v_count (S 0) (S 3 1) w))) (mk G (va_up S 5 (tl (S 5) (v_count (S 0) (S 3 1) w)))) := by
  have i0 := hI.1; have i1 := hI.2.1; have i2 := hI.2.2.1; have i3 := hI.2.2.2.1; have i4 := hI.2.2.2.2.1
  obtain ⟨w1, w2⟩ := h_w
  have j1 := ssm_le hI
  refine Ev.enter (by decide +kernel) (Nat.le_of_ble_eq_true rfl) (L := [some (rf G 0), some (vi w)]) rfl ?_
  refine p_iload1 dX4_count_0 ?_
  rcases (show w = 0 ∨ w = 1 ∨ w = 2 ∨ w = 3 ∨ (w < 0 ∨ 3 < w) by omega) with c1 | c1 | c1 | c1 | c1
  · refine p_tswI ⟨by omega, by omega⟩ 0 32 dX4_count_1 (by omega) (by decide) rfl (by decide) ?_
    refine p_oload0 dX4_count_32 ?_
    refine p_get fl_RX4_10 gx_fold dX4_count_33 ?_
    refine p_get fl_RX4_181 g0_sheepCount dX4_count_36 ?_
    exact q_v (by subst c1; rfl) (by omega) rfl dX4_count_39
  · refine p_tswI ⟨by omega, by omega⟩ 1 40 dX4_count_1 (by omega) (by decide) rfl (by decide) ?_
    refine p_oload0 dX4_count_40 ?_
    refine p_get fl_RX4_10 gx_fold dX4_count_41 ?_
    refine p_get fl_RX4_75 g0_manCount dX4_count_44 ?_
    exact q_v (by subst c1; rfl) (by omega) rfl dX4_count_47
  · refine p_tswI ⟨by omega, by omega⟩ 2 48 dX4_count_1 (by omega) (by decide) rfl (by decide) ?_
    refine p_oload0 dX4_count_48 ?_
    refine p_get fl_RX4_25 gx_tape dX4_count_49 ?_
    refine p_get fl_RX4_190 gt_length dX4_count_52 ?_
    exact q_v (by subst c1; rfl) (by omega) rfl dX4_count_55
  · refine p_tswI ⟨by omega, by omega⟩ 3 56 dX4_count_1 (by omega) (by decide) rfl (by decide) ?_
    refine p_oload0 dX4_count_56 ?_
    refine p_get fl_RX4_10 gx_fold dX4_count_57 ?_
    refine p_cV0r (M2 := mX0_seenByAll) ml_RX4_249 mc_X0_seenByAll ⟨Nat.le_of_ble_eq_true rfl, Nat.le_of_ble_eq_true rfl⟩ (isO_fo _ _ _) (Nat.le_of_ble_eq_true rfl) dX4_count_60 (c0_seenByAll hI) ?_
    exact q_v (by subst c1; rfl) (by omega) rfl dX4_count_63
  · refine p_tswO ⟨by omega, by omega⟩ 64 dX4_count_1 (by omega) (by decide) ?_
    refine p_oload0 dX4_count_64 ?_
    refine p_ldc wc_RX4_44 dX4_count_65 ?_
    refine p_cV1r (M2 := mX4_tell) ml_RX4_45 mc_X4_tell ⟨Nat.le_of_ble_eq_true rfl, Nat.le_of_ble_eq_true rfl⟩ (isO_x _ _) (Nat.le_of_ble_eq_true rfl) dX4_count_67 (c_X4_tell (by omega)) ?_
    exact q_fv (by unfold v_count; (try split) <;> (try split) <;> (try split) <;> (try split) <;> (try split) <;> (try split) <;> (try split) <;> omega) rfl dX4_count_70
set_option maxRecDepth 100000 in
set_option maxHeartbeats 4000000 in
theorem l_X4_status {G : GX} {S : St} {w : Int} : ∀ (n : Nat) (i : Int) (a : Int), 0 ≤ i → i ≤ 7 → 7 - i < (n : Int) → Rn G mX4_status 19 [some (rf G 0), some (vi w), some (vi a), some (rf G 30), some (vi 7), some (vi i), none] [] (mk G (S)) (some (vi (lsum (S 5) (7 - i).toNat i a))) (mk G (S)) := by
  intro n
  induction n with
  | zero =>
    intro i a h0 h1 h2
    exfalso
    omega
  | succ n ih =>
    intro i a h0 h1 h2
    push_cast at h2
    refine p_iload5 dX4_status_19 ?_
    refine p_iload4 dX4_status_21 ?_
    refine p_icmp_ge ⟨by omega, by omega⟩ ⟨by omega, by omega⟩ 43 dX4_status_23 (by decide) (fun c23 => ?_) (fun c23 => ?_)
    · rw [show (7 - i).toNat = 0 by omega]
      refine p_iload2 dX4_status_43 ?_
      exact p_iret rfl dX4_status_44 rfl rfl
    · rw [show (7 - i).toNat = (7 - (i + 1)).toNat + 1 by omega, lsum]
      refine p_oload3 dX4_status_26 ?_
      refine p_iload5 dX4_status_27 ?_
      refine p_iald al_told (by omega) (by omega) dX4_status_29 ?_
      refine p_istore6 rfl (Nat.le_of_ble_eq_true rfl) dX4_status_30 ?_
      refine p_iload2 dX4_status_32 ?_
      refine p_iload6 dX4_status_33 ?_
      refine p_iadd dX4_status_35 ?_
      refine p_istore2 rfl (Nat.le_of_ble_eq_true rfl) dX4_status_36 ?_
      refine p_iinc5 rfl (Nat.le_of_ble_eq_true rfl) dX4_status_37 ?_
      refine p_goto 19 dX4_status_40 (by decide) ?_
      exact Rn.kp (ih (i + 1) _ (by omega) (by omega) (by omega)) ⟨rfl, rfl, rfl, rfl, rfl, rfl, trivial⟩
set_option maxRecDepth 100000 in
set_option maxHeartbeats 4000000 in
theorem c_X4_status {G : GX} {S : St} (hT : ∀ i, 0 ≤ i → i < 7 → 0 ≤ S 5 i) {w : Int} (h_w : inR w) : Ev G mX4_status [rf G 0, vi w] (mk G S) (some (vi (v_status (S 5) w))) (mk G (va_up S 5 (tl (S 5) (v_status (S 5) w)))) := by
  obtain ⟨w1, w2⟩ := h_w
  refine Ev.enter (by decide +kernel) (Nat.le_of_ble_eq_true rfl) (L := [some (rf G 0), some (vi w), none, none, none, none, none]) rfl ?_
  refine p_iload1 dX4_status_0 ?_
  refine p_iconst dX4_status_1 ?_
  refine p_icmp_ne ⟨by omega, by omega⟩ ⟨by omega, by omega⟩ 45 dX4_status_2 (by decide) (fun c2 => ?_) (fun c2 => ?_)
  · refine p_iload1 dX4_status_45 ?_
    refine p_iconst dX4_status_46 ?_
    refine p_bipush (by decide) (by decide) dX4_status_47 ?_
    refine p_cS3r (M2 := mX4_isWithin) ms_RX4_67 mc_X4_isWithin ⟨Nat.le_of_ble_eq_true rfl, Nat.le_of_ble_eq_true rfl⟩ (Nat.le_of_ble_eq_true rfl) dX4_status_49 (c_X4_isWithin ⟨by omega, by omega⟩ ⟨by omega, by omega⟩ ⟨by omega, by omega⟩) ?_
    refine p_bif_ne 62 dX4_status_52 (by decide) (fun c52 => ?_) (fun c52 => ?_)
    · refine p_oload0 dX4_status_62 ?_
      refine p_get fl_RX4_36 gx_told dX4_status_63 ?_
      refine p_iload1 dX4_status_66 ?_
      refine p_iald al_told (by omega) (by omega) dX4_status_67 ?_
      exact q_v (by unfold v_status; rw [if_neg (by omega), if_pos (by omega)]) (by have := hT w (by omega) (by omega); omega) rfl dX4_status_68
    · refine p_oload0 dX4_status_55 ?_
      refine p_ldc wc_RX4_44 dX4_status_56 ?_
      refine p_cV1r (M2 := mX4_tell) ml_RX4_45 mc_X4_tell ⟨Nat.le_of_ble_eq_true rfl, Nat.le_of_ble_eq_true rfl⟩ (isO_x _ _) (Nat.le_of_ble_eq_true rfl) dX4_status_58 (c_X4_tell (by omega)) ?_
      exact q_fv (by unfold v_status; rw [if_neg (by omega), if_neg (by omega)]) rfl dX4_status_61
  · refine p_iconst dX4_status_5 ?_
    refine p_istore2 rfl (Nat.le_of_ble_eq_true rfl) dX4_status_6 ?_
    refine p_oload0 dX4_status_7 ?_
    refine p_get fl_RX4_36 gx_told dX4_status_8 ?_
    refine p_ostore3 rfl (Nat.le_of_ble_eq_true rfl) dX4_status_11 ?_
    refine p_oload3 dX4_status_12 ?_
    refine p_ilen al_told dX4_status_13 ?_
    refine p_istore4 rfl (Nat.le_of_ble_eq_true rfl) dX4_status_14 ?_
    refine p_iconst dX4_status_16 ?_
    refine p_istore5 rfl (Nat.le_of_ble_eq_true rfl) dX4_status_17 ?_
    have h := l_X4_status (G := G) (S := S) (w := w) 8 0 0 (by omega) (by omega) (by omega)
    have hs : 0 ≤ lsum (S 5) 7 0 0 := by
      have e : ∀ (n : Nat) (p a : Int), 0 ≤ p → p + n ≤ 7 → a ≤ lsum (S 5) n p a := by
        intro n
        induction n with
        | zero => intro p a _ _; exact Int.le_refl a
        | succ n ih => intro p a h1 h2; have := ih (p + 1) (a + S 5 p) (by omega) (by omega); have := hT p h1 (by omega); rw [lsum]; omega
      exact e 7 0 0 (by omega) (by omega)
    rw [show v_status (S 5) w = lsum (S 5) 7 0 0 from by unfold v_status; rw [if_pos (by omega)], tl_no (by omega), vup_same]
    exact h
theorem c_img {G : GX} {S : St} : Ev G mX0_becomes [rf G (fo 2), rf G (fo 0)] (mk G S) none (mk G (va_up S 2 (S 0))) := c_X0_becomesS (j := 2) (q := 0) (by decide)
theorem c_und {G : GX} {S : St} : Ev G mX0_becomes [rf G (fo 0), rf G (fo 2)] (mk G S) none (mk G (va_up S 0 (S 2))) := c_X0_becomesS (j := 0) (q := 2) (by decide)
theorem c_fel {G : GX} {S : St} : Ev G mX0_becomes [rf G (fo 0), rf G (fo 1)] (mk G S) none (mk G (va_up S 0 (S 1))) := c_X0_becomesS (j := 0) (q := 1) (by decide)
set_option maxRecDepth 100000 in
set_option maxHeartbeats 4000000 in
theorem c_X4_image {G : GX} {S : St} : Ev G mX4_image [rf G 0] (mk G S) (some (vi 1)) (mk G (va_up (va_up S 2 (S 0)) 3 (uz (S 3) 0 1))) := by
  refine Ev.enter (by decide +kernel) (Nat.le_of_ble_eq_true rfl) (L := [some (rf G 0)]) rfl ?_
  refine p_oload0 dX4_image_0 ?_
  refine p_get fl_RX4_19 gx_kept dX4_image_1 ?_
  refine p_oload0 dX4_image_4 ?_
  refine p_get fl_RX4_10 gx_fold dX4_image_5 ?_
  refine p_cV1v (M2 := mX0_becomes) ml_RX4_197 mc_X0_becomes ⟨Nat.le_of_ble_eq_true rfl, Nat.le_of_ble_eq_true rfl⟩ (isO_fo _ _ _) (Nat.le_of_ble_eq_true rfl) dX4_image_8 (c_img) ?_
  refine p_oload0 dX4_image_11 ?_
  refine p_iconst dX4_image_12 ?_
  refine p_put fw_RX4_245 rfl rfl px_isKept dX4_image_13 ?_
  refine p_iconst dX4_image_16 ?_
  exact p_iret rfl dX4_image_17 (congrArg (fun z => some (vi z)) (by first | rfl | omega | (split <;> omega))) rfl
set_option maxRecDepth 100000 in
set_option maxHeartbeats 4000000 in
theorem c_X4_undo {G : GX} {S : St} {b : Int} (hI : IR b (S 0)) (hb : b ≤ 99999) (hk : S 3 0 = 0 ∨ S 3 0 = 1) {b2 : Int} (hI2 : IR b2 (S 2)) : Ev G mX4_undo [rf G 0] (mk G S) (some (vi (v_undo (S 3 0) (S 2)))) (mk G (va_up (va_up S 5 (tl (S 5) (v_undo (S 3 0) (S 2)))) 0 (r_undo (S 3 0) (S 0) (S 2)))) := by
  have i0 := hI2.1
  refine Ev.enter (by decide +kernel) (Nat.le_of_ble_eq_true rfl) (L := [some (rf G 0)]) rfl ?_
  refine p_oload0 dX4_undo_0 ?_
  refine p_get fl_RX4_245 gx_isKept dX4_undo_1 ?_
  refine p_if_ne ⟨by omega, by omega⟩ 14 dX4_undo_4 (by decide) (fun c4 => ?_) (fun c4 => ?_)
  · refine p_oload0 dX4_undo_14 ?_
    refine p_get fl_RX4_10 gx_fold dX4_undo_15 ?_
    refine p_oload0 dX4_undo_18 ?_
    refine p_get fl_RX4_19 gx_kept dX4_undo_19 ?_
    refine p_cV1v (M2 := mX0_becomes) ml_RX4_197 mc_X0_becomes ⟨Nat.le_of_ble_eq_true rfl, Nat.le_of_ble_eq_true rfl⟩ (isO_fo _ _ _) (Nat.le_of_ble_eq_true rfl) dX4_undo_22 (c_und) ?_
    refine p_oload0 dX4_undo_25 ?_
    refine p_get fl_RX4_10 gx_fold dX4_undo_26 ?_
    refine p_get fl_RX4_181 g0_sheepCount dX4_undo_29 ?_
    exact q_g (by unfold v_undo; rw [if_neg (by omega)]; rfl) (by show -1000000000 ≤ S 2 0; omega) (by unfold r_undo; rw [if_neg (by omega)]) rfl dX4_undo_32
  · refine p_oload0 dX4_undo_7 ?_
    refine p_ldc wc_RX4_78 dX4_undo_8 ?_
    refine p_cV1r (M2 := mX4_tell) ml_RX4_45 mc_X4_tell ⟨Nat.le_of_ble_eq_true rfl, Nat.le_of_ble_eq_true rfl⟩ (isO_x _ _) (Nat.le_of_ble_eq_true rfl) dX4_undo_10 (c_X4_tell (by omega)) ?_
    exact q_fg (by unfold v_undo; rw [if_pos (by omega)]) (by unfold r_undo; rw [if_pos (by omega)]) rfl dX4_undo_13
set_option maxRecDepth 100000 in
set_option maxHeartbeats 4000000 in
theorem c_X4_tear {G : GX} {S : St} (hk : S 3 0 = 0 ∨ S 3 0 = 1) : Ev G mX4_tear [rf G 0] (mk G S) (some (vi (v_tear (S 3 0)))) (mk G (va_up S 3 (uz (S 3) 0 0))) := by
  refine Ev.enter (by decide +kernel) (Nat.le_of_ble_eq_true rfl) (L := [some (rf G 0), none]) rfl ?_
  refine p_oload0 dX4_tear_0 ?_
  refine p_get fl_RX4_245 gx_isKept dX4_tear_1 ?_
  refine p_if_eq ⟨by omega, by omega⟩ 11 dX4_tear_4 (by decide) (fun c4 => ?_) (fun c4 => ?_)
  · refine p_iconst dX4_tear_11 ?_
    refine p_istore1 rfl (Nat.le_of_ble_eq_true rfl) dX4_tear_12 ?_
    refine p_oload0 dX4_tear_13 ?_
    refine p_iconst dX4_tear_14 ?_
    refine p_put fw_RX4_245 rfl rfl px_isKept dX4_tear_15 ?_
    refine p_iload1 dX4_tear_18 ?_
    exact p_iret rfl dX4_tear_19 (congrArg (fun z => some (vi z)) (by unfold v_tear; first | (rw [if_pos (by omega)]; done) | (rw [if_neg (by omega)]; done))) rfl
  · refine p_iconst dX4_tear_7 ?_
    refine p_goto 12 dX4_tear_8 (by decide) ?_
    refine p_istore1 rfl (Nat.le_of_ble_eq_true rfl) dX4_tear_12 ?_
    refine p_oload0 dX4_tear_13 ?_
    refine p_iconst dX4_tear_14 ?_
    refine p_put fw_RX4_245 rfl rfl px_isKept dX4_tear_15 ?_
    refine p_iload1 dX4_tear_18 ?_
    exact p_iret rfl dX4_tear_19 (congrArg (fun z => some (vi z)) (by unfold v_tear; first | (rw [if_pos (by omega)]; done) | (rw [if_neg (by omega)]; done))) rfl
