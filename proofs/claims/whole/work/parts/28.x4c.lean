def okb (be : Int) : Prop := be = -1000000004 ∨ 0 ≤ be ∧ be ≤ 99
theorem xsr_ok {V : Int → Int} {F : Int → Int → Int × Row} (hF : ∀ g s, 0 ≤ g → 0 ≤ (F g s).1) : ∀ (n : Nat) (g : Int) (a : Int × Int × Row) (lim : Int), 0 ≤ g → (∀ q, g ≤ q → q < g + n → 0 ≤ V q ∧ V q ≤ 99) → okb a.1 → (0 ≤ a.2.1 ∧ a.2.1 ≤ lim) → okb (xsr V F n g a).1 ∧ 0 ≤ (xsr V F n g a).2.1 ∧ (xsr V F n g a).2.1 ≤ lim := by
  intro n
  induction n with
  | zero => intro g a lim _ _ h1 h2; exact ⟨h1, h2⟩
  | succ n ih =>
    intro g a lim h0 hV h1 h2
    rw [xsr]
    have hf := hF g a.2.1 h0
    refine ih (g + 1) _ lim (by omega) (fun q a c => hV q (by omega) (by omega)) ?_ ?_
    · split
      · exact Or.inr (hV g (by omega) (by omega))
      · exact h1
    · split
      · rename_i q; exact ⟨hf, by show (F g a.2.1).1 ≤ lim; omega⟩
      · exact h2
set_option maxRecDepth 100000 in
set_option maxHeartbeats 4000000 in
theorem l_X4_swap2 {G : GX} {S : St} {b : Int} (hI : IR b (S 0)) (hb : b ≤ 99999) {m : Int} {v : Int} {T : Row} (hm : 0 ≤ m ∧ m < S 0 1) : ∀ (n : Nat) (g : Int) (be : Int) (so : Int) (t : Row), okb be → 0 ≤ so ∧ so ≤ 101 → m + 1 ≤ g → g ≤ S 0 1 → S 0 1 - g < (n : Int) → Rn G mX4_swap 96 [some (rf G 0), some (vi (xsr (fun o => 10 * m + o) ((fun m o s => ft qt s.toNat 0 (exR m o (S 0))) m) (S 0 1 - g).toNat g (be, so, t)).1), some (vi (xsr (fun o => 10 * m + o) ((fun m o s => ft qt s.toNat 0 (exR m o (S 0))) m) (S 0 1 - g).toNat g (be, so, t)).2.1), some (vi m), none, none] [] (mk G (va_up S 1 (xsr (fun o => 10 * m + o) ((fun m o s => ft qt s.toNat 0 (exR m o (S 0))) m) (S 0 1 - g).toNat g (be, so, t)).2.2)) (some (vi v)) (mk G (va_up (va_up S 1 T) 5 (tl (S 5) v))) → Rn G mX4_swap 35 [some (rf G 0), some (vi be), some (vi so), some (vi m), some (vi g), none] [] (mk G (va_up S 1 t)) (some (vi v)) (mk G (va_up (va_up S 1 T) 5 (tl (S 5) v))) := by
  intro n
  induction n with
  | zero =>
    intro g be so t hbe hso h0 h1 h2 K
    exfalso
    omega
  | succ n ih =>
    intro g be so t hbe hso h0 h1 h2 K
    have i0 := hI.1; have i1 := hI.2.1; have i2 := hI.2.2.1; have i3 := hI.2.2.2.1; have i4 := hI.2.2.2.2.1
    push_cast at h2
    refine p_iload4 dX4_swap_35 ?_
    refine p_oload0 dX4_swap_37 ?_
    refine p_get fl_RX4_10 gx_fold dX4_swap_38 ?_
    refine p_get fl_RX4_75 g0t_manCount dX4_swap_41 ?_
    refine p_icmp_ge ⟨by omega, by omega⟩ ⟨by omega, by omega⟩ 96 dX4_swap_44 (by decide) (fun c44 => ?_) (fun c44 => ?_)
    · rw [show (S 0 1 - g).toNat = 0 by omega, xsr] at K
      exact Rn.kp K ⟨rfl, rfl, rfl, rfl, trivial⟩
      skip
    · rw [show (S 0 1 - g).toNat = (S 0 1 - (g + 1)).toNat + 1 by omega, xsr] at K
      dsimp only at K
      have hT : IR b (exR m g (S 0)) := hI.exR (by omega) (by omega)
      have hf := ft_le (P := qt) so.toNat 0 (exR m g (S 0))
      refine p_oload0 dX4_swap_47 ?_
      refine p_cV0v (M2 := mX4_startTrial) ml_RX4_151 mc_X4_startTrial ⟨Nat.le_of_ble_eq_true rfl, Nat.le_of_ble_eq_true rfl⟩ (isO_x _ _) (Nat.le_of_ble_eq_true rfl) dX4_swap_48 (c_startTrial2) ?_
      refine p_oload0 dX4_swap_51 ?_
      refine p_get fl_RX4_16 gx_trial dX4_swap_52 ?_
      refine p_iload3 dX4_swap_55 ?_
      refine p_iload4 dX4_swap_56 ?_
      refine p_cV2v (M2 := mX0_exchange) ml_RX4_169 mc_X0_exchange ⟨Nat.le_of_ble_eq_true rfl, Nat.le_of_ble_eq_true rfl⟩ (isO_fo _ _ _) (Nat.le_of_ble_eq_true rfl) dX4_swap_58 (c1_exchange hI (by omega) (by omega) (by omega)) ?_
      refine p_oload0 dX4_swap_61 ?_
      refine p_get fl_RX4_16 gx_trial dX4_swap_62 ?_
      refine p_iload2 dX4_swap_65 ?_
      refine p_iconst dX4_swap_66 ?_
      refine p_isub dX4_swap_67 ?_
      refine p_cV1r (M2 := mX0_playTillQuiet) ml_RX4_160 mc_X0_playTillQuiet ⟨Nat.le_of_ble_eq_true rfl, Nat.le_of_ble_eq_true rfl⟩ (isO_fo _ _ _) (Nat.le_of_ble_eq_true rfl) dX4_swap_68 (c1_playTillQuiet hT (by omega) (by omega)) ?_
      rw [show so - 1 + 1 = so by omega]
      refine p_istore5 rfl (Nat.le_of_ble_eq_true rfl) dX4_swap_71 ?_
      refine p_iload5 dX4_swap_73 ?_
      refine p_iload2 dX4_swap_75 ?_
      refine p_icmp_ge ⟨by omega, by omega⟩ ⟨by omega, by omega⟩ 90 dX4_swap_76 (by decide) (fun c76 => ?_) (fun c76 => ?_)
      · rw [if_neg (by omega)] at K
        refine p_iinc4 rfl (Nat.le_of_ble_eq_true rfl) dX4_swap_90 ?_
        refine p_goto 35 dX4_swap_93 (by decide) ?_
        exact Rn.kp (ih (g + 1) be so (ft qt so.toNat 0 (exR m g (S 0))).2 hbe hso (by omega) (by omega) (by omega) K) ⟨rfl, rfl, rfl, rfl, rfl, trivial⟩
      · rw [if_pos (by omega)] at K
        refine p_iload5 dX4_swap_79 ?_
        refine p_istore2 rfl (Nat.le_of_ble_eq_true rfl) dX4_swap_81 ?_
        refine p_bipush (by decide) (by decide) dX4_swap_82 ?_
        refine p_iload3 dX4_swap_84 ?_
        refine p_imul dX4_swap_85 ?_
        refine p_iload4 dX4_swap_86 ?_
        refine p_iadd dX4_swap_88 ?_
        refine p_istore1 rfl (Nat.le_of_ble_eq_true rfl) dX4_swap_89 ?_
        refine p_iinc4 rfl (Nat.le_of_ble_eq_true rfl) dX4_swap_90 ?_
        refine p_goto 35 dX4_swap_93 (by decide) ?_
        exact Rn.kp (ih (g + 1) (10 * m + g) (ft qt so.toNat 0 (exR m g (S 0))).1 (ft qt so.toNat 0 (exR m g (S 0))).2 (Or.inr ⟨by omega, by omega⟩) (by omega) (by omega) (by omega) (by omega) K) ⟨rfl, rfl, rfl, rfl, rfl, trivial⟩
set_option maxRecDepth 100000 in
set_option maxHeartbeats 4000000 in
theorem l_X4_swap {G : GX} {S : St} {b : Int} (hI : IR b (S 0)) (hb : b ≤ 99999) : ∀ (n : Nat) (m : Int) (be : Int) (so : Int) (t : Row), okb be → 0 ≤ so ∧ so ≤ 101 → 0 ≤ m → m ≤ S 0 1 → S 0 1 - m < (n : Int) → Rn G mX4_swap 19 [some (rf G 0), some (vi be), some (vi so), some (vi m), none, none] [] (mk G (va_up S 1 t)) (some (vi (xss (fun m o s => ft qt s.toNat 0 (exR m o (S 0))) (S 0 1) (S 0 1 - m).toNat m (be, so, t)).1)) (mk G (va_up (va_up S 1 (xss (fun m o s => ft qt s.toNat 0 (exR m o (S 0))) (S 0 1) (S 0 1 - m).toNat m (be, so, t)).2.2) 5 (tl (S 5) (xss (fun m o s => ft qt s.toNat 0 (exR m o (S 0))) (S 0 1) (S 0 1 - m).toNat m (be, so, t)).1))) := by
  intro n
  induction n with
  | zero =>
    intro m be so t hbe hso h0 h1 h2
    exfalso
    omega
  | succ n ih =>
    intro m be so t hbe hso h0 h1 h2
    have i0 := hI.1; have i1 := hI.2.1; have i2 := hI.2.2.1; have i3 := hI.2.2.2.1; have i4 := hI.2.2.2.2.1
    push_cast at h2
    have hbe2 := hbe
    unfold okb at hbe2
    refine p_iload3 dX4_swap_19 ?_
    refine p_oload0 dX4_swap_20 ?_
    refine p_get fl_RX4_10 gx_fold dX4_swap_21 ?_
    refine p_get fl_RX4_75 g0t_manCount dX4_swap_24 ?_
    refine p_icmp_ge ⟨by omega, by omega⟩ ⟨by omega, by omega⟩ 102 dX4_swap_27 (by decide) (fun c27 => ?_) (fun c27 => ?_)
    · rw [show (S 0 1 - m).toNat = 0 by omega, xss]
      refine p_oload0 dX4_swap_102 ?_
      refine p_iload1 dX4_swap_103 ?_
      refine p_cV1r (M2 := mX4_answer) ml_RX4_166 mc_X4_answer ⟨Nat.le_of_ble_eq_true rfl, Nat.le_of_ble_eq_true rfl⟩ (isO_x _ _) (Nat.le_of_ble_eq_true rfl) dX4_swap_104 (c_X4_answer (S := va_up S 1 t) (by omega)) ?_
      exact p_iret rfl dX4_swap_107 rfl rfl
    · rw [show (S 0 1 - m).toNat = (S 0 1 - (m + 1)).toNat + 1 by omega, xss]
      obtain ⟨q1, q2, q3⟩ := xsr_ok (V := fun o => 10 * m + o) (F := (fun m o s => ft qt s.toNat 0 (exR m o (S 0))) m) (fun g s _ => (ft_le (P := qt) s.toNat 0 (exR m g (S 0))).1) (S 0 1 - (m + 1)).toNat (m + 1) (be, so, t) 101 (by omega) (fun q a c => ⟨by omega, by omega⟩) hbe hso
      have hn := ih (m + 1) _ _ (xsr (fun o => 10 * m + o) ((fun m o s => ft qt s.toNat 0 (exR m o (S 0))) m) (S 0 1 - (m + 1)).toNat (m + 1) (be, so, t)).2.2 q1 ⟨q2, q3⟩ (by omega) (by omega) (by omega)
      refine p_iload3 dX4_swap_30 ?_
      refine p_iconst dX4_swap_31 ?_
      refine p_iadd dX4_swap_32 ?_
      refine p_istore4 rfl (Nat.le_of_ble_eq_true rfl) dX4_swap_33 ?_
      refine Rn.kp (l_X4_swap2 hI hb ⟨h0, by omega⟩ 7 (m + 1) be so t hbe hso (by omega) (by omega) (by omega) ?_) ⟨rfl, rfl, rfl, rfl, rfl, trivial⟩
      refine p_iinc3 rfl (Nat.le_of_ble_eq_true rfl) dX4_swap_96 ?_
      refine p_goto 19 dX4_swap_99 (by decide) ?_
      exact hn
theorem e_swap (r t : Row) {b : Int} (hI : IR b r) : (xss (fun m o s => ft qt s.toNat 0 (exR m o r)) (r 1) (r 1).toNat 0 (-1000000004, (ft qt 101 0 r).1, t)).1 = v_swap r := by
  have i1 := hI.2.1
  have key : ∀ (n : Nat) (m : Int) (a : Int × Int × Row) (c : Int × Int), 0 ≤ m → m + n ≤ r 1 → (0 ≤ a.2.1 ∧ a.2.1 ≤ 101) → xeq a c → xeq (xss (fun m o s => ft qt s.toNat 0 (exR m o r)) (r 1) n m a) (bss (fun m o => (ft qt 101 0 (exR m o r)).1) (r 1) n m c) := by
    intro n
    induction n with
    | zero => intro m a c _ _ _ h; exact h
    | succ n ih =>
      intro m a c h0 h1 h2 h
      rw [xss, bss]
      have h3 := xsr_bst (V := fun o => 10 * m + o) (f := fun o => (ft qt 101 0 (exR m o r)).1) (F := fun o s => ft qt s.toNat 0 (exR m o r)) (lim := 101) (fun g hg => by show 0 ≤ 10 * m + g; omega) (fun g s _ h1 h2 => ft_F (lim := 101) s h1 (by omega)) (r 1 - (m + 1)).toNat (m + 1) a c (by omega) h2.1 h2.2 h
      exact ih (m + 1) _ _ (by omega) (by omega) h3.2 h3.1
  have hf := ft_le (P := qt) 101 0 r
  exact xeq_nn (key (r 1).toNat 0 (-1000000004, (ft qt 101 0 r).1, t) (-1, (ft qt 101 0 r).1) (by omega) (by omega) (by show 0 ≤ (ft qt 101 0 r).1 ∧ (ft qt 101 0 r).1 ≤ 101; omega) ⟨rfl, Or.inl ⟨rfl, rfl⟩⟩)
set_option maxRecDepth 100000 in
set_option maxHeartbeats 4000000 in
theorem c_X4_swap {G : GX} {S : St} {b : Int} (hI : IR b (S 0)) (hb : b ≤ 99999) : Ev G mX4_swap [rf G 0] (mk G S) (some (vi (v_swap (S 0)))) (mk G (va_up (va_up S 1 ((xss (fun m o s => ft qt s.toNat 0 (exR m o (S 0))) (S 0 1) (S 0 1).toNat 0 (-1000000004, (ft qt 101 0 (S 0)).1, (ft qt 101 0 (S 0)).2)).2.2)) 5 (tl (S 5) (v_swap (S 0))))) := by
  have i0 := hI.1; have i1 := hI.2.1; have i2 := hI.2.2.1; have i3 := hI.2.2.2.1; have i4 := hI.2.2.2.2.1
  have hf := ft_le (P := qt) 101 0 (S 0)
  refine Ev.enter (by decide +kernel) (Nat.le_of_ble_eq_true rfl) (L := [some (rf G 0), none, none, none, none, none]) rfl ?_
  refine p_oload0 dX4_swap_0 ?_
  refine p_cV0v (M2 := mX4_startTrial) ml_RX4_151 mc_X4_startTrial ⟨Nat.le_of_ble_eq_true rfl, Nat.le_of_ble_eq_true rfl⟩ (isO_x _ _) (Nat.le_of_ble_eq_true rfl) dX4_swap_1 (c_X4_startTrial) ?_
  refine p_ldc wc_RX4_78 dX4_swap_4 ?_
  refine p_istore1 rfl (Nat.le_of_ble_eq_true rfl) dX4_swap_6 ?_
  refine p_oload0 dX4_swap_7 ?_
  refine p_get fl_RX4_16 gx_trial dX4_swap_8 ?_
  refine p_bipush (by decide) (by decide) dX4_swap_11 ?_
  refine p_cV1r (M2 := mX0_playTillQuiet) ml_RX4_160 mc_X0_playTillQuiet ⟨Nat.le_of_ble_eq_true rfl, Nat.le_of_ble_eq_true rfl⟩ (isO_fo _ _ _) (Nat.le_of_ble_eq_true rfl) dX4_swap_13 (c1_playTillQuiet hI (by omega) (by omega)) ?_
  rw [show ((100 : Int) + 1).toNat = 101 from rfl]
  refine p_istore2 rfl (Nat.le_of_ble_eq_true rfl) dX4_swap_16 ?_
  refine p_iconst dX4_swap_17 ?_
  refine p_istore3 rfl (Nat.le_of_ble_eq_true rfl) dX4_swap_18 ?_
  have h := l_X4_swap (G := G) hI hb 7 0 (-1000000004) (ft qt 101 0 (S 0)).1 (ft qt 101 0 (S 0)).2 (Or.inl rfl) (by omega) (by omega) (by omega) (by omega)
  rw [Int.sub_zero] at h
  rw [← e_swap (S 0) (ft qt 101 0 (S 0)).2 hI]
  exact h
set_option maxRecDepth 100000 in
set_option maxHeartbeats 4000000 in
theorem c_X4_wearWhenOut {G : GX} {S : St} {b : Int} (hI : IR b (S 0)) (hb : b ≤ 99999) {t : Row} {o k : Int} (hk : 1 ≤ k ∧ k ≤ 100) : Ev G mX4_wearWhenOut [rf G 0, vi o, vi k] (mk G (va_up S 1 t)) (some (vi (spC (S 0) k o))) (mk G (va_up S 1 (spQ (S 0) k o))) := by
  have i1 := hI.2.1
  have hW : IR b (woL o (S 0 1).toNat 0 (S 0)) := IR.woL _ 0 _ hI (by omega) (by omega)
  have hM : IR (b + k.toNat) (spQ (S 0) k o) := IR.minsR k.toNat hW
  have hw1 := (woL_1 o (S 0 1).toNat 0 (S 0) (by omega)).1
  have hm1 : ∀ (n : Nat) (b : Int) (r : Row), IR b r → minsR n r 1 = r 1 := fun n => by
    induction n with
    | zero => intro b r _; rfl
    | succ n ih => intro b r h; rw [minsR, ih _ _ h.minR]; exact (minR_lo h).2.1
  have hq1 : spQ (S 0) k o 1 = S 0 1 := (hm1 k.toNat b _ hW).trans hw1
  refine Ev.enter (by decide +kernel) (Nat.le_of_ble_eq_true rfl) (L := [some (rf G 0), some (vi o), some (vi k)]) rfl ?_
  refine p_oload0 dX4_wearWhenOut_0 ?_
  refine p_cV0v (M2 := mX4_startTrial) ml_RX4_151 mc_X4_startTrial ⟨Nat.le_of_ble_eq_true rfl, Nat.le_of_ble_eq_true rfl⟩ (isO_x _ _) (Nat.le_of_ble_eq_true rfl) dX4_wearWhenOut_1 (c_startTrial2) ?_
  refine p_oload0 dX4_wearWhenOut_4 ?_
  refine p_get fl_RX4_16 gx_trial dX4_wearWhenOut_5 ?_
  refine p_iload1 dX4_wearWhenOut_8 ?_
  refine p_cV1v (M2 := mX0_wearOut) ml_RX4_252 mc_X0_wearOut ⟨Nat.le_of_ble_eq_true rfl, Nat.le_of_ble_eq_true rfl⟩ (isO_fo _ _ _) (Nat.le_of_ble_eq_true rfl) dX4_wearWhenOut_9 (c1_wearOut hI) ?_
  refine p_oload0 dX4_wearWhenOut_12 ?_
  refine p_get fl_RX4_16 gx_trial dX4_wearWhenOut_13 ?_
  refine p_iload2 dX4_wearWhenOut_16 ?_
  refine p_cV1v (M2 := mX0_play) ml_RX4_134 mc_X0_play ⟨Nat.le_of_ble_eq_true rfl, Nat.le_of_ble_eq_true rfl⟩ (isO_fo _ _ _) (Nat.le_of_ble_eq_true rfl) dX4_wearWhenOut_17 (c1_play hW (by omega) (by omega)) ?_
  refine p_oload0 dX4_wearWhenOut_20 ?_
  refine p_get fl_RX4_16 gx_trial dX4_wearWhenOut_21 ?_
  refine p_iload1 dX4_wearWhenOut_24 ?_
  refine p_cV1r (M2 := mX0_wearWithout) ml_RX4_145 mc_X0_wearWithout ⟨Nat.le_of_ble_eq_true rfl, Nat.le_of_ble_eq_true rfl⟩ (isO_fo _ _ _) (Nat.le_of_ble_eq_true rfl) dX4_wearWhenOut_25 (c1_wearWithout (r := spQ (S 0) k o) hM) ?_
  exact p_iret rfl dX4_wearWhenOut_28 (congrArg (fun z => some (vi z)) (by unfold spC; rw [hq1])) rfl
theorem bShl_cc : ∀ n, n < 7 → (Int32.ofInt 1 <<< (Int32.ofInt ((n : Nat) : Int) &&& 31)).toInt = 2 ^ n := by decide +kernel
theorem bShl_le {n : Int} (h0 : 0 ≤ n) (h6 : n ≤ 6) : 1 ≤ bShl 1 n ∧ bShl 1 n ≤ 64 := by
  have h := bShl_cc n.toNat (by omega)
  rw [show ((n.toNat : Nat) : Int) = n by omega] at h
  unfold bShl
  rw [h]
  rcases (show n = 0 ∨ n = 1 ∨ n = 2 ∨ n = 3 ∨ n = 4 ∨ n = 5 ∨ n = 6 by omega) with q | q | q | q | q | q | q <;> subst q <;> decide
set_option maxRecDepth 100000 in
set_option maxHeartbeats 4000000 in
theorem l_X4_spare {G : GX} {S : St} {b : Int} (hI : IR b (S 0)) (hb : b ≤ 99999) {k w : Int} (hk : 1 ≤ k ∧ k ≤ 40) (hw : 0 ≤ w ∧ w ≤ 594) : ∀ (n : Nat) (g : Int) (be : Int) (fe : Int) (t : Row), (be = -1000000004 ∨ 0 ≤ be ∧ be ≤ 63) → 0 ≤ fe ∧ fe ≤ 7 → 0 ≤ g → g ≤ bShl 1 (S 0 1) → bShl 1 (S 0 1) - g < (n : Int) → Rn G mX4_spare 38 [some (rf G 0), some (vi k), some (vi w), some (vi be), some (vi fe), some (vi g), none] [] (mk G (va_up S 1 t)) (some (vi (xsp (spQ (S 0) k) (spC (S 0) k) w (bShl 1 (S 0 1) - g).toNat g (be, fe, t)).1)) (mk G (va_up (va_up S 1 (xsp (spQ (S 0) k) (spC (S 0) k) w (bShl 1 (S 0 1) - g).toNat g (be, fe, t)).2.2) 5 (tl (S 5) (xsp (spQ (S 0) k) (spC (S 0) k) w (bShl 1 (S 0 1) - g).toNat g (be, fe, t)).1))) := by
  intro n
  induction n with
  | zero =>
    intro g be fe t hbe hfe h0 h1 h2
    exfalso
    omega
  | succ n ih =>
    intro g be fe t hbe hfe h0 h1 h2
    have i0 := hI.1; have i1 := hI.2.1; have i2 := hI.2.2.1; have i3 := hI.2.2.2.1; have i4 := hI.2.2.2.2.1
    push_cast at h2
    have hsh := bShl_le (n := S 0 1) (by omega) (by omega)
    have hsc : 0 ≤ spC (S 0) k g ∧ spC (S 0) k g ≤ 594 := by
      have hW : IR b (woL g (S 0 1).toNat 0 (S 0)) := IR.woL _ 0 _ hI (by omega) (by omega)
      have hM : IR (b + k.toNat) (spQ (S 0) k g) := IR.minsR k.toNat hW
      have := lsum_le (f := wwo (spQ (S 0) k g) g) (c := 99) (by omega) (S 0 1).toNat 0 0 (fun q a c => by have := hM.2.2.2.2.2.1 q a (by omega); unfold wwo; split <;> omega)
      unfold spC; omega
    refine p_iload5 dX4_spare_38 ?_
    refine p_iconst dX4_spare_40 ?_
    refine p_oload0 dX4_spare_41 ?_
    refine p_get fl_RX4_10 gx_fold dX4_spare_42 ?_
    refine p_get fl_RX4_75 g0t_manCount dX4_spare_45 ?_
    refine p_ishl dX4_spare_48 ?_
    refine p_icmp_ge ⟨by omega, by omega⟩ ⟨by omega, by omega⟩ 90 dX4_spare_49 (by decide) (fun c49 => ?_) (fun c49 => ?_)
    · rw [show (bShl 1 (S 0 1) - g).toNat = 0 by omega, xsp]
      refine p_oload0 dX4_spare_90 ?_
      refine p_iload3 dX4_spare_91 ?_
      refine p_cV1r (M2 := mX4_answer) ml_RX4_166 mc_X4_answer ⟨Nat.le_of_ble_eq_true rfl, Nat.le_of_ble_eq_true rfl⟩ (isO_x _ _) (Nat.le_of_ble_eq_true rfl) dX4_spare_92 (c_X4_answer (S := va_up S 1 t) (by omega)) ?_
      exact p_iret rfl dX4_spare_95 rfl rfl
    · rw [show (bShl 1 (S 0 1) - g).toNat = (bShl 1 (S 0 1) - (g + 1)).toNat + 1 by omega, xsp]
      dsimp only
      have hp := pcn_le g
      refine p_iload5 dX4_spare_52 ?_
      refine p_cS1r (M2 := mJ6_bitCount_0f7a4) ms_RX4_173 mc_J6_bitCount_0f7a4 ⟨Nat.le_of_ble_eq_true rfl, Nat.le_of_ble_eq_true rfl⟩ (Nat.le_of_ble_eq_true rfl) dX4_spare_54 (c_J6_bitCount_0f7a4 (by omega) (by omega)) ?_
      refine p_istore6 rfl (Nat.le_of_ble_eq_true rfl) dX4_spare_57 ?_
      refine p_iload6 dX4_spare_59 ?_
      refine p_iload4 dX4_spare_61 ?_
      refine p_icmp_ge ⟨by omega, by omega⟩ ⟨by omega, by omega⟩ 84 dX4_spare_63 (by decide) (fun c63 => ?_) (fun c63 => ?_)
      · rw [if_neg (by omega)]
        refine p_iinc5 rfl (Nat.le_of_ble_eq_true rfl) dX4_spare_84 ?_
        refine p_goto 38 dX4_spare_87 (by decide) ?_
        exact Rn.kp (ih (g + 1) be fe _ hbe hfe (by omega) (by omega) (by omega)) ⟨rfl, rfl, rfl, rfl, rfl, rfl, trivial⟩
      · rw [if_pos (by omega)]
        refine p_oload0 dX4_spare_66 ?_
        refine p_iload5 dX4_spare_67 ?_
        refine p_iload1 dX4_spare_69 ?_
        refine p_cV2r (M2 := mX4_wearWhenOut) ml_RX4_178 mc_X4_wearWhenOut ⟨Nat.le_of_ble_eq_true rfl, Nat.le_of_ble_eq_true rfl⟩ (isO_x _ _) (Nat.le_of_ble_eq_true rfl) dX4_spare_70 (c_X4_wearWhenOut hI hb (by omega)) ?_
        refine p_iload2 dX4_spare_73 ?_
        refine p_icmp_gt ⟨by omega, by omega⟩ ⟨by omega, by omega⟩ 84 dX4_spare_74 (by decide) (fun c74 => ?_) (fun c74 => ?_)
        · rw [if_neg (by omega)]
          refine p_iinc5 rfl (Nat.le_of_ble_eq_true rfl) dX4_spare_84 ?_
          refine p_goto 38 dX4_spare_87 (by decide) ?_
          exact Rn.kp (ih (g + 1) be fe _ hbe hfe (by omega) (by omega) (by omega)) ⟨rfl, rfl, rfl, rfl, rfl, rfl, trivial⟩
        · rw [if_pos (by omega)]
          refine p_iload6 dX4_spare_77 ?_
          refine p_istore4 rfl (Nat.le_of_ble_eq_true rfl) dX4_spare_79 ?_
          refine p_iload5 dX4_spare_81 ?_
          refine p_istore3 rfl (Nat.le_of_ble_eq_true rfl) dX4_spare_83 ?_
          refine p_iinc5 rfl (Nat.le_of_ble_eq_true rfl) dX4_spare_84 ?_
          refine p_goto 38 dX4_spare_87 (by decide) ?_
          exact Rn.kp (ih (g + 1) g (pcn g) _ (by omega) (by omega) (by omega) (by omega) (by omega)) ⟨rfl, rfl, rfl, rfl, rfl, rfl, trivial⟩
theorem e_spare (r t : Row) {k w : Int} : (xsp (spQ r k) (spC r k) w (bShl 1 (r 1)).toNat 0 (-1000000004, 7, t)).1 = nn (s_spare r k w) := by
  have key : ∀ (n : Nat) (g : Int) (a : Int × Int × Row) (c : Int), 0 ≤ g → ((a.1 = -1000000004 ∧ c = -1 ∧ a.2.1 = 7) ∨ (a.1 = c ∧ 0 ≤ c ∧ a.2.1 = pcn c)) → (xsp (spQ r k) (spC r k) w n g a).1 = nn (bsp (spC r k) w n g c) := by
    intro n
    induction n with
    | zero =>
      intro g a c _ h
      rw [xsp, bsp]
      unfold nn
      rcases h with ⟨h1, h2, h3⟩ | ⟨h1, h2, h3⟩
      · rw [h1, h2]; rfl
      · rw [h1, if_neg (by omega)]
    | succ n ih =>
      intro g a c h0 h
      rw [xsp, bsp]
      refine ih (g + 1) _ _ (by omega) ?_
      have hp := pcn_le g
      by_cases q : pcn g < a.2.1
      · have q2 : c < 0 ∨ pcn g < pcn c := by rcases h with h | h <;> omega
        rw [if_pos q, if_pos q2]
        by_cases q3 : spC r k g ≤ w
        · rw [if_pos q3, if_pos q3]; exact Or.inr ⟨rfl, h0, rfl⟩
        · rw [if_neg q3, if_neg q3]; exact h
      · have q2 : ¬ (c < 0 ∨ pcn g < pcn c) := by rcases h with h | h <;> omega
        rw [if_neg q, if_neg q2]; exact h
  exact key (bShl 1 (r 1)).toNat 0 (-1000000004, 7, t) (-1) (by omega) (Or.inl ⟨rfl, rfl, rfl⟩)
set_option maxRecDepth 100000 in
set_option maxHeartbeats 4000000 in
theorem c_X4_spare {G : GX} {S : St} {b : Int} (hI : IR b (S 0)) (hb : b ≤ 99999) {k : Int} (h_k : inR k) {w : Int} (h_w : inR w) : Ev G mX4_spare [rf G 0, vi k, vi w] (mk G S) (some (vi (v_spare (S 0) k w))) (mk G (va_up (va_up S 1 (if (1 ≤ k ∧ k ≤ 40) ∧ (0 ≤ w ∧ w ≤ 594) then (xsp (spQ (S 0) k) (spC (S 0) k) w (bShl 1 (S 0 1)).toNat 0 (-1000000004, 7, S 1)).2.2 else S 1)) 5 (tl (S 5) (v_spare (S 0) k w)))) := by
  have i0 := hI.1; have i1 := hI.2.1; have i2 := hI.2.2.1; have i3 := hI.2.2.2.1; have i4 := hI.2.2.2.2.1
  obtain ⟨k1, k2⟩ := h_k
  obtain ⟨w1, w2⟩ := h_w
  have hsh := bShl_le (n := S 0 1) (by omega) (by omega)
  refine Ev.enter (by decide +kernel) (Nat.le_of_ble_eq_true rfl) (L := [some (rf G 0), some (vi k), some (vi w), none, none, none, none]) rfl ?_
  refine p_iload1 dX4_spare_0 ?_
  refine p_iconst dX4_spare_1 ?_
  refine p_bipush (by decide) (by decide) dX4_spare_2 ?_
  refine p_cS3r (M2 := mX4_isWithin) ms_RX4_67 mc_X4_isWithin ⟨Nat.le_of_ble_eq_true rfl, Nat.le_of_ble_eq_true rfl⟩ (Nat.le_of_ble_eq_true rfl) dX4_spare_4 (c_X4_isWithin ⟨by omega, by omega⟩ ⟨by omega, by omega⟩ ⟨by omega, by omega⟩) ?_
  refine p_bif_eq 21 dX4_spare_7 (by decide) (fun c7 => ?_) (fun c7 => ?_)
  · refine p_oload0 dX4_spare_21 ?_
    refine p_ldc wc_RX4_44 dX4_spare_22 ?_
    refine p_cV1r (M2 := mX4_tell) ml_RX4_45 mc_X4_tell ⟨Nat.le_of_ble_eq_true rfl, Nat.le_of_ble_eq_true rfl⟩ (isO_x _ _) (Nat.le_of_ble_eq_true rfl) dX4_spare_24 (c_X4_tell (by omega)) ?_
    exact q_fT (by unfold v_spare; (try split) <;> (try split) <;> (try split) <;> (try split) <;> (try split) <;> (try split) <;> (try split) <;> omega) (by first | rfl | (rw [if_pos (by omega)]; done) | (rw [if_neg (by omega)]; done)) rfl dX4_spare_27
  · refine p_iload2 dX4_spare_10 ?_
    refine p_iconst dX4_spare_11 ?_
    refine p_sipush (by decide) (by decide) dX4_spare_12 ?_
    refine p_cS3r (M2 := mX4_isWithin) ms_RX4_67 mc_X4_isWithin ⟨Nat.le_of_ble_eq_true rfl, Nat.le_of_ble_eq_true rfl⟩ (Nat.le_of_ble_eq_true rfl) dX4_spare_15 (c_X4_isWithin ⟨by omega, by omega⟩ ⟨by omega, by omega⟩ ⟨by omega, by omega⟩) ?_
    refine p_bif_ne 28 dX4_spare_18 (by decide) (fun c18 => ?_) (fun c18 => ?_)
    · refine p_ldc wc_RX4_78 dX4_spare_28 ?_
      refine p_istore3 rfl (Nat.le_of_ble_eq_true rfl) dX4_spare_30 ?_
      refine p_bipush (by decide) (by decide) dX4_spare_31 ?_
      refine p_istore4 rfl (Nat.le_of_ble_eq_true rfl) dX4_spare_33 ?_
      refine p_iconst dX4_spare_35 ?_
      refine p_istore5 rfl (Nat.le_of_ble_eq_true rfl) dX4_spare_36 ?_
      have h := l_X4_spare (G := G) hI hb (k := k) (w := w) (by omega) (by omega) 65 0 (-1000000004) 7 (S 1) (Or.inl rfl) (by omega) (by omega) (by omega) (by omega)
      rw [vup_same, Int.sub_zero] at h
      rw [if_pos (by omega), show v_spare (S 0) k w = (xsp (spQ (S 0) k) (spC (S 0) k) w (bShl 1 (S 0 1)).toNat 0 (-1000000004, 7, S 1)).1 from by unfold v_spare; rw [if_pos (by omega)]; exact (e_spare (S 0) (S 1)).symm]
      exact h
    · refine p_oload0 dX4_spare_21 ?_
      refine p_ldc wc_RX4_44 dX4_spare_22 ?_
      refine p_cV1r (M2 := mX4_tell) ml_RX4_45 mc_X4_tell ⟨Nat.le_of_ble_eq_true rfl, Nat.le_of_ble_eq_true rfl⟩ (isO_x _ _) (Nat.le_of_ble_eq_true rfl) dX4_spare_24 (c_X4_tell (by omega)) ?_
      exact q_fT (by unfold v_spare; (try split) <;> (try split) <;> (try split) <;> (try split) <;> (try split) <;> (try split) <;> (try split) <;> omega) (by first | rfl | (rw [if_pos (by omega)]; done) | (rw [if_neg (by omega)]; done)) rfl dX4_spare_27
