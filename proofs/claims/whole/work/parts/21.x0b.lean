set_option maxRecDepth 100000 in
set_option maxHeartbeats 4000000 in
theorem l_X0_wantsOfAll {G : GX} {S : St} {j : Fin 3} {b : Int} (hI : IR b (S j)) : ∀ (n : Nat) (p : Int) (a : Int), 0 ≤ p → p ≤ S j 0 → S j 0 - p < (n : Int) → Rn G mX0_wantsOfAll 4 [some (rf G (fo j)), some (vi a), some (vi p)] [] (mk G (S)) (some (vi (lsum (wnt (S j)) (S j 0 - p).toNat p a))) (mk G (S)) := by
  intro n
  induction n with
  | zero =>
    intro p a h0 h1 h2
    exfalso
    omega
  | succ n ih =>
    intro p a h0 h1 h2
    have i0 := hI.1; have i1 := hI.2.1; have i4 := hI.2.2.2.2.1
    push_cast at h2
    refine p_iload2 dX0_wantsOfAll_4 ?_
    refine p_oload0 dX0_wantsOfAll_5 ?_
    refine p_get fl_RX0_38 gf_sheepCount dX0_wantsOfAll_6 ?_
    refine p_icmp_ge ⟨by omega, by omega⟩ ⟨by omega, by omega⟩ 27 dX0_wantsOfAll_9 (by decide) (fun c9 => ?_) (fun c9 => ?_)
    · rw [show (S j 0 - p).toNat = 0 by omega]
      refine p_iload1 dX0_wantsOfAll_27 ?_
      exact p_iret rfl dX0_wantsOfAll_28 rfl rfl
    · rw [show (S j 0 - p).toNat = (S j 0 - (p + 1)).toNat + 1 by omega]
      refine p_iload1 dX0_wantsOfAll_12 ?_
      refine p_oload0 dX0_wantsOfAll_13 ?_
      refine p_get fl_RX0_23 gf_wants dX0_wantsOfAll_14 ?_
      refine p_iload2 dX0_wantsOfAll_17 ?_
      refine p_iald al_wants (by omega) (by omega) dX0_wantsOfAll_18 ?_
      refine p_iadd dX0_wantsOfAll_19 ?_
      refine p_istore1 rfl (Nat.le_of_ble_eq_true rfl) dX0_wantsOfAll_20 ?_
      refine p_iinc2 rfl (Nat.le_of_ble_eq_true rfl) dX0_wantsOfAll_21 ?_
      refine p_goto 4 dX0_wantsOfAll_24 (by decide) ?_
      exact ih (p + 1) _ (by omega) (by omega) (by omega)
set_option maxRecDepth 100000 in
set_option maxHeartbeats 4000000 in
theorem c_X0_wantsOfAll {G : GX} {S : St} {j : Fin 3} {b : Int} (hI : IR b (S j)) : Ev G mX0_wantsOfAll [rf G (fo j)] (mk G S) (some (vi (wsm (S j)))) (mk G (S)) := by
  have i0 := hI.1; have i1 := hI.2.1; have i4 := hI.2.2.2.2.1
  refine Ev.enter (by decide +kernel) (Nat.le_of_ble_eq_true rfl) (L := [some (rf G (fo j)), none, none]) rfl ?_
  refine p_iconst dX0_wantsOfAll_0 ?_
  refine p_istore1 rfl (Nat.le_of_ble_eq_true rfl) dX0_wantsOfAll_1 ?_
  refine p_iconst dX0_wantsOfAll_2 ?_
  refine p_istore2 rfl (Nat.le_of_ble_eq_true rfl) dX0_wantsOfAll_3 ?_
  have h := l_X0_wantsOfAll (G := G) hI 9 0 0 (by omega) (by omega) (by omega); rw [Int.sub_zero] at h; exact h
set_option maxRecDepth 100000 in
set_option maxHeartbeats 4000000 in
theorem l_X0_seenByAll {G : GX} {S : St} {j : Fin 3} {b : Int} (hI : IR b (S j)) : ∀ (n : Nat) (p : Int) (a : Int), 0 ≤ p → p ≤ S j 0 → S j 0 - p < (n : Int) → Rn G mX0_seenByAll 4 [some (rf G (fo j)), some (vi a), some (vi p)] [] (mk G (S)) (some (vi (lsum (sen (S j)) (S j 0 - p).toNat p a))) (mk G (S)) := by
  intro n
  induction n with
  | zero =>
    intro p a h0 h1 h2
    exfalso
    omega
  | succ n ih =>
    intro p a h0 h1 h2
    have i0 := hI.1; have i1 := hI.2.1; have i4 := hI.2.2.2.2.1
    push_cast at h2
    refine p_iload2 dX0_seenByAll_4 ?_
    refine p_oload0 dX0_seenByAll_5 ?_
    refine p_get fl_RX0_38 gf_sheepCount dX0_seenByAll_6 ?_
    refine p_icmp_ge ⟨by omega, by omega⟩ ⟨by omega, by omega⟩ 27 dX0_seenByAll_9 (by decide) (fun c9 => ?_) (fun c9 => ?_)
    · rw [show (S j 0 - p).toNat = 0 by omega]
      refine p_iload1 dX0_seenByAll_27 ?_
      exact p_iret rfl dX0_seenByAll_28 rfl rfl
    · rw [show (S j 0 - p).toNat = (S j 0 - (p + 1)).toNat + 1 by omega]
      refine p_iload1 dX0_seenByAll_12 ?_
      refine p_oload0 dX0_seenByAll_13 ?_
      refine p_get fl_RX0_26 gf_seen dX0_seenByAll_14 ?_
      refine p_iload2 dX0_seenByAll_17 ?_
      refine p_iald al_seen (by omega) (by omega) dX0_seenByAll_18 ?_
      refine p_iadd dX0_seenByAll_19 ?_
      refine p_istore1 rfl (Nat.le_of_ble_eq_true rfl) dX0_seenByAll_20 ?_
      refine p_iinc2 rfl (Nat.le_of_ble_eq_true rfl) dX0_seenByAll_21 ?_
      refine p_goto 4 dX0_seenByAll_24 (by decide) ?_
      exact ih (p + 1) _ (by omega) (by omega) (by omega)
set_option maxRecDepth 100000 in
set_option maxHeartbeats 4000000 in
theorem c_X0_seenByAll {G : GX} {S : St} {j : Fin 3} {b : Int} (hI : IR b (S j)) : Ev G mX0_seenByAll [rf G (fo j)] (mk G S) (some (vi (ssm (S j)))) (mk G (S)) := by
  have i0 := hI.1; have i1 := hI.2.1; have i4 := hI.2.2.2.2.1
  refine Ev.enter (by decide +kernel) (Nat.le_of_ble_eq_true rfl) (L := [some (rf G (fo j)), none, none]) rfl ?_
  refine p_iconst dX0_seenByAll_0 ?_
  refine p_istore1 rfl (Nat.le_of_ble_eq_true rfl) dX0_seenByAll_1 ?_
  refine p_iconst dX0_seenByAll_2 ?_
  refine p_istore2 rfl (Nat.le_of_ble_eq_true rfl) dX0_seenByAll_3 ?_
  have h := l_X0_seenByAll (G := G) hI 9 0 0 (by omega) (by omega) (by omega); rw [Int.sub_zero] at h; exact h
set_option maxRecDepth 100000 in
set_option maxHeartbeats 4000000 in
theorem l_X0_sleepers {G : GX} {S : St} {j : Fin 3} {b : Int} (hI : IR b (S j)) : ∀ (n : Nat) (p : Int) (a : Int), 0 ≤ p → p ≤ S j 0 → S j 0 - p < (n : Int) → Rn G mX0_sleepers 4 [some (rf G (fo j)), some (vi a), some (vi p)] [] (mk G (S)) (some (vi (lset (fun p => decide ((S j) (18 + 3 * p) = 0)) (S j 0 - p).toNat p a))) (mk G (S)) := by
  intro n
  induction n with
  | zero =>
    intro p a h0 h1 h2
    exfalso
    omega
  | succ n ih =>
    intro p a h0 h1 h2
    have i0 := hI.1; have i1 := hI.2.1; have i4 := hI.2.2.2.2.1
    push_cast at h2
    refine p_iload2 dX0_sleepers_4 ?_
    refine p_oload0 dX0_sleepers_5 ?_
    refine p_get fl_RX0_38 gf_sheepCount dX0_sleepers_6 ?_
    refine p_icmp_ge ⟨by omega, by omega⟩ ⟨by omega, by omega⟩ 32 dX0_sleepers_9 (by decide) (fun c9 => ?_) (fun c9 => ?_)
    · rw [show (S j 0 - p).toNat = 0 by omega]
      refine p_iload1 dX0_sleepers_32 ?_
      exact p_iret rfl dX0_sleepers_33 rfl rfl
    · rw [show (S j 0 - p).toNat = (S j 0 - (p + 1)).toNat + 1 by omega, lset]
      refine p_oload0 dX0_sleepers_12 ?_
      refine p_iload2 dX0_sleepers_13 ?_
      refine p_cV1r (M2 := mX0_isAsleep) ml_RX0_52 mc_X0_isAsleep ⟨Nat.le_of_ble_eq_true rfl, Nat.le_of_ble_eq_true rfl⟩ (isO_fo _ _ _) (Nat.le_of_ble_eq_true rfl) dX0_sleepers_14 (c_X0_isAsleep hI (by omega) (by omega)) ?_
      refine p_bif_eq 26 dX0_sleepers_17 (by decide) (fun c17 => ?_) (fun c17 => ?_)
      · rw [if_neg (by simpa using c17)]
        refine p_iinc2 rfl (Nat.le_of_ble_eq_true rfl) dX0_sleepers_26 ?_
        refine p_goto 4 dX0_sleepers_29 (by decide) ?_
        exact ih (p + 1) _ (by omega) (by omega) (by omega)
      · rw [if_pos (by simpa using c17)]
        refine p_iload1 dX0_sleepers_20 ?_
        refine p_iconst dX0_sleepers_21 ?_
        refine p_iload2 dX0_sleepers_22 ?_
        refine p_ishl dX0_sleepers_23 ?_
        refine p_ior dX0_sleepers_24 ?_
        refine p_istore1 rfl (Nat.le_of_ble_eq_true rfl) dX0_sleepers_25 ?_
        refine p_iinc2 rfl (Nat.le_of_ble_eq_true rfl) dX0_sleepers_26 ?_
        refine p_goto 4 dX0_sleepers_29 (by decide) ?_
        exact ih (p + 1) _ (by omega) (by omega) (by omega)
set_option maxRecDepth 100000 in
set_option maxHeartbeats 4000000 in
theorem c_X0_sleepers {G : GX} {S : St} {j : Fin 3} {b : Int} (hI : IR b (S j)) : Ev G mX0_sleepers [rf G (fo j)] (mk G S) (some (vi (slp (S j)))) (mk G (S)) := by
  have i0 := hI.1; have i1 := hI.2.1; have i4 := hI.2.2.2.2.1
  refine Ev.enter (by decide +kernel) (Nat.le_of_ble_eq_true rfl) (L := [some (rf G (fo j)), none, none]) rfl ?_
  refine p_iconst dX0_sleepers_0 ?_
  refine p_istore1 rfl (Nat.le_of_ble_eq_true rfl) dX0_sleepers_1 ?_
  refine p_iconst dX0_sleepers_2 ?_
  refine p_istore2 rfl (Nat.le_of_ble_eq_true rfl) dX0_sleepers_3 ?_
  have h := l_X0_sleepers (G := G) hI 9 0 0 (by omega) (by omega) (by omega); rw [Int.sub_zero] at h; exact h
set_option maxRecDepth 100000 in
set_option maxHeartbeats 4000000 in
theorem l_X0_passers {G : GX} {S : St} {j : Fin 3} {b : Int} (hI : IR b (S j)) : ∀ (n : Nat) (p : Int) (a : Int), 0 ≤ p → p ≤ S j 1 → S j 1 - p < (n : Int) → Rn G mX0_passers 4 [some (rf G (fo j)), some (vi a), some (vi p)] [] (mk G (S)) (some (vi (lset (fun p => decide ((S j) (6 + 2 * p) < 99)) (S j 1 - p).toNat p a))) (mk G (S)) := by
  intro n
  induction n with
  | zero =>
    intro p a h0 h1 h2
    exfalso
    omega
  | succ n ih =>
    intro p a h0 h1 h2
    have i0 := hI.1; have i1 := hI.2.1; have i4 := hI.2.2.2.2.1
    push_cast at h2
    refine p_iload2 dX0_passers_4 ?_
    refine p_oload0 dX0_passers_5 ?_
    refine p_get fl_RX0_35 gf_manCount dX0_passers_6 ?_
    refine p_icmp_ge ⟨by omega, by omega⟩ ⟨by omega, by omega⟩ 32 dX0_passers_9 (by decide) (fun c9 => ?_) (fun c9 => ?_)
    · rw [show (S j 1 - p).toNat = 0 by omega]
      refine p_iload1 dX0_passers_32 ?_
      exact p_iret rfl dX0_passers_33 rfl rfl
    · rw [show (S j 1 - p).toNat = (S j 1 - (p + 1)).toNat + 1 by omega, lset]
      refine p_oload0 dX0_passers_12 ?_
      refine p_iload2 dX0_passers_13 ?_
      refine p_cV1r (M2 := mX0_canPass) ml_RX0_56 mc_X0_canPass ⟨Nat.le_of_ble_eq_true rfl, Nat.le_of_ble_eq_true rfl⟩ (isO_fo _ _ _) (Nat.le_of_ble_eq_true rfl) dX0_passers_14 (c_X0_canPass hI (by omega) (by omega)) ?_
      refine p_bif_eq 26 dX0_passers_17 (by decide) (fun c17 => ?_) (fun c17 => ?_)
      · rw [if_neg (by simpa using c17)]
        refine p_iinc2 rfl (Nat.le_of_ble_eq_true rfl) dX0_passers_26 ?_
        refine p_goto 4 dX0_passers_29 (by decide) ?_
        exact ih (p + 1) _ (by omega) (by omega) (by omega)
      · rw [if_pos (by simpa using c17)]
        refine p_iload1 dX0_passers_20 ?_
        refine p_iconst dX0_passers_21 ?_
        refine p_iload2 dX0_passers_22 ?_
        refine p_ishl dX0_passers_23 ?_
        refine p_ior dX0_passers_24 ?_
        refine p_istore1 rfl (Nat.le_of_ble_eq_true rfl) dX0_passers_25 ?_
        refine p_iinc2 rfl (Nat.le_of_ble_eq_true rfl) dX0_passers_26 ?_
        refine p_goto 4 dX0_passers_29 (by decide) ?_
        exact ih (p + 1) _ (by omega) (by omega) (by omega)
set_option maxRecDepth 100000 in
set_option maxHeartbeats 4000000 in
theorem c_X0_passers {G : GX} {S : St} {j : Fin 3} {b : Int} (hI : IR b (S j)) : Ev G mX0_passers [rf G (fo j)] (mk G S) (some (vi (pss (S j)))) (mk G (S)) := by
  have i0 := hI.1; have i1 := hI.2.1; have i4 := hI.2.2.2.2.1
  refine Ev.enter (by decide +kernel) (Nat.le_of_ble_eq_true rfl) (L := [some (rf G (fo j)), none, none]) rfl ?_
  refine p_iconst dX0_passers_0 ?_
  refine p_istore1 rfl (Nat.le_of_ble_eq_true rfl) dX0_passers_1 ?_
  refine p_iconst dX0_passers_2 ?_
  refine p_istore2 rfl (Nat.le_of_ble_eq_true rfl) dX0_passers_3 ?_
  have h := l_X0_passers (G := G) hI 9 0 0 (by omega) (by omega) (by omega); rw [Int.sub_zero] at h; exact h
def wwo (r : Row) (s : Int) : Int → Int := fun m => if bAnd (bShr s m) 1 = 1 then 0 else r (6 + 2 * m)
set_option maxRecDepth 100000 in
set_option maxHeartbeats 4000000 in
theorem l_X0_wearWithout {G : GX} {S : St} {j : Fin 3} {b : Int} (hI : IR b (S j)) {s : Int} : ∀ (n : Nat) (p : Int) (a : Int), 0 ≤ p → p ≤ S j 1 → S j 1 - p < (n : Int) → Rn G mX0_wearWithout 4 [some (rf G (fo j)), some (vi s), some (vi a), some (vi p)] [] (mk G (S)) (some (vi (lsum (wwo (S j) s) (S j 1 - p).toNat p a))) (mk G (S)) := by
  intro n
  induction n with
  | zero =>
    intro p a h0 h1 h2
    exfalso
    omega
  | succ n ih =>
    intro p a h0 h1 h2
    have i0 := hI.1; have i1 := hI.2.1; have i4 := hI.2.2.2.2.1
    push_cast at h2
    refine p_iload3 dX0_wearWithout_4 ?_
    refine p_oload0 dX0_wearWithout_5 ?_
    refine p_get fl_RX0_35 gf_manCount dX0_wearWithout_6 ?_
    refine p_icmp_ge ⟨by omega, by omega⟩ ⟨by omega, by omega⟩ 35 dX0_wearWithout_9 (by decide) (fun c9 => ?_) (fun c9 => ?_)
    · rw [show (S j 1 - p).toNat = 0 by omega]
      refine p_iload2 dX0_wearWithout_35 ?_
      exact p_iret rfl dX0_wearWithout_36 rfl rfl
    · rw [show (S j 1 - p).toNat = (S j 1 - (p + 1)).toNat + 1 by omega, lsum]
      refine p_iload3 dX0_wearWithout_12 ?_
      refine p_iload1 dX0_wearWithout_13 ?_
      refine p_cS2r (M2 := mX0_isIn) ms_RX0_48 mc_X0_isIn ⟨Nat.le_of_ble_eq_true rfl, Nat.le_of_ble_eq_true rfl⟩ (Nat.le_of_ble_eq_true rfl) dX0_wearWithout_14 (c_X0_isIn) ?_
      refine p_bif_ne 29 dX0_wearWithout_17 (by decide) (fun c17 => ?_) (fun c17 => ?_)
      · rw [show wwo (S j) s p = 0 by unfold wwo; rw [if_pos c17], Int.add_zero]
        refine p_iinc3 rfl (Nat.le_of_ble_eq_true rfl) dX0_wearWithout_29 ?_
        refine p_goto 4 dX0_wearWithout_32 (by decide) ?_
        exact ih (p + 1) _ (by omega) (by omega) (by omega)
      · rw [show wwo (S j) s p = S j (6 + 2 * p) by unfold wwo; rw [if_neg c17]]
        refine p_iload2 dX0_wearWithout_20 ?_
        refine p_oload0 dX0_wearWithout_21 ?_
        refine p_get fl_RX0_17 gf_wears dX0_wearWithout_22 ?_
        refine p_iload3 dX0_wearWithout_25 ?_
        refine p_iald al_wears (by omega) (by omega) dX0_wearWithout_26 ?_
        refine p_iadd dX0_wearWithout_27 ?_
        refine p_istore2 rfl (Nat.le_of_ble_eq_true rfl) dX0_wearWithout_28 ?_
        refine p_iinc3 rfl (Nat.le_of_ble_eq_true rfl) dX0_wearWithout_29 ?_
        refine p_goto 4 dX0_wearWithout_32 (by decide) ?_
        exact ih (p + 1) _ (by omega) (by omega) (by omega)
set_option maxRecDepth 100000 in
set_option maxHeartbeats 4000000 in
theorem c_X0_wearWithout {G : GX} {S : St} {j : Fin 3} {b : Int} (hI : IR b (S j)) {s : Int} : Ev G mX0_wearWithout [rf G (fo j), vi s] (mk G S) (some (vi (lsum (wwo (S j) s) (S j 1).toNat 0 0))) (mk G (S)) := by
  have i0 := hI.1; have i1 := hI.2.1; have i4 := hI.2.2.2.2.1
  refine Ev.enter (by decide +kernel) (Nat.le_of_ble_eq_true rfl) (L := [some (rf G (fo j)), some (vi s), none, none]) rfl ?_
  refine p_iconst dX0_wearWithout_0 ?_
  refine p_istore2 rfl (Nat.le_of_ble_eq_true rfl) dX0_wearWithout_1 ?_
  refine p_iconst dX0_wearWithout_2 ?_
  refine p_istore3 rfl (Nat.le_of_ble_eq_true rfl) dX0_wearWithout_3 ?_
  have h := l_X0_wearWithout (G := G) hI (s := s) 7 0 0 (by omega) (by omega) (by omega); rw [Int.sub_zero] at h; exact h
set_option maxRecDepth 100000 in
set_option maxHeartbeats 4000000 in
theorem l_X0_isQuiet {G : GX} {S : St} {j : Fin 3} {b : Int} (hI : IR b (S j)) : ∀ (n : Nat) (p : Int), 0 ≤ p → p ≤ S j 0 → S j 0 - p < (n : Int) → Rn G mX0_isQuiet 2 [some (rf G (fo j)), some (vi p)] [] (mk G (S)) (some (vi (if aq (S j 0 - p).toNat p (S j) = true then 1 else 0))) (mk G (S)) := by
  intro n
  induction n with
  | zero =>
    intro p h0 h1 h2
    exfalso
    omega
  | succ n ih =>
    intro p h0 h1 h2
    have i0 := hI.1; have i1 := hI.2.1; have i4 := hI.2.2.2.2.1
    push_cast at h2
    refine p_iload1 dX0_isQuiet_2 ?_
    refine p_oload0 dX0_isQuiet_3 ?_
    refine p_get fl_RX0_38 gf_sheepCount dX0_isQuiet_4 ?_
    refine p_icmp_ge ⟨by omega, by omega⟩ ⟨by omega, by omega⟩ 26 dX0_isQuiet_7 (by decide) (fun c7 => ?_) (fun c7 => ?_)
    · rw [show (S j 0 - p).toNat = 0 by omega]
      refine p_iconst dX0_isQuiet_26 ?_
      exact p_zret rfl (by first | exact nz0 | exact nz1 | exact nzb _) dX0_isQuiet_27 rfl rfl
    · rw [show (S j 0 - p).toNat = (S j 0 - (p + 1)).toNat + 1 by omega, aq]
      refine p_oload0 dX0_isQuiet_10 ?_
      refine p_iload1 dX0_isQuiet_11 ?_
      refine p_cV1r (M2 := mX0_isAsleep) ml_RX0_52 mc_X0_isAsleep ⟨Nat.le_of_ble_eq_true rfl, Nat.le_of_ble_eq_true rfl⟩ (isO_fo _ _ _) (Nat.le_of_ble_eq_true rfl) dX0_isQuiet_12 (c_X0_isAsleep hI (by omega) (by omega)) ?_
      refine p_bif_ne 20 dX0_isQuiet_15 (by decide) (fun c15 => ?_) (fun c15 => ?_)
      · rw [if_pos c15]
        refine p_iinc1 rfl (Nat.le_of_ble_eq_true rfl) dX0_isQuiet_20 ?_
        refine p_goto 2 dX0_isQuiet_23 (by decide) ?_
        exact ih (p + 1) (by omega) (by omega) (by omega)
      · rw [if_neg c15]
        refine p_iconst dX0_isQuiet_18 ?_
        exact p_zret rfl (by first | exact nz0 | exact nz1 | exact nzb _) dX0_isQuiet_19 rfl rfl
set_option maxRecDepth 100000 in
set_option maxHeartbeats 4000000 in
theorem c_X0_isQuiet {G : GX} {S : St} {j : Fin 3} {b : Int} (hI : IR b (S j)) : Ev G mX0_isQuiet [rf G (fo j)] (mk G S) (some (vi (if qt (S j) = true then 1 else 0))) (mk G (S)) := by
  have i0 := hI.1; have i1 := hI.2.1; have i4 := hI.2.2.2.2.1
  refine Ev.enter (by decide +kernel) (Nat.le_of_ble_eq_true rfl) (L := [some (rf G (fo j)), none]) rfl ?_
  refine p_iconst dX0_isQuiet_0 ?_
  refine p_istore1 rfl (Nat.le_of_ble_eq_true rfl) dX0_isQuiet_1 ?_
  have h := l_X0_isQuiet (G := G) hI 9 0 (by omega) (by omega) (by omega); rw [Int.sub_zero] at h; exact h
theorem cp_X0_isAsleep {G : GX} {S : St} {j : Fin 3} {r : Row} {b : Int} (hI : IR b r) {p : Int} (h0 : 0 ≤ p) (h8 : p < 8) : Ev G mX0_isAsleep [rf G (fo j), vi p] (mk G (va_up S j r)) (some (vi (if r (18 + 3 * p) = 0 then 1 else 0))) (mk G (va_up S j r)) := by
  have h := c_X0_isAsleep (G := G) (S := va_up S j r) (j := j) (b := b) (by rw [va_up_self]; exact hI) h0 h8
  rwa [va_up_self] at h
theorem cp_X0_canPass {G : GX} {S : St} {j : Fin 3} {r : Row} {b : Int} (hI : IR b r) {m : Int} (h0 : 0 ≤ m) (h6 : m < 6) : Ev G mX0_canPass [rf G (fo j), vi m] (mk G (va_up S j r)) (some (vi (if r (6 + 2 * m) < 99 then 1 else 0))) (mk G (va_up S j r)) := by
  have h := c_X0_canPass (G := G) (S := va_up S j r) (j := j) (b := b) (by rw [va_up_self]; exact hI) h0 h6
  rwa [va_up_self] at h
theorem cp_X0_hasMan {G : GX} {S : St} {j : Fin 3} {r : Row} {b : Int} (hI : IR b r) {m : Int} (hm : inR m) : Ev G mX0_hasMan [rf G (fo j), vi m] (mk G (va_up S j r)) (some (vi (if 0 ≤ m ∧ m < r 1 then 1 else 0))) (mk G (va_up S j r)) := by
  have h := c_X0_hasMan (G := G) (S := va_up S j r) (j := j) (b := b) (by rw [va_up_self]; exact hI) hm
  rwa [va_up_self] at h
theorem cp_X0_isQuiet {G : GX} {S : St} {j : Fin 3} {r : Row} {b : Int} (hI : IR b r) : Ev G mX0_isQuiet [rf G (fo j)] (mk G (va_up S j r)) (some (vi (if qt r = true then 1 else 0))) (mk G (va_up S j r)) := by
  have h := c_X0_isQuiet (G := G) (S := va_up S j r) (j := j) (b := b) (by rw [va_up_self]; exact hI)
  rwa [va_up_self] at h
set_option maxRecDepth 100000 in
set_option maxHeartbeats 4000000 in
theorem l_X0_pass {G : GX} {S : St} {j : Fin 3} {b m u g : Int} (hm : 0 ≤ m ∧ m < 6) (hu : 0 ≤ u ∧ u ≤ 6) (hb : b ≤ 1000000) : ∀ (n : Nat) (p : Int) (r : Row) (w : Int), IR b r → r (5 + 2 * m) = g → 0 ≤ w ∧ w ≤ 99 + 2 * p → 0 ≤ p → p ≤ r 0 → r 0 - p < (n : Int) → Rn G mX0_pass 24 [some (rf G (fo j)), some (vi m), some (vi w), some (vi u), some (vi p), none] [] (mk G (va_up S j r)) none (mk G (va_up S j (uz (uz (pasL g u (r 0 - p).toNat p r w).1 (6 + 2 * m) (mn 99 (pasL g u (r 0 - p).toNat p r w).2)) 3 g))) := by
  intro n
  induction n with
  | zero =>
    intro p r w hI hg hw h0 h1 h2
    exfalso
    omega
  | succ n ih =>
    intro p r w hI hg hw h0 h1 h2
    have i0 := hI.1; have i2 := hI.2.2.1
    have i5 := hI.2.2.2.2.2.1 m hm.1 hm.2
    push_cast at h2
    refine p_iload4 dX0_pass_24 ?_
    refine p_oload0 dX0_pass_26 ?_
    refine p_get fl_RX0_38 gq_sheepCount dX0_pass_27 ?_
    refine p_icmp_ge ⟨by omega, by omega⟩ ⟨by omega, by omega⟩ 127 dX0_pass_30 (by decide) (fun c30 => ?_) (fun c30 => ?_)
    · rw [show (r 0 - p).toNat = 0 by omega]
      refine p_oload0 dX0_pass_127 ?_
      refine p_get fl_RX0_17 gq_wears dX0_pass_128 ?_
      refine p_iload1 dX0_pass_131 ?_
      refine p_bipush (by decide) (by decide) dX0_pass_132 ?_
      refine p_iload2 dX0_pass_134 ?_
      refine p_mmin ⟨by omega, by omega⟩ ⟨by omega, by omega⟩ wt2_49 wt2_50 wt1_8 wt2_51 (Nat.le_of_ble_eq_true rfl) (Nat.le_of_ble_eq_true rfl) dX0_pass_135 ?_
      refine p_iast alq_wears (by omega) (by omega) (asq_wears (by omega) (by omega)) dX0_pass_138 ?_
      refine p_oload0 dX0_pass_139 ?_
      refine p_oload0 dX0_pass_140 ?_
      refine p_get fl_RX0_13 gq_guises dX0_pass_141 ?_
      refine p_iload1 dX0_pass_144 ?_
      refine p_iald alq_guises (by omega) (by omega) dX0_pass_145 ?_
      refine p_put fw_RX0_7 rfl rfl pq_last dX0_pass_146 ?_
      exact p_vret rfl dX0_pass_149 rfl (congrArg (fun q => mk G (va_up S j q)) (by show uz (uz r (6 + 2 * m) _) 3 _ = _; rw [uz_ne _ _ (by omega), hg]; rfl))
    · have i6 := hI.2.2.2.2.2.2 p h0 (by omega)
      have ht := tk_le (k := r (17 + 3 * p)) (g := r (5 + 2 * m)) (m := r 2) hu
      have hs := hI.stp (g := g) ⟨h0, by omega⟩ hu
      have hq := tir_le r p
      have hst := stp_lo g u r (i := 0) h0 (by omega)
      have hsg := stp_lo g u r (i := 5 + 2 * m) h0 (by omega)
      rw [show (r 0 - p).toNat = (r 0 - (p + 1)).toNat + 1 by omega, pasL]
      refine p_oload0 dX0_pass_33 ?_
      refine p_iload4 dX0_pass_34 ?_
      refine p_cV1r (M2 := mX0_isAsleep) ml_RX0_52 mc_X0_isAsleep ⟨Nat.le_of_ble_eq_true rfl, Nat.le_of_ble_eq_true rfl⟩ (isO_fo _ _ _) (Nat.le_of_ble_eq_true rfl) dX0_pass_36 (cp_X0_isAsleep hI (by omega) (by omega)) ?_
      refine p_bif_ne 121 dX0_pass_39 (by decide) (fun c39 => ?_) (fun c39 => ?_)
      · rw [show stp g u r p = r by unfold stp; rw [if_pos c39], show tir r p = 0 by unfold tir; rw [if_pos c39], Int.add_zero]
        refine p_iinc4 rfl (Nat.le_of_ble_eq_true rfl) dX0_pass_121 ?_
        refine p_goto 24 dX0_pass_124 (by decide) ?_
        first
        | exact ih (p + 1) _ _ hI hg (by omega) (by omega) (by omega) (by omega)
        | (have hr : (uz (uz r (18 + 3 * p) (if 0 < r (18 + 3 * p) - tk (r (17 + 3 * p)) (r (5 + 2 * m)) u (r 2) then r (18 + 3 * p) - tk (r (17 + 3 * p)) (r (5 + 2 * m)) u (r 2) else 0)) (19 + 3 * p) (if uz r (18 + 3 * p) (if 0 < r (18 + 3 * p) - tk (r (17 + 3 * p)) (r (5 + 2 * m)) u (r 2) then r (18 + 3 * p) - tk (r (17 + 3 * p)) (r (5 + 2 * m)) u (r 2) else 0) (19 + 3 * p) + 1 < 9999 then uz r (18 + 3 * p) (if 0 < r (18 + 3 * p) - tk (r (17 + 3 * p)) (r (5 + 2 * m)) u (r 2) then r (18 + 3 * p) - tk (r (17 + 3 * p)) (r (5 + 2 * m)) u (r 2) else 0) (19 + 3 * p) + 1 else 9999)) = stp g u r p := by
             unfold stp mx0 mn; rw [if_neg c39, uz_ne _ _ (by omega), hg]
           rw [hr, show tT (stp g u r p (17 + 3 * p)) = tir r p by rw [stp_k _ _ _ h0]; unfold tir; rw [if_neg c39]]
           have h := ih (p + 1) (stp g u r p) (w + tir r p) hs (by omega) (by omega) (by omega) (by omega) (by omega)
           rw [hst] at h
           exact Rn.kp h ⟨rfl, rfl, rfl, rfl, rfl, trivial⟩)
      · refine p_oload0 dX0_pass_42 ?_
        refine p_get fl_RX0_20 gq_kinds dX0_pass_43 ?_
        refine p_iload4 dX0_pass_46 ?_
        refine p_iald alq_kinds (by omega) (by omega) dX0_pass_48 ?_
        refine p_oload0 dX0_pass_49 ?_
        refine p_get fl_RX0_13 gq_guises dX0_pass_50 ?_
        refine p_iload1 dX0_pass_53 ?_
        refine p_iald alq_guises (by omega) (by omega) dX0_pass_54 ?_
        refine p_iload3 dX0_pass_55 ?_
        refine p_oload0 dX0_pass_56 ?_
        refine p_get fl_RX0_29 gq_minute dX0_pass_57 ?_
        refine p_cS4r (M2 := mX1_takesOff) ms_RX0_78 mc_X1_takesOff ⟨Nat.le_of_ble_eq_true rfl, Nat.le_of_ble_eq_true rfl⟩ (Nat.le_of_ble_eq_true rfl) dX0_pass_60 (c_X1_takesOff (by omega) hu (by omega)) ?_
        refine p_istore5 rfl (Nat.le_of_ble_eq_true rfl) dX0_pass_63 ?_
        refine p_oload0 dX0_pass_65 ?_
        refine p_get fl_RX0_23 gq_wants dX0_pass_66 ?_
        refine p_iload4 dX0_pass_69 ?_
        refine p_iconst dX0_pass_71 ?_
        refine p_oload0 dX0_pass_72 ?_
        refine p_get fl_RX0_23 gq_wants dX0_pass_73 ?_
        refine p_iload4 dX0_pass_76 ?_
        refine p_iald alq_wants (by omega) (by omega) dX0_pass_78 ?_
        refine p_iload5 dX0_pass_79 ?_
        refine p_isub dX0_pass_81 ?_
        refine p_mmax ⟨by omega, by omega⟩ ⟨by omega, by omega⟩ wt2_48 wt2_20 wt1_8 wt2_21 (Nat.le_of_ble_eq_true rfl) (Nat.le_of_ble_eq_true rfl) dX0_pass_82 ?_
        refine p_iast alq_wants (by omega) (by omega) (asq_wants (by omega) (by omega)) dX0_pass_85 ?_
        refine p_oload0 dX0_pass_86 ?_
        refine p_get fl_RX0_26 gq_seen dX0_pass_87 ?_
        refine p_iload4 dX0_pass_90 ?_
        refine p_sipush (by decide) (by decide) dX0_pass_92 ?_
        refine p_oload0 dX0_pass_95 ?_
        refine p_get fl_RX0_26 gq_seen dX0_pass_96 ?_
        refine p_iload4 dX0_pass_99 ?_
        refine p_iald alq_seen (by omega) (by omega) dX0_pass_101 ?_
        refine p_iconst dX0_pass_102 ?_
        refine p_iadd dX0_pass_103 ?_
        refine p_mmin ⟨by omega, by omega⟩ ⟨by rw [uz_ne _ _ (by omega)]; omega, by rw [uz_ne _ _ (by omega)]; omega⟩ wt2_49 wt2_50 wt1_8 wt2_51 (Nat.le_of_ble_eq_true rfl) (Nat.le_of_ble_eq_true rfl) dX0_pass_104 ?_
        refine p_iast alq_seen (by omega) (by omega) (asq_seen (by omega) (by omega)) dX0_pass_107 ?_
        refine p_iload2 dX0_pass_108 ?_
        refine p_oload0 dX0_pass_109 ?_
        refine p_get fl_RX0_20 gq_kinds dX0_pass_110 ?_
        refine p_iload4 dX0_pass_113 ?_
        refine p_iald alq_kinds (by omega) (by omega) dX0_pass_115 ?_
        refine p_cS1r (M2 := mX1_tiresBy) ms_RX0_90 mc_X1_tiresBy ⟨Nat.le_of_ble_eq_true rfl, Nat.le_of_ble_eq_true rfl⟩ (Nat.le_of_ble_eq_true rfl) dX0_pass_116 (c_X1_tiresBy (by rw [uz_ne _ _ (by omega), uz_ne _ _ (by omega)]; omega)) ?_
        refine p_iadd dX0_pass_119 ?_
        refine p_istore2 rfl (Nat.le_of_ble_eq_true rfl) dX0_pass_120 ?_
        refine p_iinc4 rfl (Nat.le_of_ble_eq_true rfl) dX0_pass_121 ?_
        refine p_goto 24 dX0_pass_124 (by decide) ?_
        first
        | exact ih (p + 1) _ _ hI hg (by omega) (by omega) (by omega) (by omega)
        | (have hr : (uz (uz r (18 + 3 * p) (if 0 < r (18 + 3 * p) - tk (r (17 + 3 * p)) (r (5 + 2 * m)) u (r 2) then r (18 + 3 * p) - tk (r (17 + 3 * p)) (r (5 + 2 * m)) u (r 2) else 0)) (19 + 3 * p) (if uz r (18 + 3 * p) (if 0 < r (18 + 3 * p) - tk (r (17 + 3 * p)) (r (5 + 2 * m)) u (r 2) then r (18 + 3 * p) - tk (r (17 + 3 * p)) (r (5 + 2 * m)) u (r 2) else 0) (19 + 3 * p) + 1 < 9999 then uz r (18 + 3 * p) (if 0 < r (18 + 3 * p) - tk (r (17 + 3 * p)) (r (5 + 2 * m)) u (r 2) then r (18 + 3 * p) - tk (r (17 + 3 * p)) (r (5 + 2 * m)) u (r 2) else 0) (19 + 3 * p) + 1 else 9999)) = stp g u r p := by
             unfold stp mx0 mn; rw [if_neg c39, uz_ne _ _ (by omega), hg]
           rw [hr, show tT (stp g u r p (17 + 3 * p)) = tir r p by rw [stp_k _ _ _ h0]; unfold tir; rw [if_neg c39]]
           have h := ih (p + 1) (stp g u r p) (w + tir r p) hs (by omega) (by omega) (by omega) (by omega) (by omega)
           rw [hst] at h
           exact Rn.kp h ⟨rfl, rfl, rfl, rfl, rfl, trivial⟩)
set_option maxRecDepth 100000 in
set_option maxHeartbeats 4000000 in
theorem c_X0_pass {G : GX} {S : St} {j : Fin 3} {r : Row} {b : Int} (hI : IR b r) (hb : b ≤ 1000000) {m : Int} (hm : 0 ≤ m ∧ m < 6) : Ev G mX0_pass [rf G (fo j), vi m] (mk G (va_up S j r)) none (mk G (va_up S j (passR m r))) := by
  have i0 := hI.1; have i3 := hI.2.2.2.1
  have i5 := hI.2.2.2.2.2.1 m hm.1 hm.2
  refine Ev.enter (by decide +kernel) (Nat.le_of_ble_eq_true rfl) (L := [some (rf G (fo j)), some (vi m), none, none, none, none]) rfl ?_
  refine p_oload0 dX0_pass_0 ?_
  refine p_get fl_RX0_17 gq_wears dX0_pass_1 ?_
  refine p_iload1 dX0_pass_4 ?_
  refine p_iald alq_wears (by omega) (by omega) dX0_pass_5 ?_
  refine p_istore2 rfl (Nat.le_of_ble_eq_true rfl) dX0_pass_6 ?_
  refine p_oload0 dX0_pass_7 ?_
  refine p_get fl_RX0_13 gq_guises dX0_pass_8 ?_
  refine p_iload1 dX0_pass_11 ?_
  refine p_iald alq_guises (by omega) (by omega) dX0_pass_12 ?_
  refine p_oload0 dX0_pass_13 ?_
  refine p_get fl_RX0_7 gq_last dX0_pass_14 ?_
  refine p_cS2r (M2 := mX1_unlike) ms_RX0_72 mc_X1_unlike ⟨Nat.le_of_ble_eq_true rfl, Nat.le_of_ble_eq_true rfl⟩ (Nat.le_of_ble_eq_true rfl) dX0_pass_17 (c_X1_unlike (by omega) (by omega)) ?_
  refine p_istore3 rfl (Nat.le_of_ble_eq_true rfl) dX0_pass_20 ?_
  refine p_iconst dX0_pass_21 ?_
  refine p_istore4 rfl (Nat.le_of_ble_eq_true rfl) dX0_pass_22 ?_
  have h := l_X0_pass (G := G) (S := S) (j := j) hm (un_le (r (5 + 2 * m)) (r 3)) hb 9 0 r (r (6 + 2 * m)) hI rfl (by omega) (by omega) (by omega) (by omega)
  rw [Int.sub_zero] at h
  exact h
set_option maxRecDepth 100000 in
set_option maxHeartbeats 4000000 in
theorem l_X0_stayAlone {G : GX} {S : St} {j : Fin 3} {b : Int} : ∀ (n : Nat) (p : Int) (r : Row), IR b r → 0 ≤ p → p ≤ r 0 → r 0 - p < (n : Int) → Rn G mX0_stayAlone 2 [some (rf G (fo j)), some (vi p)] [] (mk G (va_up S j r)) none (mk G (va_up S j (uz (nobL (r 0 - p).toNat p r) 3 (-1)))) := by
  intro n
  induction n with
  | zero =>
    intro p r hI h0 h1 h2
    exfalso
    omega
  | succ n ih =>
    intro p r hI h0 h1 h2
    have i0 := hI.1
    push_cast at h2
    refine p_iload1 dX0_stayAlone_2 ?_
    refine p_oload0 dX0_stayAlone_3 ?_
    refine p_get fl_RX0_38 gq_sheepCount dX0_stayAlone_4 ?_
    refine p_icmp_ge ⟨by omega, by omega⟩ ⟨by omega, by omega⟩ 43 dX0_stayAlone_7 (by decide) (fun c7 => ?_) (fun c7 => ?_)
    · rw [show (r 0 - p).toNat = 0 by omega]
      refine p_oload0 dX0_stayAlone_43 ?_
      refine p_iconst dX0_stayAlone_44 ?_
      refine p_put fw_RX0_7 rfl rfl pq_last dX0_stayAlone_45 ?_
      exact p_vret rfl dX0_stayAlone_48 rfl rfl
    · have i6 := hI.2.2.2.2.2.2 p h0 (by omega)
      have hw := tW_le (r (17 + 3 * p))
      rw [show (r 0 - p).toNat = (r 0 - (p + 1)).toNat + 1 by omega, nobL]
      refine p_oload0 dX0_stayAlone_10 ?_
      refine p_get fl_RX0_23 gq_wants dX0_stayAlone_11 ?_
      refine p_iload1 dX0_stayAlone_14 ?_
      refine p_bipush (by decide) (by decide) dX0_stayAlone_15 ?_
      refine p_oload0 dX0_stayAlone_17 ?_
      refine p_get fl_RX0_23 gq_wants dX0_stayAlone_18 ?_
      refine p_iload1 dX0_stayAlone_21 ?_
      refine p_iald alq_wants (by omega) (by omega) dX0_stayAlone_22 ?_
      refine p_oload0 dX0_stayAlone_23 ?_
      refine p_get fl_RX0_20 gq_kinds dX0_stayAlone_24 ?_
      refine p_iload1 dX0_stayAlone_27 ?_
      refine p_iald alq_kinds (by omega) (by omega) dX0_stayAlone_28 ?_
      refine p_cS1r (M2 := mX1_wakesBy) ms_RX0_94 mc_X1_wakesBy ⟨Nat.le_of_ble_eq_true rfl, Nat.le_of_ble_eq_true rfl⟩ (Nat.le_of_ble_eq_true rfl) dX0_stayAlone_29 (c_X1_wakesBy (by omega)) ?_
      refine p_iadd dX0_stayAlone_32 ?_
      refine p_mmin ⟨by omega, by omega⟩ ⟨by omega, by omega⟩ wt2_49 wt2_50 wt1_8 wt2_51 (Nat.le_of_ble_eq_true rfl) (Nat.le_of_ble_eq_true rfl) dX0_stayAlone_33 ?_
      refine p_iast alq_wants (by omega) (by omega) (asq_wants (by omega) (by omega)) dX0_stayAlone_36 ?_
      refine p_iinc1 rfl (Nat.le_of_ble_eq_true rfl) dX0_stayAlone_37 ?_
      refine p_goto 2 dX0_stayAlone_40 (by decide) ?_
      have h := ih (p + 1) (uz r (18 + 3 * p) (mn 99 (r (18 + 3 * p) + tW (r (17 + 3 * p))))) (hI.wants h0 ⟨by unfold mn; split <;> omega, mn_le.1⟩) (by omega) (by rw [uz_ne _ _ (by omega)]; omega) (by rw [uz_ne _ _ (by omega)]; omega)
      rw [uz_ne (j := 0) _ _ (by omega)] at h
      exact h
set_option maxRecDepth 100000 in
set_option maxHeartbeats 4000000 in
theorem c_X0_stayAlone {G : GX} {S : St} {j : Fin 3} {r : Row} {b : Int} (hI : IR b r) (hb : b ≤ 1000000) : Ev G mX0_stayAlone [rf G (fo j)] (mk G (va_up S j r)) none (mk G (va_up S j (nobR r))) := by
  have i0 := hI.1
  refine Ev.enter (by decide +kernel) (Nat.le_of_ble_eq_true rfl) (L := [some (rf G (fo j)), none]) rfl ?_
  refine p_iconst dX0_stayAlone_0 ?_
  refine p_istore1 rfl (Nat.le_of_ble_eq_true rfl) dX0_stayAlone_1 ?_
  have h := l_X0_stayAlone (G := G) (S := S) (j := j) 9 0 r hI (by omega) (by omega) (by omega)
  rw [Int.sub_zero] at h
  exact h
set_option maxRecDepth 100000 in
set_option maxHeartbeats 4000000 in
theorem t_playMinute {G : GX} {S : St} {j : Fin 3} {q : Row} {b : Int} (hI : IR b q) (hb : b ≤ 1000000) : Rn G mX0_playMinute 37 [some (rf G (fo j))] [] (mk G (va_up S j q)) none (mk G (va_up S j (endR q))) := by
  have i1 := hI.2.1; have i2 := hI.2.2.1; have i4 := hI.2.2.2.2.1
  refine p_oload0 dX0_playMinute_37 ?_
  refine p_oload0 dX0_playMinute_38 ?_
  refine p_get fl_RX0_32 gq_turn dX0_playMinute_39 ?_
  refine p_iconst dX0_playMinute_42 ?_
  refine p_iadd dX0_playMinute_43 ?_
  refine p_oload0 dX0_playMinute_44 ?_
  refine p_get fl_RX0_35 gq_manCount dX0_playMinute_45 ?_
  refine p_icmp_ge ⟨by omega, by omega⟩ ⟨by omega, by omega⟩ 60 dX0_playMinute_48 (by decide) (fun c48 => ?_) (fun c48 => ?_)
  · refine p_iconst dX0_playMinute_60 ?_
    refine p_put fw_RX0_32 rfl rfl pq_turn dX0_playMinute_61 ?_
    refine p_oload0 dX0_playMinute_64 ?_
    refine p_dup rfl dX0_playMinute_65 ?_
    refine p_get fl_RX0_29 gq_minute dX0_playMinute_66 ?_
    refine p_iconst dX0_playMinute_69 ?_
    refine p_iadd dX0_playMinute_70 ?_
    refine p_put fw_RX0_29 rfl rfl pq_minute dX0_playMinute_71 ?_
    exact p_vret rfl dX0_playMinute_74 rfl (congrArg (fun z => mk G (va_up S j z)) (by unfold endR; first | (rw [if_neg (by omega), uz_ne (j := 2) _ _ (by omega)]; done) | (rw [if_pos (by omega), uz_ne (j := 2) _ _ (by omega)]; done)))
  · refine p_oload0 dX0_playMinute_51 ?_
    refine p_get fl_RX0_32 gq_turn dX0_playMinute_52 ?_
    refine p_iconst dX0_playMinute_55 ?_
    refine p_iadd dX0_playMinute_56 ?_
    refine p_goto 61 dX0_playMinute_57 (by decide) ?_
    refine p_put fw_RX0_32 rfl rfl pq_turn dX0_playMinute_61 ?_
    refine p_oload0 dX0_playMinute_64 ?_
    refine p_dup rfl dX0_playMinute_65 ?_
    refine p_get fl_RX0_29 gq_minute dX0_playMinute_66 ?_
    refine p_iconst dX0_playMinute_69 ?_
    refine p_iadd dX0_playMinute_70 ?_
    refine p_put fw_RX0_29 rfl rfl pq_minute dX0_playMinute_71 ?_
    exact p_vret rfl dX0_playMinute_74 rfl (congrArg (fun z => mk G (va_up S j z)) (by unfold endR; first | (rw [if_neg (by omega), uz_ne (j := 2) _ _ (by omega)]; done) | (rw [if_pos (by omega), uz_ne (j := 2) _ _ (by omega)]; done)))
set_option maxRecDepth 100000 in
set_option maxHeartbeats 4000000 in
theorem c_X0_playMinute {G : GX} {S : St} {j : Fin 3} {r : Row} {b : Int} (hI : IR b r) (hb : b ≤ 1000000) : Ev G mX0_playMinute [rf G (fo j)] (mk G (va_up S j r)) none (mk G (va_up S j (minR r))) := by
  have i1 := hI.2.1; have i4 := hI.2.2.2.2.1; have t6 := hI.t6
  refine Ev.enter (by decide +kernel) (Nat.le_of_ble_eq_true rfl) (L := [some (rf G (fo j))]) rfl ?_
  refine p_oload0 dX0_playMinute_0 ?_
  refine p_oload0 dX0_playMinute_1 ?_
  refine p_get fl_RX0_32 gq_turn dX0_playMinute_2 ?_
  refine p_cV1r (M2 := mX0_hasMan) ml_RX0_62 mc_X0_hasMan ⟨Nat.le_of_ble_eq_true rfl, Nat.le_of_ble_eq_true rfl⟩ (isO_fo _ _ _) (Nat.le_of_ble_eq_true rfl) dX0_playMinute_5 (cp_X0_hasMan hI ⟨by omega, by omega⟩) ?_
  refine p_bif_eq 33 dX0_playMinute_8 (by decide) (fun c8 => ?_) (fun c8 => ?_)
  · refine p_oload0 dX0_playMinute_33 ?_
    refine p_cV0v (M2 := mX0_stayAlone) ml_RX0_69 mc_X0_stayAlone ⟨Nat.le_of_ble_eq_true rfl, Nat.le_of_ble_eq_true rfl⟩ (isO_fo _ _ _) (Nat.le_of_ble_eq_true rfl) dX0_playMinute_34 (c_X0_stayAlone hI hb) ?_
    have hq := hI.goR
    unfold minR
    first
    | (rw [show goR r = passR (r 4) r by unfold goR; rw [if_pos (by omega)]] at hq ⊢; exact t_playMinute hq hb)
    | (rw [show goR r = nobR r by unfold goR; rw [if_neg (by omega)]] at hq ⊢; exact t_playMinute hq hb)
  · refine p_oload0 dX0_playMinute_11 ?_
    refine p_oload0 dX0_playMinute_12 ?_
    refine p_get fl_RX0_32 gq_turn dX0_playMinute_13 ?_
    refine p_cV1r (M2 := mX0_canPass) ml_RX0_56 mc_X0_canPass ⟨Nat.le_of_ble_eq_true rfl, Nat.le_of_ble_eq_true rfl⟩ (isO_fo _ _ _) (Nat.le_of_ble_eq_true rfl) dX0_playMinute_16 (cp_X0_canPass hI (by omega) (by omega)) ?_
    refine p_bif_eq 33 dX0_playMinute_19 (by decide) (fun c19 => ?_) (fun c19 => ?_)
    · refine p_oload0 dX0_playMinute_33 ?_
      refine p_cV0v (M2 := mX0_stayAlone) ml_RX0_69 mc_X0_stayAlone ⟨Nat.le_of_ble_eq_true rfl, Nat.le_of_ble_eq_true rfl⟩ (isO_fo _ _ _) (Nat.le_of_ble_eq_true rfl) dX0_playMinute_34 (c_X0_stayAlone hI hb) ?_
      have hq := hI.goR
      unfold minR
      first
      | (rw [show goR r = passR (r 4) r by unfold goR; rw [if_pos (by omega)]] at hq ⊢; exact t_playMinute hq hb)
      | (rw [show goR r = nobR r by unfold goR; rw [if_neg (by omega)]] at hq ⊢; exact t_playMinute hq hb)
    · refine p_oload0 dX0_playMinute_22 ?_
      refine p_oload0 dX0_playMinute_23 ?_
      refine p_get fl_RX0_32 gq_turn dX0_playMinute_24 ?_
      refine p_cV1v (M2 := mX0_pass) ml_RX0_65 mc_X0_pass ⟨Nat.le_of_ble_eq_true rfl, Nat.le_of_ble_eq_true rfl⟩ (isO_fo _ _ _) (Nat.le_of_ble_eq_true rfl) dX0_playMinute_27 (c_X0_pass hI hb (by omega)) ?_
      refine p_goto 37 dX0_playMinute_30 (by decide) ?_
      have hq := hI.goR
      unfold minR
      first
      | (rw [show goR r = passR (r 4) r by unfold goR; rw [if_pos (by omega)]] at hq ⊢; exact t_playMinute hq hb)
      | (rw [show goR r = nobR r by unfold goR; rw [if_neg (by omega)]] at hq ⊢; exact t_playMinute hq hb)
set_option maxRecDepth 100000 in
set_option maxHeartbeats 4000000 in
theorem l_X0_play {G : GX} {S : St} {j : Fin 3} {k : Int} (hk : 0 ≤ k ∧ k ≤ 1000) : ∀ (n : Nat) (i : Int) (r : Row) (b : Int), IR b r → b ≤ 900000 + i → 0 ≤ i → i ≤ k → k - i < (n : Int) → Rn G mX0_play 2 [some (rf G (fo j)), some (vi k), some (vi i)] [] (mk G (va_up S j r)) none (mk G (va_up S j (minsR (k - i).toNat r))) := by
  intro n
  induction n with
  | zero =>
    intro i r b hI hb h0 h1 h2
    exfalso
    omega
  | succ n ih =>
    intro i r b hI hb h0 h1 h2
    push_cast at h2
    refine p_iload2 dX0_play_2 ?_
    refine p_iload1 dX0_play_3 ?_
    refine p_icmp_ge ⟨by omega, by omega⟩ ⟨by omega, by omega⟩ 17 dX0_play_4 (by decide) (fun c4 => ?_) (fun c4 => ?_)
    · rw [show (k - i).toNat = 0 by omega]
      exact p_vret rfl dX0_play_17 rfl rfl
    · rw [show (k - i).toNat = (k - (i + 1)).toNat + 1 by omega, minsR]
      refine p_oload0 dX0_play_7 ?_
      refine p_cV0v (M2 := mX0_playMinute) ml_RX0_59 mc_X0_playMinute ⟨Nat.le_of_ble_eq_true rfl, Nat.le_of_ble_eq_true rfl⟩ (isO_fo _ _ _) (Nat.le_of_ble_eq_true rfl) dX0_play_8 (c_X0_playMinute hI (by omega)) ?_
      refine p_iinc2 rfl (Nat.le_of_ble_eq_true rfl) dX0_play_11 ?_
      refine p_goto 2 dX0_play_14 (by decide) ?_
      exact ih (i + 1) _ _ hI.minR (by omega) (by omega) (by omega) (by omega)
set_option maxRecDepth 100000 in
set_option maxHeartbeats 4000000 in
theorem c_X0_play {G : GX} {S : St} {j : Fin 3} {r : Row} {b : Int} (hI : IR b r) (hb : b ≤ 900000) {k : Int} (hk : 0 ≤ k ∧ k ≤ 1000) : Ev G mX0_play [rf G (fo j), vi k] (mk G (va_up S j r)) none (mk G (va_up S j (minsR k.toNat r))) := by
  refine Ev.enter (by decide +kernel) (Nat.le_of_ble_eq_true rfl) (L := [some (rf G (fo j)), some (vi k), none]) rfl ?_
  refine p_iconst dX0_play_0 ?_
  refine p_istore2 rfl (Nat.le_of_ble_eq_true rfl) dX0_play_1 ?_
  have h := l_X0_play (G := G) (S := S) (j := j) hk 1001 0 r b hI (by omega) (by omega) (by omega) (by omega)
  rw [Int.sub_zero] at h
  exact h
set_option maxRecDepth 100000 in
set_option maxHeartbeats 4000000 in
theorem l_X0_playTillQuiet {G : GX} {S : St} {j : Fin 3} {k : Int} (hk : -1 ≤ k ∧ k ≤ 1000) : ∀ (n : Nat) (i : Int) (r : Row) (b : Int), IR b r → b ≤ 900000 + i → 0 ≤ i → i ≤ k + 1 → k + 1 - i < (n : Int) → Rn G mX0_playTillQuiet 2 [some (rf G (fo j)), some (vi k), some (vi i)] [] (mk G (va_up S j r)) (some (vi (ft (qt) (k + 1 - i).toNat i r).1)) (mk G (va_up S j (ft (qt) (k + 1 - i).toNat i r).2)) := by
  intro n
  induction n with
  | zero =>
    intro i r b hI hb h0 h1 h2
    exfalso
    omega
  | succ n ih =>
    intro i r b hI hb h0 h1 h2
    push_cast at h2
    refine p_iload2 dX0_playTillQuiet_2 ?_
    refine p_iload1 dX0_playTillQuiet_3 ?_
    refine p_icmp_gt ⟨by omega, by omega⟩ ⟨by omega, by omega⟩ 26 dX0_playTillQuiet_4 (by decide) (fun c4 => ?_) (fun c4 => ?_)
    · rw [show (k + 1 - i).toNat = 0 by omega, ft, show i = k + 1 by omega]
      refine p_iload1 dX0_playTillQuiet_26 ?_
      refine p_iconst dX0_playTillQuiet_27 ?_
      refine p_iadd dX0_playTillQuiet_28 ?_
      exact p_iret rfl dX0_playTillQuiet_29 rfl rfl
    · rw [show (k + 1 - i).toNat = (k + 1 - (i + 1)).toNat + 1 by omega, ft]
      refine p_oload0 dX0_playTillQuiet_7 ?_
      refine p_cV0r (M2 := mX0_isQuiet) ml_RX0_97 mc_X0_isQuiet ⟨Nat.le_of_ble_eq_true rfl, Nat.le_of_ble_eq_true rfl⟩ (isO_fo _ _ _) (Nat.le_of_ble_eq_true rfl) dX0_playTillQuiet_8 (cp_X0_isQuiet hI) ?_
      refine p_bif_eq 16 dX0_playTillQuiet_11 (by decide) (fun c11 => ?_) (fun c11 => ?_)
      · rw [if_neg c11]
        refine p_oload0 dX0_playTillQuiet_16 ?_
        refine p_cV0v (M2 := mX0_playMinute) ml_RX0_59 mc_X0_playMinute ⟨Nat.le_of_ble_eq_true rfl, Nat.le_of_ble_eq_true rfl⟩ (isO_fo _ _ _) (Nat.le_of_ble_eq_true rfl) dX0_playTillQuiet_17 (c_X0_playMinute hI (by omega)) ?_
        refine p_iinc2 rfl (Nat.le_of_ble_eq_true rfl) dX0_playTillQuiet_20 ?_
        refine p_goto 2 dX0_playTillQuiet_23 (by decide) ?_
        exact ih (i + 1) _ _ hI.minR (by omega) (by omega) (by omega) (by omega)
      · rw [if_pos c11]
        refine p_iload2 dX0_playTillQuiet_14 ?_
        exact p_iret rfl dX0_playTillQuiet_15 rfl rfl
set_option maxRecDepth 100000 in
set_option maxHeartbeats 4000000 in
theorem c_X0_playTillQuiet {G : GX} {S : St} {j : Fin 3} {r : Row} {b : Int} (hI : IR b r) (hb : b ≤ 900000) {k : Int} (hk : -1 ≤ k ∧ k ≤ 1000) : Ev G mX0_playTillQuiet [rf G (fo j), vi k] (mk G (va_up S j r)) (some (vi (ft (qt) (k + 1).toNat 0 r).1)) (mk G (va_up S j (ft (qt) (k + 1).toNat 0 r).2)) := by
  refine Ev.enter (by decide +kernel) (Nat.le_of_ble_eq_true rfl) (L := [some (rf G (fo j)), some (vi k), none]) rfl ?_
  refine p_iconst dX0_playTillQuiet_0 ?_
  refine p_istore2 rfl (Nat.le_of_ble_eq_true rfl) dX0_playTillQuiet_1 ?_
  have h := l_X0_playTillQuiet (G := G) (S := S) (j := j) hk 1002 0 r b hI (by omega) (by omega) (by omega) (by omega)
  rw [Int.sub_zero] at h
  exact h
set_option maxRecDepth 100000 in
set_option maxHeartbeats 4000000 in
theorem l_X0_playTillAsleep {G : GX} {S : St} {j : Fin 3} {p : Int} (hp : 0 ≤ p ∧ p < 8) {k : Int} (hk : -1 ≤ k ∧ k ≤ 1000) : ∀ (n : Nat) (i : Int) (r : Row) (b : Int), IR b r → b ≤ 900000 + i → 0 ≤ i → i ≤ k + 1 → k + 1 - i < (n : Int) → Rn G mX0_playTillAsleep 2 [some (rf G (fo j)), some (vi p), some (vi k), some (vi i)] [] (mk G (va_up S j r)) (some (vi (ft (at_ (18 + 3 * p) 0) (k + 1 - i).toNat i r).1)) (mk G (va_up S j (ft (at_ (18 + 3 * p) 0) (k + 1 - i).toNat i r).2)) := by
  intro n
  induction n with
  | zero =>
    intro i r b hI hb h0 h1 h2
    exfalso
    omega
  | succ n ih =>
    intro i r b hI hb h0 h1 h2
    push_cast at h2
    refine p_iload3 dX0_playTillAsleep_2 ?_
    refine p_iload2 dX0_playTillAsleep_3 ?_
    refine p_icmp_gt ⟨by omega, by omega⟩ ⟨by omega, by omega⟩ 27 dX0_playTillAsleep_4 (by decide) (fun c4 => ?_) (fun c4 => ?_)
    · rw [show (k + 1 - i).toNat = 0 by omega, ft, show i = k + 1 by omega]
      refine p_iload2 dX0_playTillAsleep_27 ?_
      refine p_iconst dX0_playTillAsleep_28 ?_
      refine p_iadd dX0_playTillAsleep_29 ?_
      exact p_iret rfl dX0_playTillAsleep_30 rfl rfl
    · rw [show (k + 1 - i).toNat = (k + 1 - (i + 1)).toNat + 1 by omega, ft]
      refine p_oload0 dX0_playTillAsleep_7 ?_
      refine p_iload1 dX0_playTillAsleep_8 ?_
      refine p_cV1r (M2 := mX0_isAsleep) ml_RX0_52 mc_X0_isAsleep ⟨Nat.le_of_ble_eq_true rfl, Nat.le_of_ble_eq_true rfl⟩ (isO_fo _ _ _) (Nat.le_of_ble_eq_true rfl) dX0_playTillAsleep_9 (cp_X0_isAsleep hI (by omega) (by omega)) ?_
      refine p_bif_eq 17 dX0_playTillAsleep_12 (by decide) (fun c12 => ?_) (fun c12 => ?_)
      · rw [if_neg (show ¬ at_ (18 + 3 * p) 0 r = true by unfold at_; simpa using c12)]
        refine p_oload0 dX0_playTillAsleep_17 ?_
        refine p_cV0v (M2 := mX0_playMinute) ml_RX0_59 mc_X0_playMinute ⟨Nat.le_of_ble_eq_true rfl, Nat.le_of_ble_eq_true rfl⟩ (isO_fo _ _ _) (Nat.le_of_ble_eq_true rfl) dX0_playTillAsleep_18 (c_X0_playMinute hI (by omega)) ?_
        refine p_iinc3 rfl (Nat.le_of_ble_eq_true rfl) dX0_playTillAsleep_21 ?_
        refine p_goto 2 dX0_playTillAsleep_24 (by decide) ?_
        exact ih (i + 1) _ _ hI.minR (by omega) (by omega) (by omega) (by omega)
      · rw [if_pos (show at_ (18 + 3 * p) 0 r = true by unfold at_; simpa using c12)]
        refine p_iload3 dX0_playTillAsleep_15 ?_
        exact p_iret rfl dX0_playTillAsleep_16 rfl rfl
set_option maxRecDepth 100000 in
set_option maxHeartbeats 4000000 in
theorem c_X0_playTillAsleep {G : GX} {S : St} {j : Fin 3} {r : Row} {b : Int} (hI : IR b r) (hb : b ≤ 900000) {p : Int} (hp : 0 ≤ p ∧ p < 8) {k : Int} (hk : -1 ≤ k ∧ k ≤ 1000) : Ev G mX0_playTillAsleep [rf G (fo j), vi p, vi k] (mk G (va_up S j r)) (some (vi (ft (at_ (18 + 3 * p) 0) (k + 1).toNat 0 r).1)) (mk G (va_up S j (ft (at_ (18 + 3 * p) 0) (k + 1).toNat 0 r).2)) := by
  refine Ev.enter (by decide +kernel) (Nat.le_of_ble_eq_true rfl) (L := [some (rf G (fo j)), some (vi p), some (vi k), none]) rfl ?_
  refine p_iconst dX0_playTillAsleep_0 ?_
  refine p_istore3 rfl (Nat.le_of_ble_eq_true rfl) dX0_playTillAsleep_1 ?_
  have h := l_X0_playTillAsleep (G := G) (S := S) (j := j) hp hk 1002 0 r b hI (by omega) (by omega) (by omega) (by omega)
  rw [Int.sub_zero] at h
  exact h
set_option maxRecDepth 100000 in
set_option maxHeartbeats 4000000 in
theorem l_X0_playTillBare {G : GX} {S : St} {j : Fin 3} {p : Int} (hp : 0 ≤ p ∧ p < 6) {k : Int} (hk : -1 ≤ k ∧ k ≤ 1000) : ∀ (n : Nat) (i : Int) (r : Row) (b : Int), IR b r → b ≤ 900000 + i → 0 ≤ i → i ≤ k + 1 → k + 1 - i < (n : Int) → Rn G mX0_playTillBare 2 [some (rf G (fo j)), some (vi p), some (vi k), some (vi i)] [] (mk G (va_up S j r)) (some (vi (ft (at_ (6 + 2 * p) 99) (k + 1 - i).toNat i r).1)) (mk G (va_up S j (ft (at_ (6 + 2 * p) 99) (k + 1 - i).toNat i r).2)) := by
  intro n
  induction n with
  | zero =>
    intro i r b hI hb h0 h1 h2
    exfalso
    omega
  | succ n ih =>
    intro i r b hI hb h0 h1 h2
    push_cast at h2
    refine p_iload3 dX0_playTillBare_2 ?_
    refine p_iload2 dX0_playTillBare_3 ?_
    refine p_icmp_gt ⟨by omega, by omega⟩ ⟨by omega, by omega⟩ 27 dX0_playTillBare_4 (by decide) (fun c4 => ?_) (fun c4 => ?_)
    · rw [show (k + 1 - i).toNat = 0 by omega, ft, show i = k + 1 by omega]
      refine p_iload2 dX0_playTillBare_27 ?_
      refine p_iconst dX0_playTillBare_28 ?_
      refine p_iadd dX0_playTillBare_29 ?_
      exact p_iret rfl dX0_playTillBare_30 rfl rfl
    · rw [show (k + 1 - i).toNat = (k + 1 - (i + 1)).toNat + 1 by omega, ft]
      refine p_oload0 dX0_playTillBare_7 ?_
      refine p_iload1 dX0_playTillBare_8 ?_
      refine p_cV1r (M2 := mX0_canPass) ml_RX0_56 mc_X0_canPass ⟨Nat.le_of_ble_eq_true rfl, Nat.le_of_ble_eq_true rfl⟩ (isO_fo _ _ _) (Nat.le_of_ble_eq_true rfl) dX0_playTillBare_9 (cp_X0_canPass hI (by omega) (by omega)) ?_
      refine p_bif_ne 17 dX0_playTillBare_12 (by decide) (fun c12 => ?_) (fun c12 => ?_)
      · rw [if_neg (show ¬ at_ (6 + 2 * p) 99 r = true by unfold at_; exact fun q => by have := of_decide_eq_true q; omega)]
        refine p_oload0 dX0_playTillBare_17 ?_
        refine p_cV0v (M2 := mX0_playMinute) ml_RX0_59 mc_X0_playMinute ⟨Nat.le_of_ble_eq_true rfl, Nat.le_of_ble_eq_true rfl⟩ (isO_fo _ _ _) (Nat.le_of_ble_eq_true rfl) dX0_playTillBare_18 (c_X0_playMinute hI (by omega)) ?_
        refine p_iinc3 rfl (Nat.le_of_ble_eq_true rfl) dX0_playTillBare_21 ?_
        refine p_goto 2 dX0_playTillBare_24 (by decide) ?_
        exact ih (i + 1) _ _ hI.minR (by omega) (by omega) (by omega) (by omega)
      · rw [if_pos (show at_ (6 + 2 * p) 99 r = true by unfold at_; have h5 := hI.2.2.2.2.2.1 p hp.1 hp.2; exact decide_eq_true (by omega))]
        refine p_iload3 dX0_playTillBare_15 ?_
        exact p_iret rfl dX0_playTillBare_16 rfl rfl
set_option maxRecDepth 100000 in
set_option maxHeartbeats 4000000 in
theorem c_X0_playTillBare {G : GX} {S : St} {j : Fin 3} {r : Row} {b : Int} (hI : IR b r) (hb : b ≤ 900000) {p : Int} (hp : 0 ≤ p ∧ p < 6) {k : Int} (hk : -1 ≤ k ∧ k ≤ 1000) : Ev G mX0_playTillBare [rf G (fo j), vi p, vi k] (mk G (va_up S j r)) (some (vi (ft (at_ (6 + 2 * p) 99) (k + 1).toNat 0 r).1)) (mk G (va_up S j (ft (at_ (6 + 2 * p) 99) (k + 1).toNat 0 r).2)) := by
  refine Ev.enter (by decide +kernel) (Nat.le_of_ble_eq_true rfl) (L := [some (rf G (fo j)), some (vi p), some (vi k), none]) rfl ?_
  refine p_iconst dX0_playTillBare_0 ?_
  refine p_istore3 rfl (Nat.le_of_ble_eq_true rfl) dX0_playTillBare_1 ?_
  have h := l_X0_playTillBare (G := G) (S := S) (j := j) hp hk 1002 0 r b hI (by omega) (by omega) (by omega) (by omega)
  rw [Int.sub_zero] at h
  exact h
