set_option maxRecDepth 100000 in
set_option maxHeartbeats 4000000 in
theorem c_X5_in {G : GX} {S : St} {v a c : Int} (hv : inL v) (ha : inL a) (hc : inL c) : Ev G mX5_in [vl v, vl a, vl c] (mk G S) (some (vi (if a ≤ v ∧ v ≤ c then 1 else 0))) (mk G (S)) := by
  refine Ev.enter (by decide +kernel) (Nat.le_of_ble_eq_true rfl) (L := [some (vl v), none, some (vl a), none, some (vl c), none]) rfl ?_
  refine p_lload0 dX5_in_0 ?_
  refine p_lload2 dX5_in_1 ?_
  refine p_lc_lt hv ha 17 dX5_in_2 dX5_in_3 (by decide) (fun c2 => ?_) (fun c2 => ?_)
  · refine p_iconst dX5_in_17 ?_
    exact p_zret rfl (by first | exact nz0 | exact nz1 | exact nzb _) dX5_in_18 (congrArg (fun z => some (vi z)) (by first | rfl | omega | (split <;> omega))) rfl
  · refine p_lload0 dX5_in_6 ?_
    refine p_lload4 dX5_in_7 ?_
    refine p_lc_gt hv hc 17 dX5_in_9 dX5_in_10 (by decide) (fun c9 => ?_) (fun c9 => ?_)
    · refine p_iconst dX5_in_17 ?_
      exact p_zret rfl (by first | exact nz0 | exact nz1 | exact nzb _) dX5_in_18 (congrArg (fun z => some (vi z)) (by first | rfl | omega | (split <;> omega))) rfl
    · refine p_iconst dX5_in_13 ?_
      refine p_goto 18 dX5_in_14 (by decide) ?_
      exact p_zret rfl (by first | exact nz0 | exact nz1 | exact nzb _) dX5_in_18 (congrArg (fun z => some (vi z)) (by first | rfl | omega | (split <;> omega))) rfl
theorem tl_13 (S : St) (r a : Row) : va_up (va_up S 9 r) 13 a = va_up (va_up S 13 a) 9 r := vup_swap S (by decide) r a
set_option maxRecDepth 100000 in
set_option maxHeartbeats 4000000 in
theorem c_X5_finds {G : GX} {S : St} {r : Row} {v : Int} (hv : -1000000007 ≤ v ∧ v ≤ -1000000001) : Ev G mX5_finds [rf G 31, vi v] (mk G (va_up S 9 r)) (some (vi v)) (mk G (va_up (va_up S 13 (tl (S 13) v)) 9 r)) := by
  refine Ev.enter (by decide +kernel) (Nat.le_of_ble_eq_true rfl) (L := [some (rf G 31), some (vi v)]) rfl ?_
  refine p_oload0 dX5_finds_0 ?_
  refine p_get fl_RX5_22 gm_statuses dX5_finds_1 ?_
  refine p_ldc wc_RX5_41 dX5_finds_4 ?_
  refine p_iload1 dX5_finds_6 ?_
  refine p_isub dX5_finds_7 ?_
  refine p_dup2 rfl rfl dX5_finds_8 ?_
  refine p_iald al_statuses (by omega) (by omega) dX5_finds_9 ?_
  refine p_iconst dX5_finds_10 ?_
  refine p_iadd dX5_finds_11 ?_
  refine p_iast al_statuses (by omega) (by omega) as_statuses dX5_finds_12 ?_
  refine p_iload1 dX5_finds_13 ?_
  exact p_iret rfl dX5_finds_14 (congrArg (fun z => some (vi z)) (by first | rfl | omega | (split <;> omega))) (congrArg (mk G) (by rw [← tl_13]; exact congrArg (fun z => va_up (va_up S 9 r) 13 z) (by rw [tl_yes (by omega)]; rfl)))
theorem y_al12 {G : GX} {S : St} {a r : Row} : ald G (mk G (va_up (va_up S 12 a) 9 r)) 35 41 a := al_aside
theorem y_as12 {G : GX} {S : St} {a r : Row} {m v : Int} : va_up (mk G (va_up (va_up S 12 a) 9 r)) 35 (ia G 41 (uz a m v)) = mk G (va_up (va_up S 12 (uz a m v)) 9 r) := mk_set (by decide) rfl
theorem y_mk12 {G : GX} {S : St} {a a' r : Row} (h : ∀ i, 0 ≤ i → i < 41 → a i = a' i) : mk G (va_up (va_up S 12 a) 9 r) = mk G (va_up (va_up S 12 a') 9 r) := by
  rw [vup_swap S (by decide : (12 : Nat) ≠ 9) a r, vup_swap S (by decide : (12 : Nat) ≠ 9) a' r]; exact mk_aside h
theorem y_al11 {G : GX} {S : St} {a r : Row} : ald G (mk G (va_up (va_up S 11 a) 9 r)) 34 41 a := al_other
theorem y_as11 {G : GX} {S : St} {a r : Row} {m v : Int} : va_up (mk G (va_up (va_up S 11 a) 9 r)) 34 (ia G 41 (uz a m v)) = mk G (va_up (va_up S 11 (uz a m v)) 9 r) := mk_set (by decide) rfl
theorem y_mk11 {G : GX} {S : St} {a a' r : Row} (h : ∀ i, 0 ≤ i → i < 41 → a i = a' i) : mk G (va_up (va_up S 11 a) 9 r) = mk G (va_up (va_up S 11 a') 9 r) := by
  rw [vup_swap S (by decide : (11 : Nat) ≠ 9) a r, vup_swap S (by decide : (11 : Nat) ≠ 9) a' r]; exact mk_other h
theorem y_al10 {G : GX} {S : St} {a r : Row} : ald G (mk G (va_up (va_up S 10 a) 9 r)) 33 41 a := al_keptS
theorem y_as10 {G : GX} {S : St} {a r : Row} {m v : Int} : va_up (mk G (va_up (va_up S 10 a) 9 r)) 33 (ia G 41 (uz a m v)) = mk G (va_up (va_up S 10 (uz a m v)) 9 r) := mk_set (by decide) rfl
theorem y_mk10 {G : GX} {S : St} {a a' r : Row} (h : ∀ i, 0 ≤ i → i < 41 → a i = a' i) : mk G (va_up (va_up S 10 a) 9 r) = mk G (va_up (va_up S 10 a') 9 r) := by
  rw [vup_swap S (by decide : (10 : Nat) ≠ 9) a r, vup_swap S (by decide : (10 : Nat) ≠ 9) a' r]; exact mk_keptS h
set_option maxRecDepth 100000 in
set_option maxHeartbeats 4000000 in
theorem l_X5_saves {G : GX} {S : St} {r : Row} : ∀ (n : Nat) (k : Int) (a : Row), (∀ i, 0 ≤ i → i < k → a i = r i) → 0 ≤ k → k ≤ 41 → 41 - k < (n : Int) → Rn G mX5_saves 2 [some (rf G 31), some (vi k)] [] (mk G (va_up (va_up S 11 a) 9 r)) none (mk G (va_up (va_up S 11 r) 9 r)) := by
  intro n
  induction n with
  | zero =>
    intro k a hr h0 h1 h2
    exfalso
    omega
  | succ n ih =>
    intro k a hr h0 h1 h2
    push_cast at h2
    refine p_iload1 dX5_saves_2 ?_
    refine p_bipush (by decide) (by decide) dX5_saves_3 ?_
    refine p_icmp_ge ⟨by omega, by omega⟩ ⟨by omega, by omega⟩ 26 dX5_saves_5 (by decide) (fun c5 => ?_) (fun c5 => ?_)
    · exact p_vret rfl dX5_saves_26 rfl (y_mk11 fun i a c => hr i a (by omega))
    · refine p_oload0 dX5_saves_8 ?_
      refine p_get fl_RX5_16 gm_other dX5_saves_9 ?_
      refine p_iload1 dX5_saves_12 ?_
      refine p_oload0 dX5_saves_13 ?_
      refine p_get fl_RX5_7 gm_s dX5_saves_14 ?_
      refine p_iload1 dX5_saves_17 ?_
      refine p_iald alq_s (by omega) (by omega) dX5_saves_18 ?_
      refine p_iast y_al11 (by omega) (by omega) y_as11 dX5_saves_19 ?_
      refine p_iinc1 rfl (Nat.le_of_ble_eq_true rfl) dX5_saves_20 ?_
      refine p_goto 2 dX5_saves_23 (by decide) ?_
      refine ih (k + 1) _ (fun i a c => ?_) (by omega) (by omega) (by omega)
      unfold uz
      by_cases e : i = k
      · rw [if_pos e, e]
      · rw [if_neg e]; exact hr i a (by omega)
set_option maxRecDepth 100000 in
set_option maxHeartbeats 4000000 in
theorem c_X5_saves {G : GX} {S : St} {r : Row} : Ev G mX5_saves [rf G 31] (mk G (va_up S 9 r)) none (mk G (va_up (va_up S 11 r) 9 r)) := by
  refine Ev.enter (by decide +kernel) (Nat.le_of_ble_eq_true rfl) (L := [some (rf G 31), none]) rfl ?_
  refine p_iconst dX5_saves_0 ?_
  refine p_istore1 rfl (Nat.le_of_ble_eq_true rfl) dX5_saves_1 ?_
  have h := l_X5_saves (G := G) (S := S) (r := r) 42 0 (S 11) (fun i a c => by omega) (by omega) (by omega) (by omega)
  rw [vup_same] at h
  exact h
set_option maxRecDepth 100000 in
set_option maxHeartbeats 4000000 in
theorem l_X5_laysAside {G : GX} {S : St} {r : Row} : ∀ (n : Nat) (k : Int) (a : Row), (∀ i, 0 ≤ i → i < k → a i = r i) → 0 ≤ k → k ≤ 41 → 41 - k < (n : Int) → Rn G mX5_laysAside 2 [some (rf G 31), some (vi k)] [] (mk G (va_up (va_up S 12 a) 9 r)) none (mk G (va_up (va_up S 12 r) 9 r)) := by
  intro n
  induction n with
  | zero =>
    intro k a hr h0 h1 h2
    exfalso
    omega
  | succ n ih =>
    intro k a hr h0 h1 h2
    push_cast at h2
    refine p_iload1 dX5_laysAside_2 ?_
    refine p_bipush (by decide) (by decide) dX5_laysAside_3 ?_
    refine p_icmp_ge ⟨by omega, by omega⟩ ⟨by omega, by omega⟩ 26 dX5_laysAside_5 (by decide) (fun c5 => ?_) (fun c5 => ?_)
    · exact p_vret rfl dX5_laysAside_26 rfl (y_mk12 fun i a c => hr i a (by omega))
    · refine p_oload0 dX5_laysAside_8 ?_
      refine p_get fl_RX5_19 gm_aside dX5_laysAside_9 ?_
      refine p_iload1 dX5_laysAside_12 ?_
      refine p_oload0 dX5_laysAside_13 ?_
      refine p_get fl_RX5_7 gm_s dX5_laysAside_14 ?_
      refine p_iload1 dX5_laysAside_17 ?_
      refine p_iald alq_s (by omega) (by omega) dX5_laysAside_18 ?_
      refine p_iast y_al12 (by omega) (by omega) y_as12 dX5_laysAside_19 ?_
      refine p_iinc1 rfl (Nat.le_of_ble_eq_true rfl) dX5_laysAside_20 ?_
      refine p_goto 2 dX5_laysAside_23 (by decide) ?_
      refine ih (k + 1) _ (fun i a c => ?_) (by omega) (by omega) (by omega)
      unfold uz
      by_cases e : i = k
      · rw [if_pos e, e]
      · rw [if_neg e]; exact hr i a (by omega)
set_option maxRecDepth 100000 in
set_option maxHeartbeats 4000000 in
theorem c_X5_laysAside {G : GX} {S : St} {r : Row} : Ev G mX5_laysAside [rf G 31] (mk G (va_up S 9 r)) none (mk G (va_up (va_up S 12 r) 9 r)) := by
  refine Ev.enter (by decide +kernel) (Nat.le_of_ble_eq_true rfl) (L := [some (rf G 31), none]) rfl ?_
  refine p_iconst dX5_laysAside_0 ?_
  refine p_istore1 rfl (Nat.le_of_ble_eq_true rfl) dX5_laysAside_1 ?_
  have h := l_X5_laysAside (G := G) (S := S) (r := r) 42 0 (S 12) (fun i a c => by omega) (by omega) (by omega) (by omega)
  rw [vup_same] at h
  exact h
set_option maxRecDepth 100000 in
set_option maxHeartbeats 4000000 in
theorem l_X5_putsBack {G : GX} {S : St} {a : Row} : ∀ (n : Nat) (k : Int) (r : Row), (∀ i, 0 ≤ i → i < k → r i = a i) → 0 ≤ k → k ≤ 41 → 41 - k < (n : Int) → Rn G mX5_putsBack 2 [some (rf G 31), some (vi k)] [] (mk G (va_up (va_up S 11 a) 9 r)) none (mk G (va_up (va_up S 11 a) 9 a)) := by
  intro n
  induction n with
  | zero =>
    intro k r hr h0 h1 h2
    exfalso
    omega
  | succ n ih =>
    intro k r hr h0 h1 h2
    push_cast at h2
    refine p_iload1 dX5_putsBack_2 ?_
    refine p_bipush (by decide) (by decide) dX5_putsBack_3 ?_
    refine p_icmp_ge ⟨by omega, by omega⟩ ⟨by omega, by omega⟩ 26 dX5_putsBack_5 (by decide) (fun c5 => ?_) (fun c5 => ?_)
    · exact p_vret rfl dX5_putsBack_26 rfl (mk_s fun i a c => hr i a (by omega))
    · refine p_oload0 dX5_putsBack_8 ?_
      refine p_get fl_RX5_7 gm_s dX5_putsBack_9 ?_
      refine p_iload1 dX5_putsBack_12 ?_
      refine p_oload0 dX5_putsBack_13 ?_
      refine p_get fl_RX5_16 gm_other dX5_putsBack_14 ?_
      refine p_iload1 dX5_putsBack_17 ?_
      refine p_iald y_al11 (by omega) (by omega) dX5_putsBack_18 ?_
      refine p_iast alq_s (by omega) (by omega) asq_s dX5_putsBack_19 ?_
      refine p_iinc1 rfl (Nat.le_of_ble_eq_true rfl) dX5_putsBack_20 ?_
      refine p_goto 2 dX5_putsBack_23 (by decide) ?_
      refine ih (k + 1) _ (fun i a c => ?_) (by omega) (by omega) (by omega)
      unfold uz
      by_cases e : i = k
      · rw [if_pos e, e]
      · rw [if_neg e]; exact hr i a (by omega)
set_option maxRecDepth 100000 in
set_option maxHeartbeats 4000000 in
theorem c_X5_putsBack {G : GX} {S : St} {a r : Row} : Ev G mX5_putsBack [rf G 31] (mk G (va_up (va_up S 11 a) 9 r)) none (mk G (va_up (va_up S 11 a) 9 a)) := by
  refine Ev.enter (by decide +kernel) (Nat.le_of_ble_eq_true rfl) (L := [some (rf G 31), none]) rfl ?_
  refine p_iconst dX5_putsBack_0 ?_
  refine p_istore1 rfl (Nat.le_of_ble_eq_true rfl) dX5_putsBack_1 ?_
  exact l_X5_putsBack 42 0 r (fun i a c => by omega) (by omega) (by omega) (by omega)
set_option maxRecDepth 100000 in
set_option maxHeartbeats 4000000 in
theorem l_X5_takesBack {G : GX} {S : St} {a : Row} {v : Int} : ∀ (n : Nat) (k : Int) (r : Row), (∀ i, 0 ≤ i → i < k → r i = a i) → 0 ≤ k → k ≤ 41 → 41 - k < (n : Int) → Rn G mX5_takesBack 2 [some (rf G 31), some (vi v), some (vi k)] [] (mk G (va_up (va_up S 12 a) 9 r)) (some (vi v)) (mk G (va_up (va_up S 12 a) 9 a)) := by
  intro n
  induction n with
  | zero =>
    intro k r hr h0 h1 h2
    exfalso
    omega
  | succ n ih =>
    intro k r hr h0 h1 h2
    push_cast at h2
    refine p_iload2 dX5_takesBack_2 ?_
    refine p_bipush (by decide) (by decide) dX5_takesBack_3 ?_
    refine p_icmp_ge ⟨by omega, by omega⟩ ⟨by omega, by omega⟩ 26 dX5_takesBack_5 (by decide) (fun c5 => ?_) (fun c5 => ?_)
    · refine p_iload1 dX5_takesBack_26 ?_
      exact p_iret rfl dX5_takesBack_27 rfl (mk_s fun i a c => hr i a (by omega))
    · refine p_oload0 dX5_takesBack_8 ?_
      refine p_get fl_RX5_7 gm_s dX5_takesBack_9 ?_
      refine p_iload2 dX5_takesBack_12 ?_
      refine p_oload0 dX5_takesBack_13 ?_
      refine p_get fl_RX5_19 gm_aside dX5_takesBack_14 ?_
      refine p_iload2 dX5_takesBack_17 ?_
      refine p_iald y_al12 (by omega) (by omega) dX5_takesBack_18 ?_
      refine p_iast alq_s (by omega) (by omega) asq_s dX5_takesBack_19 ?_
      refine p_iinc2 rfl (Nat.le_of_ble_eq_true rfl) dX5_takesBack_20 ?_
      refine p_goto 2 dX5_takesBack_23 (by decide) ?_
      refine ih (k + 1) _ (fun i a c => ?_) (by omega) (by omega) (by omega)
      unfold uz
      by_cases e : i = k
      · rw [if_pos e, e]
      · rw [if_neg e]; exact hr i a (by omega)
set_option maxRecDepth 100000 in
set_option maxHeartbeats 4000000 in
theorem c_X5_takesBack {G : GX} {S : St} {a r : Row} {v : Int} : Ev G mX5_takesBack [rf G 31, vi v] (mk G (va_up (va_up S 12 a) 9 r)) (some (vi v)) (mk G (va_up (va_up S 12 a) 9 a)) := by
  refine Ev.enter (by decide +kernel) (Nat.le_of_ble_eq_true rfl) (L := [some (rf G 31), some (vi v), none]) rfl ?_
  refine p_iconst dX5_takesBack_0 ?_
  refine p_istore2 rfl (Nat.le_of_ble_eq_true rfl) dX5_takesBack_1 ?_
  exact l_X5_takesBack 42 0 r (fun i a c => by omega) (by omega) (by omega) (by omega)
set_option maxRecDepth 100000 in
set_option maxHeartbeats 4000000 in
theorem c_X5_becomes {G : GX} {S : St} {r : Row} {w v : Int} (hw : 0 ≤ w ∧ w < 41) : Ev G mX5_becomes [rf G 31, vi w, vi v] (mk G (va_up S 9 r)) (some (vi (r w))) (mk G (va_up S 9 (uz r w v))) := by
  refine Ev.enter (by decide +kernel) (Nat.le_of_ble_eq_true rfl) (L := [some (rf G 31), some (vi w), some (vi v), none]) rfl ?_
  refine p_oload0 dX5_becomes_0 ?_
  refine p_get fl_RX5_7 gm_s dX5_becomes_1 ?_
  refine p_iload1 dX5_becomes_4 ?_
  refine p_iald alq_s (by omega) (by omega) dX5_becomes_5 ?_
  refine p_istore3 rfl (Nat.le_of_ble_eq_true rfl) dX5_becomes_6 ?_
  refine p_oload0 dX5_becomes_7 ?_
  refine p_get fl_RX5_7 gm_s dX5_becomes_8 ?_
  refine p_iload1 dX5_becomes_11 ?_
  refine p_iload2 dX5_becomes_12 ?_
  refine p_iast alq_s (by omega) (by omega) asq_s dX5_becomes_13 ?_
  refine p_iload3 dX5_becomes_14 ?_
  exact p_iret rfl dX5_becomes_15 (congrArg (fun z => some (vi z)) (by first | rfl | omega | (split <;> omega))) rfl
set_option maxRecDepth 100000 in
set_option maxHeartbeats 4000000 in
theorem c_X5_isMan {G : GX} {S : St} {r : Row} {b : Int} (hI : IR b r) {m : Int} (hm : inR m) : Ev G mX5_isMan [rf G 31, vi m] (mk G (va_up S 9 r)) (some (vi (if 0 ≤ m ∧ m ≤ r 1 - 1 then 1 else 0))) (mk G ((va_up S 9 r))) := by
  have i0 := hI.1; have i1 := hI.2.1; have i2 := hI.2.2.1; have i3 := hI.2.2.2.1; have i4 := hI.2.2.2.2.1
  obtain ⟨h1, h2⟩ := hm
  refine Ev.enter (by decide +kernel) (Nat.le_of_ble_eq_true rfl) (L := [some (rf G 31), some (vi m)]) rfl ?_
  refine p_iload1 dX5_isMan_0 ?_
  refine p_i2l ⟨by omega, by omega⟩ dX5_isMan_1 ?_
  refine p_lconst0 dX5_isMan_2 ?_
  refine p_oload0 dX5_isMan_3 ?_
  refine p_get fl_RX5_7 gm_s dX5_isMan_4 ?_
  refine p_iconst dX5_isMan_7 ?_
  refine p_iald alq_s (by omega) (by omega) dX5_isMan_8 ?_
  refine p_iconst dX5_isMan_9 ?_
  refine p_isub dX5_isMan_10 ?_
  refine p_i2l ⟨by omega, by omega⟩ dX5_isMan_11 ?_
  refine p_cS3r (M2 := mX5_in) ms_RX5_42 mc_X5_in ⟨Nat.le_of_ble_eq_true rfl, Nat.le_of_ble_eq_true rfl⟩ (Nat.le_of_ble_eq_true rfl) dX5_isMan_12 (c_X5_in ⟨by omega, by omega⟩ ⟨by omega, by omega⟩ ⟨by omega, by omega⟩) ?_
  exact p_zret rfl (by first | exact nz0 | exact nz1 | exact nzb _) dX5_isMan_15 (congrArg (fun z => some (vi z)) (by first | rfl | omega | (split <;> omega))) rfl
set_option maxRecDepth 100000 in
set_option maxHeartbeats 4000000 in
theorem c_X5_isSheep {G : GX} {S : St} {r : Row} {b : Int} (hI : IR b r) {m : Int} (hm : inR m) : Ev G mX5_isSheep [rf G 31, vi m] (mk G (va_up S 9 r)) (some (vi (if 0 ≤ m ∧ m ≤ r 0 - 1 then 1 else 0))) (mk G ((va_up S 9 r))) := by
  have i0 := hI.1; have i1 := hI.2.1; have i2 := hI.2.2.1; have i3 := hI.2.2.2.1; have i4 := hI.2.2.2.2.1
  obtain ⟨h1, h2⟩ := hm
  refine Ev.enter (by decide +kernel) (Nat.le_of_ble_eq_true rfl) (L := [some (rf G 31), some (vi m)]) rfl ?_
  refine p_iload1 dX5_isSheep_0 ?_
  refine p_i2l ⟨by omega, by omega⟩ dX5_isSheep_1 ?_
  refine p_lconst0 dX5_isSheep_2 ?_
  refine p_oload0 dX5_isSheep_3 ?_
  refine p_get fl_RX5_7 gm_s dX5_isSheep_4 ?_
  refine p_iconst dX5_isSheep_7 ?_
  refine p_iald alq_s (by omega) (by omega) dX5_isSheep_8 ?_
  refine p_iconst dX5_isSheep_9 ?_
  refine p_isub dX5_isSheep_10 ?_
  refine p_i2l ⟨by omega, by omega⟩ dX5_isSheep_11 ?_
  refine p_cS3r (M2 := mX5_in) ms_RX5_42 mc_X5_in ⟨Nat.le_of_ble_eq_true rfl, Nat.le_of_ble_eq_true rfl⟩ (Nat.le_of_ble_eq_true rfl) dX5_isSheep_12 (c_X5_in ⟨by omega, by omega⟩ ⟨by omega, by omega⟩ ⟨by omega, by omega⟩) ?_
  exact p_zret rfl (by first | exact nz0 | exact nz1 | exact nzb _) dX5_isSheep_15 (congrArg (fun z => some (vi z)) (by first | rfl | omega | (split <;> omega))) rfl
set_option maxRecDepth 100000 in
set_option maxHeartbeats 4000000 in
theorem c_X5_isKind {G : GX} {S : St} {m : Int} (hm : inR m) : Ev G mX5_isKind [vi m] (mk G S) (some (vi (if 0 ≤ m ∧ m ≤ 5 then 1 else 0))) (mk G (S)) := by
  obtain ⟨h1, h2⟩ := hm
  refine Ev.enter (by decide +kernel) (Nat.le_of_ble_eq_true rfl) (L := [some (vi m)]) rfl ?_
  refine p_iload0 dX5_isKind_0 ?_
  refine p_i2l ⟨by omega, by omega⟩ dX5_isKind_1 ?_
  refine p_lconst0 dX5_isKind_2 ?_
  refine p_ldc2 wc_RX5_46 dX5_isKind_3 ?_
  refine p_cS3r (M2 := mX5_in) ms_RX5_42 mc_X5_in ⟨Nat.le_of_ble_eq_true rfl, Nat.le_of_ble_eq_true rfl⟩ (Nat.le_of_ble_eq_true rfl) dX5_isKind_6 (c_X5_in ⟨by omega, by omega⟩ ⟨by omega, by omega⟩ ⟨by omega, by omega⟩) ?_
  exact p_zret rfl (by first | exact nz0 | exact nz1 | exact nzb _) dX5_isKind_9 (congrArg (fun z => some (vi z)) (by first | rfl | omega | (split <;> omega))) rfl
set_option maxRecDepth 100000 in
set_option maxHeartbeats 4000000 in
theorem c_X5_isGuise {G : GX} {S : St} {m : Int} (hm : inR m) : Ev G mX5_isGuise [vi m] (mk G S) (some (vi (if 0 ≤ m ∧ m ≤ 7 then 1 else 0))) (mk G (S)) := by
  obtain ⟨h1, h2⟩ := hm
  refine Ev.enter (by decide +kernel) (Nat.le_of_ble_eq_true rfl) (L := [some (vi m)]) rfl ?_
  refine p_iload0 dX5_isGuise_0 ?_
  refine p_i2l ⟨by omega, by omega⟩ dX5_isGuise_1 ?_
  refine p_lconst0 dX5_isGuise_2 ?_
  refine p_ldc2 wc_RX5_48 dX5_isGuise_3 ?_
  refine p_cS3r (M2 := mX5_in) ms_RX5_42 mc_X5_in ⟨Nat.le_of_ble_eq_true rfl, Nat.le_of_ble_eq_true rfl⟩ (Nat.le_of_ble_eq_true rfl) dX5_isGuise_6 (c_X5_in ⟨by omega, by omega⟩ ⟨by omega, by omega⟩ ⟨by omega, by omega⟩) ?_
  exact p_zret rfl (by first | exact nz0 | exact nz1 | exact nzb _) dX5_isGuise_9 (congrArg (fun z => some (vi z)) (by first | rfl | omega | (split <;> omega))) rfl
set_option maxRecDepth 100000 in
set_option maxHeartbeats 4000000 in
theorem c_X5_placeOf {G : GX} {S : St} {m w : Int} : Ev G mX5_placeOf [vi m, vi w] (mk G S) (some (vi (5 + 2 * m + w))) (mk G (S)) := by
  refine Ev.enter (by decide +kernel) (Nat.le_of_ble_eq_true rfl) (L := [some (vi m), some (vi w)]) rfl ?_
  refine p_iconst dX5_placeOf_0 ?_
  refine p_iconst dX5_placeOf_1 ?_
  refine p_iload0 dX5_placeOf_2 ?_
  refine p_imul dX5_placeOf_3 ?_
  refine p_iadd dX5_placeOf_4 ?_
  refine p_iload1 dX5_placeOf_5 ?_
  refine p_iadd dX5_placeOf_6 ?_
  exact p_iret rfl dX5_placeOf_7 (congrArg (fun z => some (vi z)) (by first | rfl | omega | (split <;> omega))) rfl
set_option maxRecDepth 100000 in
set_option maxHeartbeats 4000000 in
theorem c_X5_spotOf {G : GX} {S : St} {m w : Int} : Ev G mX5_spotOf [vi m, vi w] (mk G S) (some (vi (17 + 3 * m + w))) (mk G (S)) := by
  refine Ev.enter (by decide +kernel) (Nat.le_of_ble_eq_true rfl) (L := [some (vi m), some (vi w)]) rfl ?_
  refine p_bipush (by decide) (by decide) dX5_spotOf_0 ?_
  refine p_iconst dX5_spotOf_2 ?_
  refine p_iload0 dX5_spotOf_3 ?_
  refine p_imul dX5_spotOf_4 ?_
  refine p_iadd dX5_spotOf_5 ?_
  refine p_iload1 dX5_spotOf_6 ?_
  refine p_iadd dX5_spotOf_7 ?_
  exact p_iret rfl dX5_spotOf_8 (congrArg (fun z => some (vi z)) (by first | rfl | omega | (split <;> omega))) rfl
theorem c_X5_placeOf0 {G : GX} {S : St} {m : Int} : Ev G mX5_placeOf [vi m, vi 0] (mk G S) (some (vi (5 + 2 * m))) (mk G S) := by
  have h := c_X5_placeOf (G := G) (S := S) (m := m) (w := 0)
  rw [show 5 + 2 * m + 0 = 5 + 2 * m by omega] at h
  exact h
theorem c_X5_placeOf1 {G : GX} {S : St} {m : Int} : Ev G mX5_placeOf [vi m, vi 1] (mk G S) (some (vi (6 + 2 * m))) (mk G S) := by
  have h := c_X5_placeOf (G := G) (S := S) (m := m) (w := 1)
  rw [show 5 + 2 * m + 1 = 6 + 2 * m by omega] at h
  exact h
theorem c_X5_spotOf0 {G : GX} {S : St} {m : Int} : Ev G mX5_spotOf [vi m, vi 0] (mk G S) (some (vi (17 + 3 * m))) (mk G S) := by
  have h := c_X5_spotOf (G := G) (S := S) (m := m) (w := 0)
  rw [show 17 + 3 * m + 0 = 17 + 3 * m by omega] at h
  exact h
theorem c_X5_spotOf1 {G : GX} {S : St} {m : Int} : Ev G mX5_spotOf [vi m, vi 1] (mk G S) (some (vi (18 + 3 * m))) (mk G S) := by
  have h := c_X5_spotOf (G := G) (S := S) (m := m) (w := 1)
  rw [show 17 + 3 * m + 1 = 18 + 3 * m by omega] at h
  exact h
theorem c_X5_spotOf2 {G : GX} {S : St} {m : Int} : Ev G mX5_spotOf [vi m, vi 2] (mk G S) (some (vi (19 + 3 * m))) (mk G S) := by
  have h := c_X5_spotOf (G := G) (S := S) (m := m) (w := 2)
  rw [show 17 + 3 * m + 2 = 19 + 3 * m by omega] at h
  exact h
set_option maxRecDepth 100000 in
set_option maxHeartbeats 4000000 in
theorem c_X5_his {G : GX} {S : St} {r : Row} {b : Int} (hI : IR b r) {m w : Int} (hm : 0 ≤ m ∧ m < 6) (hw : 0 ≤ w ∧ w ≤ 1) : Ev G mX5_his [rf G 31, vi m, vi w] (mk G (va_up S 9 r)) (some (vi (r (5 + 2 * m + w)))) (mk G ((va_up S 9 r))) := by
  refine Ev.enter (by decide +kernel) (Nat.le_of_ble_eq_true rfl) (L := [some (rf G 31), some (vi m), some (vi w)]) rfl ?_
  refine p_oload0 dX5_his_0 ?_
  refine p_get fl_RX5_7 gm_s dX5_his_1 ?_
  refine p_iload1 dX5_his_4 ?_
  refine p_iload2 dX5_his_5 ?_
  refine p_cS2r (M2 := mX5_placeOf) ms_RX5_50 mc_X5_placeOf ⟨Nat.le_of_ble_eq_true rfl, Nat.le_of_ble_eq_true rfl⟩ (Nat.le_of_ble_eq_true rfl) dX5_his_6 (c_X5_placeOf) ?_
  refine p_iald alq_s (by omega) (by omega) dX5_his_9 ?_
  exact p_iret rfl dX5_his_10 (congrArg (fun z => some (vi z)) (by first | rfl | omega | (split <;> omega))) rfl
set_option maxRecDepth 100000 in
set_option maxHeartbeats 4000000 in
theorem c_X5_its {G : GX} {S : St} {r : Row} {b : Int} (hI : IR b r) {m w : Int} (hm : 0 ≤ m ∧ m < 8) (hw : 0 ≤ w ∧ w ≤ 2) : Ev G mX5_its [rf G 31, vi m, vi w] (mk G (va_up S 9 r)) (some (vi (r (17 + 3 * m + w)))) (mk G ((va_up S 9 r))) := by
  refine Ev.enter (by decide +kernel) (Nat.le_of_ble_eq_true rfl) (L := [some (rf G 31), some (vi m), some (vi w)]) rfl ?_
  refine p_oload0 dX5_its_0 ?_
  refine p_get fl_RX5_7 gm_s dX5_its_1 ?_
  refine p_iload1 dX5_its_4 ?_
  refine p_iload2 dX5_its_5 ?_
  refine p_cS2r (M2 := mX5_spotOf) ms_RX5_54 mc_X5_spotOf ⟨Nat.le_of_ble_eq_true rfl, Nat.le_of_ble_eq_true rfl⟩ (Nat.le_of_ble_eq_true rfl) dX5_its_6 (c_X5_spotOf) ?_
  refine p_iald alq_s (by omega) (by omega) dX5_its_9 ?_
  exact p_iret rfl dX5_its_10 (congrArg (fun z => some (vi z)) (by first | rfl | omega | (split <;> omega))) rfl
theorem c_X5_his0 {G : GX} {S : St} {r : Row} {b : Int} (hI : IR b r) {m : Int} (h0 : 0 ≤ m) (h1 : m < 6) : Ev G mX5_his [rf G 31, vi m, vi 0] (mk G (va_up S 9 r)) (some (vi (r (5 + 2 * m)))) (mk G (va_up S 9 r)) := by
  have h := c_X5_his (G := G) (S := S) hI (m := m) (w := 0) ⟨h0, h1⟩ (by omega)
  rw [show 5 + 2 * m + 0 = 5 + 2 * m by omega] at h
  exact h
theorem c_X5_his1 {G : GX} {S : St} {r : Row} {b : Int} (hI : IR b r) {m : Int} (h0 : 0 ≤ m) (h1 : m < 6) : Ev G mX5_his [rf G 31, vi m, vi 1] (mk G (va_up S 9 r)) (some (vi (r (6 + 2 * m)))) (mk G (va_up S 9 r)) := by
  have h := c_X5_his (G := G) (S := S) hI (m := m) (w := 1) ⟨h0, h1⟩ (by omega)
  rw [show 5 + 2 * m + 1 = 6 + 2 * m by omega] at h
  exact h
theorem c_X5_its0 {G : GX} {S : St} {r : Row} {b : Int} (hI : IR b r) {m : Int} (h0 : 0 ≤ m) (h1 : m < 8) : Ev G mX5_its [rf G 31, vi m, vi 0] (mk G (va_up S 9 r)) (some (vi (r (17 + 3 * m)))) (mk G (va_up S 9 r)) := by
  have h := c_X5_its (G := G) (S := S) hI (m := m) (w := 0) ⟨h0, h1⟩ (by omega)
  rw [show 17 + 3 * m + 0 = 17 + 3 * m by omega] at h
  exact h
theorem c_X5_its1 {G : GX} {S : St} {r : Row} {b : Int} (hI : IR b r) {m : Int} (h0 : 0 ≤ m) (h1 : m < 8) : Ev G mX5_its [rf G 31, vi m, vi 1] (mk G (va_up S 9 r)) (some (vi (r (18 + 3 * m)))) (mk G (va_up S 9 r)) := by
  have h := c_X5_its (G := G) (S := S) hI (m := m) (w := 1) ⟨h0, h1⟩ (by omega)
  rw [show 17 + 3 * m + 1 = 18 + 3 * m by omega] at h
  exact h
theorem c_X5_its2 {G : GX} {S : St} {r : Row} {b : Int} (hI : IR b r) {m : Int} (h0 : 0 ≤ m) (h1 : m < 8) : Ev G mX5_its [rf G 31, vi m, vi 2] (mk G (va_up S 9 r)) (some (vi (r (19 + 3 * m)))) (mk G (va_up S 9 r)) := by
  have h := c_X5_its (G := G) (S := S) hI (m := m) (w := 2) ⟨h0, h1⟩ (by omega)
  rw [show 17 + 3 * m + 2 = 19 + 3 * m by omega] at h
  exact h
theorem on_cc : ∀ n, n < 64 → 0 < n → 0 ≤ (Int32.ofInt ((n : Nat) : Int) &&& Int32.ofInt (((n : Nat) : Int) - 1)).toInt ∧ (Int32.ofInt ((n : Nat) : Int) &&& Int32.ofInt (((n : Nat) : Int) - 1)).toInt < n ∧ pcn (Int32.ofInt ((n : Nat) : Int) &&& Int32.ofInt (((n : Nat) : Int) - 1)).toInt + 1 = pcn n := by decide +kernel
theorem on_st {x : Int} (h0 : 0 < x) (h1 : x < 64) : 0 ≤ bAnd x (x - 1) ∧ bAnd x (x - 1) < x ∧ pcn (bAnd x (x - 1)) + 1 = pcn x := by
  have h := on_cc x.toNat (by omega) (by omega)
  rw [show ((x.toNat : Nat) : Int) = x by omega] at h
  exact h
set_option maxRecDepth 100000 in
set_option maxHeartbeats 4000000 in
theorem l_X5_ones {G : GX} {S : St} {s : Int} : ∀ (n : Nat) (c : Int) (x : Int), 0 ≤ x → x < 64 → x < (n : Int) → Rn G mX5_ones 4 [some (vi s), some (vi c), some (vi x)] [] (mk G (S)) (some (vi (c + pcn x))) (mk G (S)) := by
  intro n
  induction n with
  | zero =>
    intro c x h0 h1 h2
    exfalso
    omega
  | succ n ih =>
    intro c x h0 h1 h2
    push_cast at h2
    refine p_iload2 dX5_ones_4 ?_
    refine p_if_eq ⟨by omega, by omega⟩ 20 dX5_ones_5 (by decide) (fun c5 => ?_) (fun c5 => ?_)
    · subst c5
      refine p_iload1 dX5_ones_20 ?_
      exact p_iret rfl dX5_ones_21 (congrArg (fun z => some (vi z)) (by show c = c + pcn 0; rw [show pcn 0 = 0 by decide]; omega)) rfl
    · have hs := on_st (x := x) (by omega) h1
      refine p_iinc1 rfl (Nat.le_of_ble_eq_true rfl) dX5_ones_8 ?_
      refine p_iload2 dX5_ones_11 ?_
      refine p_iload2 dX5_ones_12 ?_
      refine p_iconst dX5_ones_13 ?_
      refine p_isub dX5_ones_14 ?_
      refine p_iand dX5_ones_15 ?_
      refine p_istore2 rfl (Nat.le_of_ble_eq_true rfl) dX5_ones_16 ?_
      refine p_goto 4 dX5_ones_17 (by decide) ?_
      have h := ih (c + 1) (bAnd x (x - 1)) hs.1 (by omega) (by omega)
      rw [show c + 1 + pcn (bAnd x (x - 1)) = c + pcn x by omega] at h
      exact h
set_option maxRecDepth 100000 in
set_option maxHeartbeats 4000000 in
theorem c_X5_ones {G : GX} {S : St} {s : Int} (h0 : 0 ≤ s) (h1 : s < 64) : Ev G mX5_ones [vi s] (mk G S) (some (vi (pcn s))) (mk G (S)) := by
  refine Ev.enter (by decide +kernel) (Nat.le_of_ble_eq_true rfl) (L := [some (vi s), none, none]) rfl ?_
  refine p_iconst dX5_ones_0 ?_
  refine p_istore1 rfl (Nat.le_of_ble_eq_true rfl) dX5_ones_1 ?_
  refine p_iload0 dX5_ones_2 ?_
  refine p_istore2 rfl (Nat.le_of_ble_eq_true rfl) dX5_ones_3 ?_
  have h := l_X5_ones (G := G) (S := S) (s := s) 64 0 s h0 h1 (by omega)
  rw [Int.zero_add] at h
  exact h
set_option maxRecDepth 100000 in
set_option maxHeartbeats 4000000 in
theorem c_X5_heldTo {G : GX} {S : St} {v c : Int} (hv : inR v) (hc : inR c) : Ev G mX5_heldTo [vi v, vi c] (mk G S) (some (vi (mn c v))) (mk G (S)) := by
  refine Ev.enter (by decide +kernel) (Nat.le_of_ble_eq_true rfl) (L := [some (vi v), some (vi c)]) rfl ?_
  refine p_iload0 dX5_heldTo_0 ?_
  refine p_iload1 dX5_heldTo_1 ?_
  refine p_icmp_le hv hc 9 dX5_heldTo_2 (by decide) (fun c2 => ?_) (fun c2 => ?_)
  · refine p_iload0 dX5_heldTo_9 ?_
    exact p_iret rfl dX5_heldTo_10 (congrArg (fun z => some (vi z)) (by unfold mn; split <;> omega)) rfl
  · refine p_iload1 dX5_heldTo_5 ?_
    refine p_goto 10 dX5_heldTo_6 (by decide) ?_
    exact p_iret rfl dX5_heldTo_10 (congrArg (fun z => some (vi z)) (by unfold mn; split <;> omega)) rfl
set_option maxRecDepth 100000 in
set_option maxHeartbeats 4000000 in
theorem c_X5_addsMan {G : GX} {S : St} {r : Row} {b : Int} (hI : IR b r) {g : Int} (hr : r 1 < 6) : Ev G mX5_addsMan [rf G 31, vi g] (mk G (va_up S 9 r)) (some (vi (r 1))) (mk G (va_up S 9 (amR r g 0))) := by
  have i0 := hI.1; have i1 := hI.2.1; have i2 := hI.2.2.1; have i3 := hI.2.2.2.1; have i4 := hI.2.2.2.2.1
  refine Ev.enter (by decide +kernel) (Nat.le_of_ble_eq_true rfl) (L := [some (rf G 31), some (vi g), none]) rfl ?_
  refine p_oload0 dX5_addsMan_0 ?_
  refine p_get fl_RX5_7 gm_s dX5_addsMan_1 ?_
  refine p_iconst dX5_addsMan_4 ?_
  refine p_iald alq_s (by omega) (by omega) dX5_addsMan_5 ?_
  refine p_istore2 rfl (Nat.le_of_ble_eq_true rfl) dX5_addsMan_6 ?_
  refine p_oload0 dX5_addsMan_7 ?_
  refine p_get fl_RX5_7 gm_s dX5_addsMan_8 ?_
  refine p_iload2 dX5_addsMan_11 ?_
  refine p_iconst dX5_addsMan_12 ?_
  refine p_cS2r (M2 := mX5_placeOf) ms_RX5_50 mc_X5_placeOf ⟨Nat.le_of_ble_eq_true rfl, Nat.le_of_ble_eq_true rfl⟩ (Nat.le_of_ble_eq_true rfl) dX5_addsMan_13 (c_X5_placeOf0) ?_
  refine p_iload1 dX5_addsMan_16 ?_
  refine p_iast alq_s (by omega) (by omega) asq_s dX5_addsMan_17 ?_
  refine p_oload0 dX5_addsMan_18 ?_
  refine p_get fl_RX5_7 gm_s dX5_addsMan_19 ?_
  refine p_iload2 dX5_addsMan_22 ?_
  refine p_iconst dX5_addsMan_23 ?_
  refine p_cS2r (M2 := mX5_placeOf) ms_RX5_50 mc_X5_placeOf ⟨Nat.le_of_ble_eq_true rfl, Nat.le_of_ble_eq_true rfl⟩ (Nat.le_of_ble_eq_true rfl) dX5_addsMan_24 (c_X5_placeOf1) ?_
  refine p_iconst dX5_addsMan_27 ?_
  refine p_iast alq_s (by omega) (by omega) asq_s dX5_addsMan_28 ?_
  refine p_oload0 dX5_addsMan_29 ?_
  refine p_get fl_RX5_7 gm_s dX5_addsMan_30 ?_
  refine p_iconst dX5_addsMan_33 ?_
  refine p_dup2 rfl rfl dX5_addsMan_34 ?_
  refine p_iald alq_s (by omega) (by omega) dX5_addsMan_35 ?_
  refine p_iconst dX5_addsMan_36 ?_
  refine p_iadd dX5_addsMan_37 ?_
  refine p_iast alq_s (by omega) (by omega) asq_s dX5_addsMan_38 ?_
  refine p_iload2 dX5_addsMan_39 ?_
  exact p_iret rfl dX5_addsMan_40 (congrArg (fun z => some (vi z)) (by first | rfl | omega | (split <;> omega))) (congrArg (fun z => mk G (va_up S 9 z)) (by unfold amR; rw [uz_ne (j := 1) _ _ (by omega), uz_ne (j := 1) _ _ (by omega)]))
set_option maxRecDepth 100000 in
set_option maxHeartbeats 4000000 in
theorem c_X5_adds {G : GX} {S : St} {r : Row} {b : Int} (hI : IR b r) {k : Int} (hr : r 0 < 8) : Ev G mX5_adds [rf G 31, vi k] (mk G (va_up S 9 r)) (some (vi (r 0))) (mk G (va_up S 9 (asR r k 20))) := by
  have i0 := hI.1; have i1 := hI.2.1; have i2 := hI.2.2.1; have i3 := hI.2.2.2.1; have i4 := hI.2.2.2.2.1
  refine Ev.enter (by decide +kernel) (Nat.le_of_ble_eq_true rfl) (L := [some (rf G 31), some (vi k), none]) rfl ?_
  refine p_oload0 dX5_adds_0 ?_
  refine p_get fl_RX5_7 gm_s dX5_adds_1 ?_
  refine p_iconst dX5_adds_4 ?_
  refine p_iald alq_s (by omega) (by omega) dX5_adds_5 ?_
  refine p_istore2 rfl (Nat.le_of_ble_eq_true rfl) dX5_adds_6 ?_
  refine p_oload0 dX5_adds_7 ?_
  refine p_get fl_RX5_7 gm_s dX5_adds_8 ?_
  refine p_iload2 dX5_adds_11 ?_
  refine p_iconst dX5_adds_12 ?_
  refine p_cS2r (M2 := mX5_spotOf) ms_RX5_54 mc_X5_spotOf ⟨Nat.le_of_ble_eq_true rfl, Nat.le_of_ble_eq_true rfl⟩ (Nat.le_of_ble_eq_true rfl) dX5_adds_13 (c_X5_spotOf0) ?_
  refine p_iload1 dX5_adds_16 ?_
  refine p_iast alq_s (by omega) (by omega) asq_s dX5_adds_17 ?_
  refine p_oload0 dX5_adds_18 ?_
  refine p_get fl_RX5_7 gm_s dX5_adds_19 ?_
  refine p_iload2 dX5_adds_22 ?_
  refine p_iconst dX5_adds_23 ?_
  refine p_cS2r (M2 := mX5_spotOf) ms_RX5_54 mc_X5_spotOf ⟨Nat.le_of_ble_eq_true rfl, Nat.le_of_ble_eq_true rfl⟩ (Nat.le_of_ble_eq_true rfl) dX5_adds_24 (c_X5_spotOf1) ?_
  refine p_bipush (by decide) (by decide) dX5_adds_27 ?_
  refine p_iast alq_s (by omega) (by omega) asq_s dX5_adds_29 ?_
  refine p_oload0 dX5_adds_30 ?_
  refine p_get fl_RX5_7 gm_s dX5_adds_31 ?_
  refine p_iload2 dX5_adds_34 ?_
  refine p_iconst dX5_adds_35 ?_
  refine p_cS2r (M2 := mX5_spotOf) ms_RX5_54 mc_X5_spotOf ⟨Nat.le_of_ble_eq_true rfl, Nat.le_of_ble_eq_true rfl⟩ (Nat.le_of_ble_eq_true rfl) dX5_adds_36 (c_X5_spotOf2) ?_
  refine p_iconst dX5_adds_39 ?_
  refine p_iast alq_s (by omega) (by omega) asq_s dX5_adds_40 ?_
  refine p_oload0 dX5_adds_41 ?_
  refine p_get fl_RX5_7 gm_s dX5_adds_42 ?_
  refine p_iconst dX5_adds_45 ?_
  refine p_dup2 rfl rfl dX5_adds_46 ?_
  refine p_iald alq_s (by omega) (by omega) dX5_adds_47 ?_
  refine p_iconst dX5_adds_48 ?_
  refine p_iadd dX5_adds_49 ?_
  refine p_iast alq_s (by omega) (by omega) asq_s dX5_adds_50 ?_
  refine p_iload2 dX5_adds_51 ?_
  exact p_iret rfl dX5_adds_52 (congrArg (fun z => some (vi z)) (by first | rfl | omega | (split <;> omega))) (congrArg (fun z => mk G (va_up S 9 z)) (by unfold asR; rw [uz_ne (j := 0) _ _ (by omega), uz_ne (j := 0) _ _ (by omega), uz_ne (j := 0) _ _ (by omega)]))
set_option maxRecDepth 100000 in
set_option maxHeartbeats 4000000 in
theorem c_X5_isAsleep {G : GX} {S : St} {r : Row} {b : Int} (hI : IR b r) {p : Int} (h0 : 0 ≤ p) (h8 : p < 8) : Ev G mX5_isAsleep [rf G 31, vi p] (mk G (va_up S 9 r)) (some (vi (if r (18 + 3 * p) = 0 then 1 else 0))) (mk G ((va_up S 9 r))) := by
  have i6 := hI.2.2.2.2.2.2 p h0 h8
  refine Ev.enter (by decide +kernel) (Nat.le_of_ble_eq_true rfl) (L := [some (rf G 31), some (vi p)]) rfl ?_
  refine p_oload0 dX5_isAsleep_0 ?_
  refine p_iload1 dX5_isAsleep_1 ?_
  refine p_iconst dX5_isAsleep_2 ?_
  refine p_cV2r (M2 := mX5_its) ml_RX5_87 mc_X5_its ⟨Nat.le_of_ble_eq_true rfl, Nat.le_of_ble_eq_true rfl⟩ (isO_m _ _) (Nat.le_of_ble_eq_true rfl) dX5_isAsleep_3 (c_X5_its1 hI (by omega) (by omega)) ?_
  refine p_if_ne ⟨by omega, by omega⟩ 13 dX5_isAsleep_6 (by decide) (fun c6 => ?_) (fun c6 => ?_)
  · refine p_iconst dX5_isAsleep_13 ?_
    exact p_zret rfl (by first | exact nz0 | exact nz1 | exact nzb _) dX5_isAsleep_14 (congrArg (fun z => some (vi z)) (by first | rfl | omega | (split <;> omega))) rfl
  · refine p_iconst dX5_isAsleep_9 ?_
    refine p_goto 14 dX5_isAsleep_10 (by decide) ?_
    exact p_zret rfl (by first | exact nz0 | exact nz1 | exact nzb _) dX5_isAsleep_14 (congrArg (fun z => some (vi z)) (by first | rfl | omega | (split <;> omega))) rfl
set_option maxRecDepth 100000 in
set_option maxHeartbeats 4000000 in
theorem c_X5_wakesOf {G : GX} {S : St} {r : Row} {b : Int} (hI : IR b r) {p : Int} (h0 : 0 ≤ p) (h8 : p < 8) : Ev G mX5_wakesOf [rf G 31, vi p] (mk G (va_up S 9 r)) (some (vi (tW (r (17 + 3 * p))))) (mk G ((va_up S 9 r))) := by
  have i6 := hI.2.2.2.2.2.2 p h0 h8
  refine Ev.enter (by decide +kernel) (Nat.le_of_ble_eq_true rfl) (L := [some (rf G 31), some (vi p), none]) rfl ?_
  refine p_oload0 dX5_wakesOf_0 ?_
  refine p_iload1 dX5_wakesOf_1 ?_
  refine p_iconst dX5_wakesOf_2 ?_
  refine p_cV2r (M2 := mX5_its) ml_RX5_87 mc_X5_its ⟨Nat.le_of_ble_eq_true rfl, Nat.le_of_ble_eq_true rfl⟩ (isO_m _ _) (Nat.le_of_ble_eq_true rfl) dX5_wakesOf_3 (c_X5_its0 hI (by omega) (by omega)) ?_
  refine p_istore2 rfl (Nat.le_of_ble_eq_true rfl) dX5_wakesOf_6 ?_
  refine p_iload2 dX5_wakesOf_7 ?_
  refine p_iconst dX5_wakesOf_8 ?_
  refine p_icmp_ne ⟨by omega, by omega⟩ ⟨by omega, by omega⟩ 16 dX5_wakesOf_9 (by decide) (fun c9 => ?_) (fun c9 => ?_)
  · refine p_iload2 dX5_wakesOf_16 ?_
    refine p_iconst dX5_wakesOf_17 ?_
    refine p_icmp_eq ⟨by omega, by omega⟩ ⟨by omega, by omega⟩ 26 dX5_wakesOf_18 (by decide) (fun c18 => ?_) (fun c18 => ?_)
    · refine p_iconst dX5_wakesOf_26 ?_
      refine p_goto 31 dX5_wakesOf_27 (by decide) ?_
      exact p_iret rfl dX5_wakesOf_31 (congrArg (fun z => some (vi z)) (by unfold tW; (try split) <;> (try split) <;> (try split) <;> omega)) rfl
    · refine p_iload2 dX5_wakesOf_21 ?_
      refine p_iconst dX5_wakesOf_22 ?_
      refine p_icmp_ne ⟨by omega, by omega⟩ ⟨by omega, by omega⟩ 30 dX5_wakesOf_23 (by decide) (fun c23 => ?_) (fun c23 => ?_)
      · refine p_iconst dX5_wakesOf_30 ?_
        exact p_iret rfl dX5_wakesOf_31 (congrArg (fun z => some (vi z)) (by unfold tW; (try split) <;> (try split) <;> (try split) <;> omega)) rfl
      · refine p_iconst dX5_wakesOf_26 ?_
        refine p_goto 31 dX5_wakesOf_27 (by decide) ?_
        exact p_iret rfl dX5_wakesOf_31 (congrArg (fun z => some (vi z)) (by unfold tW; (try split) <;> (try split) <;> (try split) <;> omega)) rfl
  · refine p_iconst dX5_wakesOf_12 ?_
    refine p_goto 31 dX5_wakesOf_13 (by decide) ?_
    exact p_iret rfl dX5_wakesOf_31 (congrArg (fun z => some (vi z)) (by unfold tW; (try split) <;> (try split) <;> (try split) <;> omega)) rfl
set_option maxRecDepth 100000 in
set_option maxHeartbeats 4000000 in
theorem c_X5_tiresOf {G : GX} {S : St} {r : Row} {b : Int} (hI : IR b r) {p : Int} (h0 : 0 ≤ p) (h8 : p < 8) : Ev G mX5_tiresOf [rf G 31, vi p] (mk G (va_up S 9 r)) (some (vi (tT (r (17 + 3 * p))))) (mk G ((va_up S 9 r))) := by
  have i6 := hI.2.2.2.2.2.2 p h0 h8
  refine Ev.enter (by decide +kernel) (Nat.le_of_ble_eq_true rfl) (L := [some (rf G 31), some (vi p), none]) rfl ?_
  refine p_oload0 dX5_tiresOf_0 ?_
  refine p_iload1 dX5_tiresOf_1 ?_
  refine p_iconst dX5_tiresOf_2 ?_
  refine p_cV2r (M2 := mX5_its) ml_RX5_87 mc_X5_its ⟨Nat.le_of_ble_eq_true rfl, Nat.le_of_ble_eq_true rfl⟩ (isO_m _ _) (Nat.le_of_ble_eq_true rfl) dX5_tiresOf_3 (c_X5_its0 hI (by omega) (by omega)) ?_
  refine p_istore2 rfl (Nat.le_of_ble_eq_true rfl) dX5_tiresOf_6 ?_
  refine p_iload2 dX5_tiresOf_7 ?_
  refine p_iconst dX5_tiresOf_8 ?_
  refine p_icmp_ne ⟨by omega, by omega⟩ ⟨by omega, by omega⟩ 16 dX5_tiresOf_9 (by decide) (fun c9 => ?_) (fun c9 => ?_)
  · refine p_iload2 dX5_tiresOf_16 ?_
    refine p_iconst dX5_tiresOf_17 ?_
    refine p_icmp_ne ⟨by omega, by omega⟩ ⟨by omega, by omega⟩ 25 dX5_tiresOf_18 (by decide) (fun c18 => ?_) (fun c18 => ?_)
    · refine p_iconst dX5_tiresOf_25 ?_
      exact p_iret rfl dX5_tiresOf_26 (congrArg (fun z => some (vi z)) (by unfold tT; (try split) <;> (try split) <;> omega)) rfl
    · refine p_iconst dX5_tiresOf_21 ?_
      refine p_goto 26 dX5_tiresOf_22 (by decide) ?_
      exact p_iret rfl dX5_tiresOf_26 (congrArg (fun z => some (vi z)) (by unfold tT; (try split) <;> (try split) <;> omega)) rfl
  · refine p_iconst dX5_tiresOf_12 ?_
    refine p_goto 26 dX5_tiresOf_13 (by decide) ?_
    exact p_iret rfl dX5_tiresOf_26 (congrArg (fun z => some (vi z)) (by unfold tT; (try split) <;> (try split) <;> omega)) rfl
set_option maxRecDepth 100000 in
set_option maxHeartbeats 4000000 in
theorem t_countsOf {G : GX} {S : St} {r : Row} {b : Int} (hI : IR b r) {p g : Int} (h0 : 0 ≤ p) (h8 : p < 8) (hg : 0 ≤ g ∧ g ≤ 7) (hb : b ≤ 1000000) {u ew we : Int} (hu : 0 ≤ u ∧ u ≤ 6) (hu2 : u = un g (r 3)) (he : ew = 1 + u + stk g) (hw : we = if u = 0 then 0 else 1 + u) : Rn G mX5_countsOf 60 [some (rf G 31), some (vi p), some (vi g), some (vi u), some (vi (1 + u)), some (vi ew), some (vi we)] [] (mk G (va_up S 9 r)) (some (vi (tk (r (17 + 3 * p)) g (un g (r 3)) (r 2)))) (mk G (va_up S 9 r)) := by
  have i6 := hI.2.2.2.2.2.2 p h0 h8
  have i2 := hI.2.2.1
  have hsk := stk_le g
  refine p_oload0 dX5_countsOf_60 ?_
  refine p_iload1 dX5_countsOf_61 ?_
  refine p_iconst dX5_countsOf_62 ?_
  refine p_cV2r (M2 := mX5_its) ml_RX5_87 mc_X5_its ⟨Nat.le_of_ble_eq_true rfl, Nat.le_of_ble_eq_true rfl⟩ (isO_m _ _) (Nat.le_of_ble_eq_true rfl) dX5_countsOf_63 (c_X5_its0 hI (by omega) (by omega)) ?_
  rcases (show r (17 + 3 * p) = 1 ∨ r (17 + 3 * p) = 2 ∨ r (17 + 3 * p) = 3 ∨ r (17 + 3 * p) = 4 ∨ r (17 + 3 * p) = 5 ∨ (r (17 + 3 * p) < 1 ∨ 5 < r (17 + 3 * p)) by omega) with c66 | c66 | c66 | c66 | c66 | c66
  · refine p_tswI ⟨by omega, by omega⟩ 0 100 dX5_countsOf_66 (by omega) (by decide) rfl (by decide) ?_
    refine p_iload5 dX5_countsOf_100 ?_
    exact p_iret rfl dX5_countsOf_102 (congrArg (fun z => some (vi z)) (by rw [c66, ← hu2]; unfold tk; simp only [he, hw]; rfl)) rfl
  · refine p_tswI ⟨by omega, by omega⟩ 1 103 dX5_countsOf_66 (by omega) (by decide) rfl (by decide) ?_
    refine p_iconst dX5_countsOf_103 ?_
    refine p_iload4 dX5_countsOf_104 ?_
    refine p_imul dX5_countsOf_106 ?_
    exact p_iret rfl dX5_countsOf_107 (congrArg (fun z => some (vi z)) (by rw [c66, ← hu2]; unfold tk; simp only [he, hw]; rfl)) rfl
  · refine p_tswI ⟨by omega, by omega⟩ 2 108 dX5_countsOf_66 (by omega) (by decide) rfl (by decide) ?_
    refine p_iload6 dX5_countsOf_108 ?_
    exact p_iret rfl dX5_countsOf_110 (congrArg (fun z => some (vi z)) (by rw [c66, ← hu2]; unfold tk; simp only [he, hw]; rfl)) rfl
  · refine p_tswI ⟨by omega, by omega⟩ 3 111 dX5_countsOf_66 (by omega) (by decide) rfl (by decide) ?_
    refine p_oload0 dX5_countsOf_111 ?_
    refine p_get fl_RX5_7 gm_s dX5_countsOf_112 ?_
    refine p_iconst dX5_countsOf_115 ?_
    refine p_iald alq_s (by omega) (by omega) dX5_countsOf_116 ?_
    refine p_iconst dX5_countsOf_117 ?_
    refine p_irem ⟨by omega, by omega⟩ ⟨by omega, by omega⟩ (by omega) (by omega) dX5_countsOf_118 ?_
    refine p_if_ne ⟨by omega, by omega⟩ 127 dX5_countsOf_119 (by decide) (fun c119 => ?_) (fun c119 => ?_)
    · refine p_iload5 dX5_countsOf_127 ?_
      refine p_iconst dX5_countsOf_129 ?_
      refine p_isub dX5_countsOf_130 ?_
      exact p_iret rfl dX5_countsOf_131 (congrArg (fun z => some (vi z)) (by rw [c66, ← hu2]; unfold tk; simp; omega)) rfl
    · refine p_iload5 dX5_countsOf_122 ?_
      refine p_goto 131 dX5_countsOf_124 (by decide) ?_
      exact p_iret rfl dX5_countsOf_131 (congrArg (fun z => some (vi z)) (by rw [c66, ← hu2]; unfold tk; simp; omega)) rfl
  · refine p_tswI ⟨by omega, by omega⟩ 4 132 dX5_countsOf_66 (by omega) (by decide) rfl (by decide) ?_
    refine p_iload2 dX5_countsOf_132 ?_
    refine p_iconst dX5_countsOf_133 ?_
    refine p_iand dX5_countsOf_134 ?_
    refine p_if_eq (bAnd_in _ _) 145 dX5_countsOf_135 (by decide) (fun c135 => ?_) (fun c135 => ?_)
    · refine p_iload6 dX5_countsOf_145 ?_
      exact p_iret rfl dX5_countsOf_147 (congrArg (fun z => some (vi z)) (by rw [c66, ← hu2]; unfold tk dgk; simp only [hw]; first | (rw [if_pos c135]; simp; done) | (rw [if_neg c135]; simp; done))) rfl
    · refine p_iload6 dX5_countsOf_138 ?_
      refine p_iconst dX5_countsOf_140 ?_
      refine p_iadd dX5_countsOf_141 ?_
      refine p_goto 147 dX5_countsOf_142 (by decide) ?_
      exact p_iret rfl dX5_countsOf_147 (congrArg (fun z => some (vi z)) (by rw [c66, ← hu2]; unfold tk dgk; simp only [hw]; first | (rw [if_pos c135]; simp; done) | (rw [if_neg c135]; simp; done))) rfl
  · refine p_tswO ⟨by omega, by omega⟩ 148 dX5_countsOf_66 (by omega) (by decide) ?_
    refine p_iload4 dX5_countsOf_148 ?_
    exact p_iret rfl dX5_countsOf_150 (congrArg (fun z => some (vi z)) (by rw [← hu2]; unfold tk; simp only [show ¬ r (17 + 3 * p) = 1 by omega, show ¬ r (17 + 3 * p) = 2 by omega, show ¬ r (17 + 3 * p) = 3 by omega, show ¬ r (17 + 3 * p) = 4 by omega, show ¬ r (17 + 3 * p) = 5 by omega, if_false])) rfl
set_option maxRecDepth 100000 in
set_option maxHeartbeats 4000000 in
theorem t_countsOf25 {G : GX} {S : St} {r : Row} {b : Int} (hI : IR b r) {p g : Int} (h0 : 0 ≤ p) (h8 : p < 8) (hg : 0 ≤ g ∧ g ≤ 7) (hb : b ≤ 1000000) {u : Int} (hu : 0 ≤ u ∧ u ≤ 6) (hu2 : u = un g (r 3)) : Rn G mX5_countsOf 25 [some (rf G 31), some (vi p), some (vi g), none, none, none, none] [vi u] (mk G (va_up S 9 r)) (some (vi (tk (r (17 + 3 * p)) g (un g (r 3)) (r 2)))) (mk G (va_up S 9 r)) := by
  refine p_istore3 rfl (Nat.le_of_ble_eq_true rfl) dX5_countsOf_25 ?_
  refine p_iconst dX5_countsOf_26 ?_
  refine p_iload3 dX5_countsOf_27 ?_
  refine p_iadd dX5_countsOf_28 ?_
  refine p_istore4 rfl (Nat.le_of_ble_eq_true rfl) dX5_countsOf_29 ?_
  refine p_iload2 dX5_countsOf_31 ?_
  refine p_iconst dX5_countsOf_32 ?_
  refine p_iand dX5_countsOf_33 ?_
  refine p_if_eq (bAnd_in _ _) 44 dX5_countsOf_34 (by decide) (fun c34 => ?_) (fun c34 => ?_)
  · refine p_iload4 dX5_countsOf_44 ?_
    refine p_istore5 rfl (Nat.le_of_ble_eq_true rfl) dX5_countsOf_46 ?_
    refine p_iload3 dX5_countsOf_48 ?_
    refine p_if_ne ⟨by omega, by omega⟩ 56 dX5_countsOf_49 (by decide) (fun c49 => ?_) (fun c49 => ?_)
    · refine p_iload4 dX5_countsOf_56 ?_
      refine p_istore6 rfl (Nat.le_of_ble_eq_true rfl) dX5_countsOf_58 ?_
      exact t_countsOf hI h0 h8 hg hb hu hu2 (by unfold stk; first | (rw [if_pos (by omega)]; omega) | (rw [if_neg (by omega)])) (by first | (rw [if_pos (by omega)]; done) | (rw [if_neg (by omega)]; done))
    · refine p_iconst dX5_countsOf_52 ?_
      refine p_goto 58 dX5_countsOf_53 (by decide) ?_
      refine p_istore6 rfl (Nat.le_of_ble_eq_true rfl) dX5_countsOf_58 ?_
      exact t_countsOf hI h0 h8 hg hb hu hu2 (by unfold stk; first | (rw [if_pos (by omega)]; omega) | (rw [if_neg (by omega)])) (by first | (rw [if_pos (by omega)]; done) | (rw [if_neg (by omega)]; done))
  · refine p_iload4 dX5_countsOf_37 ?_
    refine p_iconst dX5_countsOf_39 ?_
    refine p_iadd dX5_countsOf_40 ?_
    refine p_goto 46 dX5_countsOf_41 (by decide) ?_
    refine p_istore5 rfl (Nat.le_of_ble_eq_true rfl) dX5_countsOf_46 ?_
    refine p_iload3 dX5_countsOf_48 ?_
    refine p_if_ne ⟨by omega, by omega⟩ 56 dX5_countsOf_49 (by decide) (fun c49 => ?_) (fun c49 => ?_)
    · refine p_iload4 dX5_countsOf_56 ?_
      refine p_istore6 rfl (Nat.le_of_ble_eq_true rfl) dX5_countsOf_58 ?_
      exact t_countsOf hI h0 h8 hg hb hu hu2 (by unfold stk; first | (rw [if_pos (by omega)]; omega) | (rw [if_neg (by omega)])) (by first | (rw [if_pos (by omega)]; done) | (rw [if_neg (by omega)]; done))
    · refine p_iconst dX5_countsOf_52 ?_
      refine p_goto 58 dX5_countsOf_53 (by decide) ?_
      refine p_istore6 rfl (Nat.le_of_ble_eq_true rfl) dX5_countsOf_58 ?_
      exact t_countsOf hI h0 h8 hg hb hu hu2 (by unfold stk; first | (rw [if_pos (by omega)]; omega) | (rw [if_neg (by omega)])) (by first | (rw [if_pos (by omega)]; done) | (rw [if_neg (by omega)]; done))
set_option maxRecDepth 100000 in
set_option maxHeartbeats 4000000 in
theorem c_X5_countsOf {G : GX} {S : St} {r : Row} {b : Int} (hI : IR b r) {p g : Int} (h0 : 0 ≤ p) (h8 : p < 8) (hg : 0 ≤ g ∧ g ≤ 7) (hb : b ≤ 1000000) : Ev G mX5_countsOf [rf G 31, vi p, vi g] (mk G (va_up S 9 r)) (some (vi (tk (r (17 + 3 * p)) g (un g (r 3)) (r 2)))) (mk G ((va_up S 9 r))) := by
  have i0 := hI.1; have i1 := hI.2.1; have i2 := hI.2.2.1; have i3 := hI.2.2.2.1; have i4 := hI.2.2.2.2.1
  have hu := un_le g (r 3)
  refine Ev.enter (by decide +kernel) (Nat.le_of_ble_eq_true rfl) (L := [some (rf G 31), some (vi p), some (vi g), none, none, none, none]) rfl ?_
  refine p_oload0 dX5_countsOf_0 ?_
  refine p_get fl_RX5_7 gm_s dX5_countsOf_1 ?_
  refine p_iconst dX5_countsOf_4 ?_
  refine p_iald alq_s (by omega) (by omega) dX5_countsOf_5 ?_
  refine p_iconst dX5_countsOf_6 ?_
  refine p_icmp_ne ⟨by omega, by omega⟩ ⟨by omega, by omega⟩ 14 dX5_countsOf_7 (by decide) (fun c7 => ?_) (fun c7 => ?_)
  · refine p_iload2 dX5_countsOf_14 ?_
    refine p_oload0 dX5_countsOf_15 ?_
    refine p_get fl_RX5_7 gm_s dX5_countsOf_16 ?_
    refine p_iconst dX5_countsOf_19 ?_
    refine p_iald alq_s (by omega) (by omega) dX5_countsOf_20 ?_
    refine p_ixor dX5_countsOf_21 ?_
    refine p_cS1r (M2 := mX5_ones) ms_RX5_90 mc_X5_ones ⟨Nat.le_of_ble_eq_true rfl, Nat.le_of_ble_eq_true rfl⟩ (Nat.le_of_ble_eq_true rfl) dX5_countsOf_22 (c_X5_ones (bXor_le hg (by omega)).1 (by have := (bXor_le hg (by omega : 0 ≤ r 3 ∧ r 3 ≤ 7)).2; omega)) ?_
    exact t_countsOf25 hI h0 h8 hg hb (by first | omega | (rw [show pcn (bXor g (r 3)) = un g (r 3) by unfold un; rw [if_neg (by omega)]]; exact hu)) (by unfold un; first | (rw [if_pos (by omega)]; done) | (rw [if_neg (by omega)]; done))
  · refine p_iconst dX5_countsOf_10 ?_
    refine p_goto 25 dX5_countsOf_11 (by decide) ?_
    exact t_countsOf25 hI h0 h8 hg hb (by first | omega | (rw [show pcn (bXor g (r 3)) = un g (r 3) by unfold un; rw [if_neg (by omega)]]; exact hu)) (by unfold un; first | (rw [if_pos (by omega)]; done) | (rw [if_neg (by omega)]; done))
