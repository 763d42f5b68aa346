def lof (f : Int → Row) : Nat → Int → Row → Row
  | 0, _, a => a
  | n + 1, g, _ => lof f n (g + 1) (f g)
theorem tri_1 (x y v k : Int) : (tri (x, y) v k).1 = x ∨ (tri (x, y) v k).1 = v := by unfold tri; split; right; rfl; left; rfl
theorem tri_2 (x y v k : Int) : (tri (x, y) v k).2 = y ∨ (tri (x, y) v k).2 = k := by unfold tri; split; right; rfl; left; rfl
theorem c_begins0 {G : GX} {S : St} {r : Row} {k : Int} : Ev G mX5_begins [rf G 31, vi k] (mk G (va_up S 9 r)) none (mk G (va_up (va_up (va_up S 12 (S 12)) 14 (m2 (S 14) (-1) k)) 9 r)) := by
  have h := c_X5_begins (G := G) (S := S) (t := S 14) (r := r) (k := k)
  rw [vup_same S 14] at h
  rw [vup_same S 12]
  exact h
theorem c_quiet2 {G : GX} {S : St} {a M r : Row} {b k : Int} (hI : IR b r) (hb : b ≤ 900000) (hk : 0 ≤ k ∧ k ≤ 1000) : Ev G mX5_quietIn [rf G 31, vi k] (mk G (va_up (va_up (va_up S 12 a) 14 M) 9 r)) (some (vi (ft qt (k + 1).toNat 0 r).1)) (mk G (va_up (va_up (va_up S 12 r) 14 M) 9 r)) := by
  have h := c_X5_quietIn (G := G) (S := va_up (va_up S 12 a) 14 M) hI hb hk
  rw [vup_swap (va_up S 12 a) (by decide : (14 : Nat) ≠ 12) M r, vup_up S 12 a r] at h
  exact h
theorem c_first2 {G : GX} {S : St} {a M r : Row} {b w v k : Int} (hI : IR b r) (hb : b ≤ 900000) (hw : 0 ≤ w ∧ w < 41) (hr : ∀ b r, IR b r → inR (r w)) (hv : inR v) (hk : 0 ≤ k ∧ k ≤ 1000) : Ev G mX5_firstAs [rf G 31, vi w, vi v, vi k] (mk G (va_up (va_up (va_up S 12 a) 14 M) 9 r)) (some (vi (ft (at_ w v) (k + 1).toNat 0 r).1)) (mk G (va_up (va_up (va_up S 12 r) 14 M) 9 r)) := by
  have h := c_X5_firstAs (G := G) (S := va_up (va_up S 12 a) 14 M) hI hb hw hr hv hk
  rw [vup_swap (va_up S 12 a) (by decide : (14 : Nat) ≠ 12) M r, vup_up S 12 a r] at h
  exact h
theorem c_first1 {G : GX} {S : St} {a r : Row} {b w v k : Int} (hI : IR b r) (hb : b ≤ 900000) (hw : 0 ≤ w ∧ w < 41) (hr : ∀ b r, IR b r → inR (r w)) (hv : inR v) (hk : 0 ≤ k ∧ k ≤ 1000) : Ev G mX5_firstAs [rf G 31, vi w, vi v, vi k] (mk G (va_up (va_up S 12 a) 9 r)) (some (vi (ft (at_ w v) (k + 1).toNat 0 r).1)) (mk G (va_up (va_up S 12 r) 9 r)) := by
  have h := c_X5_firstAs (G := G) (S := va_up S 12 a) hI hb hw hr hv hk
  rw [vup_up S 12 a r] at h
  exact h
theorem c_behind1 {G : GX} {S : St} {a r : Row} {b w k : Int} (hI : IR b r) (hb : b ≤ 900000) (hw : 0 ≤ w ∧ w < 41) (hk : 0 ≤ k ∧ k ≤ 1000) : Ev G mX5_behind [rf G 31, vi w, vi k] (mk G (va_up (va_up S 12 a) 9 r)) (some (vi (minsR k.toNat r w))) (mk G (va_up (va_up S 12 r) 9 r)) := by
  have h := c_X5_behind (G := G) (S := va_up S 12 a) hI hb hw hk
  rw [vup_up S 12 a r] at h
  exact h
theorem c_lays2 {G : GX} {S : St} {a M r : Row} : Ev G mX5_laysAside [rf G 31] (mk G (va_up (va_up (va_up S 12 a) 14 M) 9 r)) none (mk G (va_up (va_up (va_up S 12 r) 14 M) 9 r)) := by
  have h := c_X5_laysAside (G := G) (S := va_up (va_up S 12 a) 14 M) (r := r)
  rw [vup_swap (va_up S 12 a) (by decide : (14 : Nat) ≠ 12) M r, vup_up S 12 a r] at h
  exact h
theorem c_takes2 {G : GX} {S : St} {a M r : Row} {v : Int} : Ev G mX5_takesBack [rf G 31, vi v] (mk G (va_up (va_up (va_up S 12 a) 14 M) 9 r)) (some (vi v)) (mk G (va_up (va_up (va_up S 12 a) 14 M) 9 a)) := by
  have h := c_X5_takesBack (G := G) (S := va_up S 14 M) (a := a) (r := r) (v := v)
  rw [vup_swap S (by decide : (14 : Nat) ≠ 12) M a] at h
  exact h
theorem c_best2 {G : GX} {S : St} {a t r : Row} {x y : Int} (hx : -1 ≤ x ∧ x ≤ 1000) : Ev G mX5_bestOrNone [rf G 31] (mk G (va_up (va_up (va_up S 12 a) 14 (m2 t x y)) 9 r)) (some (vi (nn x))) (mk G (va_up (va_up (va_up (va_up S 12 a) 14 (m2 t x y)) 13 (tl (S 13) (nn x))) 9 r)) := c_X5_bestOrNone (S := va_up S 12 a) hx
theorem uz_4 (r : Row) {a c : Int} (h : a ≠ c) (x y z w : Int) : uz (uz (uz (uz r a x) c y) a z) c w = uz (uz r a z) c w := by
  rw [uz_swap (uz r a x) (Ne.symm h) y z, uz_uz, uz_uz]
set_option maxRecDepth 100000 in
set_option maxHeartbeats 4000000 in
theorem l_X5_guise {G : GX} {S : St} {r : Row} {b : Int} (hI : IR b r) (hb : b ≤ 99999) {t : Row} {m : Int} (hm : 0 ≤ m ∧ m < r 1) : ∀ (n : Nat) (g : Int) (x : Int) (y : Int) (a : Row) (q : Row), (∀ z, uz q (5 + 2 * m) z = uz r (5 + 2 * m) z) → -1 ≤ x ∧ x ≤ 7 → 0 ≤ y ∧ y ≤ 101 → 0 ≤ g → g ≤ 8 → 8 - g < (n : Int) → Rn G mX5_guise 30 [some (rf G 31), some (vi m), some (vi (r (5 + 2 * m))), some (vi g)] [] (mk G (va_up (va_up (va_up S 12 a) 14 (m2 t x y)) 9 q)) (some (vi (nn (bst (fun g => g) (fun g => (ft qt 101 0 (uz r (5 + 2 * m) g)).1) (8 - g).toNat g (x, y)).1))) (mk G (va_up (va_up (va_up (va_up S 12 (lof (fun g => uz r (5 + 2 * m) g) (8 - g).toNat g a)) 14 (m2 t (bst (fun g => g) (fun g => (ft qt 101 0 (uz r (5 + 2 * m) g)).1) (8 - g).toNat g (x, y)).1 (bst (fun g => g) (fun g => (ft qt 101 0 (uz r (5 + 2 * m) g)).1) (8 - g).toNat g (x, y)).2)) 13 (tl (S 13) (nn (bst (fun g => g) (fun g => (ft qt 101 0 (uz r (5 + 2 * m) g)).1) (8 - g).toNat g (x, y)).1))) 9 r)) := by
  intro n
  induction n with
  | zero =>
    intro g x y a q hq hx hy h0 h1 h2
    exfalso
    omega
  | succ n ih =>
    intro g x y a q hq hx hy h0 h1 h2
    have i0 := hI.1; have i1 := hI.2.1; have i2 := hI.2.2.1; have i3 := hI.2.2.2.1; have i4 := hI.2.2.2.2.1
    push_cast at h2
    refine p_iload3 dX5_guise_30 ?_
    refine p_bipush (by decide) (by decide) dX5_guise_31 ?_
    refine p_icmp_ge ⟨by omega, by omega⟩ ⟨by omega, by omega⟩ 64 dX5_guise_33 (by decide) (fun c33 => ?_) (fun c33 => ?_)
    · rw [show (8 - g).toNat = 0 by omega, bst, lof]
      refine p_oload0 dX5_guise_64 ?_
      refine p_get fl_RX5_7 gm_s dX5_guise_65 ?_
      refine p_iload1 dX5_guise_68 ?_
      refine p_iconst dX5_guise_69 ?_
      refine p_cS2r (M2 := mX5_placeOf) ms_RX5_50 mc_X5_placeOf ⟨Nat.le_of_ble_eq_true rfl, Nat.le_of_ble_eq_true rfl⟩ (Nat.le_of_ble_eq_true rfl) dX5_guise_70 (c_X5_placeOf0) ?_
      refine p_iload2 dX5_guise_73 ?_
      refine p_iast alq_s (by omega) (by omega) asq_s dX5_guise_74 ?_
      rw [hq, uz_same]
      refine p_oload0 dX5_guise_75 ?_
      refine p_cV0r (M2 := mX5_bestOrNone) ml_RX5_184 mc_X5_bestOrNone ⟨Nat.le_of_ble_eq_true rfl, Nat.le_of_ble_eq_true rfl⟩ (isO_m _ _) (Nat.le_of_ble_eq_true rfl) dX5_guise_76 (c_best2 (by omega)) ?_
      exact p_iret rfl dX5_guise_79 rfl rfl
    · rw [show (8 - g).toNat = (8 - (g + 1)).toNat + 1 by omega, bst, lof]
      have hT : IR b (uz r (5 + 2 * m) g) := hI.guise (by omega) (by omega)
      have hf := ft_le (P := qt) 101 0 (uz r (5 + 2 * m) g)
      have te1 := tri_1 x y g ((ft qt 101 0 (uz r (5 + 2 * m) g)).1); have te2 := tri_2 x y g ((ft qt 101 0 (uz r (5 + 2 * m) g)).1)
      refine p_oload0 dX5_guise_36 ?_
      refine p_get fl_RX5_7 gm_s dX5_guise_37 ?_
      refine p_iload1 dX5_guise_40 ?_
      refine p_iconst dX5_guise_41 ?_
      refine p_cS2r (M2 := mX5_placeOf) ms_RX5_50 mc_X5_placeOf ⟨Nat.le_of_ble_eq_true rfl, Nat.le_of_ble_eq_true rfl⟩ (Nat.le_of_ble_eq_true rfl) dX5_guise_42 (c_X5_placeOf0) ?_
      refine p_iload3 dX5_guise_45 ?_
      refine p_iast alq_s (by omega) (by omega) asq_s dX5_guise_46 ?_
      rw [hq g]
      refine p_oload0 dX5_guise_47 ?_
      refine p_iload3 dX5_guise_48 ?_
      refine p_oload0 dX5_guise_49 ?_
      refine p_bipush (by decide) (by decide) dX5_guise_50 ?_
      refine p_cV1r (M2 := mX5_quietIn) ml_RX5_167 mc_X5_quietIn ⟨Nat.le_of_ble_eq_true rfl, Nat.le_of_ble_eq_true rfl⟩ (isO_m _ _) (Nat.le_of_ble_eq_true rfl) dX5_guise_52 (c_quiet2 hT (by omega) (by omega)) ?_
      rw [show ((100 : Int) + 1).toNat = 101 from rfl]
      refine p_cV2v (M2 := mX5_tries) ml_RX5_180 mc_X5_tries ⟨Nat.le_of_ble_eq_true rfl, Nat.le_of_ble_eq_true rfl⟩ (isO_m _ _) (Nat.le_of_ble_eq_true rfl) dX5_guise_55 (c_X5_tries (S := va_up S 12 _) ⟨by omega, by omega⟩ ⟨by omega, by omega⟩) ?_
      refine p_iinc3 rfl (Nat.le_of_ble_eq_true rfl) dX5_guise_58 ?_
      refine p_goto 30 dX5_guise_61 (by decide) ?_
      exact ih (g + 1) _ _ _ _ (fun z => by rw [uz_uz]) (by omega) (by omega) (by omega) (by omega) (by omega)
set_option maxRecDepth 100000 in
set_option maxHeartbeats 4000000 in
theorem c_X5_guise {G : GX} {S : St} {r : Row} {b : Int} (hI : IR b r) (hb : b ≤ 99999) {m : Int} (h_m : inR m) : Ev G mX5_guise [rf G 31, vi m] (mk G (va_up S 9 r)) (some (vi (v_guise r m))) (mk G (va_up (va_up (va_up (va_up S 12 (if 0 ≤ m ∧ m < r 1 then (lof (fun g => uz r (5 + 2 * m) g) 8 0 (S 12)) else S 12)) 14 (if 0 ≤ m ∧ m < r 1 then (m2 (S 14) (bst (fun g => g) (fun g => (ft qt 101 0 (uz r (5 + 2 * m) g)).1) 8 0 (-1, 101)).1 (bst (fun g => g) (fun g => (ft qt 101 0 (uz r (5 + 2 * m) g)).1) 8 0 (-1, 101)).2) else S 14)) 13 (tl (S 13) (v_guise r m))) 9 r)) := by
  have i0 := hI.1; have i1 := hI.2.1; have i2 := hI.2.2.1; have i3 := hI.2.2.2.1; have i4 := hI.2.2.2.2.1
  obtain ⟨m1, m2⟩ := h_m
  refine Ev.enter (by decide +kernel) (Nat.le_of_ble_eq_true rfl) (L := [some (rf G 31), some (vi m), none, none]) rfl ?_
  refine p_oload0 dX5_guise_0 ?_
  refine p_iload1 dX5_guise_1 ?_
  refine p_cV1r (M2 := mX5_isMan) ml_RX5_69 mc_X5_isMan ⟨Nat.le_of_ble_eq_true rfl, Nat.le_of_ble_eq_true rfl⟩ (isO_m _ _) (Nat.le_of_ble_eq_true rfl) dX5_guise_2 (c_X5_isMan hI ⟨by omega, by omega⟩) ?_
  refine p_bif_ne 15 dX5_guise_5 (by decide) (fun c5 => ?_) (fun c5 => ?_)
  · refine p_oload0 dX5_guise_15 ?_
    refine p_iload1 dX5_guise_16 ?_
    refine p_iconst dX5_guise_17 ?_
    refine p_cV2r (M2 := mX5_his) ml_RX5_72 mc_X5_his ⟨Nat.le_of_ble_eq_true rfl, Nat.le_of_ble_eq_true rfl⟩ (isO_m _ _) (Nat.le_of_ble_eq_true rfl) dX5_guise_18 (c_X5_his0 hI (by omega) (by omega)) ?_
    refine p_istore2 rfl (Nat.le_of_ble_eq_true rfl) dX5_guise_21 ?_
    refine p_oload0 dX5_guise_22 ?_
    refine p_bipush (by decide) (by decide) dX5_guise_23 ?_
    refine p_cV1v (M2 := mX5_begins) ml_RX5_177 mc_X5_begins ⟨Nat.le_of_ble_eq_true rfl, Nat.le_of_ble_eq_true rfl⟩ (isO_m _ _) (Nat.le_of_ble_eq_true rfl) dX5_guise_25 (c_begins0) ?_
    refine p_iconst dX5_guise_28 ?_
    refine p_istore3 rfl (Nat.le_of_ble_eq_true rfl) dX5_guise_29 ?_
    have h := l_X5_guise (G := G) (S := S) hI hb (t := S 14) (m := m) (by omega) 9 0 (-1) 101 (S 12) r (fun z => rfl) (by omega) (by omega) (by omega) (by omega) (by omega)
    rw [Int.sub_zero] at h
    rw [if_pos (by omega), if_pos (by omega), show v_guise r m = nn (bst (fun g => g) (fun g => (ft qt 101 0 (uz r (5 + 2 * m) g)).1) 8 0 (-1, 101)).1 from by unfold v_guise s_guise; rw [if_pos (by omega)]]
    exact h
  · refine p_oload0 dX5_guise_8 ?_
    refine p_ldc wc_RX5_41 dX5_guise_9 ?_
    refine p_cV1r (M2 := mX5_finds) ml_RX5_61 mc_X5_finds ⟨Nat.le_of_ble_eq_true rfl, Nat.le_of_ble_eq_true rfl⟩ (isO_m _ _) (Nat.le_of_ble_eq_true rfl) dX5_guise_11 (c_X5_finds (by omega)) ?_
    (rw [if_neg (by omega), if_neg (by omega), vup_same S 12, vup_same S 14]; exact m_f (by unfold v_guise; rw [if_neg (by omega)]) rfl rfl dX5_guise_14)
set_option maxRecDepth 100000 in
set_option maxHeartbeats 4000000 in
theorem l_X5_kind {G : GX} {S : St} {r : Row} {b : Int} (hI : IR b r) (hb : b ≤ 99999) {t : Row} {p : Int} (hm : 0 ≤ p ∧ p < r 0) : ∀ (n : Nat) (g : Int) (x : Int) (y : Int) (a : Row) (q : Row), (∀ z, uz q (17 + 3 * p) z = uz r (17 + 3 * p) z) → -1 ≤ x ∧ x ≤ 5 → 0 ≤ y ∧ y ≤ 101 → 0 ≤ g → g ≤ 6 → 6 - g < (n : Int) → Rn G mX5_kind 30 [some (rf G 31), some (vi p), some (vi (r (17 + 3 * p))), some (vi g)] [] (mk G (va_up (va_up (va_up S 12 a) 14 (m2 t x y)) 9 q)) (some (vi (nn (bst (fun g => g) (fun g => (ft (at_ (18 + 3 * p) 0) 101 0 (uz r (17 + 3 * p) g)).1) (6 - g).toNat g (x, y)).1))) (mk G (va_up (va_up (va_up (va_up S 12 (lof (fun g => uz r (17 + 3 * p) g) (6 - g).toNat g a)) 14 (m2 t (bst (fun g => g) (fun g => (ft (at_ (18 + 3 * p) 0) 101 0 (uz r (17 + 3 * p) g)).1) (6 - g).toNat g (x, y)).1 (bst (fun g => g) (fun g => (ft (at_ (18 + 3 * p) 0) 101 0 (uz r (17 + 3 * p) g)).1) (6 - g).toNat g (x, y)).2)) 13 (tl (S 13) (nn (bst (fun g => g) (fun g => (ft (at_ (18 + 3 * p) 0) 101 0 (uz r (17 + 3 * p) g)).1) (6 - g).toNat g (x, y)).1))) 9 r)) := by
  intro n
  induction n with
  | zero =>
    intro g x y a q hq hx hy h0 h1 h2
    exfalso
    omega
  | succ n ih =>
    intro g x y a q hq hx hy h0 h1 h2
    have i0 := hI.1; have i1 := hI.2.1; have i2 := hI.2.2.1; have i3 := hI.2.2.2.1; have i4 := hI.2.2.2.2.1
    push_cast at h2
    refine p_iload3 dX5_kind_30 ?_
    refine p_iconst dX5_kind_31 ?_
    refine p_icmp_gt ⟨by omega, by omega⟩ ⟨by omega, by omega⟩ 69 dX5_kind_32 (by decide) (fun c32 => ?_) (fun c32 => ?_)
    · rw [show (6 - g).toNat = 0 by omega, bst, lof]
      refine p_oload0 dX5_kind_69 ?_
      refine p_get fl_RX5_7 gm_s dX5_kind_70 ?_
      refine p_iload1 dX5_kind_73 ?_
      refine p_iconst dX5_kind_74 ?_
      refine p_cS2r (M2 := mX5_spotOf) ms_RX5_54 mc_X5_spotOf ⟨Nat.le_of_ble_eq_true rfl, Nat.le_of_ble_eq_true rfl⟩ (Nat.le_of_ble_eq_true rfl) dX5_kind_75 (c_X5_spotOf0) ?_
      refine p_iload2 dX5_kind_78 ?_
      refine p_iast alq_s (by omega) (by omega) asq_s dX5_kind_79 ?_
      rw [hq, uz_same]
      refine p_oload0 dX5_kind_80 ?_
      refine p_cV0r (M2 := mX5_bestOrNone) ml_RX5_184 mc_X5_bestOrNone ⟨Nat.le_of_ble_eq_true rfl, Nat.le_of_ble_eq_true rfl⟩ (isO_m _ _) (Nat.le_of_ble_eq_true rfl) dX5_kind_81 (c_best2 (by omega)) ?_
      exact p_iret rfl dX5_kind_84 rfl rfl
    · rw [show (6 - g).toNat = (6 - (g + 1)).toNat + 1 by omega, bst, lof]
      have hT : IR b (uz r (17 + 3 * p) g) := hI.kind (by omega) (by omega)
      have hf := ft_le (P := at_ (18 + 3 * p) 0) 101 0 (uz r (17 + 3 * p) g)
      have te1 := tri_1 x y g ((ft (at_ (18 + 3 * p) 0) 101 0 (uz r (17 + 3 * p) g)).1); have te2 := tri_2 x y g ((ft (at_ (18 + 3 * p) 0) 101 0 (uz r (17 + 3 * p) g)).1)
      refine p_oload0 dX5_kind_35 ?_
      refine p_get fl_RX5_7 gm_s dX5_kind_36 ?_
      refine p_iload1 dX5_kind_39 ?_
      refine p_iconst dX5_kind_40 ?_
      refine p_cS2r (M2 := mX5_spotOf) ms_RX5_54 mc_X5_spotOf ⟨Nat.le_of_ble_eq_true rfl, Nat.le_of_ble_eq_true rfl⟩ (Nat.le_of_ble_eq_true rfl) dX5_kind_41 (c_X5_spotOf0) ?_
      refine p_iload3 dX5_kind_44 ?_
      refine p_iast alq_s (by omega) (by omega) asq_s dX5_kind_45 ?_
      rw [hq g]
      refine p_oload0 dX5_kind_46 ?_
      refine p_iload3 dX5_kind_47 ?_
      refine p_oload0 dX5_kind_48 ?_
      refine p_iload1 dX5_kind_49 ?_
      refine p_iconst dX5_kind_50 ?_
      refine p_cS2r (M2 := mX5_spotOf) ms_RX5_54 mc_X5_spotOf ⟨Nat.le_of_ble_eq_true rfl, Nat.le_of_ble_eq_true rfl⟩ (Nat.le_of_ble_eq_true rfl) dX5_kind_51 (c_X5_spotOf1) ?_
      refine p_iconst dX5_kind_54 ?_
      refine p_bipush (by decide) (by decide) dX5_kind_55 ?_
      refine p_cV3r (M2 := mX5_firstAs) ml_RX5_160 mc_X5_firstAs ⟨Nat.le_of_ble_eq_true rfl, Nat.le_of_ble_eq_true rfl⟩ (isO_m _ _) (Nat.le_of_ble_eq_true rfl) dX5_kind_57 (c_first2 hT (by omega) (by omega) (fun b r h => by have := h.2.2.2.2.2.2 p (by omega) (by omega); exact ⟨by omega, by omega⟩) ⟨by omega, by omega⟩ (by omega)) ?_
      rw [show ((100 : Int) + 1).toNat = 101 from rfl]
      refine p_cV2v (M2 := mX5_tries) ml_RX5_180 mc_X5_tries ⟨Nat.le_of_ble_eq_true rfl, Nat.le_of_ble_eq_true rfl⟩ (isO_m _ _) (Nat.le_of_ble_eq_true rfl) dX5_kind_60 (c_X5_tries (S := va_up S 12 _) ⟨by omega, by omega⟩ ⟨by omega, by omega⟩) ?_
      refine p_iinc3 rfl (Nat.le_of_ble_eq_true rfl) dX5_kind_63 ?_
      refine p_goto 30 dX5_kind_66 (by decide) ?_
      exact ih (g + 1) _ _ _ _ (fun z => by rw [uz_uz]) (by omega) (by omega) (by omega) (by omega) (by omega)
set_option maxRecDepth 100000 in
set_option maxHeartbeats 4000000 in
theorem c_X5_kind {G : GX} {S : St} {r : Row} {b : Int} (hI : IR b r) (hb : b ≤ 99999) {p : Int} (h_p : inR p) : Ev G mX5_kind [rf G 31, vi p] (mk G (va_up S 9 r)) (some (vi (v_kind r p))) (mk G (va_up (va_up (va_up (va_up S 12 (if 0 ≤ p ∧ p < r 0 then (lof (fun g => uz r (17 + 3 * p) g) 6 0 (S 12)) else S 12)) 14 (if 0 ≤ p ∧ p < r 0 then (m2 (S 14) (bst (fun g => g) (fun g => (ft (at_ (18 + 3 * p) 0) 101 0 (uz r (17 + 3 * p) g)).1) 6 0 (-1, 101)).1 (bst (fun g => g) (fun g => (ft (at_ (18 + 3 * p) 0) 101 0 (uz r (17 + 3 * p) g)).1) 6 0 (-1, 101)).2) else S 14)) 13 (tl (S 13) (v_kind r p))) 9 r)) := by
  have i0 := hI.1; have i1 := hI.2.1; have i2 := hI.2.2.1; have i3 := hI.2.2.2.1; have i4 := hI.2.2.2.2.1
  obtain ⟨p1, p2⟩ := h_p
  refine Ev.enter (by decide +kernel) (Nat.le_of_ble_eq_true rfl) (L := [some (rf G 31), some (vi p), none, none]) rfl ?_
  refine p_oload0 dX5_kind_0 ?_
  refine p_iload1 dX5_kind_1 ?_
  refine p_cV1r (M2 := mX5_isSheep) ml_RX5_93 mc_X5_isSheep ⟨Nat.le_of_ble_eq_true rfl, Nat.le_of_ble_eq_true rfl⟩ (isO_m _ _) (Nat.le_of_ble_eq_true rfl) dX5_kind_2 (c_X5_isSheep hI ⟨by omega, by omega⟩) ?_
  refine p_bif_ne 15 dX5_kind_5 (by decide) (fun c5 => ?_) (fun c5 => ?_)
  · refine p_oload0 dX5_kind_15 ?_
    refine p_iload1 dX5_kind_16 ?_
    refine p_iconst dX5_kind_17 ?_
    refine p_cV2r (M2 := mX5_its) ml_RX5_87 mc_X5_its ⟨Nat.le_of_ble_eq_true rfl, Nat.le_of_ble_eq_true rfl⟩ (isO_m _ _) (Nat.le_of_ble_eq_true rfl) dX5_kind_18 (c_X5_its0 hI (by omega) (by omega)) ?_
    refine p_istore2 rfl (Nat.le_of_ble_eq_true rfl) dX5_kind_21 ?_
    refine p_oload0 dX5_kind_22 ?_
    refine p_bipush (by decide) (by decide) dX5_kind_23 ?_
    refine p_cV1v (M2 := mX5_begins) ml_RX5_177 mc_X5_begins ⟨Nat.le_of_ble_eq_true rfl, Nat.le_of_ble_eq_true rfl⟩ (isO_m _ _) (Nat.le_of_ble_eq_true rfl) dX5_kind_25 (c_begins0) ?_
    refine p_iconst dX5_kind_28 ?_
    refine p_istore3 rfl (Nat.le_of_ble_eq_true rfl) dX5_kind_29 ?_
    have h := l_X5_kind (G := G) (S := S) hI hb (t := S 14) (p := p) (by omega) 7 0 (-1) 101 (S 12) r (fun z => rfl) (by omega) (by omega) (by omega) (by omega) (by omega)
    rw [Int.sub_zero] at h
    rw [if_pos (by omega), if_pos (by omega), show v_kind r p = nn (bst (fun g => g) (fun g => (ft (at_ (18 + 3 * p) 0) 101 0 (uz r (17 + 3 * p) g)).1) 6 0 (-1, 101)).1 from by unfold v_kind s_kind; rw [if_pos (by omega)]]
    exact h
  · refine p_oload0 dX5_kind_8 ?_
    refine p_ldc wc_RX5_41 dX5_kind_9 ?_
    refine p_cV1r (M2 := mX5_finds) ml_RX5_61 mc_X5_finds ⟨Nat.le_of_ble_eq_true rfl, Nat.le_of_ble_eq_true rfl⟩ (isO_m _ _) (Nat.le_of_ble_eq_true rfl) dX5_kind_11 (c_X5_finds (by omega)) ?_
    (rw [if_neg (by omega), if_neg (by omega), vup_same S 12, vup_same S 14]; exact m_f (by unfold v_kind; rw [if_neg (by omega)]) rfl rfl dX5_kind_14)
set_option maxRecDepth 100000 in
set_option maxHeartbeats 4000000 in
theorem l_X5_guises {G : GX} {S : St} {r : Row} {b : Int} (hI : IR b r) (hb : b ≤ 99999) {t : Row} {m o : Int} (hm : 0 ≤ m ∧ m < r 1) (ho : 0 ≤ o ∧ o < r 1) (hmo : m ≠ o) : ∀ (n : Nat) (g : Int) (x : Int) (y : Int) (a : Row) (q : Row), (∀ z w, uz (uz q (5 + 2 * m) z) (5 + 2 * o) w = uz (uz r (5 + 2 * m) z) (5 + 2 * o) w) → -1 ≤ x ∧ x ≤ 63 → 0 ≤ y ∧ y ≤ 61 → 0 ≤ g → g ≤ 64 → 64 - g < (n : Int) → Rn G mX5_guises 52 [some (rf G 31), some (vi m), some (vi o), some (vi (r (5 + 2 * m))), some (vi (r (5 + 2 * o))), some (vi g)] [] (mk G (va_up (va_up (va_up S 12 a) 14 (m2 t x y)) 9 q)) (some (vi (nn (bst (fun g => g) (fun g => (ft qt 61 0 (gu2 r m o g)).1) (64 - g).toNat g (x, y)).1))) (mk G (va_up (va_up (va_up (va_up S 12 (lof (fun g => gu2 r m o g) (64 - g).toNat g a)) 14 (m2 t (bst (fun g => g) (fun g => (ft qt 61 0 (gu2 r m o g)).1) (64 - g).toNat g (x, y)).1 (bst (fun g => g) (fun g => (ft qt 61 0 (gu2 r m o g)).1) (64 - g).toNat g (x, y)).2)) 13 (tl (S 13) (nn (bst (fun g => g) (fun g => (ft qt 61 0 (gu2 r m o g)).1) (64 - g).toNat g (x, y)).1))) 9 r)) := by
  intro n
  induction n with
  | zero =>
    intro g x y a q hq hx hy h0 h1 h2
    exfalso
    omega
  | succ n ih =>
    intro g x y a q hq hx hy h0 h1 h2
    have i0 := hI.1; have i1 := hI.2.1; have i2 := hI.2.2.1; have i3 := hI.2.2.2.1; have i4 := hI.2.2.2.2.1
    push_cast at h2
    refine p_iload5 dX5_guises_52 ?_
    refine p_bipush (by decide) (by decide) dX5_guises_54 ?_
    refine p_icmp_ge ⟨by omega, by omega⟩ ⟨by omega, by omega⟩ 107 dX5_guises_56 (by decide) (fun c56 => ?_) (fun c56 => ?_)
    · rw [show (64 - g).toNat = 0 by omega, bst, lof]
      refine p_oload0 dX5_guises_107 ?_
      refine p_get fl_RX5_7 gm_s dX5_guises_108 ?_
      refine p_iload1 dX5_guises_111 ?_
      refine p_iconst dX5_guises_112 ?_
      refine p_cS2r (M2 := mX5_placeOf) ms_RX5_50 mc_X5_placeOf ⟨Nat.le_of_ble_eq_true rfl, Nat.le_of_ble_eq_true rfl⟩ (Nat.le_of_ble_eq_true rfl) dX5_guises_113 (c_X5_placeOf0) ?_
      refine p_iload3 dX5_guises_116 ?_
      refine p_iast alq_s (by omega) (by omega) asq_s dX5_guises_117 ?_
      refine p_oload0 dX5_guises_118 ?_
      refine p_get fl_RX5_7 gm_s dX5_guises_119 ?_
      refine p_iload2 dX5_guises_122 ?_
      refine p_iconst dX5_guises_123 ?_
      refine p_cS2r (M2 := mX5_placeOf) ms_RX5_50 mc_X5_placeOf ⟨Nat.le_of_ble_eq_true rfl, Nat.le_of_ble_eq_true rfl⟩ (Nat.le_of_ble_eq_true rfl) dX5_guises_124 (c_X5_placeOf0) ?_
      refine p_iload4 dX5_guises_127 ?_
      refine p_iast alq_s (by omega) (by omega) asq_s dX5_guises_129 ?_
      rw [hq, uz_same, uz_same]
      refine p_oload0 dX5_guises_130 ?_
      refine p_cV0r (M2 := mX5_bestOrNone) ml_RX5_184 mc_X5_bestOrNone ⟨Nat.le_of_ble_eq_true rfl, Nat.le_of_ble_eq_true rfl⟩ (isO_m _ _) (Nat.le_of_ble_eq_true rfl) dX5_guises_131 (c_best2 (by omega)) ?_
      exact p_iret rfl dX5_guises_134 rfl rfl
    · rw [show (64 - g).toNat = (64 - (g + 1)).toNat + 1 by omega, bst, lof]
      have hT : IR b (gu2 r m o g) := (hI.guise (by omega) (by omega)).guise (by omega) (by omega)
      have hf := ft_le (P := qt) 61 0 (gu2 r m o g)
      have te1 := tri_1 x y g ((ft qt 61 0 (gu2 r m o g)).1); have te2 := tri_2 x y g ((ft qt 61 0 (gu2 r m o g)).1)
      refine p_oload0 dX5_guises_59 ?_
      refine p_get fl_RX5_7 gm_s dX5_guises_60 ?_
      refine p_iload1 dX5_guises_63 ?_
      refine p_iconst dX5_guises_64 ?_
      refine p_cS2r (M2 := mX5_placeOf) ms_RX5_50 mc_X5_placeOf ⟨Nat.le_of_ble_eq_true rfl, Nat.le_of_ble_eq_true rfl⟩ (Nat.le_of_ble_eq_true rfl) dX5_guises_65 (c_X5_placeOf0) ?_
      refine p_iload5 dX5_guises_68 ?_
      refine p_bipush (by decide) (by decide) dX5_guises_70 ?_
      refine p_idiv ⟨by omega, by omega⟩ ⟨by omega, by omega⟩ (by omega) (by omega) dX5_guises_72 ?_
      refine p_iast alq_s (by omega) (by omega) asq_s dX5_guises_73 ?_
      refine p_oload0 dX5_guises_74 ?_
      refine p_get fl_RX5_7 gm_s dX5_guises_75 ?_
      refine p_iload2 dX5_guises_78 ?_
      refine p_iconst dX5_guises_79 ?_
      refine p_cS2r (M2 := mX5_placeOf) ms_RX5_50 mc_X5_placeOf ⟨Nat.le_of_ble_eq_true rfl, Nat.le_of_ble_eq_true rfl⟩ (Nat.le_of_ble_eq_true rfl) dX5_guises_80 (c_X5_placeOf0) ?_
      refine p_iload5 dX5_guises_83 ?_
      refine p_bipush (by decide) (by decide) dX5_guises_85 ?_
      refine p_irem ⟨by omega, by omega⟩ ⟨by omega, by omega⟩ (by omega) (by omega) dX5_guises_87 ?_
      refine p_iast alq_s (by omega) (by omega) asq_s dX5_guises_88 ?_
      rw [hq (g / 8) (g % 8), show uz (uz r (5 + 2 * m) (g / 8)) (5 + 2 * o) (g % 8) = gu2 r m o g from rfl]
      refine p_oload0 dX5_guises_89 ?_
      refine p_iload5 dX5_guises_90 ?_
      refine p_oload0 dX5_guises_92 ?_
      refine p_bipush (by decide) (by decide) dX5_guises_93 ?_
      refine p_cV1r (M2 := mX5_quietIn) ml_RX5_167 mc_X5_quietIn ⟨Nat.le_of_ble_eq_true rfl, Nat.le_of_ble_eq_true rfl⟩ (isO_m _ _) (Nat.le_of_ble_eq_true rfl) dX5_guises_95 (c_quiet2 hT (by omega) (by omega)) ?_
      rw [show ((60 : Int) + 1).toNat = 61 from rfl]
      refine p_cV2v (M2 := mX5_tries) ml_RX5_180 mc_X5_tries ⟨Nat.le_of_ble_eq_true rfl, Nat.le_of_ble_eq_true rfl⟩ (isO_m _ _) (Nat.le_of_ble_eq_true rfl) dX5_guises_98 (c_X5_tries (S := va_up S 12 _) ⟨by omega, by omega⟩ ⟨by omega, by omega⟩) ?_
      refine p_iinc5 rfl (Nat.le_of_ble_eq_true rfl) dX5_guises_101 ?_
      refine p_goto 52 dX5_guises_104 (by decide) ?_
      exact ih (g + 1) _ _ _ _ (fun z w => by unfold gu2; rw [uz_4 r (by omega)]) (by omega) (by omega) (by omega) (by omega) (by omega)
set_option maxRecDepth 100000 in
set_option maxHeartbeats 4000000 in
theorem c_X5_guises {G : GX} {S : St} {r : Row} {b : Int} (hI : IR b r) (hb : b ≤ 99999) {m : Int} (h_m : inR m) {o : Int} (h_o : inR o) : Ev G mX5_guises [rf G 31, vi m, vi o] (mk G (va_up S 9 r)) (some (vi (v_guises r m o))) (mk G (va_up (va_up (va_up (va_up S 12 (if (0 ≤ m ∧ m < r 1) ∧ (0 ≤ o ∧ o < r 1) ∧ m ≠ o then (lof (fun g => gu2 r m o g) 64 0 (S 12)) else S 12)) 14 (if (0 ≤ m ∧ m < r 1) ∧ (0 ≤ o ∧ o < r 1) ∧ m ≠ o then (m2 (S 14) (bst (fun g => g) (fun g => (ft qt 61 0 (gu2 r m o g)).1) 64 0 (-1, 61)).1 (bst (fun g => g) (fun g => (ft qt 61 0 (gu2 r m o g)).1) 64 0 (-1, 61)).2) else S 14)) 13 (tl (S 13) (v_guises r m o))) 9 r)) := by
  have i0 := hI.1; have i1 := hI.2.1; have i2 := hI.2.2.1; have i3 := hI.2.2.2.1; have i4 := hI.2.2.2.2.1
  obtain ⟨m1, m2⟩ := h_m
  obtain ⟨o1, o2⟩ := h_o
  refine Ev.enter (by decide +kernel) (Nat.le_of_ble_eq_true rfl) (L := [some (rf G 31), some (vi m), some (vi o), none, none, none]) rfl ?_
  refine p_oload0 dX5_guises_0 ?_
  refine p_iload1 dX5_guises_1 ?_
  refine p_cV1r (M2 := mX5_isMan) ml_RX5_69 mc_X5_isMan ⟨Nat.le_of_ble_eq_true rfl, Nat.le_of_ble_eq_true rfl⟩ (isO_m _ _) (Nat.le_of_ble_eq_true rfl) dX5_guises_2 (c_X5_isMan hI ⟨by omega, by omega⟩) ?_
  refine p_bif_eq 21 dX5_guises_5 (by decide) (fun c5 => ?_) (fun c5 => ?_)
  · refine p_oload0 dX5_guises_21 ?_
    refine p_ldc wc_RX5_41 dX5_guises_22 ?_
    refine p_cV1r (M2 := mX5_finds) ml_RX5_61 mc_X5_finds ⟨Nat.le_of_ble_eq_true rfl, Nat.le_of_ble_eq_true rfl⟩ (isO_m _ _) (Nat.le_of_ble_eq_true rfl) dX5_guises_24 (c_X5_finds (by omega)) ?_
    (rw [if_neg (by omega), if_neg (by omega), vup_same S 12, vup_same S 14]; exact m_f (by unfold v_guises; rw [if_neg (by omega)]) rfl rfl dX5_guises_27)
  · refine p_oload0 dX5_guises_8 ?_
    refine p_iload2 dX5_guises_9 ?_
    refine p_cV1r (M2 := mX5_isMan) ml_RX5_69 mc_X5_isMan ⟨Nat.le_of_ble_eq_true rfl, Nat.le_of_ble_eq_true rfl⟩ (isO_m _ _) (Nat.le_of_ble_eq_true rfl) dX5_guises_10 (c_X5_isMan hI ⟨by omega, by omega⟩) ?_
    refine p_bif_eq 21 dX5_guises_13 (by decide) (fun c13 => ?_) (fun c13 => ?_)
    · refine p_oload0 dX5_guises_21 ?_
      refine p_ldc wc_RX5_41 dX5_guises_22 ?_
      refine p_cV1r (M2 := mX5_finds) ml_RX5_61 mc_X5_finds ⟨Nat.le_of_ble_eq_true rfl, Nat.le_of_ble_eq_true rfl⟩ (isO_m _ _) (Nat.le_of_ble_eq_true rfl) dX5_guises_24 (c_X5_finds (by omega)) ?_
      (rw [if_neg (by omega), if_neg (by omega), vup_same S 12, vup_same S 14]; exact m_f (by unfold v_guises; rw [if_neg (by omega)]) rfl rfl dX5_guises_27)
    · refine p_iload1 dX5_guises_16 ?_
      refine p_iload2 dX5_guises_17 ?_
      refine p_icmp_ne ⟨by omega, by omega⟩ ⟨by omega, by omega⟩ 28 dX5_guises_18 (by decide) (fun c18 => ?_) (fun c18 => ?_)
      · refine p_oload0 dX5_guises_28 ?_
        refine p_iload1 dX5_guises_29 ?_
        refine p_iconst dX5_guises_30 ?_
        refine p_cV2r (M2 := mX5_his) ml_RX5_72 mc_X5_his ⟨Nat.le_of_ble_eq_true rfl, Nat.le_of_ble_eq_true rfl⟩ (isO_m _ _) (Nat.le_of_ble_eq_true rfl) dX5_guises_31 (c_X5_his0 hI (by omega) (by omega)) ?_
        refine p_istore3 rfl (Nat.le_of_ble_eq_true rfl) dX5_guises_34 ?_
        refine p_oload0 dX5_guises_35 ?_
        refine p_iload2 dX5_guises_36 ?_
        refine p_iconst dX5_guises_37 ?_
        refine p_cV2r (M2 := mX5_his) ml_RX5_72 mc_X5_his ⟨Nat.le_of_ble_eq_true rfl, Nat.le_of_ble_eq_true rfl⟩ (isO_m _ _) (Nat.le_of_ble_eq_true rfl) dX5_guises_38 (c_X5_his0 hI (by omega) (by omega)) ?_
        refine p_istore4 rfl (Nat.le_of_ble_eq_true rfl) dX5_guises_41 ?_
        refine p_oload0 dX5_guises_43 ?_
        refine p_bipush (by decide) (by decide) dX5_guises_44 ?_
        refine p_cV1v (M2 := mX5_begins) ml_RX5_177 mc_X5_begins ⟨Nat.le_of_ble_eq_true rfl, Nat.le_of_ble_eq_true rfl⟩ (isO_m _ _) (Nat.le_of_ble_eq_true rfl) dX5_guises_46 (c_begins0) ?_
        refine p_iconst dX5_guises_49 ?_
        refine p_istore5 rfl (Nat.le_of_ble_eq_true rfl) dX5_guises_50 ?_
        have h := l_X5_guises (G := G) (S := S) hI hb (t := S 14) (m := m) (o := o) (by omega) (by omega) (by omega) 65 0 (-1) 61 (S 12) r (fun z w => rfl) (by omega) (by omega) (by omega) (by omega) (by omega)
        rw [Int.sub_zero] at h
        rw [if_pos (by omega), if_pos (by omega), show v_guises r m o = nn (bst (fun g => g) (fun g => (ft qt 61 0 (gu2 r m o g)).1) 64 0 (-1, 61)).1 from by unfold v_guises s_guises; rw [if_pos (by omega)]]
        exact h
      · refine p_oload0 dX5_guises_21 ?_
        refine p_ldc wc_RX5_41 dX5_guises_22 ?_
        refine p_cV1r (M2 := mX5_finds) ml_RX5_61 mc_X5_finds ⟨Nat.le_of_ble_eq_true rfl, Nat.le_of_ble_eq_true rfl⟩ (isO_m _ _) (Nat.le_of_ble_eq_true rfl) dX5_guises_24 (c_X5_finds (by omega)) ?_
        (rw [if_neg (by omega), if_neg (by omega), vup_same S 12, vup_same S 14]; exact m_f (by unfold v_guises; rw [if_neg (by omega)]) rfl rfl dX5_guises_27)
set_option maxRecDepth 100000 in
set_option maxHeartbeats 4000000 in
theorem l_X5_begin {G : GX} {S : St} {r : Row} {b : Int} (hI : IR b r) (hb : b ≤ 99999) {t : Row} {k : Int} (hk : 1 ≤ k ∧ k ≤ 100) : ∀ (n : Nat) (g : Int) (x : Int) (y : Int), -1 ≤ x ∧ x ≤ 5 → 0 ≤ y ∧ y ≤ 99999 → 0 ≤ g → g ≤ r 1 → r 1 - g < (n : Int) → Rn G mX5_begin 31 [some (rf G 31), some (vi k), some (vi g)] [] (mk G (va_up (va_up (va_up S 12 r) 14 (m2 t x y)) 9 r)) (some (vi (nn (bst (fun g => g) (fun m => wsm (beQ r k m)) (r 1 - g).toNat g (x, y)).1))) (mk G (va_up (va_up (va_up (va_up S 12 r) 14 (m2 t (bst (fun g => g) (fun m => wsm (beQ r k m)) (r 1 - g).toNat g (x, y)).1 (bst (fun g => g) (fun m => wsm (beQ r k m)) (r 1 - g).toNat g (x, y)).2)) 13 (tl (S 13) (nn (bst (fun g => g) (fun m => wsm (beQ r k m)) (r 1 - g).toNat g (x, y)).1))) 9 r)) := by
  intro n
  induction n with
  | zero =>
    intro g x y hx hy h0 h1 h2
    exfalso
    omega
  | succ n ih =>
    intro g x y hx hy h0 h1 h2
    have i0 := hI.1; have i1 := hI.2.1; have i2 := hI.2.2.1; have i3 := hI.2.2.2.1; have i4 := hI.2.2.2.2.1
    push_cast at h2
    refine p_iload2 dX5_begin_31 ?_
    refine p_oload0 dX5_begin_32 ?_
    refine p_get fl_RX5_7 gm_s dX5_begin_33 ?_
    refine p_iconst dX5_begin_36 ?_
    refine p_iald alq_s (by omega) (by omega) dX5_begin_37 ?_
    refine p_icmp_ge ⟨by omega, by omega⟩ ⟨by omega, by omega⟩ 73 dX5_begin_38 (by decide) (fun c38 => ?_) (fun c38 => ?_)
    · rw [show (r 1 - g).toNat = 0 by omega, bst]
      refine p_oload0 dX5_begin_73 ?_
      refine p_cV0r (M2 := mX5_bestOrNone) ml_RX5_184 mc_X5_bestOrNone ⟨Nat.le_of_ble_eq_true rfl, Nat.le_of_ble_eq_true rfl⟩ (isO_m _ _) (Nat.le_of_ble_eq_true rfl) dX5_begin_74 (c_best2 (by omega)) ?_
      exact p_iret rfl dX5_begin_77 rfl rfl
    · rw [show (r 1 - g).toNat = (r 1 - (g + 1)).toNat + 1 by omega, bst]
      have hT : IR b (uz r 4 g) := hI.u4 (by omega)
      have hM : IR (b + k.toNat) (beQ r k g) := IR.minsR k.toNat hT
      have hf := wsm_le hM
      have te1 := tri_1 x y g (wsm (beQ r k g)); have te2 := tri_2 x y g (wsm (beQ r k g))
      refine p_oload0 dX5_begin_41 ?_
      refine p_get fl_RX5_7 gm_s dX5_begin_42 ?_
      refine p_iconst dX5_begin_45 ?_
      refine p_iload2 dX5_begin_46 ?_
      refine p_iast alq_s (by omega) (by omega) asq_s dX5_begin_47 ?_
      refine p_oload0 dX5_begin_48 ?_
      refine p_iload1 dX5_begin_49 ?_
      refine p_cV1v (M2 := mX5_minutesGo) ml_RX5_135 mc_X5_minutesGo ⟨Nat.le_of_ble_eq_true rfl, Nat.le_of_ble_eq_true rfl⟩ (isO_m _ _) (Nat.le_of_ble_eq_true rfl) dX5_begin_50 (c_X5_minutesGo hT (by omega) (by omega)) ?_
      rw [show minsR k.toNat (uz r 4 g) = beQ r k g from rfl]
      refine p_oload0 dX5_begin_53 ?_
      refine p_iload2 dX5_begin_54 ?_
      refine p_oload0 dX5_begin_55 ?_
      refine p_oload0 dX5_begin_56 ?_
      refine p_iconst dX5_begin_57 ?_
      refine p_cV1r (M2 := mX5_together) ml_RX5_142 mc_X5_together ⟨Nat.le_of_ble_eq_true rfl, Nat.le_of_ble_eq_true rfl⟩ (isO_m _ _) (Nat.le_of_ble_eq_true rfl) dX5_begin_58 (c_X5_together1 hM) ?_
      refine p_cV1r (M2 := mX5_takesBack) ml_RX5_154 mc_X5_takesBack ⟨Nat.le_of_ble_eq_true rfl, Nat.le_of_ble_eq_true rfl⟩ (isO_m _ _) (Nat.le_of_ble_eq_true rfl) dX5_begin_61 (c_takes2) ?_
      refine p_cV2v (M2 := mX5_tries) ml_RX5_180 mc_X5_tries ⟨Nat.le_of_ble_eq_true rfl, Nat.le_of_ble_eq_true rfl⟩ (isO_m _ _) (Nat.le_of_ble_eq_true rfl) dX5_begin_64 (c_X5_tries (S := va_up S 12 r) ⟨by omega, by omega⟩ ⟨by omega, by omega⟩) ?_
      refine p_iinc2 rfl (Nat.le_of_ble_eq_true rfl) dX5_begin_67 ?_
      refine p_goto 31 dX5_begin_70 (by decide) ?_
      exact ih (g + 1) _ _ (by omega) (by omega) (by omega) (by omega) (by omega)
set_option maxRecDepth 100000 in
set_option maxHeartbeats 4000000 in
theorem c_X5_begin {G : GX} {S : St} {r : Row} {b : Int} (hI : IR b r) (hb : b ≤ 99999) {k : Int} (h_k : inR k) : Ev G mX5_begin [rf G 31, vi k] (mk G (va_up S 9 r)) (some (vi (v_begin r k))) (mk G (va_up (va_up (va_up (va_up S 12 (if 1 ≤ k ∧ k ≤ 100 then r else S 12)) 14 (if 1 ≤ k ∧ k ≤ 100 then (m2 (S 14) (bst (fun g => g) (fun m => wsm (beQ r k m)) (r 1).toNat 0 (-1, 99999)).1 (bst (fun g => g) (fun m => wsm (beQ r k m)) (r 1).toNat 0 (-1, 99999)).2) else S 14)) 13 (tl (S 13) (v_begin r k))) 9 r)) := by
  have i0 := hI.1; have i1 := hI.2.1; have i2 := hI.2.2.1; have i3 := hI.2.2.2.1; have i4 := hI.2.2.2.2.1
  obtain ⟨k1, k2⟩ := h_k
  refine Ev.enter (by decide +kernel) (Nat.le_of_ble_eq_true rfl) (L := [some (rf G 31), some (vi k), none]) rfl ?_
  refine p_iload1 dX5_begin_0 ?_
  refine p_i2l ⟨by omega, by omega⟩ dX5_begin_1 ?_
  refine p_lconst1 dX5_begin_2 ?_
  refine p_ldc2 wc_RX5_131 dX5_begin_3 ?_
  refine p_cS3r (M2 := mX5_in) ms_RX5_42 mc_X5_in ⟨Nat.le_of_ble_eq_true rfl, Nat.le_of_ble_eq_true rfl⟩ (Nat.le_of_ble_eq_true rfl) dX5_begin_6 (c_X5_in ⟨by omega, by omega⟩ ⟨by omega, by omega⟩ ⟨by omega, by omega⟩) ?_
  refine p_bif_ne 19 dX5_begin_9 (by decide) (fun c9 => ?_) (fun c9 => ?_)
  · refine p_oload0 dX5_begin_19 ?_
    refine p_ldc wc_RX5_133 dX5_begin_20 ?_
    refine p_cV1v (M2 := mX5_begins) ml_RX5_177 mc_X5_begins ⟨Nat.le_of_ble_eq_true rfl, Nat.le_of_ble_eq_true rfl⟩ (isO_m _ _) (Nat.le_of_ble_eq_true rfl) dX5_begin_22 (c_begins0) ?_
    refine p_oload0 dX5_begin_25 ?_
    refine p_cV0v (M2 := mX5_laysAside) ml_RX5_151 mc_X5_laysAside ⟨Nat.le_of_ble_eq_true rfl, Nat.le_of_ble_eq_true rfl⟩ (isO_m _ _) (Nat.le_of_ble_eq_true rfl) dX5_begin_26 (c_lays2) ?_
    refine p_iconst dX5_begin_29 ?_
    refine p_istore2 rfl (Nat.le_of_ble_eq_true rfl) dX5_begin_30 ?_
    have h := l_X5_begin (G := G) (S := S) hI hb (t := S 14) (k := k) (by omega) 7 0 (-1) 99999 (by omega) (by omega) (by omega) (by omega) (by omega)
    rw [Int.sub_zero] at h
    rw [if_pos (by omega), if_pos (by omega), show v_begin r k = nn (bst (fun g => g) (fun m => wsm (beQ r k m)) (r 1).toNat 0 (-1, 99999)).1 from by unfold v_begin s_begin; rw [if_pos (by omega)]]
    exact h
  · refine p_oload0 dX5_begin_12 ?_
    refine p_ldc wc_RX5_41 dX5_begin_13 ?_
    refine p_cV1r (M2 := mX5_finds) ml_RX5_61 mc_X5_finds ⟨Nat.le_of_ble_eq_true rfl, Nat.le_of_ble_eq_true rfl⟩ (isO_m _ _) (Nat.le_of_ble_eq_true rfl) dX5_begin_15 (c_X5_finds (by omega)) ?_
    (rw [if_neg (by omega), if_neg (by omega), vup_same S 12, vup_same S 14]; exact m_f (by unfold v_begin; rw [if_neg (by omega)]) rfl rfl dX5_begin_18)
set_option maxRecDepth 100000 in
set_option maxHeartbeats 4000000 in
theorem l_X5_last {G : GX} {S : St} {r : Row} {b : Int} (hI : IR b r) (hb : b ≤ 99999) : ∀ (n : Nat) (p : Int) (x : Int) (y : Int) (a : Row), -1 ≤ x ∧ x ≤ 7 → -1 ≤ y ∧ y ≤ 201 → 0 ≤ p → p ≤ r 0 → r 0 - p < (n : Int) → Rn G mX5_last 6 [some (rf G 31), some (vi x), some (vi y), some (vi p), none] [] (mk G (va_up (va_up S 12 a) 9 r)) (some (vi (nn (bla (fun p => (ft (at_ (18 + 3 * p) 0) 201 0 r).1) (r 0 - p).toNat p (x, y)).1))) (mk G (va_up (va_up (va_up S 12 (lof (fun _ => r) (r 0 - p).toNat p a)) 13 (tl (S 13) (nn (bla (fun p => (ft (at_ (18 + 3 * p) 0) 201 0 r).1) (r 0 - p).toNat p (x, y)).1))) 9 r)) := by
  intro n
  induction n with
  | zero =>
    intro p x y a hx hy h0 h1 h2
    exfalso
    omega
  | succ n ih =>
    intro p x y a hx hy h0 h1 h2
    have i0 := hI.1; have i1 := hI.2.1; have i2 := hI.2.2.1; have i3 := hI.2.2.2.1; have i4 := hI.2.2.2.2.1
    push_cast at h2
    refine p_iload3 dX5_last_6 ?_
    refine p_oload0 dX5_last_7 ?_
    refine p_get fl_RX5_7 gm_s dX5_last_8 ?_
    refine p_iconst dX5_last_11 ?_
    refine p_iald alq_s (by omega) (by omega) dX5_last_12 ?_
    refine p_icmp_ge ⟨by omega, by omega⟩ ⟨by omega, by omega⟩ 62 dX5_last_13 (by decide) (fun c13 => ?_) (fun c13 => ?_)
    · rw [show (r 0 - p).toNat = 0 by omega, bla, lof]
      refine p_iload1 dX5_last_62 ?_
      refine p_if_ge ⟨by omega, by omega⟩ 75 dX5_last_63 (by decide) (fun c63 => ?_) (fun c63 => ?_)
      · rw [show nn x = x by unfold nn; rw [if_neg (by omega)]]
        refine p_iload1 dX5_last_75 ?_
        exact m_v (S := va_up S 12 a) rfl (by omega) rfl rfl dX5_last_76
      · rw [show nn x = -1000000004 by unfold nn; rw [if_pos (by omega)]]
        refine p_oload0 dX5_last_66 ?_
        refine p_ldc wc_RX5_80 dX5_last_67 ?_
        refine p_cV1r (M2 := mX5_finds) ml_RX5_61 mc_X5_finds ⟨Nat.le_of_ble_eq_true rfl, Nat.le_of_ble_eq_true rfl⟩ (isO_m _ _) (Nat.le_of_ble_eq_true rfl) dX5_last_69 (c_X5_finds (by omega)) ?_
        refine p_goto 76 dX5_last_72 (by decide) ?_
        exact m_f (S := va_up S 12 a) rfl rfl rfl dX5_last_76
    · rw [show (r 0 - p).toNat = (r 0 - (p + 1)).toNat + 1 by omega, bla, lof]
      have hf := ft_le (P := at_ (18 + 3 * p) 0) 201 0 r
      refine p_oload0 dX5_last_16 ?_
      refine p_iload3 dX5_last_17 ?_
      refine p_iconst dX5_last_18 ?_
      refine p_cS2r (M2 := mX5_spotOf) ms_RX5_54 mc_X5_spotOf ⟨Nat.le_of_ble_eq_true rfl, Nat.le_of_ble_eq_true rfl⟩ (Nat.le_of_ble_eq_true rfl) dX5_last_19 (c_X5_spotOf1) ?_
      refine p_iconst dX5_last_22 ?_
      refine p_sipush (by decide) (by decide) dX5_last_23 ?_
      refine p_cV3r (M2 := mX5_firstAs) ml_RX5_160 mc_X5_firstAs ⟨Nat.le_of_ble_eq_true rfl, Nat.le_of_ble_eq_true rfl⟩ (isO_m _ _) (Nat.le_of_ble_eq_true rfl) dX5_last_26 (c_first1 hI (by omega) (by omega) (fun b r h => by have := h.2.2.2.2.2.2 p (by omega) (by omega); exact ⟨by omega, by omega⟩) ⟨by omega, by omega⟩ (by omega)) ?_
      rw [show ((200 : Int) + 1).toNat = 201 from rfl]
      refine p_istore4 rfl (Nat.le_of_ble_eq_true rfl) dX5_last_29 ?_
      refine p_iload4 dX5_last_31 ?_
      refine p_iload2 dX5_last_33 ?_
      refine p_icmp_le ⟨by omega, by omega⟩ ⟨by omega, by omega⟩ 41 dX5_last_34 (by decide) (fun c34 => ?_) (fun c34 => ?_)
      · rw [if_neg (by show ¬ y < (ft (at_ (18 + 3 * p) 0) 201 0 r).1; omega)]
        refine p_iload1 dX5_last_41 ?_
        refine p_istore1 rfl (Nat.le_of_ble_eq_true rfl) dX5_last_42 ?_
        refine p_iload4 dX5_last_43 ?_
        refine p_iload2 dX5_last_45 ?_
        refine p_icmp_le ⟨by omega, by omega⟩ ⟨by omega, by omega⟩ 54 dX5_last_46 (by decide) (fun c46 => ?_) (fun c46 => ?_)
        · refine p_iload2 dX5_last_54 ?_
          refine p_istore2 rfl (Nat.le_of_ble_eq_true rfl) dX5_last_55 ?_
          refine p_iinc3 rfl (Nat.le_of_ble_eq_true rfl) dX5_last_56 ?_
          refine p_goto 6 dX5_last_59 (by decide) ?_
          exact Rn.kp (ih (p + 1) x y r hx hy (by omega) (by omega) (by omega)) ⟨rfl, rfl, rfl, rfl, trivial⟩
        · refine p_iload4 dX5_last_49 ?_
          refine p_goto 55 dX5_last_51 (by decide) ?_
          refine p_istore2 rfl (Nat.le_of_ble_eq_true rfl) dX5_last_55 ?_
          refine p_iinc3 rfl (Nat.le_of_ble_eq_true rfl) dX5_last_56 ?_
          refine p_goto 6 dX5_last_59 (by decide) ?_
          (exfalso; omega)
      · rw [if_pos (by show y < (ft (at_ (18 + 3 * p) 0) 201 0 r).1; omega)]
        refine p_iload3 dX5_last_37 ?_
        refine p_goto 42 dX5_last_38 (by decide) ?_
        refine p_istore1 rfl (Nat.le_of_ble_eq_true rfl) dX5_last_42 ?_
        refine p_iload4 dX5_last_43 ?_
        refine p_iload2 dX5_last_45 ?_
        refine p_icmp_le ⟨by omega, by omega⟩ ⟨by omega, by omega⟩ 54 dX5_last_46 (by decide) (fun c46 => ?_) (fun c46 => ?_)
        · refine p_iload2 dX5_last_54 ?_
          refine p_istore2 rfl (Nat.le_of_ble_eq_true rfl) dX5_last_55 ?_
          refine p_iinc3 rfl (Nat.le_of_ble_eq_true rfl) dX5_last_56 ?_
          refine p_goto 6 dX5_last_59 (by decide) ?_
          (exfalso; omega)
        · refine p_iload4 dX5_last_49 ?_
          refine p_goto 55 dX5_last_51 (by decide) ?_
          refine p_istore2 rfl (Nat.le_of_ble_eq_true rfl) dX5_last_55 ?_
          refine p_iinc3 rfl (Nat.le_of_ble_eq_true rfl) dX5_last_56 ?_
          refine p_goto 6 dX5_last_59 (by decide) ?_
          exact Rn.kp (ih (p + 1) p _ r (by omega) (by omega) (by omega) (by omega) (by omega)) ⟨rfl, rfl, rfl, rfl, trivial⟩
set_option maxRecDepth 100000 in
set_option maxHeartbeats 4000000 in
theorem c_X5_last {G : GX} {S : St} {r : Row} {b : Int} (hI : IR b r) (hb : b ≤ 99999) : Ev G mX5_last [rf G 31] (mk G (va_up S 9 r)) (some (vi (v_last r))) (mk G (va_up (va_up (va_up S 12 (lof (fun _ => r) (r 0).toNat 0 (S 12))) 13 (tl (S 13) (v_last r))) 9 r)) := by
  have i0 := hI.1; have i1 := hI.2.1; have i2 := hI.2.2.1; have i3 := hI.2.2.2.1; have i4 := hI.2.2.2.2.1
  refine Ev.enter (by decide +kernel) (Nat.le_of_ble_eq_true rfl) (L := [some (rf G 31), none, none, none, none]) rfl ?_
  refine p_iconst dX5_last_0 ?_
  refine p_istore1 rfl (Nat.le_of_ble_eq_true rfl) dX5_last_1 ?_
  refine p_iconst dX5_last_2 ?_
  refine p_istore2 rfl (Nat.le_of_ble_eq_true rfl) dX5_last_3 ?_
  refine p_iconst dX5_last_4 ?_
  refine p_istore3 rfl (Nat.le_of_ble_eq_true rfl) dX5_last_5 ?_
  have h := l_X5_last (G := G) (S := S) hI hb 9 0 (-1) (-1) (S 12) (by omega) (by omega) (by omega) (by omega) (by omega)
  rw [Int.sub_zero, vup_same S 12] at h
  exact h
set_option maxRecDepth 100000 in
set_option maxHeartbeats 4000000 in
theorem t_X5_most {G : GX} {S : St} {r : Row} {a q : Row} {p k f v : Int} (hp : 0 ≤ p ∧ p < 8) (hf : 0 ≤ f ∧ f ≤ 99) (hv : -1 ≤ v ∧ v ≤ 99) (hq : ∀ z, uz q (18 + 3 * p) z = uz r (18 + 3 * p) z) : Rn G mX5_most 48 [some (rf G 31), some (vi p), some (vi k), some (vi (18 + 3 * p)), some (vi (r (18 + 3 * p))), some (vi f), some (vi v)] [] (mk G (va_up (va_up S 12 a) 9 q)) (some (vi f)) (mk G (va_up (va_up (va_up S 12 a) 13 (tl (S 13) f)) 9 r)) := by
  refine p_iload6 dX5_most_48 ?_
  refine p_if_lt ⟨by omega, by omega⟩ 89 dX5_most_50 (by decide) (fun c50 => ?_) (fun c50 => ?_)
  · refine p_oload0 dX5_most_89 ?_
    refine p_get fl_RX5_7 gm_s dX5_most_90 ?_
    refine p_iload3 dX5_most_93 ?_
    refine p_iload4 dX5_most_94 ?_
    refine p_iast alq_s (by omega) (by omega) asq_s dX5_most_96 ?_
    rw [hq, uz_same]
    refine p_iload5 dX5_most_97 ?_
    refine p_if_ge ⟨by omega, by omega⟩ 111 dX5_most_99 (by decide) (fun c99 => ?_) (fun c99 => absurd c99 (by omega))
    refine p_iload5 dX5_most_111 ?_
    exact m_v (S := va_up S 12 a) rfl (by omega) rfl rfl dX5_most_113
  · refine p_iload5 dX5_most_53 ?_
    refine p_if_ge ⟨by omega, by omega⟩ 89 dX5_most_55 (by decide) (fun c55 => ?_) (fun c55 => ?_)
    · refine p_oload0 dX5_most_89 ?_
      refine p_get fl_RX5_7 gm_s dX5_most_90 ?_
      refine p_iload3 dX5_most_93 ?_
      refine p_iload4 dX5_most_94 ?_
      refine p_iast alq_s (by omega) (by omega) asq_s dX5_most_96 ?_
      rw [hq, uz_same]
      refine p_iload5 dX5_most_97 ?_
      refine p_if_ge ⟨by omega, by omega⟩ 111 dX5_most_99 (by decide) (fun c99 => ?_) (fun c99 => absurd c99 (by omega))
      refine p_iload5 dX5_most_111 ?_
      exact m_v (S := va_up S 12 a) rfl (by omega) rfl rfl dX5_most_113
    · exfalso
      omega
      skip
def moA (Q : Int → Row) (R : Int → Row) (z : Int) : Nat → Int → Row → Row
  | 0, _, a => a
  | n + 1, v, _ => if Q v z = 0 then R v else moA Q R z n (v - 1) (R v)
set_option maxRecDepth 100000 in
set_option maxHeartbeats 4000000 in
theorem l_X5_most {G : GX} {S : St} {r : Row} {b : Int} (hI : IR b r) (hb : b ≤ 99999) {p k : Int} (hp : 0 ≤ p ∧ p < r 0) (hk : 1 ≤ k ∧ k ≤ 100) : ∀ (n : Nat) (v : Int) (a : Row) (q : Row), (∀ z, uz q (18 + 3 * p) z = uz r (18 + 3 * p) z) → -1 ≤ v → v ≤ 99 → v + 1 < (n : Int) → Rn G mX5_most 48 [some (rf G 31), some (vi p), some (vi k), some (vi (18 + 3 * p)), some (vi (r (18 + 3 * p))), some (vi (-1)), some (vi v)] [] (mk G (va_up (va_up S 12 a) 9 q)) (some (vi (xmo (moQ r p k) (18 + 3 * p) (v + 1).toNat v r).1)) (mk G (va_up (va_up (va_up S 12 (moA (moQ r p k) (fun v => uz r (18 + 3 * p) v) (18 + 3 * p) (v + 1).toNat v a)) 13 (tl (S 13) (xmo (moQ r p k) (18 + 3 * p) (v + 1).toNat v r).1)) 9 r)) := by
  intro n
  induction n with
  | zero =>
    intro v a q hq h0 h1 h2
    exfalso
    omega
  | succ n ih =>
    intro v a q hq h0 h1 h2
    have i0 := hI.1; have i1 := hI.2.1; have i2 := hI.2.2.1; have i3 := hI.2.2.2.1; have i4 := hI.2.2.2.2.1
    push_cast at h2
    refine p_iload6 dX5_most_48 ?_
    refine p_if_lt ⟨by omega, by omega⟩ 89 dX5_most_50 (by decide) (fun c50 => ?_) (fun c50 => ?_)
    · rw [show (v + 1).toNat = 0 by omega, xmo, moA]
      refine p_oload0 dX5_most_89 ?_
      refine p_get fl_RX5_7 gm_s dX5_most_90 ?_
      refine p_iload3 dX5_most_93 ?_
      refine p_iload4 dX5_most_94 ?_
      refine p_iast alq_s (by omega) (by omega) asq_s dX5_most_96 ?_
      rw [hq, uz_same]
      refine p_iload5 dX5_most_97 ?_
      refine p_if_ge ⟨by omega, by omega⟩ 111 dX5_most_99 (by decide) (fun c99 => absurd c99 (by omega)) (fun c99 => ?_)
      refine p_oload0 dX5_most_102 ?_
      refine p_ldc wc_RX5_80 dX5_most_103 ?_
      refine p_cV1r (M2 := mX5_finds) ml_RX5_61 mc_X5_finds ⟨Nat.le_of_ble_eq_true rfl, Nat.le_of_ble_eq_true rfl⟩ (isO_m _ _) (Nat.le_of_ble_eq_true rfl) dX5_most_105 (c_X5_finds (by omega)) ?_
      refine p_goto 113 dX5_most_108 (by decide) ?_
      exact m_f (S := va_up S 12 a) rfl rfl rfl dX5_most_113
    · have hT : IR b (uz r (18 + 3 * p) v) := hI.wants (by omega) (by omega)
      have hM := (IR.minsR k.toNat hT).2.2.2.2.2.2 p (by omega) (by omega)
      rw [show (v + 1).toNat = (v - 1 + 1).toNat + 1 by omega, xmo, moA]
      refine p_iload5 dX5_most_53 ?_
      refine p_if_ge ⟨by omega, by omega⟩ 89 dX5_most_55 (by decide) (fun c55 => absurd c55 (by omega)) (fun c55 => ?_)
      refine p_oload0 dX5_most_58 ?_
      refine p_get fl_RX5_7 gm_s dX5_most_59 ?_
      refine p_iload3 dX5_most_62 ?_
      refine p_iload6 dX5_most_63 ?_
      refine p_iast alq_s (by omega) (by omega) asq_s dX5_most_65 ?_
      rw [hq v]
      refine p_oload0 dX5_most_66 ?_
      refine p_iload3 dX5_most_67 ?_
      refine p_iload2 dX5_most_68 ?_
      refine p_cV2r (M2 := mX5_behind) ml_RX5_157 mc_X5_behind ⟨Nat.le_of_ble_eq_true rfl, Nat.le_of_ble_eq_true rfl⟩ (isO_m _ _) (Nat.le_of_ble_eq_true rfl) dX5_most_69 (c_behind1 hT (by omega) (by omega) (by omega)) ?_
      refine p_if_ne ⟨by omega, by omega⟩ 80 dX5_most_72 (by decide) (fun c72 => ?_) (fun c72 => ?_)
      · rw [if_neg (show ¬ moQ r p k v (18 + 3 * p) = 0 from c72), if_neg (show ¬ moQ r p k v (18 + 3 * p) = 0 from c72)]
        refine p_iconst dX5_most_80 ?_
        refine p_istore5 rfl (Nat.le_of_ble_eq_true rfl) dX5_most_81 ?_
        refine p_iinc6 rfl (Nat.le_of_ble_eq_true rfl) dX5_most_83 ?_
        refine p_goto 48 dX5_most_86 (by decide) ?_
        rw [show (xmo (moQ r p k) (18 + 3 * p) (v - 1 + 1).toNat (v - 1) (moQ r p k v)).1 = (xmo (moQ r p k) (18 + 3 * p) (v - 1 + 1).toNat (v - 1) r).1 from xmo_t _ _ _ _ _ _]
        exact ih (v - 1) _ _ (fun z => by rw [uz_uz]) (by omega) (by omega) (by omega)
      · rw [if_pos (show moQ r p k v (18 + 3 * p) = 0 from by unfold moQ; omega), if_pos (show moQ r p k v (18 + 3 * p) = 0 from by unfold moQ; omega)]
        refine p_iload6 dX5_most_75 ?_
        refine p_goto 81 dX5_most_77 (by decide) ?_
        refine p_istore5 rfl (Nat.le_of_ble_eq_true rfl) dX5_most_81 ?_
        refine p_iinc6 rfl (Nat.le_of_ble_eq_true rfl) dX5_most_83 ?_
        refine p_goto 48 dX5_most_86 (by decide) ?_
        exact t_X5_most (by omega) (by omega) (by omega) (fun z => by rw [uz_uz])
set_option maxRecDepth 100000 in
set_option maxHeartbeats 4000000 in
theorem c_X5_most {G : GX} {S : St} {r : Row} {b : Int} (hI : IR b r) (hb : b ≤ 99999) {p k : Int} (h_p : inR p) (h_k : inR k) : Ev G mX5_most [rf G 31, vi p, vi k] (mk G (va_up S 9 r)) (some (vi (v_most r p k))) (mk G (va_up (va_up (va_up S 12 (if (0 ≤ p ∧ p < r 0) ∧ (1 ≤ k ∧ k ≤ 100) then (moA (moQ r p k) (fun v => uz r (18 + 3 * p) v) (18 + 3 * p) 100 99 (S 12)) else S 12)) 13 (tl (S 13) (v_most r p k))) 9 r)) := by
  have i0 := hI.1; have i1 := hI.2.1; have i2 := hI.2.2.1; have i3 := hI.2.2.2.1; have i4 := hI.2.2.2.2.1
  obtain ⟨p1, p2⟩ := h_p; obtain ⟨k1, k2⟩ := h_k
  refine Ev.enter (by decide +kernel) (Nat.le_of_ble_eq_true rfl) (L := [some (rf G 31), some (vi p), some (vi k), none, none, none, none]) rfl ?_
  refine p_oload0 dX5_most_0 ?_
  refine p_iload1 dX5_most_1 ?_
  refine p_cV1r (M2 := mX5_isSheep) ml_RX5_93 mc_X5_isSheep ⟨Nat.le_of_ble_eq_true rfl, Nat.le_of_ble_eq_true rfl⟩ (isO_m _ _) (Nat.le_of_ble_eq_true rfl) dX5_most_2 (c_X5_isSheep hI ⟨by omega, by omega⟩) ?_
  refine p_bif_eq 20 dX5_most_5 (by decide) (fun c5 => ?_) (fun c5 => ?_)
  · refine p_oload0 dX5_most_20 ?_
    refine p_ldc wc_RX5_41 dX5_most_21 ?_
    refine p_cV1r (M2 := mX5_finds) ml_RX5_61 mc_X5_finds ⟨Nat.le_of_ble_eq_true rfl, Nat.le_of_ble_eq_true rfl⟩ (isO_m _ _) (Nat.le_of_ble_eq_true rfl) dX5_most_23 (c_X5_finds (by omega)) ?_
    (rw [if_neg (by omega), vup_same S 12]; exact m_f (by unfold v_most; rw [if_neg (by omega)]) rfl rfl dX5_most_26)
  · refine p_iload2 dX5_most_8 ?_
    refine p_i2l ⟨by omega, by omega⟩ dX5_most_9 ?_
    refine p_lconst1 dX5_most_10 ?_
    refine p_ldc2 wc_RX5_131 dX5_most_11 ?_
    refine p_cS3r (M2 := mX5_in) ms_RX5_42 mc_X5_in ⟨Nat.le_of_ble_eq_true rfl, Nat.le_of_ble_eq_true rfl⟩ (Nat.le_of_ble_eq_true rfl) dX5_most_14 (c_X5_in ⟨by omega, by omega⟩ ⟨by omega, by omega⟩ ⟨by omega, by omega⟩) ?_
    refine p_bif_ne 27 dX5_most_17 (by decide) (fun c17 => ?_) (fun c17 => ?_)
    · refine p_iload1 dX5_most_27 ?_
      refine p_iconst dX5_most_28 ?_
      refine p_cS2r (M2 := mX5_spotOf) ms_RX5_54 mc_X5_spotOf ⟨Nat.le_of_ble_eq_true rfl, Nat.le_of_ble_eq_true rfl⟩ (Nat.le_of_ble_eq_true rfl) dX5_most_29 (c_X5_spotOf1) ?_
      refine p_istore3 rfl (Nat.le_of_ble_eq_true rfl) dX5_most_32 ?_
      refine p_oload0 dX5_most_33 ?_
      refine p_get fl_RX5_7 gm_s dX5_most_34 ?_
      refine p_iload3 dX5_most_37 ?_
      refine p_iald alq_s (by omega) (by omega) dX5_most_38 ?_
      refine p_istore4 rfl (Nat.le_of_ble_eq_true rfl) dX5_most_39 ?_
      refine p_iconst dX5_most_41 ?_
      refine p_istore5 rfl (Nat.le_of_ble_eq_true rfl) dX5_most_42 ?_
      refine p_bipush (by decide) (by decide) dX5_most_44 ?_
      refine p_istore6 rfl (Nat.le_of_ble_eq_true rfl) dX5_most_46 ?_
      have h := l_X5_most (G := G) (S := S) hI hb (p := p) (k := k) (by omega) (by omega) 101 99 (S 12) r (fun z => rfl) (by omega) (by omega) (by omega)
      rw [vup_same S 12] at h
      rw [if_pos (by omega), show v_most r p k = (xmo (moQ r p k) (18 + 3 * p) 100 99 r).1 from by unfold v_most s_most; rw [if_pos (by omega)]]
      exact h
    · refine p_oload0 dX5_most_20 ?_
      refine p_ldc wc_RX5_41 dX5_most_21 ?_
      refine p_cV1r (M2 := mX5_finds) ml_RX5_61 mc_X5_finds ⟨Nat.le_of_ble_eq_true rfl, Nat.le_of_ble_eq_true rfl⟩ (isO_m _ _) (Nat.le_of_ble_eq_true rfl) dX5_most_23 (c_X5_finds (by omega)) ?_
      (rw [if_neg (by omega), vup_same S 12]; exact m_f (by unfold v_most; rw [if_neg (by omega)]) rfl rfl dX5_most_26)
