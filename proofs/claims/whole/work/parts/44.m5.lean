def sw1 (a c k : Int) (r : Row) : Row := uz (uz r (5 + 2 * a + k) (r (5 + 2 * c + k))) (5 + 2 * c + k) (r (5 + 2 * a + k))
def swL (a c : Int) : Nat → Int → Row → Row
  | 0, _, r => r
  | n + 1, k, r => swL a c n (k + 1) (sw1 a c k r)
theorem IR.sw1 {b a c k : Int} {r : Row} (h : IR b r) (ha : 0 ≤ a ∧ a < 6) (hc : 0 ≤ c ∧ c < 6) (hk : k = 0 ∨ k = 1) : IR b (sw1 a c k r) := by
  have h1 := h.2.2.2.2.2.1 a ha.1 ha.2
  have h2 := h.2.2.2.2.2.1 c hc.1 hc.2
  unfold _root_.Jvm.Pilot.@@N@@.sw1
  rcases hk with e | e <;> subst e
  · rw [show 5 + 2 * a + 0 = 5 + 2 * a by omega, show 5 + 2 * c + 0 = 5 + 2 * c by omega]
    exact (h.guise ha (by omega)).guise hc (by omega)
  · rw [show 5 + 2 * a + 1 = 6 + 2 * a by omega, show 5 + 2 * c + 1 = 6 + 2 * c by omega]
    exact (h.wear ha (by omega)).wear hc (by omega)
theorem swL_exR {a c : Int} (r : Row) (h : a ≠ c) : swL a c 2 0 r = exR a c r := by
  show sw1 a c (0 + 1) (sw1 a c 0 r) = exR a c r
  unfold sw1 exR
  rw [show 5 + 2 * a + (0 + 1) = 6 + 2 * a by omega, show 5 + 2 * c + (0 + 1) = 6 + 2 * c by omega, show 5 + 2 * a + 0 = 5 + 2 * a by omega, show 5 + 2 * c + 0 = 5 + 2 * c by omega]
  rw [uz_ne (j := 6 + 2 * c) _ _ (by omega), uz_ne (j := 6 + 2 * c) _ _ (by omega), uz_ne (j := 6 + 2 * a) _ _ (by omega), uz_ne (j := 6 + 2 * a) _ _ (by omega)]
  rw [uz_swap (uz r (5 + 2 * a) (r (5 + 2 * c))) (by omega : 5 + 2 * c ≠ 6 + 2 * a)]
theorem exR_exR {a c : Int} (r : Row) (h : a ≠ c) : exR a c (exR a c r) = r := by
  have e1 : exR a c r (5 + 2 * a) = r (5 + 2 * c) := by unfold exR; rw [uz_ne _ _ (by omega), uz_ne _ _ (by omega), uz_ne _ _ (by omega), uz_self]
  have e2 : exR a c r (6 + 2 * a) = r (6 + 2 * c) := by unfold exR; rw [uz_ne _ _ (by omega), uz_ne _ _ (by omega), uz_self]
  have e3 : exR a c r (5 + 2 * c) = r (5 + 2 * a) := by unfold exR; rw [uz_ne _ _ (by omega), uz_self]
  have e4 : exR a c r (6 + 2 * c) = r (6 + 2 * a) := by unfold exR; rw [uz_self]
  have e5 : ∀ j, j ≠ 5 + 2 * a → j ≠ 6 + 2 * a → j ≠ 5 + 2 * c → j ≠ 6 + 2 * c → exR a c r j = r j := by
    intro j h1 h2 h3 h4
    unfold exR; rw [uz_ne _ _ h4, uz_ne _ _ h3, uz_ne _ _ h2, uz_ne _ _ h1]
  have key : ∀ q : Row, q (5 + 2 * a) = r (5 + 2 * c) → q (6 + 2 * a) = r (6 + 2 * c) → q (5 + 2 * c) = r (5 + 2 * a) → q (6 + 2 * c) = r (6 + 2 * a) → (∀ j, j ≠ 5 + 2 * a → j ≠ 6 + 2 * a → j ≠ 5 + 2 * c → j ≠ 6 + 2 * c → q j = r j) → exR a c q = r := by
    intro q h1 h2 h3 h4 h5
    funext j
    unfold exR
    rw [h1, h2, h3, h4]
    by_cases q1 : j = 6 + 2 * c
    · subst q1; rw [uz_self]
    · rw [uz_ne _ _ q1]
      by_cases q2 : j = 5 + 2 * c
      · subst q2; rw [uz_self]
      · rw [uz_ne _ _ q2]
        by_cases q3 : j = 6 + 2 * a
        · subst q3; rw [uz_self]
        · rw [uz_ne _ _ q3]
          by_cases q4 : j = 5 + 2 * a
          · subst q4; rw [uz_self]
          · rw [uz_ne _ _ q4]; exact h5 j q4 q3 q2 q1
  exact key _ e1 e2 e3 e4 e5
set_option maxRecDepth 100000 in
set_option maxHeartbeats 4000000 in
theorem l_X5_swaps {G : GX} {S : St} {b m o : Int} (hm : 0 ≤ m ∧ m < 6) (ho : 0 ≤ o ∧ o < 6) (hmo : m ≠ o) : ∀ (n : Nat) (k : Int) (r : Row), IR b r → 0 ≤ k → k ≤ 2 → 2 - k < (n : Int) → Rn G mX5_swaps 2 [some (rf G 31), some (vi m), some (vi o), some (vi k), none] [] (mk G (va_up S 9 r)) none (mk G (va_up S 9 (swL m o (2 - k).toNat k r))) := by
  intro n
  induction n with
  | zero =>
    intro k r hI h0 h1 h2
    exfalso
    omega
  | succ n ih =>
    intro k r hI h0 h1 h2
    push_cast at h2
    refine p_iload3 dX5_swaps_2 ?_
    refine p_iconst dX5_swaps_3 ?_
    refine p_icmp_gt ⟨by omega, by omega⟩ ⟨by omega, by omega⟩ 42 dX5_swaps_4 (by decide) (fun c4 => ?_) (fun c4 => ?_)
    · rw [show (2 - k).toNat = 0 by omega, swL]
      exact p_vret rfl dX5_swaps_42 rfl rfl
    · rw [show (2 - k).toNat = (2 - (k + 1)).toNat + 1 by omega, swL]
      have hI2 := hI.sw1 hm ho (k := k) (by omega)
      refine p_oload0 dX5_swaps_7 ?_
      refine p_iload1 dX5_swaps_8 ?_
      refine p_iload3 dX5_swaps_9 ?_
      refine p_cS2r (M2 := mX5_placeOf) ms_RX5_50 mc_X5_placeOf ⟨Nat.le_of_ble_eq_true rfl, Nat.le_of_ble_eq_true rfl⟩ (Nat.le_of_ble_eq_true rfl) dX5_swaps_10 (c_X5_placeOf) ?_
      refine p_oload0 dX5_swaps_13 ?_
      refine p_iload2 dX5_swaps_14 ?_
      refine p_iload3 dX5_swaps_15 ?_
      refine p_cV2r (M2 := mX5_his) ml_RX5_72 mc_X5_his ⟨Nat.le_of_ble_eq_true rfl, Nat.le_of_ble_eq_true rfl⟩ (isO_m _ _) (Nat.le_of_ble_eq_true rfl) dX5_swaps_16 (c_X5_his hI (by omega) (by omega)) ?_
      refine p_cV2r (M2 := mX5_becomes) ml_RX5_77 mc_X5_becomes ⟨Nat.le_of_ble_eq_true rfl, Nat.le_of_ble_eq_true rfl⟩ (isO_m _ _) (Nat.le_of_ble_eq_true rfl) dX5_swaps_19 (c_X5_becomes (by omega)) ?_
      refine p_istore4 rfl (Nat.le_of_ble_eq_true rfl) dX5_swaps_22 ?_
      refine p_oload0 dX5_swaps_24 ?_
      refine p_get fl_RX5_7 gm_s dX5_swaps_25 ?_
      refine p_iload2 dX5_swaps_28 ?_
      refine p_iload3 dX5_swaps_29 ?_
      refine p_cS2r (M2 := mX5_placeOf) ms_RX5_50 mc_X5_placeOf ⟨Nat.le_of_ble_eq_true rfl, Nat.le_of_ble_eq_true rfl⟩ (Nat.le_of_ble_eq_true rfl) dX5_swaps_30 (c_X5_placeOf) ?_
      refine p_iload4 dX5_swaps_33 ?_
      refine p_iast alq_s (by omega) (by omega) asq_s dX5_swaps_35 ?_
      refine p_iinc3 rfl (Nat.le_of_ble_eq_true rfl) dX5_swaps_36 ?_
      refine p_goto 2 dX5_swaps_39 (by decide) ?_
      exact Rn.kp (ih (k + 1) (sw1 m o k r) hI2 (by omega) (by omega) (by omega)) ⟨rfl, rfl, rfl, rfl, trivial⟩
set_option maxRecDepth 100000 in
set_option maxHeartbeats 4000000 in
theorem c_X5_swaps {G : GX} {S : St} {r : Row} {b : Int} (hI : IR b r) {m o : Int} (hm : 0 ≤ m ∧ m < 6) (ho : 0 ≤ o ∧ o < 6) (hmo : m ≠ o) : Ev G mX5_swaps [rf G 31, vi m, vi o] (mk G (va_up S 9 r)) none (mk G (va_up S 9 (exR m o r))) := by
  refine Ev.enter (by decide +kernel) (Nat.le_of_ble_eq_true rfl) (L := [some (rf G 31), some (vi m), some (vi o), none, none]) rfl ?_
  refine p_iconst dX5_swaps_0 ?_
  refine p_istore3 rfl (Nat.le_of_ble_eq_true rfl) dX5_swaps_1 ?_
  have h := l_X5_swaps (G := G) (S := S) hm ho hmo 3 0 r hI (by omega) (by omega) (by omega)
  rw [show ((2 : Int) - 0).toNat = 2 from rfl, swL_exR r hmo] at h
  exact h
theorem bst_ok {V f : Int → Int} (hf : ∀ g, 0 ≤ g → 0 ≤ f g) : ∀ (n : Nat) (g : Int) (a : Int × Int) (lim : Int), 0 ≤ g → (∀ q, g ≤ q → q < g + n → 0 ≤ V q ∧ V q ≤ 99) → (-1 ≤ a.1 ∧ a.1 ≤ 99) → (0 ≤ a.2 ∧ a.2 ≤ lim) → (-1 ≤ (bst V f n g a).1 ∧ (bst V f n g a).1 ≤ 99) ∧ 0 ≤ (bst V f n g a).2 ∧ (bst V f n g a).2 ≤ lim := by
  intro n
  induction n with
  | zero => intro g a lim _ _ h1 h2; exact ⟨h1, h2⟩
  | succ n ih =>
    intro g a lim h0 hV h1 h2
    rw [bst]
    have hv := hV g (by omega) (by omega)
    have hf1 := hf g h0
    refine ih (g + 1) _ lim (by omega) (fun q a c => hV q (by omega) (by omega)) ?_ ?_
    · unfold tri; split
      · show -1 ≤ V g ∧ V g ≤ 99; omega
      · exact h1
    · unfold tri; split
      · rename_i q; show 0 ≤ f g ∧ f g ≤ lim; omega
      · exact h2
def los (r : Row) (k : Int) : Nat → Int → Row → Row
  | 0, _, a => a
  | n + 1, m, a => los r k n (m + 1) (lof (fun o => exR m o r) (k - (m + 1)).toNat (m + 1) a)
set_option maxRecDepth 100000 in
set_option maxHeartbeats 4000000 in
theorem l_X5_swap2 {G : GX} {S : St} {r : Row} {b : Int} (hI : IR b r) (hb : b ≤ 99999) {t : Row} {m v : Int} {F : St} (hm : 0 ≤ m ∧ m < r 1) : ∀ (n : Nat) (g : Int) (x : Int) (y : Int) (a : Row), -1 ≤ x ∧ x ≤ 99 → 0 ≤ y ∧ y ≤ 101 → m + 1 ≤ g → g ≤ r 1 → r 1 - g < (n : Int) → Rn G mX5_swap 70 [some (rf G 31), some (vi m), none] [] (mk G (va_up (va_up (va_up S 12 (lof (fun o => exR m o r) (r 1 - g).toNat g a)) 14 (m2 t (bst (fun o => 10 * m + o) ((fun m o => (ft qt 101 0 (exR m o r)).1) m) (r 1 - g).toNat g (x, y)).1 (bst (fun o => 10 * m + o) ((fun m o => (ft qt 101 0 (exR m o r)).1) m) (r 1 - g).toNat g (x, y)).2)) 9 r)) (some (vi v)) (mk G F) → Rn G mX5_swap 26 [some (rf G 31), some (vi m), some (vi g)] [] (mk G (va_up (va_up (va_up S 12 a) 14 (m2 t x y)) 9 r)) (some (vi v)) (mk G (F)) := by
  intro n
  induction n with
  | zero =>
    intro g x y a hx hy h0 h1 h2 K
    exfalso
    omega
  | succ n ih =>
    intro g x y a hx hy h0 h1 h2 K
    have i0 := hI.1; have i1 := hI.2.1; have i2 := hI.2.2.1; have i3 := hI.2.2.2.1; have i4 := hI.2.2.2.2.1
    push_cast at h2
    refine p_iload2 dX5_swap_26 ?_
    refine p_oload0 dX5_swap_27 ?_
    refine p_get fl_RX5_7 gm_s dX5_swap_28 ?_
    refine p_iconst dX5_swap_31 ?_
    refine p_iald alq_s (by omega) (by omega) dX5_swap_32 ?_
    refine p_icmp_ge ⟨by omega, by omega⟩ ⟨by omega, by omega⟩ 70 dX5_swap_33 (by decide) (fun c33 => ?_) (fun c33 => ?_)
    · rw [show (r 1 - g).toNat = 0 by omega, bst, lof] at K
      exact Rn.kp K ⟨rfl, rfl, trivial⟩
      skip
    · rw [show (r 1 - g).toNat = (r 1 - (g + 1)).toNat + 1 by omega, bst, lof] at K
      have hT : IR b (exR m g r) := hI.exR (by omega) (by omega)
      have hf := ft_le (P := qt) 101 0 (exR m g r)
      have te1 := tri_1 x y (10 * m + g) ((ft qt 101 0 (exR m g r)).1); have te2 := tri_2 x y (10 * m + g) ((ft qt 101 0 (exR m g r)).1)
      refine p_oload0 dX5_swap_36 ?_
      refine p_iload1 dX5_swap_37 ?_
      refine p_iload2 dX5_swap_38 ?_
      refine p_cV2v (M2 := mX5_swaps) ml_RX5_187 mc_X5_swaps ⟨Nat.le_of_ble_eq_true rfl, Nat.le_of_ble_eq_true rfl⟩ (isO_m _ _) (Nat.le_of_ble_eq_true rfl) dX5_swap_39 (c_X5_swaps hI (by omega) (by omega) (by omega)) ?_
      refine p_oload0 dX5_swap_42 ?_
      refine p_bipush (by decide) (by decide) dX5_swap_43 ?_
      refine p_iload1 dX5_swap_45 ?_
      refine p_imul dX5_swap_46 ?_
      refine p_iload2 dX5_swap_47 ?_
      refine p_iadd dX5_swap_48 ?_
      refine p_oload0 dX5_swap_49 ?_
      refine p_bipush (by decide) (by decide) dX5_swap_50 ?_
      refine p_cV1r (M2 := mX5_quietIn) ml_RX5_167 mc_X5_quietIn ⟨Nat.le_of_ble_eq_true rfl, Nat.le_of_ble_eq_true rfl⟩ (isO_m _ _) (Nat.le_of_ble_eq_true rfl) dX5_swap_52 (c_quiet2 hT (by omega) (by omega)) ?_
      rw [show ((100 : Int) + 1).toNat = 101 from rfl]
      refine p_cV2v (M2 := mX5_tries) ml_RX5_180 mc_X5_tries ⟨Nat.le_of_ble_eq_true rfl, Nat.le_of_ble_eq_true rfl⟩ (isO_m _ _) (Nat.le_of_ble_eq_true rfl) dX5_swap_55 (c_X5_tries (S := va_up S 12 _) ⟨by omega, by omega⟩ ⟨by omega, by omega⟩) ?_
      refine p_oload0 dX5_swap_58 ?_
      refine p_iload1 dX5_swap_59 ?_
      refine p_iload2 dX5_swap_60 ?_
      refine p_cV2v (M2 := mX5_swaps) ml_RX5_187 mc_X5_swaps ⟨Nat.le_of_ble_eq_true rfl, Nat.le_of_ble_eq_true rfl⟩ (isO_m _ _) (Nat.le_of_ble_eq_true rfl) dX5_swap_61 (c_X5_swaps hT (by omega) (by omega) (by omega)) ?_
      rw [exR_exR r (by omega)]
      refine p_iinc2 rfl (Nat.le_of_ble_eq_true rfl) dX5_swap_64 ?_
      refine p_goto 26 dX5_swap_67 (by decide) ?_
      exact ih (g + 1) _ _ _ (by omega) (by omega) (by omega) (by omega) (by omega) K
set_option maxRecDepth 100000 in
set_option maxHeartbeats 4000000 in
theorem l_X5_swap {G : GX} {S : St} {r : Row} {b : Int} (hI : IR b r) (hb : b ≤ 99999) {t : Row} : ∀ (n : Nat) (m : Int) (x : Int) (y : Int) (a : Row), -1 ≤ x ∧ x ≤ 99 → 0 ≤ y ∧ y ≤ 101 → 0 ≤ m → m ≤ r 1 → r 1 - m < (n : Int) → Rn G mX5_swap 12 [some (rf G 31), some (vi m), none] [] (mk G (va_up (va_up (va_up S 12 a) 14 (m2 t x y)) 9 r)) (some (vi (nn (bss (fun m o => (ft qt 101 0 (exR m o r)).1) (r 1) (r 1 - m).toNat m (x, y)).1))) (mk G (va_up (va_up (va_up (va_up S 12 (los r (r 1) (r 1 - m).toNat m a)) 14 (m2 t (bss (fun m o => (ft qt 101 0 (exR m o r)).1) (r 1) (r 1 - m).toNat m (x, y)).1 (bss (fun m o => (ft qt 101 0 (exR m o r)).1) (r 1) (r 1 - m).toNat m (x, y)).2)) 13 (tl (S 13) (nn (bss (fun m o => (ft qt 101 0 (exR m o r)).1) (r 1) (r 1 - m).toNat m (x, y)).1))) 9 r)) := by
  intro n
  induction n with
  | zero =>
    intro m x y a hx hy h0 h1 h2
    exfalso
    omega
  | succ n ih =>
    intro m x y a hx hy h0 h1 h2
    have i0 := hI.1; have i1 := hI.2.1; have i2 := hI.2.2.1; have i3 := hI.2.2.2.1; have i4 := hI.2.2.2.2.1
    push_cast at h2
    refine p_iload1 dX5_swap_12 ?_
    refine p_oload0 dX5_swap_13 ?_
    refine p_get fl_RX5_7 gm_s dX5_swap_14 ?_
    refine p_iconst dX5_swap_17 ?_
    refine p_iald alq_s (by omega) (by omega) dX5_swap_18 ?_
    refine p_icmp_ge ⟨by omega, by omega⟩ ⟨by omega, by omega⟩ 76 dX5_swap_19 (by decide) (fun c19 => ?_) (fun c19 => ?_)
    · rw [show (r 1 - m).toNat = 0 by omega, bss, los]
      refine p_oload0 dX5_swap_76 ?_
      refine p_cV0r (M2 := mX5_bestOrNone) ml_RX5_184 mc_X5_bestOrNone ⟨Nat.le_of_ble_eq_true rfl, Nat.le_of_ble_eq_true rfl⟩ (isO_m _ _) (Nat.le_of_ble_eq_true rfl) dX5_swap_77 (c_best2 (by omega)) ?_
      exact p_iret rfl dX5_swap_80 rfl rfl
    · rw [show (r 1 - m).toNat = (r 1 - (m + 1)).toNat + 1 by omega, bss, los]
      obtain ⟨q1, q2, q3⟩ := bst_ok (V := fun o => 10 * m + o) (f := (fun m o => (ft qt 101 0 (exR m o r)).1) m) (fun g _ => (ft_le (P := qt) 101 0 (exR m g r)).1) (r 1 - (m + 1)).toNat (m + 1) (x, y) 101 (by omega) (fun q a c => ⟨by omega, by omega⟩) hx hy
      have hn := ih (m + 1) _ _ (lof (fun o => exR m o r) (r 1 - (m + 1)).toNat (m + 1) a) q1 ⟨q2, q3⟩ (by omega) (by omega) (by omega)
      refine p_iload1 dX5_swap_22 ?_
      refine p_iconst dX5_swap_23 ?_
      refine p_iadd dX5_swap_24 ?_
      refine p_istore2 rfl (Nat.le_of_ble_eq_true rfl) dX5_swap_25 ?_
      refine l_X5_swap2 hI hb (t := t) ⟨h0, by omega⟩ 7 (m + 1) x y a hx hy (by omega) (by omega) (by omega) ?_
      refine p_iinc1 rfl (Nat.le_of_ble_eq_true rfl) dX5_swap_70 ?_
      refine p_goto 12 dX5_swap_73 (by decide) ?_
      exact hn
theorem c_begins1 {G : GX} {S : St} {a r : Row} {k : Int} : Ev G mX5_begins [rf G 31, vi k] (mk G (va_up (va_up S 12 a) 9 r)) none (mk G (va_up (va_up (va_up S 12 a) 14 (m2 (S 14) (-1) k)) 9 r)) := by
  have h := c_X5_begins (G := G) (S := va_up S 12 a) (t := S 14) (r := r) (k := k)
  rw [show va_up (va_up S 12 a) 14 (S 14) = va_up S 12 a from vup_same (va_up S 12 a) 14] at h
  exact h
set_option maxRecDepth 100000 in
set_option maxHeartbeats 4000000 in
theorem c_X5_swap {G : GX} {S : St} {r : Row} {b : Int} (hI : IR b r) (hb : b ≤ 99999) : Ev G mX5_swap [rf G 31] (mk G (va_up S 9 r)) (some (vi (v_swap r))) (mk G (va_up (va_up (va_up (va_up S 12 (los r (r 1) (r 1).toNat 0 r)) 14 (m2 (S 14) (bss (fun m o => (ft qt 101 0 (exR m o r)).1) (r 1) (r 1).toNat 0 (-1, (ft qt 101 0 r).1)).1 (bss (fun m o => (ft qt 101 0 (exR m o r)).1) (r 1) (r 1).toNat 0 (-1, (ft qt 101 0 r).1)).2)) 13 (tl (S 13) (v_swap r))) 9 r)) := by
  have i0 := hI.1; have i1 := hI.2.1; have i2 := hI.2.2.1; have i3 := hI.2.2.2.1; have i4 := hI.2.2.2.2.1
  have hf := ft_le (P := qt) 101 0 r
  refine Ev.enter (by decide +kernel) (Nat.le_of_ble_eq_true rfl) (L := [some (rf G 31), none, none]) rfl ?_
  refine p_oload0 dX5_swap_0 ?_
  refine p_oload0 dX5_swap_1 ?_
  refine p_bipush (by decide) (by decide) dX5_swap_2 ?_
  refine p_cV1r (M2 := mX5_quietIn) ml_RX5_167 mc_X5_quietIn ⟨Nat.le_of_ble_eq_true rfl, Nat.le_of_ble_eq_true rfl⟩ (isO_m _ _) (Nat.le_of_ble_eq_true rfl) dX5_swap_4 (c_X5_quietIn hI (by omega) (by omega)) ?_
  rw [show ((100 : Int) + 1).toNat = 101 from rfl]
  refine p_cV1v (M2 := mX5_begins) ml_RX5_177 mc_X5_begins ⟨Nat.le_of_ble_eq_true rfl, Nat.le_of_ble_eq_true rfl⟩ (isO_m _ _) (Nat.le_of_ble_eq_true rfl) dX5_swap_7 (c_begins1) ?_
  refine p_iconst dX5_swap_10 ?_
  refine p_istore1 rfl (Nat.le_of_ble_eq_true rfl) dX5_swap_11 ?_
  have h := l_X5_swap (G := G) (S := S) hI hb (t := S 14) 7 0 (-1) (ft qt 101 0 r).1 r (by omega) (by omega) (by omega) (by omega) (by omega)
  rw [Int.sub_zero] at h
  exact h
theorem minsR_1 : ∀ (n : Nat) (b : Int) (r : Row), IR b r → minsR n r 1 = r 1 := fun n => by
  induction n with
  | zero => intro b r _; rfl
  | succ n ih => intro b r h; rw [minsR, ih _ _ h.minR]; exact (minR_lo h).2.1
theorem bShl_2 {n : Int} (h0 : 0 ≤ n) (h6 : n ≤ 6) : bShl 1 n = 2 ^ n.toNat := by
  have h := bShl_cc n.toNat (by omega)
  rw [show ((n.toNat : Nat) : Int) = n by omega] at h
  exact h
theorem wof_spC {b : Int} {r : Row} {k g : Int} (h : IR b r) (hg : 0 ≤ g) (hg2 : g < bShl 1 (r 1)) : lsum (wof (spQ r k g) (bAnd (bShl 1 (r 1) - 1) (bXor g (-1)))) (spQ r k g 1).toNat 0 0 = spC r k g := by
  have h1 := h.2.1
  have hW : IR b (woL g (r 1).toNat 0 r) := IR.woL _ 0 _ h (by omega) (by omega)
  have e1 : spQ r k g 1 = r 1 := (minsR_1 k.toNat b _ hW).trans (woL_1 g (r 1).toNat 0 r (by omega)).1
  rw [e1]
  unfold spC
  refine lsum_congr _ _ _ (fun q a c => ?_)
  rw [bShl_2 h1.1 h1.2] at hg2
  have hlt : g.toNat < 2 ^ (r 1).toNat := by
    have : ((g.toNat : Nat) : Int) < ((2 ^ (r 1).toNat : Nat) : Int) := by push_cast; omega
    omega
  have h2 := wx_cc (r 1).toNat (by omega) g.toNat hlt q.toNat (by omega)
  rw [show (((r 1).toNat : Nat) : Int) = r 1 by omega, show ((q.toNat : Nat) : Int) = q by omega, show ((g.toNat : Nat) : Int) = g by omega] at h2
  unfold wof wwo
  by_cases x : bAnd (bShr g q) 1 = 1
  · rw [if_pos x]; exact if_neg (fun y => (h2.mp y) x)
  · rw [if_neg x]; exact if_pos (h2.mpr x)
set_option maxRecDepth 100000 in
set_option maxHeartbeats 4000000 in
theorem t_X5_spare130 {G : GX} {S : St} {r : Row} {b : Int} (hI : IR b r) (hb : b ≤ 99999) {k w f g v : Int} {F : St} (hk : 1 ≤ k ∧ k ≤ 40) (hw : 0 ≤ w ∧ w ≤ 594) (hg : 0 ≤ g ∧ g < bShl 1 (r 1)) (hf : -1 ≤ f ∧ f ≤ 63) (K : Rn G mX5_spare 162 [some (rf G 31), some (vi k), some (vi w), some (vi (bShl 1 (r 1) - 1)), some (vi (if spC r k g ≤ w then g else f)), some (vi g), none] [] (mk G (va_up (va_up S 12 r) 9 r)) (some (vi v)) (mk G F)) : Rn G mX5_spare 130 [some (rf G 31), some (vi k), some (vi w), some (vi (bShl 1 (r 1) - 1)), some (vi f), some (vi g), none] [] (mk G (va_up (va_up S 12 r) 9 (woL g (r 1).toNat 0 r))) (some (vi v)) (mk G (F)) := by
  have i1 := hI.2.1
  have hW : IR b (woL g (r 1).toNat 0 r) := IR.woL _ 0 _ hI (by omega) (by omega)
  have hM : IR (b + k.toNat) (spQ r k g) := IR.minsR k.toNat hW
  have hsc : 0 ≤ spC r k g ∧ spC r k g ≤ 594 := by
    have := lsum_le (f := wwo (spQ r k g) g) (c := 99) (by omega) (r 1).toNat 0 0 (fun q a c => by have := hM.2.2.2.2.2.1 q a (by omega); unfold wwo; split <;> omega)
    unfold spC; omega
  refine p_oload0 dX5_spare_130 ?_
  refine p_iload1 dX5_spare_131 ?_
  refine p_cV1v (M2 := mX5_minutesGo) ml_RX5_135 mc_X5_minutesGo ⟨Nat.le_of_ble_eq_true rfl, Nat.le_of_ble_eq_true rfl⟩ (isO_m _ _) (Nat.le_of_ble_eq_true rfl) dX5_spare_132 (c_X5_minutesGo hW (by omega) (by omega)) ?_
  rw [show minsR k.toNat (woL g (r 1).toNat 0 r) = spQ r k g from rfl]
  refine p_oload0 dX5_spare_135 ?_
  refine p_oload0 dX5_spare_136 ?_
  refine p_iload3 dX5_spare_137 ?_
  refine p_iload5 dX5_spare_138 ?_
  refine p_iconst dX5_spare_140 ?_
  refine p_ixor dX5_spare_141 ?_
  refine p_iand dX5_spare_142 ?_
  refine p_cV1r (M2 := mX5_wearOf) ml_RX5_145 mc_X5_wearOf ⟨Nat.le_of_ble_eq_true rfl, Nat.le_of_ble_eq_true rfl⟩ (isO_m _ _) (Nat.le_of_ble_eq_true rfl) dX5_spare_143 (c_X5_wearOf hM) ?_
  rw [wof_spC hI hg.1 hg.2]
  refine p_iload2 dX5_spare_146 ?_
  refine p_icmp_gt ⟨by omega, by omega⟩ ⟨by omega, by omega⟩ 155 dX5_spare_147 (by decide) (fun c147 => ?_) (fun c147 => ?_)
  · rw [if_neg (by omega)] at K
    refine p_iload4 dX5_spare_155 ?_
    refine p_cV1r (M2 := mX5_takesBack) ml_RX5_154 mc_X5_takesBack ⟨Nat.le_of_ble_eq_true rfl, Nat.le_of_ble_eq_true rfl⟩ (isO_m _ _) (Nat.le_of_ble_eq_true rfl) dX5_spare_157 (c_X5_takesBack) ?_
    refine p_istore4 rfl (Nat.le_of_ble_eq_true rfl) dX5_spare_160 ?_
    exact K
  · rw [if_pos (by omega)] at K
    refine p_iload5 dX5_spare_150 ?_
    refine p_goto 157 dX5_spare_152 (by decide) ?_
    refine p_cV1r (M2 := mX5_takesBack) ml_RX5_154 mc_X5_takesBack ⟨Nat.le_of_ble_eq_true rfl, Nat.le_of_ble_eq_true rfl⟩ (isO_m _ _) (Nat.le_of_ble_eq_true rfl) dX5_spare_157 (c_X5_takesBack) ?_
    refine p_istore4 rfl (Nat.le_of_ble_eq_true rfl) dX5_spare_160 ?_
    exact K
set_option maxRecDepth 100000 in
set_option maxHeartbeats 4000000 in
theorem l_X5_spare2 {G : GX} {S : St} {r : Row} {b : Int}  (hb : b ≤ 99999) {k w f g v : Int} {F : St} : ∀ (n : Nat) (m : Int) (q : Row), IR b q → q 1 = r 1 → 0 ≤ m → m ≤ q 1 → q 1 - m < (n : Int) → Rn G mX5_spare 130 [some (rf G 31), some (vi k), some (vi w), some (vi (bShl 1 (r 1) - 1)), some (vi f), some (vi g), none] [] (mk G (va_up (va_up S 12 r) 9 (woL g (q 1 - m).toNat m q))) (some (vi v)) (mk G F) → Rn G mX5_spare 79 [some (rf G 31), some (vi k), some (vi w), some (vi (bShl 1 (r 1) - 1)), some (vi f), some (vi g), some (vi m)] [] (mk G (va_up (va_up S 12 r) 9 q)) (some (vi v)) (mk G (F)) := by
  intro n
  induction n with
  | zero =>
    intro m q hQ hq h0 h1 h2 K
    exfalso
    omega
  | succ n ih =>
    intro m q hQ hq h0 h1 h2 K
    have i1 := hQ.2.1
    push_cast at h2
    refine p_iload6 dX5_spare_79 ?_
    refine p_oload0 dX5_spare_81 ?_
    refine p_get fl_RX5_7 gm_s dX5_spare_82 ?_
    refine p_iconst dX5_spare_85 ?_
    refine p_iald alq_s (by omega) (by omega) dX5_spare_86 ?_
    refine p_icmp_ge ⟨by omega, by omega⟩ ⟨by omega, by omega⟩ 130 dX5_spare_87 (by decide) (fun c87 => ?_) (fun c87 => ?_)
    · rw [show (q 1 - m).toNat = 0 by omega, woL] at K
      exact Rn.kp K ⟨rfl, rfl, rfl, rfl, rfl, rfl, trivial⟩
      skip
    · rw [show (q 1 - m).toNat = (q 1 - (m + 1)).toNat + 1 by omega, woL] at K
      refine p_oload0 dX5_spare_90 ?_
      refine p_get fl_RX5_7 gm_s dX5_spare_91 ?_
      refine p_iload6 dX5_spare_94 ?_
      refine p_iconst dX5_spare_96 ?_
      refine p_cS2r (M2 := mX5_placeOf) ms_RX5_50 mc_X5_placeOf ⟨Nat.le_of_ble_eq_true rfl, Nat.le_of_ble_eq_true rfl⟩ (Nat.le_of_ble_eq_true rfl) dX5_spare_97 (c_X5_placeOf1) ?_
      refine p_iload5 dX5_spare_100 ?_
      refine p_iload6 dX5_spare_102 ?_
      refine p_ishr dX5_spare_104 ?_
      refine p_iconst dX5_spare_105 ?_
      refine p_iand dX5_spare_106 ?_
      refine p_iconst dX5_spare_107 ?_
      refine p_icmp_ne (bAnd_in _ _) ⟨by omega, by omega⟩ 116 dX5_spare_108 (by decide) (fun c108 => ?_) (fun c108 => ?_)
      · rw [if_neg c108] at K
        refine p_oload0 dX5_spare_116 ?_
        refine p_iload6 dX5_spare_117 ?_
        refine p_iconst dX5_spare_119 ?_
        refine p_cV2r (M2 := mX5_his) ml_RX5_72 mc_X5_his ⟨Nat.le_of_ble_eq_true rfl, Nat.le_of_ble_eq_true rfl⟩ (isO_m _ _) (Nat.le_of_ble_eq_true rfl) dX5_spare_120 (c_X5_his1 hQ (by omega) (by omega)) ?_
        refine p_iast alq_s (by omega) (by omega) asq_s dX5_spare_123 ?_
        refine p_iinc6 rfl (Nat.le_of_ble_eq_true rfl) dX5_spare_124 ?_
        refine p_goto 79 dX5_spare_127 (by decide) ?_
        rw [uz_same]
        exact ih (m + 1) q hQ hq (by omega) (by omega) (by omega) K
      · rw [if_pos (by omega)] at K
        refine p_bipush (by decide) (by decide) dX5_spare_111 ?_
        refine p_goto 123 dX5_spare_113 (by decide) ?_
        refine p_iast alq_s (by omega) (by omega) asq_s dX5_spare_123 ?_
        refine p_iinc6 rfl (Nat.le_of_ble_eq_true rfl) dX5_spare_124 ?_
        refine p_goto 79 dX5_spare_127 (by decide) ?_
        have e1 : uz q (6 + 2 * m) 99 1 = q 1 := uz_ne _ _ (by omega)
        exact ih (m + 1) (uz q (6 + 2 * m) 99) (hQ.wear (by omega) (by omega)) (by omega) (by omega) (by omega) (by omega) (by rw [e1]; exact K)
set_option maxRecDepth 100000 in
set_option maxHeartbeats 4000000 in
theorem t_X5_spare76 {G : GX} {S : St} {r : Row} {b : Int} (hI : IR b r) (hb : b ≤ 99999) {k w f g v : Int} {F : St} (hk : 1 ≤ k ∧ k ≤ 40) (hw : 0 ≤ w ∧ w ≤ 594) (hg : 0 ≤ g ∧ g < bShl 1 (r 1)) (hf : -1 ≤ f ∧ f ≤ 63) (K : Rn G mX5_spare 162 [some (rf G 31), some (vi k), some (vi w), some (vi (bShl 1 (r 1) - 1)), some (vi (if spC r k g ≤ w then g else f)), some (vi g), none] [] (mk G (va_up (va_up S 12 r) 9 r)) (some (vi v)) (mk G F)) : Rn G mX5_spare 76 [some (rf G 31), some (vi k), some (vi w), some (vi (bShl 1 (r 1) - 1)), some (vi f), some (vi g), none] [] (mk G (va_up (va_up S 12 r) 9 r)) (some (vi v)) (mk G (F)) := by
  have i1 := hI.2.1
  refine p_iconst dX5_spare_76 ?_
  refine p_istore6 rfl (Nat.le_of_ble_eq_true rfl) dX5_spare_77 ?_
  refine l_X5_spare2 (b := b) hb 7 0 r hI rfl (by omega) (by omega) (by omega) ?_
  rw [Int.sub_zero]
  exact t_X5_spare130 hI hb hk hw hg hf K
set_option maxRecDepth 100000 in
set_option maxHeartbeats 4000000 in
theorem l_X5_spare {G : GX} {S : St} {r : Row} {b : Int} (hI : IR b r) (hb : b ≤ 99999) {k w : Int} (hk : 1 ≤ k ∧ k ≤ 40) (hw : 0 ≤ w ∧ w ≤ 594) : ∀ (n : Nat) (g : Int) (f : Int), -1 ≤ f ∧ f ≤ 63 → 0 ≤ g → g ≤ bShl 1 (r 1) → bShl 1 (r 1) - g < (n : Int) → Rn G mX5_spare 52 [some (rf G 31), some (vi k), some (vi w), some (vi (bShl 1 (r 1) - 1)), some (vi f), some (vi g), none] [] (mk G (va_up (va_up S 12 r) 9 r)) (some (vi (nn (bsp (spC r k) w (bShl 1 (r 1) - g).toNat g f)))) (mk G (va_up (va_up (va_up S 12 r) 13 (tl (S 13) (nn (bsp (spC r k) w (bShl 1 (r 1) - g).toNat g f)))) 9 r)) := by
  intro n
  induction n with
  | zero =>
    intro g f hf h0 h1 h2
    exfalso
    omega
  | succ n ih =>
    intro g f hf h0 h1 h2
    have i0 := hI.1; have i1 := hI.2.1; have i2 := hI.2.2.1; have i3 := hI.2.2.2.1; have i4 := hI.2.2.2.2.1
    push_cast at h2
    have hsh := bShl_le (n := r 1) (by omega) (by omega)
    have hpg := pcn_le g; have hpf := pcn_le f
    refine p_iload5 dX5_spare_52 ?_
    refine p_iload3 dX5_spare_54 ?_
    refine p_icmp_gt ⟨by omega, by omega⟩ ⟨by omega, by omega⟩ 168 dX5_spare_55 (by decide) (fun c55 => ?_) (fun c55 => ?_)
    · rw [show (bShl 1 (r 1) - g).toNat = 0 by omega, bsp]
      refine p_iload4 dX5_spare_168 ?_
      refine p_if_ge ⟨by omega, by omega⟩ 182 dX5_spare_170 (by decide) (fun c170 => ?_) (fun c170 => ?_)
      · rw [show nn f = f by unfold nn; rw [if_neg (by omega)]]
        refine p_iload4 dX5_spare_182 ?_
        exact m_v (S := va_up S 12 r) rfl (by omega) rfl rfl dX5_spare_184
      · rw [show nn f = -1000000004 by unfold nn; rw [if_pos (by omega)]]
        refine p_oload0 dX5_spare_173 ?_
        refine p_ldc wc_RX5_80 dX5_spare_174 ?_
        refine p_cV1r (M2 := mX5_finds) ml_RX5_61 mc_X5_finds ⟨Nat.le_of_ble_eq_true rfl, Nat.le_of_ble_eq_true rfl⟩ (isO_m _ _) (Nat.le_of_ble_eq_true rfl) dX5_spare_176 (c_X5_finds (by omega)) ?_
        refine p_goto 184 dX5_spare_179 (by decide) ?_
        exact m_f (S := va_up S 12 r) rfl rfl rfl dX5_spare_184
    · rw [show (bShl 1 (r 1) - g).toNat = (bShl 1 (r 1) - (g + 1)).toNat + 1 by omega, bsp]
      have hn := ih (g + 1) (if f < 0 ∨ pcn g < pcn f then (if spC r k g ≤ w then g else f) else f) (by split <;> (try split) <;> omega) (by omega) (by omega) (by omega)
      refine p_iload4 dX5_spare_58 ?_
      refine p_if_lt ⟨by omega, by omega⟩ 76 dX5_spare_60 (by decide) (fun c60 => ?_) (fun c60 => ?_)
      · rw [if_pos (by omega)] at hn ⊢
        refine Rn.kp (t_X5_spare76 hI hb hk hw ⟨h0, by omega⟩ hf ?_) ⟨rfl, rfl, rfl, rfl, rfl, rfl, trivial⟩
        refine p_iinc5 rfl (Nat.le_of_ble_eq_true rfl) dX5_spare_162 ?_
        refine p_goto 52 dX5_spare_165 (by decide) ?_
        exact hn
      · refine p_iload5 dX5_spare_63 ?_
        refine p_cS1r (M2 := mX5_ones) ms_RX5_90 mc_X5_ones ⟨Nat.le_of_ble_eq_true rfl, Nat.le_of_ble_eq_true rfl⟩ (Nat.le_of_ble_eq_true rfl) dX5_spare_65 (c_X5_ones (by omega) (by omega)) ?_
        refine p_iload4 dX5_spare_68 ?_
        refine p_cS1r (M2 := mX5_ones) ms_RX5_90 mc_X5_ones ⟨Nat.le_of_ble_eq_true rfl, Nat.le_of_ble_eq_true rfl⟩ (Nat.le_of_ble_eq_true rfl) dX5_spare_70 (c_X5_ones (by omega) (by omega)) ?_
        refine p_icmp_ge ⟨by omega, by omega⟩ ⟨by omega, by omega⟩ 162 dX5_spare_73 (by decide) (fun c73 => ?_) (fun c73 => ?_)
        · rw [if_neg (by omega)] at hn ⊢
          refine p_iinc5 rfl (Nat.le_of_ble_eq_true rfl) dX5_spare_162 ?_
          refine p_goto 52 dX5_spare_165 (by decide) ?_
          exact Rn.kp hn ⟨rfl, rfl, rfl, rfl, rfl, rfl, trivial⟩
        · rw [if_pos (by omega)] at hn ⊢
          refine Rn.kp (t_X5_spare76 hI hb hk hw ⟨h0, by omega⟩ hf ?_) ⟨rfl, rfl, rfl, rfl, rfl, rfl, trivial⟩
          refine p_iinc5 rfl (Nat.le_of_ble_eq_true rfl) dX5_spare_162 ?_
          refine p_goto 52 dX5_spare_165 (by decide) ?_
          exact hn
set_option maxRecDepth 100000 in
set_option maxHeartbeats 4000000 in
theorem c_X5_spare {G : GX} {S : St} {r : Row} {b : Int} (hI : IR b r) (hb : b ≤ 99999) {k w : Int} (h_k : inR k) (h_w : inR w) : Ev G mX5_spare [rf G 31, vi k, vi w] (mk G (va_up S 9 r)) (some (vi (v_spare r k w))) (mk G (va_up (va_up (va_up S 12 (if (1 ≤ k ∧ k ≤ 40) ∧ (0 ≤ w ∧ w ≤ 594) then r else S 12)) 13 (tl (S 13) (v_spare r k w))) 9 r)) := by
  have i0 := hI.1; have i1 := hI.2.1; have i2 := hI.2.2.1; have i3 := hI.2.2.2.1; have i4 := hI.2.2.2.2.1
  obtain ⟨k1, k2⟩ := h_k; obtain ⟨w1, w2⟩ := h_w
  have hsh := bShl_le (n := r 1) (by omega) (by omega)
  refine Ev.enter (by decide +kernel) (Nat.le_of_ble_eq_true rfl) (L := [some (rf G 31), some (vi k), some (vi w), none, none, none, none]) rfl ?_
  refine p_iload1 dX5_spare_0 ?_
  refine p_i2l ⟨by omega, by omega⟩ dX5_spare_1 ?_
  refine p_lconst1 dX5_spare_2 ?_
  refine p_ldc2 wc_RX5_190 dX5_spare_3 ?_
  refine p_cS3r (M2 := mX5_in) ms_RX5_42 mc_X5_in ⟨Nat.le_of_ble_eq_true rfl, Nat.le_of_ble_eq_true rfl⟩ (Nat.le_of_ble_eq_true rfl) dX5_spare_6 (c_X5_in ⟨by omega, by omega⟩ ⟨by omega, by omega⟩ ⟨by omega, by omega⟩) ?_
  refine p_bif_eq 24 dX5_spare_9 (by decide) (fun c9 => ?_) (fun c9 => ?_)
  · refine p_oload0 dX5_spare_24 ?_
    refine p_ldc wc_RX5_41 dX5_spare_25 ?_
    refine p_cV1r (M2 := mX5_finds) ml_RX5_61 mc_X5_finds ⟨Nat.le_of_ble_eq_true rfl, Nat.le_of_ble_eq_true rfl⟩ (isO_m _ _) (Nat.le_of_ble_eq_true rfl) dX5_spare_27 (c_X5_finds (by omega)) ?_
    (rw [if_neg (by omega), vup_same S 12]; exact m_f (by unfold v_spare; rw [if_neg (by omega)]) rfl rfl dX5_spare_30)
  · refine p_iload2 dX5_spare_12 ?_
    refine p_i2l ⟨by omega, by omega⟩ dX5_spare_13 ?_
    refine p_lconst0 dX5_spare_14 ?_
    refine p_ldc2 wc_RX5_192 dX5_spare_15 ?_
    refine p_cS3r (M2 := mX5_in) ms_RX5_42 mc_X5_in ⟨Nat.le_of_ble_eq_true rfl, Nat.le_of_ble_eq_true rfl⟩ (Nat.le_of_ble_eq_true rfl) dX5_spare_18 (c_X5_in ⟨by omega, by omega⟩ ⟨by omega, by omega⟩ ⟨by omega, by omega⟩) ?_
    refine p_bif_ne 31 dX5_spare_21 (by decide) (fun c21 => ?_) (fun c21 => ?_)
    · refine p_iconst dX5_spare_31 ?_
      refine p_oload0 dX5_spare_32 ?_
      refine p_get fl_RX5_7 gm_s dX5_spare_33 ?_
      refine p_iconst dX5_spare_36 ?_
      refine p_iald alq_s (by omega) (by omega) dX5_spare_37 ?_
      refine p_ishl dX5_spare_38 ?_
      refine p_iconst dX5_spare_39 ?_
      refine p_isub dX5_spare_40 ?_
      refine p_istore3 rfl (Nat.le_of_ble_eq_true rfl) dX5_spare_41 ?_
      refine p_iconst dX5_spare_42 ?_
      refine p_istore4 rfl (Nat.le_of_ble_eq_true rfl) dX5_spare_43 ?_
      refine p_oload0 dX5_spare_45 ?_
      refine p_cV0v (M2 := mX5_laysAside) ml_RX5_151 mc_X5_laysAside ⟨Nat.le_of_ble_eq_true rfl, Nat.le_of_ble_eq_true rfl⟩ (isO_m _ _) (Nat.le_of_ble_eq_true rfl) dX5_spare_46 (c_X5_laysAside) ?_
      refine p_iconst dX5_spare_49 ?_
      refine p_istore5 rfl (Nat.le_of_ble_eq_true rfl) dX5_spare_50 ?_
      have h := l_X5_spare (G := G) (S := S) hI hb (k := k) (w := w) (by omega) (by omega) 65 0 (-1) (by omega) (by omega) (by omega) (by omega)
      rw [Int.sub_zero] at h
      rw [if_pos (by omega), show v_spare r k w = nn (bsp (spC r k) w (bShl 1 (r 1)).toNat 0 (-1)) from by unfold v_spare s_spare; rw [if_pos (by omega)]]
      exact h
    · refine p_oload0 dX5_spare_24 ?_
      refine p_ldc wc_RX5_41 dX5_spare_25 ?_
      refine p_cV1r (M2 := mX5_finds) ml_RX5_61 mc_X5_finds ⟨Nat.le_of_ble_eq_true rfl, Nat.le_of_ble_eq_true rfl⟩ (isO_m _ _) (Nat.le_of_ble_eq_true rfl) dX5_spare_27 (c_X5_finds (by omega)) ?_
      (rw [if_neg (by omega), vup_same S 12]; exact m_f (by unfold v_spare; rw [if_neg (by omega)]) rfl rfl dX5_spare_30)
