theorem z_isWrong {G : GX} {S : St} {k x y l : Int} {p : P5} : fld (mk G (Zt S k x y l p)) 31 4 13 (vi (p.2.2.2.2)) := y5_isWrong (S := va_up S 9 p.1)
theorem z_value {G : GX} {S : St} {k x y l : Int} {p : P5} : fld (mk G (Zt S k x y l p)) 31 4 12 (vi (p.2.2.2.1)) := y5_value (S := va_up S 9 p.1)
theorem z_from {G : GX} {S : St} {k x y l : Int} {p : P5} : fld (mk G (Zt S k x y l p)) 31 4 10 (vi (p.2.1)) := y5_from (S := va_up S 9 p.1)
theorem z_taped {G : GX} {S : St} {k x y l : Int} {p : P5} : fld (mk G (Zt S k x y l p)) 31 4 9 (vi (l)) := y5_taped (S := va_up S 9 p.1)
theorem z_s {G : GX} {S : St} {k x y l : Int} {p : P5} : ald G (mk G (Zt S k x y l p)) 32 41 p.1 := al_s
theorem z_ss {G : GX} {S : St} {k x y l : Int} {p : P5} {m v : Int} : va_up (mk G (Zt S k x y l p)) 32 (ia G 41 (uz p.1 m v)) = mk G (Zt S k x y l (uz p.1 m v, p.2)) := mk_set (by decide) rfl
theorem c_must5 {G : GX} {S : St} {k x y l : Int} {p : P5} (hl : 0 ≤ l ∧ l ≤ 120) (hy : ∀ i, 0 ≤ i → i < 120 → 0 ≤ S 15 i ∧ S 15 i ≤ 255) (hp : wfp (S 15) l p) {v : Int} (hv : v = 0 ∨ v = 1) : Ev G mX5_must [rf G 31, vi v] (mk G (Zt S k x y l p)) none (mk G (Zt S k x y l (mustS (S 15) l v p))) := by
  have h := c_X5_must (G := G) (S := va_up S 9 p.1) (k := k) (x := x) (y := y) (fr := p.2.1) (to := p.2.2.1) (va := p.2.2.2.1) (wr := p.2.2.2.2) hl hy (by have := hp.1.1; omega) hv hp.2
  by_cases q : p.2.2.2.2 = 0 ∧ v = 1
  · rw [if_pos q] at h
    rw [show mustS (S 15) l v p = _ from if_pos q]
    exact h
  · rw [if_neg q] at h
    rw [show mustS (S 15) l v p = _ from if_neg q]
    exact h
theorem c_word5 {G : GX} {S : St} {k x y l : Int} {p : P5} (hl : 0 ≤ l ∧ l ≤ 120) (hy : ∀ i, 0 ≤ i → i < 120 → 0 ≤ S 15 i ∧ S 15 i ≤ 255) (hp : wfp (S 15) l p) : Ev G mX5_word [rf G 31] (mk G (Zt S k x y l p)) (some (vl (wzS (S 15) l p))) (mk G (Zt S k x y l p)) :=
  c_X5_word (S := va_up S 9 p.1) hl hy hp.2 hp.1.1 hp.1.2.1
theorem c_num5 {G : GX} {S : St} {k x y l : Int} {p : P5} (hl : 0 ≤ l ∧ l ≤ 120) (hy : ∀ i, 0 ≤ i → i < 120 → 0 ≤ S 15 i ∧ S 15 i ≤ 255) (hp : wfp (S 15) l p) {lo hi : Int} (hlo : 0 ≤ lo ∧ lo ≤ 9999) (hhi : 0 ≤ hi ∧ hi ≤ 9999) (hz : p.2.2.2.2 = 0) : Ev G mX5_number [rf G 31, vi lo, vi hi] (mk G (Zt S k x y l p)) none (mk G (Zt S k x y l (numS (S 15) l lo hi p))) := by
  have h := c_X5_number (G := G) (S := va_up S 9 p.1) (k := k) (x := x) (y := y) (fr := p.2.1) (to := p.2.2.1) (va := p.2.2.2.1) hl hy hlo hhi hp.1.1 hp.1.2.2
  have e : Zt S k x y l p = va_up (va_up S 9 p.1) 14 (mp k x y l p.2.1 p.2.2.1 p.2.2.2.1 0) := by unfold Zt; rw [hz]
  rw [e]
  by_cases q : sa l (S 15) p.2.1 = 2 ∧ lo ≤ numV (S 15) l p ∧ numV (S 15) l p ≤ hi
  · rw [show numS (S 15) l lo hi p = _ from if_pos q]
    exact (congrArg (fun z => Ev G mX5_number [rf G 31, vi lo, vi hi] _ none (mk G z)) (if_pos q)).mp h
  · rw [show numS (S 15) l lo hi p = _ from if_neg q]
    exact (congrArg (fun z => Ev G mX5_number [rf G 31, vi lo, vi hi] _ none (mk G z)) (if_neg q)).mp h
set_option maxRecDepth 100000 in
set_option maxHeartbeats 1000000 in
theorem c_X5_kindHere {G : GX} {S : St} {k x y l : Int} {p : P5} (hl : 0 ≤ l ∧ l ≤ 120) (hy : ∀ i, 0 ≤ i → i < 120 → 0 ≤ S 15 i ∧ S 15 i ≤ 255) (hp : wfp (S 15) l p) : Ev G mX5_kindHere [rf G 31] (mk G (Zt S k x y l p)) (some (vi (kn (wzS (S 15) l p)))) (mk G (Zt S k x y l p)) := by
  have hz := wzS_le hp
  refine Ev.enter (by decide +kernel) (Nat.le_of_ble_eq_true rfl) (L := [some (rf G 31), none, none]) rfl ?_
  refine p_oload0 dX5_kindHere_0 ?_
  refine p_cV0r (M2 := mX5_word) ml_RX5_240 mc_X5_word ⟨Nat.le_of_ble_eq_true rfl, Nat.le_of_ble_eq_true rfl⟩ (isO_m _ _) (Nat.le_of_ble_eq_true rfl) dX5_kindHere_1 (c_word5 hl hy hp) ?_
  refine p_lstore1 rfl (Nat.le_of_ble_eq_true rfl) dX5_kindHere_4 ?_
  refine p_lload1 dX5_kindHere_5 ?_
  refine p_ldc2 wc_RX5_244 dX5_kindHere_6 ?_
  refine p_lc_ne ⟨by omega, by omega⟩ ⟨by omega, by omega⟩ 17 dX5_kindHere_9 dX5_kindHere_10 (by decide) (fun c9 => ?_) (fun c9 => ?_)
  · refine p_lload1 dX5_kindHere_17 ?_
    refine p_ldc2 wc_RX5_246 dX5_kindHere_18 ?_
    refine p_lc_ne ⟨by omega, by omega⟩ ⟨by omega, by omega⟩ 29 dX5_kindHere_21 dX5_kindHere_22 (by decide) (fun c21 => ?_) (fun c21 => ?_)
    · refine p_lload1 dX5_kindHere_29 ?_
      refine p_ldc2 wc_RX5_248 dX5_kindHere_30 ?_
      refine p_lc_ne ⟨by omega, by omega⟩ ⟨by omega, by omega⟩ 41 dX5_kindHere_33 dX5_kindHere_34 (by decide) (fun c33 => ?_) (fun c33 => ?_)
      · refine p_lload1 dX5_kindHere_41 ?_
        refine p_ldc2 wc_RX5_250 dX5_kindHere_42 ?_
        refine p_lc_ne ⟨by omega, by omega⟩ ⟨by omega, by omega⟩ 53 dX5_kindHere_45 dX5_kindHere_46 (by decide) (fun c45 => ?_) (fun c45 => ?_)
        · refine p_lload1 dX5_kindHere_53 ?_
          refine p_ldc2 wc_RX5_252 dX5_kindHere_54 ?_
          refine p_lc_ne ⟨by omega, by omega⟩ ⟨by omega, by omega⟩ 65 dX5_kindHere_57 dX5_kindHere_58 (by decide) (fun c57 => ?_) (fun c57 => ?_)
          · refine p_lload1 dX5_kindHere_65 ?_
            refine p_ldc2 wc_RX5_254 dX5_kindHere_66 ?_
            refine p_lc_ne ⟨by omega, by omega⟩ ⟨by omega, by omega⟩ 77 dX5_kindHere_69 dX5_kindHere_70 (by decide) (fun c69 => ?_) (fun c69 => ?_)
            · refine p_iconst dX5_kindHere_77 ?_
              exact p_iret rfl dX5_kindHere_78 (congrArg (fun z => some (vi z)) (by unfold kn; (try split) <;> (try split) <;> (try split) <;> (try split) <;> (try split) <;> (try split) <;> (try split) <;> omega)) rfl
            · refine p_iconst dX5_kindHere_73 ?_
              refine p_goto 78 dX5_kindHere_74 (by decide) ?_
              exact p_iret rfl dX5_kindHere_78 (congrArg (fun z => some (vi z)) (by unfold kn; (try split) <;> (try split) <;> (try split) <;> (try split) <;> (try split) <;> (try split) <;> (try split) <;> omega)) rfl
          · refine p_iconst dX5_kindHere_61 ?_
            refine p_goto 78 dX5_kindHere_62 (by decide) ?_
            exact p_iret rfl dX5_kindHere_78 (congrArg (fun z => some (vi z)) (by unfold kn; (try split) <;> (try split) <;> (try split) <;> (try split) <;> (try split) <;> (try split) <;> (try split) <;> omega)) rfl
        · refine p_iconst dX5_kindHere_49 ?_
          refine p_goto 78 dX5_kindHere_50 (by decide) ?_
          exact p_iret rfl dX5_kindHere_78 (congrArg (fun z => some (vi z)) (by unfold kn; (try split) <;> (try split) <;> (try split) <;> (try split) <;> (try split) <;> (try split) <;> (try split) <;> omega)) rfl
      · refine p_iconst dX5_kindHere_37 ?_
        refine p_goto 78 dX5_kindHere_38 (by decide) ?_
        exact p_iret rfl dX5_kindHere_78 (congrArg (fun z => some (vi z)) (by unfold kn; (try split) <;> (try split) <;> (try split) <;> (try split) <;> (try split) <;> (try split) <;> (try split) <;> omega)) rfl
    · refine p_iconst dX5_kindHere_25 ?_
      refine p_goto 78 dX5_kindHere_26 (by decide) ?_
      exact p_iret rfl dX5_kindHere_78 (congrArg (fun z => some (vi z)) (by unfold kn; (try split) <;> (try split) <;> (try split) <;> (try split) <;> (try split) <;> (try split) <;> (try split) <;> omega)) rfl
  · refine p_iconst dX5_kindHere_13 ?_
    refine p_goto 78 dX5_kindHere_14 (by decide) ?_
    exact p_iret rfl dX5_kindHere_78 (congrArg (fun z => some (vi z)) (by unfold kn; (try split) <;> (try split) <;> (try split) <;> (try split) <;> (try split) <;> (try split) <;> (try split) <;> omega)) rfl
set_option maxRecDepth 100000 in
set_option maxHeartbeats 1000000 in
theorem c_X5_partItem {G : GX} {S : St} {k x y l : Int} {p : P5} (hl : 0 ≤ l ∧ l ≤ 120) (hy : ∀ i, 0 ≤ i → i < 120 → 0 ≤ S 15 i ∧ S 15 i ≤ 255) (hp : wfp (S 15) l p) {c w : Int} (hc : 0 < c ∧ c ≤ 1152921504606846970) (hw : 0 ≤ w ∧ w < 41) : Ev G mX5_partItem [rf G 31, vl c, vi w, vi 99] (mk G (Zt S k x y l p)) none (mk G (Zt S k x y l (partS (S 15) l c w p))) := by
  have hz := wzS_le hp
  have hm := wfp_must (v := 1) hp
  have hn := wfp_num (lo := 0) (hi := 99) hm
  have hn2 := hn.2
  refine Ev.enter (by decide +kernel) (Nat.le_of_ble_eq_true rfl) (L := [some (rf G 31), some (vl c), none, some (vi w), some (vi 99)]) rfl ?_
  refine p_oload0 dX5_partItem_0 ?_
  refine p_cV0r (M2 := mX5_word) ml_RX5_240 mc_X5_word ⟨Nat.le_of_ble_eq_true rfl, Nat.le_of_ble_eq_true rfl⟩ (isO_m _ _) (Nat.le_of_ble_eq_true rfl) dX5_partItem_1 (c_word5 hl hy hp) ?_
  refine p_lload1 dX5_partItem_4 ?_
  refine p_lc_ne ⟨by omega, by omega⟩ ⟨by omega, by omega⟩ 47 dX5_partItem_5 dX5_partItem_6 (by decide) (fun c5 => ?_) (fun c5 => ?_)
  · rw [show partS (S 15) l c w p = p from if_neg c5]
    exact p_vret rfl dX5_partItem_47 rfl rfl
  · have c6 : wzS (S 15) l p = c := by omega
    have hw0 : p.2.2.2.2 = 0 := by
      by_cases q : p.2.2.2.2 = 0
      · exact q
      · have : wzS (S 15) l p = 0 := if_neg (fun z => q z.1)
        omega
    have hm0 : (mustS (S 15) l 1 p).2.2.2.2 = 0 := by unfold mustS; rw [if_pos ⟨hw0, rfl⟩]
    rw [show partS (S 15) l c w p = putS w (numS (S 15) l 0 99 (mustS (S 15) l 1 p)) from if_pos c6]
    refine p_oload0 dX5_partItem_9 ?_
    refine p_iconst dX5_partItem_10 ?_
    refine p_cV1v (M2 := mX5_must) ml_RX5_236 mc_X5_must ⟨Nat.le_of_ble_eq_true rfl, Nat.le_of_ble_eq_true rfl⟩ (isO_m _ _) (Nat.le_of_ble_eq_true rfl) dX5_partItem_11 (c_must5 hl hy hp (Or.inr rfl)) ?_
    refine p_oload0 dX5_partItem_14 ?_
    refine p_iconst dX5_partItem_15 ?_
    refine p_iload4 dX5_partItem_16 ?_
    refine p_cV2v (M2 := mX5_number) ml_RX5_256 mc_X5_number ⟨Nat.le_of_ble_eq_true rfl, Nat.le_of_ble_eq_true rfl⟩ (isO_m _ _) (Nat.le_of_ble_eq_true rfl) dX5_partItem_18 (c_num5 hl hy hm (by omega) (by omega) hm0) ?_
    refine p_oload0 dX5_partItem_21 ?_
    refine p_get fl_RX5_7 gm_s dX5_partItem_22 ?_
    refine p_iload3 dX5_partItem_25 ?_
    refine p_oload0 dX5_partItem_26 ?_
    refine p_get fl_RX5_222 z_isWrong dX5_partItem_27 ?_
    refine p_if_eq ⟨by omega, by omega⟩ 42 dX5_partItem_30 (by decide) (fun c30 => ?_) (fun c30 => ?_)
    · refine p_oload0 dX5_partItem_42 ?_
      refine p_get fl_RX5_233 z_value dX5_partItem_43 ?_
      refine p_iast z_s (by omega) (by omega) z_ss dX5_partItem_46 ?_
      exact p_vret rfl dX5_partItem_47 rfl (congrArg (fun z => mk G (Zt S k x y l (uz (numS (S 15) l 0 99 (mustS (S 15) l 1 p)).1 w z, (numS (S 15) l 0 99 (mustS (S 15) l 1 p)).2))) (by first | exact (if_pos (by omega)).symm | exact (if_neg (by omega)).symm))
    · refine p_oload0 dX5_partItem_33 ?_
      refine p_get fl_RX5_7 gm_s dX5_partItem_34 ?_
      refine p_iload3 dX5_partItem_37 ?_
      refine p_iald z_s (by omega) (by omega) dX5_partItem_38 ?_
      refine p_goto 46 dX5_partItem_39 (by decide) ?_
      refine p_iast z_s (by omega) (by omega) z_ss dX5_partItem_46 ?_
      exact p_vret rfl dX5_partItem_47 rfl (congrArg (fun z => mk G (Zt S k x y l (uz (numS (S 15) l 0 99 (mustS (S 15) l 1 p)).1 w z, (numS (S 15) l 0 99 (mustS (S 15) l 1 p)).2))) (by first | exact (if_pos (by omega)).symm | exact (if_neg (by omega)).symm))
