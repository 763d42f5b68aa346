theorem x_sort {G : GX} {S : St} {i l : Int} {p : P5} : fld (mk G (Yt S i l p)) 19 2 2 (vi (sa l (S 4) p.2.1)) := y3_sort (S := va_up S 1 p.1)
theorem x_start {G : GX} {S : St} {i l : Int} {p : P5} : fld (mk G (Yt S i l p)) 19 2 3 (vi (p.2.1)) := y3_start (S := va_up S 1 p.1)
theorem x_behind {G : GX} {S : St} {i l : Int} {p : P5} : fld (mk G (Yt S i l p)) 19 2 4 (vi (p.2.2.1)) := y3_behind (S := va_up S 1 p.1)
theorem x_length {G : GX} {S : St} {i l : Int} {p : P5} : fld (mk G (Yt S i l p)) 19 2 1 (vi (l)) := y3_length (S := va_up S 1 p.1)
theorem x_by {G : GX} {S : St} {i l : Int} {p : P5} : ald G (mk G (Yt S i l p)) 20 120 (S 4) := y3_by (S := va_up S 1 p.1)
theorem Yt_1 (S : St) (i l : Int) (p : P5) : Yt S i l p = va_up (va_up S 3 (tp i l (sa l (S 4) p.2.1) p.2.1 p.2.2.1)) 1 p.1 := vup_swap S (by decide : (1 : Nat) ≠ 3) p.1 _
theorem c_next3 {G : GX} {S : St} {i l : Int} {p : P5} (hl : 0 ≤ l ∧ l ≤ 120) (hy : ∀ i, 0 ≤ i → i < 120 → 0 ≤ S 4 i ∧ S 4 i ≤ 255) (hp : wfp (S 4) l p) (hw : p.2.2.2.2 = 0) : Ev G mX3_nextToken [rf G 19] (mk G (Yt S i l p)) none (mk G (Yt S i l (mustS (S 4) l 1 p))) := by
  have h := c_X3_nextToken (G := G) (S := va_up S 1 p.1) (i := i) (so := sa l (S 4) p.2.1) (st := p.2.1) (be := p.2.2.1) hl hy (by have := hp.1.1; omega)
  rw [must_0 hw]
  exact h
theorem c_numh3 {G : GX} {S : St} {i l : Int} {p : P5} (hl : 0 ≤ l ∧ l ≤ 120) (hy : ∀ i, 0 ≤ i → i < 120 → 0 ≤ S 4 i ∧ S 4 i ≤ 255) (hp : wfp (S 4) l p) (hw : p.2.2.2.2 = 0) : Ev G mX3_numberHere [rf G 19] (mk G (Yt S i l p)) (some (vi (nh (S 4) l p))) (mk G (Yt S i l p)) :=
  c_X3_numberHere (G := G) (S := va_up S 1 p.1) hl hy ⟨hp.1.1.2.1, hp.1.1.2.2⟩ (sa_le _ _ _) hp.1.2.2 hp.1.1.1
theorem c_adds3 {G : GX} {S : St} {i l : Int} {p : P5} {b kd w : Int} (hI : IR b p.1) (hr : p.1 0 < 8) : Ev G mX0_addSheep [rf G (fo 1), vi kd, vi w] (mk G (Yt S i l p)) (some (vi (p.1 0))) (mk G (Yt S i l (asR p.1 kd w, p.2))) := by
  have h := c_X0_addSheep (G := G) (S := va_up (va_up S 3 (tp i l (sa l (S 4) p.2.1) p.2.1 p.2.2.1)) 1 p.1) (j := 1) (b := b) (k := kd) (w := w) hI hr
  rw [Yt_1, Yt_1, ← vup_up (va_up S 3 (tp i l (sa l (S 4) p.2.1) p.2.1 p.2.2.1)) 1 p.1 (asR p.1 kd w)]
  exact h
theorem c_addm3 {G : GX} {S : St} {i l : Int} {p : P5} {b g w : Int} (hI : IR b p.1) (hr : p.1 1 < 6) : Ev G mX0_addMan [rf G (fo 1), vi g, vi w] (mk G (Yt S i l p)) (some (vi (p.1 1))) (mk G (Yt S i l (amR p.1 g w, p.2))) := by
  have h := c_X0_addMan (G := G) (S := va_up (va_up S 3 (tp i l (sa l (S 4) p.2.1) p.2.1 p.2.2.1)) 1 p.1) (j := 1) (b := b) (g := g) (w := w) hI hr
  rw [Yt_1, Yt_1, ← vup_up (va_up S 3 (tp i l (sa l (S 4) p.2.1) p.2.1 p.2.2.1)) 1 p.1 (amR p.1 g w)]
  exact h
theorem c_hrm3 {G : GX} {S : St} {i l : Int} {p : P5} {b : Int} (hI : IR b p.1) : Ev G mX0_hasRoomForMan [rf G (fo 1)] (mk G (Yt S i l p)) (some (vi (if p.1 1 < 6 then 1 else 0))) (mk G (Yt S i l p)) := by
  rw [Yt_1]
  exact c_X0_hasRoomForMan (G := G) (S := va_up (va_up S 3 (tp i l (sa l (S 4) p.2.1) p.2.1 p.2.2.1)) 1 p.1) (j := 1) (b := b) hI
theorem c_hrs3 {G : GX} {S : St} {i l : Int} {p : P5} {b : Int} (hI : IR b p.1) : Ev G mX0_hasRoomForSheep [rf G (fo 1)] (mk G (Yt S i l p)) (some (vi (if p.1 0 < 8 then 1 else 0))) (mk G (Yt S i l p)) := by
  rw [Yt_1]
  exact c_X0_hasRoomForSheep (G := G) (S := va_up (va_up S 3 (tp i l (sa l (S 4) p.2.1) p.2.1 p.2.2.1)) 1 p.1) (j := 1) (b := b) hI
set_option maxRecDepth 100000 in
set_option maxHeartbeats 1000000 in
theorem l_isWord {G : GX} {S : St} {i l : Int} {p : P5} (hl : 0 ≤ l ∧ l ≤ 120) (hy : ∀ i, 0 ≤ i → i < 120 → 0 ≤ S 4 i ∧ S 4 i ≤ 255) (hp : wfp (S 4) l p) (hw : p.2.2.2.2 = 0) {q : Nat} (hi : q < 12) (hs : sa l (S 4) p.2.1 = 1) (hn : p.2.2.1 - p.2.1 = ((lenJ.getD q 0 : Nat) : Int)) : ∀ (n : Nat) (k : Int), 0 ≤ k → k ≤ ((lenJ.getD q 0 : Nat) : Int) → ((lenJ.getD q 0 : Nat) : Int) - k < (n : Int) → Rn G mX3_isWord 28 [some (rf G 19), some (.ref (adK G q)), some (vi k)] [] (mk G (Yt S i l p)) (some (vi (lw (S 4) p.2.1 q (((lenJ.getD q 0 : Nat) : Int) - k).toNat k))) (mk G (Yt S i l p)) := by
  intro n
  induction n with
  | zero =>
    intro k h0 h1 h2
    exfalso
    omega
  | succ n ih =>
    intro k h0 h1 h2
    push_cast at h2
    have h7 := lenJ_lt q
    have hb := hp.1.1
    refine p_iload2 dX3_isWord_28 ?_
    refine p_aload1 dX3_isWord_29 ?_
    refine p_cK0r (M2 := mJ0_length_8abf5) hi ml_RX3_99 mc_J0_length_8abf5 ⟨Nat.le_of_ble_eq_true rfl, Nat.le_of_ble_eq_true rfl⟩ rfl (Nat.le_of_ble_eq_true rfl) dX3_isWord_30 (c_J0_length_8abf5 hi) ?_
    refine p_icmp_ge ⟨by omega, by omega⟩ ⟨by omega, by omega⟩ 63 dX3_isWord_33 (by decide) (fun c33 => ?_) (fun c33 => ?_)
    · rw [show (((lenJ.getD q 0 : Nat) : Int) - k).toNat = 0 by omega, lw]
      refine p_iconst dX3_isWord_63 ?_
      exact p_zret rfl (by first | exact nz0 | exact nz1 | exact nzb _) dX3_isWord_64 rfl rfl
    · have hya := hp.1.2.1 hs (p.2.1 + k) (by omega) (by omega)
      have hc := sc_chz hi h0 (by omega)
      rw [show (((lenJ.getD q 0 : Nat) : Int) - k).toNat = (((lenJ.getD q 0 : Nat) : Int) - (k + 1)).toNat + 1 by omega, lw]
      refine p_oload0 dX3_isWord_36 ?_
      refine p_get fl_RX3_9 gt_bytes dX3_isWord_37 ?_
      refine p_oload0 dX3_isWord_40 ?_
      refine p_get fl_RX3_31 x_start dX3_isWord_41 ?_
      refine p_iload2 dX3_isWord_44 ?_
      refine p_iadd dX3_isWord_45 ?_
      refine p_iald x_by (by omega) (by omega) dX3_isWord_46 ?_
      refine p_aload1 dX3_isWord_47 ?_
      refine p_iload2 dX3_isWord_48 ?_
      refine p_cK1r (M2 := mJ0_charAt_5068e) hi ml_RX3_103 mc_J0_charAt_5068e ⟨Nat.le_of_ble_eq_true rfl, Nat.le_of_ble_eq_true rfl⟩ rfl (Nat.le_of_ble_eq_true rfl) dX3_isWord_49 (c_J0_charAt_5068e hi (by omega) (by omega)) ?_
      refine p_icmp_eq ⟨by omega, by omega⟩ ⟨by omega, by omega⟩ 57 dX3_isWord_52 (by decide) (fun c52 => ?_) (fun c52 => ?_)
      · rw [if_pos c52]
        refine p_iinc2 rfl (Nat.le_of_ble_eq_true rfl) dX3_isWord_57 ?_
        refine p_goto 28 dX3_isWord_60 (by decide) ?_
        exact ih (k + 1) (by omega) (by omega) (by omega)
      · rw [if_neg c52]
        refine p_iconst dX3_isWord_55 ?_
        exact p_zret rfl (by first | exact nz0 | exact nz1 | exact nzb _) dX3_isWord_56 rfl rfl
set_option maxRecDepth 100000 in
set_option maxHeartbeats 1000000 in
theorem c_X3_isWord {G : GX} {S : St} {i l : Int} {p : P5} (hl : 0 ≤ l ∧ l ≤ 120) (hy : ∀ i, 0 ≤ i → i < 120 → 0 ≤ S 4 i ∧ S 4 i ≤ 255) (hp : wfp (S 4) l p) (hw : p.2.2.2.2 = 0) {q : Nat} (hi : q < 12) : Ev G mX3_isWord [rf G 19, .ref (adK G q)] (mk G (Yt S i l p)) (some (vi (if wzS (S 4) l p = cJ q then 1 else 0))) (mk G (Yt S i l p)) := by
  have hb := hp.1.1
  have h7 := lenJ_lt q
  have hsa := sa_le (S 4) l p.2.1
  rw [← isw_eq hp hw hi]
  refine Ev.enter (by decide +kernel) (Nat.le_of_ble_eq_true rfl) (L := [some (rf G 19), some (.ref (adK G q)), none]) rfl ?_
  refine p_oload0 dX3_isWord_0 ?_
  refine p_get fl_RX3_34 x_sort dX3_isWord_1 ?_
  refine p_iconst dX3_isWord_4 ?_
  refine p_icmp_ne ⟨by omega, by omega⟩ ⟨by omega, by omega⟩ 24 dX3_isWord_5 (by decide) (fun c5 => ?_) (fun c5 => ?_)
  · rw [if_neg (fun z => c5 z.1)]
    refine p_iconst dX3_isWord_24 ?_
    exact p_zret rfl (by first | exact nz0 | exact nz1 | exact nzb _) dX3_isWord_25 rfl rfl
  · refine p_oload0 dX3_isWord_8 ?_
    refine p_get fl_RX3_21 x_behind dX3_isWord_9 ?_
    refine p_oload0 dX3_isWord_12 ?_
    refine p_get fl_RX3_31 x_start dX3_isWord_13 ?_
    refine p_isub dX3_isWord_16 ?_
    refine p_aload1 dX3_isWord_17 ?_
    refine p_cK0r (M2 := mJ0_length_8abf5) hi ml_RX3_99 mc_J0_length_8abf5 ⟨Nat.le_of_ble_eq_true rfl, Nat.le_of_ble_eq_true rfl⟩ rfl (Nat.le_of_ble_eq_true rfl) dX3_isWord_18 (c_J0_length_8abf5 hi) ?_
    refine p_icmp_eq ⟨by omega, by omega⟩ ⟨by omega, by omega⟩ 26 dX3_isWord_21 (by decide) (fun c21 => ?_) (fun c21 => ?_)
    · rw [if_pos ⟨by omega, c21⟩]
      refine p_iconst dX3_isWord_26 ?_
      refine p_istore2 rfl (Nat.le_of_ble_eq_true rfl) dX3_isWord_27 ?_
      have h := l_isWord (G := G) (S := S) (i := i) hl hy hp hw hi (by omega) c21 8 0 (by omega) (by omega) (by omega)
      rw [show (((lenJ.getD q 0 : Nat) : Int) - 0).toNat = lenJ.getD q 0 by omega] at h
      exact h
    · rw [if_neg (fun z => c21 z.2)]
      refine p_iconst dX3_isWord_24 ?_
      exact p_zret rfl (by first | exact nz0 | exact nz1 | exact nzb _) dX3_isWord_25 rfl rfl
set_option maxRecDepth 100000 in
set_option maxHeartbeats 1000000 in
theorem c_X3_takeWord {G : GX} {S : St} {i l : Int} {p : P5} (hl : 0 ≤ l ∧ l ≤ 120) (hy : ∀ i, 0 ≤ i → i < 120 → 0 ≤ S 4 i ∧ S 4 i ≤ 255) (hp : wfp (S 4) l p) (hw : p.2.2.2.2 = 0) {q : Nat} (hi : q < 12) : Ev G mX3_takeWord [rf G 19, .ref (adK G q)] (mk G (Yt S i l p)) (some (vi (if wzS (S 4) l p = cJ q then 1 else 0))) (mk G (Yt S i l (bitS (S 4) l (cJ q) p))) := by
  refine Ev.enter (by decide +kernel) (Nat.le_of_ble_eq_true rfl) (L := [some (rf G 19), some (.ref (adK G q))]) rfl ?_
  refine p_oload0 dX3_takeWord_0 ?_
  refine p_aload1 dX3_takeWord_1 ?_
  refine p_cV1r (M2 := mX3_isWord) ml_RX3_39 mc_X3_isWord ⟨Nat.le_of_ble_eq_true rfl, Nat.le_of_ble_eq_true rfl⟩ (isO_t _ _) (Nat.le_of_ble_eq_true rfl) dX3_takeWord_2 (c_X3_isWord hl hy hp hw hi) ?_
  refine p_bif_ne 10 dX3_takeWord_5 (by decide) (fun c5 => ?_) (fun c5 => ?_)
  · unfold bitS
    rw [if_pos c5, if_pos c5]
    refine p_oload0 dX3_takeWord_10 ?_
    refine p_cV0v (M2 := mX3_nextToken) ml_RX3_24 mc_X3_nextToken ⟨Nat.le_of_ble_eq_true rfl, Nat.le_of_ble_eq_true rfl⟩ (isO_t _ _) (Nat.le_of_ble_eq_true rfl) dX3_takeWord_11 (c_next3 hl hy hp hw) ?_
    refine p_iconst dX3_takeWord_14 ?_
    exact p_zret rfl (by first | exact nz0 | exact nz1 | exact nzb _) dX3_takeWord_15 rfl rfl
  · unfold bitS
    rw [if_neg c5, if_neg c5]
    refine p_iconst dX3_takeWord_8 ?_
    exact p_zret rfl (by first | exact nz0 | exact nz1 | exact nzb _) dX3_takeWord_9 rfl rfl
set_option maxRecDepth 100000 in
set_option maxHeartbeats 1000000 in
theorem c_X3_takeNumberAfter {G : GX} {S : St} {i l : Int} {p : P5} (hl : 0 ≤ l ∧ l ≤ 120) (hy : ∀ i, 0 ≤ i → i < 120 → 0 ≤ S 4 i ∧ S 4 i ≤ 255) (hp : wfp (S 4) l p) (hw : p.2.2.2.2 = 0) {q : Nat} (hi : q < 12) {wo : Int} : Ev G mX3_takeNumberAfter [rf G 19, .ref (adK G q), vi wo, vi 99] (mk G (Yt S i l p)) (some (vi (naV (S 4) l (cJ q) wo p))) (mk G (Yt S i l (naS (S 4) l (cJ q) p))) := by
  have hm := wfp_must (v := 1) hp
  have hm0 : (mustS (S 4) l 1 p).2.2.2.2 = 0 := by rw [must_0 hw]
  have hn := nh_num hm
  refine Ev.enter (by decide +kernel) (Nat.le_of_ble_eq_true rfl) (L := [some (rf G 19), some (.ref (adK G q)), some (vi wo), some (vi 99), none]) rfl ?_
  refine p_oload0 dX3_takeNumberAfter_0 ?_
  refine p_aload1 dX3_takeNumberAfter_1 ?_
  refine p_cV1r (M2 := mX3_isWord) ml_RX3_39 mc_X3_isWord ⟨Nat.le_of_ble_eq_true rfl, Nat.le_of_ble_eq_true rfl⟩ (isO_t _ _) (Nat.le_of_ble_eq_true rfl) dX3_takeNumberAfter_2 (c_X3_isWord hl hy hp hw hi) ?_
  refine p_bif_ne 10 dX3_takeNumberAfter_5 (by decide) (fun c5 => ?_) (fun c5 => ?_)
  · unfold naV
    rw [if_pos c5, show naS (S 4) l (cJ q) p = numS (S 4) l 0 99 (mustS (S 4) l 1 p) from if_pos c5]
    refine p_oload0 dX3_takeNumberAfter_10 ?_
    refine p_cV0v (M2 := mX3_nextToken) ml_RX3_24 mc_X3_nextToken ⟨Nat.le_of_ble_eq_true rfl, Nat.le_of_ble_eq_true rfl⟩ (isO_t _ _) (Nat.le_of_ble_eq_true rfl) dX3_takeNumberAfter_11 (c_next3 hl hy hp hw) ?_
    refine p_oload0 dX3_takeNumberAfter_14 ?_
    refine p_cV0r (M2 := mX3_numberHere) ml_RX3_92 mc_X3_numberHere ⟨Nat.le_of_ble_eq_true rfl, Nat.le_of_ble_eq_true rfl⟩ (isO_t _ _) (Nat.le_of_ble_eq_true rfl) dX3_takeNumberAfter_15 (c_numh3 hl hy hm hm0) ?_
    refine p_istore4 rfl (Nat.le_of_ble_eq_true rfl) dX3_takeNumberAfter_18 ?_
    refine p_iload4 dX3_takeNumberAfter_20 ?_
    refine p_iload3 dX3_takeNumberAfter_22 ?_
    refine p_icmp_le ⟨by omega, by omega⟩ ⟨by omega, by omega⟩ 28 dX3_takeNumberAfter_23 (by decide) (fun c23 => ?_) (fun c23 => ?_)
    · rw [hn.2.1 c23]
      refine p_oload0 dX3_takeNumberAfter_28 ?_
      refine p_cV0v (M2 := mX3_nextToken) ml_RX3_24 mc_X3_nextToken ⟨Nat.le_of_ble_eq_true rfl, Nat.le_of_ble_eq_true rfl⟩ (isO_t _ _) (Nat.le_of_ble_eq_true rfl) dX3_takeNumberAfter_29 (c_next3 hl hy hm hm0) ?_
      rw [must_0 hm0]
      refine p_iload4 dX3_takeNumberAfter_32 ?_
      exact p_iret rfl dX3_takeNumberAfter_34 rfl rfl
    · rw [hn.2.2 (by omega)]
      refine p_iconst dX3_takeNumberAfter_26 ?_
      exact p_iret rfl dX3_takeNumberAfter_27 rfl rfl
  · unfold naV naS
    rw [if_neg c5, if_neg c5]
    refine p_iload2 dX3_takeNumberAfter_8 ?_
    exact p_iret rfl dX3_takeNumberAfter_9 rfl rfl
set_option maxRecDepth 100000 in
set_option maxHeartbeats 1000000 in
theorem c_X3_takeSheep {G : GX} {S : St} {i l : Int} {p : P5} (hl : 0 ≤ l ∧ l ≤ 120) (hy : ∀ i, 0 ≤ i → i < 120 → 0 ≤ S 4 i ∧ S 4 i ≤ 255) (hp : wfp (S 4) l p) (hw : p.2.2.2.2 = 0) {b : Int} (hI : IR b p.1) {kd : Int} (hr : p.1 0 < 8) : Ev G mX3_takeSheep [rf G 19, rf G (fo 1), vi kd] (mk G (Yt S i l p)) (some (vi (if (sheepS (S 4) l kd p).2.2.2.2 = 0 then 1 else 0))) (mk G (Yt S i l (fx p.1 (sheepS (S 4) l kd p)))) := by
  have i0 := hI.1
  have hm := wfp_must (v := 1) hp
  have hm0 : (mustS (S 4) l 1 p).2.2.2.2 = 0 := by rw [must_0 hw]
  have hle := na_le (t := S 4) (l := l) (c := 24165011) (wo := 20) (m := mustS (S 4) l 1 p) (by omega)
  have e1 : (naS (S 4) l 24165011 (mustS (S 4) l 1 p)).1 = p.1 := by rw [na_1, must_1]
  have hI2 : IR b (naS (S 4) l 24165011 (mustS (S 4) l 1 p)).1 := by rw [e1]; exact hI
  have hr2 : (naS (S 4) l 24165011 (mustS (S 4) l 1 p)).1 0 < 8 := by rw [e1]; exact hr
  refine Ev.enter (by decide +kernel) (Nat.le_of_ble_eq_true rfl) (L := [some (rf G 19), some (rf G (fo 1)), some (vi kd), none]) rfl ?_
  refine p_oload0 dX3_takeSheep_0 ?_
  refine p_cV0v (M2 := mX3_nextToken) ml_RX3_24 mc_X3_nextToken ⟨Nat.le_of_ble_eq_true rfl, Nat.le_of_ble_eq_true rfl⟩ (isO_t _ _) (Nat.le_of_ble_eq_true rfl) dX3_takeSheep_1 (c_next3 hl hy hp hw) ?_
  refine p_oload0 dX3_takeSheep_4 ?_
  refine p_ldcS 7 (by decide) rfl rfl dX3_takeSheep_5 ?_
  refine p_bipush (by decide) (by decide) dX3_takeSheep_7 ?_
  refine p_bipush (by decide) (by decide) dX3_takeSheep_9 ?_
  refine p_cV3r (M2 := mX3_takeNumberAfter) ml_RX3_70 mc_X3_takeNumberAfter ⟨Nat.le_of_ble_eq_true rfl, Nat.le_of_ble_eq_true rfl⟩ (isO_t _ _) (Nat.le_of_ble_eq_true rfl) dX3_takeSheep_11 (c_X3_takeNumberAfter (q := 7) hl hy hm hm0 (by omega)) ?_
  rw [cJ_6.2.1]
  refine p_istore3 rfl (Nat.le_of_ble_eq_true rfl) dX3_takeSheep_14 ?_
  refine p_iload3 dX3_takeSheep_15 ?_
  refine p_if_ge ⟨by omega, by omega⟩ 21 dX3_takeSheep_16 (by decide) (fun c16 => ?_) (fun c16 => ?_)
  · have hR := sheep_R (t := S 4) (l := l) (kd := kd) hw hr i0.1 c16
    rw [if_pos hR.1, hR.2, ← e1]
    refine p_oload1 dX3_takeSheep_21 ?_
    refine p_iload2 dX3_takeSheep_22 ?_
    refine p_iload3 dX3_takeSheep_23 ?_
    refine p_cV2r (M2 := mX0_addSheep) ml_RX3_74 mc_X0_addSheep ⟨Nat.le_of_ble_eq_true rfl, Nat.le_of_ble_eq_true rfl⟩ (isO_fo _ _ _) (Nat.le_of_ble_eq_true rfl) dX3_takeSheep_24 (c_adds3 hI2 hr2) ?_
    refine p_pop rfl dX3_takeSheep_27 ?_
    refine p_iconst dX3_takeSheep_28 ?_
    exact p_zret rfl (by first | exact nz0 | exact nz1 | exact nzb _) dX3_takeSheep_29 rfl rfl
  · have hR := sheep_W (t := S 4) (l := l) (kd := kd) hw hr (by omega)
    rw [if_neg hR.1, hR.2]
    refine p_iconst dX3_takeSheep_19 ?_
    exact p_zret rfl (by first | exact nz0 | exact nz1 | exact nzb _) dX3_takeSheep_20 rfl rfl
set_option maxRecDepth 100000 in
set_option maxHeartbeats 1000000 in
theorem t_man53 {G : GX} {S : St} {i l : Int} {p : P5} (hl : 0 ≤ l ∧ l ≤ 120) (hy : ∀ i, 0 ≤ i → i < 120 → 0 ≤ S 4 i ∧ S 4 i ≤ 255) (hp : wfp (S 4) l p) (hw : p.2.2.2.2 = 0) {b : Int} (hI : IR b p.1) {g : Int} (hr : p.1 1 < 6) (hg : g = manG (S 4) l p) : Rn G mX3_takeMan 53 [some (rf G 19), some (rf G (fo 1)), some (vi g), none] [] (mk G (Yt S i l (man3 (S 4) l p))) (some (vi (if (manS (S 4) l p).2.2.2.2 = 0 then 1 else 0))) (mk G (Yt S i l (fx p.1 (manS (S 4) l p)))) := by
  have i1 := hI.2.1
  obtain ⟨z0, z1, z2, z3⟩ := man3_0 (t := S 4) (l := l) hw hr
  have hm0 : wfp (S 4) l (man0 (S 4) l p) := wfp_must hp
  have hm1 : wfp (S 4) l (man1 (S 4) l p) := wfp_bit hm0
  have hm2 : wfp (S 4) l (man2 (S 4) l p) := wfp_bit hm1
  have hm3 : wfp (S 4) l (man3 (S 4) l p) := wfp_bit hm2
  have hle := na_le (t := S 4) (l := l) (c := 769614) (wo := 0) (m := man3 (S 4) l p) (by omega)
  have e1 : (naS (S 4) l 769614 (man3 (S 4) l p)).1 = p.1 := by rw [na_1, man3_1]
  have hI2 : IR b (naS (S 4) l 769614 (man3 (S 4) l p)).1 := by rw [e1]; exact hI
  have hr2 : (naS (S 4) l 769614 (man3 (S 4) l p)).1 1 < 6 := by rw [e1]; exact hr
  refine p_oload0 dX3_takeMan_53 ?_
  refine p_ldcS 11 (by decide) rfl rfl dX3_takeMan_54 ?_
  refine p_iconst dX3_takeMan_56 ?_
  refine p_bipush (by decide) (by decide) dX3_takeMan_57 ?_
  refine p_cV3r (M2 := mX3_takeNumberAfter) ml_RX3_70 mc_X3_takeNumberAfter ⟨Nat.le_of_ble_eq_true rfl, Nat.le_of_ble_eq_true rfl⟩ (isO_t _ _) (Nat.le_of_ble_eq_true rfl) dX3_takeMan_59 (c_X3_takeNumberAfter (q := 11) hl hy hm3 z3 (by omega)) ?_
  rw [cJ_6.2.2.2.2.2]
  refine p_istore3 rfl (Nat.le_of_ble_eq_true rfl) dX3_takeMan_62 ?_
  refine p_iload3 dX3_takeMan_63 ?_
  refine p_if_ge ⟨by omega, by omega⟩ 69 dX3_takeMan_64 (by decide) (fun c64 => ?_) (fun c64 => ?_)
  · have hR := man_R (t := S 4) (l := l) hw hr i1.1 c64
    rw [if_pos hR.1, hR.2, ← e1, ← hg]
    refine p_oload1 dX3_takeMan_69 ?_
    refine p_iload2 dX3_takeMan_70 ?_
    refine p_iload3 dX3_takeMan_71 ?_
    refine p_cV2r (M2 := mX0_addMan) ml_RX3_89 mc_X0_addMan ⟨Nat.le_of_ble_eq_true rfl, Nat.le_of_ble_eq_true rfl⟩ (isO_fo _ _ _) (Nat.le_of_ble_eq_true rfl) dX3_takeMan_72 (c_addm3 hI2 hr2) ?_
    refine p_pop rfl dX3_takeMan_75 ?_
    refine p_iconst dX3_takeMan_76 ?_
    exact p_zret rfl (by first | exact nz0 | exact nz1 | exact nzb _) dX3_takeMan_77 rfl rfl
  · have hR := man_W (t := S 4) (l := l) hw hr (by omega)
    rw [if_neg hR.1, hR.2]
    refine p_iconst dX3_takeMan_67 ?_
    exact p_zret rfl (by first | exact nz0 | exact nz1 | exact nzb _) dX3_takeMan_68 rfl rfl
set_option maxRecDepth 100000 in
set_option maxHeartbeats 1000000 in
theorem c_X3_takeMan {G : GX} {S : St} {i l : Int} {p : P5} (hl : 0 ≤ l ∧ l ≤ 120) (hy : ∀ i, 0 ≤ i → i < 120 → 0 ≤ S 4 i ∧ S 4 i ≤ 255) (hp : wfp (S 4) l p) (hw : p.2.2.2.2 = 0) {b : Int} (hI : IR b p.1) (hr : p.1 1 < 6) : Ev G mX3_takeMan [rf G 19, rf G (fo 1)] (mk G (Yt S i l p)) (some (vi (if (manS (S 4) l p).2.2.2.2 = 0 then 1 else 0))) (mk G (Yt S i l (fx p.1 (manS (S 4) l p)))) := by
  have i1 := hI.2.1
  obtain ⟨z0, z1, z2, z3⟩ := man3_0 (t := S 4) (l := l) hw hr
  have hm0 : wfp (S 4) l (man0 (S 4) l p) := wfp_must hp
  have hm1 : wfp (S 4) l (man1 (S 4) l p) := wfp_bit hm0
  have hm2 : wfp (S 4) l (man2 (S 4) l p) := wfp_bit hm1
  have hm3 : wfp (S 4) l (man3 (S 4) l p) := wfp_bit hm2
  refine Ev.enter (by decide +kernel) (Nat.le_of_ble_eq_true rfl) (L := [some (rf G 19), some (rf G (fo 1)), none, none]) rfl ?_
  refine p_oload0 dX3_takeMan_0 ?_
  refine p_cV0v (M2 := mX3_nextToken) ml_RX3_24 mc_X3_nextToken ⟨Nat.le_of_ble_eq_true rfl, Nat.le_of_ble_eq_true rfl⟩ (isO_t _ _) (Nat.le_of_ble_eq_true rfl) dX3_takeMan_1 (c_next3 hl hy hp hw) ?_
  rw [← man_0 hr]
  refine p_oload0 dX3_takeMan_4 ?_
  refine p_ldcS 8 (by decide) rfl rfl dX3_takeMan_5 ?_
  refine p_cV1r (M2 := mX3_takeWord) ml_RX3_80 mc_X3_takeWord ⟨Nat.le_of_ble_eq_true rfl, Nat.le_of_ble_eq_true rfl⟩ (isO_t _ _) (Nat.le_of_ble_eq_true rfl) dX3_takeMan_7 (c_X3_takeWord (q := 8) hl hy hm0 z0 (by omega)) ?_
  rw [cJ_6.2.2.1, show bitS (S 4) l 4583 (man0 (S 4) l p) = man1 (S 4) l p from rfl]
  refine p_bif_eq 17 dX3_takeMan_10 (by decide) (fun c10 => ?_) (fun c10 => ?_)
  · refine p_iconst dX3_takeMan_17 ?_
    refine p_istore2 rfl (Nat.le_of_ble_eq_true rfl) dX3_takeMan_18 ?_
    refine p_iload2 dX3_takeMan_19 ?_
    refine p_oload0 dX3_takeMan_20 ?_
    refine p_ldcS 9 (by decide) rfl rfl dX3_takeMan_21 ?_
    refine p_cV1r (M2 := mX3_takeWord) ml_RX3_80 mc_X3_takeWord ⟨Nat.le_of_ble_eq_true rfl, Nat.le_of_ble_eq_true rfl⟩ (isO_t _ _) (Nat.le_of_ble_eq_true rfl) dX3_takeMan_23 (c_X3_takeWord (q := 9) hl hy hm1 z1 (by omega)) ?_
    rw [cJ_6.2.2.2.1, show bitS (S 4) l 20587627 (man1 (S 4) l p) = man2 (S 4) l p from rfl]
    refine p_bif_eq 33 dX3_takeMan_26 (by decide) (fun c26 => ?_) (fun c26 => ?_)
    · refine p_iconst dX3_takeMan_33 ?_
      refine p_ior dX3_takeMan_34 ?_
      refine p_istore2 rfl (Nat.le_of_ble_eq_true rfl) dX3_takeMan_35 ?_
      refine p_iload2 dX3_takeMan_36 ?_
      refine p_oload0 dX3_takeMan_37 ?_
      refine p_ldcS 10 (by decide) rfl rfl dX3_takeMan_38 ?_
      refine p_cV1r (M2 := mX3_takeWord) ml_RX3_80 mc_X3_takeWord ⟨Nat.le_of_ble_eq_true rfl, Nat.le_of_ble_eq_true rfl⟩ (isO_t _ _) (Nat.le_of_ble_eq_true rfl) dX3_takeMan_40 (c_X3_takeWord (q := 10) hl hy hm2 z2 (by omega)) ?_
      rw [cJ_6.2.2.2.2.1, show bitS (S 4) l 402864 (man2 (S 4) l p) = man3 (S 4) l p from rfl]
      refine p_bif_eq 50 dX3_takeMan_43 (by decide) (fun c43 => ?_) (fun c43 => ?_)
      · refine p_iconst dX3_takeMan_50 ?_
        refine p_ior dX3_takeMan_51 ?_
        refine p_istore2 rfl (Nat.le_of_ble_eq_true rfl) dX3_takeMan_52 ?_
        exact t_man53 hl hy hp hw hI hr (by unfold manG bitV; rw [if_neg c10, if_neg c26, if_neg c43])
      · refine p_iconst dX3_takeMan_46 ?_
        refine p_goto 51 dX3_takeMan_47 (by decide) ?_
        refine p_ior dX3_takeMan_51 ?_
        refine p_istore2 rfl (Nat.le_of_ble_eq_true rfl) dX3_takeMan_52 ?_
        exact t_man53 hl hy hp hw hI hr (by unfold manG bitV; rw [if_neg c10, if_neg c26, if_pos c43])
    · refine p_iconst dX3_takeMan_29 ?_
      refine p_goto 34 dX3_takeMan_30 (by decide) ?_
      refine p_ior dX3_takeMan_34 ?_
      refine p_istore2 rfl (Nat.le_of_ble_eq_true rfl) dX3_takeMan_35 ?_
      refine p_iload2 dX3_takeMan_36 ?_
      refine p_oload0 dX3_takeMan_37 ?_
      refine p_ldcS 10 (by decide) rfl rfl dX3_takeMan_38 ?_
      refine p_cV1r (M2 := mX3_takeWord) ml_RX3_80 mc_X3_takeWord ⟨Nat.le_of_ble_eq_true rfl, Nat.le_of_ble_eq_true rfl⟩ (isO_t _ _) (Nat.le_of_ble_eq_true rfl) dX3_takeMan_40 (c_X3_takeWord (q := 10) hl hy hm2 z2 (by omega)) ?_
      rw [cJ_6.2.2.2.2.1, show bitS (S 4) l 402864 (man2 (S 4) l p) = man3 (S 4) l p from rfl]
      refine p_bif_eq 50 dX3_takeMan_43 (by decide) (fun c43 => ?_) (fun c43 => ?_)
      · refine p_iconst dX3_takeMan_50 ?_
        refine p_ior dX3_takeMan_51 ?_
        refine p_istore2 rfl (Nat.le_of_ble_eq_true rfl) dX3_takeMan_52 ?_
        exact t_man53 hl hy hp hw hI hr (by unfold manG bitV; rw [if_neg c10, if_pos c26, if_neg c43])
      · refine p_iconst dX3_takeMan_46 ?_
        refine p_goto 51 dX3_takeMan_47 (by decide) ?_
        refine p_ior dX3_takeMan_51 ?_
        refine p_istore2 rfl (Nat.le_of_ble_eq_true rfl) dX3_takeMan_52 ?_
        exact t_man53 hl hy hp hw hI hr (by unfold manG bitV; rw [if_neg c10, if_pos c26, if_pos c43])
  · refine p_iconst dX3_takeMan_13 ?_
    refine p_goto 18 dX3_takeMan_14 (by decide) ?_
    refine p_istore2 rfl (Nat.le_of_ble_eq_true rfl) dX3_takeMan_18 ?_
    refine p_iload2 dX3_takeMan_19 ?_
    refine p_oload0 dX3_takeMan_20 ?_
    refine p_ldcS 9 (by decide) rfl rfl dX3_takeMan_21 ?_
    refine p_cV1r (M2 := mX3_takeWord) ml_RX3_80 mc_X3_takeWord ⟨Nat.le_of_ble_eq_true rfl, Nat.le_of_ble_eq_true rfl⟩ (isO_t _ _) (Nat.le_of_ble_eq_true rfl) dX3_takeMan_23 (c_X3_takeWord (q := 9) hl hy hm1 z1 (by omega)) ?_
    rw [cJ_6.2.2.2.1, show bitS (S 4) l 20587627 (man1 (S 4) l p) = man2 (S 4) l p from rfl]
    refine p_bif_eq 33 dX3_takeMan_26 (by decide) (fun c26 => ?_) (fun c26 => ?_)
    · refine p_iconst dX3_takeMan_33 ?_
      refine p_ior dX3_takeMan_34 ?_
      refine p_istore2 rfl (Nat.le_of_ble_eq_true rfl) dX3_takeMan_35 ?_
      refine p_iload2 dX3_takeMan_36 ?_
      refine p_oload0 dX3_takeMan_37 ?_
      refine p_ldcS 10 (by decide) rfl rfl dX3_takeMan_38 ?_
      refine p_cV1r (M2 := mX3_takeWord) ml_RX3_80 mc_X3_takeWord ⟨Nat.le_of_ble_eq_true rfl, Nat.le_of_ble_eq_true rfl⟩ (isO_t _ _) (Nat.le_of_ble_eq_true rfl) dX3_takeMan_40 (c_X3_takeWord (q := 10) hl hy hm2 z2 (by omega)) ?_
      rw [cJ_6.2.2.2.2.1, show bitS (S 4) l 402864 (man2 (S 4) l p) = man3 (S 4) l p from rfl]
      refine p_bif_eq 50 dX3_takeMan_43 (by decide) (fun c43 => ?_) (fun c43 => ?_)
      · refine p_iconst dX3_takeMan_50 ?_
        refine p_ior dX3_takeMan_51 ?_
        refine p_istore2 rfl (Nat.le_of_ble_eq_true rfl) dX3_takeMan_52 ?_
        exact t_man53 hl hy hp hw hI hr (by unfold manG bitV; rw [if_pos c10, if_neg c26, if_neg c43])
      · refine p_iconst dX3_takeMan_46 ?_
        refine p_goto 51 dX3_takeMan_47 (by decide) ?_
        refine p_ior dX3_takeMan_51 ?_
        refine p_istore2 rfl (Nat.le_of_ble_eq_true rfl) dX3_takeMan_52 ?_
        exact t_man53 hl hy hp hw hI hr (by unfold manG bitV; rw [if_pos c10, if_neg c26, if_pos c43])
    · refine p_iconst dX3_takeMan_29 ?_
      refine p_goto 34 dX3_takeMan_30 (by decide) ?_
      refine p_ior dX3_takeMan_34 ?_
      refine p_istore2 rfl (Nat.le_of_ble_eq_true rfl) dX3_takeMan_35 ?_
      refine p_iload2 dX3_takeMan_36 ?_
      refine p_oload0 dX3_takeMan_37 ?_
      refine p_ldcS 10 (by decide) rfl rfl dX3_takeMan_38 ?_
      refine p_cV1r (M2 := mX3_takeWord) ml_RX3_80 mc_X3_takeWord ⟨Nat.le_of_ble_eq_true rfl, Nat.le_of_ble_eq_true rfl⟩ (isO_t _ _) (Nat.le_of_ble_eq_true rfl) dX3_takeMan_40 (c_X3_takeWord (q := 10) hl hy hm2 z2 (by omega)) ?_
      rw [cJ_6.2.2.2.2.1, show bitS (S 4) l 402864 (man2 (S 4) l p) = man3 (S 4) l p from rfl]
      refine p_bif_eq 50 dX3_takeMan_43 (by decide) (fun c43 => ?_) (fun c43 => ?_)
      · refine p_iconst dX3_takeMan_50 ?_
        refine p_ior dX3_takeMan_51 ?_
        refine p_istore2 rfl (Nat.le_of_ble_eq_true rfl) dX3_takeMan_52 ?_
        exact t_man53 hl hy hp hw hI hr (by unfold manG bitV; rw [if_pos c10, if_pos c26, if_neg c43])
      · refine p_iconst dX3_takeMan_46 ?_
        refine p_goto 51 dX3_takeMan_47 (by decide) ?_
        refine p_ior dX3_takeMan_51 ?_
        refine p_istore2 rfl (Nat.le_of_ble_eq_true rfl) dX3_takeMan_52 ?_
        exact t_man53 hl hy hp hw hI hr (by unfold manG bitV; rw [if_pos c10, if_pos c26, if_pos c43])
set_option maxRecDepth 100000 in
set_option maxHeartbeats 1000000 in
theorem l_kindNamed {G : GX} {S : St} {i l : Int} {p : P5} (hl : 0 ≤ l ∧ l ≤ 120) (hy : ∀ i, 0 ≤ i → i < 120 → 0 ≤ S 4 i ∧ S 4 i ≤ 255) (hp : wfp (S 4) l p) (hw : p.2.2.2.2 = 0) : ∀ (n : Nat) (k : Int), 0 ≤ k → k ≤ 6 → (∀ m : Nat, (m : Int) < k → wzS (S 4) l p ≠ cJ m) → 6 - k < (n : Int) → Rn G mX3_kindNamed 2 [some (rf G 19), some (vi k)] [] (mk G (Yt S i l p)) (some (vi (kn (wzS (S 4) l p)))) (mk G (Yt S i l p)) := by
  intro n
  induction n with
  | zero =>
    intro k h0 h1 hk h2
    exfalso
    omega
  | succ n ih =>
    intro k h0 h1 hk h2
    push_cast at h2
    refine p_iload1 dX3_kindNamed_2 ?_
    refine p_bipush (by decide) (by decide) dX3_kindNamed_3 ?_
    refine p_icmp_ge ⟨by omega, by omega⟩ ⟨by omega, by omega⟩ 27 dX3_kindNamed_5 (by decide) (fun c5 => ?_) (fun c5 => ?_)
    · rw [kn_no (fun m hm => hk m (by omega))]
      refine p_iconst dX3_kindNamed_27 ?_
      exact p_iret rfl dX3_kindNamed_28 rfl rfl
    · refine p_oload0 dX3_kindNamed_8 ?_
      refine p_iload1 dX3_kindNamed_9 ?_
      refine p_cS1r (M2 := mX1_nameOf) ms_RX3_95 mc_X1_nameOf ⟨Nat.le_of_ble_eq_true rfl, Nat.le_of_ble_eq_true rfl⟩ (Nat.le_of_ble_eq_true rfl) dX3_kindNamed_10 (c_X1_nameOf (by omega)) ?_
      refine p_cV1r (M2 := mX3_isWord) ml_RX3_39 mc_X3_isWord ⟨Nat.le_of_ble_eq_true rfl, Nat.le_of_ble_eq_true rfl⟩ (isO_t _ _) (Nat.le_of_ble_eq_true rfl) dX3_kindNamed_13 (c_X3_isWord (q := k.toNat) hl hy hp hw (by omega)) ?_
      refine p_bif_eq 21 dX3_kindNamed_16 (by decide) (fun c16 => ?_) (fun c16 => ?_)
      · refine p_iinc1 rfl (Nat.le_of_ble_eq_true rfl) dX3_kindNamed_21 ?_
        refine p_goto 2 dX3_kindNamed_24 (by decide) ?_
        refine ih (k + 1) (by omega) (by omega) (fun m hm => ?_) (by omega)
        by_cases e : (m : Int) = k
        · rw [show m = k.toNat by omega]; exact c16
        · exact hk m (by omega)
      · rw [c16, kn_J k.toNat (by omega), show ((k.toNat : Nat) : Int) = k by omega]
        refine p_iload1 dX3_kindNamed_19 ?_
        exact p_iret rfl dX3_kindNamed_20 rfl rfl
set_option maxRecDepth 100000 in
set_option maxHeartbeats 1000000 in
theorem c_X3_kindNamed {G : GX} {S : St} {i l : Int} {p : P5} (hl : 0 ≤ l ∧ l ≤ 120) (hy : ∀ i, 0 ≤ i → i < 120 → 0 ≤ S 4 i ∧ S 4 i ≤ 255) (hp : wfp (S 4) l p) (hw : p.2.2.2.2 = 0) : Ev G mX3_kindNamed [rf G 19] (mk G (Yt S i l p)) (some (vi (kn (wzS (S 4) l p)))) (mk G (Yt S i l p)) := by
  refine Ev.enter (by decide +kernel) (Nat.le_of_ble_eq_true rfl) (L := [some (rf G 19), none]) rfl ?_
  refine p_iconst dX3_kindNamed_0 ?_
  refine p_istore1 rfl (Nat.le_of_ble_eq_true rfl) dX3_kindNamed_1 ?_
  exact l_kindNamed hl hy hp hw 7 0 (by omega) (by omega) (fun m hm => by omega) (by omega)
set_option maxRecDepth 100000 in
set_option maxHeartbeats 1000000 in
theorem c_X3_takeItem {G : GX} {S : St} {i l : Int} {p : P5} (hl : 0 ≤ l ∧ l ≤ 120) (hy : ∀ i, 0 ≤ i → i < 120 → 0 ≤ S 4 i ∧ S 4 i ≤ 255) (hp : wfp (S 4) l p) (hw : p.2.2.2.2 = 0) {b : Int} (hI : IR b p.1) : Ev G mX3_takeItem [rf G 19, rf G (fo 1)] (mk G (Yt S i l p)) (some (vi (if (itemS (S 4) l p).2.2.2.2 = 0 then 1 else 0))) (mk G (Yt S i l (fx p.1 (itemS (S 4) l p)))) := by
  have hkn := kn_le (wzS (S 4) l p)
  refine Ev.enter (by decide +kernel) (Nat.le_of_ble_eq_true rfl) (L := [some (rf G 19), some (rf G (fo 1)), none]) rfl ?_
  refine p_oload0 dX3_takeItem_0 ?_
  refine p_ldcS 6 (by decide) rfl rfl dX3_takeItem_1 ?_
  refine p_cV1r (M2 := mX3_isWord) ml_RX3_39 mc_X3_isWord ⟨Nat.le_of_ble_eq_true rfl, Nat.le_of_ble_eq_true rfl⟩ (isO_t _ _) (Nat.le_of_ble_eq_true rfl) dX3_takeItem_3 (c_X3_isWord (q := 6) hl hy hp hw (by omega)) ?_
  rw [cJ_6.1]
  refine p_bif_eq 30 dX3_takeItem_6 (by decide) (fun c6 => ?_) (fun c6 => ?_)
  · refine p_oload0 dX3_takeItem_30 ?_
    refine p_cV0r (M2 := mX3_kindNamed) ml_RX3_52 mc_X3_kindNamed ⟨Nat.le_of_ble_eq_true rfl, Nat.le_of_ble_eq_true rfl⟩ (isO_t _ _) (Nat.le_of_ble_eq_true rfl) dX3_takeItem_31 (c_X3_kindNamed hl hy hp hw) ?_
    refine p_istore2 rfl (Nat.le_of_ble_eq_true rfl) dX3_takeItem_34 ?_
    refine p_iload2 dX3_takeItem_35 ?_
    refine p_cS1r (M2 := mX1_isKind) ms_RX3_56 mc_X1_isKind ⟨Nat.le_of_ble_eq_true rfl, Nat.le_of_ble_eq_true rfl⟩ (Nat.le_of_ble_eq_true rfl) dX3_takeItem_36 (c_X1_isKind ⟨by omega, by omega⟩) ?_
    refine p_bif_eq 62 dX3_takeItem_39 (by decide) (fun c39 => ?_) (fun c39 => ?_)
    · have e0 : itemS (S 4) l p = (p.1, p.2.1, p.2.2.1, p.2.2.2.1, 1) := by unfold itemS; rw [if_neg (by omega), if_neg c6, must_n]
      rw [e0, if_neg (by show ¬ (1 : Int) = 0; omega)]
      refine p_iconst dX3_takeItem_62 ?_
      exact p_zret rfl (by first | exact nz0 | exact nz1 | exact nzb _) dX3_takeItem_63 rfl rfl
    · have e0 : itemS (S 4) l p = sheepS (S 4) l (kn (wzS (S 4) l p)) p := if_pos (by omega)
      rw [e0]
      refine p_oload1 dX3_takeItem_42 ?_
      refine p_cV0r (M2 := mX0_hasRoomForSheep) ml_RX3_61 mc_X0_hasRoomForSheep ⟨Nat.le_of_ble_eq_true rfl, Nat.le_of_ble_eq_true rfl⟩ (isO_fo _ _ _) (Nat.le_of_ble_eq_true rfl) dX3_takeItem_43 (c_hrs3 hI) ?_
      refine p_bif_eq 62 dX3_takeItem_46 (by decide) (fun c46 => ?_) (fun c46 => ?_)
      · rw [sheep_full c46, if_neg (by show ¬ (1 : Int) = 0; omega)]
        refine p_iconst dX3_takeItem_62 ?_
        exact p_zret rfl (by first | exact nz0 | exact nz1 | exact nzb _) dX3_takeItem_63 rfl rfl
      · refine p_oload0 dX3_takeItem_49 ?_
        refine p_oload1 dX3_takeItem_50 ?_
        refine p_iload2 dX3_takeItem_51 ?_
        refine p_cV2r (M2 := mX3_takeSheep) ml_RX3_64 mc_X3_takeSheep ⟨Nat.le_of_ble_eq_true rfl, Nat.le_of_ble_eq_true rfl⟩ (isO_t _ _) (Nat.le_of_ble_eq_true rfl) dX3_takeItem_52 (c_X3_takeSheep hl hy hp hw hI c46) ?_
        refine p_bif_eq 62 dX3_takeItem_55 (by decide) (fun c55 => ?_) (fun c55 => ?_)
        · rw [if_neg c55]
          refine p_iconst dX3_takeItem_62 ?_
          exact p_zret rfl (by first | exact nz0 | exact nz1 | exact nzb _) dX3_takeItem_63 rfl rfl
        · rw [if_pos c55]
          refine p_iconst dX3_takeItem_58 ?_
          refine p_goto 63 dX3_takeItem_59 (by decide) ?_
          exact p_zret rfl (by first | exact nz0 | exact nz1 | exact nzb _) dX3_takeItem_63 rfl rfl
  · have e0 : itemS (S 4) l p = manS (S 4) l p := by unfold itemS; rw [c6, if_neg (by decide), if_pos rfl]
    rw [e0]
    refine p_oload1 dX3_takeItem_9 ?_
    refine p_cV0r (M2 := mX0_hasRoomForMan) ml_RX3_43 mc_X0_hasRoomForMan ⟨Nat.le_of_ble_eq_true rfl, Nat.le_of_ble_eq_true rfl⟩ (isO_fo _ _ _) (Nat.le_of_ble_eq_true rfl) dX3_takeItem_10 (c_hrm3 hI) ?_
    refine p_bif_eq 28 dX3_takeItem_13 (by decide) (fun c13 => ?_) (fun c13 => ?_)
    · rw [man_full c13, if_neg (by show ¬ (1 : Int) = 0; omega)]
      refine p_iconst dX3_takeItem_28 ?_
      exact p_zret rfl (by first | exact nz0 | exact nz1 | exact nzb _) dX3_takeItem_29 rfl rfl
    · refine p_oload0 dX3_takeItem_16 ?_
      refine p_oload1 dX3_takeItem_17 ?_
      refine p_cV1r (M2 := mX3_takeMan) ml_RX3_49 mc_X3_takeMan ⟨Nat.le_of_ble_eq_true rfl, Nat.le_of_ble_eq_true rfl⟩ (isO_t _ _) (Nat.le_of_ble_eq_true rfl) dX3_takeItem_18 (c_X3_takeMan hl hy hp hw hI c13) ?_
      refine p_bif_eq 28 dX3_takeItem_21 (by decide) (fun c21 => ?_) (fun c21 => ?_)
      · rw [if_neg c21]
        refine p_iconst dX3_takeItem_28 ?_
        exact p_zret rfl (by first | exact nz0 | exact nz1 | exact nzb _) dX3_takeItem_29 rfl rfl
      · rw [if_pos c21]
        refine p_iconst dX3_takeItem_24 ?_
        refine p_goto 29 dX3_takeItem_25 (by decide) ?_
        exact p_zret rfl (by first | exact nz0 | exact nz1 | exact nzb _) dX3_takeItem_29 rfl rfl
