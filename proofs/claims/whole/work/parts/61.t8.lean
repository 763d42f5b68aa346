theorem felL_up {t : Row} {l : Int} : ∀ (n : Nat) (i : Int) (p : P5), (felL t l n i p).1 ≤ i + n := by
  intro n
  induction n with
  | zero => intro i p; show i ≤ _; omega
  | succ n ih =>
    intro i p
    rw [felL]
    split
    · have := ih (i + 1) (itemS t l (mustS t l 1 p)); omega
    · show i ≤ _; omega
theorem mk_tp {G : GX} {S : St} : mk G S = mk G (va_up S 3 (tp (S 3 0) (S 3 1) (S 3 2) (S 3 3) (S 3 4))) := mk_congr rfl
theorem mk_mp {G : GX} {S : St} : mk G S = mk G (va_up S 14 (mp (S 14 0) (S 14 1) (S 14 2) (S 14 3) (S 14 4) (S 14 5) (S 14 6) (S 14 7))) := mk_congr rfl
set_option maxRecDepth 100000 in
set_option maxHeartbeats 1000000 in
theorem l_tell {G : GX} {S : St} {i l b : Int} (hl : 0 ≤ l ∧ l ≤ 120) (hy : ∀ i, 0 ≤ i → i < 120 → 0 ≤ S 4 i ∧ S 4 i ≤ 255) : ∀ (n : Nat) (c : Int) (p : P5), wfp (S 4) l p → p.2.2.2.2 = 0 → IR b p.1 → 1 ≤ c ∧ c ≤ 1 + (p.1 0 + p.1 1) → 14 - (p.1 0 + p.1 1) < (n : Int) → Rn G mX3_tellInto 11 [some (rf G 19), some (rf G (fo 1)), some (vi c)] [] (mk G (Yt S i l p)) (some (vi (felV l (felL (S 4) l (n - 1) c (itemS (S 4) l p))))) (mk G (Yt S i l (tlP (S 4) l n p))) := by
  intro n
  induction n with
  | zero =>
    intro c p hp hw hI hc hm
    exfalso
    have i0 := hI.1; have i1 := hI.2.1; omega
  | succ n ih =>
    intro c p hp hw hI hc hm
    push_cast at hm
    have i0 := hI.1; have i1 := hI.2.1
    have hit := item_IR (t := S 4) (l := l) hI
    have hwi := wfp_item hp
    have hb := hwi.1.1
    have hsa := sa_le (S 4) l (itemS (S 4) l p).2.1
    have hA := bAt_sa l (S 4) (k := (itemS (S 4) l p).2.1) hb.1
    rw [show n + 1 - 1 = n from rfl]
    refine p_iload2 dX3_tellInto_11 ?_
    refine p_bipush (by decide) (by decide) dX3_tellInto_12 ?_
    refine p_icmp_gt ⟨by omega, by omega⟩ ⟨by omega, by omega⟩ 67 dX3_tellInto_14 (by decide) (fun c14 => absurd c14 (by omega)) (fun c14 => ?_)
    refine p_oload0 dX3_tellInto_17 ?_
    refine p_oload1 dX3_tellInto_18 ?_
    refine p_cV1r (M2 := mX3_takeItem) ml_RX3_27 mc_X3_takeItem ⟨Nat.le_of_ble_eq_true rfl, Nat.le_of_ble_eq_true rfl⟩ (isO_t _ _) (Nat.le_of_ble_eq_true rfl) dX3_tellInto_19 (c_X3_takeItem hl hy hp hw hI) ?_
    refine p_bif_ne 32 dX3_tellInto_22 (by decide) (fun c22 => ?_) (fun c22 => ?_)
    · rw [show fx p.1 (itemS (S 4) l p) = (itemS (S 4) l p) from if_pos c22]
      refine p_oload0 dX3_tellInto_32 ?_
      refine p_get fl_RX3_34 x_sort dX3_tellInto_33 ?_
      refine p_iconst dX3_tellInto_36 ?_
      refine p_icmp_ne ⟨by omega, by omega⟩ ⟨by omega, by omega⟩ 42 dX3_tellInto_37 (by decide) (fun c37 => ?_) (fun c37 => ?_)
      · refine p_oload0 dX3_tellInto_42 ?_
        refine p_get fl_RX3_34 x_sort dX3_tellInto_43 ?_
        refine p_iconst dX3_tellInto_46 ?_
        refine p_icmp_eq ⟨by omega, by omega⟩ ⟨by omega, by omega⟩ 57 dX3_tellInto_47 (by decide) (fun c47 => ?_) (fun c47 => ?_)
        · have hs := hit.2 c22
          have i0 := hit.1.1; have i1 := hit.1.2.1
          obtain ⟨k, rfl⟩ : ∃ k, n = k + 1 := ⟨n - 1, by omega⟩
          rw [show tlP (S 4) l (k + 1 + 1) p = tlP (S 4) l (k + 1) (mustS (S 4) l 1 (itemS (S 4) l p)) from if_pos ⟨c22, c47⟩, show felL (S 4) l (k + 1) c (itemS (S 4) l p) = felL (S 4) l k (c + 1) (itemS (S 4) l (mustS (S 4) l 1 (itemS (S 4) l p))) from if_pos ⟨c22, c47⟩]
          refine p_oload0 dX3_tellInto_57 ?_
          refine p_cV0v (M2 := mX3_nextToken) ml_RX3_24 mc_X3_nextToken ⟨Nat.le_of_ble_eq_true rfl, Nat.le_of_ble_eq_true rfl⟩ (isO_t _ _) (Nat.le_of_ble_eq_true rfl) dX3_tellInto_58 (c_next3 hl hy hwi c22) ?_
          refine p_iinc2 rfl (Nat.le_of_ble_eq_true rfl) dX3_tellInto_61 ?_
          refine p_goto 11 dX3_tellInto_64 (by decide) ?_
          have e1 := must_1 (S 4) l 1 (itemS (S 4) l p)
          exact ih (c + 1) (mustS (S 4) l 1 (itemS (S 4) l p)) (wfp_must hwi) (by rw [must_0 c22]) (by rw [e1]; exact hit.1) (by rw [e1]; omega) (by rw [e1]; omega)
        · rw [show tlP (S 4) l (n + 1) p = (itemS (S 4) l p) from (if_neg (fun z => by omega)).trans (if_pos c22), fel_stop (fun z => by omega), show felV l (c, (itemS (S 4) l p)) = -1 - (itemS (S 4) l p).2.1 from if_pos (Or.inr (by have h9 := hA.2.2.2; show (itemS (S 4) l p).2.1 < l; omega))]
          refine p_iconst dX3_tellInto_50 ?_
          refine p_oload0 dX3_tellInto_51 ?_
          refine p_get fl_RX3_31 x_start dX3_tellInto_52 ?_
          refine p_isub dX3_tellInto_55 ?_
          exact p_iret rfl dX3_tellInto_56 rfl rfl
      · rw [show tlP (S 4) l (n + 1) p = (itemS (S 4) l p) from (if_neg (fun z => by omega)).trans (if_pos c22), fel_stop (fun z => by omega), show felV l (c, (itemS (S 4) l p)) = c from if_neg (fun z => by rcases z with y | y; exact y c22; exact absurd (hA.2.2.2.mp (by omega)) (Int.not_le.mpr y))]
        refine p_iload2 dX3_tellInto_40 ?_
        exact p_iret rfl dX3_tellInto_41 rfl rfl
    · rw [show tlP (S 4) l (n + 1) p = fx p.1 (itemS (S 4) l p) from if_neg (fun z => c22 z.1), show fx p.1 (itemS (S 4) l p) = (p.1, (itemS (S 4) l p).2) from if_neg c22, fel_stop (fun z => c22 z.1), show felV l (c, (itemS (S 4) l p)) = -1 - (itemS (S 4) l p).2.1 from if_pos (Or.inl c22)]
      refine p_iconst dX3_tellInto_25 ?_
      refine p_oload0 dX3_tellInto_26 ?_
      refine p_get fl_RX3_31 x_start dX3_tellInto_27 ?_
      refine p_isub dX3_tellInto_30 ?_
      exact p_iret rfl dX3_tellInto_31 rfl rfl
theorem x3_pb {G : GX} {S : St} {r : Row} {i l so st be v : Int} : put (mk G (va_up (va_up S 1 r) 3 (tp i l so st be))) 19 2 4 (vi v) (mk G (va_up (va_up S 1 r) 3 (tp i l so st v))) := w3_behind (S := va_up S 1 r)
theorem c_next0 {G : GX} {S : St} {i l so st v : Int} {r : Row} (hl : 0 ≤ l ∧ l ≤ 120) (hy : ∀ i, 0 ≤ i → i < 120 → 0 ≤ S 4 i ∧ S 4 i ≤ 255) : Ev G mX3_nextToken [rf G 19] (mk G (va_up (va_up S 1 r) 3 (tp i l so st 0))) none (mk G (Yt S i l (r, tkA (S 4) l 0, tkB (S 4) l (tkA (S 4) l 0), v, 0))) := c_X3_nextToken (G := G) (S := va_up S 1 r) (be := 0) hl hy ⟨Int.le_refl 0, hl.1⟩
set_option maxRecDepth 100000 in
set_option maxHeartbeats 1000000 in
theorem c_X3_tellInto {G : GX} {S : St} {i l so st be v b : Int} {r : Row} (hl : 0 ≤ l ∧ l ≤ 120) (hy : ∀ i, 0 ≤ i → i < 120 → 0 ≤ S 4 i ∧ S 4 i ≤ 255) (hI : IR b r) : Ev G mX3_tellInto [rf G 19, rf G (fo 1)] (mk G (va_up (va_up S 1 r) 3 (tp i l so st be))) (some (vi (felV l (felL (S 4) l 120 1 (itemS (S 4) l (r, tkA (S 4) l 0, tkB (S 4) l (tkA (S 4) l 0), v, 0)))))) (mk G (Yt S i l (tlP (S 4) l 121 (r, tkA (S 4) l 0, tkB (S 4) l (tkA (S 4) l 0), v, 0)))) := by
  have i0 := hI.1; have i1 := hI.2.1
  refine Ev.enter (by decide +kernel) (Nat.le_of_ble_eq_true rfl) (L := [some (rf G 19), some (rf G (fo 1)), none]) rfl ?_
  refine p_oload0 dX3_tellInto_0 ?_
  refine p_iconst dX3_tellInto_1 ?_
  refine p_put fw_RX3_21 rfl rfl x3_pb dX3_tellInto_2 ?_
  refine p_oload0 dX3_tellInto_5 ?_
  refine p_cV0v (M2 := mX3_nextToken) ml_RX3_24 mc_X3_nextToken ⟨Nat.le_of_ble_eq_true rfl, Nat.le_of_ble_eq_true rfl⟩ (isO_t _ _) (Nat.le_of_ble_eq_true rfl) dX3_tellInto_6 (c_next0 (v := v) hl hy) ?_
  refine p_iconst dX3_tellInto_9 ?_
  refine p_istore2 rfl (Nat.le_of_ble_eq_true rfl) dX3_tellInto_10 ?_
  exact l_tell hl hy 121 1 (r, tkA (S 4) l 0, tkB (S 4) l (tkA (S 4) l 0), v, 0) ⟨wf_adv (by omega) hl.1, Or.inl rfl⟩ rfl hI (by show (1 : Int) ≤ 1 ∧ 1 ≤ 1 + (r 0 + r 1); omega) (by show 14 - (r 0 + r 1) < ((121 : Nat) : Int); omega)
theorem c_tell4 {G : GX} {S : St} {v b : Int} (hl : 0 ≤ S 3 1 ∧ S 3 1 ≤ 120) (hy : ∀ i, 0 ≤ i → i < 120 → 0 ≤ S 4 i ∧ S 4 i ≤ 255) (hI : IR b (S 0)) : Ev G mX3_tellInto [rf G 19, rf G (fo 1)] (mk G (va_up S 1 (S 0))) (some (vi (felV (S 3 1) (felL (S 4) (S 3 1) 120 1 (itemS (S 4) (S 3 1) (S 0, tkA (S 4) (S 3 1) 0, tkB (S 4) (S 3 1) (tkA (S 4) (S 3 1) 0), v, 0)))))) (mk G (Yt S (S 3 0) (S 3 1) (tlP (S 4) (S 3 1) 121 (S 0, tkA (S 4) (S 3 1) 0, tkB (S 4) (S 3 1) (tkA (S 4) (S 3 1) 0), v, 0)))) := by
  rw [mk_tp (S := va_up S 1 (S 0))]
  exact c_X3_tellInto (G := G) (S := S) (i := S 3 0) (l := S 3 1) (so := S 3 2) (st := S 3 3) (be := S 3 4) (v := v) hl hy hI
theorem c_fel4 {G : GX} {S : St} {i l : Int} {p : P5} : Ev G mX0_becomes [rf G (fo 0), rf G (fo 1)] (mk G (Yt S i l p)) none (mk G (va_up (Yt S i l p) 0 p.1)) := c_fel (S := Yt S i l p)
set_option maxRecDepth 100000 in
set_option maxHeartbeats 1000000 in
theorem c_X4_fell {G : GX} {S : St} (v : Int) {b : Int} (hl : 0 ≤ S 3 1 ∧ S 3 1 ≤ 120) (hy : ∀ i, 0 ≤ i → i < 120 → 0 ≤ S 4 i ∧ S 4 i ≤ 255) (hI : IR b (S 0)) : Ev G mX4_fell [rf G 0] (mk G S) (some (vi (felV (S 3 1) (felL (S 4) (S 3 1) 120 1 (itemS (S 4) (S 3 1) (S 0, tkA (S 4) (S 3 1) 0, tkB (S 4) (S 3 1) (tkA (S 4) (S 3 1) 0), v, 0)))))) (mk G (va_up (va_up (Yt S (S 3 0) (S 3 1) (tlP (S 4) (S 3 1) 121 (S 0, tkA (S 4) (S 3 1) 0, tkB (S 4) (S 3 1) (tkA (S 4) (S 3 1) 0), v, 0))) 0 (felE (S 0) (S 3 1) (felL (S 4) (S 3 1) 120 1 (itemS (S 4) (S 3 1) (S 0, tkA (S 4) (S 3 1) 0, tkB (S 4) (S 3 1) (tkA (S 4) (S 3 1) 0), v, 0))).2).1) 3 (uz ((Yt S (S 3 0) (S 3 1) (tlP (S 4) (S 3 1) 121 (S 0, tkA (S 4) (S 3 1) 0, tkB (S 4) (S 3 1) (tkA (S 4) (S 3 1) 0), v, 0))) 3) 1 0))) := by
  have hw0 : wfp (S 4) (S 3 1) (S 0, tkA (S 4) (S 3 1) 0, tkB (S 4) (S 3 1) (tkA (S 4) (S 3 1) 0), v, 0) := ⟨wf_adv (by omega) hl.1, Or.inl rfl⟩
  have hF := felL_wf 120 1 _ (wfp_item hw0)
  have hF1 := felL_1 (t := S 4) (l := S 3 1) 120 1 (itemS (S 4) (S 3 1) (S 0, tkA (S 4) (S 3 1) 0, tkB (S 4) (S 3 1) (tkA (S 4) (S 3 1) 0), v, 0))
  have hF2 := felL_up (t := S 4) (l := S 3 1) 120 1 (itemS (S 4) (S 3 1) (S 0, tkA (S 4) (S 3 1) 0, tkB (S 4) (S 3 1) (tkA (S 4) (S 3 1) 0), v, 0))
  have hFb := hF.1.1
  have hV : (felW (S 3 1) (felL (S 4) (S 3 1) 120 1 (itemS (S 4) (S 3 1) (S 0, tkA (S 4) (S 3 1) 0, tkB (S 4) (S 3 1) (tkA (S 4) (S 3 1) 0), v, 0))).2 ∧ felV (S 3 1) (felL (S 4) (S 3 1) 120 1 (itemS (S 4) (S 3 1) (S 0, tkA (S 4) (S 3 1) 0, tkB (S 4) (S 3 1) (tkA (S 4) (S 3 1) 0), v, 0))) = -1 - (felL (S 4) (S 3 1) 120 1 (itemS (S 4) (S 3 1) (S 0, tkA (S 4) (S 3 1) 0, tkB (S 4) (S 3 1) (tkA (S 4) (S 3 1) 0), v, 0))).2.2.1) ∨ (¬ felW (S 3 1) (felL (S 4) (S 3 1) 120 1 (itemS (S 4) (S 3 1) (S 0, tkA (S 4) (S 3 1) 0, tkB (S 4) (S 3 1) (tkA (S 4) (S 3 1) 0), v, 0))).2 ∧ felV (S 3 1) (felL (S 4) (S 3 1) 120 1 (itemS (S 4) (S 3 1) (S 0, tkA (S 4) (S 3 1) 0, tkB (S 4) (S 3 1) (tkA (S 4) (S 3 1) 0), v, 0))) = (felL (S 4) (S 3 1) 120 1 (itemS (S 4) (S 3 1) (S 0, tkA (S 4) (S 3 1) 0, tkB (S 4) (S 3 1) (tkA (S 4) (S 3 1) 0), v, 0))).1) := by
    by_cases h : felW (S 3 1) (felL (S 4) (S 3 1) 120 1 (itemS (S 4) (S 3 1) (S 0, tkA (S 4) (S 3 1) 0, tkB (S 4) (S 3 1) (tkA (S 4) (S 3 1) 0), v, 0))).2
    · exact Or.inl ⟨h, if_pos h⟩
    · exact Or.inr ⟨h, if_neg h⟩
  refine Ev.enter (by decide +kernel) (Nat.le_of_ble_eq_true rfl) (L := [some (rf G 0), none]) rfl ?_
  refine p_oload0 dX4_fell_0 ?_
  refine p_cV0v (M2 := mX4_startTrial) ml_RX4_151 mc_X4_startTrial ⟨Nat.le_of_ble_eq_true rfl, Nat.le_of_ble_eq_true rfl⟩ (isO_x _ _) (Nat.le_of_ble_eq_true rfl) dX4_fell_1 (c_X4_startTrial) ?_
  refine p_oload0 dX4_fell_4 ?_
  refine p_get fl_RX4_25 gx_tape dX4_fell_5 ?_
  refine p_oload0 dX4_fell_8 ?_
  refine p_get fl_RX4_16 gx_trial dX4_fell_9 ?_
  refine p_cV1r (M2 := mX3_tellInto) ml_RX4_193 mc_X3_tellInto ⟨Nat.le_of_ble_eq_true rfl, Nat.le_of_ble_eq_true rfl⟩ (isO_t _ _) (Nat.le_of_ble_eq_true rfl) dX4_fell_12 (c_tell4 (v := v) hl hy hI) ?_
  refine p_istore1 rfl (Nat.le_of_ble_eq_true rfl) dX4_fell_15 ?_
  refine p_iload1 dX4_fell_16 ?_
  refine p_if_lt ⟨by omega, by omega⟩ 31 dX4_fell_17 (by decide) (fun c17 => ?_) (fun c17 => ?_)
  · have hW : felW (S 3 1) (felL (S 4) (S 3 1) 120 1 (itemS (S 4) (S 3 1) (S 0, tkA (S 4) (S 3 1) 0, tkB (S 4) (S 3 1) (tkA (S 4) (S 3 1) 0), v, 0))).2 := by rcases hV with z | z; exact z.1; omega
    rw [show (felE (S 0) (S 3 1) (felL (S 4) (S 3 1) 120 1 (itemS (S 4) (S 3 1) (S 0, tkA (S 4) (S 3 1) 0, tkB (S 4) (S 3 1) (tkA (S 4) (S 3 1) 0), v, 0))).2).1 = S 0 from by unfold felE; rw [if_pos hW], show va_up (Yt S (S 3 0) (S 3 1) (tlP (S 4) (S 3 1) 121 (S 0, tkA (S 4) (S 3 1) 0, tkB (S 4) (S 3 1) (tkA (S 4) (S 3 1) 0), v, 0))) 0 (S 0) = (Yt S (S 3 0) (S 3 1) (tlP (S 4) (S 3 1) 121 (S 0, tkA (S 4) (S 3 1) 0, tkB (S 4) (S 3 1) (tkA (S 4) (S 3 1) 0), v, 0))) from vup_same (Yt S (S 3 0) (S 3 1) (tlP (S 4) (S 3 1) 121 (S 0, tkA (S 4) (S 3 1) 0, tkB (S 4) (S 3 1) (tkA (S 4) (S 3 1) 0), v, 0))) 0]
    refine p_oload0 dX4_fell_31 ?_
    refine p_get fl_RX4_25 gx_tape dX4_fell_32 ?_
    refine p_iconst dX4_fell_35 ?_
    refine p_put fw_RX4_190 rfl rfl pt_length dX4_fell_36 ?_
    refine p_iload1 dX4_fell_39 ?_
    exact p_iret rfl dX4_fell_40 rfl rfl
  · have hW : ¬ felW (S 3 1) (felL (S 4) (S 3 1) 120 1 (itemS (S 4) (S 3 1) (S 0, tkA (S 4) (S 3 1) 0, tkB (S 4) (S 3 1) (tkA (S 4) (S 3 1) 0), v, 0))).2 := by rcases hV with z | z; omega; exact z.1
    rw [show (felE (S 0) (S 3 1) (felL (S 4) (S 3 1) 120 1 (itemS (S 4) (S 3 1) (S 0, tkA (S 4) (S 3 1) 0, tkB (S 4) (S 3 1) (tkA (S 4) (S 3 1) 0), v, 0))).2).1 = (tlP (S 4) (S 3 1) 121 (S 0, tkA (S 4) (S 3 1) 0, tkB (S 4) (S 3 1) (tkA (S 4) (S 3 1) 0), v, 0)).1 from by rw [tlP_eq 120 1 _ hW]; unfold felE; rw [if_neg hW]]
    refine p_oload0 dX4_fell_20 ?_
    refine p_get fl_RX4_10 gx_fold dX4_fell_21 ?_
    refine p_oload0 dX4_fell_24 ?_
    refine p_get fl_RX4_16 gx_trial dX4_fell_25 ?_
    refine p_cV1v (M2 := mX0_becomes) ml_RX4_197 mc_X0_becomes ⟨Nat.le_of_ble_eq_true rfl, Nat.le_of_ble_eq_true rfl⟩ (isO_fo _ _ _) (Nat.le_of_ble_eq_true rfl) dX4_fell_28 (c_fel4) ?_
    refine p_oload0 dX4_fell_31 ?_
    refine p_get fl_RX4_25 gx_tape dX4_fell_32 ?_
    refine p_iconst dX4_fell_35 ?_
    refine p_put fw_RX4_190 rfl rfl pt_length dX4_fell_36 ?_
    refine p_iload1 dX4_fell_39 ?_
    exact p_iret rfl dX4_fell_40 rfl rfl
