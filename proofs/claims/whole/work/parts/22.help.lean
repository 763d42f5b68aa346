set_option maxRecDepth 100000 in
set_option maxHeartbeats 4000000 in
theorem l_X0_becomes2 {G : GX} {S : St} {j q : Fin 3} (hne : (q : Nat) ≠ j) : ∀ (n : Nat) (k : Int) (r : Row), (∀ i, 0 ≤ i → (i < 17 + 3 * k) → r i = S q i) → 0 ≤ k → k ≤ 8 → 8 - k < (n : Int) → Rn G mX0_becomes 80 [some (rf G (fo j)), some (rf G (fo q)), some (vi k)] [] (mk G (va_up S j r)) none (mk G (va_up S j (S q))) := by
  intro n
  induction n with
  | zero =>
    intro k r hr h0 h1 h2
    exfalso
    omega
  | succ n ih =>
    intro k r hr h0 h1 h2
    push_cast at h2
    refine p_iload2 dX0_becomes_80 ?_
    refine p_bipush (by decide) (by decide) dX0_becomes_81 ?_
    refine p_icmp_ge ⟨by omega, by omega⟩ ⟨by omega, by omega⟩ 128 dX0_becomes_83 (by decide) (fun c83 => ?_) (fun c83 => ?_)
    · exact p_vret rfl dX0_becomes_128 rfl (mk_row fun i a c => hr i a (by omega))
    · refine p_oload0 dX0_becomes_86 ?_
      refine p_get fl_RX0_20 gq_kinds dX0_becomes_87 ?_
      refine p_iload2 dX0_becomes_90 ?_
      refine p_oload1 dX0_becomes_91 ?_
      refine p_get fl_RX0_20 (go_kinds hne) dX0_becomes_92 ?_
      refine p_iload2 dX0_becomes_95 ?_
      refine p_iald (alo_kinds hne) (by omega) (by omega) dX0_becomes_96 ?_
      refine p_iast alq_kinds (by omega) (by omega) (asq_kinds (by omega) (by omega)) dX0_becomes_97 ?_
      refine p_oload0 dX0_becomes_98 ?_
      refine p_get fl_RX0_23 gq_wants dX0_becomes_99 ?_
      refine p_iload2 dX0_becomes_102 ?_
      refine p_oload1 dX0_becomes_103 ?_
      refine p_get fl_RX0_23 (go_wants hne) dX0_becomes_104 ?_
      refine p_iload2 dX0_becomes_107 ?_
      refine p_iald (alo_wants hne) (by omega) (by omega) dX0_becomes_108 ?_
      refine p_iast alq_wants (by omega) (by omega) (asq_wants (by omega) (by omega)) dX0_becomes_109 ?_
      refine p_oload0 dX0_becomes_110 ?_
      refine p_get fl_RX0_26 gq_seen dX0_becomes_111 ?_
      refine p_iload2 dX0_becomes_114 ?_
      refine p_oload1 dX0_becomes_115 ?_
      refine p_get fl_RX0_26 (go_seen hne) dX0_becomes_116 ?_
      refine p_iload2 dX0_becomes_119 ?_
      refine p_iald (alo_seen hne) (by omega) (by omega) dX0_becomes_120 ?_
      refine p_iast alq_seen (by omega) (by omega) (asq_seen (by omega) (by omega)) dX0_becomes_121 ?_
      refine p_iinc2 rfl (Nat.le_of_ble_eq_true rfl) dX0_becomes_122 ?_
      refine p_goto 80 dX0_becomes_125 (by decide) ?_
      refine ih (k + 1) _ (fun i a c => ?_) (by omega) (by omega) (by omega)
      unfold uz
      by_cases e1 : i = 19 + 3 * k
      · rw [if_pos e1, e1]
      · rw [if_neg e1]
        by_cases e2 : i = 18 + 3 * k
        · rw [if_pos e2, e2]
        · rw [if_neg e2]
          by_cases e3 : i = 17 + 3 * k
          · rw [if_pos e3, e3]
          · rw [if_neg e3]; exact hr i a (by omega)
set_option maxRecDepth 100000 in
set_option maxHeartbeats 4000000 in
theorem l_X0_becomes1 {G : GX} {S : St} {j q : Fin 3} (hne : (q : Nat) ≠ j) : ∀ (n : Nat) (k : Int) (r : Row), (∀ i, 0 ≤ i → (i < 5 + 2 * k) → r i = S q i) → 0 ≤ k → k ≤ 6 → 6 - k < (n : Int) → Rn G mX0_becomes 42 [some (rf G (fo j)), some (rf G (fo q)), some (vi k)] [] (mk G (va_up S j r)) none (mk G (va_up S j (S q))) := by
  intro n
  induction n with
  | zero =>
    intro k r hr h0 h1 h2
    exfalso
    omega
  | succ n ih =>
    intro k r hr h0 h1 h2
    push_cast at h2
    refine p_iload2 dX0_becomes_42 ?_
    refine p_bipush (by decide) (by decide) dX0_becomes_43 ?_
    refine p_icmp_ge ⟨by omega, by omega⟩ ⟨by omega, by omega⟩ 78 dX0_becomes_45 (by decide) (fun c45 => ?_) (fun c45 => ?_)
    · refine p_iconst dX0_becomes_78 ?_
      refine p_istore2 rfl (Nat.le_of_ble_eq_true rfl) dX0_becomes_79 ?_
      exact l_X0_becomes2 hne 9 0 r (fun i a c => hr i a (by omega)) (by omega) (by omega) (by omega)
    · refine p_oload0 dX0_becomes_48 ?_
      refine p_get fl_RX0_13 gq_guises dX0_becomes_49 ?_
      refine p_iload2 dX0_becomes_52 ?_
      refine p_oload1 dX0_becomes_53 ?_
      refine p_get fl_RX0_13 (go_guises hne) dX0_becomes_54 ?_
      refine p_iload2 dX0_becomes_57 ?_
      refine p_iald (alo_guises hne) (by omega) (by omega) dX0_becomes_58 ?_
      refine p_iast alq_guises (by omega) (by omega) (asq_guises (by omega) (by omega)) dX0_becomes_59 ?_
      refine p_oload0 dX0_becomes_60 ?_
      refine p_get fl_RX0_17 gq_wears dX0_becomes_61 ?_
      refine p_iload2 dX0_becomes_64 ?_
      refine p_oload1 dX0_becomes_65 ?_
      refine p_get fl_RX0_17 (go_wears hne) dX0_becomes_66 ?_
      refine p_iload2 dX0_becomes_69 ?_
      refine p_iald (alo_wears hne) (by omega) (by omega) dX0_becomes_70 ?_
      refine p_iast alq_wears (by omega) (by omega) (asq_wears (by omega) (by omega)) dX0_becomes_71 ?_
      refine p_iinc2 rfl (Nat.le_of_ble_eq_true rfl) dX0_becomes_72 ?_
      refine p_goto 42 dX0_becomes_75 (by decide) ?_
      refine ih (k + 1) _ (fun i a c => ?_) (by omega) (by omega) (by omega)
      unfold uz
      by_cases e1 : i = 6 + 2 * k
      · rw [if_pos e1, e1]
      · rw [if_neg e1]
        by_cases e2 : i = 5 + 2 * k
        · rw [if_pos e2, e2]
        · rw [if_neg e2]; exact hr i a (by omega)
set_option maxRecDepth 100000 in
set_option maxHeartbeats 4000000 in
theorem c_X0_becomes {G : GX} {S : St} {j q : Fin 3} {r : Row} (hne : (q : Nat) ≠ j) : Ev G mX0_becomes [rf G (fo j), rf G (fo q)] (mk G (va_up S j r)) none (mk G (va_up S j (S q))) := by
  refine Ev.enter (by decide +kernel) (Nat.le_of_ble_eq_true rfl) (L := [some (rf G (fo j)), some (rf G (fo q)), none]) rfl ?_
  refine p_oload0 dX0_becomes_0 ?_
  refine p_oload1 dX0_becomes_1 ?_
  refine p_get fl_RX0_29 (go_minute hne) dX0_becomes_2 ?_
  refine p_put fw_RX0_29 rfl rfl pq_minute dX0_becomes_5 ?_
  refine p_oload0 dX0_becomes_8 ?_
  refine p_oload1 dX0_becomes_9 ?_
  refine p_get fl_RX0_7 (go_last hne) dX0_becomes_10 ?_
  refine p_put fw_RX0_7 rfl rfl pq_last dX0_becomes_13 ?_
  refine p_oload0 dX0_becomes_16 ?_
  refine p_oload1 dX0_becomes_17 ?_
  refine p_get fl_RX0_32 (go_turn hne) dX0_becomes_18 ?_
  refine p_put fw_RX0_32 rfl rfl pq_turn dX0_becomes_21 ?_
  refine p_oload0 dX0_becomes_24 ?_
  refine p_oload1 dX0_becomes_25 ?_
  refine p_get fl_RX0_35 (go_manCount hne) dX0_becomes_26 ?_
  refine p_put fw_RX0_35 rfl rfl pq_manCount dX0_becomes_29 ?_
  refine p_oload0 dX0_becomes_32 ?_
  refine p_oload1 dX0_becomes_33 ?_
  refine p_get fl_RX0_38 (go_sheepCount hne) dX0_becomes_34 ?_
  refine p_put fw_RX0_38 rfl rfl pq_sheepCount dX0_becomes_37 ?_
  refine p_iconst dX0_becomes_40 ?_
  refine p_istore2 rfl (Nat.le_of_ble_eq_true rfl) dX0_becomes_41 ?_
  refine l_X0_becomes1 hne 7 0 _ (fun i a c => ?_) (by omega) (by omega) (by omega)
  unfold uz
  rcases (show i = 0 ∨ i = 1 ∨ i = 2 ∨ i = 3 ∨ i = 4 by omega) with h | h | h | h | h <;> subst h <;> simp
theorem c_X0_becomesS {G : GX} {S : St} {j q : Fin 3} (hne : (q : Nat) ≠ j) : Ev G mX0_becomes [rf G (fo j), rf G (fo q)] (mk G S) none (mk G (va_up S j (S q))) := by
  have h := c_X0_becomes (G := G) (S := S) (r := S j) hne
  rwa [vup_same] at h
def exR (a c : Int) (r : Row) : Row := uz (uz (uz (uz r (5 + 2 * a) (r (5 + 2 * c))) (6 + 2 * a) (r (6 + 2 * c))) (5 + 2 * c) (r (5 + 2 * a))) (6 + 2 * c) (r (6 + 2 * a))
def woL (s : Int) : Nat → Int → Row → Row
  | 0, _, r => r
  | n + 1, m, r => woL s n (m + 1) (if bAnd (bShr s m) 1 = 1 then uz r (6 + 2 * m) 99 else r)
theorem IR.exR {b a c : Int} {r : Row} (h : IR b r) (ha : 0 ≤ a ∧ a < 6) (hc : 0 ≤ c ∧ c < 6) : IR b (exR a c r) := by
  have h1 := h.2.2.2.2.2.1 a ha.1 ha.2
  have h2 := h.2.2.2.2.2.1 c hc.1 hc.2
  exact (((h.guise ha (by omega)).wear ha (by omega)).guise hc (by omega)).wear hc (by omega)
theorem IR.woL {b s : Int} : ∀ (n : Nat) (m : Int) (r : Row), IR b r → 0 ≤ m → m + n ≤ 6 → IR b (woL s n m r) := by
  intro n
  induction n with
  | zero => intro m r h _ _; exact h
  | succ n ih =>
    intro m r h h0 h6
    refine ih (m + 1) _ ?_ (by omega) (by omega)
    split
    · exact h.wear ⟨h0, by omega⟩ (by omega)
    · exact h
theorem woL_1 (s : Int) : ∀ (n : Nat) (m : Int) (r : Row), 0 ≤ m → woL s n m r 1 = r 1 ∧ woL s n m r 0 = r 0 := by
  intro n
  induction n with
  | zero => intro m r _; exact ⟨rfl, rfl⟩
  | succ n ih =>
    intro m r h
    rw [woL]
    obtain ⟨e1, e2⟩ := ih (m + 1) (if bAnd (bShr s m) 1 = 1 then uz r (6 + 2 * m) 99 else r) (by omega)
    rw [e1, e2]
    split
    · exact ⟨uz_ne _ _ (by omega), uz_ne _ _ (by omega)⟩
    · exact ⟨rfl, rfl⟩
set_option maxRecDepth 100000 in
set_option maxHeartbeats 4000000 in
theorem c_X0_exchange {G : GX} {S : St} {j : Fin 3} {r : Row} {a c : Int} (ha : 0 ≤ a ∧ a < 6) (hc : 0 ≤ c ∧ c < 6) (hac : a ≠ c) : Ev G mX0_exchange [rf G (fo j), vi a, vi c] (mk G (va_up S j r)) none (mk G (va_up S j (exR a c r))) := by
  refine Ev.enter (by decide +kernel) (Nat.le_of_ble_eq_true rfl) (L := [some (rf G (fo j)), some (vi a), some (vi c), none, none]) rfl ?_
  refine p_oload0 dX0_exchange_0 ?_
  refine p_get fl_RX0_13 gq_guises dX0_exchange_1 ?_
  refine p_iload1 dX0_exchange_4 ?_
  refine p_iald alq_guises (by omega) (by omega) dX0_exchange_5 ?_
  refine p_istore3 rfl (Nat.le_of_ble_eq_true rfl) dX0_exchange_6 ?_
  refine p_oload0 dX0_exchange_7 ?_
  refine p_get fl_RX0_17 gq_wears dX0_exchange_8 ?_
  refine p_iload1 dX0_exchange_11 ?_
  refine p_iald alq_wears (by omega) (by omega) dX0_exchange_12 ?_
  refine p_istore4 rfl (Nat.le_of_ble_eq_true rfl) dX0_exchange_13 ?_
  refine p_oload0 dX0_exchange_15 ?_
  refine p_get fl_RX0_13 gq_guises dX0_exchange_16 ?_
  refine p_iload1 dX0_exchange_19 ?_
  refine p_oload0 dX0_exchange_20 ?_
  refine p_get fl_RX0_13 gq_guises dX0_exchange_21 ?_
  refine p_iload2 dX0_exchange_24 ?_
  refine p_iald alq_guises (by omega) (by omega) dX0_exchange_25 ?_
  refine p_iast alq_guises (by omega) (by omega) (asq_guises (by omega) (by omega)) dX0_exchange_26 ?_
  refine p_oload0 dX0_exchange_27 ?_
  refine p_get fl_RX0_17 gq_wears dX0_exchange_28 ?_
  refine p_iload1 dX0_exchange_31 ?_
  refine p_oload0 dX0_exchange_32 ?_
  refine p_get fl_RX0_17 gq_wears dX0_exchange_33 ?_
  refine p_iload2 dX0_exchange_36 ?_
  refine p_iald alq_wears (by omega) (by omega) dX0_exchange_37 ?_
  refine p_iast alq_wears (by omega) (by omega) (asq_wears (by omega) (by omega)) dX0_exchange_38 ?_
  refine p_oload0 dX0_exchange_39 ?_
  refine p_get fl_RX0_13 gq_guises dX0_exchange_40 ?_
  refine p_iload2 dX0_exchange_43 ?_
  refine p_iload3 dX0_exchange_44 ?_
  refine p_iast alq_guises (by omega) (by omega) (asq_guises (by omega) (by omega)) dX0_exchange_45 ?_
  refine p_oload0 dX0_exchange_46 ?_
  refine p_get fl_RX0_17 gq_wears dX0_exchange_47 ?_
  refine p_iload2 dX0_exchange_50 ?_
  refine p_iload4 dX0_exchange_51 ?_
  refine p_iast alq_wears (by omega) (by omega) (asq_wears (by omega) (by omega)) dX0_exchange_53 ?_
  exact p_vret rfl dX0_exchange_54 rfl (congrArg (fun z => mk G (va_up S j z)) (by unfold exR; rw [uz_ne (j := 6 + 2 * c) _ _ (by omega)]))
set_option maxRecDepth 100000 in
set_option maxHeartbeats 4000000 in
theorem l_X0_wearOut {G : GX} {S : St} {j : Fin 3} {b s : Int} : ∀ (n : Nat) (m : Int) (r : Row), IR b r → 0 ≤ m → m ≤ r 1 → r 1 - m < (n : Int) → Rn G mX0_wearOut 2 [some (rf G (fo j)), some (vi s), some (vi m)] [] (mk G (va_up S j r)) none (mk G (va_up S j (woL s (r 1 - m).toNat m r))) := by
  intro n
  induction n with
  | zero =>
    intro m r hI h0 h1 h2
    exfalso
    omega
  | succ n ih =>
    intro m r hI h0 h1 h2
    have i1 := hI.2.1
    push_cast at h2
    refine p_iload2 dX0_wearOut_2 ?_
    refine p_oload0 dX0_wearOut_3 ?_
    refine p_get fl_RX0_35 gq_manCount dX0_wearOut_4 ?_
    refine p_icmp_ge ⟨by omega, by omega⟩ ⟨by omega, by omega⟩ 32 dX0_wearOut_7 (by decide) (fun c7 => ?_) (fun c7 => ?_)
    · rw [show (r 1 - m).toNat = 0 by omega]
      exact p_vret rfl dX0_wearOut_32 rfl rfl
    · rw [show (r 1 - m).toNat = (r 1 - (m + 1)).toNat + 1 by omega, woL]
      refine p_iload2 dX0_wearOut_10 ?_
      refine p_iload1 dX0_wearOut_11 ?_
      refine p_cS2r (M2 := mX0_isIn) ms_RX0_48 mc_X0_isIn ⟨Nat.le_of_ble_eq_true rfl, Nat.le_of_ble_eq_true rfl⟩ (Nat.le_of_ble_eq_true rfl) dX0_wearOut_12 (c_X0_isIn) ?_
      refine p_bif_eq 26 dX0_wearOut_15 (by decide) (fun c15 => ?_) (fun c15 => ?_)
      · rw [if_neg c15]
        refine p_iinc2 rfl (Nat.le_of_ble_eq_true rfl) dX0_wearOut_26 ?_
        refine p_goto 2 dX0_wearOut_29 (by decide) ?_
        first
        | exact ih (m + 1) r hI (by omega) (by omega) (by omega)
        | (have h := ih (m + 1) (uz r (6 + 2 * m) 99) (hI.wear ⟨h0, by omega⟩ (by omega)) (by omega) (by rw [uz_ne _ _ (by omega)]; omega) (by rw [uz_ne _ _ (by omega)]; omega)
           rw [uz_ne (j := 1) _ _ (by omega)] at h
           exact h)
      · rw [if_pos c15]
        refine p_oload0 dX0_wearOut_18 ?_
        refine p_get fl_RX0_17 gq_wears dX0_wearOut_19 ?_
        refine p_iload2 dX0_wearOut_22 ?_
        refine p_bipush (by decide) (by decide) dX0_wearOut_23 ?_
        refine p_iast alq_wears (by omega) (by omega) (asq_wears (by omega) (by omega)) dX0_wearOut_25 ?_
        refine p_iinc2 rfl (Nat.le_of_ble_eq_true rfl) dX0_wearOut_26 ?_
        refine p_goto 2 dX0_wearOut_29 (by decide) ?_
        first
        | exact ih (m + 1) r hI (by omega) (by omega) (by omega)
        | (have h := ih (m + 1) (uz r (6 + 2 * m) 99) (hI.wear ⟨h0, by omega⟩ (by omega)) (by omega) (by rw [uz_ne _ _ (by omega)]; omega) (by rw [uz_ne _ _ (by omega)]; omega)
           rw [uz_ne (j := 1) _ _ (by omega)] at h
           exact h)
set_option maxRecDepth 100000 in
set_option maxHeartbeats 4000000 in
theorem c_X0_wearOut {G : GX} {S : St} {j : Fin 3} {r : Row} {b s : Int} (hI : IR b r) : Ev G mX0_wearOut [rf G (fo j), vi s] (mk G (va_up S j r)) none (mk G (va_up S j (woL s (r 1).toNat 0 r))) := by
  have i1 := hI.2.1
  refine Ev.enter (by decide +kernel) (Nat.le_of_ble_eq_true rfl) (L := [some (rf G (fo j)), some (vi s), none]) rfl ?_
  refine p_iconst dX0_wearOut_0 ?_
  refine p_istore2 rfl (Nat.le_of_ble_eq_true rfl) dX0_wearOut_1 ?_
  have h := l_X0_wearOut (G := G) (S := S) (j := j) (s := s) 7 0 r hI (by omega) (by omega) (by omega)
  rw [Int.sub_zero] at h
  exact h
def nr (b v : Int) : Int := if b = 8 then nb8 v else if b = 16 then nb16 v else v
theorem nb8_in (v : Int) : inR (nb8 v) := inR_any _
theorem nb16_in (v : Int) : inR (nb16 v) := inR_any _
def zer (f : Row) (q : Int) : Row := fun i => if 40 * q ≤ i ∧ i < 40 * q + 40 then 0 else f i
set_option maxRecDepth 100000 in
set_option maxHeartbeats 4000000 in
theorem c_X2_isWidth {G : GX} {S : St} {w : Int} (hw : inR w) : Ev G mX2_isWidth [vi w] (mk G S) (some (vi (if w = 8 ∨ w = 16 ∨ w = 64 then 1 else 0))) (mk G (S)) := by
  obtain ⟨h1, h2⟩ := hw
  refine Ev.enter (by decide +kernel) (Nat.le_of_ble_eq_true rfl) (L := [some (vi w)]) rfl ?_
  refine p_iload0 dX2_isWidth_0 ?_
  refine p_bipush (by decide) (by decide) dX2_isWidth_1 ?_
  refine p_icmp_eq ⟨by omega, by omega⟩ ⟨by omega, by omega⟩ 18 dX2_isWidth_3 (by decide) (fun c3 => ?_) (fun c3 => ?_)
  · refine p_iconst dX2_isWidth_18 ?_
    refine p_goto 23 dX2_isWidth_19 (by decide) ?_
    exact p_zret rfl (by first | exact nz0 | exact nz1 | exact nzb _) dX2_isWidth_23 (congrArg (fun z => some (vi z)) (by first | rfl | omega | (split <;> omega))) rfl
  · refine p_iload0 dX2_isWidth_6 ?_
    refine p_bipush (by decide) (by decide) dX2_isWidth_7 ?_
    refine p_icmp_eq ⟨by omega, by omega⟩ ⟨by omega, by omega⟩ 18 dX2_isWidth_9 (by decide) (fun c9 => ?_) (fun c9 => ?_)
    · refine p_iconst dX2_isWidth_18 ?_
      refine p_goto 23 dX2_isWidth_19 (by decide) ?_
      exact p_zret rfl (by first | exact nz0 | exact nz1 | exact nzb _) dX2_isWidth_23 (congrArg (fun z => some (vi z)) (by first | rfl | omega | (split <;> omega))) rfl
    · refine p_iload0 dX2_isWidth_12 ?_
      refine p_bipush (by decide) (by decide) dX2_isWidth_13 ?_
      refine p_icmp_ne ⟨by omega, by omega⟩ ⟨by omega, by omega⟩ 22 dX2_isWidth_15 (by decide) (fun c15 => ?_) (fun c15 => ?_)
      · refine p_iconst dX2_isWidth_22 ?_
        exact p_zret rfl (by first | exact nz0 | exact nz1 | exact nzb _) dX2_isWidth_23 (congrArg (fun z => some (vi z)) (by first | rfl | omega | (split <;> omega))) rfl
      · refine p_iconst dX2_isWidth_18 ?_
        refine p_goto 23 dX2_isWidth_19 (by decide) ?_
        exact p_zret rfl (by first | exact nz0 | exact nz1 | exact nzb _) dX2_isWidth_23 (congrArg (fun z => some (vi z)) (by first | rfl | omega | (split <;> omega))) rfl
set_option maxRecDepth 100000 in
set_option maxHeartbeats 4000000 in
theorem c_X2_isMissing {G : GX} {S : St} {q : Fin 4} (hb : inR (S 6 q)) : Ev G mX2_isMissing [rf G (so q)] (mk G S) (some (vi (if S 6 q = 0 then 1 else 0))) (mk G (S)) := by
  obtain ⟨h1, h2⟩ := hb
  refine Ev.enter (by decide +kernel) (Nat.le_of_ble_eq_true rfl) (L := [some (rf G (so q))]) rfl ?_
  refine p_oload0 dX2_isMissing_0 ?_
  refine p_get fl_RX2_13 gs_bits dX2_isMissing_1 ?_
  refine p_if_ne ⟨by omega, by omega⟩ 11 dX2_isMissing_4 (by decide) (fun c4 => ?_) (fun c4 => ?_)
  · refine p_iconst dX2_isMissing_11 ?_
    exact p_zret rfl (by first | exact nz0 | exact nz1 | exact nzb _) dX2_isMissing_12 (congrArg (fun z => some (vi z)) (by first | rfl | omega | (split <;> omega))) rfl
  · refine p_iconst dX2_isMissing_7 ?_
    refine p_goto 12 dX2_isMissing_8 (by decide) ?_
    exact p_zret rfl (by first | exact nz0 | exact nz1 | exact nzb _) dX2_isMissing_12 (congrArg (fun z => some (vi z)) (by first | rfl | omega | (split <;> omega))) rfl
set_option maxRecDepth 100000 in
set_option maxHeartbeats 4000000 in
theorem c_X2_hasRun {G : GX} {S : St} {q : Fin 4} {f k : Int} (hf : inR f) (hk : inR k) (hl : 0 ≤ S 7 q ∧ S 7 q ≤ 40) : Ev G mX2_hasRun [rf G (so q), vi f, vi k] (mk G S) (some (vi (if 0 ≤ f ∧ 0 ≤ k ∧ f ≤ S 7 q - k then 1 else 0))) (mk G (S)) := by
  obtain ⟨h1, h2⟩ := hf; obtain ⟨h3, h4⟩ := hk
  refine Ev.enter (by decide +kernel) (Nat.le_of_ble_eq_true rfl) (L := [some (rf G (so q)), some (vi f), some (vi k)]) rfl ?_
  refine p_iload1 dX2_hasRun_0 ?_
  refine p_if_lt ⟨by omega, by omega⟩ 22 dX2_hasRun_1 (by decide) (fun c1 => ?_) (fun c1 => ?_)
  · refine p_iconst dX2_hasRun_22 ?_
    exact p_zret rfl (by first | exact nz0 | exact nz1 | exact nzb _) dX2_hasRun_23 (congrArg (fun z => some (vi z)) (by first | rfl | omega | (split <;> omega))) rfl
  · refine p_iload2 dX2_hasRun_4 ?_
    refine p_if_lt ⟨by omega, by omega⟩ 22 dX2_hasRun_5 (by decide) (fun c5 => ?_) (fun c5 => ?_)
    · refine p_iconst dX2_hasRun_22 ?_
      exact p_zret rfl (by first | exact nz0 | exact nz1 | exact nzb _) dX2_hasRun_23 (congrArg (fun z => some (vi z)) (by first | rfl | omega | (split <;> omega))) rfl
    · refine p_iload1 dX2_hasRun_8 ?_
      refine p_oload0 dX2_hasRun_9 ?_
      refine p_get fl_RX2_17 gs_length dX2_hasRun_10 ?_
      refine p_iload2 dX2_hasRun_13 ?_
      refine p_isub dX2_hasRun_14 ?_
      refine p_icmp_gt ⟨by omega, by omega⟩ ⟨by omega, by omega⟩ 22 dX2_hasRun_15 (by decide) (fun c15 => ?_) (fun c15 => ?_)
      · refine p_iconst dX2_hasRun_22 ?_
        exact p_zret rfl (by first | exact nz0 | exact nz1 | exact nzb _) dX2_hasRun_23 (congrArg (fun z => some (vi z)) (by first | rfl | omega | (split <;> omega))) rfl
      · refine p_iconst dX2_hasRun_18 ?_
        refine p_goto 23 dX2_hasRun_19 (by decide) ?_
        exact p_zret rfl (by first | exact nz0 | exact nz1 | exact nzb _) dX2_hasRun_23 (congrArg (fun z => some (vi z)) (by first | rfl | omega | (split <;> omega))) rfl
set_option maxRecDepth 100000 in
set_option maxHeartbeats 4000000 in
theorem c_X2_put {G : GX} {S : St} {q : Fin 4} {i v : Int} (h0 : 0 ≤ i) (h1 : i < 40) (hb : inR (S 6 q)) : Ev G mX2_put [rf G (so q), vi i, vl v] (mk G S) none (mk G (va_up S 8 (uz (S 8) (40 * q + i) (nr (S 6 q) v)))) := by
  obtain ⟨h2, h3⟩ := hb
  refine Ev.enter (by decide +kernel) (Nat.le_of_ble_eq_true rfl) (L := [some (rf G (so q)), some (vi i), some (vl v), none]) rfl ?_
  refine p_oload0 dX2_put_0 ?_
  refine p_get fl_RX2_13 gs_bits dX2_put_1 ?_
  refine p_bipush (by decide) (by decide) dX2_put_4 ?_
  refine p_icmp_ne ⟨by omega, by omega⟩ ⟨by omega, by omega⟩ 22 dX2_put_6 (by decide) (fun c6 => ?_) (fun c6 => ?_)
  · refine p_oload0 dX2_put_22 ?_
    refine p_get fl_RX2_13 gs_bits dX2_put_23 ?_
    refine p_bipush (by decide) (by decide) dX2_put_26 ?_
    refine p_icmp_ne ⟨by omega, by omega⟩ ⟨by omega, by omega⟩ 44 dX2_put_28 (by decide) (fun c28 => ?_) (fun c28 => ?_)
    · refine p_oload0 dX2_put_44 ?_
      refine p_get fl_RX2_9 gs_numbers dX2_put_45 ?_
      refine p_iload1 dX2_put_48 ?_
      refine p_lload2 dX2_put_49 ?_
      refine p_jast al_numbers (by omega) (by omega) (as_numbers (by omega) (by omega)) dX2_put_50 ?_
      exact p_vret rfl dX2_put_51 rfl (congrArg (fun z => mk G (va_up S 8 (uz (S 8) (40 * q + i) z))) (by unfold nr; first | (rw [if_pos (by omega)]; done) | (rw [if_neg (by omega), if_pos (by omega)]; done) | (rw [if_neg (by omega), if_neg (by omega)]; done)))
    · refine p_oload0 dX2_put_31 ?_
      refine p_get fl_RX2_9 gs_numbers dX2_put_32 ?_
      refine p_iload1 dX2_put_35 ?_
      refine p_lload2 dX2_put_36 ?_
      refine p_l2i dX2_put_37 ?_
      refine p_i2s dX2_put_38 ?_
      refine p_i2l (nb16_in _) dX2_put_39 ?_
      refine p_jast al_numbers (by omega) (by omega) (as_numbers (by omega) (by omega)) dX2_put_40 ?_
      refine p_goto 51 dX2_put_41 (by decide) ?_
      exact p_vret rfl dX2_put_51 rfl (congrArg (fun z => mk G (va_up S 8 (uz (S 8) (40 * q + i) z))) (by unfold nr; first | (rw [if_pos (by omega)]; done) | (rw [if_neg (by omega), if_pos (by omega)]; done) | (rw [if_neg (by omega), if_neg (by omega)]; done)))
  · refine p_oload0 dX2_put_9 ?_
    refine p_get fl_RX2_9 gs_numbers dX2_put_10 ?_
    refine p_iload1 dX2_put_13 ?_
    refine p_lload2 dX2_put_14 ?_
    refine p_l2i dX2_put_15 ?_
    refine p_i2b dX2_put_16 ?_
    refine p_i2l (nb8_in _) dX2_put_17 ?_
    refine p_jast al_numbers (by omega) (by omega) (as_numbers (by omega) (by omega)) dX2_put_18 ?_
    refine p_goto 51 dX2_put_19 (by decide) ?_
    exact p_vret rfl dX2_put_51 rfl (congrArg (fun z => mk G (va_up S 8 (uz (S 8) (40 * q + i) z))) (by unfold nr; first | (rw [if_pos (by omega)]; done) | (rw [if_neg (by omega), if_pos (by omega)]; done) | (rw [if_neg (by omega), if_neg (by omega)]; done)))
set_option maxRecDepth 100000 in
set_option maxHeartbeats 4000000 in
theorem l_X2_ruleAnew {G : GX} {S : St} {q : Fin 4} {f0 : Row} {w m : Int} : ∀ (n : Nat) (k : Int) (f : Row), (∀ i, 0 ≤ i → i < 160 → f i = if 40 * (q : Int) ≤ i ∧ i < 40 * q + k then 0 else f0 i) → 0 ≤ k → k ≤ 40 → 40 - k < (n : Int) → Rn G mX2_ruleAnew 20 [some (rf G (so q)), some (vi w), some (vi m), some (vi k)] [] (mk G (va_up S 8 f)) none (mk G (va_up S 8 (zer f0 q))) := by
  intro n
  induction n with
  | zero =>
    intro k f hr h0 h1 h2
    exfalso
    omega
  | succ n ih =>
    intro k f hr h0 h1 h2
    push_cast at h2
    have hq := q.isLt
    refine p_iload3 dX2_ruleAnew_20 ?_
    refine p_bipush (by decide) (by decide) dX2_ruleAnew_21 ?_
    refine p_icmp_ge ⟨by omega, by omega⟩ ⟨by omega, by omega⟩ 39 dX2_ruleAnew_23 (by decide) (fun c23 => ?_) (fun c23 => ?_)
    · exact p_vret rfl dX2_ruleAnew_39 rfl (mk_num fun i a c => by rw [hr i a c]; unfold zer; rw [show k = 40 by omega])
    · refine p_oload0 dX2_ruleAnew_26 ?_
      refine p_get fl_RX2_9 gs_numbers dX2_ruleAnew_27 ?_
      refine p_iload3 dX2_ruleAnew_30 ?_
      refine p_lconst0 dX2_ruleAnew_31 ?_
      refine p_jast al_numbers (by omega) (by omega) (as_numbers (by omega) (by omega)) dX2_ruleAnew_32 ?_
      refine p_iinc3 rfl (Nat.le_of_ble_eq_true rfl) dX2_ruleAnew_33 ?_
      refine p_goto 20 dX2_ruleAnew_36 (by decide) ?_
      simp only [va_up_self, vup_up]
      refine ih (k + 1) _ (fun i a c => ?_) (by omega) (by omega) (by omega)
      unfold uz
      by_cases e : i = 40 * q + k
      · rw [if_pos e, if_pos (by omega)]
      · rw [if_neg e, hr i a c]
        by_cases e2 : 40 * (q : Int) ≤ i ∧ i < 40 * q + k
        · rw [if_pos e2, if_pos (by omega)]
        · rw [if_neg e2, if_neg (by omega)]
set_option maxRecDepth 100000 in
set_option maxHeartbeats 4000000 in
theorem c_X2_ruleAnew {G : GX} {S : St} {q : Fin 4} {w m : Int} (hw : inR w) : Ev G mX2_ruleAnew [rf G (so q), vi w, vi m] (mk G S) none (mk G (va_up (va_up (va_up S 6 (uz (S 6) q w)) 7 (uz (S 7) q (if w = 0 then 0 else m))) 8 (zer (S 8) q))) := by
  obtain ⟨h1, h2⟩ := hw
  refine Ev.enter (by decide +kernel) (Nat.le_of_ble_eq_true rfl) (L := [some (rf G (so q)), some (vi w), some (vi m), none]) rfl ?_
  refine p_oload0 dX2_ruleAnew_0 ?_
  refine p_iload1 dX2_ruleAnew_1 ?_
  refine p_put fw_RX2_13 rfl rfl ps_bits dX2_ruleAnew_2 ?_
  refine p_oload0 dX2_ruleAnew_5 ?_
  refine p_iload1 dX2_ruleAnew_6 ?_
  refine p_if_ne ⟨by omega, by omega⟩ 14 dX2_ruleAnew_7 (by decide) (fun c7 => ?_) (fun c7 => ?_)
  · refine p_iload2 dX2_ruleAnew_14 ?_
    refine p_put fw_RX2_17 rfl rfl ps_length dX2_ruleAnew_15 ?_
    refine p_iconst dX2_ruleAnew_18 ?_
    refine p_istore3 rfl (Nat.le_of_ble_eq_true rfl) dX2_ruleAnew_19 ?_
    have h := fun S0 : St => l_X2_ruleAnew (G := G) (S := S0) (q := q) (f0 := S 8) (w := w) (m := m) 41 0 (S 8) (fun i a c => by rw [if_neg (by omega)]) (by omega) (by omega) (by omega)
    first
    | (rw [if_neg (by omega)]; have h2 := h (va_up (va_up S 6 (uz (S 6) q w)) 7 (uz (S 7) q m)); rw [show va_up (va_up (va_up S 6 (uz (S 6) q w)) 7 (uz (S 7) q m)) 8 (S 8) = va_up (va_up S 6 (uz (S 6) q w)) 7 (uz (S 7) q m) from vup_same (va_up (va_up S 6 (uz (S 6) q w)) 7 (uz (S 7) q m)) 8] at h2; exact h2)
    | (rw [if_pos (by omega)]; have h2 := h (va_up (va_up S 6 (uz (S 6) q w)) 7 (uz (S 7) q 0)); rw [show va_up (va_up (va_up S 6 (uz (S 6) q w)) 7 (uz (S 7) q 0)) 8 (S 8) = va_up (va_up S 6 (uz (S 6) q w)) 7 (uz (S 7) q 0) from vup_same (va_up (va_up S 6 (uz (S 6) q w)) 7 (uz (S 7) q 0)) 8] at h2; exact h2)
  · refine p_iconst dX2_ruleAnew_10 ?_
    refine p_goto 15 dX2_ruleAnew_11 (by decide) ?_
    refine p_put fw_RX2_17 rfl rfl ps_length dX2_ruleAnew_15 ?_
    refine p_iconst dX2_ruleAnew_18 ?_
    refine p_istore3 rfl (Nat.le_of_ble_eq_true rfl) dX2_ruleAnew_19 ?_
    have h := fun S0 : St => l_X2_ruleAnew (G := G) (S := S0) (q := q) (f0 := S 8) (w := w) (m := m) 41 0 (S 8) (fun i a c => by rw [if_neg (by omega)]) (by omega) (by omega) (by omega)
    first
    | (rw [if_neg (by omega)]; have h2 := h (va_up (va_up S 6 (uz (S 6) q w)) 7 (uz (S 7) q m)); rw [show va_up (va_up (va_up S 6 (uz (S 6) q w)) 7 (uz (S 7) q m)) 8 (S 8) = va_up (va_up S 6 (uz (S 6) q w)) 7 (uz (S 7) q m) from vup_same (va_up (va_up S 6 (uz (S 6) q w)) 7 (uz (S 7) q m)) 8] at h2; exact h2)
    | (rw [if_pos (by omega)]; have h2 := h (va_up (va_up S 6 (uz (S 6) q w)) 7 (uz (S 7) q 0)); rw [show va_up (va_up (va_up S 6 (uz (S 6) q w)) 7 (uz (S 7) q 0)) 8 (S 8) = va_up (va_up S 6 (uz (S 6) q w)) 7 (uz (S 7) q 0) from vup_same (va_up (va_up S 6 (uz (S 6) q w)) 7 (uz (S 7) q 0)) 8] at h2; exact h2)
set_option maxRecDepth 100000 in
set_option maxHeartbeats 4000000 in
theorem c_X3_hasRoomFor {G : GX} {S : St} (hl : 0 ≤ S 3 1 ∧ S 3 1 ≤ 120) {k : Int} (hk : inR k) : Ev G mX3_hasRoomFor [rf G 19, vi k] (mk G S) (some (vi (if k ≤ 120 - S 3 1 then 1 else 0))) (mk G (S)) := by
  obtain ⟨h1, h2⟩ := hk
  refine Ev.enter (by decide +kernel) (Nat.le_of_ble_eq_true rfl) (L := [some (rf G 19), some (vi k)]) rfl ?_
  refine p_iload1 dX3_hasRoomFor_0 ?_
  refine p_bipush (by decide) (by decide) dX3_hasRoomFor_1 ?_
  refine p_oload0 dX3_hasRoomFor_3 ?_
  refine p_get fl_RX3_13 gt_length dX3_hasRoomFor_4 ?_
  refine p_isub dX3_hasRoomFor_7 ?_
  refine p_icmp_gt ⟨by omega, by omega⟩ ⟨by omega, by omega⟩ 15 dX3_hasRoomFor_8 (by decide) (fun c8 => ?_) (fun c8 => ?_)
  · refine p_iconst dX3_hasRoomFor_15 ?_
    exact p_zret rfl (by first | exact nz0 | exact nz1 | exact nzb _) dX3_hasRoomFor_16 (congrArg (fun z => some (vi z)) (by first | rfl | omega | (split <;> omega))) rfl
  · refine p_iconst dX3_hasRoomFor_11 ?_
    refine p_goto 16 dX3_hasRoomFor_12 (by decide) ?_
    exact p_zret rfl (by first | exact nz0 | exact nz1 | exact nzb _) dX3_hasRoomFor_16 (congrArg (fun z => some (vi z)) (by first | rfl | omega | (split <;> omega))) rfl
set_option maxRecDepth 100000 in
set_option maxHeartbeats 4000000 in
theorem c_X3_append {G : GX} {S : St} (hl : 0 ≤ S 3 1 ∧ S 3 1 ≤ 120) {v : Int} (hr : S 3 1 < 120) : Ev G mX3_append [rf G 19, vi v] (mk G S) none (mk G (va_up (va_up S 4 (uz (S 4) (S 3 1) v)) 3 (uz (S 3) 1 (S 3 1 + 1)))) := by
  refine Ev.enter (by decide +kernel) (Nat.le_of_ble_eq_true rfl) (L := [some (rf G 19), some (vi v)]) rfl ?_
  refine p_oload0 dX3_append_0 ?_
  refine p_iconst dX3_append_1 ?_
  refine p_cV1r (M2 := mX3_hasRoomFor) ml_RX3_17 mc_X3_hasRoomFor ⟨Nat.le_of_ble_eq_true rfl, Nat.le_of_ble_eq_true rfl⟩ (isO_t _ _) (Nat.le_of_ble_eq_true rfl) dX3_append_2 (c_X3_hasRoomFor hl ⟨by omega, by omega⟩) ?_
  refine p_bif_eq 28 dX3_append_5 (by decide) (fun c5 => absurd c5 (by omega)) (fun c5 => ?_)
  refine p_oload0 dX3_append_8 ?_
  refine p_get fl_RX3_9 gt_bytes dX3_append_9 ?_
  refine p_oload0 dX3_append_12 ?_
  refine p_get fl_RX3_13 gt_length dX3_append_13 ?_
  refine p_iload1 dX3_append_16 ?_
  refine p_iast al_bytes (by omega) (by omega) as_bytes dX3_append_17 ?_
  refine p_oload0 dX3_append_18 ?_
  refine p_dup rfl dX3_append_19 ?_
  refine p_get fl_RX3_13 gt_length dX3_append_20 ?_
  refine p_iconst dX3_append_23 ?_
  refine p_iadd dX3_append_24 ?_
  refine p_put fw_RX3_13 rfl rfl pt_length dX3_append_25 ?_
  exact p_vret rfl dX3_append_28 rfl rfl
def sa (l : Int) (t : Row) (p : Int) : Int := if p < 0 ∨ l ≤ p then 5 else if 97 ≤ t p ∧ t p ≤ 122 then 1 else if 48 ≤ t p ∧ t p ≤ 57 then 2 else if t p = 59 then 3 else 4
set_option maxRecDepth 100000 in
set_option maxHeartbeats 4000000 in
theorem c_X3_sortAt {G : GX} {S : St} (hl : 0 ≤ S 3 1 ∧ S 3 1 ≤ 120) {p : Int} (hp : inR p) (ht : ∀ i, 0 ≤ i → i < 120 → 0 ≤ S 4 i ∧ S 4 i ≤ 255) : Ev G mX3_sortAt [rf G 19, vi p] (mk G S) (some (vi (sa (S 3 1) (S 4) p))) (mk G (S)) := by
  obtain ⟨h1, h2⟩ := hp
  refine Ev.enter (by decide +kernel) (Nat.le_of_ble_eq_true rfl) (L := [some (rf G 19), some (vi p), none]) rfl ?_
  refine p_iload1 dX3_sortAt_0 ?_
  refine p_if_lt ⟨by omega, by omega⟩ 12 dX3_sortAt_1 (by decide) (fun c1 => ?_) (fun c1 => ?_)
  · refine p_iconst dX3_sortAt_12 ?_
    exact p_iret rfl dX3_sortAt_13 (congrArg (fun z => some (vi z)) (by unfold sa; split <;> (try split) <;> (try split) <;> (try split) <;> omega)) rfl
  · refine p_iload1 dX3_sortAt_4 ?_
    refine p_oload0 dX3_sortAt_5 ?_
    refine p_get fl_RX3_13 gt_length dX3_sortAt_6 ?_
    refine p_icmp_lt ⟨by omega, by omega⟩ ⟨by omega, by omega⟩ 14 dX3_sortAt_9 (by decide) (fun c9 => ?_) (fun c9 => ?_)
    · have h9 := ht p (by omega) (by omega)
      refine p_oload0 dX3_sortAt_14 ?_
      refine p_get fl_RX3_9 gt_bytes dX3_sortAt_15 ?_
      refine p_iload1 dX3_sortAt_18 ?_
      refine p_iald al_bytes (by omega) (by omega) dX3_sortAt_19 ?_
      refine p_istore2 rfl (Nat.le_of_ble_eq_true rfl) dX3_sortAt_20 ?_
      refine p_iload2 dX3_sortAt_21 ?_
      refine p_bipush (by decide) (by decide) dX3_sortAt_22 ?_
      refine p_icmp_lt ⟨by omega, by omega⟩ ⟨by omega, by omega⟩ 35 dX3_sortAt_24 (by decide) (fun c24 => ?_) (fun c24 => ?_)
      · refine p_iload2 dX3_sortAt_35 ?_
        refine p_bipush (by decide) (by decide) dX3_sortAt_36 ?_
        refine p_icmp_lt ⟨by omega, by omega⟩ ⟨by omega, by omega⟩ 49 dX3_sortAt_38 (by decide) (fun c38 => ?_) (fun c38 => ?_)
        · refine p_iload2 dX3_sortAt_49 ?_
          refine p_bipush (by decide) (by decide) dX3_sortAt_50 ?_
          refine p_icmp_ne ⟨by omega, by omega⟩ ⟨by omega, by omega⟩ 59 dX3_sortAt_52 (by decide) (fun c52 => ?_) (fun c52 => ?_)
          · refine p_iconst dX3_sortAt_59 ?_
            exact p_iret rfl dX3_sortAt_60 (congrArg (fun z => some (vi z)) (by unfold sa; split <;> (try split) <;> (try split) <;> (try split) <;> omega)) rfl
          · refine p_iconst dX3_sortAt_55 ?_
            refine p_goto 60 dX3_sortAt_56 (by decide) ?_
            exact p_iret rfl dX3_sortAt_60 (congrArg (fun z => some (vi z)) (by unfold sa; split <;> (try split) <;> (try split) <;> (try split) <;> omega)) rfl
        · refine p_iload2 dX3_sortAt_41 ?_
          refine p_bipush (by decide) (by decide) dX3_sortAt_42 ?_
          refine p_icmp_gt ⟨by omega, by omega⟩ ⟨by omega, by omega⟩ 49 dX3_sortAt_44 (by decide) (fun c44 => ?_) (fun c44 => ?_)
          · refine p_iload2 dX3_sortAt_49 ?_
            refine p_bipush (by decide) (by decide) dX3_sortAt_50 ?_
            refine p_icmp_ne ⟨by omega, by omega⟩ ⟨by omega, by omega⟩ 59 dX3_sortAt_52 (by decide) (fun c52 => ?_) (fun c52 => ?_)
            · refine p_iconst dX3_sortAt_59 ?_
              exact p_iret rfl dX3_sortAt_60 (congrArg (fun z => some (vi z)) (by unfold sa; split <;> (try split) <;> (try split) <;> (try split) <;> omega)) rfl
            · refine p_iconst dX3_sortAt_55 ?_
              refine p_goto 60 dX3_sortAt_56 (by decide) ?_
              exact p_iret rfl dX3_sortAt_60 (congrArg (fun z => some (vi z)) (by unfold sa; split <;> (try split) <;> (try split) <;> (try split) <;> omega)) rfl
          · refine p_iconst dX3_sortAt_47 ?_
            exact p_iret rfl dX3_sortAt_48 (congrArg (fun z => some (vi z)) (by unfold sa; split <;> (try split) <;> (try split) <;> (try split) <;> omega)) rfl
      · refine p_iload2 dX3_sortAt_27 ?_
        refine p_bipush (by decide) (by decide) dX3_sortAt_28 ?_
        refine p_icmp_gt ⟨by omega, by omega⟩ ⟨by omega, by omega⟩ 35 dX3_sortAt_30 (by decide) (fun c30 => ?_) (fun c30 => ?_)
        · refine p_iload2 dX3_sortAt_35 ?_
          refine p_bipush (by decide) (by decide) dX3_sortAt_36 ?_
          refine p_icmp_lt ⟨by omega, by omega⟩ ⟨by omega, by omega⟩ 49 dX3_sortAt_38 (by decide) (fun c38 => ?_) (fun c38 => ?_)
          · refine p_iload2 dX3_sortAt_49 ?_
            refine p_bipush (by decide) (by decide) dX3_sortAt_50 ?_
            refine p_icmp_ne ⟨by omega, by omega⟩ ⟨by omega, by omega⟩ 59 dX3_sortAt_52 (by decide) (fun c52 => ?_) (fun c52 => ?_)
            · refine p_iconst dX3_sortAt_59 ?_
              exact p_iret rfl dX3_sortAt_60 (congrArg (fun z => some (vi z)) (by unfold sa; split <;> (try split) <;> (try split) <;> (try split) <;> omega)) rfl
            · refine p_iconst dX3_sortAt_55 ?_
              refine p_goto 60 dX3_sortAt_56 (by decide) ?_
              exact p_iret rfl dX3_sortAt_60 (congrArg (fun z => some (vi z)) (by unfold sa; split <;> (try split) <;> (try split) <;> (try split) <;> omega)) rfl
          · refine p_iload2 dX3_sortAt_41 ?_
            refine p_bipush (by decide) (by decide) dX3_sortAt_42 ?_
            refine p_icmp_gt ⟨by omega, by omega⟩ ⟨by omega, by omega⟩ 49 dX3_sortAt_44 (by decide) (fun c44 => ?_) (fun c44 => ?_)
            · refine p_iload2 dX3_sortAt_49 ?_
              refine p_bipush (by decide) (by decide) dX3_sortAt_50 ?_
              refine p_icmp_ne ⟨by omega, by omega⟩ ⟨by omega, by omega⟩ 59 dX3_sortAt_52 (by decide) (fun c52 => ?_) (fun c52 => ?_)
              · refine p_iconst dX3_sortAt_59 ?_
                exact p_iret rfl dX3_sortAt_60 (congrArg (fun z => some (vi z)) (by unfold sa; split <;> (try split) <;> (try split) <;> (try split) <;> omega)) rfl
              · refine p_iconst dX3_sortAt_55 ?_
                refine p_goto 60 dX3_sortAt_56 (by decide) ?_
                exact p_iret rfl dX3_sortAt_60 (congrArg (fun z => some (vi z)) (by unfold sa; split <;> (try split) <;> (try split) <;> (try split) <;> omega)) rfl
            · refine p_iconst dX3_sortAt_47 ?_
              exact p_iret rfl dX3_sortAt_48 (congrArg (fun z => some (vi z)) (by unfold sa; split <;> (try split) <;> (try split) <;> (try split) <;> omega)) rfl
        · refine p_iconst dX3_sortAt_33 ?_
          exact p_iret rfl dX3_sortAt_34 (congrArg (fun z => some (vi z)) (by unfold sa; split <;> (try split) <;> (try split) <;> (try split) <;> omega)) rfl
    · refine p_iconst dX3_sortAt_12 ?_
      exact p_iret rfl dX3_sortAt_13 (congrArg (fun z => some (vi z)) (by unfold sa; split <;> (try split) <;> (try split) <;> (try split) <;> omega)) rfl
set_option maxRecDepth 100000 in
set_option maxHeartbeats 4000000 in
theorem c_X4_isWithin {G : GX} {S : St} {v a c : Int} (hv : inR v) (ha : inR a) (hc : inR c) : Ev G mX4_isWithin [vi v, vi a, vi c] (mk G S) (some (vi (if a ≤ v ∧ v ≤ c then 1 else 0))) (mk G (S)) := by
  obtain ⟨h1, h2⟩ := hv; obtain ⟨h3, h4⟩ := ha; obtain ⟨h5, h6⟩ := hc
  refine Ev.enter (by decide +kernel) (Nat.le_of_ble_eq_true rfl) (L := [some (vi v), some (vi a), some (vi c)]) rfl ?_
  refine p_iload0 dX4_isWithin_0 ?_
  refine p_iload1 dX4_isWithin_1 ?_
  refine p_icmp_lt ⟨by omega, by omega⟩ ⟨by omega, by omega⟩ 14 dX4_isWithin_2 (by decide) (fun c2 => ?_) (fun c2 => ?_)
  · refine p_iconst dX4_isWithin_14 ?_
    exact p_zret rfl (by first | exact nz0 | exact nz1 | exact nzb _) dX4_isWithin_15 (congrArg (fun z => some (vi z)) (by first | rfl | omega | (split <;> omega))) rfl
  · refine p_iload0 dX4_isWithin_5 ?_
    refine p_iload2 dX4_isWithin_6 ?_
    refine p_icmp_gt ⟨by omega, by omega⟩ ⟨by omega, by omega⟩ 14 dX4_isWithin_7 (by decide) (fun c7 => ?_) (fun c7 => ?_)
    · refine p_iconst dX4_isWithin_14 ?_
      exact p_zret rfl (by first | exact nz0 | exact nz1 | exact nzb _) dX4_isWithin_15 (congrArg (fun z => some (vi z)) (by first | rfl | omega | (split <;> omega))) rfl
    · refine p_iconst dX4_isWithin_10 ?_
      refine p_goto 15 dX4_isWithin_11 (by decide) ?_
      exact p_zret rfl (by first | exact nz0 | exact nz1 | exact nzb _) dX4_isWithin_15 (congrArg (fun z => some (vi z)) (by first | rfl | omega | (split <;> omega))) rfl
set_option maxRecDepth 100000 in
set_option maxHeartbeats 4000000 in
theorem c_X4_isGuise {G : GX} {S : St} {v : Int} (hv : inR v) : Ev G mX4_isGuise [vi v] (mk G S) (some (vi (if 0 ≤ v ∧ v ≤ 7 then 1 else 0))) (mk G (S)) := by
  refine Ev.enter (by decide +kernel) (Nat.le_of_ble_eq_true rfl) (L := [some (vi v)]) rfl ?_
  refine p_iload0 dX4_isGuise_0 ?_
  refine p_iconst dX4_isGuise_1 ?_
  refine p_bipush (by decide) (by decide) dX4_isGuise_2 ?_
  refine p_cS3r (M2 := mX4_isWithin) ms_RX4_67 mc_X4_isWithin ⟨Nat.le_of_ble_eq_true rfl, Nat.le_of_ble_eq_true rfl⟩ (Nat.le_of_ble_eq_true rfl) dX4_isGuise_4 (c_X4_isWithin hv ⟨by omega, by omega⟩ ⟨by omega, by omega⟩) ?_
  exact p_zret rfl (by first | exact nz0 | exact nz1 | exact nzb _) dX4_isGuise_7 (congrArg (fun z => some (vi z)) (by first | rfl | omega | (split <;> omega))) rfl
set_option maxRecDepth 100000 in
set_option maxHeartbeats 4000000 in
theorem c_X4_isSheet {G : GX} {S : St} {v : Int} (hv : inR v) : Ev G mX4_isSheet [rf G 0, vi v] (mk G S) (some (vi (if 0 ≤ v ∧ v ≤ 3 then 1 else 0))) (mk G (S)) := by
  refine Ev.enter (by decide +kernel) (Nat.le_of_ble_eq_true rfl) (L := [some (rf G 0), some (vi v)]) rfl ?_
  refine p_iload1 dX4_isSheet_0 ?_
  refine p_iconst dX4_isSheet_1 ?_
  refine p_oload0 dX4_isSheet_2 ?_
  refine p_get fl_RX4_32 gx_sheets dX4_isSheet_3 ?_
  refine p_qlen ql_sheets dX4_isSheet_6 ?_
  refine p_iconst dX4_isSheet_7 ?_
  refine p_isub dX4_isSheet_8 ?_
  refine p_cS3r (M2 := mX4_isWithin) ms_RX4_67 mc_X4_isWithin ⟨Nat.le_of_ble_eq_true rfl, Nat.le_of_ble_eq_true rfl⟩ (Nat.le_of_ble_eq_true rfl) dX4_isSheet_9 (c_X4_isWithin (c := 3) hv ⟨by omega, by omega⟩ ⟨by omega, by omega⟩) ?_
  exact p_zret rfl (by first | exact nz0 | exact nz1 | exact nzb _) dX4_isSheet_12 (congrArg (fun z => some (vi z)) (by first | rfl | omega | (split <;> omega))) rfl
set_option maxRecDepth 100000 in
set_option maxHeartbeats 4000000 in
theorem c_X4_tell {G : GX} {S : St} {v : Int} (hv : -1000000007 ≤ v ∧ v ≤ -1000000001) : Ev G mX4_tell [rf G 0, vi v] (mk G S) (some (vi v)) (mk G (va_up S 5 (tl (S 5) v))) := by
  refine Ev.enter (by decide +kernel) (Nat.le_of_ble_eq_true rfl) (L := [some (rf G 0), some (vi v), none]) rfl ?_
  refine p_ldc wc_RX4_44 dX4_tell_0 ?_
  refine p_iload1 dX4_tell_2 ?_
  refine p_isub dX4_tell_3 ?_
  refine p_istore2 rfl (Nat.le_of_ble_eq_true rfl) dX4_tell_4 ?_
  refine p_iload2 dX4_tell_5 ?_
  refine p_iconst dX4_tell_6 ?_
  refine p_bipush (by decide) (by decide) dX4_tell_7 ?_
  refine p_cS3r (M2 := mX4_isWithin) ms_RX4_67 mc_X4_isWithin ⟨Nat.le_of_ble_eq_true rfl, Nat.le_of_ble_eq_true rfl⟩ (Nat.le_of_ble_eq_true rfl) dX4_tell_9 (c_X4_isWithin ⟨by omega, by omega⟩ ⟨by omega, by omega⟩ ⟨by omega, by omega⟩) ?_
  refine p_bif_eq 25 dX4_tell_12 (by decide) (fun c12 => absurd c12 (by omega)) (fun c12 => ?_)
  refine p_oload0 dX4_tell_15 ?_
  refine p_get fl_RX4_36 gx_told dX4_tell_16 ?_
  refine p_iload2 dX4_tell_19 ?_
  refine p_dup2 rfl rfl dX4_tell_20 ?_
  refine p_iald al_told (by omega) (by omega) dX4_tell_21 ?_
  refine p_iconst dX4_tell_22 ?_
  refine p_iadd dX4_tell_23 ?_
  refine p_iast al_told (by omega) (by omega) as_told dX4_tell_24 ?_
  refine p_iload1 dX4_tell_25 ?_
  exact p_iret rfl dX4_tell_26 (congrArg (fun z => some (vi z)) (by first | rfl | omega | (split <;> omega))) (congrArg (fun z => mk G (va_up S 5 z)) (by rw [tl_yes (by omega)]))
set_option maxRecDepth 100000 in
set_option maxHeartbeats 4000000 in
theorem c_X4_answer {G : GX} {S : St} {v : Int} (hv : v = -1000000004 ∨ 0 ≤ v ∧ v ≤ 2147483647) : Ev G mX4_answer [rf G 0, vi v] (mk G S) (some (vi v)) (mk G (va_up S 5 (tl (S 5) v))) := by
  refine Ev.enter (by decide +kernel) (Nat.le_of_ble_eq_true rfl) (L := [some (rf G 0), some (vi v)]) rfl ?_
  refine p_iload1 dX4_answer_0 ?_
  refine p_ldc wc_RX4_78 dX4_answer_1 ?_
  refine p_icmp_ne ⟨by omega, by omega⟩ ⟨by omega, by omega⟩ 15 dX4_answer_3 (by decide) (fun c3 => ?_) (fun c3 => ?_)
  · refine p_iload1 dX4_answer_15 ?_
    exact p_iret rfl dX4_answer_16 (congrArg (fun z => some (vi z)) (by omega)) (by first | (rw [tl_no (by omega), vup_same]; done) | (rw [show v = -1000000004 by omega]; done))
  · refine p_oload0 dX4_answer_6 ?_
    refine p_ldc wc_RX4_78 dX4_answer_7 ?_
    refine p_cV1r (M2 := mX4_tell) ml_RX4_45 mc_X4_tell ⟨Nat.le_of_ble_eq_true rfl, Nat.le_of_ble_eq_true rfl⟩ (isO_x _ _) (Nat.le_of_ble_eq_true rfl) dX4_answer_9 (c_X4_tell (by omega)) ?_
    refine p_goto 16 dX4_answer_12 (by decide) ?_
    exact p_iret rfl dX4_answer_16 (congrArg (fun z => some (vi z)) (by omega)) (by first | (rw [tl_no (by omega), vup_same]; done) | (rw [show v = -1000000004 by omega]; done))
set_option maxRecDepth 100000 in
set_option maxHeartbeats 4000000 in
theorem c_X4_withinWait {G : GX} {S : St} {v : Int} (hv : 0 ≤ v ∧ v ≤ 100000) : Ev G mX4_withinWait [rf G 0, vi v] (mk G S) (some (vi (if v ≤ 200 then v else -1000000004))) (mk G (va_up S 5 (tl (S 5) (if v ≤ 200 then v else -1000000004)))) := by
  refine Ev.enter (by decide +kernel) (Nat.le_of_ble_eq_true rfl) (L := [some (rf G 0), some (vi v)]) rfl ?_
  refine p_iload1 dX4_withinWait_0 ?_
  refine p_sipush (by decide) (by decide) dX4_withinWait_1 ?_
  refine p_icmp_le ⟨by omega, by omega⟩ ⟨by omega, by omega⟩ 16 dX4_withinWait_4 (by decide) (fun c4 => ?_) (fun c4 => ?_)
  · refine p_iload1 dX4_withinWait_16 ?_
    exact p_iret rfl dX4_withinWait_17 (congrArg (fun z => some (vi z)) (by first | rfl | omega | (split <;> omega))) (by first | (rw [if_pos (by omega), tl_no (by omega), vup_same]; done) | (rw [if_neg (by omega)]; done))
  · refine p_oload0 dX4_withinWait_7 ?_
    refine p_ldc wc_RX4_78 dX4_withinWait_8 ?_
    refine p_cV1r (M2 := mX4_tell) ml_RX4_45 mc_X4_tell ⟨Nat.le_of_ble_eq_true rfl, Nat.le_of_ble_eq_true rfl⟩ (isO_x _ _) (Nat.le_of_ble_eq_true rfl) dX4_withinWait_10 (c_X4_tell (by omega)) ?_
    refine p_goto 17 dX4_withinWait_13 (by decide) ?_
    exact p_iret rfl dX4_withinWait_17 (congrArg (fun z => some (vi z)) (by first | rfl | omega | (split <;> omega))) (by first | (rw [if_pos (by omega), tl_no (by omega), vup_same]; done) | (rw [if_neg (by omega)]; done))
set_option maxRecDepth 100000 in
set_option maxHeartbeats 4000000 in
theorem c_X4_startTrial {G : GX} {S : St} : Ev G mX4_startTrial [rf G 0] (mk G S) none (mk G (va_up S 1 (S 0))) := by
  refine Ev.enter (by decide +kernel) (Nat.le_of_ble_eq_true rfl) (L := [some (rf G 0)]) rfl ?_
  refine p_oload0 dX4_startTrial_0 ?_
  refine p_get fl_RX4_16 gx_trial dX4_startTrial_1 ?_
  refine p_oload0 dX4_startTrial_4 ?_
  refine p_get fl_RX4_10 gx_fold dX4_startTrial_5 ?_
  refine p_cV1v (M2 := mX0_becomes) ml_RX4_197 mc_X0_becomes ⟨Nat.le_of_ble_eq_true rfl, Nat.le_of_ble_eq_true rfl⟩ (isO_fo _ _ _) (Nat.le_of_ble_eq_true rfl) dX4_startTrial_8 (c_X0_becomesS (j := 1) (q := 0) (by decide)) ?_
  exact p_vret rfl dX4_startTrial_11 rfl rfl
set_option maxRecDepth 100000 in
set_option maxHeartbeats 4000000 in
theorem c_X4_missingSheet {G : GX} {S : St} {v : Int} (hv : inR v) (hb : ∀ q : Fin 4, inR (S 6 q)) : Ev G mX4_missingSheet [rf G 0, vi v] (mk G S) (some (vi (if 0 ≤ v ∧ v ≤ 3 then (if S 6 v = 0 then -1000000006 else 0) else -1000000001))) (mk G (S)) := by
  refine Ev.enter (by decide +kernel) (Nat.le_of_ble_eq_true rfl) (L := [some (rf G 0), some (vi v)]) rfl ?_
  refine p_oload0 dX4_missingSheet_0 ?_
  refine p_iload1 dX4_missingSheet_1 ?_
  refine p_cV1r (M2 := mX4_isSheet) ml_RX4_201 mc_X4_isSheet ⟨Nat.le_of_ble_eq_true rfl, Nat.le_of_ble_eq_true rfl⟩ (isO_x _ _) (Nat.le_of_ble_eq_true rfl) dX4_missingSheet_2 (c_X4_isSheet hv) ?_
  refine p_bif_ne 11 dX4_missingSheet_5 (by decide) (fun c5 => ?_) (fun c5 => ?_)
  · obtain ⟨q, hq⟩ : ∃ q : Fin 4, v = ((q : Nat) : Int) := ⟨⟨v.toNat, by omega⟩, by show v = ((v.toNat : Nat) : Int); omega⟩
    subst hq
    refine p_oload0 dX4_missingSheet_11 ?_
    refine p_get fl_RX4_32 gx_sheets dX4_missingSheet_12 ?_
    refine p_iload1 dX4_missingSheet_15 ?_
    refine p_qald ql_sheets (by omega) (by omega) (w := so q) (by simp [so]) dX4_missingSheet_16 ?_
    refine p_cV0r (M2 := mX2_isMissing) ml_RX4_223 mc_X2_isMissing ⟨Nat.le_of_ble_eq_true rfl, Nat.le_of_ble_eq_true rfl⟩ (isO_so _ _ _) (Nat.le_of_ble_eq_true rfl) dX4_missingSheet_17 (c_X2_isMissing (hb q)) ?_
    refine p_bif_eq 28 dX4_missingSheet_20 (by decide) (fun c20 => ?_) (fun c20 => ?_)
    · refine p_iconst dX4_missingSheet_28 ?_
      exact p_iret rfl dX4_missingSheet_29 (congrArg (fun z => some (vi z)) (by first | (rw [if_neg (by omega)]; done) | (rw [if_pos (by omega), if_pos (by omega)]; done) | (rw [if_pos (by omega), if_neg (by omega)]; done))) rfl
    · refine p_ldc wc_RX4_226 dX4_missingSheet_23 ?_
      refine p_goto 29 dX4_missingSheet_25 (by decide) ?_
      exact p_iret rfl dX4_missingSheet_29 (congrArg (fun z => some (vi z)) (by first | (rw [if_neg (by omega)]; done) | (rw [if_pos (by omega), if_pos (by omega)]; done) | (rw [if_pos (by omega), if_neg (by omega)]; done))) rfl
  · refine p_ldc wc_RX4_44 dX4_missingSheet_8 ?_
    exact p_iret rfl dX4_missingSheet_10 (congrArg (fun z => some (vi z)) (by first | (rw [if_neg (by omega)]; done) | (rw [if_pos (by omega), if_pos (by omega)]; done) | (rw [if_pos (by omega), if_neg (by omega)]; done))) rfl
