theorem y3_length {G : GX} {S : St} {i l so st be : Int} : fld (mk G (va_up S 3 (tp i l so st be))) 19 2 1 (vi l) := ⟨by decide, _, rfl, rfl⟩
theorem w3_length {G : GX} {S : St} {i l so st be : Int} {v : Int} : put (mk G (va_up S 3 (tp i l so st be))) 19 2 1 (vi v) (mk G (va_up S 3 (tp i v so st be))) := ⟨by decide, _, rfl, Nat.le_of_ble_eq_true rfl, mk_set (by decide) rfl⟩
theorem y3_sort {G : GX} {S : St} {i l so st be : Int} : fld (mk G (va_up S 3 (tp i l so st be))) 19 2 2 (vi so) := ⟨by decide, _, rfl, rfl⟩
theorem w3_sort {G : GX} {S : St} {i l so st be : Int} {v : Int} : put (mk G (va_up S 3 (tp i l so st be))) 19 2 2 (vi v) (mk G (va_up S 3 (tp i l v st be))) := ⟨by decide, _, rfl, Nat.le_of_ble_eq_true rfl, mk_set (by decide) rfl⟩
theorem y3_start {G : GX} {S : St} {i l so st be : Int} : fld (mk G (va_up S 3 (tp i l so st be))) 19 2 3 (vi st) := ⟨by decide, _, rfl, rfl⟩
theorem w3_start {G : GX} {S : St} {i l so st be : Int} {v : Int} : put (mk G (va_up S 3 (tp i l so st be))) 19 2 3 (vi v) (mk G (va_up S 3 (tp i l so v be))) := ⟨by decide, _, rfl, Nat.le_of_ble_eq_true rfl, mk_set (by decide) rfl⟩
theorem y3_behind {G : GX} {S : St} {i l so st be : Int} : fld (mk G (va_up S 3 (tp i l so st be))) 19 2 4 (vi be) := ⟨by decide, _, rfl, rfl⟩
theorem w3_behind {G : GX} {S : St} {i l so st be : Int} {v : Int} : put (mk G (va_up S 3 (tp i l so st be))) 19 2 4 (vi v) (mk G (va_up S 3 (tp i l so st v))) := ⟨by decide, _, rfl, Nat.le_of_ble_eq_true rfl, mk_set (by decide) rfl⟩
theorem y3_by {G : GX} {S : St} {s : Row} : ald G (mk G (va_up S 3 s)) 20 120 (S 4) := al_bytes
theorem y5_taped {G : GX} {S : St} {k x y l fr to va wr : Int} : fld (mk G (va_up S 14 (mp k x y l fr to va wr))) 31 4 9 (vi l) := ⟨by decide, _, rfl, rfl⟩
theorem w5_taped {G : GX} {S : St} {k x y l fr to va wr : Int} {v : Int} : put (mk G (va_up S 14 (mp k x y l fr to va wr))) 31 4 9 (vi v) (mk G (va_up S 14 (mp k x y v fr to va wr))) := ⟨by decide, _, rfl, Nat.le_of_ble_eq_true rfl, mk_set (by decide) rfl⟩
theorem y5_from {G : GX} {S : St} {k x y l fr to va wr : Int} : fld (mk G (va_up S 14 (mp k x y l fr to va wr))) 31 4 10 (vi fr) := ⟨by decide, _, rfl, rfl⟩
theorem w5_from {G : GX} {S : St} {k x y l fr to va wr : Int} {v : Int} : put (mk G (va_up S 14 (mp k x y l fr to va wr))) 31 4 10 (vi v) (mk G (va_up S 14 (mp k x y l v to va wr))) := ⟨by decide, _, rfl, Nat.le_of_ble_eq_true rfl, mk_set (by decide) rfl⟩
theorem y5_to {G : GX} {S : St} {k x y l fr to va wr : Int} : fld (mk G (va_up S 14 (mp k x y l fr to va wr))) 31 4 11 (vi to) := ⟨by decide, _, rfl, rfl⟩
theorem w5_to {G : GX} {S : St} {k x y l fr to va wr : Int} {v : Int} : put (mk G (va_up S 14 (mp k x y l fr to va wr))) 31 4 11 (vi v) (mk G (va_up S 14 (mp k x y l fr v va wr))) := ⟨by decide, _, rfl, Nat.le_of_ble_eq_true rfl, mk_set (by decide) rfl⟩
theorem y5_value {G : GX} {S : St} {k x y l fr to va wr : Int} : fld (mk G (va_up S 14 (mp k x y l fr to va wr))) 31 4 12 (vi va) := ⟨by decide, _, rfl, rfl⟩
theorem w5_value {G : GX} {S : St} {k x y l fr to va wr : Int} {v : Int} : put (mk G (va_up S 14 (mp k x y l fr to va wr))) 31 4 12 (vi v) (mk G (va_up S 14 (mp k x y l fr to v wr))) := ⟨by decide, _, rfl, Nat.le_of_ble_eq_true rfl, mk_set (by decide) rfl⟩
theorem y5_isWrong {G : GX} {S : St} {k x y l fr to va wr : Int} : fld (mk G (va_up S 14 (mp k x y l fr to va wr))) 31 4 13 (vi wr) := ⟨by decide, _, rfl, rfl⟩
theorem w5_isWrong {G : GX} {S : St} {k x y l fr to va wr : Int} {v : Int} : put (mk G (va_up S 14 (mp k x y l fr to va wr))) 31 4 13 (vi v) (mk G (va_up S 14 (mp k x y l fr to va v))) := ⟨by decide, _, rfl, Nat.le_of_ble_eq_true rfl, mk_set (by decide) rfl⟩
theorem y5_tape {G : GX} {S : St} {s : Row} : ald G (mk G (va_up S 14 s)) 37 120 (S 15) := al_mtape
theorem c_sortAt5 {G : GX} {S : St} {i l so st be p : Int} (hl : 0 ≤ l ∧ l ≤ 120) (hp : inR p) (hy : ∀ i, 0 ≤ i → i < 120 → 0 ≤ S 4 i ∧ S 4 i ≤ 255) : Ev G mX3_sortAt [rf G 19, vi p] (mk G (va_up S 3 (tp i l so st be))) (some (vi (sa l (S 4) p))) (mk G (va_up S 3 (tp i l so st be))) := c_X3_sortAt (S := va_up S 3 (tp i l so st be)) hl hp hy
set_option maxRecDepth 100000 in
set_option maxHeartbeats 4000000 in
theorem l_nextB {G : GX} {S : St} {i l so st : Int} (hl : 0 ≤ l ∧ l ≤ 120) (hy : ∀ i, 0 ≤ i → i < 120 → 0 ≤ S 4 i ∧ S 4 i ≤ 255) (hso : 1 ≤ so ∧ so ≤ 5) : ∀ (n : Nat) (j : Int), 0 ≤ j → j ≤ l → l - j < (n : Int) → Rn G mX3_nextToken 75 [some (rf G 19)] [] (mk G (va_up S 3 (tp i l so st j))) none (mk G (va_up S 3 (tp i l so st (if so = 1 ∨ so = 2 then rnn (S 4) l so (l - j).toNat j else j)))) := by
  intro n
  induction n with
  | zero =>
    intro j h0 h1 h2
    exfalso
    omega
  | succ n ih =>
    intro j h0 h1 h2
    push_cast at h2
    have hsa := sa_le (S 4) l j
    refine p_oload0 dX3_nextToken_75 ?_
    refine p_get fl_RX3_21 y3_behind dX3_nextToken_76 ?_
    refine p_oload0 dX3_nextToken_79 ?_
    refine p_get fl_RX3_13 y3_length dX3_nextToken_80 ?_
    refine p_icmp_ge ⟨by omega, by omega⟩ ⟨by omega, by omega⟩ 130 dX3_nextToken_83 (by decide) (fun c83 => ?_) (fun c83 => ?_)
    · rw [show (l - j).toNat = 0 by omega, rnn, ite_self]
      exact p_vret rfl dX3_nextToken_130 rfl rfl
    · rw [show (l - j).toNat = (l - (j + 1)).toNat + 1 by omega, rnn]
      refine p_oload0 dX3_nextToken_86 ?_
      refine p_get fl_RX3_34 y3_sort dX3_nextToken_87 ?_
      refine p_iconst dX3_nextToken_90 ?_
      refine p_icmp_eq ⟨by omega, by omega⟩ ⟨by omega, by omega⟩ 102 dX3_nextToken_91 (by decide) (fun c91 => ?_) (fun c91 => ?_)
      · rw [if_pos (by omega)]
        refine p_oload0 dX3_nextToken_102 ?_
        refine p_oload0 dX3_nextToken_103 ?_
        refine p_get fl_RX3_21 y3_behind dX3_nextToken_104 ?_
        refine p_cV1r (M2 := mX3_sortAt) ml_RX3_107 mc_X3_sortAt ⟨Nat.le_of_ble_eq_true rfl, Nat.le_of_ble_eq_true rfl⟩ (isO_t _ _) (Nat.le_of_ble_eq_true rfl) dX3_nextToken_107 (c_sortAt5 hl ⟨by omega, by omega⟩ hy) ?_
        refine p_oload0 dX3_nextToken_110 ?_
        refine p_get fl_RX3_34 y3_sort dX3_nextToken_111 ?_
        refine p_icmp_ne ⟨by omega, by omega⟩ ⟨by omega, by omega⟩ 130 dX3_nextToken_114 (by decide) (fun c114 => ?_) (fun c114 => ?_)
        · rw [if_neg (by omega)]
          exact p_vret rfl dX3_nextToken_130 rfl rfl
        · rw [if_pos (by omega)]
          refine p_oload0 dX3_nextToken_117 ?_
          refine p_dup rfl dX3_nextToken_118 ?_
          refine p_get fl_RX3_21 y3_behind dX3_nextToken_119 ?_
          refine p_iconst dX3_nextToken_122 ?_
          refine p_iadd dX3_nextToken_123 ?_
          refine p_put fw_RX3_21 rfl rfl w3_behind dX3_nextToken_124 ?_
          refine p_goto 75 dX3_nextToken_127 (by decide) ?_
          have h := ih (j + 1) (by omega) (by omega) (by omega)
          rw [if_pos (by omega)] at h
          exact h
      · refine p_oload0 dX3_nextToken_94 ?_
        refine p_get fl_RX3_34 y3_sort dX3_nextToken_95 ?_
        refine p_iconst dX3_nextToken_98 ?_
        refine p_icmp_ne ⟨by omega, by omega⟩ ⟨by omega, by omega⟩ 130 dX3_nextToken_99 (by decide) (fun c99 => ?_) (fun c99 => ?_)
        · rw [if_neg (by omega)]
          exact p_vret rfl dX3_nextToken_130 rfl rfl
        · rw [if_pos (by omega)]
          refine p_oload0 dX3_nextToken_102 ?_
          refine p_oload0 dX3_nextToken_103 ?_
          refine p_get fl_RX3_21 y3_behind dX3_nextToken_104 ?_
          refine p_cV1r (M2 := mX3_sortAt) ml_RX3_107 mc_X3_sortAt ⟨Nat.le_of_ble_eq_true rfl, Nat.le_of_ble_eq_true rfl⟩ (isO_t _ _) (Nat.le_of_ble_eq_true rfl) dX3_nextToken_107 (c_sortAt5 hl ⟨by omega, by omega⟩ hy) ?_
          refine p_oload0 dX3_nextToken_110 ?_
          refine p_get fl_RX3_34 y3_sort dX3_nextToken_111 ?_
          refine p_icmp_ne ⟨by omega, by omega⟩ ⟨by omega, by omega⟩ 130 dX3_nextToken_114 (by decide) (fun c114 => ?_) (fun c114 => ?_)
          · rw [if_neg (by omega)]
            exact p_vret rfl dX3_nextToken_130 rfl rfl
          · rw [if_pos (by omega)]
            refine p_oload0 dX3_nextToken_117 ?_
            refine p_dup rfl dX3_nextToken_118 ?_
            refine p_get fl_RX3_21 y3_behind dX3_nextToken_119 ?_
            refine p_iconst dX3_nextToken_122 ?_
            refine p_iadd dX3_nextToken_123 ?_
            refine p_put fw_RX3_21 rfl rfl w3_behind dX3_nextToken_124 ?_
            refine p_goto 75 dX3_nextToken_127 (by decide) ?_
            have h := ih (j + 1) (by omega) (by omega) (by omega)
            rw [if_pos (by omega)] at h
            exact h
set_option maxRecDepth 100000 in
set_option maxHeartbeats 4000000 in
theorem t_nextM {G : GX} {S : St} {i l so a be : Int} (hl : 0 ≤ l ∧ l ≤ 120) (hy : ∀ i, 0 ≤ i → i < 120 → 0 ≤ S 4 i ∧ S 4 i ≤ 255) (ha : 0 ≤ a ∧ a ≤ l) : Rn G mX3_nextToken 46 [some (rf G 19)] [] (mk G (va_up S 3 (tp i l so a be))) none (mk G (va_up S 3 (tp i l (sa l (S 4) a) a (tkB (S 4) l a)))) := by
  have hsa := sa_le (S 4) l a
  refine p_oload0 dX3_nextToken_46 ?_
  refine p_oload0 dX3_nextToken_47 ?_
  refine p_oload0 dX3_nextToken_48 ?_
  refine p_get fl_RX3_31 y3_start dX3_nextToken_49 ?_
  refine p_cV1r (M2 := mX3_sortAt) ml_RX3_107 mc_X3_sortAt ⟨Nat.le_of_ble_eq_true rfl, Nat.le_of_ble_eq_true rfl⟩ (isO_t _ _) (Nat.le_of_ble_eq_true rfl) dX3_nextToken_52 (c_sortAt5 hl ⟨by omega, by omega⟩ hy) ?_
  refine p_put fw_RX3_34 rfl rfl w3_sort dX3_nextToken_55 ?_
  refine p_oload0 dX3_nextToken_58 ?_
  refine p_oload0 dX3_nextToken_59 ?_
  refine p_get fl_RX3_13 y3_length dX3_nextToken_60 ?_
  refine p_oload0 dX3_nextToken_63 ?_
  refine p_get fl_RX3_31 y3_start dX3_nextToken_64 ?_
  refine p_iconst dX3_nextToken_67 ?_
  refine p_iadd dX3_nextToken_68 ?_
  refine p_mmin ⟨by omega, by omega⟩ ⟨by omega, by omega⟩ wt2_211 wt2_50 wt1_8 wt2_51 (Nat.le_of_ble_eq_true rfl) (Nat.le_of_ble_eq_true rfl) dX3_nextToken_69 ?_
  refine p_put fw_RX3_21 rfl rfl w3_behind dX3_nextToken_72 ?_
  by_cases q : a < l
  · have h := l_nextB (G := G) (S := S) (i := i) (st := a) hl hy hsa 121 (a + 1) (by omega) (by omega) (by omega)
    rw [show (if sa l (S 4) a = 1 ∨ sa l (S 4) a = 2 then rnn (S 4) l (sa l (S 4) a) (l - (a + 1)).toNat (a + 1) else a + 1) = tkB (S 4) l a from by unfold tkB; rw [if_pos q]] at h
    rw [show (if a + 1 < l then a + 1 else l) = a + 1 from by split <;> omega]; exact h
  · have e5 : sa l (S 4) a = 5 := by unfold sa; rw [if_pos (by omega)]
    have h := l_nextB (G := G) (S := S) (i := i) (st := a) hl hy hsa 121 l (by omega) (by omega) (by omega)
    rw [if_neg (by omega)] at h
    rw [show tkB (S 4) l a = l from by unfold tkB; rw [if_neg (by omega), if_neg q]; omega]
    rw [show (if a + 1 < l then a + 1 else l) = l from by split <;> omega]; exact h
set_option maxRecDepth 100000 in
set_option maxHeartbeats 4000000 in
theorem l_nextA {G : GX} {S : St} {i l so be : Int} (hl : 0 ≤ l ∧ l ≤ 120) (hy : ∀ i, 0 ≤ i → i < 120 → 0 ≤ S 4 i ∧ S 4 i ≤ 255) : ∀ (n : Nat) (a : Int), 0 ≤ a → a ≤ l → l - a < (n : Int) → Rn G mX3_nextToken 8 [some (rf G 19)] [] (mk G (va_up S 3 (tp i l so a be))) none (mk G (va_up S 3 (tp i l (sa l (S 4) (skp (S 4) l (l - a).toNat a)) (skp (S 4) l (l - a).toNat a) (tkB (S 4) l (skp (S 4) l (l - a).toNat a))))) := by
  intro n
  induction n with
  | zero =>
    intro a h0 h1 h2
    exfalso
    omega
  | succ n ih =>
    intro a h0 h1 h2
    push_cast at h2
    refine p_oload0 dX3_nextToken_8 ?_
    refine p_get fl_RX3_31 y3_start dX3_nextToken_9 ?_
    refine p_oload0 dX3_nextToken_12 ?_
    refine p_get fl_RX3_13 y3_length dX3_nextToken_13 ?_
    refine p_icmp_ge ⟨by omega, by omega⟩ ⟨by omega, by omega⟩ 46 dX3_nextToken_16 (by decide) (fun c16 => ?_) (fun c16 => ?_)
    · rw [show (l - a).toNat = 0 by omega, skp]
      exact t_nextM hl hy (by omega)
    · have hya := hy a (by omega) (by omega)
      rw [show (l - a).toNat = (l - (a + 1)).toNat + 1 by omega, skp]
      refine p_oload0 dX3_nextToken_19 ?_
      refine p_get fl_RX3_9 gt_bytes dX3_nextToken_20 ?_
      refine p_oload0 dX3_nextToken_23 ?_
      refine p_get fl_RX3_31 y3_start dX3_nextToken_24 ?_
      refine p_iald y3_by (by omega) (by omega) dX3_nextToken_27 ?_
      refine p_bipush (by decide) (by decide) dX3_nextToken_28 ?_
      refine p_icmp_ne ⟨by omega, by omega⟩ ⟨by omega, by omega⟩ 46 dX3_nextToken_30 (by decide) (fun c30 => ?_) (fun c30 => ?_)
      · rw [if_neg (by omega)]
        exact t_nextM hl hy (by omega)
      · rw [if_pos (by omega)]
        refine p_oload0 dX3_nextToken_33 ?_
        refine p_dup rfl dX3_nextToken_34 ?_
        refine p_get fl_RX3_31 y3_start dX3_nextToken_35 ?_
        refine p_iconst dX3_nextToken_38 ?_
        refine p_iadd dX3_nextToken_39 ?_
        refine p_put fw_RX3_31 rfl rfl w3_start dX3_nextToken_40 ?_
        refine p_goto 8 dX3_nextToken_43 (by decide) ?_
        exact ih (a + 1) (by omega) (by omega) (by omega)
set_option maxRecDepth 100000 in
set_option maxHeartbeats 4000000 in
theorem c_X3_nextToken {G : GX} {S : St} {i l so st be : Int} (hl : 0 ≤ l ∧ l ≤ 120) (hy : ∀ i, 0 ≤ i → i < 120 → 0 ≤ S 4 i ∧ S 4 i ≤ 255) (hbe : 0 ≤ be ∧ be ≤ l) : Ev G mX3_nextToken [rf G 19] (mk G (va_up S 3 (tp i l so st be))) none (mk G (va_up S 3 (tp i l (sa l (S 4) (tkA (S 4) l be)) (tkA (S 4) l be) (tkB (S 4) l (tkA (S 4) l be))))) := by
  refine Ev.enter (by decide +kernel) (Nat.le_of_ble_eq_true rfl) (L := [some (rf G 19)]) rfl ?_
  refine p_oload0 dX3_nextToken_0 ?_
  refine p_oload0 dX3_nextToken_1 ?_
  refine p_get fl_RX3_21 y3_behind dX3_nextToken_2 ?_
  refine p_put fw_RX3_31 rfl rfl w3_start dX3_nextToken_5 ?_
  exact l_nextA hl hy 121 be (by omega) (by omega) (by omega)
set_option maxRecDepth 100000 in
set_option maxHeartbeats 4000000 in
theorem l_numberHere {G : GX} {S : St} {i l so st be : Int} (hl : 0 ≤ l ∧ l ≤ 120) (hy : ∀ i, 0 ≤ i → i < 120 → 0 ≤ S 4 i ∧ S 4 i ≤ 255) (hbe : be ≤ l) (hd : ∀ k, st ≤ k → k < be → 48 ≤ S 4 k ∧ S 4 k ≤ 57) (h00 : 0 ≤ st) : ∀ (n : Nat) (a : Int) (v : Int), 0 ≤ v ∧ v ≤ 1000 → st ≤ a → a ≤ be → be - a < (n : Int) → Rn G mX3_numberHere 19 [some (rf G 19), some (vi v), some (vi a)] [] (mk G (va_up S 3 (tp i l so st be))) (some (vi (n3 (S 4) (be - a).toNat a v))) (mk G (va_up S 3 (tp i l so st be))) := by
  intro n
  induction n with
  | zero =>
    intro a v hv h0 h1 h2
    exfalso
    omega
  | succ n ih =>
    intro a v hv h0 h1 h2
    push_cast at h2
    refine p_iload2 dX3_numberHere_19 ?_
    refine p_oload0 dX3_numberHere_20 ?_
    refine p_get fl_RX3_21 y3_behind dX3_numberHere_21 ?_
    refine p_icmp_ge ⟨by omega, by omega⟩ ⟨by omega, by omega⟩ 62 dX3_numberHere_24 (by decide) (fun c24 => ?_) (fun c24 => ?_)
    · rw [show (be - a).toNat = 0 by omega, n3]
      refine p_iload1 dX3_numberHere_62 ?_
      exact p_iret rfl dX3_numberHere_63 rfl rfl
    · have hya := hd a (by omega) (by omega)
      rw [show (be - a).toNat = (be - (a + 1)).toNat + 1 by omega, n3]
      refine p_iload2 dX3_numberHere_27 ?_
      refine p_oload0 dX3_numberHere_28 ?_
      refine p_get fl_RX3_13 y3_length dX3_numberHere_29 ?_
      refine p_icmp_ge ⟨by omega, by omega⟩ ⟨by omega, by omega⟩ 62 dX3_numberHere_32 (by decide) (fun c32 => absurd c32 (by omega)) (fun c32 => ?_)
      refine p_sipush (by decide) (by decide) dX3_numberHere_35 ?_
      refine p_bipush (by decide) (by decide) dX3_numberHere_38 ?_
      refine p_iload1 dX3_numberHere_40 ?_
      refine p_imul dX3_numberHere_41 ?_
      refine p_oload0 dX3_numberHere_42 ?_
      refine p_get fl_RX3_9 gt_bytes dX3_numberHere_43 ?_
      refine p_iload2 dX3_numberHere_46 ?_
      refine p_iald y3_by (by omega) (by omega) dX3_numberHere_47 ?_
      refine p_iadd dX3_numberHere_48 ?_
      refine p_bipush (by decide) (by decide) dX3_numberHere_49 ?_
      refine p_isub dX3_numberHere_51 ?_
      refine p_mmin ⟨by omega, by omega⟩ ⟨by omega, by omega⟩ wt2_211 wt2_50 wt1_8 wt2_51 (Nat.le_of_ble_eq_true rfl) (Nat.le_of_ble_eq_true rfl) dX3_numberHere_52 ?_
      refine p_istore1 rfl (Nat.le_of_ble_eq_true rfl) dX3_numberHere_55 ?_
      refine p_iinc2 rfl (Nat.le_of_ble_eq_true rfl) dX3_numberHere_56 ?_
      refine p_goto 19 dX3_numberHere_59 (by decide) ?_
      unfold mn
      exact ih (a + 1) _ (by split <;> omega) (by omega) (by omega) (by omega)
set_option maxRecDepth 100000 in
set_option maxHeartbeats 4000000 in
theorem c_X3_numberHere {G : GX} {S : St} {i l so st be : Int} (hl : 0 ≤ l ∧ l ≤ 120) (hy : ∀ i, 0 ≤ i → i < 120 → 0 ≤ S 4 i ∧ S 4 i ≤ 255) (hbe : st ≤ be ∧ be ≤ l) (hso : 1 ≤ so ∧ so ≤ 5) (hd : so = 2 → ∀ k, st ≤ k → k < be → 48 ≤ S 4 k ∧ S 4 k ≤ 57) (h00 : 0 ≤ st) : Ev G mX3_numberHere [rf G 19] (mk G (va_up S 3 (tp i l so st be))) (some (vi (if so = 2 then n3 (S 4) (be - st).toNat st 0 else 1000))) (mk G (va_up S 3 (tp i l so st be))) := by
  refine Ev.enter (by decide +kernel) (Nat.le_of_ble_eq_true rfl) (L := [some (rf G 19), none, none]) rfl ?_
  refine p_oload0 dX3_numberHere_0 ?_
  refine p_get fl_RX3_34 y3_sort dX3_numberHere_1 ?_
  refine p_iconst dX3_numberHere_4 ?_
  refine p_icmp_eq ⟨by omega, by omega⟩ ⟨by omega, by omega⟩ 12 dX3_numberHere_5 (by decide) (fun c5 => ?_) (fun c5 => ?_)
  · rw [if_pos c5]
    refine p_iconst dX3_numberHere_12 ?_
    refine p_istore1 rfl (Nat.le_of_ble_eq_true rfl) dX3_numberHere_13 ?_
    refine p_oload0 dX3_numberHere_14 ?_
    refine p_get fl_RX3_31 y3_start dX3_numberHere_15 ?_
    refine p_istore2 rfl (Nat.le_of_ble_eq_true rfl) dX3_numberHere_18 ?_
    exact l_numberHere hl hy hbe.2 (hd c5) h00 121 st 0 (by omega) (by omega) (by omega) (by omega)
  · rw [if_neg c5]
    refine p_sipush (by decide) (by decide) dX3_numberHere_8 ?_
    exact p_iret rfl dX3_numberHere_11 rfl rfl
