set_option maxRecDepth 100000 in
set_option maxHeartbeats 4000000 in
theorem c_X1_isKind {G : GX} {S : St} {k : Int} (hk : inR k) : Ev G mX1_isKind [vi k] (mk G S) (some (vi (if 0 ≤ k ∧ k < 6 then 1 else 0))) (mk G (S)) := by
  obtain ⟨hk1, hk2⟩ := hk
  refine Ev.enter (by decide +kernel) (Nat.le_of_ble_eq_true rfl) (L := [some (vi k)]) rfl ?_
  refine p_iload0 dX1_isKind_0 ?_
  refine p_if_lt ⟨by omega, by omega⟩ 14 dX1_isKind_1 (by decide) (fun c1 => ?_) (fun c1 => ?_)
  · refine p_iconst dX1_isKind_14 ?_
    exact p_zret rfl (by first | exact nz0 | exact nz1 | exact nzb _) dX1_isKind_15 (congrArg (fun z => some (vi z)) (by first | rfl | omega | (split <;> omega))) rfl
  · refine p_iload0 dX1_isKind_4 ?_
    refine p_bipush (by decide) (by decide) dX1_isKind_5 ?_
    refine p_icmp_ge ⟨by omega, by omega⟩ ⟨by omega, by omega⟩ 14 dX1_isKind_7 (by decide) (fun c7 => ?_) (fun c7 => ?_)
    · refine p_iconst dX1_isKind_14 ?_
      exact p_zret rfl (by first | exact nz0 | exact nz1 | exact nzb _) dX1_isKind_15 (congrArg (fun z => some (vi z)) (by first | rfl | omega | (split <;> omega))) rfl
    · refine p_iconst dX1_isKind_10 ?_
      refine p_goto 15 dX1_isKind_11 (by decide) ?_
      exact p_zret rfl (by first | exact nz0 | exact nz1 | exact nzb _) dX1_isKind_15 (congrArg (fun z => some (vi z)) (by first | rfl | omega | (split <;> omega))) rfl
set_option maxRecDepth 100000 in
set_option maxHeartbeats 4000000 in
theorem c_X1_wakesBy {G : GX} {S : St} {k : Int} (hk : 0 ≤ k ∧ k ≤ 5) : Ev G mX1_wakesBy [vi k] (mk G S) (some (vi (tW k))) (mk G (S)) := by
  refine Ev.enter (by decide +kernel) (Nat.le_of_ble_eq_true rfl) (L := [some (vi k)]) rfl ?_
  refine p_iload0 dX1_wakesBy_0 ?_
  refine p_cS1r (M2 := mX1_isKind) ms_RX1_21 mc_X1_isKind ⟨Nat.le_of_ble_eq_true rfl, Nat.le_of_ble_eq_true rfl⟩ (Nat.le_of_ble_eq_true rfl) dX1_wakesBy_1 (c_X1_isKind ⟨by omega, by omega⟩) ?_
  refine p_bif_eq 15 dX1_wakesBy_4 (by decide) (fun c4 => absurd c4 (by omega)) (fun c4 => ?_)
  refine p_gsWAKES wt1_218 dX1_wakesBy_7 ?_
  refine p_iload0 dX1_wakesBy_10 ?_
  refine p_ldWAKES (by omega) (by omega) dX1_wakesBy_11 ?_
  refine p_goto 16 dX1_wakesBy_12 (by decide) ?_
  exact p_iret rfl dX1_wakesBy_16 (congrArg (fun z => some (vi z)) (by first | rfl | omega | (split <;> omega))) rfl
set_option maxRecDepth 100000 in
set_option maxHeartbeats 4000000 in
theorem c_X1_tiresBy {G : GX} {S : St} {k : Int} (hk : 0 ≤ k ∧ k ≤ 5) : Ev G mX1_tiresBy [vi k] (mk G S) (some (vi (tT k))) (mk G (S)) := by
  refine Ev.enter (by decide +kernel) (Nat.le_of_ble_eq_true rfl) (L := [some (vi k)]) rfl ?_
  refine p_iload0 dX1_tiresBy_0 ?_
  refine p_cS1r (M2 := mX1_isKind) ms_RX1_21 mc_X1_isKind ⟨Nat.le_of_ble_eq_true rfl, Nat.le_of_ble_eq_true rfl⟩ (Nat.le_of_ble_eq_true rfl) dX1_tiresBy_1 (c_X1_isKind ⟨by omega, by omega⟩) ?_
  refine p_bif_eq 15 dX1_tiresBy_4 (by decide) (fun c4 => absurd c4 (by omega)) (fun c4 => ?_)
  refine p_gsTIRES wt1_223 dX1_tiresBy_7 ?_
  refine p_iload0 dX1_tiresBy_10 ?_
  refine p_ldTIRES (by omega) (by omega) dX1_tiresBy_11 ?_
  refine p_goto 16 dX1_tiresBy_12 (by decide) ?_
  exact p_iret rfl dX1_tiresBy_16 (congrArg (fun z => some (vi z)) (by first | rfl | omega | (split <;> omega))) rfl
set_option maxRecDepth 100000 in
set_option maxHeartbeats 4000000 in
theorem c_X0_hasMan {G : GX} {S : St} {j : Fin 3} {b : Int} (hI : IR b (S j)) {m : Int} (hm : inR m) : Ev G mX0_hasMan [rf G (fo j), vi m] (mk G S) (some (vi (if 0 ≤ m ∧ m < S j 1 then 1 else 0))) (mk G (S)) := by
  have i0 := hI.1; have i1 := hI.2.1
  obtain ⟨h1, h2⟩ := hm
  refine Ev.enter (by decide +kernel) (Nat.le_of_ble_eq_true rfl) (L := [some (rf G (fo j)), some (vi m)]) rfl ?_
  refine p_iload1 dX0_hasMan_0 ?_
  refine p_if_lt ⟨by omega, by omega⟩ 16 dX0_hasMan_1 (by decide) (fun c1 => ?_) (fun c1 => ?_)
  · refine p_iconst dX0_hasMan_16 ?_
    exact p_zret rfl (by first | exact nz0 | exact nz1 | exact nzb _) dX0_hasMan_17 (congrArg (fun z => some (vi z)) (by first | rfl | omega | (split <;> omega))) rfl
  · refine p_iload1 dX0_hasMan_4 ?_
    refine p_oload0 dX0_hasMan_5 ?_
    refine p_get fl_RX0_35 gf_manCount dX0_hasMan_6 ?_
    refine p_icmp_ge ⟨by omega, by omega⟩ ⟨by omega, by omega⟩ 16 dX0_hasMan_9 (by decide) (fun c9 => ?_) (fun c9 => ?_)
    · refine p_iconst dX0_hasMan_16 ?_
      exact p_zret rfl (by first | exact nz0 | exact nz1 | exact nzb _) dX0_hasMan_17 (congrArg (fun z => some (vi z)) (by first | rfl | omega | (split <;> omega))) rfl
    · refine p_iconst dX0_hasMan_12 ?_
      refine p_goto 17 dX0_hasMan_13 (by decide) ?_
      exact p_zret rfl (by first | exact nz0 | exact nz1 | exact nzb _) dX0_hasMan_17 (congrArg (fun z => some (vi z)) (by first | rfl | omega | (split <;> omega))) rfl
set_option maxRecDepth 100000 in
set_option maxHeartbeats 4000000 in
theorem c_X0_hasSheep {G : GX} {S : St} {j : Fin 3} {b : Int} (hI : IR b (S j)) {m : Int} (hm : inR m) : Ev G mX0_hasSheep [rf G (fo j), vi m] (mk G S) (some (vi (if 0 ≤ m ∧ m < S j 0 then 1 else 0))) (mk G (S)) := by
  have i0 := hI.1; have i1 := hI.2.1
  obtain ⟨h1, h2⟩ := hm
  refine Ev.enter (by decide +kernel) (Nat.le_of_ble_eq_true rfl) (L := [some (rf G (fo j)), some (vi m)]) rfl ?_
  refine p_iload1 dX0_hasSheep_0 ?_
  refine p_if_lt ⟨by omega, by omega⟩ 16 dX0_hasSheep_1 (by decide) (fun c1 => ?_) (fun c1 => ?_)
  · refine p_iconst dX0_hasSheep_16 ?_
    exact p_zret rfl (by first | exact nz0 | exact nz1 | exact nzb _) dX0_hasSheep_17 (congrArg (fun z => some (vi z)) (by first | rfl | omega | (split <;> omega))) rfl
  · refine p_iload1 dX0_hasSheep_4 ?_
    refine p_oload0 dX0_hasSheep_5 ?_
    refine p_get fl_RX0_38 gf_sheepCount dX0_hasSheep_6 ?_
    refine p_icmp_ge ⟨by omega, by omega⟩ ⟨by omega, by omega⟩ 16 dX0_hasSheep_9 (by decide) (fun c9 => ?_) (fun c9 => ?_)
    · refine p_iconst dX0_hasSheep_16 ?_
      exact p_zret rfl (by first | exact nz0 | exact nz1 | exact nzb _) dX0_hasSheep_17 (congrArg (fun z => some (vi z)) (by first | rfl | omega | (split <;> omega))) rfl
    · refine p_iconst dX0_hasSheep_12 ?_
      refine p_goto 17 dX0_hasSheep_13 (by decide) ?_
      exact p_zret rfl (by first | exact nz0 | exact nz1 | exact nzb _) dX0_hasSheep_17 (congrArg (fun z => some (vi z)) (by first | rfl | omega | (split <;> omega))) rfl
set_option maxRecDepth 100000 in
set_option maxHeartbeats 4000000 in
theorem c_X0_hasRoomForMan {G : GX} {S : St} {j : Fin 3} {b : Int} (hI : IR b (S j)) : Ev G mX0_hasRoomForMan [rf G (fo j)] (mk G S) (some (vi (if S j 1 < 6 then 1 else 0))) (mk G (S)) := by
  have i0 := hI.1; have i1 := hI.2.1
  refine Ev.enter (by decide +kernel) (Nat.le_of_ble_eq_true rfl) (L := [some (rf G (fo j))]) rfl ?_
  refine p_oload0 dX0_hasRoomForMan_0 ?_
  refine p_get fl_RX0_35 gf_manCount dX0_hasRoomForMan_1 ?_
  refine p_bipush (by decide) (by decide) dX0_hasRoomForMan_4 ?_
  refine p_icmp_ge ⟨by omega, by omega⟩ ⟨by omega, by omega⟩ 13 dX0_hasRoomForMan_6 (by decide) (fun c6 => ?_) (fun c6 => ?_)
  · refine p_iconst dX0_hasRoomForMan_13 ?_
    exact p_zret rfl (by first | exact nz0 | exact nz1 | exact nzb _) dX0_hasRoomForMan_14 (congrArg (fun z => some (vi z)) (by first | rfl | omega | (split <;> omega))) rfl
  · refine p_iconst dX0_hasRoomForMan_9 ?_
    refine p_goto 14 dX0_hasRoomForMan_10 (by decide) ?_
    exact p_zret rfl (by first | exact nz0 | exact nz1 | exact nzb _) dX0_hasRoomForMan_14 (congrArg (fun z => some (vi z)) (by first | rfl | omega | (split <;> omega))) rfl
set_option maxRecDepth 100000 in
set_option maxHeartbeats 4000000 in
theorem c_X0_hasRoomForSheep {G : GX} {S : St} {j : Fin 3} {b : Int} (hI : IR b (S j)) : Ev G mX0_hasRoomForSheep [rf G (fo j)] (mk G S) (some (vi (if S j 0 < 8 then 1 else 0))) (mk G (S)) := by
  have i0 := hI.1; have i1 := hI.2.1
  refine Ev.enter (by decide +kernel) (Nat.le_of_ble_eq_true rfl) (L := [some (rf G (fo j))]) rfl ?_
  refine p_oload0 dX0_hasRoomForSheep_0 ?_
  refine p_get fl_RX0_38 gf_sheepCount dX0_hasRoomForSheep_1 ?_
  refine p_bipush (by decide) (by decide) dX0_hasRoomForSheep_4 ?_
  refine p_icmp_ge ⟨by omega, by omega⟩ ⟨by omega, by omega⟩ 13 dX0_hasRoomForSheep_6 (by decide) (fun c6 => ?_) (fun c6 => ?_)
  · refine p_iconst dX0_hasRoomForSheep_13 ?_
    exact p_zret rfl (by first | exact nz0 | exact nz1 | exact nzb _) dX0_hasRoomForSheep_14 (congrArg (fun z => some (vi z)) (by first | rfl | omega | (split <;> omega))) rfl
  · refine p_iconst dX0_hasRoomForSheep_9 ?_
    refine p_goto 14 dX0_hasRoomForSheep_10 (by decide) ?_
    exact p_zret rfl (by first | exact nz0 | exact nz1 | exact nzb _) dX0_hasRoomForSheep_14 (congrArg (fun z => some (vi z)) (by first | rfl | omega | (split <;> omega))) rfl
set_option maxRecDepth 100000 in
set_option maxHeartbeats 4000000 in
theorem c_X0_isAsleep {G : GX} {S : St} {j : Fin 3} {b : Int} (hI : IR b (S j)) {p : Int} (h0 : 0 ≤ p) (h8 : p < 8) : Ev G mX0_isAsleep [rf G (fo j), vi p] (mk G S) (some (vi (if S j (18 + 3 * p) = 0 then 1 else 0))) (mk G (S)) := by
  have i6 := hI.2.2.2.2.2.2 p h0 h8
  refine Ev.enter (by decide +kernel) (Nat.le_of_ble_eq_true rfl) (L := [some (rf G (fo j)), some (vi p)]) rfl ?_
  refine p_oload0 dX0_isAsleep_0 ?_
  refine p_get fl_RX0_23 gf_wants dX0_isAsleep_1 ?_
  refine p_iload1 dX0_isAsleep_4 ?_
  refine p_iald al_wants (by omega) (by omega) dX0_isAsleep_5 ?_
  refine p_if_ne ⟨by omega, by omega⟩ 13 dX0_isAsleep_6 (by decide) (fun c6 => ?_) (fun c6 => ?_)
  · refine p_iconst dX0_isAsleep_13 ?_
    exact p_zret rfl (by first | exact nz0 | exact nz1 | exact nzb _) dX0_isAsleep_14 (congrArg (fun z => some (vi z)) (by first | rfl | omega | (split <;> omega))) rfl
  · refine p_iconst dX0_isAsleep_9 ?_
    refine p_goto 14 dX0_isAsleep_10 (by decide) ?_
    exact p_zret rfl (by first | exact nz0 | exact nz1 | exact nzb _) dX0_isAsleep_14 (congrArg (fun z => some (vi z)) (by first | rfl | omega | (split <;> omega))) rfl
set_option maxRecDepth 100000 in
set_option maxHeartbeats 4000000 in
theorem c_X0_canPass {G : GX} {S : St} {j : Fin 3} {b : Int} (hI : IR b (S j)) {m : Int} (h0 : 0 ≤ m) (h6 : m < 6) : Ev G mX0_canPass [rf G (fo j), vi m] (mk G S) (some (vi (if S j (6 + 2 * m) < 99 then 1 else 0))) (mk G (S)) := by
  have i5 := hI.2.2.2.2.2.1 m h0 h6
  refine Ev.enter (by decide +kernel) (Nat.le_of_ble_eq_true rfl) (L := [some (rf G (fo j)), some (vi m)]) rfl ?_
  refine p_oload0 dX0_canPass_0 ?_
  refine p_get fl_RX0_17 gf_wears dX0_canPass_1 ?_
  refine p_iload1 dX0_canPass_4 ?_
  refine p_iald al_wears (by omega) (by omega) dX0_canPass_5 ?_
  refine p_bipush (by decide) (by decide) dX0_canPass_6 ?_
  refine p_icmp_ge ⟨by omega, by omega⟩ ⟨by omega, by omega⟩ 15 dX0_canPass_8 (by decide) (fun c8 => ?_) (fun c8 => ?_)
  · refine p_iconst dX0_canPass_15 ?_
    exact p_zret rfl (by first | exact nz0 | exact nz1 | exact nzb _) dX0_canPass_16 (congrArg (fun z => some (vi z)) (by first | rfl | omega | (split <;> omega))) rfl
  · refine p_iconst dX0_canPass_11 ?_
    refine p_goto 16 dX0_canPass_12 (by decide) ?_
    exact p_zret rfl (by first | exact nz0 | exact nz1 | exact nzb _) dX0_canPass_16 (congrArg (fun z => some (vi z)) (by first | rfl | omega | (split <;> omega))) rfl
set_option maxRecDepth 100000 in
set_option maxHeartbeats 4000000 in
theorem c_X0_addMan {G : GX} {S : St} {j : Fin 3} {b : Int} (hI : IR b (S j)) {g w : Int} (hr : S j 1 < 6) : Ev G mX0_addMan [rf G (fo j), vi g, vi w] (mk G S) (some (vi (S j 1))) (mk G (va_up S j (uz (uz (uz (S j) (5 + 2 * S j 1) g) (6 + 2 * S j 1) w) 1 (S j 1 + 1)))) := by
  have i0 := hI.1; have i1 := hI.2.1
  refine Ev.enter (by decide +kernel) (Nat.le_of_ble_eq_true rfl) (L := [some (rf G (fo j)), some (vi g), some (vi w), none]) rfl ?_
  refine p_oload0 dX0_addMan_0 ?_
  refine p_get fl_RX0_35 gf_manCount dX0_addMan_1 ?_
  refine p_istore3 rfl (Nat.le_of_ble_eq_true rfl) dX0_addMan_4 ?_
  refine p_oload0 dX0_addMan_5 ?_
  refine p_cV0r (M2 := mX0_hasRoomForMan) ml_RX0_41 mc_X0_hasRoomForMan ⟨Nat.le_of_ble_eq_true rfl, Nat.le_of_ble_eq_true rfl⟩ (isO_fo _ _ _) (Nat.le_of_ble_eq_true rfl) dX0_addMan_6 (c_X0_hasRoomForMan hI) ?_
  refine p_bif_eq 36 dX0_addMan_9 (by decide) (fun c9 => absurd c9 (by omega)) (fun c9 => ?_)
  refine p_oload0 dX0_addMan_12 ?_
  refine p_get fl_RX0_13 gf_guises dX0_addMan_13 ?_
  refine p_iload3 dX0_addMan_16 ?_
  refine p_iload1 dX0_addMan_17 ?_
  refine p_iast al_guises (by omega) (by omega) (as_guises (by omega) (by omega)) dX0_addMan_18 ?_
  refine p_oload0 dX0_addMan_19 ?_
  refine p_get fl_RX0_17 gf_wears dX0_addMan_20 ?_
  refine p_iload3 dX0_addMan_23 ?_
  refine p_iload2 dX0_addMan_24 ?_
  refine p_iast al_wears (by omega) (by omega) (as_wears (by omega) (by omega)) dX0_addMan_25 ?_
  refine p_oload0 dX0_addMan_26 ?_
  refine p_dup rfl dX0_addMan_27 ?_
  refine p_get fl_RX0_35 gf_manCount dX0_addMan_28 ?_
  refine p_iconst dX0_addMan_31 ?_
  refine p_iadd dX0_addMan_32 ?_
  refine p_put fw_RX0_35 rfl rfl pf_manCount dX0_addMan_33 ?_
  refine p_iload3 dX0_addMan_36 ?_
  exact p_iret rfl dX0_addMan_37 (congrArg (fun z => some (vi z)) (by first | rfl | omega | (split <;> omega))) (congrArg (mk G) (by simp only [va_up_self, vup_up]; rw [uz_ne _ _ (by omega), uz_ne _ _ (by omega)]))
