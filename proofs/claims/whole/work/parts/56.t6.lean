theorem z_pW {G : GX} {S : St} {k x y l : Int} {p : P5} {v : Int} : put (mk G (Zt S k x y l p)) 31 4 13 (vi v) (mk G (Zt S k x y l (p.1, p.2.1, p.2.2.1, p.2.2.2.1, v))) := w5_isWrong (S := va_up S 9 p.1)
theorem z_pT {G : GX} {S : St} {k x y l : Int} {p : P5} {v : Int} : put (mk G (Zt S k x y l p)) 31 4 11 (vi v) (mk G (Zt S k x y l (p.1, p.2.1, v, p.2.2.2.1, p.2.2.2.2))) := w5_to (S := va_up S 9 p.1)
theorem z_pL {G : GX} {S : St} {k x y l : Int} {p : P5} {v : Int} : put (mk G (Zt S k x y l p)) 31 4 9 (vi v) (mk G (Zt S k x y v p)) := w5_taped (S := va_up S 9 p.1)
theorem c_token5 {G : GX} {S : St} {k x y l : Int} {p : P5} (hl : 0 ≤ l ∧ l ≤ 120) (hy : ∀ i, 0 ≤ i → i < 120 → 0 ≤ S 15 i ∧ S 15 i ≤ 255) (ht : 0 ≤ p.2.2.1 ∧ p.2.2.1 ≤ l) : Ev G mX5_token [rf G 31] (mk G (Zt S k x y l p)) none (mk G (Zt S k x y l (p.1, tkA (S 15) l p.2.2.1, tkB (S 15) l (tkA (S 15) l p.2.2.1), p.2.2.2.1, p.2.2.2.2))) := c_X5_token (S := va_up S 9 p.1) hl hy ht
theorem c_byte5 {G : GX} {S : St} {k x y l : Int} {p : P5} (hl : 0 ≤ l ∧ l ≤ 120) (hy : ∀ i, 0 ≤ i → i < 120 → 0 ≤ S 15 i ∧ S 15 i ≤ 255) {q : Int} (hq : 0 ≤ q ∧ q ≤ 120) : Ev G mX5_byteAt [rf G 31, vi q] (mk G (Zt S k x y l p)) (some (vi (bAt l (S 15) q))) (mk G (Zt S k x y l p)) := c_X5_byteAt (S := va_up S 9 p.1) hl hy hq
theorem c_saves5 {G : GX} {S : St} {k x y l : Int} {p : P5} : Ev G mX5_saves [rf G 31] (mk G (Zt S k x y l p)) none (mk G (Zt (va_up S 11 p.1) k x y l p)) := by
  have h := c_X5_saves (G := G) (S := va_up S 14 (mp k x y l p.2.1 p.2.2.1 p.2.2.2.1 p.2.2.2.2)) (r := p.1)
  rw [vup_swap S (by decide : (14 : Nat) ≠ 11), ← Zt_9, ← Zt_9] at h
  exact h
theorem c_puts5 {G : GX} {S : St} {k x y l : Int} {p : P5} {a : Row} : Ev G mX5_putsBack [rf G 31] (mk G (Zt (va_up S 11 a) k x y l p)) none (mk G (Zt (va_up S 11 a) k x y l (a, p.2))) := by
  have h := c_X5_putsBack (G := G) (S := va_up S 14 (mp k x y l p.2.1 p.2.2.1 p.2.2.2.1 p.2.2.2.2)) (a := a) (r := p.1)
  rw [vup_swap S (by decide : (14 : Nat) ≠ 11), ← Zt_9] at h
  rw [Zt_9 _ _ _ _ _ (a, p.2)]
  exact h
set_option maxRecDepth 100000 in
set_option maxHeartbeats 1000000 in
theorem t_fell59 {G : GX} {S : St} {k x y l i : Int} {q : P5} {a : Row} (hl : 0 ≤ l ∧ l ≤ 120) (hy : ∀ i, 0 ≤ i → i < 120 → 0 ≤ S 15 i ∧ S 15 i ≤ 255) (hq : wfp (S 15) l q) : Rn G mX5_fell 59 [some (rf G 31), some (vi i)] [] (mk G (Zt (va_up S 11 a) k x y l q)) (some (vi (felV l (i, q)))) (mk G (Zt (va_up S 11 a) k x y 0 (felE a l q))) := by
  have hq1 := hq.1.1; have hq2 := hq.2
  refine p_oload0 dX5_fell_59 ?_
  refine p_oload0 dX5_fell_60 ?_
  refine p_get fl_RX5_222 z_isWrong dX5_fell_61 ?_
  refine p_if_ne ⟨by omega, by omega⟩ 78 dX5_fell_64 (by decide) (fun c64 => ?_) (fun c64 => ?_)
  · have hW : felW l q := Or.inl c64
    unfold felV felE
    rw [if_pos hW, if_pos hW]
    refine p_iconst dX5_fell_78 ?_
    refine p_goto 83 dX5_fell_79 (by decide) ?_
    refine p_put fw_RX5_222 rfl rfl z_pW dX5_fell_83 ?_
    refine p_oload0 dX5_fell_86 ?_
    refine p_get fl_RX5_222 z_isWrong dX5_fell_87 ?_
    dsimp only
    refine p_if_eq ⟨by omega, by omega⟩ 97 dX5_fell_90 (by decide) (fun c90 => ?_) (fun c90 => ?_)
    · refine p_oload0 dX5_fell_97 ?_
      refine p_iconst dX5_fell_98 ?_
      refine p_put fw_RX5_196 rfl rfl z_pL dX5_fell_99 ?_
      refine p_oload0 dX5_fell_102 ?_
      refine p_get fl_RX5_222 z_isWrong dX5_fell_103 ?_
      dsimp only
      refine p_if_eq ⟨by omega, by omega⟩ 118 dX5_fell_106 (by decide) (fun c106 => ?_) (fun c106 => ?_)
      · refine p_iload1 dX5_fell_118 ?_
        (exfalso; omega)
      · refine p_iconst dX5_fell_109 ?_
        refine p_oload0 dX5_fell_110 ?_
        refine p_get fl_RX5_210 z_from dX5_fell_111 ?_
        dsimp only
        refine p_isub dX5_fell_114 ?_
        refine p_goto 119 dX5_fell_115 (by decide) ?_
        (exfalso; omega)
    · refine p_oload0 dX5_fell_93 ?_
      refine p_cV0v (M2 := mX5_putsBack) ml_RX5_294 mc_X5_putsBack ⟨Nat.le_of_ble_eq_true rfl, Nat.le_of_ble_eq_true rfl⟩ (isO_m _ _) (Nat.le_of_ble_eq_true rfl) dX5_fell_94 (c_puts5) ?_
      refine p_oload0 dX5_fell_97 ?_
      refine p_iconst dX5_fell_98 ?_
      refine p_put fw_RX5_196 rfl rfl z_pL dX5_fell_99 ?_
      refine p_oload0 dX5_fell_102 ?_
      refine p_get fl_RX5_222 z_isWrong dX5_fell_103 ?_
      dsimp only
      refine p_if_eq ⟨by omega, by omega⟩ 118 dX5_fell_106 (by decide) (fun c106 => ?_) (fun c106 => ?_)
      · refine p_iload1 dX5_fell_118 ?_
        (exfalso; omega)
      · refine p_iconst dX5_fell_109 ?_
        refine p_oload0 dX5_fell_110 ?_
        refine p_get fl_RX5_210 z_from dX5_fell_111 ?_
        dsimp only
        refine p_isub dX5_fell_114 ?_
        refine p_goto 119 dX5_fell_115 (by decide) ?_
        exact p_iret rfl dX5_fell_119 rfl rfl
  · refine p_oload0 dX5_fell_67 ?_
    refine p_get fl_RX5_210 z_from dX5_fell_68 ?_
    refine p_oload0 dX5_fell_71 ?_
    refine p_get fl_RX5_196 z_taped dX5_fell_72 ?_
    refine p_icmp_ge ⟨by omega, by omega⟩ ⟨by omega, by omega⟩ 82 dX5_fell_75 (by decide) (fun c75 => ?_) (fun c75 => ?_)
    · have hW : ¬ felW l q := fun z => by { unfold felW at z; omega }
      unfold felV felE
      rw [if_neg hW, if_neg hW]
      refine p_iconst dX5_fell_82 ?_
      refine p_put fw_RX5_222 rfl rfl z_pW dX5_fell_83 ?_
      refine p_oload0 dX5_fell_86 ?_
      refine p_get fl_RX5_222 z_isWrong dX5_fell_87 ?_
      dsimp only
      refine p_if_eq ⟨by omega, by omega⟩ 97 dX5_fell_90 (by decide) (fun c90 => ?_) (fun c90 => ?_)
      · refine p_oload0 dX5_fell_97 ?_
        refine p_iconst dX5_fell_98 ?_
        refine p_put fw_RX5_196 rfl rfl z_pL dX5_fell_99 ?_
        refine p_oload0 dX5_fell_102 ?_
        refine p_get fl_RX5_222 z_isWrong dX5_fell_103 ?_
        dsimp only
        refine p_if_eq ⟨by omega, by omega⟩ 118 dX5_fell_106 (by decide) (fun c106 => ?_) (fun c106 => ?_)
        · refine p_iload1 dX5_fell_118 ?_
          exact p_iret rfl dX5_fell_119 rfl rfl
        · refine p_iconst dX5_fell_109 ?_
          refine p_oload0 dX5_fell_110 ?_
          refine p_get fl_RX5_210 z_from dX5_fell_111 ?_
          dsimp only
          refine p_isub dX5_fell_114 ?_
          refine p_goto 119 dX5_fell_115 (by decide) ?_
          (exfalso; omega)
      · refine p_oload0 dX5_fell_93 ?_
        refine p_cV0v (M2 := mX5_putsBack) ml_RX5_294 mc_X5_putsBack ⟨Nat.le_of_ble_eq_true rfl, Nat.le_of_ble_eq_true rfl⟩ (isO_m _ _) (Nat.le_of_ble_eq_true rfl) dX5_fell_94 (c_puts5) ?_
        refine p_oload0 dX5_fell_97 ?_
        refine p_iconst dX5_fell_98 ?_
        refine p_put fw_RX5_196 rfl rfl z_pL dX5_fell_99 ?_
        refine p_oload0 dX5_fell_102 ?_
        refine p_get fl_RX5_222 z_isWrong dX5_fell_103 ?_
        dsimp only
        refine p_if_eq ⟨by omega, by omega⟩ 118 dX5_fell_106 (by decide) (fun c106 => ?_) (fun c106 => ?_)
        · refine p_iload1 dX5_fell_118 ?_
          (exfalso; omega)
        · refine p_iconst dX5_fell_109 ?_
          refine p_oload0 dX5_fell_110 ?_
          refine p_get fl_RX5_210 z_from dX5_fell_111 ?_
          dsimp only
          refine p_isub dX5_fell_114 ?_
          refine p_goto 119 dX5_fell_115 (by decide) ?_
          (exfalso; omega)
    · have hW : felW l q := Or.inr (by omega)
      unfold felV felE
      rw [if_pos hW, if_pos hW]
      refine p_iconst dX5_fell_78 ?_
      refine p_goto 83 dX5_fell_79 (by decide) ?_
      refine p_put fw_RX5_222 rfl rfl z_pW dX5_fell_83 ?_
      refine p_oload0 dX5_fell_86 ?_
      refine p_get fl_RX5_222 z_isWrong dX5_fell_87 ?_
      dsimp only
      refine p_if_eq ⟨by omega, by omega⟩ 97 dX5_fell_90 (by decide) (fun c90 => ?_) (fun c90 => ?_)
      · refine p_oload0 dX5_fell_97 ?_
        refine p_iconst dX5_fell_98 ?_
        refine p_put fw_RX5_196 rfl rfl z_pL dX5_fell_99 ?_
        refine p_oload0 dX5_fell_102 ?_
        refine p_get fl_RX5_222 z_isWrong dX5_fell_103 ?_
        dsimp only
        refine p_if_eq ⟨by omega, by omega⟩ 118 dX5_fell_106 (by decide) (fun c106 => ?_) (fun c106 => ?_)
        · refine p_iload1 dX5_fell_118 ?_
          (exfalso; omega)
        · refine p_iconst dX5_fell_109 ?_
          refine p_oload0 dX5_fell_110 ?_
          refine p_get fl_RX5_210 z_from dX5_fell_111 ?_
          dsimp only
          refine p_isub dX5_fell_114 ?_
          refine p_goto 119 dX5_fell_115 (by decide) ?_
          (exfalso; omega)
      · refine p_oload0 dX5_fell_93 ?_
        refine p_cV0v (M2 := mX5_putsBack) ml_RX5_294 mc_X5_putsBack ⟨Nat.le_of_ble_eq_true rfl, Nat.le_of_ble_eq_true rfl⟩ (isO_m _ _) (Nat.le_of_ble_eq_true rfl) dX5_fell_94 (c_puts5) ?_
        refine p_oload0 dX5_fell_97 ?_
        refine p_iconst dX5_fell_98 ?_
        refine p_put fw_RX5_196 rfl rfl z_pL dX5_fell_99 ?_
        refine p_oload0 dX5_fell_102 ?_
        refine p_get fl_RX5_222 z_isWrong dX5_fell_103 ?_
        dsimp only
        refine p_if_eq ⟨by omega, by omega⟩ 118 dX5_fell_106 (by decide) (fun c106 => ?_) (fun c106 => ?_)
        · refine p_iload1 dX5_fell_118 ?_
          (exfalso; omega)
        · refine p_iconst dX5_fell_109 ?_
          refine p_oload0 dX5_fell_110 ?_
          refine p_get fl_RX5_210 z_from dX5_fell_111 ?_
          dsimp only
          refine p_isub dX5_fell_114 ?_
          refine p_goto 119 dX5_fell_115 (by decide) ?_
          exact p_iret rfl dX5_fell_119 rfl rfl
set_option maxRecDepth 100000 in
set_option maxHeartbeats 1000000 in
theorem l_X5_fell {G : GX} {S : St} {k x y l b : Int} {a : Row} (hl : 0 ≤ l ∧ l ≤ 120) (hy : ∀ i, 0 ≤ i → i < 120 → 0 ≤ S 15 i ∧ S 15 i ≤ 255) : ∀ (n : Nat) (i : Int) (p : P5), wfp (S 15) l p → IR b p.1 → 1 ≤ i ∧ i ≤ 1000 - n → (p.2.2.2.2 ≠ 0 ∧ 0 < (n : Int) ∨ p.2.2.2.2 = 0 ∧ 16 - (p.1 0 + p.1 1) < (n : Int)) → Rn G mX5_fell 24 [some (rf G 31), some (vi i)] [] (mk G (Zt (va_up S 11 a) k x y l p)) (some (vi (felV l (felL (S 15) l n i p)))) (mk G (Zt (va_up S 11 a) k x y 0 (felE a l (felL (S 15) l n i p).2))) := by
  intro n
  induction n with
  | zero =>
    intro i p hp hI hi hm
    exfalso
    have i0 := hI.1; have i1 := hI.2.1; omega
  | succ n ih =>
    intro i p hp hI hi hm
    push_cast at hm hi
    have i0 := hI.1; have i1 := hI.2.1
    have hp1 := hp.1.1; have hp2 := hp.2
    have hA := bAt_sa l (S 15) (k := p.2.1) hp1.1
    have hbj := bAt_le hl hy (k := p.2.1) hp1.1
    refine p_oload0 dX5_fell_24 ?_
    refine p_get fl_RX5_222 z_isWrong dX5_fell_25 ?_
    refine p_if_ne ⟨by omega, by omega⟩ 59 dX5_fell_28 (by decide) (fun c28 => ?_) (fun c28 => ?_)
    · rw [fel_stop (fun z => c28 z.1)]
      exact t_fell59 hl hy hp
    · refine p_oload0 dX5_fell_31 ?_
      refine p_oload0 dX5_fell_32 ?_
      refine p_get fl_RX5_210 z_from dX5_fell_33 ?_
      refine p_cV1r (M2 := mX5_byteAt) ml_RX5_213 mc_X5_byteAt ⟨Nat.le_of_ble_eq_true rfl, Nat.le_of_ble_eq_true rfl⟩ (isO_m _ _) (Nat.le_of_ble_eq_true rfl) dX5_fell_36 (c_byte5 (S := va_up S 11 a) (p := p) (q := p.2.1) hl hy (by omega)) ?_
      rw [show bAt l ((va_up S 11 a) 15) p.2.1 = bAt l (S 15) p.2.1 from rfl]
      refine p_bipush (by decide) (by decide) dX5_fell_39 ?_
      refine p_icmp_ne ⟨by omega, by omega⟩ ⟨by omega, by omega⟩ 59 dX5_fell_41 (by decide) (fun c41 => ?_) (fun c41 => ?_)
      · rw [fel_stop (fun z => c41 (hA.2.2.1.mpr z.2))]
        exact t_fell59 hl hy hp
      · rw [felL, if_pos ⟨by omega, hA.2.2.1.mp (by omega)⟩]
        have hmu := wfp_must (v := 1) hp
        have hI2 := hI
        rw [← must_1 (S 15) l 1 p] at hI2
        have hit := item_IR (t := S 15) (l := l) hI2
        have hwi := wfp_item hmu
        have hwi2 := hwi.2
        rw [must_1] at hit
        refine p_oload0 dX5_fell_44 ?_
        refine p_iconst dX5_fell_45 ?_
        refine p_cV1v (M2 := mX5_must) ml_RX5_236 mc_X5_must ⟨Nat.le_of_ble_eq_true rfl, Nat.le_of_ble_eq_true rfl⟩ (isO_m _ _) (Nat.le_of_ble_eq_true rfl) dX5_fell_46 (c_must5 (S := va_up S 11 a) hl hy hp (Or.inr rfl)) ?_
        refine p_oload0 dX5_fell_49 ?_
        refine p_cV0v (M2 := mX5_item) ml_RX5_291 mc_X5_item ⟨Nat.le_of_ble_eq_true rfl, Nat.le_of_ble_eq_true rfl⟩ (isO_m _ _) (Nat.le_of_ble_eq_true rfl) dX5_fell_50 (c_X5_item (S := va_up S 11 a) (p := mustS (S 15) l 1 p) hl hy hmu hI2) ?_
        refine p_iinc1 rfl (Nat.le_of_ble_eq_true rfl) dX5_fell_53 ?_
        refine p_goto 24 dX5_fell_56 (by decide) ?_
        exact ih (i + 1) (itemS (S 15) l (mustS (S 15) l 1 p)) hwi hit.1 (by omega) (by rcases hwi2 with z | z; exact Or.inr ⟨z, by have := hit.2 z; omega⟩; exact Or.inl ⟨by omega, by omega⟩)
set_option maxRecDepth 100000 in
set_option maxHeartbeats 1000000 in
theorem c_X5_fell {G : GX} {S : St} {k x y l : Int} {p : P5} (hl : 0 ≤ l ∧ l ≤ 120) (hy : ∀ i, 0 ≤ i → i < 120 → 0 ≤ S 15 i ∧ S 15 i ≤ 255) {b : Int} (hI : IR b p.1) : Ev G mX5_fell [rf G 31] (mk G (Zt S k x y l p)) (some (vi (felV l (felL (S 15) l 120 1 (itemS (S 15) l (p.1, tkA (S 15) l 0, tkB (S 15) l (tkA (S 15) l 0), p.2.2.2.1, 0)))))) (mk G (Zt (va_up S 11 p.1) k x y 0 (felE p.1 l (felL (S 15) l 120 1 (itemS (S 15) l (p.1, tkA (S 15) l 0, tkB (S 15) l (tkA (S 15) l 0), p.2.2.2.1, 0))).2))) := by
  have hw0 : wfp (S 15) l (p.1, tkA (S 15) l 0, tkB (S 15) l (tkA (S 15) l 0), p.2.2.2.1, 0) := ⟨wf_adv (by omega) hl.1, Or.inl rfl⟩
  have hit := item_IR (t := S 15) (l := l) (p := (p.1, tkA (S 15) l 0, tkB (S 15) l (tkA (S 15) l 0), p.2.2.2.1, 0)) hI
  have hwi := wfp_item hw0
  have j := hit.1.1; have j1 := hit.1.2.1
  have hwi2 := hwi.2
  refine Ev.enter (by decide +kernel) (Nat.le_of_ble_eq_true rfl) (L := [some (rf G 31), none]) rfl ?_
  refine p_oload0 dX5_fell_0 ?_
  refine p_cV0v (M2 := mX5_saves) ml_RX5_288 mc_X5_saves ⟨Nat.le_of_ble_eq_true rfl, Nat.le_of_ble_eq_true rfl⟩ (isO_m _ _) (Nat.le_of_ble_eq_true rfl) dX5_fell_1 (c_saves5) ?_
  refine p_oload0 dX5_fell_4 ?_
  refine p_iconst dX5_fell_5 ?_
  refine p_put fw_RX5_222 rfl rfl z_pW dX5_fell_6 ?_
  refine p_oload0 dX5_fell_9 ?_
  refine p_iconst dX5_fell_10 ?_
  refine p_put fw_RX5_207 rfl rfl z_pT dX5_fell_11 ?_
  refine p_oload0 dX5_fell_14 ?_
  refine p_cV0v (M2 := mX5_token) ml_RX5_226 mc_X5_token ⟨Nat.le_of_ble_eq_true rfl, Nat.le_of_ble_eq_true rfl⟩ (isO_m _ _) (Nat.le_of_ble_eq_true rfl) dX5_fell_15 (c_token5 hl hy ⟨Int.le_refl 0, hl.1⟩) ?_
  refine p_iconst dX5_fell_18 ?_
  refine p_istore1 rfl (Nat.le_of_ble_eq_true rfl) dX5_fell_19 ?_
  refine p_oload0 dX5_fell_20 ?_
  refine p_cV0v (M2 := mX5_item) ml_RX5_291 mc_X5_item ⟨Nat.le_of_ble_eq_true rfl, Nat.le_of_ble_eq_true rfl⟩ (isO_m _ _) (Nat.le_of_ble_eq_true rfl) dX5_fell_21 (c_X5_item (S := va_up S 11 p.1) hl hy hw0 hI) ?_
  have h := l_X5_fell (G := G) (S := S) (k := k) (x := x) (y := y) (a := p.1) hl hy 120 1 (itemS (S 15) l (p.1, tkA (S 15) l 0, tkB (S 15) l (tkA (S 15) l 0), p.2.2.2.1, 0)) hwi hit.1 (by omega) (by rcases hwi2 with z | z; exact Or.inr ⟨z, by omega⟩; exact Or.inl ⟨by omega, by omega⟩)
  exact h
