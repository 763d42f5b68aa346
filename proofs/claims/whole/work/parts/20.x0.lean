set_option maxRecDepth 100000 in
set_option maxHeartbeats 4000000 in
theorem c_X1_isKind {G : GX} {S : St} {k : Int} (hk : inR k) : Ev G mX1_isKind [vi k] (mk G S) (some (vi (if 0 ≤ k ∧ k < 6 then 1 else 0))) (mk G (S)) := by
  obtain ⟨hk1, hk2⟩ := hk
  refine Ev.enter (by decide +kernel) (Nat.le_of_ble_eq_true rfl) (L := [some (vi k)]) rfl ?_
  refine p_iload0 dX1_isKind_0 ?_
  refine p_if_lt ⟨by omega, by omega⟩ 14 dX1_isKind_1 (by decide) (fun c1 => ?_) (fun c1 => ?_)
  · refine p_iconst dX1_isKind_14 ?_
    exact p_zret rfl (by first | exact nz0 | exact nz1 | exact nzb _) dX1_isKind_15 (congrArg (fun z => some (vi z)) (by first | rfl | omega | (split <;> omega))) rfl
  · refine p_iload0 dX1_isKind_4 ?_
    refine p_bipush (by decide) (by decide) dX1_isKind_5 ?_
    refine p_icmp_ge ⟨by omega, by omega⟩ ⟨by omega, by omega⟩ 14 dX1_isKind_7 (by decide) (fun c7 => ?_) (fun c7 => ?_)
    · refine p_iconst dX1_isKind_14 ?_
      exact p_zret rfl (by first | exact nz0 | exact nz1 | exact nzb _) dX1_isKind_15 (congrArg (fun z => some (vi z)) (by first | rfl | omega | (split <;> omega))) rfl
    · refine p_iconst dX1_isKind_10 ?_
      refine p_goto 15 dX1_isKind_11 (by decide) ?_
      exact p_zret rfl (by first | exact nz0 | exact nz1 | exact nzb _) dX1_isKind_15 (congrArg (fun z => some (vi z)) (by first | rfl | omega | (split <;> omega))) rfl
set_option maxRecDepth 100000 in
set_option maxHeartbeats 4000000 in
theorem c_X1_wakesBy {G : GX} {S : St} {k : Int} (hk : 0 ≤ k ∧ k ≤ 5) : Ev G mX1_wakesBy [vi k] (mk G S) (some (vi (tW k))) (mk G (S)) := by
  refine Ev.enter (by decide +kernel) (Nat.le_of_ble_eq_true rfl) (L := [some (vi k)]) rfl ?_
  refine p_iload0 dX1_wakesBy_0 ?_
  refine p_cS1r (M2 := mX1_isKind) ms_RX1_21 mc_X1_isKind ⟨Nat.le_of_ble_eq_true rfl, Nat.le_of_ble_eq_true rfl⟩ (Nat.le_of_ble_eq_true rfl) dX1_wakesBy_1 (c_X1_isKind ⟨by omega, by omega⟩) ?_
  refine p_bif_eq 15 dX1_wakesBy_4 (by decide) (fun c4 => absurd c4 (by omega)) (fun c4 => ?_)
  refine p_gsWAKES wt1_218 dX1_wakesBy_7 ?_
  refine p_iload0 dX1_wakesBy_10 ?_
  refine p_ldWAKES (by omega) (by omega) dX1_wakesBy_11 ?_
  refine p_goto 16 dX1_wakesBy_12 (by decide) ?_
  exact p_iret rfl dX1_wakesBy_16 (congrArg (fun z => some (vi z)) (by first | rfl | omega | (split <;> omega))) rfl
set_option maxRecDepth 100000 in
set_option maxHeartbeats 4000000 in
theorem c_X1_tiresBy {G : GX} {S : St} {k : Int} (hk : 0 ≤ k ∧ k ≤ 5) : Ev G mX1_tiresBy [vi k] (mk G S) (some (vi (tT k))) (mk G (S)) := by
  refine Ev.enter (by decide +kernel) (Nat.le_of_ble_eq_true rfl) (L := [some (vi k)]) rfl ?_
  refine p_iload0 dX1_tiresBy_0 ?_
  refine p_cS1r (M2 := mX1_isKind) ms_RX1_21 mc_X1_isKind ⟨Nat.le_of_ble_eq_true rfl, Nat.le_of_ble_eq_true rfl⟩ (Nat.le_of_ble_eq_true rfl) dX1_tiresBy_1 (c_X1_isKind ⟨by omega, by omega⟩) ?_
  refine p_bif_eq 15 dX1_tiresBy_4 (by decide) (fun c4 => absurd c4 (by omega)) (fun c4 => ?_)
  refine p_gsTIRES wt1_223 dX1_tiresBy_7 ?_
  refine p_iload0 dX1_tiresBy_10 ?_
  refine p_ldTIRES (by omega) (by omega) dX1_tiresBy_11 ?_
  refine p_goto 16 dX1_tiresBy_12 (by decide) ?_
  exact p_iret rfl dX1_tiresBy_16 (congrArg (fun z => some (vi z)) (by first | rfl | omega | (split <;> omega))) rfl
def eb1 (x : Int) : Int := x - bAnd (bUsr x 1) 1431655765
def eb2 (x : Int) : Int := bAnd x 858993459 + bAnd (bUsr x 2) 858993459
def eb3 (x : Int) : Int := bAnd (x + bUsr x 4) 252645135
def eb4 (x : Int) : Int := x + bUsr x 8
def eb5 (x : Int) : Int := x + bUsr x 16
theorem eb_all : ∀ n, n < 64 → bAnd (eb5 (eb4 (eb3 (eb2 (eb1 ((n : Nat) : Int)))))) 63 = pcn ((n : Nat) : Int) := by decide +kernel
theorem eb_eq {x : Int} (h0 : 0 ≤ x) (h1 : x < 64) : bAnd (eb5 (eb4 (eb3 (eb2 (eb1 x))))) 63 = pcn x := by
  have h := eb_all x.toNat (by omega)
  rwa [show ((x.toNat : Nat) : Int) = x by omega] at h
set_option maxRecDepth 100000 in
set_option maxHeartbeats 4000000 in
theorem c_J6_bitCount_0f7a4 {G : GX} {S : St} {x : Int} (h0 : 0 ≤ x) (h1 : x < 64) : Ev G mJ6_bitCount_0f7a4 [vi x] (mk G S) (some (vi (pcn x))) (mk G (S)) := by
  refine Ev.enter (by decide +kernel) (Nat.le_of_ble_eq_true rfl) (L := [some (vi x)]) rfl ?_
  refine p_iload0 dJ6_bitCount_0f7a4_0 ?_
  refine p_iload0 dJ6_bitCount_0f7a4_1 ?_
  refine p_iconst dJ6_bitCount_0f7a4_2 ?_
  refine p_iushr dJ6_bitCount_0f7a4_3 ?_
  refine p_ldcw wc_RJ6_265 dJ6_bitCount_0f7a4_4 ?_
  refine p_iand dJ6_bitCount_0f7a4_7 ?_
  refine p_isub dJ6_bitCount_0f7a4_8 ?_
  refine p_istore0 (Nat.le_of_ble_eq_true rfl) dJ6_bitCount_0f7a4_9 ?_
  refine p_iload0 dJ6_bitCount_0f7a4_10 ?_
  refine p_ldcw wc_RJ6_266 dJ6_bitCount_0f7a4_11 ?_
  refine p_iand dJ6_bitCount_0f7a4_14 ?_
  refine p_iload0 dJ6_bitCount_0f7a4_15 ?_
  refine p_iconst dJ6_bitCount_0f7a4_16 ?_
  refine p_iushr dJ6_bitCount_0f7a4_17 ?_
  refine p_ldcw wc_RJ6_266 dJ6_bitCount_0f7a4_18 ?_
  refine p_iand dJ6_bitCount_0f7a4_21 ?_
  refine p_iadd dJ6_bitCount_0f7a4_22 ?_
  refine p_istore0 (Nat.le_of_ble_eq_true rfl) dJ6_bitCount_0f7a4_23 ?_
  refine p_iload0 dJ6_bitCount_0f7a4_24 ?_
  refine p_iload0 dJ6_bitCount_0f7a4_25 ?_
  refine p_iconst dJ6_bitCount_0f7a4_26 ?_
  refine p_iushr dJ6_bitCount_0f7a4_27 ?_
  refine p_iadd dJ6_bitCount_0f7a4_28 ?_
  refine p_ldcw wc_RJ6_267 dJ6_bitCount_0f7a4_29 ?_
  refine p_iand dJ6_bitCount_0f7a4_32 ?_
  refine p_istore0 (Nat.le_of_ble_eq_true rfl) dJ6_bitCount_0f7a4_33 ?_
  refine p_iload0 dJ6_bitCount_0f7a4_34 ?_
  refine p_iload0 dJ6_bitCount_0f7a4_35 ?_
  refine p_bipush (by decide) (by decide) dJ6_bitCount_0f7a4_36 ?_
  refine p_iushr dJ6_bitCount_0f7a4_38 ?_
  refine p_iadd dJ6_bitCount_0f7a4_39 ?_
  refine p_istore0 (Nat.le_of_ble_eq_true rfl) dJ6_bitCount_0f7a4_40 ?_
  refine p_iload0 dJ6_bitCount_0f7a4_41 ?_
  refine p_iload0 dJ6_bitCount_0f7a4_42 ?_
  refine p_bipush (by decide) (by decide) dJ6_bitCount_0f7a4_43 ?_
  refine p_iushr dJ6_bitCount_0f7a4_45 ?_
  refine p_iadd dJ6_bitCount_0f7a4_46 ?_
  refine p_istore0 (Nat.le_of_ble_eq_true rfl) dJ6_bitCount_0f7a4_47 ?_
  refine p_iload0 dJ6_bitCount_0f7a4_48 ?_
  refine p_bipush (by decide) (by decide) dJ6_bitCount_0f7a4_49 ?_
  refine p_iand dJ6_bitCount_0f7a4_51 ?_
  exact p_iret rfl dJ6_bitCount_0f7a4_52 (congrArg (fun z => some (vi z)) (eb_eq h0 h1)) rfl
set_option maxRecDepth 100000 in
set_option maxHeartbeats 4000000 in
theorem c_X1_unlike {G : GX} {S : St} {g l : Int} (hg : 0 ≤ g ∧ g ≤ 7) (hl : -1 ≤ l ∧ l ≤ 7) : Ev G mX1_unlike [vi g, vi l] (mk G S) (some (vi (un g l))) (mk G (S)) := by
  refine Ev.enter (by decide +kernel) (Nat.le_of_ble_eq_true rfl) (L := [some (vi g), some (vi l)]) rfl ?_
  refine p_iload0 dX1_unlike_0 ?_
  refine p_iconst dX1_unlike_1 ?_
  refine p_icmp_eq ⟨by omega, by omega⟩ ⟨by omega, by omega⟩ 10 dX1_unlike_2 (by decide) (fun c2 => absurd c2 (by omega)) (fun c2 => ?_)
  refine p_iload1 dX1_unlike_5 ?_
  refine p_iconst dX1_unlike_6 ?_
  refine p_icmp_ne ⟨by omega, by omega⟩ ⟨by omega, by omega⟩ 14 dX1_unlike_7 (by decide) (fun c7 => ?_) (fun c7 => ?_)
  · refine p_iload0 dX1_unlike_14 ?_
    refine p_iload1 dX1_unlike_15 ?_
    refine p_ixor dX1_unlike_16 ?_
    refine p_cS1r (M2 := mJ6_bitCount_0f7a4) ms_RX1_35 mc_J6_bitCount_0f7a4 ⟨Nat.le_of_ble_eq_true rfl, Nat.le_of_ble_eq_true rfl⟩ (Nat.le_of_ble_eq_true rfl) dX1_unlike_17 (c_J6_bitCount_0f7a4 (bXor_le hg (by omega)).1 (by have := (bXor_le hg (by omega : 0 ≤ l ∧ l ≤ 7)).2; omega)) ?_
    exact p_iret rfl dX1_unlike_20 (congrArg (fun z => some (vi z)) (by unfold un; first | (rw [if_pos (by omega)]; done) | (rw [if_neg (by omega)]; done))) rfl
  · refine p_iconst dX1_unlike_10 ?_
    refine p_goto 20 dX1_unlike_11 (by decide) ?_
    exact p_iret rfl dX1_unlike_20 (congrArg (fun z => some (vi z)) (by unfold un; first | (rw [if_pos (by omega)]; done) | (rw [if_neg (by omega)]; done))) rfl
set_option maxRecDepth 100000 in
set_option maxHeartbeats 4000000 in
theorem t_takesOff {G : GX} {S : St} {k g u m : Int} (hk : 0 ≤ k ∧ k ≤ 5) (hu : 0 ≤ u ∧ u ≤ 6) (hm : 0 ≤ m ∧ m ≤ 1000000) {ch sk dg : Int} (hc : ch = if u = 0 then 0 else 1 + u) (hs : sk = stk g) (hd : dg = dgk g) : Rn G mX1_takesOff 43 [some (vi k), some (vi g), some (vi u), some (vi m), some (vi (1 + u)), some (vi ch), some (vi sk), some (vi dg)] [] (mk G (S)) (some (vi (tk k g u m))) (mk G (S)) := by
  have h1 := stk_le g
  have h2 := dgk_le g
  have h3 := bAnd_lo m (by omega) (by omega)
  have h4 : 0 ≤ bAnd m 1 ∧ bAnd m 1 ≤ 1 := by omega
  refine p_iload0 dX1_takesOff_43 ?_
  rcases (show k = 1 ∨ k = 2 ∨ k = 3 ∨ k = 4 ∨ k = 5 ∨ (k < 1 ∨ 5 < k) by omega) with c44 | c44 | c44 | c44 | c44 | c44
  · refine p_tswI ⟨by omega, by omega⟩ 0 80 dX1_takesOff_44 (by omega) (by decide) rfl (by decide) ?_
    refine p_iload4 dX1_takesOff_80 ?_
    refine p_iload6 dX1_takesOff_82 ?_
    refine p_iadd dX1_takesOff_84 ?_
    exact p_iret rfl dX1_takesOff_85 (congrArg (fun z => some (vi z)) (by subst c44; unfold tk; simp only [hc, hs, hd]; rfl)) rfl
  · refine p_tswI ⟨by omega, by omega⟩ 1 86 dX1_takesOff_44 (by omega) (by decide) rfl (by decide) ?_
    refine p_iconst dX1_takesOff_86 ?_
    refine p_iload4 dX1_takesOff_87 ?_
    refine p_imul dX1_takesOff_89 ?_
    exact p_iret rfl dX1_takesOff_90 (congrArg (fun z => some (vi z)) (by subst c44; unfold tk; simp only [hc, hs, hd]; rfl)) rfl
  · refine p_tswI ⟨by omega, by omega⟩ 2 91 dX1_takesOff_44 (by omega) (by decide) rfl (by decide) ?_
    refine p_iload5 dX1_takesOff_91 ?_
    exact p_iret rfl dX1_takesOff_93 (congrArg (fun z => some (vi z)) (by subst c44; unfold tk; simp only [hc, hs, hd]; rfl)) rfl
  · refine p_tswI ⟨by omega, by omega⟩ 3 94 dX1_takesOff_44 (by omega) (by decide) rfl (by decide) ?_
    refine p_iconst dX1_takesOff_94 ?_
    refine p_iload4 dX1_takesOff_95 ?_
    refine p_iload6 dX1_takesOff_97 ?_
    refine p_iadd dX1_takesOff_99 ?_
    refine p_iload3 dX1_takesOff_100 ?_
    refine p_iconst dX1_takesOff_101 ?_
    refine p_iand dX1_takesOff_102 ?_
    refine p_isub dX1_takesOff_103 ?_
    refine p_mmax ⟨by omega, by omega⟩ ⟨by omega, by omega⟩ wt2_19 wt2_20 wt1_8 wt2_21 (Nat.le_of_ble_eq_true rfl) (Nat.le_of_ble_eq_true rfl) dX1_takesOff_104 ?_
    exact p_iret rfl dX1_takesOff_107 (congrArg (fun z => some (vi z)) (by subst c44; unfold tk; simp; split <;> omega)) rfl
  · refine p_tswI ⟨by omega, by omega⟩ 4 108 dX1_takesOff_44 (by omega) (by decide) rfl (by decide) ?_
    refine p_iload5 dX1_takesOff_108 ?_
    refine p_iload7 dX1_takesOff_110 ?_
    refine p_iadd dX1_takesOff_112 ?_
    exact p_iret rfl dX1_takesOff_113 (congrArg (fun z => some (vi z)) (by subst c44; unfold tk; simp only [hc, hs, hd]; rfl)) rfl
  · refine p_tswO ⟨by omega, by omega⟩ 114 dX1_takesOff_44 (by omega) (by decide) ?_
    refine p_iload4 dX1_takesOff_114 ?_
    exact p_iret rfl dX1_takesOff_116 (congrArg (fun z => some (vi z)) (by unfold tk; simp only [show ¬ k = 1 by omega, show ¬ k = 2 by omega, show ¬ k = 3 by omega, show ¬ k = 4 by omega, show ¬ k = 5 by omega, if_false])) rfl
set_option maxRecDepth 100000 in
set_option maxHeartbeats 4000000 in
theorem c_X1_takesOff {G : GX} {S : St} {k g u m : Int} (hk : 0 ≤ k ∧ k ≤ 5) (hu : 0 ≤ u ∧ u ≤ 6) (hm : 0 ≤ m ∧ m ≤ 1000000) : Ev G mX1_takesOff [vi k, vi g, vi u, vi m] (mk G S) (some (vi (tk k g u m))) (mk G (S)) := by
  refine Ev.enter (by decide +kernel) (Nat.le_of_ble_eq_true rfl) (L := [some (vi k), some (vi g), some (vi u), some (vi m), none, none, none, none]) rfl ?_
  refine p_iconst dX1_takesOff_0 ?_
  refine p_iload2 dX1_takesOff_1 ?_
  refine p_iadd dX1_takesOff_2 ?_
  refine p_istore4 rfl (Nat.le_of_ble_eq_true rfl) dX1_takesOff_3 ?_
  refine p_iload2 dX1_takesOff_5 ?_
  refine p_if_ne ⟨by omega, by omega⟩ 13 dX1_takesOff_6 (by decide) (fun c6 => ?_) (fun c6 => ?_)
  · refine p_iload4 dX1_takesOff_13 ?_
    refine p_istore5 rfl (Nat.le_of_ble_eq_true rfl) dX1_takesOff_15 ?_
    refine p_iload1 dX1_takesOff_17 ?_
    refine p_iconst dX1_takesOff_18 ?_
    refine p_iand dX1_takesOff_19 ?_
    refine p_if_eq (bAnd_in _ _) 27 dX1_takesOff_20 (by decide) (fun c20 => ?_) (fun c20 => ?_)
    · refine p_iconst dX1_takesOff_27 ?_
      refine p_istore6 rfl (Nat.le_of_ble_eq_true rfl) dX1_takesOff_28 ?_
      refine p_iload1 dX1_takesOff_30 ?_
      refine p_iconst dX1_takesOff_31 ?_
      refine p_iand dX1_takesOff_32 ?_
      refine p_if_eq (bAnd_in _ _) 40 dX1_takesOff_33 (by decide) (fun c33 => ?_) (fun c33 => ?_)
      · refine p_iconst dX1_takesOff_40 ?_
        refine p_istore7 rfl (Nat.le_of_ble_eq_true rfl) dX1_takesOff_41 ?_
        exact t_takesOff hk hu hm (by first | (rw [if_pos (by omega)]; done) | (rw [if_neg (by omega)]; done)) (by unfold stk; first | (rw [if_pos (by omega)]; done) | (rw [if_neg (by omega)]; done)) (by unfold dgk; first | (rw [if_pos (by omega)]; done) | (rw [if_neg (by omega)]; done))
      · refine p_iconst dX1_takesOff_36 ?_
        refine p_goto 41 dX1_takesOff_37 (by decide) ?_
        refine p_istore7 rfl (Nat.le_of_ble_eq_true rfl) dX1_takesOff_41 ?_
        exact t_takesOff hk hu hm (by first | (rw [if_pos (by omega)]; done) | (rw [if_neg (by omega)]; done)) (by unfold stk; first | (rw [if_pos (by omega)]; done) | (rw [if_neg (by omega)]; done)) (by unfold dgk; first | (rw [if_pos (by omega)]; done) | (rw [if_neg (by omega)]; done))
    · refine p_iconst dX1_takesOff_23 ?_
      refine p_goto 28 dX1_takesOff_24 (by decide) ?_
      refine p_istore6 rfl (Nat.le_of_ble_eq_true rfl) dX1_takesOff_28 ?_
      refine p_iload1 dX1_takesOff_30 ?_
      refine p_iconst dX1_takesOff_31 ?_
      refine p_iand dX1_takesOff_32 ?_
      refine p_if_eq (bAnd_in _ _) 40 dX1_takesOff_33 (by decide) (fun c33 => ?_) (fun c33 => ?_)
      · refine p_iconst dX1_takesOff_40 ?_
        refine p_istore7 rfl (Nat.le_of_ble_eq_true rfl) dX1_takesOff_41 ?_
        exact t_takesOff hk hu hm (by first | (rw [if_pos (by omega)]; done) | (rw [if_neg (by omega)]; done)) (by unfold stk; first | (rw [if_pos (by omega)]; done) | (rw [if_neg (by omega)]; done)) (by unfold dgk; first | (rw [if_pos (by omega)]; done) | (rw [if_neg (by omega)]; done))
      · refine p_iconst dX1_takesOff_36 ?_
        refine p_goto 41 dX1_takesOff_37 (by decide) ?_
        refine p_istore7 rfl (Nat.le_of_ble_eq_true rfl) dX1_takesOff_41 ?_
        exact t_takesOff hk hu hm (by first | (rw [if_pos (by omega)]; done) | (rw [if_neg (by omega)]; done)) (by unfold stk; first | (rw [if_pos (by omega)]; done) | (rw [if_neg (by omega)]; done)) (by unfold dgk; first | (rw [if_pos (by omega)]; done) | (rw [if_neg (by omega)]; done))
  · refine p_iconst dX1_takesOff_9 ?_
    refine p_goto 15 dX1_takesOff_10 (by decide) ?_
    refine p_istore5 rfl (Nat.le_of_ble_eq_true rfl) dX1_takesOff_15 ?_
    refine p_iload1 dX1_takesOff_17 ?_
    refine p_iconst dX1_takesOff_18 ?_
    refine p_iand dX1_takesOff_19 ?_
    refine p_if_eq (bAnd_in _ _) 27 dX1_takesOff_20 (by decide) (fun c20 => ?_) (fun c20 => ?_)
    · refine p_iconst dX1_takesOff_27 ?_
      refine p_istore6 rfl (Nat.le_of_ble_eq_true rfl) dX1_takesOff_28 ?_
      refine p_iload1 dX1_takesOff_30 ?_
      refine p_iconst dX1_takesOff_31 ?_
      refine p_iand dX1_takesOff_32 ?_
      refine p_if_eq (bAnd_in _ _) 40 dX1_takesOff_33 (by decide) (fun c33 => ?_) (fun c33 => ?_)
      · refine p_iconst dX1_takesOff_40 ?_
        refine p_istore7 rfl (Nat.le_of_ble_eq_true rfl) dX1_takesOff_41 ?_
        exact t_takesOff hk hu hm (by first | (rw [if_pos (by omega)]; done) | (rw [if_neg (by omega)]; done)) (by unfold stk; first | (rw [if_pos (by omega)]; done) | (rw [if_neg (by omega)]; done)) (by unfold dgk; first | (rw [if_pos (by omega)]; done) | (rw [if_neg (by omega)]; done))
      · refine p_iconst dX1_takesOff_36 ?_
        refine p_goto 41 dX1_takesOff_37 (by decide) ?_
        refine p_istore7 rfl (Nat.le_of_ble_eq_true rfl) dX1_takesOff_41 ?_
        exact t_takesOff hk hu hm (by first | (rw [if_pos (by omega)]; done) | (rw [if_neg (by omega)]; done)) (by unfold stk; first | (rw [if_pos (by omega)]; done) | (rw [if_neg (by omega)]; done)) (by unfold dgk; first | (rw [if_pos (by omega)]; done) | (rw [if_neg (by omega)]; done))
    · refine p_iconst dX1_takesOff_23 ?_
      refine p_goto 28 dX1_takesOff_24 (by decide) ?_
      refine p_istore6 rfl (Nat.le_of_ble_eq_true rfl) dX1_takesOff_28 ?_
      refine p_iload1 dX1_takesOff_30 ?_
      refine p_iconst dX1_takesOff_31 ?_
      refine p_iand dX1_takesOff_32 ?_
      refine p_if_eq (bAnd_in _ _) 40 dX1_takesOff_33 (by decide) (fun c33 => ?_) (fun c33 => ?_)
      · refine p_iconst dX1_takesOff_40 ?_
        refine p_istore7 rfl (Nat.le_of_ble_eq_true rfl) dX1_takesOff_41 ?_
        exact t_takesOff hk hu hm (by first | (rw [if_pos (by omega)]; done) | (rw [if_neg (by omega)]; done)) (by unfold stk; first | (rw [if_pos (by omega)]; done) | (rw [if_neg (by omega)]; done)) (by unfold dgk; first | (rw [if_pos (by omega)]; done) | (rw [if_neg (by omega)]; done))
      · refine p_iconst dX1_takesOff_36 ?_
        refine p_goto 41 dX1_takesOff_37 (by decide) ?_
        refine p_istore7 rfl (Nat.le_of_ble_eq_true rfl) dX1_takesOff_41 ?_
        exact t_takesOff hk hu hm (by first | (rw [if_pos (by omega)]; done) | (rw [if_neg (by omega)]; done)) (by unfold stk; first | (rw [if_pos (by omega)]; done) | (rw [if_neg (by omega)]; done)) (by unfold dgk; first | (rw [if_pos (by omega)]; done) | (rw [if_neg (by omega)]; done))
abbrev isu (k o : Int) : Prop := o = 0 ∨ k = o ∨ (k = 4 ∧ o = 1) ∨ (k = 5 ∧ o = 3)
set_option maxRecDepth 100000 in
set_option maxHeartbeats 4000000 in
theorem t_isOf_m {G : GX} {S : St} {k0 o t : Int} (ho : 0 ≤ o ∧ o ≤ 5) (ht : 0 ≤ t ∧ t ≤ 6) : Rn G mX1_isOf 4 [some (vi k0), some (vi o), some (vi (-1)), some (vi t)] [] (mk G (S)) (some (vi 0)) (mk G (S)) := by
  refine p_iload3 dX1_isOf_4 ?_
  refine p_bipush (by decide) (by decide) dX1_isOf_5 ?_
  refine p_icmp_ge ⟨by omega, by omega⟩ ⟨by omega, by omega⟩ 36 dX1_isOf_7 (by decide) (fun c7 => ?_) (fun c7 => ?_)
  · refine p_iconst dX1_isOf_36 ?_
    exact p_zret rfl (by first | exact nz0 | exact nz1 | exact nzb _) dX1_isOf_37 (congrArg (fun z => some (vi z)) (by first | rfl | omega | (split <;> omega))) rfl
  · refine p_iload2 dX1_isOf_10 ?_
    refine p_cS1r (M2 := mX1_isKind) ms_RX1_21 mc_X1_isKind ⟨Nat.le_of_ble_eq_true rfl, Nat.le_of_ble_eq_true rfl⟩ (Nat.le_of_ble_eq_true rfl) dX1_isOf_11 (c_X1_isKind ⟨by omega, by omega⟩) ?_
    refine p_bif_eq 36 dX1_isOf_14 (by decide) (fun c14 => ?_) (fun c14 => absurd c14 (by omega))
    refine p_iconst dX1_isOf_36 ?_
    exact p_zret rfl (by first | exact nz0 | exact nz1 | exact nzb _) dX1_isOf_37 (congrArg (fun z => some (vi z)) (by first | rfl | omega | (split <;> omega))) rfl
set_option maxRecDepth 100000 in
set_option maxHeartbeats 4000000 in
theorem t_isOf_0 {G : GX} {S : St} {k0 o t : Int} (ho : 0 ≤ o ∧ o ≤ 5) (ht : 0 ≤ t ∧ t ≤ 5) : Rn G mX1_isOf 4 [some (vi k0), some (vi o), some (vi 0), some (vi t)] [] (mk G (S)) (some (vi (if isu 0 o then 1 else 0))) (mk G (S)) := by
  refine p_iload3 dX1_isOf_4 ?_
  refine p_bipush (by decide) (by decide) dX1_isOf_5 ?_
  refine p_icmp_ge ⟨by omega, by omega⟩ ⟨by omega, by omega⟩ 36 dX1_isOf_7 (by decide) (fun c7 => absurd c7 (by omega)) (fun c7 => ?_)
  refine p_iload2 dX1_isOf_10 ?_
  refine p_cS1r (M2 := mX1_isKind) ms_RX1_21 mc_X1_isKind ⟨Nat.le_of_ble_eq_true rfl, Nat.le_of_ble_eq_true rfl⟩ (Nat.le_of_ble_eq_true rfl) dX1_isOf_11 (c_X1_isKind ⟨by omega, by omega⟩) ?_
  refine p_bif_eq 36 dX1_isOf_14 (by decide) (fun c14 => absurd c14 (by omega)) (fun c14 => ?_)
  refine p_iload2 dX1_isOf_17 ?_
  refine p_iload1 dX1_isOf_18 ?_
  refine p_icmp_ne ⟨by omega, by omega⟩ ⟨by omega, by omega⟩ 24 dX1_isOf_19 (by decide) (fun c19 => ?_) (fun c19 => ?_)
  · refine p_gsABOVE wt2_0 dX1_isOf_24 ?_
    refine p_iload2 dX1_isOf_27 ?_
    refine p_ldABOVE (by omega) (by omega) dX1_isOf_28 ?_
    refine p_istore2 rfl (Nat.le_of_ble_eq_true rfl) dX1_isOf_29 ?_
    refine p_iinc3 rfl (Nat.le_of_ble_eq_true rfl) dX1_isOf_30 ?_
    refine p_goto 4 dX1_isOf_33 (by decide) ?_
    have h := t_isOf_m (G := G) (S := S) (k0 := k0) (t := t + 1) ho (by omega); rw [if_neg (by omega)]; exact h
  · refine p_iconst dX1_isOf_22 ?_
    exact p_zret rfl (by first | exact nz0 | exact nz1 | exact nzb _) dX1_isOf_23 (congrArg (fun z => some (vi z)) (by first | rfl | omega | (split <;> omega))) rfl
set_option maxRecDepth 100000 in
set_option maxHeartbeats 4000000 in
theorem t_isOf_1 {G : GX} {S : St} {k0 o t : Int} (ho : 0 ≤ o ∧ o ≤ 5) (ht : 0 ≤ t ∧ t ≤ 4) : Rn G mX1_isOf 4 [some (vi k0), some (vi o), some (vi 1), some (vi t)] [] (mk G (S)) (some (vi (if isu 1 o then 1 else 0))) (mk G (S)) := by
  refine p_iload3 dX1_isOf_4 ?_
  refine p_bipush (by decide) (by decide) dX1_isOf_5 ?_
  refine p_icmp_ge ⟨by omega, by omega⟩ ⟨by omega, by omega⟩ 36 dX1_isOf_7 (by decide) (fun c7 => absurd c7 (by omega)) (fun c7 => ?_)
  refine p_iload2 dX1_isOf_10 ?_
  refine p_cS1r (M2 := mX1_isKind) ms_RX1_21 mc_X1_isKind ⟨Nat.le_of_ble_eq_true rfl, Nat.le_of_ble_eq_true rfl⟩ (Nat.le_of_ble_eq_true rfl) dX1_isOf_11 (c_X1_isKind ⟨by omega, by omega⟩) ?_
  refine p_bif_eq 36 dX1_isOf_14 (by decide) (fun c14 => absurd c14 (by omega)) (fun c14 => ?_)
  refine p_iload2 dX1_isOf_17 ?_
  refine p_iload1 dX1_isOf_18 ?_
  refine p_icmp_ne ⟨by omega, by omega⟩ ⟨by omega, by omega⟩ 24 dX1_isOf_19 (by decide) (fun c19 => ?_) (fun c19 => ?_)
  · refine p_gsABOVE wt2_0 dX1_isOf_24 ?_
    refine p_iload2 dX1_isOf_27 ?_
    refine p_ldABOVE (by omega) (by omega) dX1_isOf_28 ?_
    refine p_istore2 rfl (Nat.le_of_ble_eq_true rfl) dX1_isOf_29 ?_
    refine p_iinc3 rfl (Nat.le_of_ble_eq_true rfl) dX1_isOf_30 ?_
    refine p_goto 4 dX1_isOf_33 (by decide) ?_
    have h := t_isOf_0 (G := G) (S := S) (k0 := k0) (t := t + 1) ho (by omega); rw [show (if isu 1 o then (1 : Int) else 0) = (if isu 0 o then 1 else 0) by split <;> split <;> omega]; exact h
  · refine p_iconst dX1_isOf_22 ?_
    exact p_zret rfl (by first | exact nz0 | exact nz1 | exact nzb _) dX1_isOf_23 (congrArg (fun z => some (vi z)) (by first | rfl | omega | (split <;> omega))) rfl
set_option maxRecDepth 100000 in
set_option maxHeartbeats 4000000 in
theorem t_isOf_2 {G : GX} {S : St} {k0 o t : Int} (ho : 0 ≤ o ∧ o ≤ 5) (ht : 0 ≤ t ∧ t ≤ 4) : Rn G mX1_isOf 4 [some (vi k0), some (vi o), some (vi 2), some (vi t)] [] (mk G (S)) (some (vi (if isu 2 o then 1 else 0))) (mk G (S)) := by
  refine p_iload3 dX1_isOf_4 ?_
  refine p_bipush (by decide) (by decide) dX1_isOf_5 ?_
  refine p_icmp_ge ⟨by omega, by omega⟩ ⟨by omega, by omega⟩ 36 dX1_isOf_7 (by decide) (fun c7 => absurd c7 (by omega)) (fun c7 => ?_)
  refine p_iload2 dX1_isOf_10 ?_
  refine p_cS1r (M2 := mX1_isKind) ms_RX1_21 mc_X1_isKind ⟨Nat.le_of_ble_eq_true rfl, Nat.le_of_ble_eq_true rfl⟩ (Nat.le_of_ble_eq_true rfl) dX1_isOf_11 (c_X1_isKind ⟨by omega, by omega⟩) ?_
  refine p_bif_eq 36 dX1_isOf_14 (by decide) (fun c14 => absurd c14 (by omega)) (fun c14 => ?_)
  refine p_iload2 dX1_isOf_17 ?_
  refine p_iload1 dX1_isOf_18 ?_
  refine p_icmp_ne ⟨by omega, by omega⟩ ⟨by omega, by omega⟩ 24 dX1_isOf_19 (by decide) (fun c19 => ?_) (fun c19 => ?_)
  · refine p_gsABOVE wt2_0 dX1_isOf_24 ?_
    refine p_iload2 dX1_isOf_27 ?_
    refine p_ldABOVE (by omega) (by omega) dX1_isOf_28 ?_
    refine p_istore2 rfl (Nat.le_of_ble_eq_true rfl) dX1_isOf_29 ?_
    refine p_iinc3 rfl (Nat.le_of_ble_eq_true rfl) dX1_isOf_30 ?_
    refine p_goto 4 dX1_isOf_33 (by decide) ?_
    have h := t_isOf_0 (G := G) (S := S) (k0 := k0) (t := t + 1) ho (by omega); rw [show (if isu 2 o then (1 : Int) else 0) = (if isu 0 o then 1 else 0) by split <;> split <;> omega]; exact h
  · refine p_iconst dX1_isOf_22 ?_
    exact p_zret rfl (by first | exact nz0 | exact nz1 | exact nzb _) dX1_isOf_23 (congrArg (fun z => some (vi z)) (by first | rfl | omega | (split <;> omega))) rfl
set_option maxRecDepth 100000 in
set_option maxHeartbeats 4000000 in
theorem t_isOf_3 {G : GX} {S : St} {k0 o t : Int} (ho : 0 ≤ o ∧ o ≤ 5) (ht : 0 ≤ t ∧ t ≤ 4) : Rn G mX1_isOf 4 [some (vi k0), some (vi o), some (vi 3), some (vi t)] [] (mk G (S)) (some (vi (if isu 3 o then 1 else 0))) (mk G (S)) := by
  refine p_iload3 dX1_isOf_4 ?_
  refine p_bipush (by decide) (by decide) dX1_isOf_5 ?_
  refine p_icmp_ge ⟨by omega, by omega⟩ ⟨by omega, by omega⟩ 36 dX1_isOf_7 (by decide) (fun c7 => absurd c7 (by omega)) (fun c7 => ?_)
  refine p_iload2 dX1_isOf_10 ?_
  refine p_cS1r (M2 := mX1_isKind) ms_RX1_21 mc_X1_isKind ⟨Nat.le_of_ble_eq_true rfl, Nat.le_of_ble_eq_true rfl⟩ (Nat.le_of_ble_eq_true rfl) dX1_isOf_11 (c_X1_isKind ⟨by omega, by omega⟩) ?_
  refine p_bif_eq 36 dX1_isOf_14 (by decide) (fun c14 => absurd c14 (by omega)) (fun c14 => ?_)
  refine p_iload2 dX1_isOf_17 ?_
  refine p_iload1 dX1_isOf_18 ?_
  refine p_icmp_ne ⟨by omega, by omega⟩ ⟨by omega, by omega⟩ 24 dX1_isOf_19 (by decide) (fun c19 => ?_) (fun c19 => ?_)
  · refine p_gsABOVE wt2_0 dX1_isOf_24 ?_
    refine p_iload2 dX1_isOf_27 ?_
    refine p_ldABOVE (by omega) (by omega) dX1_isOf_28 ?_
    refine p_istore2 rfl (Nat.le_of_ble_eq_true rfl) dX1_isOf_29 ?_
    refine p_iinc3 rfl (Nat.le_of_ble_eq_true rfl) dX1_isOf_30 ?_
    refine p_goto 4 dX1_isOf_33 (by decide) ?_
    have h := t_isOf_0 (G := G) (S := S) (k0 := k0) (t := t + 1) ho (by omega); rw [show (if isu 3 o then (1 : Int) else 0) = (if isu 0 o then 1 else 0) by split <;> split <;> omega]; exact h
  · refine p_iconst dX1_isOf_22 ?_
    exact p_zret rfl (by first | exact nz0 | exact nz1 | exact nzb _) dX1_isOf_23 (congrArg (fun z => some (vi z)) (by first | rfl | omega | (split <;> omega))) rfl
set_option maxRecDepth 100000 in
set_option maxHeartbeats 4000000 in
theorem t_isOf_4 {G : GX} {S : St} {k0 o t : Int} (ho : 0 ≤ o ∧ o ≤ 5) (ht : 0 ≤ t ∧ t ≤ 3) : Rn G mX1_isOf 4 [some (vi k0), some (vi o), some (vi 4), some (vi t)] [] (mk G (S)) (some (vi (if isu 4 o then 1 else 0))) (mk G (S)) := by
  refine p_iload3 dX1_isOf_4 ?_
  refine p_bipush (by decide) (by decide) dX1_isOf_5 ?_
  refine p_icmp_ge ⟨by omega, by omega⟩ ⟨by omega, by omega⟩ 36 dX1_isOf_7 (by decide) (fun c7 => absurd c7 (by omega)) (fun c7 => ?_)
  refine p_iload2 dX1_isOf_10 ?_
  refine p_cS1r (M2 := mX1_isKind) ms_RX1_21 mc_X1_isKind ⟨Nat.le_of_ble_eq_true rfl, Nat.le_of_ble_eq_true rfl⟩ (Nat.le_of_ble_eq_true rfl) dX1_isOf_11 (c_X1_isKind ⟨by omega, by omega⟩) ?_
  refine p_bif_eq 36 dX1_isOf_14 (by decide) (fun c14 => absurd c14 (by omega)) (fun c14 => ?_)
  refine p_iload2 dX1_isOf_17 ?_
  refine p_iload1 dX1_isOf_18 ?_
  refine p_icmp_ne ⟨by omega, by omega⟩ ⟨by omega, by omega⟩ 24 dX1_isOf_19 (by decide) (fun c19 => ?_) (fun c19 => ?_)
  · refine p_gsABOVE wt2_0 dX1_isOf_24 ?_
    refine p_iload2 dX1_isOf_27 ?_
    refine p_ldABOVE (by omega) (by omega) dX1_isOf_28 ?_
    refine p_istore2 rfl (Nat.le_of_ble_eq_true rfl) dX1_isOf_29 ?_
    refine p_iinc3 rfl (Nat.le_of_ble_eq_true rfl) dX1_isOf_30 ?_
    refine p_goto 4 dX1_isOf_33 (by decide) ?_
    have h := t_isOf_1 (G := G) (S := S) (k0 := k0) (t := t + 1) ho (by omega); rw [show (if isu 4 o then (1 : Int) else 0) = (if isu 1 o then 1 else 0) by split <;> split <;> omega]; exact h
  · refine p_iconst dX1_isOf_22 ?_
    exact p_zret rfl (by first | exact nz0 | exact nz1 | exact nzb _) dX1_isOf_23 (congrArg (fun z => some (vi z)) (by first | rfl | omega | (split <;> omega))) rfl
set_option maxRecDepth 100000 in
set_option maxHeartbeats 4000000 in
theorem t_isOf_5 {G : GX} {S : St} {k0 o t : Int} (ho : 0 ≤ o ∧ o ≤ 5) (ht : 0 ≤ t ∧ t ≤ 3) : Rn G mX1_isOf 4 [some (vi k0), some (vi o), some (vi 5), some (vi t)] [] (mk G (S)) (some (vi (if isu 5 o then 1 else 0))) (mk G (S)) := by
  refine p_iload3 dX1_isOf_4 ?_
  refine p_bipush (by decide) (by decide) dX1_isOf_5 ?_
  refine p_icmp_ge ⟨by omega, by omega⟩ ⟨by omega, by omega⟩ 36 dX1_isOf_7 (by decide) (fun c7 => absurd c7 (by omega)) (fun c7 => ?_)
  refine p_iload2 dX1_isOf_10 ?_
  refine p_cS1r (M2 := mX1_isKind) ms_RX1_21 mc_X1_isKind ⟨Nat.le_of_ble_eq_true rfl, Nat.le_of_ble_eq_true rfl⟩ (Nat.le_of_ble_eq_true rfl) dX1_isOf_11 (c_X1_isKind ⟨by omega, by omega⟩) ?_
  refine p_bif_eq 36 dX1_isOf_14 (by decide) (fun c14 => absurd c14 (by omega)) (fun c14 => ?_)
  refine p_iload2 dX1_isOf_17 ?_
  refine p_iload1 dX1_isOf_18 ?_
  refine p_icmp_ne ⟨by omega, by omega⟩ ⟨by omega, by omega⟩ 24 dX1_isOf_19 (by decide) (fun c19 => ?_) (fun c19 => ?_)
  · refine p_gsABOVE wt2_0 dX1_isOf_24 ?_
    refine p_iload2 dX1_isOf_27 ?_
    refine p_ldABOVE (by omega) (by omega) dX1_isOf_28 ?_
    refine p_istore2 rfl (Nat.le_of_ble_eq_true rfl) dX1_isOf_29 ?_
    refine p_iinc3 rfl (Nat.le_of_ble_eq_true rfl) dX1_isOf_30 ?_
    refine p_goto 4 dX1_isOf_33 (by decide) ?_
    have h := t_isOf_3 (G := G) (S := S) (k0 := k0) (t := t + 1) ho (by omega); rw [show (if isu 5 o then (1 : Int) else 0) = (if isu 3 o then 1 else 0) by split <;> split <;> omega]; exact h
  · refine p_iconst dX1_isOf_22 ?_
    exact p_zret rfl (by first | exact nz0 | exact nz1 | exact nzb _) dX1_isOf_23 (congrArg (fun z => some (vi z)) (by first | rfl | omega | (split <;> omega))) rfl
set_option maxRecDepth 100000 in
set_option maxHeartbeats 4000000 in
theorem c_X1_isOf {G : GX} {S : St} {k o : Int} (hk : 0 ≤ k ∧ k ≤ 5) (ho : 0 ≤ o ∧ o ≤ 5) : Ev G mX1_isOf [vi k, vi o] (mk G S) (some (vi (if isu k o then 1 else 0))) (mk G (S)) := by
  refine Ev.enter (by decide +kernel) (Nat.le_of_ble_eq_true rfl) (L := [some (vi k), some (vi o), none, none]) rfl ?_
  refine p_iload0 dX1_isOf_0 ?_
  refine p_istore2 rfl (Nat.le_of_ble_eq_true rfl) dX1_isOf_1 ?_
  refine p_iconst dX1_isOf_2 ?_
  refine p_istore3 rfl (Nat.le_of_ble_eq_true rfl) dX1_isOf_3 ?_
  rcases (show k = 0 ∨ k = 1 ∨ k = 2 ∨ k = 3 ∨ k = 4 ∨ k = 5 by omega) with h | h | h | h | h | h <;> subst h
  · exact t_isOf_0 ho (by omega)
  · exact t_isOf_1 ho (by omega)
  · exact t_isOf_2 ho (by omega)
  · exact t_isOf_3 ho (by omega)
  · exact t_isOf_4 ho (by omega)
  · exact t_isOf_5 ho (by omega)
set_option maxRecDepth 100000 in
set_option maxHeartbeats 4000000 in
theorem c_X1_nameOf {G : GX} {S : St} {k : Int} (hk : 0 ≤ k ∧ k ≤ 5) : Ev G mX1_nameOf [vi k] (mk G S) (some (.ref (adK G k.toNat))) (mk G (S)) := by
  refine Ev.enter (by decide +kernel) (Nat.le_of_ble_eq_true rfl) (L := [some (vi k)]) rfl ?_
  refine p_iload0 dX1_nameOf_0 ?_
  rcases (show k = 1 ∨ k = 2 ∨ k = 3 ∨ k = 4 ∨ k = 5 ∨ (k < 1 ∨ 5 < k) by omega) with c1 | c1 | c1 | c1 | c1 | c1
  · refine p_tswI ⟨by omega, by omega⟩ 0 36 dX1_nameOf_1 (by omega) (by decide) rfl (by decide) ?_
    refine p_ldcS 1 (by decide) rfl rfl dX1_nameOf_36 ?_
    exact p_aret rfl dX1_nameOf_38 (by subst c1; rfl) rfl
  · refine p_tswI ⟨by omega, by omega⟩ 1 39 dX1_nameOf_1 (by omega) (by decide) rfl (by decide) ?_
    refine p_ldcS 2 (by decide) rfl rfl dX1_nameOf_39 ?_
    exact p_aret rfl dX1_nameOf_41 (by subst c1; rfl) rfl
  · refine p_tswI ⟨by omega, by omega⟩ 2 42 dX1_nameOf_1 (by omega) (by decide) rfl (by decide) ?_
    refine p_ldcS 3 (by decide) rfl rfl dX1_nameOf_42 ?_
    exact p_aret rfl dX1_nameOf_44 (by subst c1; rfl) rfl
  · refine p_tswI ⟨by omega, by omega⟩ 3 45 dX1_nameOf_1 (by omega) (by decide) rfl (by decide) ?_
    refine p_ldcS 4 (by decide) rfl rfl dX1_nameOf_45 ?_
    exact p_aret rfl dX1_nameOf_47 (by subst c1; rfl) rfl
  · refine p_tswI ⟨by omega, by omega⟩ 4 48 dX1_nameOf_1 (by omega) (by decide) rfl (by decide) ?_
    refine p_ldcS 5 (by decide) rfl rfl dX1_nameOf_48 ?_
    exact p_aret rfl dX1_nameOf_50 (by subst c1; rfl) rfl
  · refine p_tswO ⟨by omega, by omega⟩ 51 dX1_nameOf_1 (by omega) (by decide) ?_
    refine p_ldcS 0 (by decide) rfl rfl dX1_nameOf_51 ?_
    exact p_aret rfl dX1_nameOf_53 (by rw [show k = 0 by omega]; rfl) rfl
set_option maxRecDepth 100000 in
set_option maxHeartbeats 4000000 in
theorem c_X0_hasMan {G : GX} {S : St} {j : Fin 3} {b : Int} (hI : IR b (S j)) {m : Int} (hm : inR m) : Ev G mX0_hasMan [rf G (fo j), vi m] (mk G S) (some (vi (if 0 ≤ m ∧ m < S j 1 then 1 else 0))) (mk G (S)) := by
  have i0 := hI.1; have i1 := hI.2.1; have i4 := hI.2.2.2.2.1
  obtain ⟨h1, h2⟩ := hm
  refine Ev.enter (by decide +kernel) (Nat.le_of_ble_eq_true rfl) (L := [some (rf G (fo j)), some (vi m)]) rfl ?_
  refine p_iload1 dX0_hasMan_0 ?_
  refine p_if_lt ⟨by omega, by omega⟩ 16 dX0_hasMan_1 (by decide) (fun c1 => ?_) (fun c1 => ?_)
  · refine p_iconst dX0_hasMan_16 ?_
    exact p_zret rfl (by first | exact nz0 | exact nz1 | exact nzb _) dX0_hasMan_17 (congrArg (fun z => some (vi z)) (by first | rfl | omega | (split <;> omega))) rfl
  · refine p_iload1 dX0_hasMan_4 ?_
    refine p_oload0 dX0_hasMan_5 ?_
    refine p_get fl_RX0_35 gf_manCount dX0_hasMan_6 ?_
    refine p_icmp_ge ⟨by omega, by omega⟩ ⟨by omega, by omega⟩ 16 dX0_hasMan_9 (by decide) (fun c9 => ?_) (fun c9 => ?_)
    · refine p_iconst dX0_hasMan_16 ?_
      exact p_zret rfl (by first | exact nz0 | exact nz1 | exact nzb _) dX0_hasMan_17 (congrArg (fun z => some (vi z)) (by first | rfl | omega | (split <;> omega))) rfl
    · refine p_iconst dX0_hasMan_12 ?_
      refine p_goto 17 dX0_hasMan_13 (by decide) ?_
      exact p_zret rfl (by first | exact nz0 | exact nz1 | exact nzb _) dX0_hasMan_17 (congrArg (fun z => some (vi z)) (by first | rfl | omega | (split <;> omega))) rfl
set_option maxRecDepth 100000 in
set_option maxHeartbeats 4000000 in
theorem c_X0_hasSheep {G : GX} {S : St} {j : Fin 3} {b : Int} (hI : IR b (S j)) {m : Int} (hm : inR m) : Ev G mX0_hasSheep [rf G (fo j), vi m] (mk G S) (some (vi (if 0 ≤ m ∧ m < S j 0 then 1 else 0))) (mk G (S)) := by
  have i0 := hI.1; have i1 := hI.2.1; have i4 := hI.2.2.2.2.1
  obtain ⟨h1, h2⟩ := hm
  refine Ev.enter (by decide +kernel) (Nat.le_of_ble_eq_true rfl) (L := [some (rf G (fo j)), some (vi m)]) rfl ?_
  refine p_iload1 dX0_hasSheep_0 ?_
  refine p_if_lt ⟨by omega, by omega⟩ 16 dX0_hasSheep_1 (by decide) (fun c1 => ?_) (fun c1 => ?_)
  · refine p_iconst dX0_hasSheep_16 ?_
    exact p_zret rfl (by first | exact nz0 | exact nz1 | exact nzb _) dX0_hasSheep_17 (congrArg (fun z => some (vi z)) (by first | rfl | omega | (split <;> omega))) rfl
  · refine p_iload1 dX0_hasSheep_4 ?_
    refine p_oload0 dX0_hasSheep_5 ?_
    refine p_get fl_RX0_38 gf_sheepCount dX0_hasSheep_6 ?_
    refine p_icmp_ge ⟨by omega, by omega⟩ ⟨by omega, by omega⟩ 16 dX0_hasSheep_9 (by decide) (fun c9 => ?_) (fun c9 => ?_)
    · refine p_iconst dX0_hasSheep_16 ?_
      exact p_zret rfl (by first | exact nz0 | exact nz1 | exact nzb _) dX0_hasSheep_17 (congrArg (fun z => some (vi z)) (by first | rfl | omega | (split <;> omega))) rfl
    · refine p_iconst dX0_hasSheep_12 ?_
      refine p_goto 17 dX0_hasSheep_13 (by decide) ?_
      exact p_zret rfl (by first | exact nz0 | exact nz1 | exact nzb _) dX0_hasSheep_17 (congrArg (fun z => some (vi z)) (by first | rfl | omega | (split <;> omega))) rfl
set_option maxRecDepth 100000 in
set_option maxHeartbeats 4000000 in
theorem c_X0_hasRoomForMan {G : GX} {S : St} {j : Fin 3} {b : Int} (hI : IR b (S j)) : Ev G mX0_hasRoomForMan [rf G (fo j)] (mk G S) (some (vi (if S j 1 < 6 then 1 else 0))) (mk G (S)) := by
  have i0 := hI.1; have i1 := hI.2.1; have i4 := hI.2.2.2.2.1
  refine Ev.enter (by decide +kernel) (Nat.le_of_ble_eq_true rfl) (L := [some (rf G (fo j))]) rfl ?_
  refine p_oload0 dX0_hasRoomForMan_0 ?_
  refine p_get fl_RX0_35 gf_manCount dX0_hasRoomForMan_1 ?_
  refine p_bipush (by decide) (by decide) dX0_hasRoomForMan_4 ?_
  refine p_icmp_ge ⟨by omega, by omega⟩ ⟨by omega, by omega⟩ 13 dX0_hasRoomForMan_6 (by decide) (fun c6 => ?_) (fun c6 => ?_)
  · refine p_iconst dX0_hasRoomForMan_13 ?_
    exact p_zret rfl (by first | exact nz0 | exact nz1 | exact nzb _) dX0_hasRoomForMan_14 (congrArg (fun z => some (vi z)) (by first | rfl | omega | (split <;> omega))) rfl
  · refine p_iconst dX0_hasRoomForMan_9 ?_
    refine p_goto 14 dX0_hasRoomForMan_10 (by decide) ?_
    exact p_zret rfl (by first | exact nz0 | exact nz1 | exact nzb _) dX0_hasRoomForMan_14 (congrArg (fun z => some (vi z)) (by first | rfl | omega | (split <;> omega))) rfl
set_option maxRecDepth 100000 in
set_option maxHeartbeats 4000000 in
theorem c_X0_hasRoomForSheep {G : GX} {S : St} {j : Fin 3} {b : Int} (hI : IR b (S j)) : Ev G mX0_hasRoomForSheep [rf G (fo j)] (mk G S) (some (vi (if S j 0 < 8 then 1 else 0))) (mk G (S)) := by
  have i0 := hI.1; have i1 := hI.2.1; have i4 := hI.2.2.2.2.1
  refine Ev.enter (by decide +kernel) (Nat.le_of_ble_eq_true rfl) (L := [some (rf G (fo j))]) rfl ?_
  refine p_oload0 dX0_hasRoomForSheep_0 ?_
  refine p_get fl_RX0_38 gf_sheepCount dX0_hasRoomForSheep_1 ?_
  refine p_bipush (by decide) (by decide) dX0_hasRoomForSheep_4 ?_
  refine p_icmp_ge ⟨by omega, by omega⟩ ⟨by omega, by omega⟩ 13 dX0_hasRoomForSheep_6 (by decide) (fun c6 => ?_) (fun c6 => ?_)
  · refine p_iconst dX0_hasRoomForSheep_13 ?_
    exact p_zret rfl (by first | exact nz0 | exact nz1 | exact nzb _) dX0_hasRoomForSheep_14 (congrArg (fun z => some (vi z)) (by first | rfl | omega | (split <;> omega))) rfl
  · refine p_iconst dX0_hasRoomForSheep_9 ?_
    refine p_goto 14 dX0_hasRoomForSheep_10 (by decide) ?_
    exact p_zret rfl (by first | exact nz0 | exact nz1 | exact nzb _) dX0_hasRoomForSheep_14 (congrArg (fun z => some (vi z)) (by first | rfl | omega | (split <;> omega))) rfl
set_option maxRecDepth 100000 in
set_option maxHeartbeats 4000000 in
theorem c_X0_isAsleep {G : GX} {S : St} {j : Fin 3} {b : Int} (hI : IR b (S j)) {p : Int} (h0 : 0 ≤ p) (h8 : p < 8) : Ev G mX0_isAsleep [rf G (fo j), vi p] (mk G S) (some (vi (if S j (18 + 3 * p) = 0 then 1 else 0))) (mk G (S)) := by
  have i6 := hI.2.2.2.2.2.2 p h0 h8
  refine Ev.enter (by decide +kernel) (Nat.le_of_ble_eq_true rfl) (L := [some (rf G (fo j)), some (vi p)]) rfl ?_
  refine p_oload0 dX0_isAsleep_0 ?_
  refine p_get fl_RX0_23 gf_wants dX0_isAsleep_1 ?_
  refine p_iload1 dX0_isAsleep_4 ?_
  refine p_iald al_wants (by omega) (by omega) dX0_isAsleep_5 ?_
  refine p_if_ne ⟨by omega, by omega⟩ 13 dX0_isAsleep_6 (by decide) (fun c6 => ?_) (fun c6 => ?_)
  · refine p_iconst dX0_isAsleep_13 ?_
    exact p_zret rfl (by first | exact nz0 | exact nz1 | exact nzb _) dX0_isAsleep_14 (congrArg (fun z => some (vi z)) (by first | rfl | omega | (split <;> omega))) rfl
  · refine p_iconst dX0_isAsleep_9 ?_
    refine p_goto 14 dX0_isAsleep_10 (by decide) ?_
    exact p_zret rfl (by first | exact nz0 | exact nz1 | exact nzb _) dX0_isAsleep_14 (congrArg (fun z => some (vi z)) (by first | rfl | omega | (split <;> omega))) rfl
set_option maxRecDepth 100000 in
set_option maxHeartbeats 4000000 in
theorem c_X0_canPass {G : GX} {S : St} {j : Fin 3} {b : Int} (hI : IR b (S j)) {m : Int} (h0 : 0 ≤ m) (h6 : m < 6) : Ev G mX0_canPass [rf G (fo j), vi m] (mk G S) (some (vi (if S j (6 + 2 * m) < 99 then 1 else 0))) (mk G (S)) := by
  have i5 := hI.2.2.2.2.2.1 m h0 h6
  refine Ev.enter (by decide +kernel) (Nat.le_of_ble_eq_true rfl) (L := [some (rf G (fo j)), some (vi m)]) rfl ?_
  refine p_oload0 dX0_canPass_0 ?_
  refine p_get fl_RX0_17 gf_wears dX0_canPass_1 ?_
  refine p_iload1 dX0_canPass_4 ?_
  refine p_iald al_wears (by omega) (by omega) dX0_canPass_5 ?_
  refine p_bipush (by decide) (by decide) dX0_canPass_6 ?_
  refine p_icmp_ge ⟨by omega, by omega⟩ ⟨by omega, by omega⟩ 15 dX0_canPass_8 (by decide) (fun c8 => ?_) (fun c8 => ?_)
  · refine p_iconst dX0_canPass_15 ?_
    exact p_zret rfl (by first | exact nz0 | exact nz1 | exact nzb _) dX0_canPass_16 (congrArg (fun z => some (vi z)) (by first | rfl | omega | (split <;> omega))) rfl
  · refine p_iconst dX0_canPass_11 ?_
    refine p_goto 16 dX0_canPass_12 (by decide) ?_
    exact p_zret rfl (by first | exact nz0 | exact nz1 | exact nzb _) dX0_canPass_16 (congrArg (fun z => some (vi z)) (by first | rfl | omega | (split <;> omega))) rfl
def amR (r : Row) (g w : Int) : Row := uz (uz (uz r (5 + 2 * r 1) g) (6 + 2 * r 1) w) 1 (r 1 + 1)
def asR (r : Row) (k w : Int) : Row := uz (uz (uz (uz r (17 + 3 * r 0) k) (18 + 3 * r 0) w) (19 + 3 * r 0) 0) 0 (r 0 + 1)
def ghR (r : Row) : Row := uz (uz r 1 (r 1 - 1)) 4 (if r 4 = r 1 - 1 then 0 else r 4)
set_option maxRecDepth 100000 in
set_option maxHeartbeats 4000000 in
theorem c_X0_addMan {G : GX} {S : St} {j : Fin 3} {b : Int} (hI : IR b (S j)) {g w : Int} (hr : S j 1 < 6) : Ev G mX0_addMan [rf G (fo j), vi g, vi w] (mk G S) (some (vi (S j 1))) (mk G (va_up S j (amR (S j) g w))) := by
  have i0 := hI.1; have i1 := hI.2.1; have i4 := hI.2.2.2.2.1
  refine Ev.enter (by decide +kernel) (Nat.le_of_ble_eq_true rfl) (L := [some (rf G (fo j)), some (vi g), some (vi w), none]) rfl ?_
  refine p_oload0 dX0_addMan_0 ?_
  refine p_get fl_RX0_35 gf_manCount dX0_addMan_1 ?_
  refine p_istore3 rfl (Nat.le_of_ble_eq_true rfl) dX0_addMan_4 ?_
  refine p_oload0 dX0_addMan_5 ?_
  refine p_cV0r (M2 := mX0_hasRoomForMan) ml_RX0_41 mc_X0_hasRoomForMan ⟨Nat.le_of_ble_eq_true rfl, Nat.le_of_ble_eq_true rfl⟩ (isO_fo _ _ _) (Nat.le_of_ble_eq_true rfl) dX0_addMan_6 (c_X0_hasRoomForMan hI) ?_
  refine p_bif_eq 36 dX0_addMan_9 (by decide) (fun c9 => absurd c9 (by omega)) (fun c9 => ?_)
  refine p_oload0 dX0_addMan_12 ?_
  refine p_get fl_RX0_13 gf_guises dX0_addMan_13 ?_
  refine p_iload3 dX0_addMan_16 ?_
  refine p_iload1 dX0_addMan_17 ?_
  refine p_iast al_guises (by omega) (by omega) (as_guises (by omega) (by omega)) dX0_addMan_18 ?_
  refine p_oload0 dX0_addMan_19 ?_
  refine p_get fl_RX0_17 gf_wears dX0_addMan_20 ?_
  refine p_iload3 dX0_addMan_23 ?_
  refine p_iload2 dX0_addMan_24 ?_
  refine p_iast al_wears (by omega) (by omega) (as_wears (by omega) (by omega)) dX0_addMan_25 ?_
  refine p_oload0 dX0_addMan_26 ?_
  refine p_dup rfl dX0_addMan_27 ?_
  refine p_get fl_RX0_35 gf_manCount dX0_addMan_28 ?_
  refine p_iconst dX0_addMan_31 ?_
  refine p_iadd dX0_addMan_32 ?_
  refine p_put fw_RX0_35 rfl rfl pf_manCount dX0_addMan_33 ?_
  refine p_iload3 dX0_addMan_36 ?_
  exact p_iret rfl dX0_addMan_37 (congrArg (fun z => some (vi z)) (by first | rfl | omega | (split <;> omega))) (congrArg (mk G) (by simp only [va_up_self, vup_up]; unfold amR; rw [uz_ne _ _ (by omega), uz_ne _ _ (by omega)]))
set_option maxRecDepth 100000 in
set_option maxHeartbeats 4000000 in
theorem c_X0_addSheep {G : GX} {S : St} {j : Fin 3} {b : Int} (hI : IR b (S j)) {k w : Int} (hr : S j 0 < 8) : Ev G mX0_addSheep [rf G (fo j), vi k, vi w] (mk G S) (some (vi (S j 0))) (mk G (va_up S j (asR (S j) k w))) := by
  have i0 := hI.1; have i1 := hI.2.1; have i4 := hI.2.2.2.2.1
  refine Ev.enter (by decide +kernel) (Nat.le_of_ble_eq_true rfl) (L := [some (rf G (fo j)), some (vi k), some (vi w), none]) rfl ?_
  refine p_oload0 dX0_addSheep_0 ?_
  refine p_get fl_RX0_38 gf_sheepCount dX0_addSheep_1 ?_
  refine p_istore3 rfl (Nat.le_of_ble_eq_true rfl) dX0_addSheep_4 ?_
  refine p_oload0 dX0_addSheep_5 ?_
  refine p_cV0r (M2 := mX0_hasRoomForSheep) ml_RX0_45 mc_X0_hasRoomForSheep ⟨Nat.le_of_ble_eq_true rfl, Nat.le_of_ble_eq_true rfl⟩ (isO_fo _ _ _) (Nat.le_of_ble_eq_true rfl) dX0_addSheep_6 (c_X0_hasRoomForSheep hI) ?_
  refine p_bif_eq 43 dX0_addSheep_9 (by decide) (fun c9 => absurd c9 (by omega)) (fun c9 => ?_)
  refine p_oload0 dX0_addSheep_12 ?_
  refine p_get fl_RX0_20 gf_kinds dX0_addSheep_13 ?_
  refine p_iload3 dX0_addSheep_16 ?_
  refine p_iload1 dX0_addSheep_17 ?_
  refine p_iast al_kinds (by omega) (by omega) (as_kinds (by omega) (by omega)) dX0_addSheep_18 ?_
  refine p_oload0 dX0_addSheep_19 ?_
  refine p_get fl_RX0_23 gf_wants dX0_addSheep_20 ?_
  refine p_iload3 dX0_addSheep_23 ?_
  refine p_iload2 dX0_addSheep_24 ?_
  refine p_iast al_wants (by omega) (by omega) (as_wants (by omega) (by omega)) dX0_addSheep_25 ?_
  refine p_oload0 dX0_addSheep_26 ?_
  refine p_get fl_RX0_26 gf_seen dX0_addSheep_27 ?_
  refine p_iload3 dX0_addSheep_30 ?_
  refine p_iconst dX0_addSheep_31 ?_
  refine p_iast al_seen (by omega) (by omega) (as_seen (by omega) (by omega)) dX0_addSheep_32 ?_
  refine p_oload0 dX0_addSheep_33 ?_
  refine p_dup rfl dX0_addSheep_34 ?_
  refine p_get fl_RX0_38 gf_sheepCount dX0_addSheep_35 ?_
  refine p_iconst dX0_addSheep_38 ?_
  refine p_iadd dX0_addSheep_39 ?_
  refine p_put fw_RX0_38 rfl rfl pf_sheepCount dX0_addSheep_40 ?_
  refine p_iload3 dX0_addSheep_43 ?_
  exact p_iret rfl dX0_addSheep_44 (congrArg (fun z => some (vi z)) (by first | rfl | omega | (split <;> omega))) (congrArg (mk G) (by simp only [va_up_self, vup_up]; unfold asR; rw [uz_ne _ _ (by omega), uz_ne _ _ (by omega), uz_ne _ _ (by omega)]))
set_option maxRecDepth 100000 in
set_option maxHeartbeats 4000000 in
theorem c_X0_dropLastMan {G : GX} {S : St} {j : Fin 3} {b : Int} (hI : IR b (S j)) (hr : 0 < S j 1) : Ev G mX0_dropLastMan [rf G (fo j)] (mk G S) none (mk G (va_up S j (ghR (S j)))) := by
  have i0 := hI.1; have i1 := hI.2.1; have i4 := hI.2.2.2.2.1
  refine Ev.enter (by decide +kernel) (Nat.le_of_ble_eq_true rfl) (L := [some (rf G (fo j))]) rfl ?_
  refine p_oload0 dX0_dropLastMan_0 ?_
  refine p_get fl_RX0_35 gf_manCount dX0_dropLastMan_1 ?_
  refine p_if_le ⟨by omega, by omega⟩ 33 dX0_dropLastMan_4 (by decide) (fun c4 => absurd c4 (by omega)) (fun c4 => ?_)
  refine p_oload0 dX0_dropLastMan_7 ?_
  refine p_dup rfl dX0_dropLastMan_8 ?_
  refine p_get fl_RX0_35 gf_manCount dX0_dropLastMan_9 ?_
  refine p_iconst dX0_dropLastMan_12 ?_
  refine p_isub dX0_dropLastMan_13 ?_
  refine p_put fw_RX0_35 rfl rfl pf_manCount dX0_dropLastMan_14 ?_
  refine p_oload0 dX0_dropLastMan_17 ?_
  refine p_get fl_RX0_32 gf_turn dX0_dropLastMan_18 ?_
  refine p_oload0 dX0_dropLastMan_21 ?_
  refine p_get fl_RX0_35 gf_manCount dX0_dropLastMan_22 ?_
  simp only [va_up_self]
  rw [uz_self, uz_ne _ _ (by omega)]
  refine p_icmp_lt ⟨by omega, by omega⟩ ⟨by omega, by omega⟩ 33 dX0_dropLastMan_25 (by decide) (fun c25 => ?_) (fun c25 => ?_)
  · exact p_vret rfl dX0_dropLastMan_33 rfl (congrArg (mk G) (by (try simp only [va_up_self, vup_up]); unfold ghR; first | (rw [if_pos (by omega)]; done) | (rw [if_neg (by omega)]; exact congrArg (va_up S ↑j) (by funext i; by_cases h : i = 4 <;> simp [uz, h]))))
  · refine p_oload0 dX0_dropLastMan_28 ?_
    refine p_iconst dX0_dropLastMan_29 ?_
    refine p_put fw_RX0_32 rfl rfl pf_turn dX0_dropLastMan_30 ?_
    exact p_vret rfl dX0_dropLastMan_33 rfl (congrArg (mk G) (by (try simp only [va_up_self, vup_up]); unfold ghR; first | (rw [if_pos (by omega)]; done) | (rw [if_neg (by omega)]; exact congrArg (va_up S ↑j) (by funext i; by_cases h : i = 4 <;> simp [uz, h]))))
set_option maxRecDepth 100000 in
set_option maxHeartbeats 4000000 in
theorem c_X0_isIn {G : GX} {S : St} {o s : Int} : Ev G mX0_isIn [vi o, vi s] (mk G S) (some (vi (if bAnd (bShr s o) 1 = 1 then 1 else 0))) (mk G (S)) := by
  refine Ev.enter (by decide +kernel) (Nat.le_of_ble_eq_true rfl) (L := [some (vi o), some (vi s)]) rfl ?_
  refine p_iload1 dX0_isIn_0 ?_
  refine p_iload0 dX0_isIn_1 ?_
  refine p_ishr dX0_isIn_2 ?_
  refine p_iconst dX0_isIn_3 ?_
  refine p_iand dX0_isIn_4 ?_
  refine p_iconst dX0_isIn_5 ?_
  refine p_icmp_ne (bAnd_in _ _) ⟨by omega, by omega⟩ 13 dX0_isIn_6 (by decide) (fun c6 => ?_) (fun c6 => ?_)
  · refine p_iconst dX0_isIn_13 ?_
    exact p_zret rfl (by first | exact nz0 | exact nz1 | exact nzb _) dX0_isIn_14 (congrArg (fun z => some (vi z)) (by first | rfl | omega | (split <;> omega))) rfl
  · refine p_iconst dX0_isIn_9 ?_
    refine p_goto 14 dX0_isIn_10 (by decide) ?_
    exact p_zret rfl (by first | exact nz0 | exact nz1 | exact nzb _) dX0_isIn_14 (congrArg (fun z => some (vi z)) (by first | rfl | omega | (split <;> omega))) rfl
