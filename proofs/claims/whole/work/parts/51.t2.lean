def bAt (l : Int) (t : Row) (k : Int) : Int := if k < l then t k else -1
theorem bAt_32 (l : Int) (t : Row) (k : Int) : bAt l t k = 32 ↔ (k < l ∧ t k = 32) := by unfold bAt; split <;> omega
theorem bAt_le {l : Int} {t : Row} (hl : 0 ≤ l ∧ l ≤ 120) (hy : ∀ i, 0 ≤ i → i < 120 → 0 ≤ t i ∧ t i ≤ 255) {k : Int} (hk : 0 ≤ k) : -1 ≤ bAt l t k ∧ bAt l t k ≤ 255 := by
  unfold bAt; split
  · have := hy k hk (by omega); omega
  · omega
theorem bAt_sa (l : Int) (t : Row) {k : Int} (hk : 0 ≤ k) : ((97 ≤ bAt l t k ∧ bAt l t k ≤ 122) ↔ sa l t k = 1) ∧ ((48 ≤ bAt l t k ∧ bAt l t k ≤ 57) ↔ sa l t k = 2) ∧ (bAt l t k = 59 ↔ sa l t k = 3) ∧ (sa l t k = 5 ↔ l ≤ k) := by
  unfold bAt sa
  by_cases h : k < l
  · rw [if_pos h, if_neg (by omega)]
    refine ⟨?_, ?_, ?_, ?_⟩ <;> (try split) <;> (try split) <;> (try split) <;> omega
  · rw [if_neg h, if_pos (by omega)]
    refine ⟨?_, ?_, ?_, ?_⟩ <;> omega
def rnx (t : Row) (l so j : Int) : Int := if so = 1 ∨ so = 2 then rnn t l so (l - j).toNat j else j
theorem rnx_go {t : Row} {l so j : Int} (h : j < l) (hs : so = 1 ∨ so = 2) (he : sa l t j = so) : rnx t l so j = rnx t l so (j + 1) := by
  unfold rnx
  rw [if_pos hs, if_pos hs, show (l - j).toNat = (l - (j + 1)).toNat + 1 by omega, rnn, if_pos ⟨h, he⟩]
theorem rnx_no {t : Row} {l so j : Int} (hs : ¬ ((so = 1 ∨ so = 2) ∧ sa l t j = so)) : rnx t l so j = j := by
  unfold rnx
  by_cases q : so = 1 ∨ so = 2
  · rw [if_pos q]
    by_cases h : j < l
    · rw [show (l - j).toNat = (l - (j + 1)).toNat + 1 by omega, rnn, if_neg (fun x => hs ⟨q, x.2⟩)]
    · rw [show (l - j).toNat = 0 by omega, rnn]
  · rw [if_neg q]
theorem tkB_rnx {t : Row} {l a : Int} (ha : 0 ≤ a) : tkB t l a = rnx t l (sa l t a) (if a < l then a + 1 else a) := by
  unfold tkB rnx
  by_cases q : sa l t a = 1 ∨ sa l t a = 2
  · have h := sa_lt (t := t) (l := l) (a := a) (by omega)
    rw [if_pos q, if_pos q, if_pos h.2]
  · rw [if_neg q, if_neg q]
set_option maxRecDepth 100000 in
set_option maxHeartbeats 1000000 in
theorem c_X5_byteAt {G : GX} {S : St} {k x y l fr to va wr : Int} (hl : 0 ≤ l ∧ l ≤ 120) (hy : ∀ i, 0 ≤ i → i < 120 → 0 ≤ S 15 i ∧ S 15 i ≤ 255) {p : Int} (hp : 0 ≤ p ∧ p ≤ 120) : Ev G mX5_byteAt [rf G 31, vi p] (mk G (va_up S 14 (mp k x y l fr to va wr))) (some (vi (bAt l (S 15) p))) (mk G (va_up S 14 (mp k x y l fr to va wr))) := by
  refine Ev.enter (by decide +kernel) (Nat.le_of_ble_eq_true rfl) (L := [some (rf G 31), some (vi p)]) rfl ?_
  refine p_iload1 dX5_byteAt_0 ?_
  refine p_oload0 dX5_byteAt_1 ?_
  refine p_get fl_RX5_196 y5_taped dX5_byteAt_2 ?_
  refine p_icmp_ge ⟨by omega, by omega⟩ ⟨by omega, by omega⟩ 17 dX5_byteAt_5 (by decide) (fun c5 => ?_) (fun c5 => ?_)
  · refine p_iconst dX5_byteAt_17 ?_
    exact p_iret rfl dX5_byteAt_18 (congrArg (fun z => some (vi z)) (by unfold bAt; first | (rw [if_pos (by omega)]; done) | (rw [if_neg (by omega)]; done))) rfl
  · refine p_oload0 dX5_byteAt_8 ?_
    refine p_get fl_RX5_25 gm_tape dX5_byteAt_9 ?_
    refine p_iload1 dX5_byteAt_12 ?_
    refine p_iald y5_tape (by omega) (by omega) dX5_byteAt_13 ?_
    refine p_goto 18 dX5_byteAt_14 (by decide) ?_
    exact p_iret rfl dX5_byteAt_18 (congrArg (fun z => some (vi z)) (by unfold bAt; first | (rw [if_pos (by omega)]; done) | (rw [if_neg (by omega)]; done))) rfl
set_option maxRecDepth 100000 in
set_option maxHeartbeats 1000000 in
theorem c_X5_isLetter {G : GX} {S : St} {v : Int} (hv : -1 ≤ v ∧ v ≤ 255) : Ev G mX5_isLetter [vi v] (mk G S) (some (vi (if 97 ≤ v ∧ v ≤ 122 then 1 else 0))) (mk G (S)) := by
  refine Ev.enter (by decide +kernel) (Nat.le_of_ble_eq_true rfl) (L := [some (vi v)]) rfl ?_
  refine p_iload0 dX5_isLetter_0 ?_
  refine p_i2l ⟨by omega, by omega⟩ dX5_isLetter_1 ?_
  refine p_ldc2 wc_RX5_199 dX5_isLetter_2 ?_
  refine p_ldc2 wc_RX5_201 dX5_isLetter_5 ?_
  refine p_cS3r (M2 := mX5_in) ms_RX5_42 mc_X5_in ⟨Nat.le_of_ble_eq_true rfl, Nat.le_of_ble_eq_true rfl⟩ (Nat.le_of_ble_eq_true rfl) dX5_isLetter_8 (c_X5_in ⟨by omega, by omega⟩ ⟨by omega, by omega⟩ ⟨by omega, by omega⟩) ?_
  exact p_zret rfl (by first | exact nz0 | exact nz1 | exact nzb _) dX5_isLetter_11 (congrArg (fun z => some (vi z)) (by first | rfl | omega | (split <;> omega))) rfl
set_option maxRecDepth 100000 in
set_option maxHeartbeats 1000000 in
theorem c_X5_isDigit {G : GX} {S : St} {v : Int} (hv : -1 ≤ v ∧ v ≤ 255) : Ev G mX5_isDigit [vi v] (mk G S) (some (vi (if 48 ≤ v ∧ v ≤ 57 then 1 else 0))) (mk G (S)) := by
  refine Ev.enter (by decide +kernel) (Nat.le_of_ble_eq_true rfl) (L := [some (vi v)]) rfl ?_
  refine p_iload0 dX5_isDigit_0 ?_
  refine p_i2l ⟨by omega, by omega⟩ dX5_isDigit_1 ?_
  refine p_ldc2 wc_RX5_203 dX5_isDigit_2 ?_
  refine p_ldc2 wc_RX5_205 dX5_isDigit_5 ?_
  refine p_cS3r (M2 := mX5_in) ms_RX5_42 mc_X5_in ⟨Nat.le_of_ble_eq_true rfl, Nat.le_of_ble_eq_true rfl⟩ (Nat.le_of_ble_eq_true rfl) dX5_isDigit_8 (c_X5_in ⟨by omega, by omega⟩ ⟨by omega, by omega⟩ ⟨by omega, by omega⟩) ?_
  exact p_zret rfl (by first | exact nz0 | exact nz1 | exact nzb _) dX5_isDigit_11 (congrArg (fun z => some (vi z)) (by first | rfl | omega | (split <;> omega))) rfl
set_option maxRecDepth 100000 in
set_option maxHeartbeats 1000000 in
theorem l_tokB {G : GX} {S : St} {k x y l fr va wr : Int} (hl : 0 ≤ l ∧ l ≤ 120) (hy : ∀ i, 0 ≤ i → i < 120 → 0 ≤ S 15 i ∧ S 15 i ≤ 255) (hfr : 0 ≤ fr) : ∀ (n : Nat) (j : Int), 0 ≤ j → j ≤ l → l - j < (n : Int) → Rn G mX5_token 86 [some (rf G 31), some (vi (if 97 ≤ bAt l (S 15) fr ∧ bAt l (S 15) fr ≤ 122 then 1 else 0)), some (vi (if 48 ≤ bAt l (S 15) fr ∧ bAt l (S 15) fr ≤ 57 then 1 else 0))] [] (mk G (va_up S 14 (mp k x y l fr j va wr))) none (mk G (va_up S 14 (mp k x y l fr (rnx (S 15) l (sa l (S 15) fr) j) va wr))) := by
  intro n
  induction n with
  | zero =>
    intro j h0 h1 h2
    exfalso
    omega
  | succ n ih =>
    intro j h0 h1 h2
    push_cast at h2
    have hbj := bAt_le hl hy h0
    have hA := bAt_sa l (S 15) hfr; have hJ := bAt_sa l (S 15) h0
    refine p_iload1 dX5_token_86 ?_
    refine p_bif_eq 104 dX5_token_87 (by decide) (fun c87 => ?_) (fun c87 => ?_)
    · refine p_iload2 dX5_token_104 ?_
      refine p_bif_eq 135 dX5_token_105 (by decide) (fun c105 => ?_) (fun c105 => ?_)
      · rw [rnx_no (by omega)]
        exact p_vret rfl dX5_token_135 rfl rfl
      · refine p_oload0 dX5_token_108 ?_
        refine p_oload0 dX5_token_109 ?_
        refine p_get fl_RX5_207 y5_to dX5_token_110 ?_
        refine p_cV1r (M2 := mX5_byteAt) ml_RX5_213 mc_X5_byteAt ⟨Nat.le_of_ble_eq_true rfl, Nat.le_of_ble_eq_true rfl⟩ (isO_m _ _) (Nat.le_of_ble_eq_true rfl) dX5_token_113 (c_X5_byteAt hl hy (by omega)) ?_
        refine p_cS1r (M2 := mX5_isDigit) ms_RX5_219 mc_X5_isDigit ⟨Nat.le_of_ble_eq_true rfl, Nat.le_of_ble_eq_true rfl⟩ (Nat.le_of_ble_eq_true rfl) dX5_token_116 (c_X5_isDigit hbj) ?_
        refine p_bif_eq 135 dX5_token_119 (by decide) (fun c119 => ?_) (fun c119 => ?_)
        · rw [rnx_no (by omega)]
          exact p_vret rfl dX5_token_135 rfl rfl
        · rw [rnx_go (by omega) (by omega) (by omega)]
          refine p_oload0 dX5_token_122 ?_
          refine p_dup rfl dX5_token_123 ?_
          refine p_get fl_RX5_207 y5_to dX5_token_124 ?_
          refine p_iconst dX5_token_127 ?_
          refine p_iadd dX5_token_128 ?_
          refine p_put fw_RX5_207 rfl rfl w5_to dX5_token_129 ?_
          refine p_goto 86 dX5_token_132 (by decide) ?_
          exact ih (j + 1) (by omega) (by omega) (by omega)
    · refine p_oload0 dX5_token_90 ?_
      refine p_oload0 dX5_token_91 ?_
      refine p_get fl_RX5_207 y5_to dX5_token_92 ?_
      refine p_cV1r (M2 := mX5_byteAt) ml_RX5_213 mc_X5_byteAt ⟨Nat.le_of_ble_eq_true rfl, Nat.le_of_ble_eq_true rfl⟩ (isO_m _ _) (Nat.le_of_ble_eq_true rfl) dX5_token_95 (c_X5_byteAt hl hy (by omega)) ?_
      refine p_cS1r (M2 := mX5_isLetter) ms_RX5_216 mc_X5_isLetter ⟨Nat.le_of_ble_eq_true rfl, Nat.le_of_ble_eq_true rfl⟩ (Nat.le_of_ble_eq_true rfl) dX5_token_98 (c_X5_isLetter hbj) ?_
      refine p_bif_ne 122 dX5_token_101 (by decide) (fun c101 => ?_) (fun c101 => ?_)
      · rw [rnx_go (by omega) (by omega) (by omega)]
        refine p_oload0 dX5_token_122 ?_
        refine p_dup rfl dX5_token_123 ?_
        refine p_get fl_RX5_207 y5_to dX5_token_124 ?_
        refine p_iconst dX5_token_127 ?_
        refine p_iadd dX5_token_128 ?_
        refine p_put fw_RX5_207 rfl rfl w5_to dX5_token_129 ?_
        refine p_goto 86 dX5_token_132 (by decide) ?_
        exact ih (j + 1) (by omega) (by omega) (by omega)
      · refine p_iload2 dX5_token_104 ?_
        refine p_bif_eq 135 dX5_token_105 (by decide) (fun c105 => ?_) (fun c105 => ?_)
        · rw [rnx_no (by omega)]
          exact p_vret rfl dX5_token_135 rfl rfl
        · refine p_oload0 dX5_token_108 ?_
          refine p_oload0 dX5_token_109 ?_
          refine p_get fl_RX5_207 y5_to dX5_token_110 ?_
          refine p_cV1r (M2 := mX5_byteAt) ml_RX5_213 mc_X5_byteAt ⟨Nat.le_of_ble_eq_true rfl, Nat.le_of_ble_eq_true rfl⟩ (isO_m _ _) (Nat.le_of_ble_eq_true rfl) dX5_token_113 (c_X5_byteAt hl hy (by omega)) ?_
          refine p_cS1r (M2 := mX5_isDigit) ms_RX5_219 mc_X5_isDigit ⟨Nat.le_of_ble_eq_true rfl, Nat.le_of_ble_eq_true rfl⟩ (Nat.le_of_ble_eq_true rfl) dX5_token_116 (c_X5_isDigit hbj) ?_
          refine p_bif_eq 135 dX5_token_119 (by decide) (fun c119 => ?_) (fun c119 => ?_)
          · rw [rnx_no (by omega)]
            exact p_vret rfl dX5_token_135 rfl rfl
          · rw [rnx_go (by omega) (by omega) (by omega)]
            refine p_oload0 dX5_token_122 ?_
            refine p_dup rfl dX5_token_123 ?_
            refine p_get fl_RX5_207 y5_to dX5_token_124 ?_
            refine p_iconst dX5_token_127 ?_
            refine p_iadd dX5_token_128 ?_
            refine p_put fw_RX5_207 rfl rfl w5_to dX5_token_129 ?_
            refine p_goto 86 dX5_token_132 (by decide) ?_
            exact ih (j + 1) (by omega) (by omega) (by omega)
set_option maxRecDepth 100000 in
set_option maxHeartbeats 1000000 in
theorem t_tokM {G : GX} {S : St} {k x y l a to va wr : Int} (hl : 0 ≤ l ∧ l ≤ 120) (hy : ∀ i, 0 ≤ i → i < 120 → 0 ≤ S 15 i ∧ S 15 i ≤ 255) (ha : 0 ≤ a ∧ a ≤ l) : Rn G mX5_token 34 [some (rf G 31), none, none] [] (mk G (va_up S 14 (mp k x y l a to va wr))) none (mk G (va_up S 14 (mp k x y l a (tkB (S 15) l a) va wr))) := by
  have hbj := bAt_le hl hy ha.1
  refine p_oload0 dX5_token_34 ?_
  refine p_oload0 dX5_token_35 ?_
  refine p_get fl_RX5_210 y5_from dX5_token_36 ?_
  refine p_cV1r (M2 := mX5_byteAt) ml_RX5_213 mc_X5_byteAt ⟨Nat.le_of_ble_eq_true rfl, Nat.le_of_ble_eq_true rfl⟩ (isO_m _ _) (Nat.le_of_ble_eq_true rfl) dX5_token_39 (c_X5_byteAt hl hy (by omega)) ?_
  refine p_cS1r (M2 := mX5_isLetter) ms_RX5_216 mc_X5_isLetter ⟨Nat.le_of_ble_eq_true rfl, Nat.le_of_ble_eq_true rfl⟩ (Nat.le_of_ble_eq_true rfl) dX5_token_42 (c_X5_isLetter hbj) ?_
  refine p_istore1 rfl (Nat.le_of_ble_eq_true rfl) dX5_token_45 ?_
  refine p_oload0 dX5_token_46 ?_
  refine p_oload0 dX5_token_47 ?_
  refine p_get fl_RX5_210 y5_from dX5_token_48 ?_
  refine p_cV1r (M2 := mX5_byteAt) ml_RX5_213 mc_X5_byteAt ⟨Nat.le_of_ble_eq_true rfl, Nat.le_of_ble_eq_true rfl⟩ (isO_m _ _) (Nat.le_of_ble_eq_true rfl) dX5_token_51 (c_X5_byteAt hl hy (by omega)) ?_
  refine p_cS1r (M2 := mX5_isDigit) ms_RX5_219 mc_X5_isDigit ⟨Nat.le_of_ble_eq_true rfl, Nat.le_of_ble_eq_true rfl⟩ (Nat.le_of_ble_eq_true rfl) dX5_token_54 (c_X5_isDigit hbj) ?_
  refine p_istore2 rfl (Nat.le_of_ble_eq_true rfl) dX5_token_57 ?_
  refine p_oload0 dX5_token_58 ?_
  refine p_oload0 dX5_token_59 ?_
  refine p_get fl_RX5_210 y5_from dX5_token_60 ?_
  refine p_oload0 dX5_token_63 ?_
  refine p_get fl_RX5_196 y5_taped dX5_token_64 ?_
  refine p_icmp_ge ⟨by omega, by omega⟩ ⟨by omega, by omega⟩ 79 dX5_token_67 (by decide) (fun c67 => ?_) (fun c67 => ?_)
  · refine p_oload0 dX5_token_79 ?_
    refine p_get fl_RX5_210 y5_from dX5_token_80 ?_
    refine p_put fw_RX5_207 rfl rfl w5_to dX5_token_83 ?_
    have e : tkB (S 15) l a = rnx (S 15) l (sa l (S 15) a) a := by rw [tkB_rnx ha.1, if_neg (by omega)]
    rw [e]
    exact l_tokB hl hy ha.1 121 a (by omega) (by omega) (by omega)
  · refine p_oload0 dX5_token_70 ?_
    refine p_get fl_RX5_210 y5_from dX5_token_71 ?_
    refine p_iconst dX5_token_74 ?_
    refine p_iadd dX5_token_75 ?_
    refine p_goto 83 dX5_token_76 (by decide) ?_
    refine p_put fw_RX5_207 rfl rfl w5_to dX5_token_83 ?_
    have e : tkB (S 15) l a = rnx (S 15) l (sa l (S 15) a) (a + 1) := by rw [tkB_rnx ha.1, if_pos (by omega)]
    rw [e]
    exact l_tokB hl hy ha.1 121 (a + 1) (by omega) (by omega) (by omega)
set_option maxRecDepth 100000 in
set_option maxHeartbeats 1000000 in
theorem l_tokA {G : GX} {S : St} {k x y l to va wr : Int} (hl : 0 ≤ l ∧ l ≤ 120) (hy : ∀ i, 0 ≤ i → i < 120 → 0 ≤ S 15 i ∧ S 15 i ≤ 255) : ∀ (n : Nat) (a : Int), 0 ≤ a → a ≤ l → l - a < (n : Int) → Rn G mX5_token 8 [some (rf G 31), none, none] [] (mk G (va_up S 14 (mp k x y l a to va wr))) none (mk G (va_up S 14 (mp k x y l (skp (S 15) l (l - a).toNat a) (tkB (S 15) l (skp (S 15) l (l - a).toNat a)) va wr))) := by
  intro n
  induction n with
  | zero =>
    intro a h0 h1 h2
    exfalso
    omega
  | succ n ih =>
    intro a h0 h1 h2
    push_cast at h2
    have hbj := bAt_le hl hy h0
    have hb := bAt_32 l (S 15) a
    refine p_oload0 dX5_token_8 ?_
    refine p_oload0 dX5_token_9 ?_
    refine p_get fl_RX5_210 y5_from dX5_token_10 ?_
    refine p_cV1r (M2 := mX5_byteAt) ml_RX5_213 mc_X5_byteAt ⟨Nat.le_of_ble_eq_true rfl, Nat.le_of_ble_eq_true rfl⟩ (isO_m _ _) (Nat.le_of_ble_eq_true rfl) dX5_token_13 (c_X5_byteAt hl hy (by omega)) ?_
    refine p_bipush (by decide) (by decide) dX5_token_16 ?_
    refine p_icmp_ne ⟨by omega, by omega⟩ ⟨by omega, by omega⟩ 34 dX5_token_18 (by decide) (fun c18 => ?_) (fun c18 => ?_)
    · rw [show (skp (S 15) l (l - a).toNat a) = a from by by_cases q : a < l; rw [show (l - a).toNat = (l - (a + 1)).toNat + 1 by omega, skp, if_neg (fun z => c18 (hb.mpr z))]; rw [show (l - a).toNat = 0 by omega, skp]]
      exact t_tokM hl hy (by omega)
    · have hz := hb.mp (by omega)
      rw [show (l - a).toNat = (l - (a + 1)).toNat + 1 by omega, skp, if_pos hz]
      refine p_oload0 dX5_token_21 ?_
      refine p_dup rfl dX5_token_22 ?_
      refine p_get fl_RX5_210 y5_from dX5_token_23 ?_
      refine p_iconst dX5_token_26 ?_
      refine p_iadd dX5_token_27 ?_
      refine p_put fw_RX5_210 rfl rfl w5_from dX5_token_28 ?_
      refine p_goto 8 dX5_token_31 (by decide) ?_
      exact ih (a + 1) (by omega) (by omega) (by omega)
set_option maxRecDepth 100000 in
set_option maxHeartbeats 1000000 in
theorem c_X5_token {G : GX} {S : St} {k x y l fr to va wr : Int} (hl : 0 ≤ l ∧ l ≤ 120) (hy : ∀ i, 0 ≤ i → i < 120 → 0 ≤ S 15 i ∧ S 15 i ≤ 255) (hto : 0 ≤ to ∧ to ≤ l) : Ev G mX5_token [rf G 31] (mk G (va_up S 14 (mp k x y l fr to va wr))) none (mk G (va_up S 14 (mp k x y l (tkA (S 15) l to) (tkB (S 15) l (tkA (S 15) l to)) va wr))) := by
  refine Ev.enter (by decide +kernel) (Nat.le_of_ble_eq_true rfl) (L := [some (rf G 31), none, none]) rfl ?_
  refine p_oload0 dX5_token_0 ?_
  refine p_oload0 dX5_token_1 ?_
  refine p_get fl_RX5_207 y5_to dX5_token_2 ?_
  refine p_put fw_RX5_210 rfl rfl w5_from dX5_token_5 ?_
  exact l_tokA hl hy 121 to (by omega) (by omega) (by omega)
set_option maxRecDepth 100000 in
set_option maxHeartbeats 1000000 in
theorem c_X5_must {G : GX} {S : St} {k x y l fr to va wr : Int} (hl : 0 ≤ l ∧ l ≤ 120) (hy : ∀ i, 0 ≤ i → i < 120 → 0 ≤ S 15 i ∧ S 15 i ≤ 255) (hto : 0 ≤ to ∧ to ≤ l) {v : Int} (hv : v = 0 ∨ v = 1) (hw : wr = 0 ∨ wr = 1) : Ev G mX5_must [rf G 31, vi v] (mk G (va_up S 14 (mp k x y l fr to va wr))) none (mk G (if wr = 0 ∧ v = 1 then va_up S 14 (mp k x y l (tkA (S 15) l to) (tkB (S 15) l (tkA (S 15) l to)) va 0) else va_up S 14 (mp k x y l fr to va 1))) := by
  refine Ev.enter (by decide +kernel) (Nat.le_of_ble_eq_true rfl) (L := [some (rf G 31), some (vi v)]) rfl ?_
  refine p_oload0 dX5_must_0 ?_
  refine p_oload0 dX5_must_1 ?_
  refine p_get fl_RX5_222 y5_isWrong dX5_must_2 ?_
  refine p_if_ne ⟨by omega, by omega⟩ 12 dX5_must_5 (by decide) (fun c5 => ?_) (fun c5 => ?_)
  · refine p_iconst dX5_must_12 ?_
    refine p_goto 17 dX5_must_13 (by decide) ?_
    refine p_put fw_RX5_222 rfl rfl w5_isWrong dX5_must_17 ?_
    refine p_oload0 dX5_must_20 ?_
    refine p_get fl_RX5_222 y5_isWrong dX5_must_21 ?_
    refine p_if_ne ⟨by omega, by omega⟩ 31 dX5_must_24 (by decide) (fun c24 => ?_) (fun c24 => ?_)
    · exact p_vret rfl dX5_must_31 rfl (by first | (exfalso; omega) | (rw [if_pos (by omega)]; done) | (rw [if_neg (by omega)]; done))
    · refine p_oload0 dX5_must_27 ?_
      refine p_cV0v (M2 := mX5_token) ml_RX5_226 mc_X5_token ⟨Nat.le_of_ble_eq_true rfl, Nat.le_of_ble_eq_true rfl⟩ (isO_m _ _) (Nat.le_of_ble_eq_true rfl) dX5_must_28 (c_X5_token hl hy hto) ?_
      exact p_vret rfl dX5_must_31 rfl (by first | (exfalso; omega) | (rw [if_pos (by omega)]; done) | (rw [if_neg (by omega)]; done))
  · refine p_iload1 dX5_must_8 ?_
    refine p_if_ne ⟨by omega, by omega⟩ 16 dX5_must_9 (by decide) (fun c9 => ?_) (fun c9 => ?_)
    · refine p_iconst dX5_must_16 ?_
      refine p_put fw_RX5_222 rfl rfl w5_isWrong dX5_must_17 ?_
      refine p_oload0 dX5_must_20 ?_
      refine p_get fl_RX5_222 y5_isWrong dX5_must_21 ?_
      refine p_if_ne ⟨by omega, by omega⟩ 31 dX5_must_24 (by decide) (fun c24 => ?_) (fun c24 => ?_)
      · exact p_vret rfl dX5_must_31 rfl (by first | (exfalso; omega) | (rw [if_pos (by omega)]; done) | (rw [if_neg (by omega)]; done))
      · refine p_oload0 dX5_must_27 ?_
        refine p_cV0v (M2 := mX5_token) ml_RX5_226 mc_X5_token ⟨Nat.le_of_ble_eq_true rfl, Nat.le_of_ble_eq_true rfl⟩ (isO_m _ _) (Nat.le_of_ble_eq_true rfl) dX5_must_28 (c_X5_token hl hy hto) ?_
        exact p_vret rfl dX5_must_31 rfl (by first | (exfalso; omega) | (rw [if_pos (by omega)]; done) | (rw [if_neg (by omega)]; done))
    · refine p_iconst dX5_must_12 ?_
      refine p_goto 17 dX5_must_13 (by decide) ?_
      refine p_put fw_RX5_222 rfl rfl w5_isWrong dX5_must_17 ?_
      refine p_oload0 dX5_must_20 ?_
      refine p_get fl_RX5_222 y5_isWrong dX5_must_21 ?_
      refine p_if_ne ⟨by omega, by omega⟩ 31 dX5_must_24 (by decide) (fun c24 => ?_) (fun c24 => ?_)
      · exact p_vret rfl dX5_must_31 rfl (by first | (exfalso; omega) | (rw [if_pos (by omega)]; done) | (rw [if_neg (by omega)]; done))
      · refine p_oload0 dX5_must_27 ?_
        refine p_cV0v (M2 := mX5_token) ml_RX5_226 mc_X5_token ⟨Nat.le_of_ble_eq_true rfl, Nat.le_of_ble_eq_true rfl⟩ (isO_m _ _) (Nat.le_of_ble_eq_true rfl) dX5_must_28 (c_X5_token hl hy hto) ?_
        exact p_vret rfl dX5_must_31 rfl (by first | (exfalso; omega) | (rw [if_pos (by omega)]; done) | (rw [if_neg (by omega)]; done))
