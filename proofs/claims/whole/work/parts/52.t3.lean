theorem vl_norm (z : Int) : ∃ q, inL q ∧ vl z = vl q := by
  refine ⟨(Int64.ofInt z).toInt, inL_any _, ?_⟩
  unfold vl
  rw [Int64.ofInt_toInt]
def wcd (t : Row) : Nat → Int → Int → Int
  | 0, _, v => v
  | n + 1, i, v => wcd t n (i + 1) (if 36028797018963967 < v then v else 32 * v + (t i - 96))
set_option maxRecDepth 100000 in
set_option maxHeartbeats 1000000 in
theorem l_word0 {G : GX} {S : St} {k x y l fr to va wr : Int} (hl : 0 ≤ l ∧ l ≤ 120) (hy : ∀ i, 0 ≤ i → i < 120 → 0 ≤ S 15 i ∧ S 15 i ≤ 255) (hw : wr = 0 ∨ wr = 1) (hto : 0 ≤ fr ∧ fr ≤ to ∧ to ≤ l) (hz : ¬ (wr = 0 ∧ sa l (S 15) fr = 1)) : ∀ (n : Nat) (v : Int) (a : Int), inL v → fr ≤ a → a ≤ to → to - a < (n : Int) → Rn G mX5_word 7 [some (rf G 31), some (vl v), none, some (vi a)] [] (mk G (va_up S 14 (mp k x y l fr to va wr))) (some (vl 0)) (mk G (va_up S 14 (mp k x y l fr to va wr))) := by
  intro n
  induction n with
  | zero =>
    intro v a hv h0 h1 h2
    exfalso
    omega
  | succ n ih =>
    intro v a hv h0 h1 h2
    push_cast at h2
    have hbj := bAt_le hl hy hto.1
    have hA := bAt_sa l (S 15) hto.1
    refine p_iload3 dX5_word_7 ?_
    refine p_oload0 dX5_word_8 ?_
    refine p_get fl_RX5_207 y5_to dX5_word_9 ?_
    refine p_icmp_ge ⟨by omega, by omega⟩ ⟨by omega, by omega⟩ 50 dX5_word_12 (by decide) (fun c12 => ?_) (fun c12 => ?_)
    · refine p_oload0 dX5_word_50 ?_
      refine p_get fl_RX5_222 y5_isWrong dX5_word_51 ?_
      refine p_if_ne ⟨by omega, by omega⟩ 71 dX5_word_54 (by decide) (fun c54 => ?_) (fun c54 => ?_)
      · refine p_lconst0 dX5_word_71 ?_
        refine p_goto 76 dX5_word_72 (by decide) ?_
        exact p_lret rfl dX5_word_76 rfl rfl
      · refine p_oload0 dX5_word_57 ?_
        refine p_oload0 dX5_word_58 ?_
        refine p_get fl_RX5_210 y5_from dX5_word_59 ?_
        refine p_cV1r (M2 := mX5_byteAt) ml_RX5_213 mc_X5_byteAt ⟨Nat.le_of_ble_eq_true rfl, Nat.le_of_ble_eq_true rfl⟩ (isO_m _ _) (Nat.le_of_ble_eq_true rfl) dX5_word_62 (c_X5_byteAt hl hy (by omega)) ?_
        refine p_cS1r (M2 := mX5_isLetter) ms_RX5_216 mc_X5_isLetter ⟨Nat.le_of_ble_eq_true rfl, Nat.le_of_ble_eq_true rfl⟩ (Nat.le_of_ble_eq_true rfl) dX5_word_65 (c_X5_isLetter hbj) ?_
        refine p_bif_ne 75 dX5_word_68 (by decide) (fun c68 => ?_) (fun c68 => ?_)
        · exfalso
          omega
          skip
        · refine p_lconst0 dX5_word_71 ?_
          refine p_goto 76 dX5_word_72 (by decide) ?_
          exact p_lret rfl dX5_word_76 rfl rfl
    · have hya := hy a (by omega) (by omega)
      refine p_lload1 dX5_word_15 ?_
      refine p_ldc2 wc_RX5_229 dX5_word_16 ?_
      refine p_lc_le hv ⟨by omega, by omega⟩ 27 dX5_word_19 dX5_word_20 (by decide) (fun c19 => ?_) (fun c19 => ?_)
      · refine p_ldc2 wc_RX5_231 dX5_word_27 ?_
        refine p_lload1 dX5_word_30 ?_
        refine p_lmul dX5_word_31 ?_
        refine p_oload0 dX5_word_32 ?_
        refine p_get fl_RX5_25 gm_tape dX5_word_33 ?_
        refine p_iload3 dX5_word_36 ?_
        refine p_iald y5_tape (by omega) (by omega) dX5_word_37 ?_
        refine p_bipush (by decide) (by decide) dX5_word_38 ?_
        refine p_isub dX5_word_40 ?_
        refine p_i2l ⟨by omega, by omega⟩ dX5_word_41 ?_
        refine p_ladd dX5_word_42 ?_
        refine p_lstore1 rfl (Nat.le_of_ble_eq_true rfl) dX5_word_43 ?_
        refine p_iinc3 rfl (Nat.le_of_ble_eq_true rfl) dX5_word_44 ?_
        refine p_goto 7 dX5_word_47 (by decide) ?_
        obtain ⟨q, hq, e⟩ := vl_norm (32 * v + (S 15 a - 96))
        rw [e]
        exact ih q (a + 1) hq (by omega) (by omega) (by omega)
      · refine p_lload1 dX5_word_23 ?_
        refine p_goto 43 dX5_word_24 (by decide) ?_
        refine p_lstore1 rfl (Nat.le_of_ble_eq_true rfl) dX5_word_43 ?_
        refine p_iinc3 rfl (Nat.le_of_ble_eq_true rfl) dX5_word_44 ?_
        refine p_goto 7 dX5_word_47 (by decide) ?_
        exact ih v (a + 1) hv (by omega) (by omega) (by omega)
set_option maxRecDepth 100000 in
set_option maxHeartbeats 1000000 in
theorem l_word1 {G : GX} {S : St} {k x y l fr to va wr : Int} (hl : 0 ≤ l ∧ l ≤ 120) (hy : ∀ i, 0 ≤ i → i < 120 → 0 ≤ S 15 i ∧ S 15 i ≤ 255) (hw : wr = 0) (hs : sa l (S 15) fr = 1) (hto : 0 ≤ fr ∧ fr ≤ to ∧ to ≤ l) (hd : ∀ k, fr ≤ k → k < to → 97 ≤ S 15 k ∧ S 15 k ≤ 122) : ∀ (n : Nat) (v : Int) (a : Int), 0 ≤ v ∧ v ≤ 1152921504606846970 → fr ≤ a → a ≤ to → to - a < (n : Int) → Rn G mX5_word 7 [some (rf G 31), some (vl v), none, some (vi a)] [] (mk G (va_up S 14 (mp k x y l fr to va wr))) (some (vl (wcd (S 15) (to - a).toNat a v))) (mk G (va_up S 14 (mp k x y l fr to va wr))) := by
  intro n
  induction n with
  | zero =>
    intro v a hv h0 h1 h2
    exfalso
    omega
  | succ n ih =>
    intro v a hv h0 h1 h2
    push_cast at h2
    have hbj := bAt_le hl hy hto.1
    have hA := bAt_sa l (S 15) hto.1
    refine p_iload3 dX5_word_7 ?_
    refine p_oload0 dX5_word_8 ?_
    refine p_get fl_RX5_207 y5_to dX5_word_9 ?_
    refine p_icmp_ge ⟨by omega, by omega⟩ ⟨by omega, by omega⟩ 50 dX5_word_12 (by decide) (fun c12 => ?_) (fun c12 => ?_)
    · rw [show (to - a).toNat = 0 by omega, wcd]
      refine p_oload0 dX5_word_50 ?_
      refine p_get fl_RX5_222 y5_isWrong dX5_word_51 ?_
      refine p_if_ne ⟨by omega, by omega⟩ 71 dX5_word_54 (by decide) (fun c54 => absurd c54 (by omega)) (fun c54 => ?_)
      refine p_oload0 dX5_word_57 ?_
      refine p_oload0 dX5_word_58 ?_
      refine p_get fl_RX5_210 y5_from dX5_word_59 ?_
      refine p_cV1r (M2 := mX5_byteAt) ml_RX5_213 mc_X5_byteAt ⟨Nat.le_of_ble_eq_true rfl, Nat.le_of_ble_eq_true rfl⟩ (isO_m _ _) (Nat.le_of_ble_eq_true rfl) dX5_word_62 (c_X5_byteAt hl hy (by omega)) ?_
      refine p_cS1r (M2 := mX5_isLetter) ms_RX5_216 mc_X5_isLetter ⟨Nat.le_of_ble_eq_true rfl, Nat.le_of_ble_eq_true rfl⟩ (Nat.le_of_ble_eq_true rfl) dX5_word_65 (c_X5_isLetter hbj) ?_
      refine p_bif_ne 75 dX5_word_68 (by decide) (fun c68 => ?_) (fun c68 => absurd c68 (by omega))
      refine p_lload1 dX5_word_75 ?_
      exact p_lret rfl dX5_word_76 rfl rfl
    · have hya := hd a (by omega) (by omega)
      rw [show (to - a).toNat = (to - (a + 1)).toNat + 1 by omega, wcd]
      refine p_lload1 dX5_word_15 ?_
      refine p_ldc2 wc_RX5_229 dX5_word_16 ?_
      refine p_lc_le ⟨by omega, by omega⟩ ⟨by omega, by omega⟩ 27 dX5_word_19 dX5_word_20 (by decide) (fun c19 => ?_) (fun c19 => ?_)
      · rw [if_neg (by omega)]
        refine p_ldc2 wc_RX5_231 dX5_word_27 ?_
        refine p_lload1 dX5_word_30 ?_
        refine p_lmul dX5_word_31 ?_
        refine p_oload0 dX5_word_32 ?_
        refine p_get fl_RX5_25 gm_tape dX5_word_33 ?_
        refine p_iload3 dX5_word_36 ?_
        refine p_iald y5_tape (by omega) (by omega) dX5_word_37 ?_
        refine p_bipush (by decide) (by decide) dX5_word_38 ?_
        refine p_isub dX5_word_40 ?_
        refine p_i2l ⟨by omega, by omega⟩ dX5_word_41 ?_
        refine p_ladd dX5_word_42 ?_
        refine p_lstore1 rfl (Nat.le_of_ble_eq_true rfl) dX5_word_43 ?_
        refine p_iinc3 rfl (Nat.le_of_ble_eq_true rfl) dX5_word_44 ?_
        refine p_goto 7 dX5_word_47 (by decide) ?_
        exact ih _ (a + 1) (by omega) (by omega) (by omega) (by omega)
      · rw [if_pos (by omega)]
        refine p_lload1 dX5_word_23 ?_
        refine p_goto 43 dX5_word_24 (by decide) ?_
        refine p_lstore1 rfl (Nat.le_of_ble_eq_true rfl) dX5_word_43 ?_
        refine p_iinc3 rfl (Nat.le_of_ble_eq_true rfl) dX5_word_44 ?_
        refine p_goto 7 dX5_word_47 (by decide) ?_
        exact ih _ (a + 1) (by omega) (by omega) (by omega) (by omega)
set_option maxRecDepth 100000 in
set_option maxHeartbeats 1000000 in
theorem c_X5_word {G : GX} {S : St} {k x y l fr to va wr : Int} (hl : 0 ≤ l ∧ l ≤ 120) (hy : ∀ i, 0 ≤ i → i < 120 → 0 ≤ S 15 i ∧ S 15 i ≤ 255) (hw : wr = 0 ∨ wr = 1) (hto : 0 ≤ fr ∧ fr ≤ to ∧ to ≤ l) (hd : sa l (S 15) fr = 1 → ∀ k, fr ≤ k → k < to → 97 ≤ S 15 k ∧ S 15 k ≤ 122) : Ev G mX5_word [rf G 31] (mk G (va_up S 14 (mp k x y l fr to va wr))) (some (vl (if wr = 0 ∧ sa l (S 15) fr = 1 then wcd (S 15) (to - fr).toNat fr 0 else 0))) (mk G (va_up S 14 (mp k x y l fr to va wr))) := by
  refine Ev.enter (by decide +kernel) (Nat.le_of_ble_eq_true rfl) (L := [some (rf G 31), none, none, none]) rfl ?_
  refine p_lconst0 dX5_word_0 ?_
  refine p_lstore1 rfl (Nat.le_of_ble_eq_true rfl) dX5_word_1 ?_
  refine p_oload0 dX5_word_2 ?_
  refine p_get fl_RX5_210 y5_from dX5_word_3 ?_
  refine p_istore3 rfl (Nat.le_of_ble_eq_true rfl) dX5_word_6 ?_
  by_cases q : wr = 0 ∧ sa l (S 15) fr = 1
  · rw [if_pos q]; exact l_word1 hl hy q.1 q.2 hto (hd q.2) 121 0 fr (by omega) (by omega) (by omega) (by omega)
  · rw [if_neg q]; exact l_word0 hl hy hw hto q 121 0 fr ⟨by omega, by omega⟩ (by omega) (by omega) (by omega)
set_option maxRecDepth 100000 in
set_option maxHeartbeats 1000000 in
theorem l_number {G : GX} {S : St} {k x y l fr to va lo hi : Int} (hl : 0 ≤ l ∧ l ≤ 120) (hy : ∀ i, 0 ≤ i → i < 120 → 0 ≤ S 15 i ∧ S 15 i ≤ 255) (hlo : 0 ≤ lo ∧ lo ≤ 9999) (hhi : 0 ≤ hi ∧ hi ≤ 9999) (hto : 0 ≤ fr ∧ fr ≤ to ∧ to ≤ l) (hd : sa l (S 15) fr = 2 → ∀ k, fr ≤ k → k < to → 48 ≤ S 15 k ∧ S 15 k ≤ 57) : ∀ (n : Nat) (v : Int) (a : Int), 0 ≤ v ∧ v ≤ 9999 → fr ≤ a → a ≤ to → to - a < (n : Int) → Rn G mX5_number 29 [some (rf G 31), some (vi lo), some (vi hi), some (vi (if 48 ≤ bAt l (S 15) fr ∧ bAt l (S 15) fr ≤ 57 then 1 else 0)), some (vi v), some (vi a)] [] (mk G (va_up S 14 (mp k x y l fr to va 0))) none (mk G (if (sa l (S 15) fr = 2 ∧ lo ≤ (if sa l (S 15) fr = 2 then nv (S 15) (to - a).toNat a v else v) ∧ (if sa l (S 15) fr = 2 then nv (S 15) (to - a).toNat a v else v) ≤ hi) then va_up S 14 (mp k x y l (tkA (S 15) l to) (tkB (S 15) l (tkA (S 15) l to)) (if sa l (S 15) fr = 2 then nv (S 15) (to - a).toNat a v else v) 0) else va_up S 14 (mp k x y l fr to (if sa l (S 15) fr = 2 then nv (S 15) (to - a).toNat a v else v) 1))) := by
  intro n
  induction n with
  | zero =>
    intro v a hv h0 h1 h2
    exfalso
    omega
  | succ n ih =>
    intro v a hv h0 h1 h2
    push_cast at h2
    have hA := bAt_sa l (S 15) hto.1
    refine p_iload5 dX5_number_29 ?_
    refine p_oload0 dX5_number_31 ?_
    refine p_get fl_RX5_207 y5_to dX5_number_32 ?_
    refine p_icmp_ge ⟨by omega, by omega⟩ ⟨by omega, by omega⟩ 79 dX5_number_35 (by decide) (fun c35 => ?_) (fun c35 => ?_)
    · rw [show (if sa l (S 15) fr = 2 then nv (S 15) (to - a).toNat a v else v) = v from by split; rw [show (to - a).toNat = 0 by omega, nv]; rfl]
      refine p_oload0 dX5_number_79 ?_
      refine p_iload4 dX5_number_80 ?_
      refine p_put fw_RX5_233 rfl rfl w5_value dX5_number_82 ?_
      refine p_oload0 dX5_number_85 ?_
      refine p_iload3 dX5_number_86 ?_
      refine p_bif_eq 107 dX5_number_87 (by decide) (fun c87 => ?_) (fun c87 => ?_)
      · refine p_iconst dX5_number_107 ?_
        refine p_cV1v (M2 := mX5_must) ml_RX5_236 mc_X5_must ⟨Nat.le_of_ble_eq_true rfl, Nat.le_of_ble_eq_true rfl⟩ (isO_m _ _) (Nat.le_of_ble_eq_true rfl) dX5_number_108 (c_X5_must hl hy (by omega) (by omega) (by omega)) ?_
        exact p_vret rfl dX5_number_111 rfl (congrArg (mk G) (by first | (rw [if_pos (by omega), if_pos (by omega)]; done) | (rw [if_neg (by omega), if_neg (by omega)]; done)))
      · refine p_iload4 dX5_number_90 ?_
        refine p_i2l ⟨by omega, by omega⟩ dX5_number_92 ?_
        refine p_iload1 dX5_number_93 ?_
        refine p_i2l ⟨by omega, by omega⟩ dX5_number_94 ?_
        refine p_iload2 dX5_number_95 ?_
        refine p_i2l ⟨by omega, by omega⟩ dX5_number_96 ?_
        refine p_cS3r (M2 := mX5_in) ms_RX5_42 mc_X5_in ⟨Nat.le_of_ble_eq_true rfl, Nat.le_of_ble_eq_true rfl⟩ (Nat.le_of_ble_eq_true rfl) dX5_number_97 (c_X5_in ⟨by omega, by omega⟩ ⟨by omega, by omega⟩ ⟨by omega, by omega⟩) ?_
        refine p_bif_eq 107 dX5_number_100 (by decide) (fun c100 => ?_) (fun c100 => ?_)
        · refine p_iconst dX5_number_107 ?_
          refine p_cV1v (M2 := mX5_must) ml_RX5_236 mc_X5_must ⟨Nat.le_of_ble_eq_true rfl, Nat.le_of_ble_eq_true rfl⟩ (isO_m _ _) (Nat.le_of_ble_eq_true rfl) dX5_number_108 (c_X5_must hl hy (by omega) (by omega) (by omega)) ?_
          exact p_vret rfl dX5_number_111 rfl (congrArg (mk G) (by first | (rw [if_pos (by omega), if_pos (by omega)]; done) | (rw [if_neg (by omega), if_neg (by omega)]; done)))
        · refine p_iconst dX5_number_103 ?_
          refine p_goto 108 dX5_number_104 (by decide) ?_
          refine p_cV1v (M2 := mX5_must) ml_RX5_236 mc_X5_must ⟨Nat.le_of_ble_eq_true rfl, Nat.le_of_ble_eq_true rfl⟩ (isO_m _ _) (Nat.le_of_ble_eq_true rfl) dX5_number_108 (c_X5_must hl hy (by omega) (by omega) (by omega)) ?_
          exact p_vret rfl dX5_number_111 rfl (congrArg (mk G) (by first | (rw [if_pos (by omega), if_pos (by omega)]; done) | (rw [if_neg (by omega), if_neg (by omega)]; done)))
    · refine p_iload3 dX5_number_38 ?_
      refine p_bif_eq 79 dX5_number_39 (by decide) (fun c39 => ?_) (fun c39 => ?_)
      · rw [show (if sa l (S 15) fr = 2 then nv (S 15) (to - a).toNat a v else v) = v from by rw [if_neg (by omega)]]
        refine p_oload0 dX5_number_79 ?_
        refine p_iload4 dX5_number_80 ?_
        refine p_put fw_RX5_233 rfl rfl w5_value dX5_number_82 ?_
        refine p_oload0 dX5_number_85 ?_
        refine p_iload3 dX5_number_86 ?_
        refine p_bif_eq 107 dX5_number_87 (by decide) (fun c87 => ?_) (fun c87 => ?_)
        · refine p_iconst dX5_number_107 ?_
          refine p_cV1v (M2 := mX5_must) ml_RX5_236 mc_X5_must ⟨Nat.le_of_ble_eq_true rfl, Nat.le_of_ble_eq_true rfl⟩ (isO_m _ _) (Nat.le_of_ble_eq_true rfl) dX5_number_108 (c_X5_must hl hy (by omega) (by omega) (by omega)) ?_
          exact p_vret rfl dX5_number_111 rfl (congrArg (mk G) (by first | (rw [if_pos (by omega), if_pos (by omega)]; done) | (rw [if_neg (by omega), if_neg (by omega)]; done)))
        · refine p_iload4 dX5_number_90 ?_
          refine p_i2l ⟨by omega, by omega⟩ dX5_number_92 ?_
          refine p_iload1 dX5_number_93 ?_
          refine p_i2l ⟨by omega, by omega⟩ dX5_number_94 ?_
          refine p_iload2 dX5_number_95 ?_
          refine p_i2l ⟨by omega, by omega⟩ dX5_number_96 ?_
          refine p_cS3r (M2 := mX5_in) ms_RX5_42 mc_X5_in ⟨Nat.le_of_ble_eq_true rfl, Nat.le_of_ble_eq_true rfl⟩ (Nat.le_of_ble_eq_true rfl) dX5_number_97 (c_X5_in ⟨by omega, by omega⟩ ⟨by omega, by omega⟩ ⟨by omega, by omega⟩) ?_
          refine p_bif_eq 107 dX5_number_100 (by decide) (fun c100 => ?_) (fun c100 => ?_)
          · refine p_iconst dX5_number_107 ?_
            refine p_cV1v (M2 := mX5_must) ml_RX5_236 mc_X5_must ⟨Nat.le_of_ble_eq_true rfl, Nat.le_of_ble_eq_true rfl⟩ (isO_m _ _) (Nat.le_of_ble_eq_true rfl) dX5_number_108 (c_X5_must hl hy (by omega) (by omega) (by omega)) ?_
            exact p_vret rfl dX5_number_111 rfl (congrArg (mk G) (by first | (rw [if_pos (by omega), if_pos (by omega)]; done) | (rw [if_neg (by omega), if_neg (by omega)]; done)))
          · refine p_iconst dX5_number_103 ?_
            refine p_goto 108 dX5_number_104 (by decide) ?_
            refine p_cV1v (M2 := mX5_must) ml_RX5_236 mc_X5_must ⟨Nat.le_of_ble_eq_true rfl, Nat.le_of_ble_eq_true rfl⟩ (isO_m _ _) (Nat.le_of_ble_eq_true rfl) dX5_number_108 (c_X5_must hl hy (by omega) (by omega) (by omega)) ?_
            exact p_vret rfl dX5_number_111 rfl (congrArg (mk G) (by first | (rw [if_pos (by omega), if_pos (by omega)]; done) | (rw [if_neg (by omega), if_neg (by omega)]; done)))
      · have hya := hd (by omega) a (by omega) (by omega)
        refine p_iload4 dX5_number_42 ?_
        refine p_sipush (by decide) (by decide) dX5_number_44 ?_
        refine p_icmp_le ⟨by omega, by omega⟩ ⟨by omega, by omega⟩ 55 dX5_number_47 (by decide) (fun c47 => ?_) (fun c47 => ?_)
        · rw [show (if sa l (S 15) fr = 2 then nv (S 15) (to - a).toNat a v else v) = (if sa l (S 15) fr = 2 then nv (S 15) (to - (a + 1)).toNat (a + 1) (10 * v + S 15 a - 48) else (10 * v + S 15 a - 48)) from by rw [if_pos (by omega), if_pos (by omega), show (to - a).toNat = (to - (a + 1)).toNat + 1 by omega, nv, if_neg (by omega)]]
          refine p_bipush (by decide) (by decide) dX5_number_55 ?_
          refine p_iload4 dX5_number_57 ?_
          refine p_imul dX5_number_59 ?_
          refine p_oload0 dX5_number_60 ?_
          refine p_get fl_RX5_25 gm_tape dX5_number_61 ?_
          refine p_iload5 dX5_number_64 ?_
          refine p_iald y5_tape (by omega) (by omega) dX5_number_66 ?_
          refine p_iadd dX5_number_67 ?_
          refine p_bipush (by decide) (by decide) dX5_number_68 ?_
          refine p_isub dX5_number_70 ?_
          refine p_istore4 rfl (Nat.le_of_ble_eq_true rfl) dX5_number_71 ?_
          refine p_iinc5 rfl (Nat.le_of_ble_eq_true rfl) dX5_number_73 ?_
          refine p_goto 29 dX5_number_76 (by decide) ?_
          exact ih _ (a + 1) (by omega) (by omega) (by omega) (by omega)
        · rw [show (if sa l (S 15) fr = 2 then nv (S 15) (to - a).toNat a v else v) = (if sa l (S 15) fr = 2 then nv (S 15) (to - (a + 1)).toNat (a + 1) v else v) from by rw [if_pos (by omega), if_pos (by omega), show (to - a).toNat = (to - (a + 1)).toNat + 1 by omega, nv, if_pos (by omega)]]
          refine p_iload4 dX5_number_50 ?_
          refine p_goto 71 dX5_number_52 (by decide) ?_
          refine p_istore4 rfl (Nat.le_of_ble_eq_true rfl) dX5_number_71 ?_
          refine p_iinc5 rfl (Nat.le_of_ble_eq_true rfl) dX5_number_73 ?_
          refine p_goto 29 dX5_number_76 (by decide) ?_
          exact ih _ (a + 1) (by omega) (by omega) (by omega) (by omega)
set_option maxRecDepth 100000 in
set_option maxHeartbeats 1000000 in
theorem c_X5_number {G : GX} {S : St} {k x y l fr to va lo hi : Int} (hl : 0 ≤ l ∧ l ≤ 120) (hy : ∀ i, 0 ≤ i → i < 120 → 0 ≤ S 15 i ∧ S 15 i ≤ 255) (hlo : 0 ≤ lo ∧ lo ≤ 9999) (hhi : 0 ≤ hi ∧ hi ≤ 9999) (hto : 0 ≤ fr ∧ fr ≤ to ∧ to ≤ l) (hd : sa l (S 15) fr = 2 → ∀ k, fr ≤ k → k < to → 48 ≤ S 15 k ∧ S 15 k ≤ 57) : Ev G mX5_number [rf G 31, vi lo, vi hi] (mk G (va_up S 14 (mp k x y l fr to va 0))) none (mk G (if (sa l (S 15) fr = 2 ∧ lo ≤ (if sa l (S 15) fr = 2 then nv (S 15) (to - fr).toNat fr 0 else 0) ∧ (if sa l (S 15) fr = 2 then nv (S 15) (to - fr).toNat fr 0 else 0) ≤ hi) then va_up S 14 (mp k x y l (tkA (S 15) l to) (tkB (S 15) l (tkA (S 15) l to)) (if sa l (S 15) fr = 2 then nv (S 15) (to - fr).toNat fr 0 else 0) 0) else va_up S 14 (mp k x y l fr to (if sa l (S 15) fr = 2 then nv (S 15) (to - fr).toNat fr 0 else 0) 1))) := by
  have hbj := bAt_le hl hy hto.1
  refine Ev.enter (by decide +kernel) (Nat.le_of_ble_eq_true rfl) (L := [some (rf G 31), some (vi lo), some (vi hi), none, none, none]) rfl ?_
  refine p_oload0 dX5_number_0 ?_
  refine p_get fl_RX5_222 y5_isWrong dX5_number_1 ?_
  refine p_if_eq ⟨by omega, by omega⟩ 8 dX5_number_4 (by decide) (fun c4 => ?_) (fun c4 => absurd c4 (by omega))
  refine p_oload0 dX5_number_8 ?_
  refine p_oload0 dX5_number_9 ?_
  refine p_get fl_RX5_210 y5_from dX5_number_10 ?_
  refine p_cV1r (M2 := mX5_byteAt) ml_RX5_213 mc_X5_byteAt ⟨Nat.le_of_ble_eq_true rfl, Nat.le_of_ble_eq_true rfl⟩ (isO_m _ _) (Nat.le_of_ble_eq_true rfl) dX5_number_13 (c_X5_byteAt hl hy (by omega)) ?_
  refine p_cS1r (M2 := mX5_isDigit) ms_RX5_219 mc_X5_isDigit ⟨Nat.le_of_ble_eq_true rfl, Nat.le_of_ble_eq_true rfl⟩ (Nat.le_of_ble_eq_true rfl) dX5_number_16 (c_X5_isDigit hbj) ?_
  refine p_istore3 rfl (Nat.le_of_ble_eq_true rfl) dX5_number_19 ?_
  refine p_iconst dX5_number_20 ?_
  refine p_istore4 rfl (Nat.le_of_ble_eq_true rfl) dX5_number_21 ?_
  refine p_oload0 dX5_number_23 ?_
  refine p_get fl_RX5_210 y5_from dX5_number_24 ?_
  refine p_istore5 rfl (Nat.le_of_ble_eq_true rfl) dX5_number_27 ?_
  exact l_number hl hy hlo hhi hto hd 121 0 fr (by omega) (by omega) (by omega) (by omega)
