theorem cpz_0 (f g : Int → Int) (z d : Int) : cpz f g z d 0 = g := by
  funext i; unfold cpz; rw [if_neg (by omega)]
theorem cpz_step (f g : Int → Int) {z d k : Int} (hk : 0 ≤ k) : uz (cpz f g z d k) (d + k) (f (z + k)) = cpz f g z d (k + 1) := by
  funext i
  by_cases e : i = d + k
  · subst e; rw [uz_self]; unfold cpz; rw [if_pos (by omega)]; congr 1; omega
  · rw [uz_ne _ _ e]; unfold cpz
    by_cases q : d ≤ i ∧ i < d + k
    · rw [if_pos q, if_pos (by omega)]
    · rw [if_neg q, if_neg (by omega)]
theorem q_cp {G : GX} {M : MI} {pc : Nat} {L : LL} {S : St} {a v : Int} {A r : Row} (e : a = v) (eA : A = S 19) (er : r = S 18) (hr : M.2.2.2.1 = some .int) (hd : decode M.2.1 pc = .ok (.ireturn, 1)) : Rn G M pc L [vi a] (mk G (va_up S 13 (tl (S 13) a))) (some (vi v)) (mk G (va_up (va_up (va_up S 13 (tl (S 13) v)) 19 A) 18 r)) := by
  subst e; subst eA; subst er
  refine p_iret hr hd rfl ?_
  rw [show va_up (va_up S 13 (tl (S 13) a)) 19 (S 19) = va_up S 13 (tl (S 13) a) from vup_same _ 19]
  exact congrArg (mk G) (vup_same (va_up S 13 _) 18).symm
set_option maxRecDepth 100000 in
set_option maxHeartbeats 4000000 in
theorem l_X5_copy2 {G : GX} {S : St} {s f t o k : Int} (hs : 0 ≤ s ∧ s ≤ 3) (ht : 0 ≤ t ∧ t ≤ 3) (hf : 0 ≤ f) (ho : 0 ≤ o) (hk : 0 ≤ k) (h1k : f + k ≤ 40) (h2k : o + k ≤ 40) : ∀ (n : Nat) (i : Int), 0 ≤ i → i ≤ k → k - i < (n : Int) → Rn G mX5_copy 157 [some (rf G 31), some (vi s), some (vi f), some (vi t), some (vi o), some (vi k), some (vi i)] [] (mk G (va_up (va_up S 19 (cpz (S 18) (S 19) (40 * s + f) 0 k)) 18 (cpz (S 18) (S 18) (40 * s + f) (40 * t + o) i))) (some (vi k)) (mk G (va_up (va_up S 19 (cpz (S 18) (S 19) (40 * s + f) 0 k)) 18 (cpz (S 18) (S 18) (40 * s + f) (40 * t + o) k))) := by
  intro n
  induction n with
  | zero =>
    intro i h0 h1 h2
    exfalso
    omega
  | succ n ih =>
    intro i h0 h1 h2
    push_cast at h2
    refine p_iload6 dX5_copy_157 ?_
    refine p_iload5 dX5_copy_159 ?_
    refine p_icmp_ge ⟨by omega, by omega⟩ ⟨by omega, by omega⟩ 192 dX5_copy_161 (by decide) (fun c161 => ?_) (fun c161 => ?_)
    · rw [show i = k by omega]
      refine p_iload5 dX5_copy_192 ?_
      exact p_iret rfl dX5_copy_194 rfl rfl
    · have e0 : (cpz (S 18) (S 19) (40 * s + f) 0 k) i = S 18 (40 * s + f + i) := by unfold cpz; rw [if_pos (by omega)]; congr 1; omega
      refine p_oload0 dX5_copy_164 ?_
      refine p_get fl_RX5_34 gm_numbers dX5_copy_165 ?_
      refine p_bipush (by decide) (by decide) dX5_copy_168 ?_
      refine p_iload3 dX5_copy_170 ?_
      refine p_imul dX5_copy_171 ?_
      refine p_iload4 dX5_copy_172 ?_
      refine p_iadd dX5_copy_174 ?_
      refine p_iload6 dX5_copy_175 ?_
      refine p_iadd dX5_copy_177 ?_
      refine p_oload0 dX5_copy_178 ?_
      refine p_get fl_RX5_38 gm_moved dX5_copy_179 ?_
      refine p_iload6 dX5_copy_182 ?_
      refine p_jald al_moved (by omega) (by omega) dX5_copy_184 ?_
      refine p_jast alq_mnumbers (by omega) (by omega) asq_mnumbers dX5_copy_185 ?_
      refine p_iinc6 rfl (Nat.le_of_ble_eq_true rfl) dX5_copy_186 ?_
      refine p_goto 157 dX5_copy_189 (by decide) ?_
      have h := ih (i + 1) (by omega) (by omega) (by omega)
      rw [← cpz_step (S 18) (S 18) h0, ← e0] at h
      exact h
set_option maxRecDepth 100000 in
set_option maxHeartbeats 4000000 in
theorem l_X5_copy {G : GX} {S : St} {s f t o k : Int} (hs : 0 ≤ s ∧ s ≤ 3) (ht : 0 ≤ t ∧ t ≤ 3) (hf : 0 ≤ f) (ho : 0 ≤ o) (hk : 0 ≤ k) (h1k : f + k ≤ 40) (h2k : o + k ≤ 40) : ∀ (n : Nat) (i : Int), 0 ≤ i → i ≤ k → k - i < (n : Int) → Rn G mX5_copy 120 [some (rf G 31), some (vi s), some (vi f), some (vi t), some (vi o), some (vi k), some (vi i)] [] (mk G (va_up S 19 (cpz (S 18) (S 19) (40 * s + f) 0 i))) (some (vi k)) (mk G (va_up (va_up S 19 (cpz (S 18) (S 19) (40 * s + f) 0 k)) 18 (cpz (S 18) (S 18) (40 * s + f) (40 * t + o) k))) := by
  intro n
  induction n with
  | zero =>
    intro i h0 h1 h2
    exfalso
    omega
  | succ n ih =>
    intro i h0 h1 h2
    push_cast at h2
    refine p_iload6 dX5_copy_120 ?_
    refine p_iload5 dX5_copy_122 ?_
    refine p_icmp_ge ⟨by omega, by omega⟩ ⟨by omega, by omega⟩ 154 dX5_copy_124 (by decide) (fun c124 => ?_) (fun c124 => ?_)
    · rw [show i = k by omega]
      refine p_iconst dX5_copy_154 ?_
      refine p_istore6 rfl (Nat.le_of_ble_eq_true rfl) dX5_copy_155 ?_
      have h := l_X5_copy2 (G := G) (S := S) hs ht hf ho hk h1k h2k 41 0 (by omega) (by omega) (by omega)
      rw [cpz_0, show va_up (va_up S 19 (cpz (S 18) (S 19) (40 * s + f) 0 k)) 18 (S 18) = va_up S 19 (cpz (S 18) (S 19) (40 * s + f) 0 k) from vup_same (va_up S 19 _) 18] at h
      exact h
    · refine p_oload0 dX5_copy_127 ?_
      refine p_get fl_RX5_38 gm_moved dX5_copy_128 ?_
      refine p_iload6 dX5_copy_131 ?_
      refine p_oload0 dX5_copy_133 ?_
      refine p_get fl_RX5_34 gm_numbers dX5_copy_134 ?_
      refine p_bipush (by decide) (by decide) dX5_copy_137 ?_
      refine p_iload1 dX5_copy_139 ?_
      refine p_imul dX5_copy_140 ?_
      refine p_iload2 dX5_copy_141 ?_
      refine p_iadd dX5_copy_142 ?_
      refine p_iload6 dX5_copy_143 ?_
      refine p_iadd dX5_copy_145 ?_
      refine p_jald al_mnumbers (by omega) (by omega) dX5_copy_146 ?_
      refine p_jast alq_moved (by omega) (by omega) asq_moved dX5_copy_147 ?_
      refine p_iinc6 rfl (Nat.le_of_ble_eq_true rfl) dX5_copy_148 ?_
      refine p_goto 120 dX5_copy_151 (by decide) ?_
      have h := ih (i + 1) (by omega) (by omega) (by omega)
      rw [← cpz_step (S 18) (S 19) h0, show (0 : Int) + i = i by omega] at h
      exact h
set_option maxRecDepth 100000 in
set_option maxHeartbeats 4000000 in
theorem c_X5_copy {G : GX} {S : St} (hb6 : ∀ i, 0 ≤ i → i < 4 → inR (S 16 i)) (hle : ∀ i, 0 ≤ i → i < 4 → 0 ≤ S 17 i ∧ S 17 i ≤ 40) {s : Int} (h_s : inR s) {f : Int} (h_f : inR f) {t : Int} (h_t : inR t) {o : Int} (h_o : inR o) {k : Int} (h_k : inR k) : Ev G mX5_copy [rf G 31, vi s, vi f, vi t, vi o, vi k] (mk G S) (some (vi (v_copy (S 16) (S 17) s f t o k))) (mk G (va_up (va_up (va_up S 13 (tl (S 13) (v_copy (S 16) (S 17) s f t o k))) 19 (if okC (S 16) (S 17) s f t o k then (cpz (S 18) (S 19) (40 * s + f) 0 k) else S 19)) 18 (n_copy (S 16) (S 17) (S 18) s f t o k))) := by
  obtain ⟨s1, s2⟩ := h_s
  obtain ⟨f1, f2⟩ := h_f
  obtain ⟨t1, t2⟩ := h_t
  obtain ⟨o1, o2⟩ := h_o
  obtain ⟨k1, k2⟩ := h_k
  refine Ev.enter (by decide +kernel) (Nat.le_of_ble_eq_true rfl) (L := [some (rf G 31), some (vi s), some (vi f), some (vi t), some (vi o), some (vi k), none]) rfl ?_
  refine p_iload1 dX5_copy_0 ?_
  refine p_cS1r (M2 := mX5_isOne) ms_RX5_299 mc_X5_isOne ⟨Nat.le_of_ble_eq_true rfl, Nat.le_of_ble_eq_true rfl⟩ (Nat.le_of_ble_eq_true rfl) dX5_copy_1 (c_X5_isOne ⟨by omega, by omega⟩) ?_
  refine p_bif_eq 14 dX5_copy_4 (by decide) (fun c4 => ?_) (fun c4 => ?_)
  · refine p_oload0 dX5_copy_14 ?_
    refine p_ldc wc_RX5_41 dX5_copy_15 ?_
    refine p_cV1r (M2 := mX5_finds) ml_RX5_61 mc_X5_finds ⟨Nat.le_of_ble_eq_true rfl, Nat.le_of_ble_eq_true rfl⟩ (isO_m _ _) (Nat.le_of_ble_eq_true rfl) dX5_copy_17 (c_finds0 (by omega)) ?_
    exact q_cp (by unfold v_copy; (try split) <;> (try split) <;> (try split) <;> (try split) <;> (try split) <;> (try split) <;> (try split) <;> omega) (by rw [if_neg (by unfold okC; omega)]) (by unfold n_copy okC; rw [if_neg (by omega)]) rfl dX5_copy_20
  · refine p_iload3 dX5_copy_7 ?_
    refine p_cS1r (M2 := mX5_isOne) ms_RX5_299 mc_X5_isOne ⟨Nat.le_of_ble_eq_true rfl, Nat.le_of_ble_eq_true rfl⟩ (Nat.le_of_ble_eq_true rfl) dX5_copy_8 (c_X5_isOne ⟨by omega, by omega⟩) ?_
    refine p_bif_ne 21 dX5_copy_11 (by decide) (fun c11 => ?_) (fun c11 => ?_)
    · have hl1 := hle s (by omega) (by omega); have hl2 := hle t (by omega) (by omega)
      obtain ⟨j1, j2⟩ := hb6 s (by omega) (by omega); obtain ⟨j3, j4⟩ := hb6 t (by omega) (by omega)
      refine p_oload0 dX5_copy_21 ?_
      refine p_get fl_RX5_28 gm_bitsOf dX5_copy_22 ?_
      refine p_iload1 dX5_copy_25 ?_
      refine p_iald al_bitsOf (by omega) (by omega) dX5_copy_26 ?_
      refine p_if_eq ⟨by omega, by omega⟩ 39 dX5_copy_27 (by decide) (fun c27 => ?_) (fun c27 => ?_)
      · refine p_oload0 dX5_copy_39 ?_
        refine p_ldcw wc_RX5_303 dX5_copy_40 ?_
        refine p_cV1r (M2 := mX5_finds) ml_RX5_61 mc_X5_finds ⟨Nat.le_of_ble_eq_true rfl, Nat.le_of_ble_eq_true rfl⟩ (isO_m _ _) (Nat.le_of_ble_eq_true rfl) dX5_copy_43 (c_finds0 (by omega)) ?_
        exact q_cp (by unfold v_copy; (try split) <;> (try split) <;> (try split) <;> (try split) <;> (try split) <;> (try split) <;> (try split) <;> omega) (by rw [if_neg (by unfold okC; omega)]) (by unfold n_copy okC; rw [if_neg (by omega)]) rfl dX5_copy_46
      · refine p_oload0 dX5_copy_30 ?_
        refine p_get fl_RX5_28 gm_bitsOf dX5_copy_31 ?_
        refine p_iload3 dX5_copy_34 ?_
        refine p_iald al_bitsOf (by omega) (by omega) dX5_copy_35 ?_
        refine p_if_ne ⟨by omega, by omega⟩ 47 dX5_copy_36 (by decide) (fun c36 => ?_) (fun c36 => ?_)
        · refine p_oload0 dX5_copy_47 ?_
          refine p_get fl_RX5_28 gm_bitsOf dX5_copy_48 ?_
          refine p_iload1 dX5_copy_51 ?_
          refine p_iald al_bitsOf (by omega) (by omega) dX5_copy_52 ?_
          refine p_oload0 dX5_copy_53 ?_
          refine p_get fl_RX5_28 gm_bitsOf dX5_copy_54 ?_
          refine p_iload3 dX5_copy_57 ?_
          refine p_iald al_bitsOf (by omega) (by omega) dX5_copy_58 ?_
          refine p_icmp_eq ⟨by omega, by omega⟩ ⟨by omega, by omega⟩ 69 dX5_copy_59 (by decide) (fun c59 => ?_) (fun c59 => ?_)
          · refine p_iload2 dX5_copy_69 ?_
            refine p_if_lt ⟨by omega, by omega⟩ 110 dX5_copy_70 (by decide) (fun c70 => ?_) (fun c70 => ?_)
            · refine p_oload0 dX5_copy_110 ?_
              refine p_ldc wc_RX5_41 dX5_copy_111 ?_
              refine p_cV1r (M2 := mX5_finds) ml_RX5_61 mc_X5_finds ⟨Nat.le_of_ble_eq_true rfl, Nat.le_of_ble_eq_true rfl⟩ (isO_m _ _) (Nat.le_of_ble_eq_true rfl) dX5_copy_113 (c_finds0 (by omega)) ?_
              exact q_cp (by unfold v_copy; (try split) <;> (try split) <;> (try split) <;> (try split) <;> (try split) <;> (try split) <;> (try split) <;> omega) (by rw [if_neg (by unfold okC; omega)]) (by unfold n_copy okC; rw [if_neg (by omega)]) rfl dX5_copy_116
            · refine p_iload4 dX5_copy_73 ?_
              refine p_if_lt ⟨by omega, by omega⟩ 110 dX5_copy_75 (by decide) (fun c75 => ?_) (fun c75 => ?_)
              · refine p_oload0 dX5_copy_110 ?_
                refine p_ldc wc_RX5_41 dX5_copy_111 ?_
                refine p_cV1r (M2 := mX5_finds) ml_RX5_61 mc_X5_finds ⟨Nat.le_of_ble_eq_true rfl, Nat.le_of_ble_eq_true rfl⟩ (isO_m _ _) (Nat.le_of_ble_eq_true rfl) dX5_copy_113 (c_finds0 (by omega)) ?_
                exact q_cp (by unfold v_copy; (try split) <;> (try split) <;> (try split) <;> (try split) <;> (try split) <;> (try split) <;> (try split) <;> omega) (by rw [if_neg (by unfold okC; omega)]) (by unfold n_copy okC; rw [if_neg (by omega)]) rfl dX5_copy_116
              · refine p_iload5 dX5_copy_78 ?_
                refine p_if_lt ⟨by omega, by omega⟩ 110 dX5_copy_80 (by decide) (fun c80 => ?_) (fun c80 => ?_)
                · refine p_oload0 dX5_copy_110 ?_
                  refine p_ldc wc_RX5_41 dX5_copy_111 ?_
                  refine p_cV1r (M2 := mX5_finds) ml_RX5_61 mc_X5_finds ⟨Nat.le_of_ble_eq_true rfl, Nat.le_of_ble_eq_true rfl⟩ (isO_m _ _) (Nat.le_of_ble_eq_true rfl) dX5_copy_113 (c_finds0 (by omega)) ?_
                  exact q_cp (by unfold v_copy; (try split) <;> (try split) <;> (try split) <;> (try split) <;> (try split) <;> (try split) <;> (try split) <;> omega) (by rw [if_neg (by unfold okC; omega)]) (by unfold n_copy okC; rw [if_neg (by omega)]) rfl dX5_copy_116
                · refine p_iload5 dX5_copy_83 ?_
                  refine p_oload0 dX5_copy_85 ?_
                  refine p_get fl_RX5_31 gm_sizeOf dX5_copy_86 ?_
                  refine p_iload1 dX5_copy_89 ?_
                  refine p_iald al_sizeOf (by omega) (by omega) dX5_copy_90 ?_
                  refine p_iload2 dX5_copy_91 ?_
                  refine p_isub dX5_copy_92 ?_
                  refine p_icmp_gt ⟨by omega, by omega⟩ ⟨by omega, by omega⟩ 110 dX5_copy_93 (by decide) (fun c93 => ?_) (fun c93 => ?_)
                  · refine p_oload0 dX5_copy_110 ?_
                    refine p_ldc wc_RX5_41 dX5_copy_111 ?_
                    refine p_cV1r (M2 := mX5_finds) ml_RX5_61 mc_X5_finds ⟨Nat.le_of_ble_eq_true rfl, Nat.le_of_ble_eq_true rfl⟩ (isO_m _ _) (Nat.le_of_ble_eq_true rfl) dX5_copy_113 (c_finds0 (by omega)) ?_
                    exact q_cp (by unfold v_copy; (try split) <;> (try split) <;> (try split) <;> (try split) <;> (try split) <;> (try split) <;> (try split) <;> omega) (by rw [if_neg (by unfold okC; omega)]) (by unfold n_copy okC; rw [if_neg (by omega)]) rfl dX5_copy_116
                  · refine p_iload5 dX5_copy_96 ?_
                    refine p_oload0 dX5_copy_98 ?_
                    refine p_get fl_RX5_31 gm_sizeOf dX5_copy_99 ?_
                    refine p_iload3 dX5_copy_102 ?_
                    refine p_iald al_sizeOf (by omega) (by omega) dX5_copy_103 ?_
                    refine p_iload4 dX5_copy_104 ?_
                    refine p_isub dX5_copy_106 ?_
                    refine p_icmp_le ⟨by omega, by omega⟩ ⟨by omega, by omega⟩ 117 dX5_copy_107 (by decide) (fun c107 => ?_) (fun c107 => ?_)
                    · refine p_iconst dX5_copy_117 ?_
                      refine p_istore6 rfl (Nat.le_of_ble_eq_true rfl) dX5_copy_118 ?_
                      have h := l_X5_copy (G := G) (S := S) (s := s) (f := f) (t := t) (o := o) (k := k) (by omega) (by omega) (by omega) (by omega) (by omega) (by omega) (by omega) 41 0 (by omega) (by omega) (by omega)
                      rw [cpz_0, vup_same] at h
                      rw [show v_copy (S 16) (S 17) s f t o k = k from by unfold v_copy; rw [if_pos (by omega), if_neg (by omega), if_pos (by omega), if_pos (by omega)], show n_copy (S 16) (S 17) (S 18) s f t o k = (cpz (S 18) (S 18) (40 * s + f) (40 * t + o) k) from by unfold n_copy okC; rw [if_pos (by omega)], if_pos (show okC (S 16) (S 17) s f t o k by unfold okC; omega), tl_no (by omega), vup_same]
                      exact h
                    · refine p_oload0 dX5_copy_110 ?_
                      refine p_ldc wc_RX5_41 dX5_copy_111 ?_
                      refine p_cV1r (M2 := mX5_finds) ml_RX5_61 mc_X5_finds ⟨Nat.le_of_ble_eq_true rfl, Nat.le_of_ble_eq_true rfl⟩ (isO_m _ _) (Nat.le_of_ble_eq_true rfl) dX5_copy_113 (c_finds0 (by omega)) ?_
                      exact q_cp (by unfold v_copy; (try split) <;> (try split) <;> (try split) <;> (try split) <;> (try split) <;> (try split) <;> (try split) <;> omega) (by rw [if_neg (by unfold okC; omega)]) (by unfold n_copy okC; rw [if_neg (by omega)]) rfl dX5_copy_116
          · refine p_oload0 dX5_copy_62 ?_
            refine p_ldc wc_RX5_111 dX5_copy_63 ?_
            refine p_cV1r (M2 := mX5_finds) ml_RX5_61 mc_X5_finds ⟨Nat.le_of_ble_eq_true rfl, Nat.le_of_ble_eq_true rfl⟩ (isO_m _ _) (Nat.le_of_ble_eq_true rfl) dX5_copy_65 (c_finds0 (by omega)) ?_
            exact q_cp (by unfold v_copy; (try split) <;> (try split) <;> (try split) <;> (try split) <;> (try split) <;> (try split) <;> (try split) <;> omega) (by rw [if_neg (by unfold okC; omega)]) (by unfold n_copy okC; rw [if_neg (by omega)]) rfl dX5_copy_68
        · refine p_oload0 dX5_copy_39 ?_
          refine p_ldcw wc_RX5_303 dX5_copy_40 ?_
          refine p_cV1r (M2 := mX5_finds) ml_RX5_61 mc_X5_finds ⟨Nat.le_of_ble_eq_true rfl, Nat.le_of_ble_eq_true rfl⟩ (isO_m _ _) (Nat.le_of_ble_eq_true rfl) dX5_copy_43 (c_finds0 (by omega)) ?_
          exact q_cp (by unfold v_copy; (try split) <;> (try split) <;> (try split) <;> (try split) <;> (try split) <;> (try split) <;> (try split) <;> omega) (by rw [if_neg (by unfold okC; omega)]) (by unfold n_copy okC; rw [if_neg (by omega)]) rfl dX5_copy_46
    · refine p_oload0 dX5_copy_14 ?_
      refine p_ldc wc_RX5_41 dX5_copy_15 ?_
      refine p_cV1r (M2 := mX5_finds) ml_RX5_61 mc_X5_finds ⟨Nat.le_of_ble_eq_true rfl, Nat.le_of_ble_eq_true rfl⟩ (isO_m _ _) (Nat.le_of_ble_eq_true rfl) dX5_copy_17 (c_finds0 (by omega)) ?_
      exact q_cp (by unfold v_copy; (try split) <;> (try split) <;> (try split) <;> (try split) <;> (try split) <;> (try split) <;> (try split) <;> omega) (by rw [if_neg (by unfold okC; omega)]) (by unfold n_copy okC; rw [if_neg (by omega)]) rfl dX5_copy_20
set_option maxRecDepth 100000 in
set_option maxHeartbeats 4000000 in
theorem l_X5_lays {G : GX} {S : St} {s f0 : Int} (hs : 0 ≤ s ∧ s ≤ 3) (hle : ∀ i, 0 ≤ i → i < 4 → 0 ≤ S 17 i ∧ S 17 i ≤ 40) (hnu : ∀ i, 0 ≤ i → i < 160 → inL (S 18 i)) : ∀ (n : Nat) (i : Int) (r : Row) (a : Int) (b : Int), IR b r → 0 ≤ a ∧ a ≤ i → 0 ≤ i → i ≤ (if S 17 s < r 0 then S 17 s else r 0) → (if S 17 s < r 0 then S 17 s else r 0) - i < (n : Int) → Rn G mX5_lays 21 [some (rf G 31), some (vi s), some (vi f0), some (vi a), some (vi i), none] [] (mk G (va_up S 9 r)) (some (vi (lyL (fun k => S 18 (40 * s + k)) ((if S 17 s < r 0 then S 17 s else r 0) - i).toNat i r a).2)) (mk G (va_up S 9 (lyL (fun k => S 18 (40 * s + k)) ((if S 17 s < r 0 then S 17 s else r 0) - i).toNat i r a).1)) := by
  intro n
  induction n with
  | zero =>
    intro i r a b hI ha h0 h1 h2
    exfalso
    omega
  | succ n ih =>
    intro i r a b hI ha h0 h1 h2
    push_cast at h2
    have hlq := hle s (by omega) (by omega); have i0 := hI.1
    refine p_iload4 dX5_lays_21 ?_
    refine p_oload0 dX5_lays_23 ?_
    refine p_get fl_RX5_31 gm_sizeOf dX5_lays_24 ?_
    refine p_iload1 dX5_lays_27 ?_
    refine p_iald al_sizeOf (by omega) (by omega) dX5_lays_28 ?_
    refine p_icmp_ge ⟨by omega, by omega⟩ (by show inR (S 17 s); exact ⟨by omega, by omega⟩) 122 dX5_lays_29 (by decide) (fun c29 => ?_) (fun c29 => ?_)
    · have c30 : S 17 s ≤ i := c29
      rw [show ((if S 17 s < r 0 then S 17 s else r 0) - i).toNat = 0 by split at h1 <;> split <;> omega]
      refine p_iload3 dX5_lays_122 ?_
      exact p_iret rfl dX5_lays_123 rfl rfl
    · have c30 : ¬ S 17 s ≤ i := c29
      refine p_iload4 dX5_lays_32 ?_
      refine p_oload0 dX5_lays_34 ?_
      refine p_get fl_RX5_7 gm_s dX5_lays_35 ?_
      refine p_iconst dX5_lays_38 ?_
      refine p_iald alq_s (by omega) (by omega) dX5_lays_39 ?_
      refine p_icmp_ge ⟨by omega, by omega⟩ ⟨by omega, by omega⟩ 122 dX5_lays_40 (by decide) (fun c40 => ?_) (fun c40 => ?_)
      · rw [show ((if S 17 s < r 0 then S 17 s else r 0) - i).toNat = 0 by split at h1 <;> split <;> omega]
        refine p_iload3 dX5_lays_122 ?_
        exact p_iret rfl dX5_lays_123 rfl rfl
      · have hlt : i < (if S 17 s < r 0 then S 17 s else r 0) := by split <;> omega
        rw [show ((if S 17 s < r 0 then S 17 s else r 0) - i).toNat = ((if S 17 s < r 0 then S 17 s else r 0) - (i + 1)).toNat + 1 by omega, lyL]
        have hn := hnu (40 * s + i) (by omega) (by omega)
        refine p_oload0 dX5_lays_43 ?_
        refine p_get fl_RX5_34 gm_numbers dX5_lays_44 ?_
        refine p_bipush (by decide) (by decide) dX5_lays_47 ?_
        refine p_iload1 dX5_lays_49 ?_
        refine p_imul dX5_lays_50 ?_
        refine p_iload4 dX5_lays_51 ?_
        refine p_iadd dX5_lays_53 ?_
        refine p_jald al_mnumbers (by omega) (by omega) dX5_lays_54 ?_
        refine p_lconst0 dX5_lays_55 ?_
        refine p_ldc2 wc_RX5_75 dX5_lays_56 ?_
        refine p_cS3r (M2 := mX5_in) ms_RX5_42 mc_X5_in ⟨Nat.le_of_ble_eq_true rfl, Nat.le_of_ble_eq_true rfl⟩ (Nat.le_of_ble_eq_true rfl) dX5_lays_59 (c_X5_in hn ⟨by omega, by omega⟩ ⟨by omega, by omega⟩) ?_
        refine p_istore5 rfl (Nat.le_of_ble_eq_true rfl) dX5_lays_62 ?_
        refine p_oload0 dX5_lays_64 ?_
        refine p_get fl_RX5_7 gm_s dX5_lays_65 ?_
        refine p_iload4 dX5_lays_68 ?_
        refine p_iconst dX5_lays_70 ?_
        refine p_cS2r (M2 := mX5_spotOf) ms_RX5_54 mc_X5_spotOf ⟨Nat.le_of_ble_eq_true rfl, Nat.le_of_ble_eq_true rfl⟩ (Nat.le_of_ble_eq_true rfl) dX5_lays_71 (c_X5_spotOf1) ?_
        refine p_iload5 dX5_lays_74 ?_
        refine p_bif_eq 95 dX5_lays_76 (by decide) (fun c76 => ?_) (fun c76 => ?_)
        · have c77 : ¬ (0 ≤ S 18 (40 * s + i) ∧ S 18 (40 * s + i) ≤ 99) := c76
          rw [if_neg c77]
          refine p_oload0 dX5_lays_95 ?_
          refine p_iload4 dX5_lays_96 ?_
          refine p_iconst dX5_lays_98 ?_
          refine p_cV2r (M2 := mX5_its) ml_RX5_87 mc_X5_its ⟨Nat.le_of_ble_eq_true rfl, Nat.le_of_ble_eq_true rfl⟩ (isO_m _ _) (Nat.le_of_ble_eq_true rfl) dX5_lays_99 (c_X5_its1 hI (by omega) (by omega)) ?_
          refine p_iast alq_s (by omega) (by omega) asq_s dX5_lays_102 ?_
          refine p_iload3 dX5_lays_103 ?_
          refine p_iload5 dX5_lays_104 ?_
          refine p_bif_eq 113 dX5_lays_106 (by decide) (fun c106 => ?_) (fun c106 => ?_)
          · have c107 : ¬ (0 ≤ S 18 (40 * s + i) ∧ S 18 (40 * s + i) ≤ 99) := c106
            refine p_iconst dX5_lays_113 ?_
            refine p_iadd dX5_lays_114 ?_
            refine p_istore3 rfl (Nat.le_of_ble_eq_true rfl) dX5_lays_115 ?_
            refine p_iinc4 rfl (Nat.le_of_ble_eq_true rfl) dX5_lays_116 ?_
            refine p_goto 21 dX5_lays_119 (by decide) ?_
            rw [uz_same, Int.add_zero]
            exact Rn.kp (ih (i + 1) r a b hI (by omega) (by omega) (by omega) (by omega)) ⟨rfl, rfl, rfl, rfl, rfl, trivial⟩
          · have c107 : 0 ≤ S 18 (40 * s + i) ∧ S 18 (40 * s + i) ≤ 99 := c106
            refine p_iconst dX5_lays_109 ?_
            refine p_goto 114 dX5_lays_110 (by decide) ?_
            refine p_iadd dX5_lays_114 ?_
            refine p_istore3 rfl (Nat.le_of_ble_eq_true rfl) dX5_lays_115 ?_
            refine p_iinc4 rfl (Nat.le_of_ble_eq_true rfl) dX5_lays_116 ?_
            refine p_goto 21 dX5_lays_119 (by decide) ?_
            (exfalso; omega)
        · have c77 : 0 ≤ S 18 (40 * s + i) ∧ S 18 (40 * s + i) ≤ 99 := c76
          rw [if_pos c77]
          refine p_oload0 dX5_lays_79 ?_
          refine p_get fl_RX5_34 gm_numbers dX5_lays_80 ?_
          refine p_bipush (by decide) (by decide) dX5_lays_83 ?_
          refine p_iload1 dX5_lays_85 ?_
          refine p_imul dX5_lays_86 ?_
          refine p_iload4 dX5_lays_87 ?_
          refine p_iadd dX5_lays_89 ?_
          refine p_jald al_mnumbers (by omega) (by omega) dX5_lays_90 ?_
          refine p_l2i dX5_lays_91 ?_
          refine p_goto 102 dX5_lays_92 (by decide) ?_
          refine p_iast alq_s (by omega) (by omega) asq_s dX5_lays_102 ?_
          refine p_iload3 dX5_lays_103 ?_
          refine p_iload5 dX5_lays_104 ?_
          refine p_bif_eq 113 dX5_lays_106 (by decide) (fun c106 => ?_) (fun c106 => ?_)
          · have c107 : ¬ (0 ≤ S 18 (40 * s + i) ∧ S 18 (40 * s + i) ≤ 99) := c106
            refine p_iconst dX5_lays_113 ?_
            refine p_iadd dX5_lays_114 ?_
            refine p_istore3 rfl (Nat.le_of_ble_eq_true rfl) dX5_lays_115 ?_
            refine p_iinc4 rfl (Nat.le_of_ble_eq_true rfl) dX5_lays_116 ?_
            refine p_goto 21 dX5_lays_119 (by decide) ?_
            (exfalso; omega)
          · have c107 : 0 ≤ S 18 (40 * s + i) ∧ S 18 (40 * s + i) ≤ 99 := c106
            refine p_iconst dX5_lays_109 ?_
            refine p_goto 114 dX5_lays_110 (by decide) ?_
            refine p_iadd dX5_lays_114 ?_
            refine p_istore3 rfl (Nat.le_of_ble_eq_true rfl) dX5_lays_115 ?_
            refine p_iinc4 rfl (Nat.le_of_ble_eq_true rfl) dX5_lays_116 ?_
            refine p_goto 21 dX5_lays_119 (by decide) ?_
            have h := ih (i + 1) (uz r (18 + 3 * i) (S 18 (40 * s + i))) (a + 1) b (hI.wants h0 (by omega)) (by omega) (by omega) (by rw [uz_ne _ _ (by omega)]; omega) (by rw [uz_ne _ _ (by omega)]; omega)
            rw [uz_ne (j := 0) _ _ (by omega)] at h
            exact Rn.kp h ⟨rfl, rfl, rfl, rfl, rfl, trivial⟩
set_option maxRecDepth 100000 in
set_option maxHeartbeats 4000000 in
theorem c_X5_lays {G : GX} {S : St} {r : Row} {b : Int} (hI : IR b r) (hb : b ≤ 99999) (hb6 : ∀ i, 0 ≤ i → i < 4 → inR (S 16 i)) (hle : ∀ i, 0 ≤ i → i < 4 → 0 ≤ S 17 i ∧ S 17 i ≤ 40) (hnu : ∀ i, 0 ≤ i → i < 160 → inL (S 18 i)) {s : Int} (h_s : inR s) : Ev G mX5_lays [rf G 31, vi s] (mk G (va_up S 9 r)) (some (vi (v_lays r (S 16) (S 17) (S 18) s))) (mk G (va_up (va_up S 13 (tl (S 13) (v_lays r (S 16) (S 17) (S 18) s))) 9 (r_lays r (S 16) (S 17) (S 18) s))) := by
  have i0 := hI.1; have i1 := hI.2.1; have i2 := hI.2.2.1; have i3 := hI.2.2.2.1; have i4 := hI.2.2.2.2.1
  obtain ⟨s1, s2⟩ := h_s
  have hmr : mS (S 16) s = 0 ∨ mS (S 16) s = -1000000001 ∨ mS (S 16) s = -1000000006 := by unfold mS; split <;> (try split) <;> omega
  refine Ev.enter (by decide +kernel) (Nat.le_of_ble_eq_true rfl) (L := [some (rf G 31), some (vi s), none, none, none, none]) rfl ?_
  refine p_oload0 dX5_lays_0 ?_
  refine p_iload1 dX5_lays_1 ?_
  refine p_cV1r (M2 := mX5_wrongSheet) ml_RX5_304 mc_X5_wrongSheet ⟨Nat.le_of_ble_eq_true rfl, Nat.le_of_ble_eq_true rfl⟩ (isO_m _ _) (Nat.le_of_ble_eq_true rfl) dX5_lays_2 (c_X5_wrongSheet (S := va_up S 9 r) hb6 ⟨by omega, by omega⟩) ?_
  rw [show mS ((va_up S 9 r) 16) s = mS (S 16) s from rfl]
  refine p_istore2 rfl (Nat.le_of_ble_eq_true rfl) dX5_lays_5 ?_
  refine p_iload2 dX5_lays_6 ?_
  refine p_if_eq ⟨by omega, by omega⟩ 16 dX5_lays_7 (by decide) (fun c7 => ?_) (fun c7 => ?_)
  · have hv3 : 0 ≤ s ∧ s ≤ 3 := by unfold mS at c7; split at c7 <;> omega
    refine p_iconst dX5_lays_16 ?_
    refine p_istore3 rfl (Nat.le_of_ble_eq_true rfl) dX5_lays_17 ?_
    refine p_iconst dX5_lays_18 ?_
    refine p_istore4 rfl (Nat.le_of_ble_eq_true rfl) dX5_lays_19 ?_
    have hlq := hle s (by omega) (by omega)
    have h := l_X5_lays (G := G) (S := S) (s := s) (f0 := mS (S 16) s) hv3 hle hnu 9 0 r 0 b hI (by omega) (by omega) (by split <;> omega) (by split <;> omega)
    rw [Int.sub_zero] at h
    have hb2 := lyL_le (fun k => S 18 (40 * s + k)) (lyn r (S 17) s) 0 r 0
    rw [show v_lays r (S 16) (S 17) (S 18) s = (lyL (fun k => S 18 (40 * s + k)) (lyn r (S 17) s) 0 r 0).2 from by unfold v_lays; rw [if_pos c7], show r_lays r (S 16) (S 17) (S 18) s = (lyL (fun k => S 18 (40 * s + k)) (lyn r (S 17) s) 0 r 0).1 from by unfold r_lays; rw [if_pos c7], tl_no (by omega), vup_same]
    exact h
  · refine p_oload0 dX5_lays_10 ?_
    refine p_iload2 dX5_lays_11 ?_
    refine p_cV1r (M2 := mX5_finds) ml_RX5_61 mc_X5_finds ⟨Nat.le_of_ble_eq_true rfl, Nat.le_of_ble_eq_true rfl⟩ (isO_m _ _) (Nat.le_of_ble_eq_true rfl) dX5_lays_12 (c_X5_finds (by omega)) ?_
    exact m_f (by unfold v_lays; rw [if_neg c7]) (by unfold r_lays; rw [if_neg c7]) rfl dX5_lays_15
theorem y_al18 {G : GX} {S : St} {f t : Row} : jld G (mk G (va_up (va_up S 18 f) 9 t)) 40 160 f := al_mnumbers
theorem y_as18 {G : GX} {S : St} {f t : Row} {m v : Int} : va_up (mk G (va_up (va_up S 18 f) 9 t)) 40 (ja G 160 (uz f m v)) = mk G (va_up (va_up S 18 (uz f m v)) 9 t) := mk_set (by decide) rfl
theorem c_takes3 {G : GX} {S : St} {a M r : Row} {v : Int} : Ev G mX5_takesBack [rf G 31, vi v] (mk G (va_up (va_up (va_up S 12 a) 18 M) 9 r)) (some (vi v)) (mk G (va_up (va_up (va_up S 12 a) 18 M) 9 a)) := by
  have h := c_X5_takesBack (G := G) (S := va_up S 18 M) (a := a) (r := r) (v := v)
  rw [vup_swap S (by decide : (18 : Nat) ≠ 12) M a] at h
  exact h
set_option maxRecDepth 100000 in
set_option maxHeartbeats 4000000 in
theorem l_X5_book {G : GX} {S : St} (hb6 : ∀ i, 0 ≤ i → i < 4 → inR (S 16 i)) (hle : ∀ i, 0 ≤ i → i < 4 → 0 ≤ S 17 i ∧ S 17 i ≤ 40) {a : Row} {s p f0 : Int} (hs : 0 ≤ s ∧ s ≤ 3) (hp : 0 ≤ p ∧ p < 8) : ∀ (n : Nat) (i : Int) (t : Row) (f : Row) (b : Int), IR b t → b ≤ 100000 + i → 0 ≤ i → i ≤ S 17 s → S 17 s - i < (n : Int) → Rn G mX5_book 24 [some (rf G 31), some (vi s), some (vi p), some (vi f0), some (vi i)] [] (mk G (va_up (va_up (va_up S 12 a) 18 f) 9 t)) (some (vi (S 17 s))) (mk G (va_up (va_up (va_up S 12 a) 18 (bkL (S 16 s) p s (S 17 s - i).toNat i t f)) 9 a)) := by
  intro n
  induction n with
  | zero =>
    intro i t f b hI hb h0 h1 h2
    exfalso
    omega
  | succ n ih =>
    intro i t f b hI hb h0 h1 h2
    push_cast at h2
    have hlq := hle s (by omega) (by omega)
    refine p_iload4 dX5_book_24 ?_
    refine p_oload0 dX5_book_26 ?_
    refine p_get fl_RX5_31 gm_sizeOf dX5_book_27 ?_
    refine p_iload1 dX5_book_30 ?_
    refine p_iald al_sizeOf (by omega) (by omega) dX5_book_31 ?_
    refine p_icmp_ge ⟨by omega, by omega⟩ (by show inR (S 17 s); exact ⟨by omega, by omega⟩) 73 dX5_book_32 (by decide) (fun c32 => ?_) (fun c32 => ?_)
    · have c33 : S 17 s ≤ i := c32
      rw [show (S 17 s - i).toNat = 0 by omega, bkL]
      refine p_oload0 dX5_book_73 ?_
      refine p_oload0 dX5_book_74 ?_
      refine p_get fl_RX5_31 gm_sizeOf dX5_book_75 ?_
      refine p_iload1 dX5_book_78 ?_
      refine p_iald al_sizeOf (by omega) (by omega) dX5_book_79 ?_
      refine p_cV1r (M2 := mX5_takesBack) ml_RX5_154 mc_X5_takesBack ⟨Nat.le_of_ble_eq_true rfl, Nat.le_of_ble_eq_true rfl⟩ (isO_m _ _) (Nat.le_of_ble_eq_true rfl) dX5_book_80 (c_takes3) ?_
      exact p_iret rfl dX5_book_83 rfl rfl
    · have c33 : ¬ S 17 s ≤ i := c32
      have i6 := hI.2.2.2.2.2.2 p hp.1 hp.2
      rw [show (S 17 s - i).toNat = (S 17 s - (i + 1)).toNat + 1 by omega, bkL]
      refine p_oload0 dX5_book_35 ?_
      refine p_get fl_RX5_34 gm_numbers dX5_book_36 ?_
      refine p_bipush (by decide) (by decide) dX5_book_39 ?_
      refine p_iload1 dX5_book_41 ?_
      refine p_imul dX5_book_42 ?_
      refine p_iload4 dX5_book_43 ?_
      refine p_iadd dX5_book_45 ?_
      refine p_oload0 dX5_book_46 ?_
      refine p_get fl_RX5_28 gm_bitsOf dX5_book_47 ?_
      refine p_iload1 dX5_book_50 ?_
      refine p_iald al_bitsOf (by omega) (by omega) dX5_book_51 ?_
      refine p_oload0 dX5_book_52 ?_
      refine p_iload2 dX5_book_53 ?_
      refine p_iconst dX5_book_54 ?_
      refine p_cV2r (M2 := mX5_its) ml_RX5_87 mc_X5_its ⟨Nat.le_of_ble_eq_true rfl, Nat.le_of_ble_eq_true rfl⟩ (isO_m _ _) (Nat.le_of_ble_eq_true rfl) dX5_book_55 (c_X5_its1 hI (by omega) (by omega)) ?_
      refine p_i2l ⟨by omega, by omega⟩ dX5_book_58 ?_
      refine p_cS2r (M2 := mX5_narrowed) ms_RX5_307 mc_X5_narrowed ⟨Nat.le_of_ble_eq_true rfl, Nat.le_of_ble_eq_true rfl⟩ (Nat.le_of_ble_eq_true rfl) dX5_book_59 (c_X5_narrowed (hb6 s (by omega) (by omega))) ?_
      refine p_jast y_al18 (by omega) (by omega) y_as18 dX5_book_62 ?_
      refine p_oload0 dX5_book_63 ?_
      refine p_cV0v (M2 := mX5_minute) ml_RX5_128 mc_X5_minute ⟨Nat.le_of_ble_eq_true rfl, Nat.le_of_ble_eq_true rfl⟩ (isO_m _ _) (Nat.le_of_ble_eq_true rfl) dX5_book_64 (c_X5_minute hI (by omega)) ?_
      refine p_iinc4 rfl (Nat.le_of_ble_eq_true rfl) dX5_book_67 ?_
      refine p_goto 24 dX5_book_70 (by decide) ?_
      exact ih (i + 1) _ _ (b + 1) hI.minR (by omega) (by omega) (by omega) (by omega)
set_option maxRecDepth 100000 in
set_option maxHeartbeats 4000000 in
theorem c_X5_book {G : GX} {S : St} {r : Row} {b : Int} (hI : IR b r) (hb : b ≤ 99999) (hb6 : ∀ i, 0 ≤ i → i < 4 → inR (S 16 i)) (hle : ∀ i, 0 ≤ i → i < 4 → 0 ≤ S 17 i ∧ S 17 i ≤ 40) {s p : Int} (h_s : inR s) (h_p : inR p) : Ev G mX5_book [rf G 31, vi s, vi p] (mk G (va_up S 9 r)) (some (vi (v_book r (S 16) (S 17) s p))) (mk G (if mB r (S 16) s p = 0 then va_up (va_up (va_up S 12 r) 18 (n_book r (S 16) (S 17) (S 18) s p)) 9 r else va_up (va_up S 13 (tl (S 13) (mB r (S 16) s p))) 9 r)) := by
  have i0 := hI.1; have i1 := hI.2.1; have i2 := hI.2.2.1; have i3 := hI.2.2.2.1; have i4 := hI.2.2.2.2.1
  obtain ⟨s1, s2⟩ := h_s; obtain ⟨p1, p2⟩ := h_p
  have hmr : mB r (S 16) s p = 0 ∨ mB r (S 16) s p = -1000000001 ∨ mB r (S 16) s p = -1000000006 := by unfold mB mS; split <;> (try split) <;> (try split) <;> omega
  refine Ev.enter (by decide +kernel) (Nat.le_of_ble_eq_true rfl) (L := [some (rf G 31), some (vi s), some (vi p), none, none]) rfl ?_
  refine p_oload0 dX5_book_0 ?_
  refine p_iload1 dX5_book_1 ?_
  refine p_iload2 dX5_book_2 ?_
  refine p_cV2r (M2 := mX5_wrongBook) ml_RX5_311 mc_X5_wrongBook ⟨Nat.le_of_ble_eq_true rfl, Nat.le_of_ble_eq_true rfl⟩ (isO_m _ _) (Nat.le_of_ble_eq_true rfl) dX5_book_3 (c_X5_wrongBook hI hb6 ⟨by omega, by omega⟩ ⟨by omega, by omega⟩) ?_
  refine p_istore3 rfl (Nat.le_of_ble_eq_true rfl) dX5_book_6 ?_
  refine p_iload3 dX5_book_7 ?_
  refine p_if_eq ⟨by omega, by omega⟩ 17 dX5_book_8 (by decide) (fun c8 => ?_) (fun c8 => ?_)
  · have hv3 : (0 ≤ s ∧ s ≤ 3) ∧ 0 ≤ p ∧ p < r 0 := by
      unfold mB at c8; split at c8
      · rename_i q; unfold mS at q; split at q <;> split at c8 <;> omega
      · omega
    refine p_oload0 dX5_book_17 ?_
    refine p_cV0v (M2 := mX5_laysAside) ml_RX5_151 mc_X5_laysAside ⟨Nat.le_of_ble_eq_true rfl, Nat.le_of_ble_eq_true rfl⟩ (isO_m _ _) (Nat.le_of_ble_eq_true rfl) dX5_book_18 (c_X5_laysAside) ?_
    refine p_iconst dX5_book_21 ?_
    refine p_istore4 rfl (Nat.le_of_ble_eq_true rfl) dX5_book_22 ?_
    have hlq := hle s (by omega) (by omega)
    have h := l_X5_book (G := G) (S := S) hb6 hle (a := r) (s := s) (p := p) (f0 := mB r (S 16) s p) (by omega) (by omega) 41 0 r (S 18) b hI (by omega) (by omega) (by omega) (by omega)
    rw [Int.sub_zero, show va_up (va_up S 12 r) 18 (S 18) = va_up S 12 r from vup_same (va_up S 12 r) 18] at h
    rw [show v_book r (S 16) (S 17) s p = S 17 s from by unfold v_book; rw [if_pos c8], if_pos c8, show n_book r (S 16) (S 17) (S 18) s p = bkL (S 16 s) p s (S 17 s).toNat 0 r (S 18) from by unfold n_book; rw [if_pos c8]]
    exact h
  · refine p_oload0 dX5_book_11 ?_
    refine p_iload3 dX5_book_12 ?_
    refine p_cV1r (M2 := mX5_finds) ml_RX5_61 mc_X5_finds ⟨Nat.le_of_ble_eq_true rfl, Nat.le_of_ble_eq_true rfl⟩ (isO_m _ _) (Nat.le_of_ble_eq_true rfl) dX5_book_13 (c_X5_finds (by omega)) ?_
    exact p_iret rfl dX5_book_16 (congrArg (fun z => some (vi z)) (by unfold v_book; rw [if_neg c8])) (by rw [if_neg c8])
set_option maxRecDepth 100000 in
set_option maxHeartbeats 4000000 in
theorem l_X5_isBook {G : GX} {S : St} (hle : ∀ i, 0 ≤ i → i < 4 → 0 ≤ S 17 i ∧ S 17 i ≤ 40) (hnu : ∀ i, 0 ≤ i → i < 160 → inL (S 18 i)) {s p : Int} (hs : 0 ≤ s ∧ s ≤ 3) (hp : 0 ≤ p ∧ p < 8) : ∀ (n : Nat) (i : Int) (t : Row) (b : Int), IR b t → b ≤ 200000 + i → 0 ≤ i → i ≤ S 17 s → S 17 s - i < (n : Int) → Rn G mX5_isBook 2 [some (rf G 31), some (vi s), some (vi p), some (vi i)] [] (mk G (va_up S 9 t)) (some (vi (if (seL (fun k => S 18 (40 * s + k)) p (S 17 s - i).toNat i t).1 = true then 1 else 0))) (mk G (va_up S 9 (seL (fun k => S 18 (40 * s + k)) p (S 17 s - i).toNat i t).2)) := by
  intro n
  induction n with
  | zero =>
    intro i t b hI hb h0 h1 h2
    exfalso
    omega
  | succ n ih =>
    intro i t b hI hb h0 h1 h2
    push_cast at h2
    have hlq := hle s (by omega) (by omega)
    refine p_iload3 dX5_isBook_2 ?_
    refine p_oload0 dX5_isBook_3 ?_
    refine p_get fl_RX5_31 gm_sizeOf dX5_isBook_4 ?_
    refine p_iload1 dX5_isBook_7 ?_
    refine p_iald al_sizeOf (by omega) (by omega) dX5_isBook_8 ?_
    refine p_icmp_ge ⟨by omega, by omega⟩ (by show inR (S 17 s); exact ⟨by omega, by omega⟩) 46 dX5_isBook_9 (by decide) (fun c9 => ?_) (fun c9 => ?_)
    · have c10 : S 17 s ≤ i := c9
      rw [show (S 17 s - i).toNat = 0 by omega, seL]
      refine p_iconst dX5_isBook_46 ?_
      exact p_zret rfl (by first | exact nz0 | exact nz1 | exact nzb _) dX5_isBook_47 rfl rfl
    · have c10 : ¬ S 17 s ≤ i := c9
      have i6 := hI.2.2.2.2.2.2 p hp.1 hp.2
      have hn := hnu (40 * s + i) (by omega) (by omega)
      rw [show (S 17 s - i).toNat = (S 17 s - (i + 1)).toNat + 1 by omega, seL]
      refine p_oload0 dX5_isBook_12 ?_
      refine p_get fl_RX5_34 gm_numbers dX5_isBook_13 ?_
      refine p_bipush (by decide) (by decide) dX5_isBook_16 ?_
      refine p_iload1 dX5_isBook_18 ?_
      refine p_imul dX5_isBook_19 ?_
      refine p_iload3 dX5_isBook_20 ?_
      refine p_iadd dX5_isBook_21 ?_
      refine p_jald al_mnumbers (by omega) (by omega) dX5_isBook_22 ?_
      refine p_oload0 dX5_isBook_23 ?_
      refine p_iload2 dX5_isBook_24 ?_
      refine p_iconst dX5_isBook_25 ?_
      refine p_cV2r (M2 := mX5_its) ml_RX5_87 mc_X5_its ⟨Nat.le_of_ble_eq_true rfl, Nat.le_of_ble_eq_true rfl⟩ (isO_m _ _) (Nat.le_of_ble_eq_true rfl) dX5_isBook_26 (c_X5_its2 hI (by omega) (by omega)) ?_
      refine p_i2l ⟨by omega, by omega⟩ dX5_isBook_29 ?_
      refine p_lc_eq hn ⟨by omega, by omega⟩ 36 dX5_isBook_30 dX5_isBook_31 (by decide) (fun c30 => ?_) (fun c30 => ?_)
      · rw [if_pos (show S 18 (40 * s + i) = t (19 + 3 * p) from c30)]
        refine p_oload0 dX5_isBook_36 ?_
        refine p_cV0v (M2 := mX5_minute) ml_RX5_128 mc_X5_minute ⟨Nat.le_of_ble_eq_true rfl, Nat.le_of_ble_eq_true rfl⟩ (isO_m _ _) (Nat.le_of_ble_eq_true rfl) dX5_isBook_37 (c_X5_minute hI (by omega)) ?_
        refine p_iinc3 rfl (Nat.le_of_ble_eq_true rfl) dX5_isBook_40 ?_
        refine p_goto 2 dX5_isBook_43 (by decide) ?_
        exact ih (i + 1) _ (b + 1) hI.minR (by omega) (by omega) (by omega) (by omega)
      · rw [if_neg (show ¬ S 18 (40 * s + i) = t (19 + 3 * p) from c30)]
        refine p_iconst dX5_isBook_34 ?_
        exact p_zret rfl (by first | exact nz0 | exact nz1 | exact nzb _) dX5_isBook_35 rfl rfl
set_option maxRecDepth 100000 in
set_option maxHeartbeats 4000000 in
theorem c_X5_isBook {G : GX} {S : St} (hle : ∀ i, 0 ≤ i → i < 4 → 0 ≤ S 17 i ∧ S 17 i ≤ 40) (hnu : ∀ i, 0 ≤ i → i < 160 → inL (S 18 i)) {s p b : Int} {t : Row} (hI : IR b t) (hb : b ≤ 200000) (hs : 0 ≤ s ∧ s ≤ 3) (hp : 0 ≤ p ∧ p < 8) : Ev G mX5_isBook [rf G 31, vi s, vi p] (mk G (va_up S 9 t)) (some (vi (if (seL (fun k => S 18 (40 * s + k)) p (S 17 s).toNat 0 t).1 = true then 1 else 0))) (mk G (va_up S 9 (seL (fun k => S 18 (40 * s + k)) p (S 17 s).toNat 0 t).2)) := by
  refine Ev.enter (by decide +kernel) (Nat.le_of_ble_eq_true rfl) (L := [some (rf G 31), some (vi s), some (vi p), none]) rfl ?_
  refine p_iconst dX5_isBook_0 ?_
  refine p_istore3 rfl (Nat.le_of_ble_eq_true rfl) dX5_isBook_1 ?_
  have hlq := hle s (by omega) (by omega)
  have h := l_X5_isBook (G := G) (S := S) hle hnu hs hp 41 0 t b hI (by omega) (by omega) (by omega) (by omega)
  rw [Int.sub_zero] at h
  exact h
set_option maxRecDepth 100000 in
set_option maxHeartbeats 4000000 in
theorem l_X5_read {G : GX} {S : St} {r : Row} {b : Int} (hI : IR b r) (hb : b ≤ 99999) (hle : ∀ i, 0 ≤ i → i < 4 → 0 ≤ S 17 i ∧ S 17 i ≤ 40) (hnu : ∀ i, 0 ≤ i → i < 160 → inL (S 18 i)) {s p f0 : Int} (hs : 0 ≤ s ∧ s ≤ 3) (hp : 0 ≤ p ∧ p < r 0) : ∀ (n : Nat) (j : Int) (c : Int), 0 ≤ c ∧ c ≤ j → 0 ≤ j → j ≤ 600 → 600 - j < (n : Int) → Rn G mX5_read 27 [some (rf G 31), some (vi s), some (vi p), some (vi f0), some (vi c), some (vi j)] [] (mk G (va_up (va_up S 12 r) 9 r)) (some (vi (lsum (rdG (fun k => S 18 (40 * s + k)) (S 17 s).toNat r p) (600 - j).toNat j c))) (mk G (va_up (va_up S 12 r) 9 r)) := by
  intro n
  induction n with
  | zero =>
    intro j c hc h0 h1 h2
    exfalso
    omega
  | succ n ih =>
    intro j c hc h0 h1 h2
    have i0 := hI.1; have i1 := hI.2.1; have i2 := hI.2.2.1; have i3 := hI.2.2.2.1; have i4 := hI.2.2.2.2.1
    push_cast at h2
    refine p_iload5 dX5_read_27 ?_
    refine p_sipush (by decide) (by decide) dX5_read_29 ?_
    refine p_icmp_ge ⟨by omega, by omega⟩ ⟨by omega, by omega⟩ 94 dX5_read_32 (by decide) (fun c32 => ?_) (fun c32 => ?_)
    · rw [show (600 - j).toNat = 0 by omega, lsum]
      refine p_iload4 dX5_read_94 ?_
      exact p_iret rfl dX5_read_96 rfl rfl
    · have hT : IR b (rdQ r p j) := (hI.kind (by omega) (by omega)).wants (by omega) (by omega)
      rw [show (600 - j).toNat = (600 - (j + 1)).toNat + 1 by omega, lsum]
      refine p_oload0 dX5_read_35 ?_
      refine p_get fl_RX5_7 gm_s dX5_read_36 ?_
      refine p_iload2 dX5_read_39 ?_
      refine p_iconst dX5_read_40 ?_
      refine p_cS2r (M2 := mX5_spotOf) ms_RX5_54 mc_X5_spotOf ⟨Nat.le_of_ble_eq_true rfl, Nat.le_of_ble_eq_true rfl⟩ (Nat.le_of_ble_eq_true rfl) dX5_read_41 (c_X5_spotOf0) ?_
      refine p_iload5 dX5_read_44 ?_
      refine p_bipush (by decide) (by decide) dX5_read_46 ?_
      refine p_idiv ⟨by omega, by omega⟩ ⟨by omega, by omega⟩ (by omega) (by omega) dX5_read_48 ?_
      refine p_iast alq_s (by omega) (by omega) asq_s dX5_read_49 ?_
      refine p_oload0 dX5_read_50 ?_
      refine p_get fl_RX5_7 gm_s dX5_read_51 ?_
      refine p_iload2 dX5_read_54 ?_
      refine p_iconst dX5_read_55 ?_
      refine p_cS2r (M2 := mX5_spotOf) ms_RX5_54 mc_X5_spotOf ⟨Nat.le_of_ble_eq_true rfl, Nat.le_of_ble_eq_true rfl⟩ (Nat.le_of_ble_eq_true rfl) dX5_read_56 (c_X5_spotOf1) ?_
      refine p_iload5 dX5_read_59 ?_
      refine p_bipush (by decide) (by decide) dX5_read_61 ?_
      refine p_irem ⟨by omega, by omega⟩ ⟨by omega, by omega⟩ (by omega) (by omega) dX5_read_63 ?_
      refine p_iast alq_s (by omega) (by omega) asq_s dX5_read_64 ?_
      rw [show uz (uz r (17 + 3 * p) (j / 100)) (18 + 3 * p) (j % 100) = rdQ r p j from rfl]
      refine p_oload0 dX5_read_65 ?_
      refine p_iload4 dX5_read_66 ?_
      refine p_oload0 dX5_read_68 ?_
      refine p_iload1 dX5_read_69 ?_
      refine p_iload2 dX5_read_70 ?_
      refine p_cV2r (M2 := mX5_isBook) ml_RX5_314 mc_X5_isBook ⟨Nat.le_of_ble_eq_true rfl, Nat.le_of_ble_eq_true rfl⟩ (isO_m _ _) (Nat.le_of_ble_eq_true rfl) dX5_read_71 (c_X5_isBook (S := va_up S 12 r) hle hnu hT (by omega) hs (by omega)) ?_
      refine p_bif_eq 81 dX5_read_74 (by decide) (fun c74 => ?_) (fun c74 => ?_)
      · rw [show (rdG (fun k => S 18 (40 * s + k)) (S 17 s).toNat r p j) = 0 by unfold rdG; rw [if_neg (show ¬ (seL (fun k => S 18 (40 * s + k)) p (S 17 s).toNat 0 (rdQ r p j)).1 = true from c74)]]
        refine p_iconst dX5_read_81 ?_
        refine p_iadd dX5_read_82 ?_
        refine p_cV1r (M2 := mX5_takesBack) ml_RX5_154 mc_X5_takesBack ⟨Nat.le_of_ble_eq_true rfl, Nat.le_of_ble_eq_true rfl⟩ (isO_m _ _) (Nat.le_of_ble_eq_true rfl) dX5_read_83 (c_X5_takesBack) ?_
        refine p_istore4 rfl (Nat.le_of_ble_eq_true rfl) dX5_read_86 ?_
        refine p_iinc5 rfl (Nat.le_of_ble_eq_true rfl) dX5_read_88 ?_
        refine p_goto 27 dX5_read_91 (by decide) ?_
        exact ih (j + 1) _ (by omega) (by omega) (by omega) (by omega)
      · rw [show (rdG (fun k => S 18 (40 * s + k)) (S 17 s).toNat r p j) = 1 by unfold rdG; rw [if_pos (show (seL (fun k => S 18 (40 * s + k)) p (S 17 s).toNat 0 (rdQ r p j)).1 = true from c74)]]
        refine p_iconst dX5_read_77 ?_
        refine p_goto 82 dX5_read_78 (by decide) ?_
        refine p_iadd dX5_read_82 ?_
        refine p_cV1r (M2 := mX5_takesBack) ml_RX5_154 mc_X5_takesBack ⟨Nat.le_of_ble_eq_true rfl, Nat.le_of_ble_eq_true rfl⟩ (isO_m _ _) (Nat.le_of_ble_eq_true rfl) dX5_read_83 (c_X5_takesBack) ?_
        refine p_istore4 rfl (Nat.le_of_ble_eq_true rfl) dX5_read_86 ?_
        refine p_iinc5 rfl (Nat.le_of_ble_eq_true rfl) dX5_read_88 ?_
        refine p_goto 27 dX5_read_91 (by decide) ?_
        exact ih (j + 1) _ (by omega) (by omega) (by omega) (by omega)
set_option maxRecDepth 100000 in
set_option maxHeartbeats 4000000 in
theorem c_X5_read {G : GX} {S : St} {r : Row} {b : Int} (hI : IR b r) (hb : b ≤ 99999) (hb6 : ∀ i, 0 ≤ i → i < 4 → inR (S 16 i)) (hle : ∀ i, 0 ≤ i → i < 4 → 0 ≤ S 17 i ∧ S 17 i ≤ 40) (hnu : ∀ i, 0 ≤ i → i < 160 → inL (S 18 i)) {s p : Int} (h_s : inR s) (h_p : inR p) : Ev G mX5_read [rf G 31, vi s, vi p] (mk G (va_up S 9 r)) (some (vi (v_read r (S 16) (S 17) (S 18) s p))) (mk G (if mB r (S 16) s p = 0 then va_up (va_up S 12 r) 9 r else va_up (va_up S 13 (tl (S 13) (mB r (S 16) s p))) 9 r)) := by
  have i0 := hI.1; have i1 := hI.2.1; have i2 := hI.2.2.1; have i3 := hI.2.2.2.1; have i4 := hI.2.2.2.2.1
  obtain ⟨s1, s2⟩ := h_s; obtain ⟨p1, p2⟩ := h_p
  have hmr : mB r (S 16) s p = 0 ∨ mB r (S 16) s p = -1000000001 ∨ mB r (S 16) s p = -1000000006 := by unfold mB mS; split <;> (try split) <;> (try split) <;> omega
  refine Ev.enter (by decide +kernel) (Nat.le_of_ble_eq_true rfl) (L := [some (rf G 31), some (vi s), some (vi p), none, none, none]) rfl ?_
  refine p_oload0 dX5_read_0 ?_
  refine p_iload1 dX5_read_1 ?_
  refine p_iload2 dX5_read_2 ?_
  refine p_cV2r (M2 := mX5_wrongBook) ml_RX5_311 mc_X5_wrongBook ⟨Nat.le_of_ble_eq_true rfl, Nat.le_of_ble_eq_true rfl⟩ (isO_m _ _) (Nat.le_of_ble_eq_true rfl) dX5_read_3 (c_X5_wrongBook hI hb6 ⟨by omega, by omega⟩ ⟨by omega, by omega⟩) ?_
  refine p_istore3 rfl (Nat.le_of_ble_eq_true rfl) dX5_read_6 ?_
  refine p_iload3 dX5_read_7 ?_
  refine p_if_eq ⟨by omega, by omega⟩ 17 dX5_read_8 (by decide) (fun c8 => ?_) (fun c8 => ?_)
  · have hv3 : (0 ≤ s ∧ s ≤ 3) ∧ 0 ≤ p ∧ p < r 0 := by
      unfold mB at c8; split at c8
      · rename_i q; unfold mS at q; split at q <;> split at c8 <;> omega
      · omega
    refine p_oload0 dX5_read_17 ?_
    refine p_cV0v (M2 := mX5_laysAside) ml_RX5_151 mc_X5_laysAside ⟨Nat.le_of_ble_eq_true rfl, Nat.le_of_ble_eq_true rfl⟩ (isO_m _ _) (Nat.le_of_ble_eq_true rfl) dX5_read_18 (c_X5_laysAside) ?_
    refine p_iconst dX5_read_21 ?_
    refine p_istore4 rfl (Nat.le_of_ble_eq_true rfl) dX5_read_22 ?_
    refine p_iconst dX5_read_24 ?_
    refine p_istore5 rfl (Nat.le_of_ble_eq_true rfl) dX5_read_25 ?_
    have h := l_X5_read (G := G) (S := S) hI hb hle hnu (s := s) (p := p) (f0 := mB r (S 16) s p) (by omega) (by omega) 601 0 0 (by omega) (by omega) (by omega) (by omega)
    rw [show v_read r (S 16) (S 17) (S 18) s p = lsum (rdG (fun k => S 18 (40 * s + k)) (S 17 s).toNat r p) 600 0 0 from by unfold v_read; rw [if_pos c8], if_pos c8]
    exact h
  · refine p_oload0 dX5_read_11 ?_
    refine p_iload3 dX5_read_12 ?_
    refine p_cV1r (M2 := mX5_finds) ml_RX5_61 mc_X5_finds ⟨Nat.le_of_ble_eq_true rfl, Nat.le_of_ble_eq_true rfl⟩ (isO_m _ _) (Nat.le_of_ble_eq_true rfl) dX5_read_13 (c_X5_finds (by omega)) ?_
    exact p_iret rfl dX5_read_16 (congrArg (fun z => some (vi z)) (by unfold v_read; rw [if_neg c8])) (by rw [if_neg c8])
