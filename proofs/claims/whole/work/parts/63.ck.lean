theorem ls_0 : Cond.laysStatic "FlockCounts$Kinds" "ABOVE" "[I" ∈ lw_tbl := (List.mem_append_right _ (tb_in2 (List.mem_of_getElem? (i := 1) rfl)))
theorem ls_1 : Cond.laysStatic "FlockCounts$Kinds" "WAKES" "[I" ∈ lw_tbl := (List.mem_append_right _ (tb_in1 (List.mem_of_getElem? (i := 219) rfl)))
theorem ls_2 : Cond.laysStatic "FlockCounts$Kinds" "TIRES" "[I" ∈ lw_tbl := (List.mem_append_right _ (tb_in1 (List.mem_of_getElem? (i := 224) rfl)))
theorem ls_3 : Cond.laysStatic "java/lang/String" "COMPACT_STRINGS" "Z" ∈ lw_tbl := (List.mem_append_right _ (tb_in2 (List.mem_of_getElem? (i := 230) rfl)))
theorem ls_4 : Cond.laysStatic "jdk/internal/util/Preconditions" "SIOOBE_FORMATTER" "Ljava/util/function/BiFunction;" ∈ lw_tbl := (List.mem_append_right _ (tb_in3 (List.mem_of_getElem? (i := 6) rfl)))
theorem sr_0 : Cond.stringRef (ownJ 0) (entJ 0) (txtJ 0) ∈ lw_tbl := (List.mem_append_right _ (tb_in3 (List.mem_of_getElem? (i := 63) rfl)))
theorem sr_1 : Cond.stringRef (ownJ 1) (entJ 1) (txtJ 1) ∈ lw_tbl := (List.mem_append_right _ (tb_in3 (List.mem_of_getElem? (i := 58) rfl)))
theorem sr_2 : Cond.stringRef (ownJ 2) (entJ 2) (txtJ 2) ∈ lw_tbl := (List.mem_append_right _ (tb_in3 (List.mem_of_getElem? (i := 59) rfl)))
theorem sr_3 : Cond.stringRef (ownJ 3) (entJ 3) (txtJ 3) ∈ lw_tbl := (List.mem_append_right _ (tb_in3 (List.mem_of_getElem? (i := 60) rfl)))
theorem sr_4 : Cond.stringRef (ownJ 4) (entJ 4) (txtJ 4) ∈ lw_tbl := (List.mem_append_right _ (tb_in3 (List.mem_of_getElem? (i := 61) rfl)))
theorem sr_5 : Cond.stringRef (ownJ 5) (entJ 5) (txtJ 5) ∈ lw_tbl := (List.mem_append_right _ (tb_in3 (List.mem_of_getElem? (i := 62) rfl)))
theorem sr_6 : Cond.stringRef (ownJ 6) (entJ 6) (txtJ 6) ∈ lw_tbl := (List.mem_append_right _ (tb_in2 (List.mem_of_getElem? (i := 216) rfl)))
theorem sr_7 : Cond.stringRef (ownJ 7) (entJ 7) (txtJ 7) ∈ lw_tbl := (List.mem_append_right _ (tb_in3 (List.mem_of_getElem? (i := 70) rfl)))
theorem sr_8 : Cond.stringRef (ownJ 8) (entJ 8) (txtJ 8) ∈ lw_tbl := (List.mem_append_right _ (tb_in3 (List.mem_of_getElem? (i := 34) rfl)))
theorem sr_9 : Cond.stringRef (ownJ 9) (entJ 9) (txtJ 9) ∈ lw_tbl := (List.mem_append_right _ (tb_in3 (List.mem_of_getElem? (i := 39) rfl)))
theorem sr_10 : Cond.stringRef (ownJ 10) (entJ 10) (txtJ 10) ∈ lw_tbl := (List.mem_append_right _ (tb_in3 (List.mem_of_getElem? (i := 40) rfl)))
theorem sr_11 : Cond.stringRef (ownJ 11) (entJ 11) (txtJ 11) ∈ lw_tbl := (List.mem_append_right _ (tb_in3 (List.mem_of_getElem? (i := 41) rfl)))
theorem sr_all (i : Nat) (h : i < 12) : Cond.stringRef (ownJ i) (entJ i) (txtJ i) ∈ lw_tbl := match i, h with
  | 0, _ => sr_0
  | 1, _ => sr_1
  | 2, _ => sr_2
  | 3, _ => sr_3
  | 4, _ => sr_4
  | 5, _ => sr_5
  | 6, _ => sr_6
  | 7, _ => sr_7
  | 8, _ => sr_8
  | 9, _ => sr_9
  | 10, _ => sr_10
  | 11, _ => sr_11
  | n + 12, h => absurd h (by omega)
def flN : List Cond := flatC (Jvm.Cond.and given_1 narrow_1)
def tmJ (i : Nat) : Term := Term.string (ownJ i) (entJ i)
def tmV (i : Nat) : Term := Term.field (tmJ i) "java/lang/String" "value" "[B"
def stK (n : String) : Term := Term.static "FlockCounts$Kinds" n "[I"
theorem fl_A : Cond.arrayOf (stK "ABOVE") .int ∈ flN ∧ Cond.eq (Term.length (stK "ABOVE")) (.int (Int32.ofNat 6)) ∈ flN ∧ ∀ j, j < 6 → Cond.eq (Term.elem (stK "ABOVE") (.int (Int32.ofNat j))) (.int (Int32.ofInt (tA ((j : Nat) : Int)))) ∈ flN := by decide +kernel
theorem fl_W : Cond.arrayOf (stK "WAKES") .int ∈ flN ∧ Cond.eq (Term.length (stK "WAKES")) (.int (Int32.ofNat 6)) ∈ flN ∧ ∀ j, j < 6 → Cond.eq (Term.elem (stK "WAKES") (.int (Int32.ofNat j))) (.int (Int32.ofInt (tW ((j : Nat) : Int)))) ∈ flN := by decide +kernel
theorem fl_T : Cond.arrayOf (stK "TIRES") .int ∈ flN ∧ Cond.eq (Term.length (stK "TIRES")) (.int (Int32.ofNat 6)) ∈ flN ∧ ∀ j, j < 6 → Cond.eq (Term.elem (stK "TIRES") (.int (Int32.ofNat j))) (.int (Int32.ofInt (tT ((j : Nat) : Int)))) ∈ flN := by decide +kernel
theorem fl_C : Cond.eq (Term.static "java/lang/String" "COMPACT_STRINGS" "Z") (.int (Int32.ofInt 1)) ∈ flN ∧ Cond.isRef (Term.static "jdk/internal/util/Preconditions" "SIOOBE_FORMATTER" "Ljava/util/function/BiFunction;") ∈ flN := by decide +kernel
theorem fl_S1 : ∀ i, i < 12 → Cond.exactly (tmJ i) "java/lang/String" ∈ flN ∧ Cond.eq (.field (tmJ i) "java/lang/String" "coder" "B") (.int 0) ∈ flN ∧ Cond.arrayOf (tmV i) .byte ∈ flN ∧ Cond.eq (.length (tmV i)) (.int (Int32.ofNat (lenJ.getD i 0))) ∈ flN := by decide +kernel
theorem fl_S2 : ∀ i, i < 12 → ∀ j, j < lenJ.getD i 0 → Cond.eq (.elem (tmV i) (.int (Int32.ofNat j))) (.int ((bytJ.getD i []).getD j 0)) ∈ flN := by decide +kernel
theorem fl_S3 : ∀ i, i < 12 → ∀ j, j < 12 → i ≠ j → Cond.not (Cond.eq (tmJ i) (tmJ j)) ∈ flN ∨ Cond.not (Cond.eq (tmJ j) (tmJ i)) ∈ flN := by decide +kernel
theorem ck_of {args : Array Value} {s : State} (hts : ∀ w ∈ lw_tbl, w.before args s = true) (hgv : (Jvm.Cond.and given_1 narrow_1).before args s = true) : ∃ (a1 a2 a3 : Nat) (k1 k2 : Nat → Nat), ∀ (G : GX), G.2.2.2 = ((a1, a2, a3), k1, k2) → (∀ q, AD G q → s.heap.size ≤ q) → CK G s s.heap := by
  have hs : ∀ c ∈ flN, c.before args s = true := flat_of_before _ hgv
  have hA : ∀ a : Nat, a < s.heap.size → ¬ (fun q : Nat => s.heap.size ≤ q) a := fun a h z => by
    have z2 : s.heap.size ≤ a := z
    omega
  have hKi := hts _ (wsL_lw wt1_6)
  obtain ⟨t1, e1, h1⟩ := va_Tof (f := fA) (A := fun q : Nat => s.heap.size ≤ q) (N := 6) (by decide) (hs _ fl_A.1) (va_eqt (hs _ fl_A.2.1)) (fun j hj => va_eqt (hs _ (fl_A.2.2 j hj))) hA
  obtain ⟨t2, e2, h2⟩ := va_Tof (f := fW) (A := fun q : Nat => s.heap.size ≤ q) (N := 6) (by decide) (hs _ fl_W.1) (va_eqt (hs _ fl_W.2.1)) (fun j hj => va_eqt (hs _ (fl_W.2.2 j hj))) hA
  obtain ⟨t3, e3, h3⟩ := va_Tof (f := fT) (A := fun q : Nat => s.heap.size ≤ q) (N := 6) (by decide) (hs _ fl_T.1) (va_eqt (hs _ fl_T.2.1)) (fun j hj => va_eqt (hs _ (fl_T.2.2 j hj))) hA
  obtain ⟨k1, k2, h9, h10⟩ := vk_Sof (N := 12) (tm := tmJ) (len := lenJ) (byt := bytJ) (A := fun q : Nat => s.heap.size ≤ q) (by decide +kernel) (fun i hi => hs _ (fl_S1 i hi).1) (fun i hi => hs _ (fl_S1 i hi).2.1) (fun i hi => hs _ (fl_S1 i hi).2.2.1) (fun i hi => hs _ (fl_S1 i hi).2.2.2) (fun i hi j hj => hs _ (fl_S2 i hi j hj)) (fun i j hi hj hne => (fl_S3 i hi j hj hne).elim (fun z => Or.inl (hs _ z)) (fun z => Or.inr (hs _ z))) hA
  refine ⟨t1, t2, t3, k1, k2, fun G hG hAD => ?_⟩
  have f1 : aA G = t1 := by unfold aA; rw [hG]
  have f2 : aW G = t2 := by unfold aW; rw [hG]
  have f3 : aT G = t3 := by unfold aT; rw [hG]
  have f4 : adK G = k1 := by unfold adK; rw [hG]
  have f5 : adV G = k2 := by unfold adV; rw [hG]
  unfold CK
  rw [f1, f2, f3, f4, f5]
  exact ⟨(va_Zof (hts _ ls_0) hKi e1 hA).narrow hAD, (va_Zof (hts _ ls_1) hKi e2 hA).narrow hAD, (va_Zof (hts _ ls_2) hKi e3 hA).narrow hAD, h1.narrow hAD, h2.narrow hAD, h3.narrow hAD,
    (va_Zof (hts _ ls_3) (hts _ (wsL_lw wt1_9)) (va_eqi (hs _ fl_C.1)) hA).narrow hAD, (va_Zqof (hts _ ls_4) (hts _ (wsL_lw wt1_11)) (hs _ fl_C.2) hA).narrow hAD, h9.narrow hAD, fun i hi => vk_R.of (hts _ (sr_all i hi)) (h10 i hi)⟩
