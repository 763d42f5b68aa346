theorem nw_0 : Cond.methodLinkNest "FlockCounts" 9 yX0_init "FlockCounts" ∈ lw_tbl := (List.mem_append_right _ (tb_in1 (List.mem_of_getElem? (i := 24) rfl)))
theorem nw_1 : Cond.methodLinkNest "FlockCounts" 24 yX3_init "FlockCounts" ∈ lw_tbl := (List.mem_append_right _ (tb_in1 (List.mem_of_getElem? (i := 72) rfl)))
theorem nw_2 : Cond.methodLinkNest "FlockCounts" 31 yX2_init "FlockCounts" ∈ lw_tbl := (List.mem_append_right _ (tb_in1 (List.mem_of_getElem? (i := 96) rfl)))
theorem nw_3 : Cond.arrayOver (.object "FlockCounts$Sheet") ∈ lw_tbl := (List.mem_append_right _ (tb_in1 (List.mem_of_getElem? (i := 94) rfl)))
/-! the first state -/
def r0 : Row := uz (fun _ => 0) 3 (-1)
def S0 : St := fun c => if c = 0 ∨ c = 1 ∨ c = 2 ∨ c = 9 then r0 else fun _ => 0
theorem r0_z {k : Int} (h : k ≠ 3) : r0 k = 0 := uz_ne _ _ h
theorem ia_z (G : GX) {n : Nat} {f : Int → Int} (h : ∀ i : Int, 0 ≤ i → i < n → f i = 0) : ia G n f = .inl (G.2.1.1, zI n) := ia_congr G (g := fun _ => 0) h
theorem fcl_0 (G : GX) (b : Nat) : fcl G r0 b = [.inr (0, [vi 0, vi (-1), vi 0, vi 0, rf G (b + 1), rf G (b + 2), vi 0, rf G (b + 3), rf G (b + 4), rf G (b + 5)]), .inl (G.2.1.1, zI 6), .inl (G.2.1.1, zI 6), .inl (G.2.1.1, zI 8), .inl (G.2.1.1, zI 8), .inl (G.2.1.1, zI 8)] := by
  unfold fcl
  rw [ia_z G (n := 6) (f := fun i => r0 (5 + 2 * i)) (fun i _ _ => r0_z (by omega)), ia_z G (n := 6) (f := fun i => r0 (6 + 2 * i)) (fun i _ _ => r0_z (by omega)), ia_z G (n := 8) (f := fun i => r0 (17 + 3 * i)) (fun i _ _ => r0_z (by omega)), ia_z G (n := 8) (f := fun i => r0 (18 + 3 * i)) (fun i _ _ => r0_z (by omega)), ia_z G (n := 8) (f := fun i => r0 (19 + 3 * i)) (fun i _ _ => r0_z (by omega))]
  rfl
theorem s_0 (G : GX) : ia G 41 r0 = .inl (G.2.1.1, 41, .inl (upd (zI0 41) 3 (Int32.ofInt (-1)))) := (ia_set G (n := 41) (f := fun _ => 0) (z := 3) (by omega) (by omega) (-1)).symm
theorem IR_r0 : IR 99999 r0 := by
  refine ⟨⟨?_, ?_⟩, ⟨?_, ?_⟩, ⟨?_, ?_⟩, ⟨?_, ?_⟩, ⟨?_, Or.inr ?_⟩, fun m a c => ?_, fun p a c => ?_⟩
  · decide
  · decide
  · decide
  · decide
  · decide
  · decide
  · decide
  · decide
  · decide
  · decide
  · rw [r0_z (by omega), r0_z (by omega)]; omega
  · rw [r0_z (by omega), r0_z (by omega), r0_z (by omega)]; omega
theorem IR_z : IR 99999 (fun _ => 0) := ⟨by decide, by decide, by decide, by decide, by decide, fun m a c => by { show (0 : Int) ≤ 0 ∧ (0 : Int) ≤ 7 ∧ (0 : Int) ≤ 0 ∧ (0 : Int) ≤ 99; omega }, fun p a c => by { show (0 : Int) ≤ 0 ∧ (0 : Int) ≤ 5 ∧ (0 : Int) ≤ 0 ∧ (0 : Int) ≤ 99 ∧ (0 : Int) ≤ 0 ∧ (0 : Int) ≤ 9999; omega }⟩
theorem Inv_0 : Inv S0 := ⟨⟨rfl, Or.inl rfl, rfl, rfl, rfl, rfl, rfl, rfl, rfl⟩, IR_r0, ⟨IR_r0, IR_z⟩, fun i a c => by { show (0 : Int) ≤ 0 ∧ (0 : Int) ≤ 255; omega }, by { show (0 : Int) ≤ 0 ∧ (0 : Int) ≤ 120; omega }, Or.inl rfl, fun i a c => by { show inR 0; exact inR0 }, fun i a c => by { show (0 : Int) ≤ 0 ∧ (0 : Int) ≤ 40; omega }, fun i a c => by { show inL 0; exact inR_L inR0 }, fun i a c => by { show (0 : Int) ≤ 0; omega }⟩
theorem arrV_cong {cA : ClassId} {n : Nat} {f g : Nat → Value} (h : ∀ j, j < n → f j = g j) : arrV cA n f = arrV cA n g := by
  unfold arrV
  rw [show (fun j : Fin n => f j.val) = (fun j : Fin n => g j.val) from funext fun j => h j.val j.isLt]
theorem va_P_re {D : va_G} {cl : List vw_C} {ws : va_W} {H : Heap} (h : va_P D cl ws H) {k a : Nat} {cA : ClassId} {x y : vp_A} (hk : ws[k]? = some (a, .inl (cA, x))) (e : vp_cell cA x = vp_cell cA y) : va_P D cl (ws.set k (a, .inl (cA, y))) H := by
  intro j q hq
  by_cases hj : k = j
  · subst hj
    rw [List.getElem?_set_self (List.getElem?_eq_some_iff.mp hk).1] at hq
    cases hq
    have h1 : H[a]? = some (vp_cell cA x) := h k _ hk
    show H[a]? = some (vp_cell cA y)
    rw [← e]; exact h1
  · rw [List.getElem?_set_ne hj] at hq
    exact h j q hq
set_option maxRecDepth 100000 in
set_option maxHeartbeats 4000000 in
theorem wl_0 {D : va_G} {cI cJ cQ : ClassId} {x0 q0 q1 q2 q3 q4 q5 q6 q7 q8 q9 q10 q11 q12 q13 q14 q15 q16 q17 q18 q19 q20 q21 q22 q23 q24 q25 q26 q27 q28 q29 m0 u0 u1 u2 u3 u4 u5 u6 u7 u8 u9 : Nat} {k : (Nat × Nat × Nat) × (Nat → Nat) × (Nat → Nat)} {G : GX} (hG : G = (D, (cI, cJ, cQ), (fun i => ([x0, q0, q1, q2, q3, q4, q5, q6, q7, q8, q9, q10, q11, q12, q13, q14, q15, q16, q17, q18, q19, q20, q21, q22, q23, q24, q25, q26, q27, q28, q29, m0, u0, u1, u2, u3, u4, u5, u6, u7, u8, u9] : List Nat).getD i 0), k)) : wl G (mk G S0) = [(x0, .inr (3, [.ref q0, .ref q6, .ref q12, vi 0, .ref q18, .ref q20, .ref q29])), (q0, .inr (0, [vi 0, vi (-1), vi 0, vi 0, .ref q1, .ref q2, vi 0, .ref q3, .ref q4, .ref q5])), (q1, .inl (cI, zI 6)), (q2, .inl (cI, zI 6)), (q3, .inl (cI, zI 8)), (q4, .inl (cI, zI 8)), (q5, .inl (cI, zI 8)), (q6, .inr (0, [vi 0, vi (-1), vi 0, vi 0, .ref q7, .ref q8, vi 0, .ref q9, .ref q10, .ref q11])), (q7, .inl (cI, zI 6)), (q8, .inl (cI, zI 6)), (q9, .inl (cI, zI 8)), (q10, .inl (cI, zI 8)), (q11, .inl (cI, zI 8)), (q12, .inr (0, [vi 0, vi (-1), vi 0, vi 0, .ref q13, .ref q14, vi 0, .ref q15, .ref q16, .ref q17])), (q13, .inl (cI, zI 6)), (q14, .inl (cI, zI 6)), (q15, .inl (cI, zI 8)), (q16, .inl (cI, zI 8)), (q17, .inl (cI, zI 8)), (q18, .inr (2, [.ref q19, vi 0, vi 0, vi 0, vi 0])), (q19, .inl (cI, zI 120)), (q20, qa G 4 (fun i => some (ad G (22 + 2 * i)))), (q21, .inr (1, [vi 0, vi 0, .ref q22])), (q22, .inl (cJ, zJ 40)), (q23, .inr (1, [vi 0, vi 0, .ref q24])), (q24, .inl (cJ, zJ 40)), (q25, .inr (1, [vi 0, vi 0, .ref q26])), (q26, .inl (cJ, zJ 40)), (q27, .inr (1, [vi 0, vi 0, .ref q28])), (q28, .inl (cJ, zJ 40)), (q29, .inl (cI, zI 7)), (m0, .inr (4, [.ref u0, .ref u1, .ref u2, .ref u3, .ref u4, vi 0, vi 0, vi 0, .ref u5, vi 0, vi 0, vi 0, vi 0, vi 0, .ref u6, .ref u7, .ref u8, .ref u9])), (u0, .inl (cI, 41, .inl (upd (zI0 41) 3 (Int32.ofInt (-1))))), (u1, .inl (cI, zI 41)), (u2, .inl (cI, zI 41)), (u3, .inl (cI, zI 41)), (u4, .inl (cI, zI 7)), (u5, .inl (cI, zI 120)), (u6, .inl (cI, zI 4)), (u7, .inl (cI, zI 4)), (u8, .inl (cJ, zJ 160)), (u9, .inl (cJ, zJ 40))] := by
  have hm : mkl G S0 = .inr (3, [rf G 1, rf G 7, rf G 13, vi 0, rf G 19, rf G 21, rf G 30]) :: (fcl G r0 1 ++ (fcl G r0 7 ++ (fcl G r0 13 ++ ([.inr (2, [rf G 20, vi 0, vi 0, vi 0, vi 0]), .inl (G.2.1.1, zI 120), qa G 4 (fun i => some (ad G (22 + 2 * i)))] ++ ([.inr (1, [vi 0, vi 0, rf G 23]), .inl (G.2.1.2.1, zJ 40)] ++ ([.inr (1, [vi 0, vi 0, rf G 25]), .inl (G.2.1.2.1, zJ 40)] ++ ([.inr (1, [vi 0, vi 0, rf G 27]), .inl (G.2.1.2.1, zJ 40)] ++ ([.inr (1, [vi 0, vi 0, rf G 29]), .inl (G.2.1.2.1, zJ 40)] ++ (.inl (G.2.1.1, zI 7) :: [.inr (4, [rf G 32, rf G 33, rf G 34, rf G 35, rf G 36, vi 0, vi 0, vi 0, rf G 37, vi 0, vi 0, vi 0, vi 0, vi 0, rf G 38, rf G 39, rf G 40, rf G 41]), ia G 41 r0, .inl (G.2.1.1, zI 41), .inl (G.2.1.1, zI 41), .inl (G.2.1.1, zI 41), .inl (G.2.1.1, zI 7), .inl (G.2.1.1, zI 120), .inl (G.2.1.1, zI 4), .inl (G.2.1.1, zI 4), .inl (G.2.1.2.1, zJ 160), .inl (G.2.1.2.1, zJ 40)]))))))))) := rfl
  unfold wl mk
  rw [hm, fcl_0, fcl_0, fcl_0, s_0]
  subst hG
  rfl
