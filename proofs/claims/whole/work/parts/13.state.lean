/-! THE STATE: S c k is entry k of component c. 0 fold, 1 trial, 2 kept (41 places each, as the reference's row: 0 sheep, 1 men, 2 minute, 3 latest, 4 turn, 5 + 2m guise, 6 + 2m wear, 17 + 3p kind, 18 + 3p wants, 19 + 3p seen); 3: 0 isKept, 1 tape's length, 2 sort, 3 start, 4 behind; 4 tape; 5 told; 6 bits, 7 lengths, 8 numbers (40 s + k) of sheets. The reference: 9 s, 10 keptS, 11 other, 12 aside, 13 statuses; 14: 0 isKept, 1 best, 2 soonest, 3 taped, 4 from, 5 to, 6 value, 7 isWrong; 15 tape, 16 bitsOf, 17 sizeOf, 18 numbers, 19 moved -/
abbrev Row : Type := Int → Int
abbrev St : Type := Nat → Row
def fcl (G : GX) (r : Row) (b : Nat) : List va_E :=
  [.inr (0, [vi (r 2), vi (r 3), vi (r 4), vi (r 1), rf G (b + 1), rf G (b + 2), vi (r 0), rf G (b + 3), rf G (b + 4), rf G (b + 5)]),
   ia G 6 (fun i => r (5 + 2 * i)), ia G 6 (fun i => r (6 + 2 * i)), ia G 8 (fun i => r (17 + 3 * i)), ia G 8 (fun i => r (18 + 3 * i)), ia G 8 (fun i => r (19 + 3 * i))]
def shl (G : GX) (bi le nu : Row) (q : Nat) : List va_E :=
  [.inr (1, [vi (bi q), vi (le q), rf G (23 + 2 * q)]), ja G 40 (fun k => nu (40 * q + k))]
def xtl (G : GX) (S : St) : List va_E :=
  [.inr (2, [rf G 20, vi (S 3 1), vi (S 3 2), vi (S 3 3), vi (S 3 4)]), ia G 120 (S 4), qa G 4 (fun i => some (ad G (22 + 2 * i)))]
def mml (G : GX) (S : St) : List va_E :=
  [.inr (4, [rf G 32, rf G 33, rf G 34, rf G 35, rf G 36, vi (S 14 0), vi (S 14 1), vi (S 14 2), rf G 37, vi (S 14 3), vi (S 14 4), vi (S 14 5), vi (S 14 6), vi (S 14 7), rf G 38, rf G 39, rf G 40, rf G 41]),
   ia G 41 (S 9), ia G 41 (S 10), ia G 41 (S 11), ia G 41 (S 12), ia G 7 (S 13), ia G 120 (S 15), ia G 4 (S 16), ia G 4 (S 17), ja G 160 (S 18), ja G 40 (S 19)]
def mkl (G : GX) (S : St) : List va_E :=
  .inr (3, [rf G 1, rf G 7, rf G 13, vi (S 3 0), rf G 19, rf G 21, rf G 30]) :: (fcl G (S 0) 1 ++ (fcl G (S 1) 7 ++ (fcl G (S 2) 13 ++ (xtl G S ++ (shl G (S 6) (S 7) (S 8) 0 ++ (shl G (S 6) (S 7) (S 8) 1 ++ (shl G (S 6) (S 7) (S 8) 2 ++ (shl G (S 6) (S 7) (S 8) 3 ++ (ia G 7 (S 5) :: mml G S)))))))))
def mk (G : GX) (S : St) : SG := fun i => (mkl G S).getD i (ia G 0 (fun _ => 0))
theorem mkl_len (G : GX) (S : St) : (mkl G S).length = 42 := rfl
theorem mk_set {G : GX} {S S' : St} {i : Nat} {e : va_E} (hi : i < 42) (h : (mkl G S).set i e = mkl G S') : va_up (mk G S) i e = mk G S' := by
  funext k
  show (if k = i then e else (mkl G S).getD k (ia G 0 (fun _ => 0))) = (mkl G S').getD k (ia G 0 (fun _ => 0))
  rw [← h]
  by_cases hk : k = i
  · subst hk
    rw [if_pos rfl, List.getD_eq_getElem?_getD, List.getElem?_set_self (by rw [mkl_len]; exact hi)]
    rfl
  · rw [if_neg hk, List.getD_eq_getElem?_getD, List.getD_eq_getElem?_getD, List.getElem?_set_ne (Ne.symm hk)]
theorem mk_congr {G : GX} {S S' : St} (h : mkl G S = mkl G S') : mk G S = mk G S' := by unfold mk; rw [h]
/-- the folds -/
def fo (j : Fin 3) : Nat := 1 + 6 * j.val
def fg (j : Fin 3) : Nat := 2 + 6 * j.val
def fw (j : Fin 3) : Nat := 3 + 6 * j.val
def fk (j : Fin 3) : Nat := 4 + 6 * j.val
def fn (j : Fin 3) : Nat := 5 + 6 * j.val
def fs (j : Fin 3) : Nat := 6 + 6 * j.val
theorem f3 {P : Fin 3 → Prop} (h0 : P 0) (h1 : P 1) (h2 : P 2) (j : Fin 3) : P j := match j with
  | 0 => h0
  | 1 => h1
  | 2 => h2
theorem fo_lt (j : Fin 3) : fo j < NC := f3 (P := fun j => fo j < NC) (by decide) (by decide) (by decide) j
theorem mk_fo (G : GX) (S : St) (j : Fin 3) : mk G S (fo j) = .inr (0, [vi (S j 2), vi (S j 3), vi (S j 4), vi (S j 1), rf G (fg j), rf G (fw j), vi (S j 0), rf G (fk j), rf G (fn j), rf G (fs j)]) :=
  f3 (P := fun j => mk G S (fo j) = .inr (0, [vi (S j 2), vi (S j 3), vi (S j 4), vi (S j 1), rf G (fg j), rf G (fw j), vi (S j 0), rf G (fk j), rf G (fn j), rf G (fs j)])) rfl rfl rfl j
theorem isO_fo (G : GX) (S : St) (j : Fin 3) : isO (mk G S) (fo j) RX0 := ⟨fo_lt j, 0, _, TX0, 10, mk_fo G S j, rfl⟩
theorem gf_minute {G : GX} {S : St} {j : Fin 3} : fld (mk G S) (fo j) 0 0 (vi (S j 2)) := ⟨fo_lt j, _, mk_fo G S j, rfl⟩
theorem gf_last {G : GX} {S : St} {j : Fin 3} : fld (mk G S) (fo j) 0 1 (vi (S j 3)) := ⟨fo_lt j, _, mk_fo G S j, rfl⟩
theorem gf_turn {G : GX} {S : St} {j : Fin 3} : fld (mk G S) (fo j) 0 2 (vi (S j 4)) := ⟨fo_lt j, _, mk_fo G S j, rfl⟩
theorem gf_manCount {G : GX} {S : St} {j : Fin 3} : fld (mk G S) (fo j) 0 3 (vi (S j 1)) := ⟨fo_lt j, _, mk_fo G S j, rfl⟩
theorem gf_guises {G : GX} {S : St} {j : Fin 3} : fld (mk G S) (fo j) 0 4 (rf G (fg j)) := ⟨fo_lt j, _, mk_fo G S j, rfl⟩
theorem gf_wears {G : GX} {S : St} {j : Fin 3} : fld (mk G S) (fo j) 0 5 (rf G (fw j)) := ⟨fo_lt j, _, mk_fo G S j, rfl⟩
theorem gf_sheepCount {G : GX} {S : St} {j : Fin 3} : fld (mk G S) (fo j) 0 6 (vi (S j 0)) := ⟨fo_lt j, _, mk_fo G S j, rfl⟩
theorem gf_kinds {G : GX} {S : St} {j : Fin 3} : fld (mk G S) (fo j) 0 7 (rf G (fk j)) := ⟨fo_lt j, _, mk_fo G S j, rfl⟩
theorem gf_wants {G : GX} {S : St} {j : Fin 3} : fld (mk G S) (fo j) 0 8 (rf G (fn j)) := ⟨fo_lt j, _, mk_fo G S j, rfl⟩
theorem gf_seen {G : GX} {S : St} {j : Fin 3} : fld (mk G S) (fo j) 0 9 (rf G (fs j)) := ⟨fo_lt j, _, mk_fo G S j, rfl⟩
theorem al_guises {G : GX} {S : St} {j : Fin 3} : ald G (mk G S) (fg j) 6 (fun i => S j (5 + 2 * i)) := f3 (P := fun j => ald G (mk G S) (fg j) 6 (fun i => S j (5 + 2 * i))) ⟨by decide, by decide, rfl⟩ ⟨by decide, by decide, rfl⟩ ⟨by decide, by decide, rfl⟩ j
theorem al_wears {G : GX} {S : St} {j : Fin 3} : ald G (mk G S) (fw j) 6 (fun i => S j (6 + 2 * i)) := f3 (P := fun j => ald G (mk G S) (fw j) 6 (fun i => S j (6 + 2 * i))) ⟨by decide, by decide, rfl⟩ ⟨by decide, by decide, rfl⟩ ⟨by decide, by decide, rfl⟩ j
theorem al_kinds {G : GX} {S : St} {j : Fin 3} : ald G (mk G S) (fk j) 8 (fun i => S j (17 + 3 * i)) := f3 (P := fun j => ald G (mk G S) (fk j) 8 (fun i => S j (17 + 3 * i))) ⟨by decide, by decide, rfl⟩ ⟨by decide, by decide, rfl⟩ ⟨by decide, by decide, rfl⟩ j
theorem al_wants {G : GX} {S : St} {j : Fin 3} : ald G (mk G S) (fn j) 8 (fun i => S j (18 + 3 * i)) := f3 (P := fun j => ald G (mk G S) (fn j) 8 (fun i => S j (18 + 3 * i))) ⟨by decide, by decide, rfl⟩ ⟨by decide, by decide, rfl⟩ ⟨by decide, by decide, rfl⟩ j
theorem al_seen {G : GX} {S : St} {j : Fin 3} : ald G (mk G S) (fs j) 8 (fun i => S j (19 + 3 * i)) := f3 (P := fun j => ald G (mk G S) (fs j) 8 (fun i => S j (19 + 3 * i))) ⟨by decide, by decide, rfl⟩ ⟨by decide, by decide, rfl⟩ ⟨by decide, by decide, rfl⟩ j
/-- a fold's cells of a changed row -/
theorem mk_fcl {G : GX} {S : St} {j : Fin 3} {k : Nat} {e : va_E} {r : Row} (hk : k < 6) (h : (fcl G (S j) (fo j)).set k e = fcl G r (fo j)) : va_up (mk G S) (fo j + k) e = mk G (va_up S j r) := by
  match j, h with
  | 0, h =>
    refine mk_set (by show 1 + 6 * 0 + k < 42; omega) ?_
    have h' : (fcl G (S 0) 1).set k e = fcl G r 1 := h
    show (_ :: (fcl G (S 0) 1 ++ _)).set (1 + 6 * 0 + k) e = _ :: (fcl G r 1 ++ _)
    rw [show 1 + 6 * 0 + k = k + 1 by omega, List.set_cons_succ, List.set_append_left _ _ hk, h']
    rfl
  | 1, h =>
    refine mk_set (by show 1 + 6 * 1 + k < 42; omega) ?_
    have h' : (fcl G (S 1) 7).set k e = fcl G r 7 := h
    show (_ :: (fcl G (S 0) 1 ++ (fcl G (S 1) 7 ++ _))).set (1 + 6 * 1 + k) e = _ :: (fcl G (S 0) 1 ++ (fcl G r 7 ++ _))
    rw [show 1 + 6 * 1 + k = (6 + k) + 1 by omega, List.set_cons_succ, List.set_append_right _ _ (by show 6 ≤ 6 + k; omega), show 6 + k - (fcl G (S 0) 1).length = k by show 6 + k - 6 = k; omega, List.set_append_left _ _ hk, h']
    rfl
  | 2, h =>
    refine mk_set (by show 1 + 6 * 2 + k < 42; omega) ?_
    have h' : (fcl G (S 2) 13).set k e = fcl G r 13 := h
    show (_ :: (fcl G (S 0) 1 ++ (fcl G (S 1) 7 ++ (fcl G (S 2) 13 ++ _)))).set (1 + 6 * 2 + k) e = _ :: (fcl G (S 0) 1 ++ (fcl G (S 1) 7 ++ (fcl G r 13 ++ _)))
    rw [show 1 + 6 * 2 + k = (12 + k) + 1 by omega, List.set_cons_succ, List.set_append_right _ _ (by show 6 ≤ 12 + k; omega), show 12 + k - (fcl G (S 0) 1).length = 6 + k by show 12 + k - 6 = 6 + k; omega, List.set_append_right _ _ (by show 6 ≤ 6 + k; omega), show 6 + k - (fcl G (S 1) 7).length = k by show 6 + k - 6 = k; omega, List.set_append_left _ _ hk, h']
    rfl
theorem ia_ne (G : GX) (r : Row) {n : Nat} {a m k v : Int} (h : ∀ i : Int, 0 ≤ i → i < n → a + m * i ≠ k) : ia G n (fun i => uz r k v (a + m * i)) = ia G n (fun i => r (a + m * i)) := ia_congr G fun i h0 hi => uz_ne _ _ (h i h0 hi)
theorem ia_at (G : GX) (r : Row) {n : Nat} {a m k v : Int} (hm : 0 < m) : ia G n (uz (fun i => r (a + m * i)) k v) = ia G n (fun i => uz r (a + m * k) v (a + m * i)) := ia_congr G fun i h0 hi => by
  by_cases e : i = k
  · subst e; rw [uz_self, uz_self]
  · rw [uz_ne _ _ e, uz_ne]
    intro q
    have h2 : m * i = m * k := by omega
    exact e (Int.eq_of_mul_eq_mul_left (by omega) h2)
theorem fc_field {G : GX} {r : Row} {b : Nat} (k : Int) (v : Int) (hk : k < 5) : fcl G (uz r k v) b = (fcl G r b).set 0 (.inr (0, [vi (uz r k v 2), vi (uz r k v 3), vi (uz r k v 4), vi (uz r k v 1), rf G (b + 1), rf G (b + 2), vi (uz r k v 0), rf G (b + 3), rf G (b + 4), rf G (b + 5)])) := by
  unfold fcl
  rw [ia_ne G r (fun i _ _ => by omega), ia_ne G r (fun i _ _ => by omega), ia_ne G r (fun i _ _ => by omega), ia_ne G r (fun i _ _ => by omega), ia_ne G r (fun i _ _ => by omega)]
  rfl
theorem ur_lo {r : Row} {k a : Int} {v : Int} (h : a ≠ k) : uz r k v a = r a := uz_ne _ _ h
theorem fc_guises {G : GX} {r : Row} {b : Nat} {m v : Int} (h0 : 0 ≤ m) (hm : m < 6) : (fcl G r b).set 1 (ia G 6 (uz (fun i => r (5 + 2 * i)) m v)) = fcl G (uz r (5 + 2 * m) v) b := by
  unfold fcl
  rw [ia_at G r (by omega), ia_ne G r (a := 6) (m := 2) (fun i _ _ => by omega), ia_ne G r (a := 17) (m := 3) (fun i _ _ => by omega), ia_ne G r (a := 18) (m := 3) (fun i _ _ => by omega), ia_ne G r (a := 19) (m := 3) (fun i _ _ => by omega), ur_lo (a := 2) (by omega), ur_lo (a := 3) (by omega), ur_lo (a := 4) (by omega), ur_lo (a := 1) (by omega), ur_lo (a := 0) (by omega)]
  rfl
theorem fc_wears {G : GX} {r : Row} {b : Nat} {m v : Int} (h0 : 0 ≤ m) (hm : m < 6) : (fcl G r b).set 2 (ia G 6 (uz (fun i => r (6 + 2 * i)) m v)) = fcl G (uz r (6 + 2 * m) v) b := by
  unfold fcl
  rw [ia_at G r (by omega), ia_ne G r (a := 5) (m := 2) (fun i _ _ => by omega), ia_ne G r (a := 17) (m := 3) (fun i _ _ => by omega), ia_ne G r (a := 18) (m := 3) (fun i _ _ => by omega), ia_ne G r (a := 19) (m := 3) (fun i _ _ => by omega), ur_lo (a := 2) (by omega), ur_lo (a := 3) (by omega), ur_lo (a := 4) (by omega), ur_lo (a := 1) (by omega), ur_lo (a := 0) (by omega)]
  rfl
theorem fc_kinds {G : GX} {r : Row} {b : Nat} {m v : Int} (h0 : 0 ≤ m) (hm : m < 8) : (fcl G r b).set 3 (ia G 8 (uz (fun i => r (17 + 3 * i)) m v)) = fcl G (uz r (17 + 3 * m) v) b := by
  unfold fcl
  rw [ia_at G r (by omega), ia_ne G r (a := 5) (m := 2) (fun i _ _ => by omega), ia_ne G r (a := 6) (m := 2) (fun i _ _ => by omega), ia_ne G r (a := 18) (m := 3) (fun i _ _ => by omega), ia_ne G r (a := 19) (m := 3) (fun i _ _ => by omega), ur_lo (a := 2) (by omega), ur_lo (a := 3) (by omega), ur_lo (a := 4) (by omega), ur_lo (a := 1) (by omega), ur_lo (a := 0) (by omega)]
  rfl
theorem fc_wants {G : GX} {r : Row} {b : Nat} {m v : Int} (h0 : 0 ≤ m) (hm : m < 8) : (fcl G r b).set 4 (ia G 8 (uz (fun i => r (18 + 3 * i)) m v)) = fcl G (uz r (18 + 3 * m) v) b := by
  unfold fcl
  rw [ia_at G r (by omega), ia_ne G r (a := 5) (m := 2) (fun i _ _ => by omega), ia_ne G r (a := 6) (m := 2) (fun i _ _ => by omega), ia_ne G r (a := 17) (m := 3) (fun i _ _ => by omega), ia_ne G r (a := 19) (m := 3) (fun i _ _ => by omega), ur_lo (a := 2) (by omega), ur_lo (a := 3) (by omega), ur_lo (a := 4) (by omega), ur_lo (a := 1) (by omega), ur_lo (a := 0) (by omega)]
  rfl
theorem fc_seen {G : GX} {r : Row} {b : Nat} {m v : Int} (h0 : 0 ≤ m) (hm : m < 8) : (fcl G r b).set 5 (ia G 8 (uz (fun i => r (19 + 3 * i)) m v)) = fcl G (uz r (19 + 3 * m) v) b := by
  unfold fcl
  rw [ia_at G r (by omega), ia_ne G r (a := 5) (m := 2) (fun i _ _ => by omega), ia_ne G r (a := 6) (m := 2) (fun i _ _ => by omega), ia_ne G r (a := 17) (m := 3) (fun i _ _ => by omega), ia_ne G r (a := 18) (m := 3) (fun i _ _ => by omega), ur_lo (a := 2) (by omega), ur_lo (a := 3) (by omega), ur_lo (a := 4) (by omega), ur_lo (a := 1) (by omega), ur_lo (a := 0) (by omega)]
  rfl
theorem as_guises {G : GX} {S : St} {j : Fin 3} {m v : Int} (h0 : 0 ≤ m) (hm : m < 6) : va_up (mk G S) (fg j) (ia G 6 (uz (fun i => S j (5 + 2 * i)) m v)) = mk G (va_up S j (uz (S j) (5 + 2 * m) v)) := by
  have h := mk_fcl (G := G) (S := S) (j := j) (k := 1) (by omega) (fc_guises (b := fo j) (v := v) h0 hm)
  rwa [show fo j + 1 = fg j by unfold fo fg; omega] at h
theorem as_wears {G : GX} {S : St} {j : Fin 3} {m v : Int} (h0 : 0 ≤ m) (hm : m < 6) : va_up (mk G S) (fw j) (ia G 6 (uz (fun i => S j (6 + 2 * i)) m v)) = mk G (va_up S j (uz (S j) (6 + 2 * m) v)) := by
  have h := mk_fcl (G := G) (S := S) (j := j) (k := 2) (by omega) (fc_wears (b := fo j) (v := v) h0 hm)
  rwa [show fo j + 2 = fw j by unfold fo fw; omega] at h
theorem as_kinds {G : GX} {S : St} {j : Fin 3} {m v : Int} (h0 : 0 ≤ m) (hm : m < 8) : va_up (mk G S) (fk j) (ia G 8 (uz (fun i => S j (17 + 3 * i)) m v)) = mk G (va_up S j (uz (S j) (17 + 3 * m) v)) := by
  have h := mk_fcl (G := G) (S := S) (j := j) (k := 3) (by omega) (fc_kinds (b := fo j) (v := v) h0 hm)
  rwa [show fo j + 3 = fk j by unfold fo fk; omega] at h
theorem as_wants {G : GX} {S : St} {j : Fin 3} {m v : Int} (h0 : 0 ≤ m) (hm : m < 8) : va_up (mk G S) (fn j) (ia G 8 (uz (fun i => S j (18 + 3 * i)) m v)) = mk G (va_up S j (uz (S j) (18 + 3 * m) v)) := by
  have h := mk_fcl (G := G) (S := S) (j := j) (k := 4) (by omega) (fc_wants (b := fo j) (v := v) h0 hm)
  rwa [show fo j + 4 = fn j by unfold fo fn; omega] at h
theorem as_seen {G : GX} {S : St} {j : Fin 3} {m v : Int} (h0 : 0 ≤ m) (hm : m < 8) : va_up (mk G S) (fs j) (ia G 8 (uz (fun i => S j (19 + 3 * i)) m v)) = mk G (va_up S j (uz (S j) (19 + 3 * m) v)) := by
  have h := mk_fcl (G := G) (S := S) (j := j) (k := 5) (by omega) (fc_seen (b := fo j) (v := v) h0 hm)
  rwa [show fo j + 5 = fs j by unfold fo fs; omega] at h
theorem pf_minute {G : GX} {S : St} {j : Fin 3} {v : Int} : put (mk G S) (fo j) 0 0 (vi v) (mk G (va_up S j (uz (S j) 2 v))) := by
  refine ⟨fo_lt j, _, mk_fo G S j, Nat.le_of_ble_eq_true rfl, ?_⟩
  have h := mk_fcl (G := G) (S := S) (j := j) (k := 0) (by omega) (fc_field (G := G) (r := S j) (b := fo j) 2 v (by omega)).symm
  rw [Nat.add_zero] at h
  rw [← h]
  congr 1
  match j with
  | 0 => rfl
  | 1 => rfl
  | 2 => rfl
theorem pf_last {G : GX} {S : St} {j : Fin 3} {v : Int} : put (mk G S) (fo j) 0 1 (vi v) (mk G (va_up S j (uz (S j) 3 v))) := by
  refine ⟨fo_lt j, _, mk_fo G S j, Nat.le_of_ble_eq_true rfl, ?_⟩
  have h := mk_fcl (G := G) (S := S) (j := j) (k := 0) (by omega) (fc_field (G := G) (r := S j) (b := fo j) 3 v (by omega)).symm
  rw [Nat.add_zero] at h
  rw [← h]
  congr 1
  match j with
  | 0 => rfl
  | 1 => rfl
  | 2 => rfl
theorem pf_turn {G : GX} {S : St} {j : Fin 3} {v : Int} : put (mk G S) (fo j) 0 2 (vi v) (mk G (va_up S j (uz (S j) 4 v))) := by
  refine ⟨fo_lt j, _, mk_fo G S j, Nat.le_of_ble_eq_true rfl, ?_⟩
  have h := mk_fcl (G := G) (S := S) (j := j) (k := 0) (by omega) (fc_field (G := G) (r := S j) (b := fo j) 4 v (by omega)).symm
  rw [Nat.add_zero] at h
  rw [← h]
  congr 1
  match j with
  | 0 => rfl
  | 1 => rfl
  | 2 => rfl
theorem pf_manCount {G : GX} {S : St} {j : Fin 3} {v : Int} : put (mk G S) (fo j) 0 3 (vi v) (mk G (va_up S j (uz (S j) 1 v))) := by
  refine ⟨fo_lt j, _, mk_fo G S j, Nat.le_of_ble_eq_true rfl, ?_⟩
  have h := mk_fcl (G := G) (S := S) (j := j) (k := 0) (by omega) (fc_field (G := G) (r := S j) (b := fo j) 1 v (by omega)).symm
  rw [Nat.add_zero] at h
  rw [← h]
  congr 1
  match j with
  | 0 => rfl
  | 1 => rfl
  | 2 => rfl
theorem pf_sheepCount {G : GX} {S : St} {j : Fin 3} {v : Int} : put (mk G S) (fo j) 0 6 (vi v) (mk G (va_up S j (uz (S j) 0 v))) := by
  refine ⟨fo_lt j, _, mk_fo G S j, Nat.le_of_ble_eq_true rfl, ?_⟩
  have h := mk_fcl (G := G) (S := S) (j := j) (k := 0) (by omega) (fc_field (G := G) (r := S j) (b := fo j) 0 v (by omega)).symm
  rw [Nat.add_zero] at h
  rw [← h]
  congr 1
  match j with
  | 0 => rfl
  | 1 => rfl
  | 2 => rfl
theorem gq_minute {G : GX} {S : St} {j : Fin 3} {r : Row} : fld (mk G (va_up S j r)) (fo j) 0 0 (vi (r 2)) := by
  have h := gf_minute (G := G) (S := va_up S j r) (j := j)
  rwa [va_up_self] at h
theorem gq_last {G : GX} {S : St} {j : Fin 3} {r : Row} : fld (mk G (va_up S j r)) (fo j) 0 1 (vi (r 3)) := by
  have h := gf_last (G := G) (S := va_up S j r) (j := j)
  rwa [va_up_self] at h
theorem gq_turn {G : GX} {S : St} {j : Fin 3} {r : Row} : fld (mk G (va_up S j r)) (fo j) 0 2 (vi (r 4)) := by
  have h := gf_turn (G := G) (S := va_up S j r) (j := j)
  rwa [va_up_self] at h
theorem gq_manCount {G : GX} {S : St} {j : Fin 3} {r : Row} : fld (mk G (va_up S j r)) (fo j) 0 3 (vi (r 1)) := by
  have h := gf_manCount (G := G) (S := va_up S j r) (j := j)
  rwa [va_up_self] at h
theorem gq_guises {G : GX} {S : St} {j : Fin 3} {r : Row} : fld (mk G (va_up S j r)) (fo j) 0 4 (rf G (fg j)) := gf_guises
theorem gq_wears {G : GX} {S : St} {j : Fin 3} {r : Row} : fld (mk G (va_up S j r)) (fo j) 0 5 (rf G (fw j)) := gf_wears
theorem gq_sheepCount {G : GX} {S : St} {j : Fin 3} {r : Row} : fld (mk G (va_up S j r)) (fo j) 0 6 (vi (r 0)) := by
  have h := gf_sheepCount (G := G) (S := va_up S j r) (j := j)
  rwa [va_up_self] at h
theorem gq_kinds {G : GX} {S : St} {j : Fin 3} {r : Row} : fld (mk G (va_up S j r)) (fo j) 0 7 (rf G (fk j)) := gf_kinds
theorem gq_wants {G : GX} {S : St} {j : Fin 3} {r : Row} : fld (mk G (va_up S j r)) (fo j) 0 8 (rf G (fn j)) := gf_wants
theorem gq_seen {G : GX} {S : St} {j : Fin 3} {r : Row} : fld (mk G (va_up S j r)) (fo j) 0 9 (rf G (fs j)) := gf_seen
theorem alq_guises {G : GX} {S : St} {j : Fin 3} {r : Row} : ald G (mk G (va_up S j r)) (fg j) 6 (fun i => r (5 + 2 * i)) := by
  have h := al_guises (G := G) (S := va_up S j r) (j := j)
  rwa [va_up_self] at h
theorem asq_guises {G : GX} {S : St} {j : Fin 3} {r : Row} {m v : Int} (h0 : 0 ≤ m) (hm : m < 6) : va_up (mk G (va_up S j r)) (fg j) (ia G 6 (uz (fun i => r (5 + 2 * i)) m v)) = mk G (va_up S j (uz r (5 + 2 * m) v)) := by
  have h := as_guises (G := G) (S := va_up S j r) (j := j) (v := v) h0 hm
  rwa [va_up_self, show va_up (va_up S ↑j r) ↑j (uz r (5 + 2 * m) v) = va_up S ↑j (uz r (5 + 2 * m) v) from funext fun k => by unfold va_up; split <;> rfl] at h
theorem alq_wears {G : GX} {S : St} {j : Fin 3} {r : Row} : ald G (mk G (va_up S j r)) (fw j) 6 (fun i => r (6 + 2 * i)) := by
  have h := al_wears (G := G) (S := va_up S j r) (j := j)
  rwa [va_up_self] at h
theorem asq_wears {G : GX} {S : St} {j : Fin 3} {r : Row} {m v : Int} (h0 : 0 ≤ m) (hm : m < 6) : va_up (mk G (va_up S j r)) (fw j) (ia G 6 (uz (fun i => r (6 + 2 * i)) m v)) = mk G (va_up S j (uz r (6 + 2 * m) v)) := by
  have h := as_wears (G := G) (S := va_up S j r) (j := j) (v := v) h0 hm
  rwa [va_up_self, show va_up (va_up S ↑j r) ↑j (uz r (6 + 2 * m) v) = va_up S ↑j (uz r (6 + 2 * m) v) from funext fun k => by unfold va_up; split <;> rfl] at h
theorem alq_kinds {G : GX} {S : St} {j : Fin 3} {r : Row} : ald G (mk G (va_up S j r)) (fk j) 8 (fun i => r (17 + 3 * i)) := by
  have h := al_kinds (G := G) (S := va_up S j r) (j := j)
  rwa [va_up_self] at h
theorem asq_kinds {G : GX} {S : St} {j : Fin 3} {r : Row} {m v : Int} (h0 : 0 ≤ m) (hm : m < 8) : va_up (mk G (va_up S j r)) (fk j) (ia G 8 (uz (fun i => r (17 + 3 * i)) m v)) = mk G (va_up S j (uz r (17 + 3 * m) v)) := by
  have h := as_kinds (G := G) (S := va_up S j r) (j := j) (v := v) h0 hm
  rwa [va_up_self, show va_up (va_up S ↑j r) ↑j (uz r (17 + 3 * m) v) = va_up S ↑j (uz r (17 + 3 * m) v) from funext fun k => by unfold va_up; split <;> rfl] at h
theorem alq_wants {G : GX} {S : St} {j : Fin 3} {r : Row} : ald G (mk G (va_up S j r)) (fn j) 8 (fun i => r (18 + 3 * i)) := by
  have h := al_wants (G := G) (S := va_up S j r) (j := j)
  rwa [va_up_self] at h
theorem asq_wants {G : GX} {S : St} {j : Fin 3} {r : Row} {m v : Int} (h0 : 0 ≤ m) (hm : m < 8) : va_up (mk G (va_up S j r)) (fn j) (ia G 8 (uz (fun i => r (18 + 3 * i)) m v)) = mk G (va_up S j (uz r (18 + 3 * m) v)) := by
  have h := as_wants (G := G) (S := va_up S j r) (j := j) (v := v) h0 hm
  rwa [va_up_self, show va_up (va_up S ↑j r) ↑j (uz r (18 + 3 * m) v) = va_up S ↑j (uz r (18 + 3 * m) v) from funext fun k => by unfold va_up; split <;> rfl] at h
theorem alq_seen {G : GX} {S : St} {j : Fin 3} {r : Row} : ald G (mk G (va_up S j r)) (fs j) 8 (fun i => r (19 + 3 * i)) := by
  have h := al_seen (G := G) (S := va_up S j r) (j := j)
  rwa [va_up_self] at h
theorem asq_seen {G : GX} {S : St} {j : Fin 3} {r : Row} {m v : Int} (h0 : 0 ≤ m) (hm : m < 8) : va_up (mk G (va_up S j r)) (fs j) (ia G 8 (uz (fun i => r (19 + 3 * i)) m v)) = mk G (va_up S j (uz r (19 + 3 * m) v)) := by
  have h := as_seen (G := G) (S := va_up S j r) (j := j) (v := v) h0 hm
  rwa [va_up_self, show va_up (va_up S ↑j r) ↑j (uz r (19 + 3 * m) v) = va_up S ↑j (uz r (19 + 3 * m) v) from funext fun k => by unfold va_up; split <;> rfl] at h
theorem pq_minute {G : GX} {S : St} {j : Fin 3} {r : Row} {v : Int} : put (mk G (va_up S j r)) (fo j) 0 0 (vi v) (mk G (va_up S j (uz r 2 v))) := by
  have h := pf_minute (G := G) (S := va_up S j r) (j := j) (v := v)
  rwa [va_up_self, show va_up (va_up S ↑j r) ↑j (uz r 2 v) = va_up S ↑j (uz r 2 v) from funext fun k => by unfold va_up; split <;> rfl] at h
theorem pq_last {G : GX} {S : St} {j : Fin 3} {r : Row} {v : Int} : put (mk G (va_up S j r)) (fo j) 0 1 (vi v) (mk G (va_up S j (uz r 3 v))) := by
  have h := pf_last (G := G) (S := va_up S j r) (j := j) (v := v)
  rwa [va_up_self, show va_up (va_up S ↑j r) ↑j (uz r 3 v) = va_up S ↑j (uz r 3 v) from funext fun k => by unfold va_up; split <;> rfl] at h
theorem pq_turn {G : GX} {S : St} {j : Fin 3} {r : Row} {v : Int} : put (mk G (va_up S j r)) (fo j) 0 2 (vi v) (mk G (va_up S j (uz r 4 v))) := by
  have h := pf_turn (G := G) (S := va_up S j r) (j := j) (v := v)
  rwa [va_up_self, show va_up (va_up S ↑j r) ↑j (uz r 4 v) = va_up S ↑j (uz r 4 v) from funext fun k => by unfold va_up; split <;> rfl] at h
theorem pq_manCount {G : GX} {S : St} {j : Fin 3} {r : Row} {v : Int} : put (mk G (va_up S j r)) (fo j) 0 3 (vi v) (mk G (va_up S j (uz r 1 v))) := by
  have h := pf_manCount (G := G) (S := va_up S j r) (j := j) (v := v)
  rwa [va_up_self, show va_up (va_up S ↑j r) ↑j (uz r 1 v) = va_up S ↑j (uz r 1 v) from funext fun k => by unfold va_up; split <;> rfl] at h
theorem pq_sheepCount {G : GX} {S : St} {j : Fin 3} {r : Row} {v : Int} : put (mk G (va_up S j r)) (fo j) 0 6 (vi v) (mk G (va_up S j (uz r 0 v))) := by
  have h := pf_sheepCount (G := G) (S := va_up S j r) (j := j) (v := v)
  rwa [va_up_self, show va_up (va_up S ↑j r) ↑j (uz r 0 v) = va_up S ↑j (uz r 0 v) from funext fun k => by unfold va_up; split <;> rfl] at h
theorem gx_fold {G : GX} {S : St} : fld (mk G S) 0 3 0 (rf G (fo 0)) := ⟨by decide, _, rfl, rfl⟩
theorem gx_trial {G : GX} {S : St} : fld (mk G S) 0 3 1 (rf G (fo 1)) := ⟨by decide, _, rfl, rfl⟩
theorem gx_kept {G : GX} {S : St} : fld (mk G S) 0 3 2 (rf G (fo 2)) := ⟨by decide, _, rfl, rfl⟩
theorem gx_isKept {G : GX} {S : St} : fld (mk G S) 0 3 3 (vi (S 3 0)) := ⟨by decide, _, rfl, rfl⟩
theorem gx_tape {G : GX} {S : St} : fld (mk G S) 0 3 4 (rf G 19) := ⟨by decide, _, rfl, rfl⟩
theorem gx_sheets {G : GX} {S : St} : fld (mk G S) 0 3 5 (rf G 21) := ⟨by decide, _, rfl, rfl⟩
theorem gx_told {G : GX} {S : St} : fld (mk G S) 0 3 6 (rf G 30) := ⟨by decide, _, rfl, rfl⟩
theorem isO_x (G : GX) (S : St) : isO (mk G S) 0 RX4 := ⟨by decide, 3, _, TX4, 7, rfl, rfl⟩
theorem px_isKept {G : GX} {S : St} {v : Int} : put (mk G S) 0 3 3 (vi v) (mk G (va_up S 3 (uz (S 3) 0 v))) := ⟨by decide, _, rfl, Nat.le_of_ble_eq_true rfl, mk_set (by decide) rfl⟩
theorem gt_bytes {G : GX} {S : St} : fld (mk G S) 19 2 0 (rf G 20) := ⟨by decide, _, rfl, rfl⟩
theorem gt_length {G : GX} {S : St} : fld (mk G S) 19 2 1 (vi (S 3 1)) := ⟨by decide, _, rfl, rfl⟩
theorem pt_length {G : GX} {S : St} {v : Int} : put (mk G S) 19 2 1 (vi v) (mk G (va_up S 3 (uz (S 3) 1 v))) := ⟨by decide, _, rfl, Nat.le_of_ble_eq_true rfl, mk_set (by decide) rfl⟩
theorem gt_sort {G : GX} {S : St} : fld (mk G S) 19 2 2 (vi (S 3 2)) := ⟨by decide, _, rfl, rfl⟩
theorem pt_sort {G : GX} {S : St} {v : Int} : put (mk G S) 19 2 2 (vi v) (mk G (va_up S 3 (uz (S 3) 2 v))) := ⟨by decide, _, rfl, Nat.le_of_ble_eq_true rfl, mk_set (by decide) rfl⟩
theorem gt_start {G : GX} {S : St} : fld (mk G S) 19 2 3 (vi (S 3 3)) := ⟨by decide, _, rfl, rfl⟩
theorem pt_start {G : GX} {S : St} {v : Int} : put (mk G S) 19 2 3 (vi v) (mk G (va_up S 3 (uz (S 3) 3 v))) := ⟨by decide, _, rfl, Nat.le_of_ble_eq_true rfl, mk_set (by decide) rfl⟩
theorem gt_behind {G : GX} {S : St} : fld (mk G S) 19 2 4 (vi (S 3 4)) := ⟨by decide, _, rfl, rfl⟩
theorem pt_behind {G : GX} {S : St} {v : Int} : put (mk G S) 19 2 4 (vi v) (mk G (va_up S 3 (uz (S 3) 4 v))) := ⟨by decide, _, rfl, Nat.le_of_ble_eq_true rfl, mk_set (by decide) rfl⟩
theorem isO_t (G : GX) (S : St) : isO (mk G S) 19 RX3 := ⟨by decide, 2, _, TX3, 5, rfl, rfl⟩
theorem ql_sheets {G : GX} {S : St} : qld G (mk G S) 21 4 (fun i => some (ad G (22 + 2 * i))) := ⟨by decide, by decide, rfl⟩
theorem al_bytes {G : GX} {S : St} : ald G (mk G S) 20 120 (S 4) := ⟨by decide, by decide, rfl⟩
theorem as_bytes {G : GX} {S : St} {m v : Int} : va_up (mk G S) 20 (ia G 120 (uz (S 4) m v)) = mk G (va_up S 4 (uz (S 4) m v)) := mk_set (by decide) rfl
theorem al_told {G : GX} {S : St} : ald G (mk G S) 30 7 (S 5) := ⟨by decide, by decide, rfl⟩
theorem as_told {G : GX} {S : St} {m v : Int} : va_up (mk G S) 30 (ia G 7 (uz (S 5) m v)) = mk G (va_up S 5 (uz (S 5) m v)) := mk_set (by decide) rfl
theorem gm_s {G : GX} {S : St} : fld (mk G S) 31 4 0 (rf G 32) := ⟨by decide, _, rfl, rfl⟩
theorem gm_keptS {G : GX} {S : St} : fld (mk G S) 31 4 1 (rf G 33) := ⟨by decide, _, rfl, rfl⟩
theorem gm_other {G : GX} {S : St} : fld (mk G S) 31 4 2 (rf G 34) := ⟨by decide, _, rfl, rfl⟩
theorem gm_aside {G : GX} {S : St} : fld (mk G S) 31 4 3 (rf G 35) := ⟨by decide, _, rfl, rfl⟩
theorem gm_statuses {G : GX} {S : St} : fld (mk G S) 31 4 4 (rf G 36) := ⟨by decide, _, rfl, rfl⟩
theorem gm_isKept {G : GX} {S : St} : fld (mk G S) 31 4 5 (vi (S 14 0)) := ⟨by decide, _, rfl, rfl⟩
theorem pm_isKept {G : GX} {S : St} {v : Int} : put (mk G S) 31 4 5 (vi v) (mk G (va_up S 14 (uz (S 14) 0 v))) := ⟨by decide, _, rfl, Nat.le_of_ble_eq_true rfl, mk_set (by decide) rfl⟩
theorem gm_best {G : GX} {S : St} : fld (mk G S) 31 4 6 (vi (S 14 1)) := ⟨by decide, _, rfl, rfl⟩
theorem pm_best {G : GX} {S : St} {v : Int} : put (mk G S) 31 4 6 (vi v) (mk G (va_up S 14 (uz (S 14) 1 v))) := ⟨by decide, _, rfl, Nat.le_of_ble_eq_true rfl, mk_set (by decide) rfl⟩
theorem gm_soonest {G : GX} {S : St} : fld (mk G S) 31 4 7 (vi (S 14 2)) := ⟨by decide, _, rfl, rfl⟩
theorem pm_soonest {G : GX} {S : St} {v : Int} : put (mk G S) 31 4 7 (vi v) (mk G (va_up S 14 (uz (S 14) 2 v))) := ⟨by decide, _, rfl, Nat.le_of_ble_eq_true rfl, mk_set (by decide) rfl⟩
theorem gm_tape {G : GX} {S : St} : fld (mk G S) 31 4 8 (rf G 37) := ⟨by decide, _, rfl, rfl⟩
theorem gm_taped {G : GX} {S : St} : fld (mk G S) 31 4 9 (vi (S 14 3)) := ⟨by decide, _, rfl, rfl⟩
theorem pm_taped {G : GX} {S : St} {v : Int} : put (mk G S) 31 4 9 (vi v) (mk G (va_up S 14 (uz (S 14) 3 v))) := ⟨by decide, _, rfl, Nat.le_of_ble_eq_true rfl, mk_set (by decide) rfl⟩
theorem gm_from {G : GX} {S : St} : fld (mk G S) 31 4 10 (vi (S 14 4)) := ⟨by decide, _, rfl, rfl⟩
theorem pm_from {G : GX} {S : St} {v : Int} : put (mk G S) 31 4 10 (vi v) (mk G (va_up S 14 (uz (S 14) 4 v))) := ⟨by decide, _, rfl, Nat.le_of_ble_eq_true rfl, mk_set (by decide) rfl⟩
theorem gm_to {G : GX} {S : St} : fld (mk G S) 31 4 11 (vi (S 14 5)) := ⟨by decide, _, rfl, rfl⟩
theorem pm_to {G : GX} {S : St} {v : Int} : put (mk G S) 31 4 11 (vi v) (mk G (va_up S 14 (uz (S 14) 5 v))) := ⟨by decide, _, rfl, Nat.le_of_ble_eq_true rfl, mk_set (by decide) rfl⟩
theorem gm_value {G : GX} {S : St} : fld (mk G S) 31 4 12 (vi (S 14 6)) := ⟨by decide, _, rfl, rfl⟩
theorem pm_value {G : GX} {S : St} {v : Int} : put (mk G S) 31 4 12 (vi v) (mk G (va_up S 14 (uz (S 14) 6 v))) := ⟨by decide, _, rfl, Nat.le_of_ble_eq_true rfl, mk_set (by decide) rfl⟩
theorem gm_isWrong {G : GX} {S : St} : fld (mk G S) 31 4 13 (vi (S 14 7)) := ⟨by decide, _, rfl, rfl⟩
theorem pm_isWrong {G : GX} {S : St} {v : Int} : put (mk G S) 31 4 13 (vi v) (mk G (va_up S 14 (uz (S 14) 7 v))) := ⟨by decide, _, rfl, Nat.le_of_ble_eq_true rfl, mk_set (by decide) rfl⟩
theorem gm_bitsOf {G : GX} {S : St} : fld (mk G S) 31 4 14 (rf G 38) := ⟨by decide, _, rfl, rfl⟩
theorem gm_sizeOf {G : GX} {S : St} : fld (mk G S) 31 4 15 (rf G 39) := ⟨by decide, _, rfl, rfl⟩
theorem gm_numbers {G : GX} {S : St} : fld (mk G S) 31 4 16 (rf G 40) := ⟨by decide, _, rfl, rfl⟩
theorem gm_moved {G : GX} {S : St} : fld (mk G S) 31 4 17 (rf G 41) := ⟨by decide, _, rfl, rfl⟩
theorem isO_m (G : GX) (S : St) : isO (mk G S) 31 RX5 := ⟨by decide, 4, _, TX5, 18, rfl, rfl⟩
theorem al_s {G : GX} {S : St} : ald G (mk G S) 32 41 (S 9) := ⟨by decide, by decide, rfl⟩
theorem as_s {G : GX} {S : St} {m v : Int} : va_up (mk G S) 32 (ia G 41 (uz (S 9) m v)) = mk G (va_up S 9 (uz (S 9) m v)) := mk_set (by decide) rfl
theorem al_keptS {G : GX} {S : St} : ald G (mk G S) 33 41 (S 10) := ⟨by decide, by decide, rfl⟩
theorem as_keptS {G : GX} {S : St} {m v : Int} : va_up (mk G S) 33 (ia G 41 (uz (S 10) m v)) = mk G (va_up S 10 (uz (S 10) m v)) := mk_set (by decide) rfl
theorem al_other {G : GX} {S : St} : ald G (mk G S) 34 41 (S 11) := ⟨by decide, by decide, rfl⟩
theorem as_other {G : GX} {S : St} {m v : Int} : va_up (mk G S) 34 (ia G 41 (uz (S 11) m v)) = mk G (va_up S 11 (uz (S 11) m v)) := mk_set (by decide) rfl
theorem al_aside {G : GX} {S : St} : ald G (mk G S) 35 41 (S 12) := ⟨by decide, by decide, rfl⟩
theorem as_aside {G : GX} {S : St} {m v : Int} : va_up (mk G S) 35 (ia G 41 (uz (S 12) m v)) = mk G (va_up S 12 (uz (S 12) m v)) := mk_set (by decide) rfl
theorem al_statuses {G : GX} {S : St} : ald G (mk G S) 36 7 (S 13) := ⟨by decide, by decide, rfl⟩
theorem as_statuses {G : GX} {S : St} {m v : Int} : va_up (mk G S) 36 (ia G 7 (uz (S 13) m v)) = mk G (va_up S 13 (uz (S 13) m v)) := mk_set (by decide) rfl
theorem al_mtape {G : GX} {S : St} : ald G (mk G S) 37 120 (S 15) := ⟨by decide, by decide, rfl⟩
theorem as_mtape {G : GX} {S : St} {m v : Int} : va_up (mk G S) 37 (ia G 120 (uz (S 15) m v)) = mk G (va_up S 15 (uz (S 15) m v)) := mk_set (by decide) rfl
theorem al_bitsOf {G : GX} {S : St} : ald G (mk G S) 38 4 (S 16) := ⟨by decide, by decide, rfl⟩
theorem as_bitsOf {G : GX} {S : St} {m v : Int} : va_up (mk G S) 38 (ia G 4 (uz (S 16) m v)) = mk G (va_up S 16 (uz (S 16) m v)) := mk_set (by decide) rfl
theorem al_sizeOf {G : GX} {S : St} : ald G (mk G S) 39 4 (S 17) := ⟨by decide, by decide, rfl⟩
theorem as_sizeOf {G : GX} {S : St} {m v : Int} : va_up (mk G S) 39 (ia G 4 (uz (S 17) m v)) = mk G (va_up S 17 (uz (S 17) m v)) := mk_set (by decide) rfl
theorem al_mnumbers {G : GX} {S : St} : jld G (mk G S) 40 160 (S 18) := ⟨by decide, by decide, rfl⟩
theorem as_mnumbers {G : GX} {S : St} {m v : Int} : va_up (mk G S) 40 (ja G 160 (uz (S 18) m v)) = mk G (va_up S 18 (uz (S 18) m v)) := mk_set (by decide) rfl
theorem al_moved {G : GX} {S : St} : jld G (mk G S) 41 40 (S 19) := ⟨by decide, by decide, rfl⟩
theorem as_moved {G : GX} {S : St} {m v : Int} : va_up (mk G S) 41 (ja G 40 (uz (S 19) m v)) = mk G (va_up S 19 (uz (S 19) m v)) := mk_set (by decide) rfl
def so (q : Fin 4) : Nat := 22 + 2 * q.val
def sn (q : Fin 4) : Nat := 23 + 2 * q.val
theorem f4 {P : Fin 4 → Prop} (h0 : P 0) (h1 : P 1) (h2 : P 2) (h3 : P 3) (j : Fin 4) : P j := match j with
  | 0 => h0
  | 1 => h1
  | 2 => h2
  | 3 => h3
theorem so_lt (j : Fin 4) : so j < NC := f4 (P := fun j => so j < NC) (by decide) (by decide) (by decide) (by decide) j
theorem sn_lt (j : Fin 4) : sn j < NC := f4 (P := fun j => sn j < NC) (by decide) (by decide) (by decide) (by decide) j
theorem mk_so (G : GX) (S : St) (j : Fin 4) : mk G S (so j) = .inr (1, [vi (S 6 j), vi (S 7 j), rf G (sn j)]) :=
  f4 (P := fun j => mk G S (so j) = .inr (1, [vi (S 6 j), vi (S 7 j), rf G (sn j)])) rfl rfl rfl rfl j
theorem mk_sn (G : GX) (S : St) (j : Fin 4) : mk G S (sn j) = ja G 40 (fun k => S 8 (40 * j + k)) :=
  f4 (P := fun j => mk G S (sn j) = ja G 40 (fun k => S 8 (40 * j + k))) rfl rfl rfl rfl j
theorem isO_so (G : GX) (S : St) (j : Fin 4) : isO (mk G S) (so j) RX2 := ⟨so_lt j, 1, _, TX2, 3, mk_so G S j, rfl⟩
theorem gs_bits {G : GX} {S : St} {j : Fin 4} : fld (mk G S) (so j) 1 0 (vi (S 6 j)) := ⟨so_lt j, _, mk_so G S j, rfl⟩
theorem gs_length {G : GX} {S : St} {j : Fin 4} : fld (mk G S) (so j) 1 1 (vi (S 7 j)) := ⟨so_lt j, _, mk_so G S j, rfl⟩
theorem gs_numbers {G : GX} {S : St} {j : Fin 4} : fld (mk G S) (so j) 1 2 (rf G (sn j)) := ⟨so_lt j, _, mk_so G S j, rfl⟩
theorem al_numbers {G : GX} {S : St} {j : Fin 4} : jld G (mk G S) (sn j) 40 (fun k => S 8 (40 * j + k)) := ⟨sn_lt j, by decide, mk_sn G S j⟩
theorem ps_bits {G : GX} {S : St} {j : Fin 4} {v : Int} : put (mk G S) (so j) 1 0 (vi v) (mk G (va_up S 6 (uz (S 6) j v))) :=
  f4 (P := fun j => put (mk G S) (so j) 1 0 (vi v) (mk G (va_up S 6 (uz (S 6) j v)))) ⟨by decide, _, rfl, Nat.le_of_ble_eq_true rfl, mk_set (by decide) rfl⟩ ⟨by decide, _, rfl, Nat.le_of_ble_eq_true rfl, mk_set (by decide) rfl⟩ ⟨by decide, _, rfl, Nat.le_of_ble_eq_true rfl, mk_set (by decide) rfl⟩ ⟨by decide, _, rfl, Nat.le_of_ble_eq_true rfl, mk_set (by decide) rfl⟩ j
theorem ps_length {G : GX} {S : St} {j : Fin 4} {v : Int} : put (mk G S) (so j) 1 1 (vi v) (mk G (va_up S 7 (uz (S 7) j v))) :=
  f4 (P := fun j => put (mk G S) (so j) 1 1 (vi v) (mk G (va_up S 7 (uz (S 7) j v)))) ⟨by decide, _, rfl, Nat.le_of_ble_eq_true rfl, mk_set (by decide) rfl⟩ ⟨by decide, _, rfl, Nat.le_of_ble_eq_true rfl, mk_set (by decide) rfl⟩ ⟨by decide, _, rfl, Nat.le_of_ble_eq_true rfl, mk_set (by decide) rfl⟩ ⟨by decide, _, rfl, Nat.le_of_ble_eq_true rfl, mk_set (by decide) rfl⟩ j
theorem ja_ne (G : GX) (r : Row) {n : Nat} {b k v : Int} (h : ∀ i : Int, 0 ≤ i → i < n → b + i ≠ k) : ja G n (fun i => uz r k v (b + i)) = ja G n (fun i => r (b + i)) := ja_congr G fun i h0 hi => uz_ne _ _ (h i h0 hi)
theorem ja_at (G : GX) (r : Row) {n : Nat} {b k v : Int} : ja G n (uz (fun i => r (b + i)) k v) = ja G n (fun i => uz r (b + k) v (b + i)) := ja_congr G fun i h0 hi => by
  by_cases e : i = k
  · subst e; rw [uz_self, uz_self]
  · rw [uz_ne _ _ e, uz_ne]
    omega
theorem mk_nu {G : GX} {S : St} {j : Fin 4} {e : va_E} {r : Row} (h : e = ja G 40 (fun k => r (40 * j + k))) (ho : ∀ q : Fin 4, q ≠ j → ja G 40 (fun k => r (40 * q + k)) = ja G 40 (fun k => S 8 (40 * q + k))) : va_up (mk G S) (sn j) e = mk G (va_up S 8 r) := by
  refine mk_set (sn_lt j) ?_
  subst h
  have e0 : ∀ q : Fin 4, q ≠ j → shl G (S 6) (S 7) r q = shl G (S 6) (S 7) (S 8) q := fun q hq => by unfold shl; rw [ho q hq]
  show _ = _ :: (fcl G (S 0) 1 ++ (fcl G (S 1) 7 ++ (fcl G (S 2) 13 ++ (xtl G S ++ (shl G (S 6) (S 7) r (0 : Fin 4) ++ (shl G (S 6) (S 7) r (1 : Fin 4) ++ (shl G (S 6) (S 7) r (2 : Fin 4) ++ (shl G (S 6) (S 7) r (3 : Fin 4) ++ (ia G 7 (S 5) :: mml G S)))))))))
  match j, e0 with
  | 0, e0 => rw [e0 1 (by decide), e0 2 (by decide), e0 3 (by decide)]; rfl
  | 1, e0 => rw [e0 0 (by decide), e0 2 (by decide), e0 3 (by decide)]; rfl
  | 2, e0 => rw [e0 0 (by decide), e0 1 (by decide), e0 3 (by decide)]; rfl
  | 3, e0 => rw [e0 0 (by decide), e0 1 (by decide), e0 2 (by decide)]; rfl
theorem as_numbers {G : GX} {S : St} {j : Fin 4} {m v : Int} (h0 : 0 ≤ m) (hm : m < 40) : va_up (mk G S) (sn j) (ja G 40 (uz (fun k => S 8 (40 * j + k)) m v)) = mk G (va_up S 8 (uz (S 8) (40 * j + m) v)) := by
  refine mk_nu (ja_at G (S 8)) (fun q hq => ja_ne G (S 8) (fun i _ hi => ?_))
  intro h
  apply hq
  apply Fin.ext
  omega
theorem go_minute {G : GX} {S : St} {j q : Fin 3} {r : Row} (hne : (q : Nat) ≠ j) : fld (mk G (va_up S j r)) (fo q) 0 0 (vi (S q 2)) := by
  have h := gf_minute (G := G) (S := va_up S j r) (j := q)
  rwa [va_up_ne _ _ hne] at h
theorem go_last {G : GX} {S : St} {j q : Fin 3} {r : Row} (hne : (q : Nat) ≠ j) : fld (mk G (va_up S j r)) (fo q) 0 1 (vi (S q 3)) := by
  have h := gf_last (G := G) (S := va_up S j r) (j := q)
  rwa [va_up_ne _ _ hne] at h
theorem go_turn {G : GX} {S : St} {j q : Fin 3} {r : Row} (hne : (q : Nat) ≠ j) : fld (mk G (va_up S j r)) (fo q) 0 2 (vi (S q 4)) := by
  have h := gf_turn (G := G) (S := va_up S j r) (j := q)
  rwa [va_up_ne _ _ hne] at h
theorem go_manCount {G : GX} {S : St} {j q : Fin 3} {r : Row} (hne : (q : Nat) ≠ j) : fld (mk G (va_up S j r)) (fo q) 0 3 (vi (S q 1)) := by
  have h := gf_manCount (G := G) (S := va_up S j r) (j := q)
  rwa [va_up_ne _ _ hne] at h
theorem go_guises {G : GX} {S : St} {j q : Fin 3} {r : Row} (hne : (q : Nat) ≠ j) : fld (mk G (va_up S j r)) (fo q) 0 4 (rf G (fg q)) := gf_guises
theorem go_wears {G : GX} {S : St} {j q : Fin 3} {r : Row} (hne : (q : Nat) ≠ j) : fld (mk G (va_up S j r)) (fo q) 0 5 (rf G (fw q)) := gf_wears
theorem go_sheepCount {G : GX} {S : St} {j q : Fin 3} {r : Row} (hne : (q : Nat) ≠ j) : fld (mk G (va_up S j r)) (fo q) 0 6 (vi (S q 0)) := by
  have h := gf_sheepCount (G := G) (S := va_up S j r) (j := q)
  rwa [va_up_ne _ _ hne] at h
theorem go_kinds {G : GX} {S : St} {j q : Fin 3} {r : Row} (hne : (q : Nat) ≠ j) : fld (mk G (va_up S j r)) (fo q) 0 7 (rf G (fk q)) := gf_kinds
theorem go_wants {G : GX} {S : St} {j q : Fin 3} {r : Row} (hne : (q : Nat) ≠ j) : fld (mk G (va_up S j r)) (fo q) 0 8 (rf G (fn q)) := gf_wants
theorem go_seen {G : GX} {S : St} {j q : Fin 3} {r : Row} (hne : (q : Nat) ≠ j) : fld (mk G (va_up S j r)) (fo q) 0 9 (rf G (fs q)) := gf_seen
theorem alo_guises {G : GX} {S : St} {j q : Fin 3} {r : Row} (hne : (q : Nat) ≠ j) : ald G (mk G (va_up S j r)) (fg q) 6 (fun i => S q (5 + 2 * i)) := by
  have h := al_guises (G := G) (S := va_up S j r) (j := q)
  rwa [va_up_ne _ _ hne] at h
theorem alo_wears {G : GX} {S : St} {j q : Fin 3} {r : Row} (hne : (q : Nat) ≠ j) : ald G (mk G (va_up S j r)) (fw q) 6 (fun i => S q (6 + 2 * i)) := by
  have h := al_wears (G := G) (S := va_up S j r) (j := q)
  rwa [va_up_ne _ _ hne] at h
theorem alo_kinds {G : GX} {S : St} {j q : Fin 3} {r : Row} (hne : (q : Nat) ≠ j) : ald G (mk G (va_up S j r)) (fk q) 8 (fun i => S q (17 + 3 * i)) := by
  have h := al_kinds (G := G) (S := va_up S j r) (j := q)
  rwa [va_up_ne _ _ hne] at h
theorem alo_wants {G : GX} {S : St} {j q : Fin 3} {r : Row} (hne : (q : Nat) ≠ j) : ald G (mk G (va_up S j r)) (fn q) 8 (fun i => S q (18 + 3 * i)) := by
  have h := al_wants (G := G) (S := va_up S j r) (j := q)
  rwa [va_up_ne _ _ hne] at h
theorem alo_seen {G : GX} {S : St} {j q : Fin 3} {r : Row} (hne : (q : Nat) ≠ j) : ald G (mk G (va_up S j r)) (fs q) 8 (fun i => S q (19 + 3 * i)) := by
  have h := al_seen (G := G) (S := va_up S j r) (j := q)
  rwa [va_up_ne _ _ hne] at h
theorem fcl_congr {G : GX} {r r' : Row} {b : Nat} (h : ∀ i, 0 ≤ i → i < 41 → r i = r' i) : fcl G r b = fcl G r' b := by
  unfold fcl
  rw [h 2 (by omega) (by omega), h 3 (by omega) (by omega), h 4 (by omega) (by omega), h 1 (by omega) (by omega), h 0 (by omega) (by omega), ia_congr G (f := fun i => r (5 + 2 * i)) (g := fun i => r' (5 + 2 * i)) (fun i a c => h _ (by omega) (by omega)), ia_congr G (f := fun i => r (6 + 2 * i)) (g := fun i => r' (6 + 2 * i)) (fun i a c => h _ (by omega) (by omega)), ia_congr G (f := fun i => r (17 + 3 * i)) (g := fun i => r' (17 + 3 * i)) (fun i a c => h _ (by omega) (by omega)), ia_congr G (f := fun i => r (18 + 3 * i)) (g := fun i => r' (18 + 3 * i)) (fun i a c => h _ (by omega) (by omega)), ia_congr G (f := fun i => r (19 + 3 * i)) (g := fun i => r' (19 + 3 * i)) (fun i a c => h _ (by omega) (by omega))]
theorem mk_row {G : GX} {S : St} {j : Fin 3} {r r' : Row} (h : ∀ i, 0 ≤ i → i < 41 → r i = r' i) : mk G (va_up S j r) = mk G (va_up S j r') := by
  refine mk_congr ?_
  match j with
  | 0 =>
    show _ :: (fcl G r 1 ++ _) = _ :: (fcl G r' 1 ++ _)
    rw [fcl_congr h]
    rfl
  | 1 =>
    show _ :: (_ ++ (fcl G r 7 ++ _)) = _ :: (_ ++ (fcl G r' 7 ++ _))
    rw [fcl_congr h]
    rfl
  | 2 =>
    show _ :: (_ ++ (_ ++ (fcl G r 13 ++ _))) = _ :: (_ ++ (_ ++ (fcl G r' 13 ++ _)))
    rw [fcl_congr h]
    rfl
theorem mk_num {G : GX} {S : St} {f g : Row} (h : ∀ i, 0 ≤ i → i < 160 → f i = g i) : mk G (va_up S 8 f) = mk G (va_up S 8 g) := by
  refine mk_congr ?_
  have e : ∀ q : Nat, q < 4 → shl G (S 6) (S 7) f q = shl G (S 6) (S 7) g q := fun q hq => by
    unfold shl
    rw [ja_congr G (f := fun k => f (40 * q + k)) (g := fun k => g (40 * q + k)) (fun i a c => h _ (by omega) (by omega))]
  show _ :: (_ ++ (_ ++ (_ ++ (_ ++ (shl G (S 6) (S 7) f 0 ++ (shl G (S 6) (S 7) f 1 ++ (shl G (S 6) (S 7) f 2 ++ (shl G (S 6) (S 7) f 3 ++ _)))))))) = _
  rw [e 0 (by omega), e 1 (by omega), e 2 (by omega), e 3 (by omega)]
  rfl
theorem alq_s {G : GX} {S : St} {r : Row} : ald G (mk G (va_up S 9 r)) 32 41 r := al_s
theorem vup9 (S : St) (a b : Row) : va_up (va_up S 9 a) 9 b = va_up S 9 b := funext fun k => by unfold va_up; split <;> rfl
theorem asq_s {G : GX} {S : St} {r : Row} {m v : Int} : va_up (mk G (va_up S 9 r)) 32 (ia G 41 (uz r m v)) = mk G (va_up S 9 (uz r m v)) := by
  rw [← vup9 S r (uz r m v)]; exact as_s
theorem mk_s {G : GX} {S : St} {r r' : Row} (h : ∀ i, 0 ≤ i → i < 41 → r i = r' i) : mk G (va_up S 9 r) = mk G (va_up S 9 r') := by
  have e : ia G 41 r = ia G 41 r' := ia_congr G (fun i a b => h i a (by omega))
  have h1 := mk_set (G := G) (S := S) (S' := va_up S 9 r) (i := 32) (e := ia G 41 r) (by decide) rfl
  have h2 := mk_set (G := G) (S := S) (S' := va_up S 9 r') (i := 32) (e := ia G 41 r') (by decide) rfl
  rw [← h1, ← h2, e]
theorem alq_keptS {G : GX} {S : St} {r : Row} : ald G (mk G (va_up S 10 r)) 33 41 r := al_keptS
theorem vup10 (S : St) (a b : Row) : va_up (va_up S 10 a) 10 b = va_up S 10 b := funext fun k => by unfold va_up; split <;> rfl
theorem asq_keptS {G : GX} {S : St} {r : Row} {m v : Int} : va_up (mk G (va_up S 10 r)) 33 (ia G 41 (uz r m v)) = mk G (va_up S 10 (uz r m v)) := by
  rw [← vup10 S r (uz r m v)]; exact as_keptS
theorem mk_keptS {G : GX} {S : St} {r r' : Row} (h : ∀ i, 0 ≤ i → i < 41 → r i = r' i) : mk G (va_up S 10 r) = mk G (va_up S 10 r') := by
  have e : ia G 41 r = ia G 41 r' := ia_congr G (fun i a b => h i a (by omega))
  have h1 := mk_set (G := G) (S := S) (S' := va_up S 10 r) (i := 33) (e := ia G 41 r) (by decide) rfl
  have h2 := mk_set (G := G) (S := S) (S' := va_up S 10 r') (i := 33) (e := ia G 41 r') (by decide) rfl
  rw [← h1, ← h2, e]
theorem alq_other {G : GX} {S : St} {r : Row} : ald G (mk G (va_up S 11 r)) 34 41 r := al_other
theorem vup11 (S : St) (a b : Row) : va_up (va_up S 11 a) 11 b = va_up S 11 b := funext fun k => by unfold va_up; split <;> rfl
theorem asq_other {G : GX} {S : St} {r : Row} {m v : Int} : va_up (mk G (va_up S 11 r)) 34 (ia G 41 (uz r m v)) = mk G (va_up S 11 (uz r m v)) := by
  rw [← vup11 S r (uz r m v)]; exact as_other
theorem mk_other {G : GX} {S : St} {r r' : Row} (h : ∀ i, 0 ≤ i → i < 41 → r i = r' i) : mk G (va_up S 11 r) = mk G (va_up S 11 r') := by
  have e : ia G 41 r = ia G 41 r' := ia_congr G (fun i a b => h i a (by omega))
  have h1 := mk_set (G := G) (S := S) (S' := va_up S 11 r) (i := 34) (e := ia G 41 r) (by decide) rfl
  have h2 := mk_set (G := G) (S := S) (S' := va_up S 11 r') (i := 34) (e := ia G 41 r') (by decide) rfl
  rw [← h1, ← h2, e]
theorem alq_aside {G : GX} {S : St} {r : Row} : ald G (mk G (va_up S 12 r)) 35 41 r := al_aside
theorem vup12 (S : St) (a b : Row) : va_up (va_up S 12 a) 12 b = va_up S 12 b := funext fun k => by unfold va_up; split <;> rfl
theorem asq_aside {G : GX} {S : St} {r : Row} {m v : Int} : va_up (mk G (va_up S 12 r)) 35 (ia G 41 (uz r m v)) = mk G (va_up S 12 (uz r m v)) := by
  rw [← vup12 S r (uz r m v)]; exact as_aside
theorem mk_aside {G : GX} {S : St} {r r' : Row} (h : ∀ i, 0 ≤ i → i < 41 → r i = r' i) : mk G (va_up S 12 r) = mk G (va_up S 12 r') := by
  have e : ia G 41 r = ia G 41 r' := ia_congr G (fun i a b => h i a (by omega))
  have h1 := mk_set (G := G) (S := S) (S' := va_up S 12 r) (i := 35) (e := ia G 41 r) (by decide) rfl
  have h2 := mk_set (G := G) (S := S) (S' := va_up S 12 r') (i := 35) (e := ia G 41 r') (by decide) rfl
  rw [← h1, ← h2, e]
theorem alq_mtape {G : GX} {S : St} {r : Row} : ald G (mk G (va_up S 15 r)) 37 120 r := al_mtape
theorem vup15 (S : St) (a b : Row) : va_up (va_up S 15 a) 15 b = va_up S 15 b := funext fun k => by unfold va_up; split <;> rfl
theorem asq_mtape {G : GX} {S : St} {r : Row} {m v : Int} : va_up (mk G (va_up S 15 r)) 37 (ia G 120 (uz r m v)) = mk G (va_up S 15 (uz r m v)) := by
  rw [← vup15 S r (uz r m v)]; exact as_mtape
theorem mk_mtape {G : GX} {S : St} {r r' : Row} (h : ∀ i, 0 ≤ i → i < 120 → r i = r' i) : mk G (va_up S 15 r) = mk G (va_up S 15 r') := by
  have e : ia G 120 r = ia G 120 r' := ia_congr G (fun i a b => h i a (by omega))
  have h1 := mk_set (G := G) (S := S) (S' := va_up S 15 r) (i := 37) (e := ia G 120 r) (by decide) rfl
  have h2 := mk_set (G := G) (S := S) (S' := va_up S 15 r') (i := 37) (e := ia G 120 r') (by decide) rfl
  rw [← h1, ← h2, e]
theorem alq_mnumbers {G : GX} {S : St} {r : Row} : jld G (mk G (va_up S 18 r)) 40 160 r := al_mnumbers
theorem vup18 (S : St) (a b : Row) : va_up (va_up S 18 a) 18 b = va_up S 18 b := funext fun k => by unfold va_up; split <;> rfl
theorem asq_mnumbers {G : GX} {S : St} {r : Row} {m v : Int} : va_up (mk G (va_up S 18 r)) 40 (ja G 160 (uz r m v)) = mk G (va_up S 18 (uz r m v)) := by
  rw [← vup18 S r (uz r m v)]; exact as_mnumbers
theorem mk_mnumbers {G : GX} {S : St} {r r' : Row} (h : ∀ i, 0 ≤ i → i < 160 → r i = r' i) : mk G (va_up S 18 r) = mk G (va_up S 18 r') := by
  have e : ja G 160 r = ja G 160 r' := ja_congr G (fun i a b => h i a (by omega))
  have h1 := mk_set (G := G) (S := S) (S' := va_up S 18 r) (i := 40) (e := ja G 160 r) (by decide) rfl
  have h2 := mk_set (G := G) (S := S) (S' := va_up S 18 r') (i := 40) (e := ja G 160 r') (by decide) rfl
  rw [← h1, ← h2, e]
theorem alq_moved {G : GX} {S : St} {r : Row} : jld G (mk G (va_up S 19 r)) 41 40 r := al_moved
theorem vup19 (S : St) (a b : Row) : va_up (va_up S 19 a) 19 b = va_up S 19 b := funext fun k => by unfold va_up; split <;> rfl
theorem asq_moved {G : GX} {S : St} {r : Row} {m v : Int} : va_up (mk G (va_up S 19 r)) 41 (ja G 40 (uz r m v)) = mk G (va_up S 19 (uz r m v)) := by
  rw [← vup19 S r (uz r m v)]; exact as_moved
theorem mk_moved {G : GX} {S : St} {r r' : Row} (h : ∀ i, 0 ≤ i → i < 40 → r i = r' i) : mk G (va_up S 19 r) = mk G (va_up S 19 r') := by
  have e : ja G 40 r = ja G 40 r' := ja_congr G (fun i a b => h i a (by omega))
  have h1 := mk_set (G := G) (S := S) (S' := va_up S 19 r) (i := 41) (e := ja G 40 r) (by decide) rfl
  have h2 := mk_set (G := G) (S := S) (S' := va_up S 19 r') (i := 41) (e := ja G 40 r') (by decide) rfl
  rw [← h1, ← h2, e]
theorem alq_bytes {G : GX} {S : St} {r : Row} : ald G (mk G (va_up S 4 r)) 20 120 r := al_bytes
theorem vup4 (S : St) (a b : Row) : va_up (va_up S 4 a) 4 b = va_up S 4 b := funext fun k => by unfold va_up; split <;> rfl
theorem asq_bytes {G : GX} {S : St} {r : Row} {m v : Int} : va_up (mk G (va_up S 4 r)) 20 (ia G 120 (uz r m v)) = mk G (va_up S 4 (uz r m v)) := by
  rw [← vup4 S r (uz r m v)]; exact as_bytes
theorem mk_bytes {G : GX} {S : St} {r r' : Row} (h : ∀ i, 0 ≤ i → i < 120 → r i = r' i) : mk G (va_up S 4 r) = mk G (va_up S 4 r') := by
  have e : ia G 120 r = ia G 120 r' := ia_congr G (fun i a b => h i a (by omega))
  have h1 := mk_set (G := G) (S := S) (S' := va_up S 4 r) (i := 20) (e := ia G 120 r) (by decide) rfl
  have h2 := mk_set (G := G) (S := S) (S' := va_up S 4 r') (i := 20) (e := ia G 120 r') (by decide) rfl
  rw [← h1, ← h2, e]
theorem gtq_length {G : GX} {S : St} {t : Row} : fld (mk G (va_up S 3 t)) 19 2 1 (vi (t 1)) := gt_length
theorem ptq_length {G : GX} {S : St} {t : Row} {v : Int} : put (mk G (va_up S 3 t)) 19 2 1 (vi v) (mk G (va_up S 3 (uz t 1 v))) := by
  have h := pt_length (G := G) (S := va_up S 3 t) (v := v)
  rwa [show va_up (va_up S 3 t) 3 (uz (va_up S 3 t 3) 1 v) = va_up S 3 (uz t 1 v) from funext fun k => by unfold va_up; split <;> rfl] at h
theorem gtq_sort {G : GX} {S : St} {t : Row} : fld (mk G (va_up S 3 t)) 19 2 2 (vi (t 2)) := gt_sort
theorem ptq_sort {G : GX} {S : St} {t : Row} {v : Int} : put (mk G (va_up S 3 t)) 19 2 2 (vi v) (mk G (va_up S 3 (uz t 2 v))) := by
  have h := pt_sort (G := G) (S := va_up S 3 t) (v := v)
  rwa [show va_up (va_up S 3 t) 3 (uz (va_up S 3 t 3) 2 v) = va_up S 3 (uz t 2 v) from funext fun k => by unfold va_up; split <;> rfl] at h
theorem gtq_start {G : GX} {S : St} {t : Row} : fld (mk G (va_up S 3 t)) 19 2 3 (vi (t 3)) := gt_start
theorem ptq_start {G : GX} {S : St} {t : Row} {v : Int} : put (mk G (va_up S 3 t)) 19 2 3 (vi v) (mk G (va_up S 3 (uz t 3 v))) := by
  have h := pt_start (G := G) (S := va_up S 3 t) (v := v)
  rwa [show va_up (va_up S 3 t) 3 (uz (va_up S 3 t 3) 3 v) = va_up S 3 (uz t 3 v) from funext fun k => by unfold va_up; split <;> rfl] at h
theorem gtq_behind {G : GX} {S : St} {t : Row} : fld (mk G (va_up S 3 t)) 19 2 4 (vi (t 4)) := gt_behind
theorem ptq_behind {G : GX} {S : St} {t : Row} {v : Int} : put (mk G (va_up S 3 t)) 19 2 4 (vi v) (mk G (va_up S 3 (uz t 4 v))) := by
  have h := pt_behind (G := G) (S := va_up S 3 t) (v := v)
  rwa [show va_up (va_up S 3 t) 3 (uz (va_up S 3 t 3) 4 v) = va_up S 3 (uz t 4 v) from funext fun k => by unfold va_up; split <;> rfl] at h
theorem gtq_bytes {G : GX} {S : St} {t : Row} : fld (mk G (va_up S 3 t)) 19 2 0 (rf G 20) := gt_bytes
theorem gmq_s {G : GX} {S : St} {t : Row} : fld (mk G (va_up S 14 t)) 31 4 0 (rf G 32) := gm_s
theorem gmq_keptS {G : GX} {S : St} {t : Row} : fld (mk G (va_up S 14 t)) 31 4 1 (rf G 33) := gm_keptS
theorem gmq_other {G : GX} {S : St} {t : Row} : fld (mk G (va_up S 14 t)) 31 4 2 (rf G 34) := gm_other
theorem gmq_aside {G : GX} {S : St} {t : Row} : fld (mk G (va_up S 14 t)) 31 4 3 (rf G 35) := gm_aside
theorem gmq_statuses {G : GX} {S : St} {t : Row} : fld (mk G (va_up S 14 t)) 31 4 4 (rf G 36) := gm_statuses
theorem gmq_isKept {G : GX} {S : St} {t : Row} : fld (mk G (va_up S 14 t)) 31 4 5 (vi (t 0)) := gm_isKept
theorem pmq_isKept {G : GX} {S : St} {t : Row} {v : Int} : put (mk G (va_up S 14 t)) 31 4 5 (vi v) (mk G (va_up S 14 (uz t 0 v))) := by
  have h := pm_isKept (G := G) (S := va_up S 14 t) (v := v)
  rwa [show va_up (va_up S 14 t) 14 (uz (va_up S 14 t 14) 0 v) = va_up S 14 (uz t 0 v) from funext fun k => by unfold va_up; split <;> rfl] at h
theorem gmq_best {G : GX} {S : St} {t : Row} : fld (mk G (va_up S 14 t)) 31 4 6 (vi (t 1)) := gm_best
theorem pmq_best {G : GX} {S : St} {t : Row} {v : Int} : put (mk G (va_up S 14 t)) 31 4 6 (vi v) (mk G (va_up S 14 (uz t 1 v))) := by
  have h := pm_best (G := G) (S := va_up S 14 t) (v := v)
  rwa [show va_up (va_up S 14 t) 14 (uz (va_up S 14 t 14) 1 v) = va_up S 14 (uz t 1 v) from funext fun k => by unfold va_up; split <;> rfl] at h
theorem gmq_soonest {G : GX} {S : St} {t : Row} : fld (mk G (va_up S 14 t)) 31 4 7 (vi (t 2)) := gm_soonest
theorem pmq_soonest {G : GX} {S : St} {t : Row} {v : Int} : put (mk G (va_up S 14 t)) 31 4 7 (vi v) (mk G (va_up S 14 (uz t 2 v))) := by
  have h := pm_soonest (G := G) (S := va_up S 14 t) (v := v)
  rwa [show va_up (va_up S 14 t) 14 (uz (va_up S 14 t 14) 2 v) = va_up S 14 (uz t 2 v) from funext fun k => by unfold va_up; split <;> rfl] at h
theorem gmq_tape {G : GX} {S : St} {t : Row} : fld (mk G (va_up S 14 t)) 31 4 8 (rf G 37) := gm_tape
theorem gmq_taped {G : GX} {S : St} {t : Row} : fld (mk G (va_up S 14 t)) 31 4 9 (vi (t 3)) := gm_taped
theorem pmq_taped {G : GX} {S : St} {t : Row} {v : Int} : put (mk G (va_up S 14 t)) 31 4 9 (vi v) (mk G (va_up S 14 (uz t 3 v))) := by
  have h := pm_taped (G := G) (S := va_up S 14 t) (v := v)
  rwa [show va_up (va_up S 14 t) 14 (uz (va_up S 14 t 14) 3 v) = va_up S 14 (uz t 3 v) from funext fun k => by unfold va_up; split <;> rfl] at h
theorem gmq_from {G : GX} {S : St} {t : Row} : fld (mk G (va_up S 14 t)) 31 4 10 (vi (t 4)) := gm_from
theorem pmq_from {G : GX} {S : St} {t : Row} {v : Int} : put (mk G (va_up S 14 t)) 31 4 10 (vi v) (mk G (va_up S 14 (uz t 4 v))) := by
  have h := pm_from (G := G) (S := va_up S 14 t) (v := v)
  rwa [show va_up (va_up S 14 t) 14 (uz (va_up S 14 t 14) 4 v) = va_up S 14 (uz t 4 v) from funext fun k => by unfold va_up; split <;> rfl] at h
theorem gmq_to {G : GX} {S : St} {t : Row} : fld (mk G (va_up S 14 t)) 31 4 11 (vi (t 5)) := gm_to
theorem pmq_to {G : GX} {S : St} {t : Row} {v : Int} : put (mk G (va_up S 14 t)) 31 4 11 (vi v) (mk G (va_up S 14 (uz t 5 v))) := by
  have h := pm_to (G := G) (S := va_up S 14 t) (v := v)
  rwa [show va_up (va_up S 14 t) 14 (uz (va_up S 14 t 14) 5 v) = va_up S 14 (uz t 5 v) from funext fun k => by unfold va_up; split <;> rfl] at h
theorem gmq_value {G : GX} {S : St} {t : Row} : fld (mk G (va_up S 14 t)) 31 4 12 (vi (t 6)) := gm_value
theorem pmq_value {G : GX} {S : St} {t : Row} {v : Int} : put (mk G (va_up S 14 t)) 31 4 12 (vi v) (mk G (va_up S 14 (uz t 6 v))) := by
  have h := pm_value (G := G) (S := va_up S 14 t) (v := v)
  rwa [show va_up (va_up S 14 t) 14 (uz (va_up S 14 t 14) 6 v) = va_up S 14 (uz t 6 v) from funext fun k => by unfold va_up; split <;> rfl] at h
theorem gmq_isWrong {G : GX} {S : St} {t : Row} : fld (mk G (va_up S 14 t)) 31 4 13 (vi (t 7)) := gm_isWrong
theorem pmq_isWrong {G : GX} {S : St} {t : Row} {v : Int} : put (mk G (va_up S 14 t)) 31 4 13 (vi v) (mk G (va_up S 14 (uz t 7 v))) := by
  have h := pm_isWrong (G := G) (S := va_up S 14 t) (v := v)
  rwa [show va_up (va_up S 14 t) 14 (uz (va_up S 14 t 14) 7 v) = va_up S 14 (uz t 7 v) from funext fun k => by unfold va_up; split <;> rfl] at h
theorem gmq_bitsOf {G : GX} {S : St} {t : Row} : fld (mk G (va_up S 14 t)) 31 4 14 (rf G 38) := gm_bitsOf
theorem gmq_sizeOf {G : GX} {S : St} {t : Row} : fld (mk G (va_up S 14 t)) 31 4 15 (rf G 39) := gm_sizeOf
theorem gmq_numbers {G : GX} {S : St} {t : Row} : fld (mk G (va_up S 14 t)) 31 4 16 (rf G 40) := gm_numbers
theorem gmq_moved {G : GX} {S : St} {t : Row} : fld (mk G (va_up S 14 t)) 31 4 17 (rf G 41) := gm_moved
