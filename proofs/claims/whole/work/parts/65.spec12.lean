/-! what holds between the calls: class and reference agree -/
def Inv (S : St) : Prop := (S 0 = S 9 ∧ (S 3 0 = 0 ∨ S 2 = S 10) ∧ S 5 = S 13 ∧ S 4 = S 15 ∧ S 6 = S 16 ∧ S 7 = S 17 ∧ S 8 = S 18 ∧ S 3 0 = S 14 0 ∧ S 3 1 = S 14 3) ∧ IR 99999 (S 0) ∧ (IR 99999 (S 2) ∧ IR 99999 (S 10)) ∧ (∀ i, 0 ≤ i → i < 120 → 0 ≤ S 4 i ∧ S 4 i ≤ 255) ∧ (0 ≤ S 3 1 ∧ S 3 1 ≤ 120) ∧ (S 3 0 = 0 ∨ S 3 0 = 1) ∧ (∀ i, 0 ≤ i → i < 4 → inR (S 6 i)) ∧ (∀ i, 0 ≤ i → i < 4 → 0 ≤ S 7 i ∧ S 7 i ≤ 40) ∧ (∀ i, 0 ≤ i → i < 160 → inL (S 8 i)) ∧ (∀ i, 0 ≤ i → i < 7 → 0 ≤ S 5 i)
theorem tl_nn {t : Row} {v : Int} (h : ∀ i, 0 ≤ i → i < 7 → 0 ≤ t i) : ∀ i, 0 ≤ i → i < 7 → 0 ≤ tl t v i := by
  intro i a c
  unfold tl
  split
  · unfold uz
    split
    · rename_i q; have := h i a c; rw [← q]; omega
    · exact h i a c
  · exact h i a c
theorem Inv.fin {S T : St} (h : Inv S) (v : Int) (c0 : T 0 = T 9) (hI : IR 99999 (T 0)) (c2 : T 2 = S 2) (c10 : T 10 = S 10) (c5 : T 5 = tl (S 5) v) (c13 : T 13 = tl (S 13) v) (c4 : T 4 = S 4) (c15 : T 15 = S 15) (c6 : T 6 = S 6) (c16 : T 16 = S 16) (c7 : T 7 = S 7) (c17 : T 17 = S 17) (c8 : T 8 = S 8) (c18 : T 18 = S 18) (c3 : T 3 = S 3) (c140 : T 14 0 = S 14 0) (c143 : T 14 3 = S 14 3) : Inv T := by
  obtain ⟨⟨e9, e10, e13, e15, e16, e17, e18, e140, e143⟩, i0, i2, i4, i31, i30, i6, i7, i8, i5⟩ := h
  refine ⟨⟨c0, ?_, ?_, ?_, ?_, ?_, ?_, ?_, ?_⟩, hI, ?_, ?_, ?_, ?_, ?_, ?_, ?_, ?_⟩
  · rw [c2, c10, c3]; exact e10
  · rw [c5, c13, e13]
  · rw [c4, c15, e15]
  · rw [c6, c16, e16]
  · rw [c7, c17, e17]
  · rw [c8, c18, e18]
  · rw [c3, c140, e140]
  · rw [c3, c143, e143]
  · rw [c2, c10]; exact i2
  · rw [c4]; exact i4
  · rw [c3]; exact i31
  · rw [c3]; exact i30
  · rw [c6]; exact i6
  · rw [c7]; exact i7
  · rw [c8]; exact i8
  · rw [c5]; exact tl_nn i5
/-- one call of both -/
def CallOk (f : Int → Value) (G : GX) (M4 M5 : MI) (As : List Value) (S : St) : Prop := ∃ (z : Int) (S1 S2 : St), Ev G M4 (rf G 0 :: As) (mk G S) (some (f z)) (mk G S1) ∧ Ev G M5 (rf G 31 :: As) (mk G S1) (some (f z)) (mk G S2) ∧ Inv S2
theorem sB {f : Int → Value} {G : GX} {M4 M5 : MI} {As : List Value} {S S1 S2 : St} {z : Int} (h4 : Ev G M4 (rf G 0 :: As) (mk G S) (some (f z)) (mk G S1)) (h5 : Ev G M5 (rf G 31 :: As) (mk G S1) (some (f z)) (mk G S2)) (hI : Inv S2) : CallOk f G M4 M5 As S := ⟨z, S1, S2, h4, h5, hI⟩
theorem sA {f : Int → Value} {G : GX} {M4 M5 : MI} {As : List Value} {S S1 S2 : St} {z : Int} {r : Row} (h4 : Ev G M4 (rf G 0 :: As) (mk G S) (some (f z)) (mk G S1)) (e : S1 9 = r) (h5 : Ev G M5 (rf G 31 :: As) (mk G (va_up S1 9 r)) (some (f z)) (mk G S2)) (hI : Inv S2) : CallOk f G M4 M5 As S := by
  subst e
  rw [vup_same] at h5
  exact ⟨z, S1, S2, h4, h5, hI⟩
theorem m2_0 (t : Row) (a b : Int) : m2 t a b 0 = t 0 ∧ m2 t a b 3 = t 3 := by unfold m2; exact ⟨by rw [uz_ne _ _ (by omega), uz_ne _ _ (by omega)], by rw [uz_ne _ _ (by omega), uz_ne _ _ (by omega)]⟩
theorem m2if (c : Prop) [Decidable c] (t : Row) (a b : Int) : (if c then m2 t a b else t) 0 = t 0 ∧ (if c then m2 t a b else t) 3 = t 3 := by
  split
  · exact m2_0 t a b
  · exact ⟨rfl, rfl⟩
/-! rows behind a call -/
theorem ir_man {r : Row} {g : Int} (h : IR 99999 r) : IR 99999 (r_man r g) := by
  unfold r_man; split
  · rename_i q; exact h.amR q.2 q.1 (by omega)
  · exact h
theorem ir_dress {r : Row} {m w v : Int} (h : IR 99999 r) : IR 99999 (r_dress r m w v) := by
  have h1 := h.2.1
  unfold r_dress; split
  · rename_i q
    obtain ⟨q1, q2⟩ := q
    exact h.um (by omega) (by omega) (by omega) (by omega)
  · exact h
theorem ir_first {r : Row} {m : Int} (h : IR 99999 r) : IR 99999 (r_first r m) := by
  unfold r_first; split
  · exact h.u4 (by omega)
  · exact h
theorem ir_goesHome {r : Row} (h : IR 99999 r) : IR 99999 (r_goesHome r) := by
  have h1 := h.2.1
  have h4 := h.2.2.2.2.1
  unfold r_goesHome; split
  · exact h
  · unfold ghR
    rw [uz_swap _ (by omega)]
    refine (h.u4 (v := if r 4 = r 1 - 1 then 0 else r 4) (by split <;> omega)).u1 (by omega) ?_
    rw [uz_self]
    split <;> omega
theorem ir_sheep {r : Row} {k : Int} (h : IR 99999 r) : IR 99999 (r_sheep r k) := by
  unfold r_sheep; split
  · rename_i q; exact h.asR q.2 q.1 (by omega)
  · exact h
theorem ir_set {r : Row} {p w v : Int} (h : IR 99999 r) : IR 99999 (r_set r p w v) := by
  unfold r_set; split
  · rename_i q
    obtain ⟨q1, q2⟩ := q
    exact h.up (by omega) (by omega) (by omega) (by omega) (by omega)
  · exact h
theorem ir_turn {r : Row} {p k : Int} (h : IR 99999 r) : IR 99999 (r_turn r p k) := by
  unfold r_turn; split
  · rename_i q; exact h.kind q.1.1 q.2
  · exact h
theorem ir_minutes {r : Row} {n : Int} (h : IR 99999 r) : IR 99999 (r_minutes r n) := by
  unfold r_minutes; split
  · rename_i q
    have h2 : IR (r 2) r := ⟨h.1, h.2.1, ⟨h.2.2.1.1, Int.le_refl _⟩, h.2.2.2⟩
    exact (IR.minsR n.toNat h2).mono (by omega)
  · exact h
theorem ir_lyL {b : Int} (f : Int → Int) : ∀ (n : Nat) (k : Int) (r : Row) (c : Int), IR b r → 0 ≤ k → IR b (lyL f n k r c).1 := by
  intro n
  induction n with
  | zero => intro k r c h _; exact h
  | succ n ih =>
    intro k r c h h0
    rw [lyL]
    split
    · exact ih (k + 1) _ _ (h.wants h0 (by omega)) (by omega)
    · exact ih (k + 1) _ _ h (by omega)
theorem ir_lays {r bi le nu : Row} {s : Int} (h : IR 99999 r) : IR 99999 (r_lays r bi le nu s) := by
  unfold r_lays; split
  · exact ir_lyL _ _ _ _ _ h (by omega)
  · exact h
theorem ir_undo {k : Int} {r kr : Row} (h : IR 99999 r) (h2 : IR 99999 kr) : IR 99999 (r_undo k r kr) := by
  unfold r_undo; split
  · exact h
  · exact h2
/-! tape and sheets -/
theorem bAnd_255 (x : Int) : 0 ≤ bAnd x 255 ∧ bAnd x 255 ≤ 255 := by
  have e : Int32.ofInt x &&& Int32.ofInt 255 = nI ((Int32.ofInt x).toBitVec.toNat % 2 ^ 8) := pk_and (Int32.ofInt x) (m := Int32.ofInt 255) 8 (by decide)
  have h : (Int32.ofInt x).toBitVec.toNat % 2 ^ 8 < 256 := Nat.mod_lt _ (by decide)
  unfold bAnd
  rw [e, nI_toInt (by omega)]
  omega
theorem fdL_b (by_ : Int) : ∀ (n : Nat) (t : Row) (l : Int), (∀ i, 0 ≤ i → i < 120 → 0 ≤ t i ∧ t i ≤ 255) → ∀ i, 0 ≤ i → i < 120 → 0 ≤ fdL by_ n t l i ∧ fdL by_ n t l i ≤ 255 := by
  intro n
  induction n with
  | zero => intro t l h; exact h
  | succ n ih =>
    intro t l h
    rw [fdL]
    refine ih _ _ (fun i a c => ?_)
    unfold uz
    split
    · exact bAnd_255 _
    · exact h i a c
theorem t_feed_b {t : Row} {l by_ n : Int} (h : ∀ i, 0 ≤ i → i < 120 → 0 ≤ t i ∧ t i ≤ 255) : ∀ i, 0 ≤ i → i < 120 → 0 ≤ t_feed t l by_ n i ∧ t_feed t l by_ n i ≤ 255 := by
  unfold t_feed; split
  · exact fdL_b _ _ _ _ h
  · exact h
theorem l_feed_b {l n : Int} (h : 0 ≤ l ∧ l ≤ 120) : 0 ≤ l_feed l n ∧ l_feed l n ≤ 120 := by unfold l_feed; split <;> omega
theorem inR_L {z : Int} (h : inR z) : inL z := by unfold inR at h; unfold inL; omega
theorem nr_L {b v : Int} (h : inL v) : inL (nr b v) := by
  unfold nr; split
  · exact inR_L (nb8_in v)
  · split
    · exact inR_L (nb16_in v)
    · exact h
theorem uz_L {f : Row} {k v : Int} (h : ∀ i, 0 ≤ i → i < 160 → inL (f i)) (hv : inL v) : ∀ i, 0 ≤ i → i < 160 → inL (uz f k v i) := by
  intro i a c
  unfold uz; split
  · exact hv
  · exact h i a c
theorem n_write_L {bi le nu : Row} {s i v : Int} (h : ∀ i, 0 ≤ i → i < 160 → inL (nu i)) (hv : inL v) : ∀ j, 0 ≤ j → j < 160 → inL (n_write bi le nu s i v j) := by
  unfold n_write; split
  · exact uz_L h (nr_L hv)
  · exact h
theorem n_copy_L {bi le nu : Row} {s f t o n : Int} (h : ∀ i, 0 ≤ i → i < 160 → inL (nu i)) (hle : ∀ i, 0 ≤ i → i < 4 → 0 ≤ le i ∧ le i ≤ 40) : ∀ j, 0 ≤ j → j < 160 → inL (n_copy bi le nu s f t o n j) := by
  intro j a c
  unfold n_copy; split
  · rename_i q
    obtain ⟨⟨q1, q2⟩, q3, q4, q5, q6, q7, q8, q9⟩ := q
    have l1 := hle s (by omega) (by omega)
    have l2 := hle t (by omega) (by omega)
    unfold cpz; split
    · exact h _ (by omega) (by omega)
    · exact h j a c
  · exact h j a c
theorem bkL_L {bb p s : Int} (hp : 0 ≤ p ∧ p < 8) : ∀ (n : Nat) (i : Int) {b : Int} (t f : Row), IR b t → (∀ i, 0 ≤ i → i < 160 → inL (f i)) → ∀ j, 0 ≤ j → j < 160 → inL (bkL bb p s n i t f j) := by
  intro n
  induction n with
  | zero => intro i b t f _ h; exact h
  | succ n ih =>
    intro i b t f ht h
    rw [bkL]
    have h1 := ht.2.2.2.2.2.2 p hp.1 hp.2
    exact ih (i + 1) (minR t) _ ht.minR (uz_L h (nr_L (inR_L ⟨by omega, by omega⟩)))
theorem n_book_L {r bi le nu : Row} {s p b : Int} (hI : IR b r) (h : ∀ i, 0 ≤ i → i < 160 → inL (nu i)) : ∀ j, 0 ≤ j → j < 160 → inL (n_book r bi le nu s p j) := by
  have i0 := hI.1
  unfold n_book; split
  · rename_i q
    have hp : 0 ≤ p ∧ p < r 0 := by
      unfold mB at q
      by_cases z : mS bi s = 0
      · rw [if_pos z] at q
        by_cases y : 0 ≤ p ∧ p < r 0
        · exact y
        · rw [if_neg y] at q; omega
      · rw [if_neg z] at q; exact absurd q z
    exact bkL_L (by omega) _ _ _ _ hI h
  · exact h
theorem t_write_nn {t bi le : Row} {s i : Int} (h : ∀ i, 0 ≤ i → i < 7 → 0 ≤ t i) : ∀ j, 0 ≤ j → j < 7 → 0 ≤ t_write t bi le s i j := by
  unfold t_write; split
  · split
    · exact h
    · exact tl_nn h
  · exact tl_nn h
