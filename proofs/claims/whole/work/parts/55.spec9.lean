/-! what the items keep -/
theorem IR.asR {b k w : Int} {r : Row} (h : IR b r) (hr : r 0 < 8) (hk : 0 ≤ k ∧ k ≤ 5) (hw : 0 ≤ w ∧ w ≤ 99) : IR b (asR r k w) := by
  have h0 := h.1
  unfold _root_.Jvm.Pilot.@@N@@.asR
  exact (((h.kind (p := r 0) (by omega) hk).wants (p := r 0) (by omega) hw).seen (p := r 0) (by omega) (by omega)).u0 (by omega)
theorem IR.amR {b g w : Int} {r : Row} (h : IR b r) (hr : r 1 < 6) (hg : 0 ≤ g ∧ g ≤ 7) (hw : 0 ≤ w ∧ w ≤ 99) : IR b (amR r g w) := by
  have h1 := h.2.1
  have h4 := h.2.2.2.2.1
  unfold _root_.Jvm.Pilot.@@N@@.amR
  refine ((h.guise (m := r 1) (by omega) hg).wear (m := r 1) (by omega) hw).u1 (by omega) ?_
  rw [uz_ne _ _ (by omega), uz_ne _ _ (by omega)]
  omega
theorem asR_0 (r : Row) (k w : Int) (h : 0 ≤ r 0) : asR r k w 0 = r 0 + 1 ∧ asR r k w 1 = r 1 := by
  unfold asR
  rw [uz_self, uz_ne _ _ (by omega), uz_ne _ _ (by omega), uz_ne _ _ (by omega), uz_ne _ _ (by omega)]
  exact ⟨rfl, rfl⟩
theorem amR_1 (r : Row) (g w : Int) (h : 0 ≤ r 1) : amR r g w 1 = r 1 + 1 ∧ amR r g w 0 = r 0 := by
  unfold amR
  rw [uz_self, uz_ne _ _ (by omega), uz_ne _ _ (by omega), uz_ne _ _ (by omega)]
  exact ⟨rfl, rfl⟩
def spot (w : Int) : Prop := (∃ m, 0 ≤ m ∧ m < 8 ∧ w = 18 + 3 * m) ∨ (∃ m, 0 ≤ m ∧ m < 6 ∧ w = 6 + 2 * m)
theorem IR.spot {b w v : Int} {r : Row} (h : IR b r) (hw : spot w) (hv : 0 ≤ v ∧ v ≤ 99) : IR b (uz r w v) := by
  rcases hw with ⟨m, a, c, e⟩ | ⟨m, a, c, e⟩ <;> subst e
  · exact h.wants a hv
  · exact h.wear ⟨a, c⟩ hv
theorem num_1 (t : Row) (l lo hi : Int) (p : P5) : (numS t l lo hi p).1 = p.1 := by unfold numS; split <;> rfl
theorem num_w {t : Row} {l lo hi : Int} {p : P5} (h : (numS t l lo hi p).2.2.2.2 = 0) : lo ≤ (numS t l lo hi p).2.2.2.1 ∧ (numS t l lo hi p).2.2.2.1 ≤ hi := by
  unfold numS at h ⊢
  split at h
  · rename_i q; rw [if_pos q]; exact q.2
  · exact absurd h (by show ¬ (1 : Int) = 0; omega)
theorem part_IR {t : Row} {l c w b : Int} {p : P5} (h : IR b p.1) (hw : spot w) : IR b (partS t l c w p).1 ∧ (partS t l c w p).1 0 = p.1 0 ∧ (partS t l c w p).1 1 = p.1 1 := by
  have e1 : (numS t l 0 99 (mustS t l 1 p)).1 = p.1 := by rw [num_1, must_1]
  have hw0 : w ≠ 0 ∧ w ≠ 1 := by rcases hw with ⟨m, a, c, e⟩ | ⟨m, a, c, e⟩ <;> omega
  unfold partS
  split
  · unfold putS
    rw [e1]
    refine ⟨?_, uz_ne _ _ (Ne.symm hw0.1), uz_ne _ _ (Ne.symm hw0.2)⟩
    split
    · rename_i q; exact h.spot hw (num_w q)
    · show IR b (uz p.1 w (p.1 w)); rw [uz_same]; exact h
  · exact ⟨h, rfl, rfl⟩
theorem manG_le (t : Row) (l : Int) (p : P5) : 0 ≤ manG t l p ∧ manG t l p ≤ 7 := by
  unfold manG bitV
  split <;> split <;> split <;> decide
theorem sheep_IR {t : Row} {l kd b : Int} {p : P5} (h : IR b p.1) (hk : 0 ≤ kd ∧ kd ≤ 5) : IR b (sheepS t l kd p).1 ∧ ((sheepS t l kd p).2.2.2.2 = 0 → (sheepS t l kd p).1 0 + (sheepS t l kd p).1 1 = p.1 0 + p.1 1 + 1) := by
  have h0 := h.1
  unfold sheepS
  by_cases q : (mustS t l (if p.1 0 < 8 then 1 else 0) p).2.2.2.2 = 0
  · rw [if_pos q]
    have hr : p.1 0 < 8 := by
      have h1 := (must_w q).2
      by_cases z : p.1 0 < 8
      · exact z
      · rw [if_neg z] at h1; omega
    have h2 := part_IR (t := t) (l := l) (c := 24165011) (w := 18 + 3 * p.1 0) (p := (asR p.1 kd 20, (mustS t l (if p.1 0 < 8 then 1 else 0) p).2)) (h.asR hr hk (by omega)) (Or.inl ⟨p.1 0, by omega, by omega, rfl⟩)
    have h3 := asR_0 p.1 kd 20 h0.1
    refine ⟨h2.1, fun _ => ?_⟩
    rw [h2.2.1, h2.2.2]
    show asR p.1 kd 20 0 + asR p.1 kd 20 1 = _
    omega
  · rw [if_neg q]
    refine ⟨by rw [must_1]; exact h, fun z => absurd z q⟩
theorem man_IR {t : Row} {l b : Int} {p : P5} (h : IR b p.1) : IR b (manS t l p).1 ∧ ((manS t l p).2.2.2.2 = 0 → (manS t l p).1 0 + (manS t l p).1 1 = p.1 0 + p.1 1 + 1) := by
  have h1 := h.2.1
  unfold manS
  by_cases q : (man3 t l p).2.2.2.2 = 0
  · rw [if_pos q]
    have hr := man3_w q
    have h2 := part_IR (t := t) (l := l) (c := 769614) (w := 6 + 2 * p.1 1) (p := (amR p.1 (manG t l p) 0, (man3 t l p).2)) (h.amR hr (manG_le t l p) (by omega)) (Or.inr ⟨p.1 1, by omega, by omega, rfl⟩)
    have h3 := amR_1 p.1 (manG t l p) 0 h1.1
    refine ⟨h2.1, fun _ => ?_⟩
    rw [h2.2.1, h2.2.2]
    show amR p.1 (manG t l p) 0 0 + amR p.1 (manG t l p) 0 1 = _
    omega
  · rw [if_neg q]
    refine ⟨by rw [man3_1]; exact h, fun z => absurd z q⟩
theorem item_IR {t : Row} {l b : Int} {p : P5} (h : IR b p.1) : IR b (itemS t l p).1 ∧ ((itemS t l p).2.2.2.2 = 0 → (itemS t l p).1 0 + (itemS t l p).1 1 = p.1 0 + p.1 1 + 1) := by
  have hk := kn_le (wzS t l p)
  unfold itemS
  split
  · exact sheep_IR h (by omega)
  · split
    · exact man_IR h
    · refine ⟨by rw [must_1]; exact h, fun z => ?_⟩
      have := (must_w z).2
      omega
theorem wfp_item {t : Row} {l : Int} {p : P5} (h : wfp t l p) : wfp t l (itemS t l p) := by
  have hs : ∀ v, wfp t l (mustS t l v p) := fun v => wfp_must h
  unfold itemS
  split
  · unfold sheepS
    generalize (if p.1 0 < 8 then (1 : Int) else 0) = v
    split
    · exact wfp_part (p := (asR p.1 _ 20, (mustS t l _ p).2)) (hs _)
    · exact hs _
  · split
    · unfold manS
      have h3 : wfp t l (man3 t l p) := wfp_bit (wfp_bit (wfp_bit (hs _)))
      split
      · exact wfp_part (p := (amR p.1 _ 0, (man3 t l p).2)) h3
      · exact h3
    · exact hs 0
/-- the items, one after another -/
def felL (t : Row) (l : Int) : Nat → Int → P5 → Int × P5
  | 0, i, p => (i, p)
  | n + 1, i, p => if p.2.2.2.2 = 0 ∧ sa l t p.2.1 = 3 then felL t l n (i + 1) (itemS t l (mustS t l 1 p)) else (i, p)
theorem fel_stop {t : Row} {l : Int} {p : P5} (h : ¬ (p.2.2.2.2 = 0 ∧ sa l t p.2.1 = 3)) (n : Nat) (i : Int) : felL t l n i p = (i, p) := by
  cases n with
  | zero => rfl
  | succ n => exact if_neg h
abbrev felW (l : Int) (q : P5) : Prop := q.2.2.2.2 ≠ 0 ∨ q.2.1 < l
def felV (l : Int) (f : Int × P5) : Int := if felW l f.2 then -1 - f.2.2.1 else f.1
def felE (a : Row) (l : Int) (q : P5) : P5 := if felW l q then (a, q.2.1, q.2.2.1, q.2.2.2.1, 1) else (q.1, q.2.1, q.2.2.1, q.2.2.2.1, 0)
