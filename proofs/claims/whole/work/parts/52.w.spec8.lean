def sheepS (t : Row) (l kd : Int) (p : P5) : P5 := if (mustS t l (if p.1 0 < 8 then 1 else 0) p).2.2.2.2 = 0 then partS t l 24165011 (18 + 3 * p.1 0) (asR p.1 kd 20, (mustS t l (if p.1 0 < 8 then 1 else 0) p).2) else mustS t l (if p.1 0 < 8 then 1 else 0) p
def bitS (t : Row) (l c : Int) (p : P5) : P5 := if wzS t l p = c then mustS t l 1 p else p
def bitV (t : Row) (l c v : Int) (p : P5) : Int := if wzS t l p = c then v else 0
def man0 (t : Row) (l : Int) (p : P5) : P5 := mustS t l (if p.1 1 < 6 then 1 else 0) p
def man1 (t : Row) (l : Int) (p : P5) : P5 := bitS t l 4583 (man0 t l p)
def man2 (t : Row) (l : Int) (p : P5) : P5 := bitS t l 20587627 (man1 t l p)
def man3 (t : Row) (l : Int) (p : P5) : P5 := bitS t l 402864 (man2 t l p)
def manG (t : Row) (l : Int) (p : P5) : Int := bOr (bOr (bitV t l 4583 1 (man0 t l p)) (bitV t l 20587627 2 (man1 t l p))) (bitV t l 402864 4 (man2 t l p))
def manS (t : Row) (l : Int) (p : P5) : P5 := if (man3 t l p).2.2.2.2 = 0 then partS t l 769614 (6 + 2 * p.1 1) (amR p.1 (manG t l p) 0, (man3 t l p).2) else man3 t l p
theorem must_1 (t : Row) (l v : Int) (p : P5) : (mustS t l v p).1 = p.1 := by unfold mustS; split <;> rfl
theorem must_w {t : Row} {l v : Int} {p : P5} (h : (mustS t l v p).2.2.2.2 = 0) : p.2.2.2.2 = 0 ∧ v = 1 := by
  unfold mustS at h
  split at h
  · rename_i q; exact q
  · exact absurd h (by show ¬ (1 : Int) = 0; omega)
theorem bit_1 (t : Row) (l c : Int) (p : P5) : (bitS t l c p).1 = p.1 := by unfold bitS; split; exact must_1 _ _ _ _; rfl
theorem bit_w {t : Row} {l c : Int} {p : P5} (h : (bitS t l c p).2.2.2.2 = 0) : p.2.2.2.2 = 0 := by
  unfold bitS at h
  split at h
  · exact (must_w h).1
  · exact h
theorem wfp_bit {t : Row} {l c : Int} {p : P5} (h : wfp t l p) : wfp t l (bitS t l c p) := by
  unfold bitS; split
  · exact wfp_must h
  · exact h
theorem wzS_w {t : Row} {l c : Int} {p : P5} (hc : 0 < c) (h : wzS t l p = c) : p.2.2.2.2 = 0 := by
  by_cases q : p.2.2.2.2 = 0
  · exact q
  · have : wzS t l p = 0 := if_neg (fun z => q z.1)
    omega
theorem man3_1 (t : Row) (l : Int) (p : P5) : (man3 t l p).1 = p.1 := by unfold man3 man2 man1 man0; rw [bit_1, bit_1, bit_1, must_1]
theorem man3_w {t : Row} {l : Int} {p : P5} (h : (man3 t l p).2.2.2.2 = 0) : p.1 1 < 6 := by
  have h1 := (must_w (bit_w (bit_w (bit_w h)))).2
  by_cases q : p.1 1 < 6
  · exact q
  · rw [if_neg q] at h1; omega
def kn (c : Int) : Int := if c = 20190384 then 0 else if c = 5861 then 1 else if c = 394658 then 2 else if c = 777658546 then 3 else if c = 24161458 then 4 else if c = 21168 then 5 else -1
def itemS (t : Row) (l : Int) (p : P5) : P5 := if 0 ≤ kn (wzS t l p) then sheepS t l (kn (wzS t l p)) p else if wzS t l p = 13358 then manS t l p else mustS t l 0 p
theorem kn_le (c : Int) : -1 ≤ kn c ∧ kn c ≤ 5 := by unfold kn; split <;> (try split) <;> (try split) <;> (try split) <;> (try split) <;> (try split) <;> omega
