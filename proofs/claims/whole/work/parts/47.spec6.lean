/-! the tape's text -/
def skp (t : Row) (l : Int) : Nat → Int → Int
  | 0, i => i
  | n + 1, i => if i < l ∧ t i = 32 then skp t l n (i + 1) else i
def rnn (t : Row) (l c : Int) : Nat → Int → Int
  | 0, j => j
  | n + 1, j => if j < l ∧ sa l t j = c then rnn t l c n (j + 1) else j
def tkA (t : Row) (l p : Int) : Int := skp t l (l - p).toNat p
def tkB (t : Row) (l a : Int) : Int := if sa l t a = 1 ∨ sa l t a = 2 then rnn t l (sa l t a) (l - (a + 1)).toNat (a + 1) else if a < l then a + 1 else a
theorem skp_le (t : Row) (l : Int) : ∀ (n : Nat) (i : Int), i + n ≤ l → i ≤ skp t l n i ∧ skp t l n i ≤ l := by
  intro n
  induction n with
  | zero => intro i h; rw [skp]; omega
  | succ n ih =>
    intro i h
    rw [skp]
    split
    · have := ih (i + 1) (by omega); omega
    · omega
theorem rnn_le (t : Row) (l c : Int) : ∀ (n : Nat) (i : Int), i + n ≤ l → i ≤ rnn t l c n i ∧ rnn t l c n i ≤ l := by
  intro n
  induction n with
  | zero => intro i h; rw [rnn]; omega
  | succ n ih =>
    intro i h
    rw [rnn]
    split
    · have := ih (i + 1) (by omega); omega
    · omega
theorem tkA_le {t : Row} {l p : Int} (h : p ≤ l) : p ≤ tkA t l p ∧ tkA t l p ≤ l := skp_le t l _ p (by omega)
theorem sa_lt {t : Row} {l a : Int} (h : sa l t a ≠ 5) : 0 ≤ a ∧ a < l := by
  unfold sa at h
  split at h
  · exact absurd rfl h
  · omega
theorem sa_le (t : Row) (l a : Int) : 1 ≤ sa l t a ∧ sa l t a ≤ 5 := by unfold sa; split <;> (try split) <;> (try split) <;> (try split) <;> omega
theorem tkB_le {t : Row} {l a : Int} (h : a ≤ l) : a ≤ tkB t l a ∧ tkB t l a ≤ l := by
  unfold tkB
  split
  · rename_i q
    have h1 := sa_lt (t := t) (l := l) (a := a) (by omega)
    have := rnn_le t l (sa l t a) (l - (a + 1)).toNat (a + 1) (by omega)
    omega
  · split <;> omega
def nv (t : Row) : Nat → Int → Int → Int
  | 0, _, v => v
  | n + 1, i, v => nv t n (i + 1) (if 999 < v then v else 10 * v + t i - 48)
def n3 (t : Row) : Nat → Int → Int → Int
  | 0, _, v => v
  | n + 1, i, v => n3 t n (i + 1) (mn 1000 (10 * v + t i - 48))
theorem n3_nv (t : Row) : ∀ (n : Nat) (i v w : Int), (∀ k, i ≤ k → k < i + n → 48 ≤ t k ∧ t k ≤ 57) → 0 ≤ w → v = mn 1000 w → n3 t n i v = mn 1000 (nv t n i w) ∧ 0 ≤ nv t n i w := by
  intro n
  induction n with
  | zero => intro i v w _ hw h; exact ⟨h, hw⟩
  | succ n ih =>
    intro i v w hd hw h
    have h1 := hd i (by omega) (by omega)
    rw [n3, nv]
    refine ih (i + 1) _ _ (fun k a c => hd k (by omega) (by omega)) (by split <;> omega) ?_
    subst h
    unfold mn
    split <;> split <;> split <;> (try split) <;> omega
/-- the tape's fields, the reference's fields -/
def tp (i l so st be : Int) : Row := fun k => if k = 0 then i else if k = 1 then l else if k = 2 then so else if k = 3 then st else be
def mp (k x y l fr to va wr : Int) : Row := fun z => if z = 0 then k else if z = 1 then x else if z = 2 then y else if z = 3 then l else if z = 4 then fr else if z = 5 then to else if z = 6 then va else wr
