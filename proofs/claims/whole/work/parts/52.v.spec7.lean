/-! the parser: a state is (row, from, to, value, wrong) -/
abbrev P5 : Type := Row × Int × Int × Int × Int
def Zt (S : St) (k x y l : Int) (p : P5) : St := va_up (va_up S 9 p.1) 14 (mp k x y l p.2.1 p.2.2.1 p.2.2.2.1 p.2.2.2.2)
def wf (t : Row) (l a b : Int) : Prop := (0 ≤ a ∧ a ≤ b ∧ b ≤ l) ∧ (sa l t a = 1 → ∀ k, a ≤ k → k < b → 97 ≤ t k ∧ t k ≤ 122) ∧ (sa l t a = 2 → ∀ k, a ≤ k → k < b → 48 ≤ t k ∧ t k ≤ 57)
theorem rnn_all (t : Row) (l c : Int) : ∀ (n : Nat) (j k : Int), j ≤ k → k < rnn t l c n j → sa l t k = c := by
  intro n
  induction n with
  | zero => intro j k h1 h2; rw [rnn] at h2; omega
  | succ n ih =>
    intro j k h1 h2
    rw [rnn] at h2
    split at h2
    · rename_i q
      by_cases e : k = j
      · subst e; exact q.2
      · exact ih (j + 1) k (by omega) h2
    · omega
theorem sa_12 {t : Row} {l k : Int} : (sa l t k = 1 → 97 ≤ t k ∧ t k ≤ 122) ∧ (sa l t k = 2 → 48 ≤ t k ∧ t k ≤ 57) := by
  unfold sa
  constructor <;> intro h <;> split at h <;> (try split at h) <;> (try split at h) <;> (try split at h) <;> omega
theorem wf_tk {t : Row} {l a : Int} (h0 : 0 ≤ a) (h1 : a ≤ l) : wf t l a (tkB t l a) := by
  have h2 := tkB_le (t := t) h1
  have hall : ∀ c, (c = 1 ∨ c = 2) → sa l t a = c → ∀ k, a ≤ k → k < tkB t l a → sa l t k = c := by
    intro c hc he k h3 h4
    by_cases e : k = a
    · subst e; exact he
    · unfold tkB at h4
      rw [if_pos (by omega), he] at h4
      exact rnn_all t l c _ (a + 1) k (by omega) h4
  exact ⟨⟨h0, h2.1, h2.2⟩, fun h k a c => sa_12.1 (hall 1 (Or.inl rfl) h k a c), fun h k a c => sa_12.2 (hall 2 (Or.inr rfl) h k a c)⟩
theorem wf_adv {t : Row} {l p : Int} (h0 : 0 ≤ p) (h1 : p ≤ l) : wf t l (tkA t l p) (tkB t l (tkA t l p)) := by
  have h2 := tkA_le (t := t) h1
  exact wf_tk (by omega) h2.2
def wfp (t : Row) (l : Int) (p : P5) : Prop := wf t l p.2.1 p.2.2.1 ∧ (p.2.2.2.2 = 0 ∨ p.2.2.2.2 = 1)
def mustS (t : Row) (l v : Int) (p : P5) : P5 := if p.2.2.2.2 = 0 ∧ v = 1 then (p.1, tkA t l p.2.2.1, tkB t l (tkA t l p.2.2.1), p.2.2.2.1, 0) else (p.1, p.2.1, p.2.2.1, p.2.2.2.1, 1)
def wzS (t : Row) (l : Int) (p : P5) : Int := if p.2.2.2.2 = 0 ∧ sa l t p.2.1 = 1 then wcd t (p.2.2.1 - p.2.1).toNat p.2.1 0 else 0
def numV (t : Row) (l : Int) (p : P5) : Int := if sa l t p.2.1 = 2 then nv t (p.2.2.1 - p.2.1).toNat p.2.1 0 else 0
def numS (t : Row) (l lo hi : Int) (p : P5) : P5 := if sa l t p.2.1 = 2 ∧ lo ≤ numV t l p ∧ numV t l p ≤ hi then (p.1, tkA t l p.2.2.1, tkB t l (tkA t l p.2.2.1), numV t l p, 0) else (p.1, p.2.1, p.2.2.1, numV t l p, 1)
def putS (w : Int) (q : P5) : P5 := (uz q.1 w (if q.2.2.2.2 = 0 then q.2.2.2.1 else q.1 w), q.2)
def partS (t : Row) (l c w : Int) (p : P5) : P5 := if wzS t l p = c then putS w (numS t l 0 99 (mustS t l 1 p)) else p
theorem wfp_must {t : Row} {l v : Int} {p : P5} (h : wfp t l p) : wfp t l (mustS t l v p) := by
  unfold mustS
  split
  · exact ⟨wf_adv (by have := h.1.1; omega) h.1.1.2.2, Or.inl rfl⟩
  · exact ⟨h.1, Or.inr rfl⟩
theorem wfp_num {t : Row} {l lo hi : Int} {p : P5} (h : wfp t l p) : wfp t l (numS t l lo hi p) := by
  unfold numS
  split
  · exact ⟨wf_adv (by have := h.1.1; omega) h.1.1.2.2, Or.inl rfl⟩
  · exact ⟨h.1, Or.inr rfl⟩
theorem wfp_part {t : Row} {l c w : Int} {p : P5} (h : wfp t l p) : wfp t l (partS t l c w p) := by
  unfold partS
  split
  · exact wfp_num (lo := 0) (hi := 99) (wfp_must (v := 1) h)
  · exact h
theorem wcd_le {t : Row} : ∀ (n : Nat) (i v : Int), (∀ k, i ≤ k → k < i + n → 97 ≤ t k ∧ t k ≤ 122) → (0 ≤ v ∧ v ≤ 1152921504606846970) → 0 ≤ wcd t n i v ∧ wcd t n i v ≤ 1152921504606846970 := by
  intro n
  induction n with
  | zero => intro i v _ h; exact h
  | succ n ih =>
    intro i v hd h
    have h1 := hd i (by omega) (by omega)
    rw [wcd]
    exact ih (i + 1) _ (fun k a c => hd k (by omega) (by omega)) (by split <;> omega)
theorem wzS_le {t : Row} {l : Int} {p : P5} (h : wfp t l p) : 0 ≤ wzS t l p ∧ wzS t l p ≤ 1152921504606846970 := by
  unfold wzS
  split
  · rename_i q
    exact wcd_le _ _ _ (fun k a c => h.1.2.1 q.2 k a (by have := h.1.1; omega)) (by omega)
  · omega
