/-! words: the code of a word tells its letters -/
theorem wcd_snoc (t : Row) : ∀ (n : Nat) (i v : Int), wcd t (n + 1) i v = if 36028797018963967 < wcd t n i v then wcd t n i v else 32 * wcd t n i v + (t (i + n) - 96) := by
  intro n
  induction n with
  | zero =>
    intro i v
    rw [wcd, wcd, wcd, show i + ((0 : Nat) : Int) = i by omega]
  | succ n ih =>
    intro i v
    rw [wcd, ih (i + 1), show wcd t (n + 1) i v = wcd t n (i + 1) (if 36028797018963967 < v then v else 32 * v + (t i - 96)) from rfl, show i + 1 + (n : Int) = i + ((n + 1 : Nat) : Int) by omega]
/-- letters from the last to the first -/
def cdr : List Int → Int
  | [] => 0
  | c :: L => 32 * cdr L + (c - 96)
def lts (t : Row) (i : Int) : List Int → Prop
  | [] => True
  | c :: L => t (i + (L.length : Int)) = c ∧ lts t i L
theorem cdr_le : ∀ (L : List Int), (∀ c ∈ L, 97 ≤ c ∧ c ≤ 122) → 0 ≤ cdr L := by
  intro L
  induction L with
  | nil => intro _; exact Int.le_refl 0
  | cons c L ih =>
    intro h
    have h1 := h c (List.mem_cons_self ..)
    have h2 := ih (fun x hx => h x (List.mem_cons_of_mem _ hx))
    rw [cdr]; omega
theorem wcd_iff (t : Row) (i : Int) : ∀ (L : List Int) (n : Nat), (∀ c ∈ L, 97 ≤ c ∧ c ≤ 122) → cdr L ≤ 36028797018963967 → (∀ k, i ≤ k → k < i + n → 97 ≤ t k ∧ t k ≤ 122) → (wcd t n i 0 = cdr L ↔ n = L.length ∧ lts t i L) := by
  intro L
  induction L with
  | nil =>
    intro n _ _ hd
    cases n with
    | zero => exact ⟨fun _ => ⟨rfl, trivial⟩, fun _ => rfl⟩
    | succ n =>
      have h1 := wcd_le n i 0 (fun k a c => hd k a (by omega)) (by omega)
      have h2 := hd (i + n) (by omega) (by omega)
      rw [wcd_snoc, cdr]
      constructor
      · intro h; split at h <;> omega
      · intro h; exact absurd h.1 (by simp)
  | cons c L ih =>
    intro n hc hm hd
    have hc1 := hc c (List.mem_cons_self ..)
    have hL := cdr_le L (fun x hx => hc x (List.mem_cons_of_mem _ hx))
    rw [cdr] at hm ⊢
    cases n with
    | zero =>
      constructor
      · intro h; rw [wcd] at h; omega
      · intro h; exact absurd h.1 (by simp)
    | succ n =>
      have h1 := wcd_le n i 0 (fun k a c => hd k a (by omega)) (by omega)
      have h2 := hd (i + n) (by omega) (by omega)
      have h3 := ih n (fun x hx => hc x (List.mem_cons_of_mem _ hx)) (by omega) (fun k a c => hd k a (by omega))
      rw [wcd_snoc]
      constructor
      · intro h
        have e : wcd t n i 0 = cdr L ∧ t (i + n) = c := by split at h <;> omega
        obtain ⟨h4, h5⟩ := h3.mp e.1
        refine ⟨by rw [List.length_cons, h4], ?_, h5⟩
        rw [← h4]; exact e.2
      · intro h
        have h4 : n = L.length := by have := h.1; rw [List.length_cons] at this; omega
        have h5 := h3.mpr ⟨h4, h.2.2⟩
        have h6 := h.2.1
        rw [← h4] at h6
        rw [if_neg (by omega), h5, h6]
