/-! searches -/
def xsr (V : Int → Int) (F : Int → Int → Int × Row) : Nat → Int → Int × Int × Row → Int × Int × Row
  | 0, _, a => a
  | n + 1, g, a => xsr V F n (g + 1) (if (F g a.2.1).1 < a.2.1 then (V g, (F g a.2.1).1, (F g a.2.1).2) else (a.1, a.2.1, (F g a.2.1).2))
def xss (F : Int → Int → Int → Int × Row) (k : Int) : Nat → Int → Int × Int × Row → Int × Int × Row
  | 0, _, a => a
  | n + 1, m, a => xss F k n (m + 1) (xsr (fun o => 10 * m + o) (F m) (k - (m + 1)).toNat (m + 1) a)
def xsp (Q : Int → Row) (c : Int → Int) (w : Int) : Nat → Int → Int × Int × Row → Int × Int × Row
  | 0, _, a => a
  | n + 1, o, a => xsp Q c w n (o + 1) (if pcn o < a.2.1 then (if c o ≤ w then (o, pcn o, Q o) else (a.1, a.2.1, Q o)) else a)
def xmo (Q : Int → Row) (z : Int) : Nat → Int → Row → Int × Row
  | 0, _, t => (-1000000004, t)
  | n + 1, v, t => if Q v z = 0 then (v, Q v) else xmo Q z n (v - 1) (Q v)
def xla (F : Int → Int × Row) : Nat → Int → Int × Int × Row → Int × Int × Row
  | 0, _, a => a
  | n + 1, p, a => xla F n (p + 1) (if a.2.1 < (F p).1 then (p, (F p).1, (F p).2) else (a.1, a.2.1, (F p).2))
def tri (a : Int × Int) (v k : Int) : Int × Int := if k < a.2 then (v, k) else a
def bst (V f : Int → Int) : Nat → Int → Int × Int → Int × Int
  | 0, _, a => a
  | n + 1, g, a => bst V f n (g + 1) (tri a (V g) (f g))
def nn (x : Int) : Int := if x < 0 then -1000000004 else x
/-- the two ways to search agree -/
def xeq (a : Int × Int × Row) (c : Int × Int) : Prop := a.2.1 = c.2 ∧ ((a.1 = -1000000004 ∧ c.1 = -1) ∨ (a.1 = c.1 ∧ 0 ≤ c.1))
theorem xsr_bst {V f : Int → Int} {F : Int → Int → Int × Row} {lim : Int} (hV : ∀ g, 0 ≤ g → 0 ≤ V g) (hF : ∀ g s, 0 ≤ g → 0 ≤ s → s ≤ lim → ((F g s).1 < s ↔ f g < s) ∧ ((F g s).1 < s → (F g s).1 = f g ∧ 0 ≤ f g)) :
    ∀ (n : Nat) (g : Int) (a : Int × Int × Row) (c : Int × Int), 0 ≤ g → 0 ≤ a.2.1 → a.2.1 ≤ lim → xeq a c → xeq (xsr V F n g a) (bst V f n g c) ∧ 0 ≤ (xsr V F n g a).2.1 ∧ (xsr V F n g a).2.1 ≤ lim := by
  intro n
  induction n with
  | zero => intro g a c _ h1 h2 h; exact ⟨h, h1, h2⟩
  | succ n ih =>
    intro g a c h0 h1 h2 h
    obtain ⟨e1, e2⟩ := hF g a.2.1 h0 h1 h2
    rw [xsr, bst]
    by_cases hc : (F g a.2.1).1 < a.2.1
    · rw [if_pos hc]
      obtain ⟨e3, e4⟩ := e2 hc
      have h5 : tri c (V g) (f g) = (V g, f g) := by unfold tri; rw [if_pos (by rw [← h.1]; exact e1.mp hc)]
      rw [h5]
      have hv := hV g h0
      exact ih (g + 1) _ _ (by omega) (by show 0 ≤ (F g a.2.1).1; omega) (by show (F g a.2.1).1 ≤ lim; omega) ⟨e3, Or.inr ⟨rfl, hv⟩⟩
    · rw [if_neg hc]
      have h5 : tri c (V g) (f g) = c := by unfold tri; rw [if_neg (by rw [← h.1]; exact fun q => hc (e1.mpr q))]
      rw [h5]
      exact ih (g + 1) _ _ (by omega) h1 h2 h
theorem xeq_nn {a : Int × Int × Row} {c : Int × Int} (h : xeq a c) : a.1 = nn c.1 := by
  unfold nn
  rcases h.2 with ⟨h1, h2⟩ | ⟨h1, h2⟩
  · rw [h1, h2]; rfl
  · rw [h1, if_neg (by omega)]
theorem ft_F {P : Row → Bool} {r : Row} {lim : Nat} : ∀ s : Int, 0 ≤ s → s ≤ lim → ((ft P s.toNat 0 r).1 < s ↔ (ft P lim 0 r).1 < s) ∧ ((ft P s.toNat 0 r).1 < s → (ft P s.toNat 0 r).1 = (ft P lim 0 r).1 ∧ 0 ≤ (ft P lim 0 r).1) := by
  intro s h0 h1
  have h2 := ft_min (P := P) s.toNat lim 0 r (by omega)
  have h3 := ft_le (P := P) s.toNat 0 r
  have h4 := ft_le (P := P) lim 0 r
  constructor
  · constructor
    · intro h; rw [h2.1 (by omega)]; exact h
    · intro h
      by_cases q : (ft P s.toNat 0 r).1 = 0 + (s.toNat : Int)
      · have := h2.2 q; omega
      · omega
  · intro h
    exact ⟨(h2.1 (by omega)).symm, h4.1⟩
/-- what the searches answer -/
def s_guise (r : Row) (m : Int) : Int := (bst (fun g => g) (fun g => (ft qt 101 0 (uz r (5 + 2 * m) g)).1) 8 0 (-1, 101)).1
def v_guise (r : Row) (m : Int) : Int := if 0 ≤ m ∧ m < r 1 then nn (s_guise r m) else -1000000001
def gu2 (r : Row) (m o z : Int) : Row := uz (uz r (5 + 2 * m) (z / 8)) (5 + 2 * o) (z % 8)
def s_guises (r : Row) (m o : Int) : Int := (bst (fun g => g) (fun z => (ft qt 61 0 (gu2 r m o z)).1) 64 0 (-1, 61)).1
def v_guises (r : Row) (m o : Int) : Int := if (0 ≤ m ∧ m < r 1) ∧ (0 ≤ o ∧ o < r 1) ∧ m ≠ o then nn (s_guises r m o) else -1000000001
def bss (f : Int → Int → Int) (k : Int) : Nat → Int → Int × Int → Int × Int
  | 0, _, a => a
  | n + 1, m, a => bss f k n (m + 1) (bst (fun o => 10 * m + o) (f m) (k - (m + 1)).toNat (m + 1) a)
def s_swap (r : Row) : Int := (bss (fun m o => (ft qt 101 0 (exR m o r)).1) (r 1) (r 1).toNat 0 (-1, (ft qt 101 0 r).1)).1
def v_swap (r : Row) : Int := nn (s_swap r)
def spQ (r : Row) (n o : Int) : Row := minsR n.toNat (woL o (r 1).toNat 0 r)
def spC (r : Row) (n o : Int) : Int := lsum (wwo (spQ r n o) o) (r 1).toNat 0 0
def bsp (c : Int → Int) (w : Int) : Nat → Int → Int → Int
  | 0, _, a => a
  | n + 1, o, a => bsp c w n (o + 1) (if a < 0 ∨ pcn o < pcn a then (if c o ≤ w then o else a) else a)
def s_spare (r : Row) (n w : Int) : Int := bsp (spC r n) w (bShl 1 (r 1)).toNat 0 (-1)
def v_spare (r : Row) (n w : Int) : Int := if (1 ≤ n ∧ n ≤ 40) ∧ (0 ≤ w ∧ w ≤ 594) then nn (s_spare r n w) else -1000000001
def s_kind (r : Row) (p : Int) : Int := (bst (fun g => g) (fun k => (ft (at_ (18 + 3 * p) 0) 101 0 (uz r (17 + 3 * p) k)).1) 6 0 (-1, 101)).1
def v_kind (r : Row) (p : Int) : Int := if 0 ≤ p ∧ p < r 0 then nn (s_kind r p) else -1000000001
def moQ (r : Row) (p n v : Int) : Row := minsR n.toNat (uz r (18 + 3 * p) v)
def s_most (r : Row) (p n : Int) : Int := (xmo (moQ r p n) (18 + 3 * p) 100 99 r).1
def v_most (r : Row) (p n : Int) : Int := if (0 ≤ p ∧ p < r 0) ∧ (1 ≤ n ∧ n ≤ 100) then s_most r p n else -1000000001
def beQ (r : Row) (n m : Int) : Row := minsR n.toNat (uz r 4 m)
def s_begin (r : Row) (n : Int) : Int := (bst (fun g => g) (fun m => wsm (beQ r n m)) (r 1).toNat 0 (-1, 99999)).1
def v_begin (r : Row) (n : Int) : Int := if 1 ≤ n ∧ n ≤ 100 then nn (s_begin r n) else -1000000001
def bla (f : Int → Int) : Nat → Int → Int × Int → Int × Int
  | 0, _, a => a
  | n + 1, p, a => bla f n (p + 1) (if a.2 < f p then (p, f p) else a)
def s_last (r : Row) : Int := (bla (fun p => (ft (at_ (18 + 3 * p) 0) 201 0 r).1) (r 0).toNat 0 (-1, -1)).1
def v_last (r : Row) : Int := nn (s_last r)
theorem q_T {G : GX} {M : MI} {pc : Nat} {L : LL} {S : St} {a v : Int} {X T : Row} (e : a = v) (hx : -1000000000 ≤ a) (er : X = T) (hr : M.2.2.2.1 = some .int) (hd : decode M.2.1 pc = .ok (.ireturn, 1)) : Rn G M pc L [vi a] (mk G (va_up S 1 X)) (some (vi v)) (mk G (va_up (va_up S 1 T) 5 (tl (S 5) v))) := by
  subst er; exact q_t e hx hr hd
theorem q_fT {G : GX} {M : MI} {pc : Nat} {L : LL} {S : St} {a v : Int} {T : Row} (e : a = v) (er : S 1 = T) (hr : M.2.2.2.1 = some .int) (hd : decode M.2.1 pc = .ok (.ireturn, 1)) : Rn G M pc L [vi a] (mk G (va_up S 5 (tl (S 5) a))) (some (vi v)) (mk G (va_up (va_up S 1 T) 5 (tl (S 5) v))) := by
  subst er; subst e; rw [vup_same]; exact p_iret hr hd rfl rfl
theorem q_fT2 {G : GX} {M : MI} {pc : Nat} {L : LL} {S : St} {a v : Int} {X T : Row} (e : a = v) (er : X = T) (hr : M.2.2.2.1 = some .int) (hd : decode M.2.1 pc = .ok (.ireturn, 1)) : Rn G M pc L [vi a] (mk G (va_up (va_up S 1 X) 5 (tl (S 5) a))) (some (vi v)) (mk G (va_up (va_up S 1 T) 5 (tl (S 5) v))) := by
  subst er; subst e; exact p_iret hr hd rfl rfl
