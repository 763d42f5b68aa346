/-! what each call answers, and the row behind it -/
def v_man (r : Row) (g : Int) : Int := if 0 ≤ g ∧ g ≤ 7 then (if r 1 < 6 then r 1 else -1000000002) else -1000000001
def r_man (r : Row) (g : Int) : Row := if (0 ≤ g ∧ g ≤ 7) ∧ r 1 < 6 then amR r g 0 else r
def v_manOf (r : Row) (m w : Int) : Int := if (0 ≤ m ∧ m < r 1) ∧ (0 ≤ w ∧ w ≤ 1) then r (5 + 2 * m + w) else -1000000001
abbrev ok_dress (r : Row) (m w v : Int) : Prop := (0 ≤ m ∧ m < r 1) ∧ ((w = 0 ∧ 0 ≤ v ∧ v ≤ 7) ∨ (w = 1 ∧ 0 ≤ v ∧ v ≤ 99))
def v_dress (r : Row) (m w v : Int) : Int := if ok_dress r m w v then r (5 + 2 * m + w) else -1000000001
def r_dress (r : Row) (m w v : Int) : Row := if ok_dress r m w v then uz r (5 + 2 * m + w) v else r
def v_first (r : Row) (m : Int) : Int := if 0 ≤ m ∧ m < r 1 then r 4 else -1000000001
def r_first (r : Row) (m : Int) : Row := if 0 ≤ m ∧ m < r 1 then uz r 4 m else r
def v_goesHome (r : Row) : Int := if r 1 = 0 then -1000000004 else r 1 - 1
def r_goesHome (r : Row) : Row := if r 1 = 0 then r else ghR r
def v_sheep (r : Row) (k : Int) : Int := if 0 ≤ k ∧ k ≤ 5 then (if r 0 < 8 then r 0 else -1000000002) else -1000000001
def r_sheep (r : Row) (k : Int) : Row := if (0 ≤ k ∧ k ≤ 5) ∧ r 0 < 8 then asR r k 20 else r
def v_of (r : Row) (p w : Int) : Int := if (0 ≤ p ∧ p < r 0) ∧ (0 ≤ w ∧ w ≤ 5) then (if w = 3 then (if r (18 + 3 * p) = 0 then 1 else 0) else if w = 4 then tW (r (17 + 3 * p)) else if w = 5 then tT (r (17 + 3 * p)) else r (17 + 3 * p + w)) else -1000000001
abbrev ok_set (r : Row) (p w v : Int) : Prop := (0 ≤ p ∧ p < r 0) ∧ ((w = 1 ∧ 0 ≤ v ∧ v ≤ 99) ∨ (w = 2 ∧ 0 ≤ v ∧ v ≤ 9999))
def v_set (r : Row) (p w v : Int) : Int := if ok_set r p w v then r (17 + 3 * p + w) else -1000000001
def r_set (r : Row) (p w v : Int) : Row := if ok_set r p w v then uz r (17 + 3 * p + w) v else r
def v_turn (r : Row) (p k : Int) : Int := if (0 ≤ p ∧ p < r 0) ∧ (0 ≤ k ∧ k ≤ 5) then r (17 + 3 * p) else -1000000001
def r_turn (r : Row) (p k : Int) : Row := if (0 ≤ p ∧ p < r 0) ∧ (0 ≤ k ∧ k ≤ 5) then uz r (17 + 3 * p) k else r
def v_as (r : Row) (p k : Int) : Int := if (0 ≤ p ∧ p < r 0) ∧ (0 ≤ k ∧ k ≤ 5) then (if isu (r (17 + 3 * p)) k then r (18 + 3 * p) else -1000000003) else -1000000001
def v_counts (r : Row) (p g : Int) : Int := if (0 ≤ p ∧ p < r 0) ∧ (0 ≤ g ∧ g ≤ 7) then tk (r (17 + 3 * p)) g (un g (r 3)) (r 2) else -1000000001
def v_minutes (r : Row) (n : Int) : Int := if 1 ≤ n ∧ n ≤ 100 then (if r 2 + n ≤ 99999 then slp (minsR n.toNat r) else -1000000005) else -1000000001
def r_minutes (r : Row) (n : Int) : Row := if (1 ≤ n ∧ n ≤ 100) ∧ r 2 + n ≤ 99999 then minsR n.toNat r else r
def wal (r : Row) : Int := lsum (fun m => r (6 + 2 * m)) (r 1).toNat 0 0
def v_now (r : Row) (w : Int) : Int := if w = 0 then r 2 else if w = 1 then r 3 else if w = 2 then (if r 1 = 0 then -1 else r 4) else if w = 3 then slp r else if w = 4 then wsm r else if w = 5 then wal r else if w = 6 then pss r else -1000000001
def v_on (r : Row) (p n w : Int) : Int := if (0 ≤ p ∧ p < r 0) ∧ (0 ≤ n ∧ n ≤ 100) ∧ (0 ≤ w ∧ w ≤ 1) then minsR n.toNat r (18 + 3 * p + w) else -1000000001
def v_worn (r : Row) (m n : Int) : Int := if (0 ≤ m ∧ m < r 1) ∧ (0 ≤ n ∧ n ≤ 100) then minsR n.toNat r (6 + 2 * m) else -1000000001
def orN (k n : Int) : Int := if k ≤ n then k else -1000000004
def v_sleeps (r : Row) (p : Int) : Int := if 0 ≤ p ∧ p < r 0 then orN (ft (at_ (18 + 3 * p) 0) 201 0 r).1 200 else -1000000001
def v_quiet (r : Row) : Int := orN (ft qt 201 0 r).1 200
def v_bare (r : Row) (m : Int) : Int := if 0 ≤ m ∧ m < r 1 then orN (ft (at_ (6 + 2 * m) 99) 201 0 r).1 200 else -1000000001
/-- how far a first time is -/
theorem ft_le {P : Row → Bool} : ∀ (n : Nat) (i : Int) (r : Row), i ≤ (ft P n i r).1 ∧ (ft P n i r).1 ≤ i + n := by
  intro n
  induction n with
  | zero => intro i r; rw [ft]; simp
  | succ n ih =>
    intro i r
    rw [ft]
    split
    · simp only; omega
    · have := ih (i + 1) (minR r); omega
theorem ft_min {P : Row → Bool} : ∀ (a b : Nat) (i : Int) (r : Row), a ≤ b → ((ft P a i r).1 < i + a → (ft P b i r).1 = (ft P a i r).1) ∧ ((ft P a i r).1 = i + a → i + a ≤ (ft P b i r).1) := by
  intro a
  induction a with
  | zero =>
    intro b i r h
    have h1 := ft_le (P := P) b i r
    rw [ft]
    constructor
    · intro q; simp only at q; omega
    · intro q; omega
  | succ a ih =>
    intro b i r h
    obtain ⟨b', rfl⟩ : ∃ b', b = b' + 1 := ⟨b - 1, by omega⟩
    rw [ft, ft]
    by_cases hp : P r = true
    · rw [if_pos hp, if_pos hp]
      constructor
      · intro _; rfl
      · intro q; simp only at q; omega
    · rw [if_neg hp, if_neg hp]
      have h2 := ih b' (i + 1) (minR r) (by omega)
      constructor
      · intro q; exact h2.1 (by omega)
      · intro q; have := h2.2 (by omega); omega
theorem slp_in_aux (P : Int → Bool) : ∀ (n : Nat) (p a : Int), inR a → inR (lset P n p a) := by
  intro n
  induction n with
  | zero => intro p a h; exact h
  | succ n ih =>
    intro p a h
    refine ih (p + 1) _ ?_
    split
    · exact inR_any _
    · exact h
/-- sets are small -/
theorem bOr_cc : ∀ a, a < 256 → ∀ p, p < 8 → 0 ≤ (Int32.ofInt ((a : Nat) : Int) ||| Int32.ofInt (Int32.ofInt 1 <<< (Int32.ofInt ((p : Nat) : Int) &&& 31)).toInt).toInt ∧ (Int32.ofInt ((a : Nat) : Int) ||| Int32.ofInt (Int32.ofInt 1 <<< (Int32.ofInt ((p : Nat) : Int) &&& 31)).toInt).toInt < 256 := by decide +kernel
theorem bOr_le {a p : Int} (ha : 0 ≤ a ∧ a < 256) (hp : 0 ≤ p ∧ p < 8) : 0 ≤ bOr a (bShl 1 p) ∧ bOr a (bShl 1 p) < 256 := by
  have h := bOr_cc a.toNat (by omega) p.toNat (by omega)
  rw [show ((a.toNat : Nat) : Int) = a by omega, show ((p.toNat : Nat) : Int) = p by omega] at h
  exact h
theorem lset_le (P : Int → Bool) : ∀ (n : Nat) (p a : Int), 0 ≤ p → p + n ≤ 8 → (0 ≤ a ∧ a < 256) → 0 ≤ lset P n p a ∧ lset P n p a < 256 := by
  intro n
  induction n with
  | zero => intro p a _ _ h; exact h
  | succ n ih =>
    intro p a h0 h8 h
    refine ih (p + 1) _ (by omega) (by omega) ?_
    split
    · exact bOr_le h ⟨h0, by omega⟩
    · exact h
theorem slp_le {b : Int} {r : Row} (h : IR b r) : 0 ≤ slp r ∧ slp r < 256 := lset_le _ _ 0 0 (by omega) (by have := h.1; omega) (by omega)
theorem pss_le {b : Int} {r : Row} (h : IR b r) : 0 ≤ pss r ∧ pss r < 256 := lset_le _ _ 0 0 (by omega) (by have := h.2.1; omega) (by omega)
theorem wsm_le {b : Int} {r : Row} (h : IR b r) : 0 ≤ wsm r ∧ wsm r ≤ 792 := by
  have h0 := h.1
  have := lsum_le (f := wnt r) (c := 99) (by omega) (r 0).toNat 0 0 (fun q a c => by have := h.2.2.2.2.2.2 q a (by omega); unfold wnt; omega)
  unfold wsm
  omega
theorem ssm_le {b : Int} {r : Row} (h : IR b r) : 0 ≤ ssm r ∧ ssm r ≤ 79992 := by
  have h0 := h.1
  have := lsum_le (f := sen r) (c := 9999) (by omega) (r 0).toNat 0 0 (fun q a c => by have := h.2.2.2.2.2.2 q a (by omega); unfold sen; omega)
  unfold ssm
  omega
theorem wal_le {b : Int} {r : Row} (h : IR b r) : 0 ≤ wal r ∧ wal r ≤ 594 := by
  have h0 := h.2.1
  have := lsum_le (f := fun m => r (6 + 2 * m)) (c := 99) (by omega) (r 1).toNat 0 0 (fun q a c => by have := h.2.2.2.2.2.1 q a (by omega); show 0 ≤ r (6 + 2 * q) ∧ r (6 + 2 * q) ≤ 99; omega)
  unfold wal
  omega
theorem bit0 : ∀ m, m < 6 → ¬ (Int32.ofInt ((Int32.ofInt 0 >>> (Int32.ofInt ((m : Nat) : Int) &&& 31)).toInt) &&& Int32.ofInt 1).toInt = 1 := by decide +kernel
theorem wwo_0 {r : Row} {m : Int} (h0 : 0 ≤ m) (h6 : m < 6) : wwo r 0 m = r (6 + 2 * m) := by
  have h := bit0 m.toNat (by omega)
  rw [show ((m.toNat : Nat) : Int) = m by omega] at h
  unfold wwo
  exact if_neg h
theorem wwo_wal {b : Int} {r : Row} (h : IR b r) : lsum (wwo r 0) (r 1).toNat 0 0 = wal r := by
  have h1 := h.2.1
  exact lsum_congr _ _ _ (fun q a c => wwo_0 a (by omega))
theorem q_v {G : GX} {M : MI} {pc : Nat} {L : LL} {S : St} {a v : Int} (e : a = v) (hx : -1000000000 ≤ a) (hr : M.2.2.2.1 = some .int) (hd : decode M.2.1 pc = .ok (.ireturn, 1)) : Rn G M pc L [vi a] (mk G S) (some (vi v)) (mk G (va_up S 5 (tl (S 5) v))) :=
  p_iret hr hd (congrArg (fun z => some (vi z)) e) (fin_v (by omega))
theorem q_g {G : GX} {M : MI} {pc : Nat} {L : LL} {S : St} {a v : Int} {X r : Row} (e : a = v) (hx : -1000000000 ≤ a) (er : X = r) (hr : M.2.2.2.1 = some .int) (hd : decode M.2.1 pc = .ok (.ireturn, 1)) : Rn G M pc L [vi a] (mk G (va_up S 0 X)) (some (vi v)) (mk G (va_up (va_up S 5 (tl (S 5) v)) 0 r)) :=
  p_iret hr hd (congrArg (fun z => some (vi z)) e) (fin_g (by omega) er.symm)
theorem q_t {G : GX} {M : MI} {pc : Nat} {L : LL} {S : St} {a v : Int} {r : Row} (e : a = v) (hx : -1000000000 ≤ a) (hr : M.2.2.2.1 = some .int) (hd : decode M.2.1 pc = .ok (.ireturn, 1)) : Rn G M pc L [vi a] (mk G (va_up S 1 r)) (some (vi v)) (mk G (va_up (va_up S 1 r) 5 (tl (S 5) v))) :=
  p_iret hr hd (congrArg (fun z => some (vi z)) e) (fin_s1 (by omega))
theorem q_fv {G : GX} {M : MI} {pc : Nat} {L : LL} {S : St} {a v : Int} (e : a = v) (hr : M.2.2.2.1 = some .int) (hd : decode M.2.1 pc = .ok (.ireturn, 1)) : Rn G M pc L [vi a] (mk G (va_up S 5 (tl (S 5) a))) (some (vi v)) (mk G (va_up S 5 (tl (S 5) v))) :=
  p_iret hr hd (congrArg (fun z => some (vi z)) e) (by rw [e])
theorem q_fg {G : GX} {M : MI} {pc : Nat} {L : LL} {S : St} {a v : Int} {r : Row} (e : a = v) (er : S 0 = r) (hr : M.2.2.2.1 = some .int) (hd : decode M.2.1 pc = .ok (.ireturn, 1)) : Rn G M pc L [vi a] (mk G (va_up S 5 (tl (S 5) a))) (some (vi v)) (mk G (va_up (va_up S 5 (tl (S 5) v)) 0 r)) :=
  p_iret hr hd (congrArg (fun z => some (vi z)) e) (fin_b e.symm er.symm)
theorem q_ft {G : GX} {M : MI} {pc : Nat} {L : LL} {S : St} {a v : Int} {r : Row} (e : a = v) (hr : M.2.2.2.1 = some .int) (hd : decode M.2.1 pc = .ok (.ireturn, 1)) : Rn G M pc L [vi a] (mk G (va_up (va_up S 1 r) 5 (tl (S 5) a))) (some (vi v)) (mk G (va_up (va_up S 1 r) 5 (tl (S 5) v))) :=
  p_iret hr hd (congrArg (fun z => some (vi z)) e) (by rw [e])
