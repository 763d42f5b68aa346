/-! pure words -/
def IR (b : Int) (r : Row) : Prop := (0 ≤ r 0 ∧ r 0 ≤ 8) ∧ (0 ≤ r 1 ∧ r 1 ≤ 6) ∧ (0 ≤ r 2 ∧ r 2 ≤ b) ∧ (-1 ≤ r 3 ∧ r 3 ≤ 7) ∧ (0 ≤ r 4 ∧ (r 4 < r 1 ∨ r 4 = 0)) ∧
  (∀ m : Int, 0 ≤ m → m < 6 → 0 ≤ r (5 + 2 * m) ∧ r (5 + 2 * m) ≤ 7 ∧ 0 ≤ r (6 + 2 * m) ∧ r (6 + 2 * m) ≤ 99) ∧
  (∀ p : Int, 0 ≤ p → p < 8 → 0 ≤ r (17 + 3 * p) ∧ r (17 + 3 * p) ≤ 5 ∧ 0 ≤ r (18 + 3 * p) ∧ r (18 + 3 * p) ≤ 99 ∧ 0 ≤ r (19 + 3 * p) ∧ r (19 + 3 * p) ≤ 9999)
theorem IR.mono {a b : Int} {r : Row} (h : IR a r) (hab : a ≤ b) : IR b r := ⟨h.1, h.2.1, ⟨h.2.2.1.1, by have := h.2.2.1.2; omega⟩, h.2.2.2⟩
theorem vup_same (S : St) (c : Nat) : va_up S c (S c) = S := by
  funext k
  by_cases h : k = c
  · subst h; rw [va_up_self]
  · rw [va_up_ne _ _ h]
theorem vup_up (S : St) (c : Nat) (a b : Row) : va_up (va_up S c a) c b = va_up S c b := by
  funext k
  by_cases h : k = c
  · subst h; rw [va_up_self, va_up_self]
  · rw [va_up_ne _ _ h, va_up_ne _ _ h, va_up_ne _ _ h]
theorem vup_swap (S : St) {c d : Nat} (h : c ≠ d) (a b : Row) : va_up (va_up S c a) d b = va_up (va_up S d b) c a := by
  funext k
  by_cases h1 : k = c
  · subst h1; rw [va_up_ne _ _ h, va_up_self, va_up_self]
  · by_cases h2 : k = d
    · subst h2; rw [va_up_self, va_up_ne _ _ h1, va_up_self]
    · rw [va_up_ne _ _ h2, va_up_ne _ _ h1, va_up_ne _ _ h1, va_up_ne _ _ h2]
theorem uz_same (r : Row) (k : Int) : uz r k (r k) = r := by
  funext j
  by_cases h : j = k
  · subst h; rw [uz_self]
  · rw [uz_ne _ _ h]
theorem uz_uz (r : Row) (k a b : Int) : uz (uz r k a) k b = uz r k b := by
  funext j
  by_cases h : j = k
  · subst h; rw [uz_self, uz_self]
  · rw [uz_ne _ _ h, uz_ne _ _ h, uz_ne _ _ h]
theorem uz_swap (r : Row) {k l : Int} (h : k ≠ l) (a b : Int) : uz (uz r k a) l b = uz (uz r l b) k a := by
  funext j
  by_cases h1 : j = k
  · subst h1; rw [uz_ne _ _ h, uz_self, uz_self]
  · by_cases h2 : j = l
    · subst h2; rw [uz_self, uz_ne _ _ h1, uz_self]
    · rw [uz_ne _ _ h2, uz_ne _ _ h1, uz_ne _ _ h1, uz_ne _ _ h2]
/-- findings are counted -/
def tl (t : Row) (v : Int) : Row := if v < -1000000000 then uz t (-1000000001 - v) (t (-1000000001 - v) + 1) else t
theorem tl_no {t : Row} {v : Int} (h : -1000000000 ≤ v) : tl t v = t := by unfold tl; rw [if_neg (by omega)]
theorem tl_yes {t : Row} {v : Int} (h : v < -1000000000) : tl t v = uz t (-1000000001 - v) (t (-1000000001 - v) + 1) := by unfold tl; rw [if_pos h]
/-- how many of six bits -/
def pcn (x : Int) : Int := x % 2 + (x / 2) % 2 + (x / 4) % 2 + (x / 8) % 2 + (x / 16) % 2 + (x / 32) % 2
def un (g l : Int) : Int := if l = -1 then 3 else pcn (bXor g l)
def stk (g : Int) : Int := if bAnd g 2 = 0 then 0 else 1
def dgk (g : Int) : Int := if bAnd g 1 = 0 then 0 else 2
def tk (k g u m : Int) : Int :=
  if k = 1 then 1 + u + stk g else if k = 2 then 2 * (1 + u) else if k = 3 then (if u = 0 then 0 else 1 + u) else if k = 4 then 1 + u + stk g - m % 2 else if k = 5 then (if u = 0 then 0 else 1 + u) + dgk g else 1 + u
theorem pcn_le (x : Int) : 0 ≤ pcn x ∧ pcn x ≤ 6 := by unfold pcn; omega
theorem un_le (g l : Int) : 0 ≤ un g l ∧ un g l ≤ 6 := by
  unfold un; split
  · omega
  · exact pcn_le _
theorem stk_le (g : Int) : 0 ≤ stk g ∧ stk g ≤ 1 := by unfold stk; split <;> omega
theorem dgk_le (g : Int) : 0 ≤ dgk g ∧ dgk g ≤ 2 := by unfold dgk; split <;> omega
theorem tk_le {k g u m : Int} (hu : 0 ≤ u ∧ u ≤ 6) : 0 ≤ tk k g u m ∧ tk k g u m ≤ 20 := by
  have h1 := stk_le g
  have h2 := dgk_le g
  have h3 : 0 ≤ m % 2 ∧ m % 2 < 2 := by omega
  unfold tk
  split
  · omega
  · split
    · omega
    · split
      · split <;> omega
      · split
        · omega
        · split
          · split <;> omega
          · omega
theorem bXor_cc : ∀ a, a < 8 → ∀ b, b < 8 → (Int32.ofInt ((a : Nat) : Int) ^^^ Int32.ofInt ((b : Nat) : Int)).toInt < 8 ∧ 0 ≤ (Int32.ofInt ((a : Nat) : Int) ^^^ Int32.ofInt ((b : Nat) : Int)).toInt := by decide +kernel
theorem bXor_le {a b : Int} (ha : 0 ≤ a ∧ a ≤ 7) (hb : 0 ≤ b ∧ b ≤ 7) : 0 ≤ bXor a b ∧ bXor a b ≤ 7 := by
  have h := bXor_cc a.toNat (by omega) b.toNat (by omega)
  rw [show ((a.toNat : Nat) : Int) = a by omega, show ((b.toNat : Nat) : Int) = b by omega] at h
  unfold bXor
  omega
theorem bAnd_in (a b : Int) : inR (bAnd a b) := inR_any _
theorem bOr_in (a b : Int) : inR (bOr a b) := inR_any _
theorem bXor_in (a b : Int) : inR (bXor a b) := inR_any _
theorem bShl_in (a b : Int) : inR (bShl a b) := inR_any _
theorem bShr_in (a b : Int) : inR (bShr a b) := inR_any _
theorem bAnd_lo (m : Int) (h : 0 ≤ m) (h2 : m ≤ 2147483647) : bAnd m 1 = m % 2 := by
  have e : Int32.ofInt m &&& Int32.ofInt 1 = nI ((Int32.ofInt m).toBitVec.toNat % 2 ^ 1) := pk_and (Int32.ofInt m) (m := Int32.ofInt 1) 1 (by decide)
  have e2 : (Int32.ofInt m).toBitVec.toNat = m.toNat := by
    have e3 : Int32.ofInt m = nI m.toNat := by
      unfold nI
      rw [← Int32.ofInt_eq_ofNat, show ((m.toNat : Nat) : Int) = m by omega]
    rw [e3]
    exact pk_tn (by omega)
  unfold bAnd
  rw [e, e2, nI_toInt (by omega)]
  omega
