/-! tape, sheets, images -/
theorem bAnd255 (x : Int) : 0 ≤ bAnd x 255 ∧ bAnd x 255 ≤ 255 := by
  have e : Int32.ofInt x &&& Int32.ofInt 255 = nI ((Int32.ofInt x).toBitVec.toNat % 2 ^ 8) := pk_and (Int32.ofInt x) (m := Int32.ofInt 255) 8 (by decide)
  unfold bAnd
  rw [e, nI_toInt (by omega)]
  omega
def fdL (by_ : Int) : Nat → Row → Int → Row
  | 0, t, _ => t
  | k + 1, t, l => fdL by_ k (uz t l (bAnd (bShr by_ (8 * k)) 255)) (l + 1)
def v_feed (l n : Int) : Int := if 1 ≤ n ∧ n ≤ 4 then (if l + n ≤ 120 then l + n else -1000000002) else -1000000001
def t_feed (t : Row) (l by_ n : Int) : Row := if (1 ≤ n ∧ n ≤ 4) ∧ l + n ≤ 120 then fdL by_ n.toNat t l else t
def l_feed (l n : Int) : Int := if (1 ≤ n ∧ n ≤ 4) ∧ l + n ≤ 120 then l + n else l
def v_count (r : Row) (l w : Int) : Int := if w = 0 then r 0 else if w = 1 then r 1 else if w = 2 then l else if w = 3 then ssm r else -1000000001
def v_status (t : Row) (w : Int) : Int := if w = -1 then lsum t 7 0 0 else if 0 ≤ w ∧ w ≤ 6 then t w else -1000000001
abbrev okS (s b n : Int) : Prop := ((0 ≤ s ∧ s ≤ 3) ∧ (b = 0 ∨ b = 8 ∨ b = 16 ∨ b = 64)) ∧ 0 ≤ n ∧ n ≤ 40
def v_sheet (s b n : Int) : Int := if (0 ≤ s ∧ s ≤ 3) ∧ (b = 0 ∨ b = 8 ∨ b = 16 ∨ b = 64) then (if n < 0 then -1000000007 else if 40 < n then -1000000001 else if b = 0 then 0 else n) else -1000000001
def mS (bi : Row) (s : Int) : Int := if 0 ≤ s ∧ s ≤ 3 then (if bi s = 0 then -1000000006 else 0) else -1000000001
def v_write (bi le nu : Row) (s i : Int) : Int := if mS bi s = 0 then (if 0 ≤ i ∧ i < le s then nu (40 * s + i) else -1000000001) else mS bi s
def t_write (t bi le : Row) (s i : Int) : Row := if mS bi s = 0 then (if 0 ≤ i ∧ i < le s then t else tl t (-1000000001)) else tl t (mS bi s)
def n_write (bi le nu : Row) (s i v : Int) : Row := if mS bi s = 0 ∧ 0 ≤ i ∧ i < le s then uz nu (40 * s + i) (nr (bi s) v) else nu
def cpz (f g : Int → Int) (z d k : Int) : Int → Int := fun i => if d ≤ i ∧ i < d + k then f (z + (i - d)) else g i
abbrev okC (bi le : Row) (s f t o n : Int) : Prop := ((0 ≤ s ∧ s ≤ 3) ∧ (0 ≤ t ∧ t ≤ 3)) ∧ ¬ (bi s = 0 ∨ bi t = 0) ∧ bi s = bi t ∧ 0 ≤ f ∧ 0 ≤ o ∧ 0 ≤ n ∧ f + n ≤ le s ∧ o + n ≤ le t
def v_copy (bi le : Row) (s f t o n : Int) : Int := if (0 ≤ s ∧ s ≤ 3) ∧ (0 ≤ t ∧ t ≤ 3) then (if bi s = 0 ∨ bi t = 0 then -1000000006 else if bi s = bi t then (if 0 ≤ f ∧ 0 ≤ o ∧ 0 ≤ n ∧ f + n ≤ le s ∧ o + n ≤ le t then n else -1000000001) else -1000000003) else -1000000001
def n_copy (bi le nu : Row) (s f t o n : Int) : Row := if okC bi le s f t o n then cpz nu nu (40 * s + f) (40 * t + o) n else nu
def lyL (f : Int → Int) : Nat → Int → Row → Int → Row × Int
  | 0, _, r, c => (r, c)
  | n + 1, k, r, c => if 0 ≤ f k ∧ f k ≤ 99 then lyL f n (k + 1) (uz r (18 + 3 * k) (f k)) (c + 1) else lyL f n (k + 1) r c
def lyn (r le : Row) (s : Int) : Nat := (if le s < r 0 then le s else r 0).toNat
def v_lays (r bi le nu : Row) (s : Int) : Int := if mS bi s = 0 then (lyL (fun k => nu (40 * s + k)) (lyn r le s) 0 r 0).2 else mS bi s
def r_lays (r bi le nu : Row) (s : Int) : Row := if mS bi s = 0 then (lyL (fun k => nu (40 * s + k)) (lyn r le s) 0 r 0).1 else r
def mB (r bi : Row) (s p : Int) : Int := if mS bi s = 0 then (if 0 ≤ p ∧ p < r 0 then 0 else -1000000001) else mS bi s
def bkL (b p s : Int) : Nat → Int → Row → Row → Row
  | 0, _, _, f => f
  | n + 1, i, t, f => bkL b p s n (i + 1) (minR t) (uz f (40 * s + i) (nr b (t (18 + 3 * p))))
def v_book (r bi le : Row) (s p : Int) : Int := if mB r bi s p = 0 then le s else mB r bi s p
def n_book (r bi le nu : Row) (s p : Int) : Row := if mB r bi s p = 0 then bkL (bi s) p s (le s).toNat 0 r nu else nu
def seL (f : Int → Int) (p : Int) : Nat → Int → Row → Bool × Row
  | 0, _, t => (true, t)
  | n + 1, i, t => if f i = t (19 + 3 * p) then seL f p n (i + 1) (minR t) else (false, t)
def rdQ (r : Row) (p j : Int) : Row := uz (uz r (17 + 3 * p) (j / 100)) (18 + 3 * p) (j % 100)
def rdG (f : Int → Int) (l : Nat) (r : Row) (p j : Int) : Int := if (seL f p l 0 (rdQ r p j)).1 = true then 1 else 0
def rdL (f : Int → Int) (l : Nat) (r : Row) (p : Int) : Nat → Int → Int × Row → Int × Row
  | 0, _, a => a
  | n + 1, j, a => rdL f l r p n (j + 1) (a.1 + rdG f l r p j, (seL f p l 0 (rdQ r p j)).2)
def v_read (r bi le nu : Row) (s p : Int) : Int := if mB r bi s p = 0 then lsum (rdG (fun k => nu (40 * s + k)) (le s).toNat r p) 600 0 0 else mB r bi s p
def v_undo (k : Int) (kr : Row) : Int := if k = 0 then -1000000004 else kr 0
def r_undo (k : Int) (r kr : Row) : Row := if k = 0 then r else kr
def v_tear (k : Int) : Int := if k = 0 then 0 else 1
theorem rdL_1 (f : Int → Int) (l : Nat) (r : Row) (p : Int) : ∀ (n : Nat) (j : Int) (a : Int × Row), (rdL f l r p n j a).1 = lsum (rdG f l r p) n j a.1 := by
  intro n
  induction n with
  | zero => intro j a; rfl
  | succ n ih => intro j a; rw [rdL, lsum, ih]
theorem seL_IR (f : Int → Int) (p : Int) : ∀ (n : Nat) (i : Int) {b : Int} {t : Row}, IR b t → IR (b + n) (seL f p n i t).2 := by
  intro n
  induction n with
  | zero => intro i b t h; exact h.mono (by omega)
  | succ n ih =>
    intro i b t h
    rw [seL]
    split
    · exact (ih (i + 1) h.minR).mono (by omega)
    · exact h.mono (by omega)
