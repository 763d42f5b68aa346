/-! the minutes -/
def mx0 (x : Int) : Int := if 0 < x then x else 0
def mn (c x : Int) : Int := if x < c then x else c
theorem mx0_le {x : Int} : 0 ≤ mx0 x := by unfold mx0; split <;> omega
theorem mn_le {c x : Int} : mn c x ≤ c ∧ mn c x ≤ x := by unfold mn; split <;> omega
def lsum (f : Int → Int) : Nat → Int → Int → Int
  | 0, _, a => a
  | n + 1, p, a => lsum f n (p + 1) (a + f p)
theorem lsum_congr {f g : Int → Int} : ∀ (n : Nat) (p a : Int), (∀ q, p ≤ q → q < p + n → f q = g q) → lsum f n p a = lsum g n p a := by
  intro n
  induction n with
  | zero => intro p a h; rfl
  | succ n ih =>
    intro p a h
    rw [lsum, lsum, h p (by omega) (by omega)]
    exact ih (p + 1) _ (fun q h1 h2 => h q (by omega) (by omega))
theorem lsum_le {f : Int → Int} {c : Int} (hc : 0 ≤ c) : ∀ (n : Nat) (p a : Int), (∀ q, p ≤ q → q < p + n → 0 ≤ f q ∧ f q ≤ c) → a ≤ lsum f n p a ∧ lsum f n p a ≤ a + c * n := by
  intro n
  induction n with
  | zero => intro p a h; rw [lsum]; omega
  | succ n ih =>
    intro p a h
    have h1 := ih (p + 1) (a + f p) (fun q h1 h2 => h q (by omega) (by omega))
    have h2 := h p (by omega) (by omega)
    rw [lsum]
    have e : c * ((n + 1 : Nat) : Int) = c * n + c := by rw [Int.natCast_succ, Int.mul_add, Int.mul_one]
    omega
theorem lsum_acc {f : Int → Int} : ∀ (n : Nat) (p a : Int), lsum f n p a = a + lsum f n p 0 := by
  intro n
  induction n with
  | zero => intro p a; rw [lsum, lsum]; omega
  | succ n ih => intro p a; rw [lsum, lsum, ih (p + 1) (a + f p), ih (p + 1) (0 + f p)]; omega
/-- sets -/
def lset (P : Int → Bool) : Nat → Int → Int → Int
  | 0, _, a => a
  | n + 1, p, a => lset P n (p + 1) (if P p then bOr a (bShl 1 p) else a)
theorem bOr_0 {a : Int} (h : inR a) : bOr a 0 = a := by
  unfold bOr
  have e : Int32.ofInt a ||| Int32.ofInt 0 = Int32.ofInt a := by
    show Int32.ofInt a ||| 0 = Int32.ofInt a
    simp
  rw [e]
  exact i32_toInt h
def wnt (r : Row) : Int → Int := fun p => r (18 + 3 * p)
def sen (r : Row) : Int → Int := fun p => r (19 + 3 * p)
def wsm (r : Row) : Int := lsum (wnt r) (r 0).toNat 0 0
def ssm (r : Row) : Int := lsum (sen r) (r 0).toNat 0 0
def slp (r : Row) : Int := lset (fun p => decide (r (18 + 3 * p) = 0)) (r 0).toNat 0 0
def pss (r : Row) : Int := lset (fun m => decide (r (6 + 2 * m) < 99)) (r 1).toNat 0 0
/-- a passing -/
def stp (g u : Int) (r : Row) (p : Int) : Row := if r (18 + 3 * p) = 0 then r else uz (uz r (18 + 3 * p) (mx0 (r (18 + 3 * p) - tk (r (17 + 3 * p)) g u (r 2)))) (19 + 3 * p) (mn 9999 (r (19 + 3 * p) + 1))
def tir (r : Row) (p : Int) : Int := if r (18 + 3 * p) = 0 then 0 else tT (r (17 + 3 * p))
def pasL (g u : Int) : Nat → Int → Row → Int → Row × Int
  | 0, _, r, w => (r, w)
  | n + 1, p, r, w => pasL g u n (p + 1) (stp g u r p) (w + tir r p)
def passR (m : Int) (r : Row) : Row :=
  uz (uz (pasL (r (5 + 2 * m)) (un (r (5 + 2 * m)) (r 3)) (r 0).toNat 0 r (r (6 + 2 * m))).1 (6 + 2 * m) (mn 99 (pasL (r (5 + 2 * m)) (un (r (5 + 2 * m)) (r 3)) (r 0).toNat 0 r (r (6 + 2 * m))).2)) 3 (r (5 + 2 * m))
def nobL : Nat → Int → Row → Row
  | 0, _, r => r
  | n + 1, p, r => nobL n (p + 1) (uz r (18 + 3 * p) (mn 99 (r (18 + 3 * p) + tW (r (17 + 3 * p)))))
def nobR (r : Row) : Row := uz (nobL (r 0).toNat 0 r) 3 (-1)
def goR (r : Row) : Row := if 0 < r 1 ∧ r (6 + 2 * r 4) < 99 then passR (r 4) r else nobR r
def endR (q : Row) : Row := uz (uz q 4 (if q 4 + 1 < q 1 then q 4 + 1 else 0)) 2 (q 2 + 1)
def minR (r : Row) : Row := endR (goR r)
def minsR : Nat → Row → Row
  | 0, r => r
  | n + 1, r => minsR n (minR r)
def ft (P : Row → Bool) : Nat → Int → Row → Int × Row
  | 0, i, r => (i, r)
  | n + 1, i, r => if P r = true then (i, r) else ft P n (i + 1) (minR r)
def aq : Nat → Int → Row → Bool
  | 0, _, _ => true
  | n + 1, p, r => if r (18 + 3 * p) = 0 then aq n (p + 1) r else false
def qt (r : Row) : Bool := aq (r 0).toNat 0 r
def at_ (w v : Int) (r : Row) : Bool := decide (r w = v)
/-- what keeps IR -/
theorem IR.u2 {b v : Int} {r : Row} (h : IR b r) (hv : 0 ≤ v ∧ v ≤ b + 1) : IR (b + 1) (uz r 2 v) := by
  obtain ⟨h0, h1, h2, h3, h4, h5, h6⟩ := h
  refine ⟨?_, ?_, ?_, ?_, ?_, fun m a c => ?_, fun p a c => ?_⟩
  · rw [uz_ne _ _ (by omega)]; exact h0
  · rw [uz_ne _ _ (by omega)]; exact h1
  · rw [uz_self]; exact hv
  · rw [uz_ne _ _ (by omega)]; exact h3
  · rw [uz_ne _ _ (by omega), uz_ne _ _ (by omega)]; exact h4
  · rw [uz_ne _ _ (by omega), uz_ne _ _ (by omega)]; exact h5 m a c
  · rw [uz_ne _ _ (by omega), uz_ne _ _ (by omega), uz_ne _ _ (by omega)]; exact h6 p a c
theorem IR.u3 {b v : Int} {r : Row} (h : IR b r) (hv : -1 ≤ v ∧ v ≤ 7) : IR b (uz r 3 v) := by
  obtain ⟨h0, h1, h2, h3, h4, h5, h6⟩ := h
  refine ⟨?_, ?_, ?_, ?_, ?_, fun m a c => ?_, fun p a c => ?_⟩
  · rw [uz_ne _ _ (by omega)]; exact h0
  · rw [uz_ne _ _ (by omega)]; exact h1
  · rw [uz_ne _ _ (by omega)]; exact h2
  · rw [uz_self]; exact hv
  · rw [uz_ne _ _ (by omega), uz_ne _ _ (by omega)]; exact h4
  · rw [uz_ne _ _ (by omega), uz_ne _ _ (by omega)]; exact h5 m a c
  · rw [uz_ne _ _ (by omega), uz_ne _ _ (by omega), uz_ne _ _ (by omega)]; exact h6 p a c
theorem IR.u4 {b v : Int} {r : Row} (h : IR b r) (hv : 0 ≤ v ∧ (v < r 1 ∨ v = 0)) : IR b (uz r 4 v) := by
  obtain ⟨h0, h1, h2, h3, h4, h5, h6⟩ := h
  refine ⟨?_, ?_, ?_, ?_, ?_, fun m a c => ?_, fun p a c => ?_⟩
  · rw [uz_ne _ _ (by omega)]; exact h0
  · rw [uz_ne _ _ (by omega)]; exact h1
  · rw [uz_ne _ _ (by omega)]; exact h2
  · rw [uz_ne _ _ (by omega)]; exact h3
  · rw [uz_self, uz_ne _ _ (by omega)]; exact hv
  · rw [uz_ne _ _ (by omega), uz_ne _ _ (by omega)]; exact h5 m a c
  · rw [uz_ne _ _ (by omega), uz_ne _ _ (by omega), uz_ne _ _ (by omega)]; exact h6 p a c
theorem IR.u0 {b v : Int} {r : Row} (h : IR b r) (hv : 0 ≤ v ∧ v ≤ 8) : IR b (uz r 0 v) := by
  obtain ⟨h0, h1, h2, h3, h4, h5, h6⟩ := h
  refine ⟨?_, ?_, ?_, ?_, ?_, fun m a c => ?_, fun p a c => ?_⟩
  · rw [uz_self]; exact hv
  · rw [uz_ne _ _ (by omega)]; exact h1
  · rw [uz_ne _ _ (by omega)]; exact h2
  · rw [uz_ne _ _ (by omega)]; exact h3
  · rw [uz_ne _ _ (by omega), uz_ne _ _ (by omega)]; exact h4
  · rw [uz_ne _ _ (by omega), uz_ne _ _ (by omega)]; exact h5 m a c
  · rw [uz_ne _ _ (by omega), uz_ne _ _ (by omega), uz_ne _ _ (by omega)]; exact h6 p a c
theorem IR.u1 {b v : Int} {r : Row} (h : IR b r) (hv : 0 ≤ v ∧ v ≤ 6) (ht : r 4 < v ∨ r 4 = 0) : IR b (uz r 1 v) := by
  obtain ⟨h0, h1, h2, h3, h4, h5, h6⟩ := h
  refine ⟨?_, ?_, ?_, ?_, ?_, fun m a c => ?_, fun p a c => ?_⟩
  · rw [uz_ne _ _ (by omega)]; exact h0
  · rw [uz_self]; exact hv
  · rw [uz_ne _ _ (by omega)]; exact h2
  · rw [uz_ne _ _ (by omega)]; exact h3
  · rw [uz_self, uz_ne _ _ (by omega)]; exact ⟨h4.1, ht⟩
  · rw [uz_ne _ _ (by omega), uz_ne _ _ (by omega)]; exact h5 m a c
  · rw [uz_ne _ _ (by omega), uz_ne _ _ (by omega), uz_ne _ _ (by omega)]; exact h6 p a c
theorem IR.um {b v k : Int} {r : Row} (h : IR b r) (hk : 5 ≤ k ∧ k < 17) (hv : 0 ≤ v) (hg : k % 2 = 1 → v ≤ 7) (hw : k % 2 = 0 → v ≤ 99) : IR b (uz r k v) := by
  obtain ⟨h0, h1, h2, h3, h4, h5, h6⟩ := h
  refine ⟨?_, ?_, ?_, ?_, ?_, fun m a c => ?_, fun p a c => ?_⟩
  · rw [uz_ne _ _ (by omega)]; exact h0
  · rw [uz_ne _ _ (by omega)]; exact h1
  · rw [uz_ne _ _ (by omega)]; exact h2
  · rw [uz_ne _ _ (by omega)]; exact h3
  · rw [uz_ne _ _ (by omega), uz_ne _ _ (by omega)]; exact h4
  · have h7 := h5 m a c
    unfold uz
    by_cases e1 : 5 + 2 * m = k
    · rw [if_pos e1, if_neg (by omega)]; have := hg (by omega); omega
    · by_cases e2 : 6 + 2 * m = k
      · rw [if_neg e1, if_pos e2]; have := hw (by omega); omega
      · rw [if_neg e1, if_neg e2]; exact h7
  · rw [uz_ne _ _ (by omega), uz_ne _ _ (by omega), uz_ne _ _ (by omega)]; exact h6 p a c
theorem IR.up {b v k : Int} {r : Row} (h : IR b r) (hk : 17 ≤ k) (hv : 0 ≤ v) (h0k : k % 3 = 2 → v ≤ 5) (h1k : k % 3 = 0 → v ≤ 99) (h2k : k % 3 = 1 → v ≤ 9999) : IR b (uz r k v) := by
  obtain ⟨h0, h1, h2, h3, h4, h5, h6⟩ := h
  refine ⟨?_, ?_, ?_, ?_, ?_, fun m a c => ?_, fun p a c => ?_⟩
  · rw [uz_ne _ _ (by omega)]; exact h0
  · rw [uz_ne _ _ (by omega)]; exact h1
  · rw [uz_ne _ _ (by omega)]; exact h2
  · rw [uz_ne _ _ (by omega)]; exact h3
  · rw [uz_ne _ _ (by omega), uz_ne _ _ (by omega)]; exact h4
  · rw [uz_ne _ _ (by omega), uz_ne _ _ (by omega)]; exact h5 m a c
  · have h7 := h6 p a c
    unfold uz
    by_cases e1 : 17 + 3 * p = k
    · rw [if_pos e1, if_neg (by omega), if_neg (by omega)]; have := h0k (by omega); omega
    · by_cases e2 : 18 + 3 * p = k
      · rw [if_neg e1, if_pos e2, if_neg (by omega)]; have := h1k (by omega); omega
      · by_cases e3 : 19 + 3 * p = k
        · rw [if_neg e1, if_neg e2, if_pos e3]; have := h2k (by omega); omega
        · rw [if_neg e1, if_neg e2, if_neg e3]; exact h7
theorem IR.wants {b v p : Int} {r : Row} (h : IR b r) (hp : 0 ≤ p) (hv : 0 ≤ v ∧ v ≤ 99) : IR b (uz r (18 + 3 * p) v) := h.up (by omega) hv.1 (by omega) (by omega) (by omega)
theorem IR.seen {b v p : Int} {r : Row} (h : IR b r) (hp : 0 ≤ p) (hv : 0 ≤ v ∧ v ≤ 9999) : IR b (uz r (19 + 3 * p) v) := h.up (by omega) hv.1 (by omega) (by omega) (by omega)
theorem IR.kind {b v p : Int} {r : Row} (h : IR b r) (hp : 0 ≤ p) (hv : 0 ≤ v ∧ v ≤ 5) : IR b (uz r (17 + 3 * p) v) := h.up (by omega) hv.1 (by omega) (by omega) (by omega)
theorem IR.guise {b v m : Int} {r : Row} (h : IR b r) (hm : 0 ≤ m ∧ m < 6) (hv : 0 ≤ v ∧ v ≤ 7) : IR b (uz r (5 + 2 * m) v) := h.um (by omega) hv.1 (by omega) (by omega)
theorem IR.wear {b v m : Int} {r : Row} (h : IR b r) (hm : 0 ≤ m ∧ m < 6) (hv : 0 ≤ v ∧ v ≤ 99) : IR b (uz r (6 + 2 * m) v) := h.um (by omega) hv.1 (by omega) (by omega)
theorem tT_le (k : Int) : 0 ≤ tT k ∧ tT k ≤ 2 := by unfold tT; split <;> (try split) <;> omega
theorem tW_le (k : Int) : 0 ≤ tW k ∧ tW k ≤ 2 := by unfold tW; split <;> (try split) <;> (try split) <;> omega
theorem tir_le (r : Row) (p : Int) : 0 ≤ tir r p ∧ tir r p ≤ 2 := by
  unfold tir; split
  · omega
  · exact tT_le _
theorem stp_lo (g u : Int) (r : Row) {p i : Int} (hp : 0 ≤ p) (hi : i < 18) : stp g u r p i = r i := by
  unfold stp; split
  · rfl
  · rw [uz_ne _ _ (by omega), uz_ne _ _ (by omega)]
theorem stp_k (g u : Int) (r : Row) {p q : Int} (hp : 0 ≤ p) : stp g u r p (17 + 3 * q) = r (17 + 3 * q) := by
  unfold stp; split
  · rfl
  · rw [uz_ne _ _ (by omega), uz_ne _ _ (by omega)]
theorem IR.stp {b g u p : Int} {r : Row} (h : IR b r) (hp : 0 ≤ p ∧ p < 8) (hu : 0 ≤ u ∧ u ≤ 6) : IR b (stp g u r p) := by
  have h7 := h.2.2.2.2.2.2 p hp.1 hp.2
  have ht := tk_le (k := r (17 + 3 * p)) (g := g) (m := r 2) hu
  unfold _root_.Jvm.Pilot.@@N@@.stp
  split
  · exact h
  · refine (h.wants hp.1 ⟨mx0_le, ?_⟩).seen hp.1 ⟨?_, mn_le.1⟩
    · unfold mx0; split <;> omega
    · unfold mn; split <;> omega
theorem pasL_lo (g u : Int) : ∀ (n : Nat) (p : Int) (r : Row) (w i : Int), 0 ≤ p → i < 18 → (pasL g u n p r w).1 i = r i := by
  intro n
  induction n with
  | zero => intro p r w i _ _; rfl
  | succ n ih => intro p r w i hp hi; rw [pasL, ih _ _ _ _ (by omega) hi, stp_lo g u r hp hi]
theorem IR.pasL {b g u : Int} (hu : 0 ≤ u ∧ u ≤ 6) : ∀ (n : Nat) (p : Int) (r : Row) (w : Int), IR b r → 0 ≤ p → p + n ≤ 8 → 0 ≤ w → IR b (pasL g u n p r w).1 ∧ 0 ≤ (pasL g u n p r w).2 := by
  intro n
  induction n with
  | zero => intro p r w h _ _ hw; exact ⟨h, hw⟩
  | succ n ih =>
    intro p r w h h0 h8 hw
    have := tir_le r p
    exact ih (p + 1) _ _ (h.stp ⟨h0, by omega⟩ hu) (by omega) (by omega) (by omega)
theorem IR.passR {b m : Int} {r : Row} (h : IR b r) (hm : 0 ≤ m ∧ m < 6) : IR b (passR m r) := by
  have h5 := h.2.2.2.2.2.1 m hm.1 hm.2
  have h0 := h.1
  have hu := un_le (r (5 + 2 * m)) (r 3)
  obtain ⟨q1, q2⟩ := IR.pasL (g := r (5 + 2 * m)) hu (r 0).toNat 0 r (r (6 + 2 * m)) h (by omega) (by omega) (by omega)
  unfold _root_.Jvm.Pilot.@@N@@.passR
  refine (q1.wear hm ⟨?_, mn_le.1⟩).u3 (by omega)
  unfold mn; split <;> omega
theorem IR.nobL {b : Int} : ∀ (n : Nat) (p : Int) (r : Row), IR b r → 0 ≤ p → p + n ≤ 8 → IR b (nobL n p r) := by
  intro n
  induction n with
  | zero => intro p r h _ _; exact h
  | succ n ih =>
    intro p r h h0 h8
    have h7 := h.2.2.2.2.2.2 p h0 (by omega)
    have := tW_le (r (17 + 3 * p))
    refine ih (p + 1) _ (h.wants h0 ⟨?_, mn_le.1⟩) (by omega) (by omega)
    unfold mn; split <;> omega
theorem nobL_lo : ∀ (n : Nat) (p : Int) (r : Row) (i : Int), 0 ≤ p → i < 18 → nobL n p r i = r i := by
  intro n
  induction n with
  | zero => intro p r i _ _; rfl
  | succ n ih => intro p r i hp hi; rw [nobL, ih _ _ _ (by omega) hi, uz_ne _ _ (by omega)]
theorem IR.nobR {b : Int} {r : Row} (h : IR b r) : IR b (nobR r) := (IR.nobL (r 0).toNat 0 r h (by omega) (by have := h.1; omega)).u3 (by omega)
theorem IR.t6 {b : Int} {r : Row} (h : IR b r) : 0 ≤ r 4 ∧ r 4 < 6 := by have h1 := h.2.1; have h4 := h.2.2.2.2.1; omega
theorem IR.goR {b : Int} {r : Row} (h : IR b r) : IR b (goR r) := by
  unfold _root_.Jvm.Pilot.@@N@@.goR
  split
  · exact h.passR h.t6
  · exact h.nobR
theorem IR.endR {b : Int} {q : Row} (h : IR b q) : IR (b + 1) (endR q) := by
  unfold _root_.Jvm.Pilot.@@N@@.endR
  have h1 := h.2.1; have h4 := h.2.2.2.2.1; have h2 := h.2.2.1
  refine (h.u4 ?_).u2 (by omega)
  split <;> omega
theorem IR.minR {b : Int} {r : Row} (h : IR b r) : IR (b + 1) (minR r) := h.goR.endR
theorem IR.minsR : ∀ (n : Nat) {b : Int} {r : Row}, IR b r → IR (b + n) (minsR n r) := by
  intro n
  induction n with
  | zero => intro b r h; exact h.mono (by omega)
  | succ n ih => intro b r h; exact (ih h.minR).mono (by omega)
theorem IR.ft {P : Row → Bool} : ∀ (n : Nat) (i : Int) {b : Int} {r : Row}, IR b r → IR (b + n) (ft P n i r).2 := by
  intro n
  induction n with
  | zero => intro i b r h; exact h.mono (by omega)
  | succ n ih =>
    intro i b r h
    rw [_root_.Jvm.Pilot.@@N@@.ft]
    split
    · exact h.mono (by omega)
    · exact (ih (i + 1) h.minR).mono (by omega)
theorem goR_lo {b : Int} {r : Row} (h : IR b r) : goR r 0 = r 0 ∧ goR r 1 = r 1 ∧ goR r 2 = r 2 ∧ goR r 4 = r 4 := by
  have h4 := h.t6
  unfold goR
  split
  · unfold passR
    refine ⟨?_, ?_, ?_, ?_⟩ <;> rw [uz_ne _ _ (by omega), uz_ne _ _ (by omega), pasL_lo _ _ _ _ _ _ _ (by omega) (by omega)]
  · unfold nobR
    refine ⟨?_, ?_, ?_, ?_⟩ <;> rw [uz_ne _ _ (by omega), nobL_lo _ _ _ _ (by omega) (by omega)]
theorem minR_lo {b : Int} {r : Row} (h : IR b r) : minR r 0 = r 0 ∧ minR r 1 = r 1 ∧ minR r 2 = r 2 + 1 := by
  obtain ⟨h0, h1, h2, h4⟩ := goR_lo h
  unfold minR endR
  refine ⟨?_, ?_, ?_⟩
  · rw [uz_ne _ _ (by omega), uz_ne _ _ (by omega), h0]
  · rw [uz_ne _ _ (by omega), uz_ne _ _ (by omega), h1]
  · rw [uz_self, h2]
