/-! the words of the tape, as the class asks for them -/
def LJ (q : Nat) : List Int := ((bytJ.getD q []).map (fun z => z.toInt)).reverse
def cJ (q : Nat) : Int := cdr (LJ q)
theorem LJ_all : ∀ q, q < 12 → (LJ q).length = lenJ.getD q 0 ∧ (∀ c ∈ LJ q, 97 ≤ c ∧ c ≤ 122) ∧ cdr (LJ q) ≤ 36028797018963967 ∧ ∀ m, m < lenJ.getD q 0 → (LJ q).getD ((LJ q).length - 1 - m) 0 = chJ q ((m : Nat) : Int) := by decide +kernel
theorem lts_iff (t : Row) (a : Int) : ∀ L : List Int, lts t a L ↔ ∀ m : Nat, m < L.length → t (a + (m : Int)) = L.getD (L.length - 1 - m) 0 := by
  intro L
  induction L with
  | nil => exact ⟨fun _ m h => absurd h (by simp), fun _ => trivial⟩
  | cons c L ih =>
    have e2 : ∀ m : Nat, m < L.length → (c :: L).getD ((c :: L).length - 1 - m) 0 = L.getD (L.length - 1 - m) 0 := fun m hm => by
      rw [show (c :: L).length - 1 - m = (L.length - 1 - m) + 1 by rw [List.length_cons]; omega]
      rfl
    have e0 : (c :: L).getD ((c :: L).length - 1 - L.length) 0 = c := by
      rw [show (c :: L).length - 1 - L.length = 0 by rw [List.length_cons]; omega]
      rfl
    constructor
    · intro h m hm
      rw [List.length_cons] at hm
      by_cases e : m = L.length
      · subst e; rw [e0]; exact h.1
      · rw [e2 m (by omega)]
        exact ih.mp h.2 m (by omega)
    · intro h
      refine ⟨?_, ih.mpr fun m hm => ?_⟩
      · have h1 := h L.length (by rw [List.length_cons]; omega)
        rw [e0] at h1
        exact h1
      · have h1 := h m (by rw [List.length_cons]; omega)
        rw [e2 m hm] at h1
        exact h1
def lw (t : Row) (a : Int) (q : Nat) : Nat → Int → Int
  | 0, _ => 1
  | n + 1, k => if t (a + k) = chJ q k then lw t a q n (k + 1) else 0
theorem lw_iff (t : Row) (a : Int) (q : Nat) : ∀ (n : Nat) (k : Int), (lw t a q n k = 1 ↔ ∀ m : Int, k ≤ m → m < k + n → t (a + m) = chJ q m) ∧ (lw t a q n k = 1 ∨ lw t a q n k = 0) := by
  intro n
  induction n with
  | zero => intro k; exact ⟨⟨fun _ m h1 h2 => by omega, fun _ => rfl⟩, Or.inl rfl⟩
  | succ n ih =>
    intro k
    have h := ih (k + 1)
    rw [lw]
    by_cases e : t (a + k) = chJ q k
    · rw [if_pos e]
      refine ⟨⟨fun h1 m h2 h3 => ?_, fun h1 => h.1.mpr fun m h2 h3 => h1 m (by omega) (by omega)⟩, h.2⟩
      by_cases e2 : m = k
      · subst e2; exact e
      · exact h.1.mp h1 m (by omega) (by omega)
    · rw [if_neg e]
      exact ⟨⟨fun h1 => absurd h1 (by decide), fun h1 => absurd (h1 k (by omega) (by omega)) e⟩, Or.inr rfl⟩
theorem isw_eq {t : Row} {l : Int} {p : P5} {q : Nat} (hp : wfp t l p) (hw : p.2.2.2.2 = 0) (hi : q < 12) : (if sa l t p.2.1 = 1 ∧ p.2.2.1 - p.2.1 = ((lenJ.getD q 0 : Nat) : Int) then lw t p.2.1 q (lenJ.getD q 0) 0 else 0) = if wzS t l p = cJ q then (1 : Int) else 0 := by
  obtain ⟨a1, a2, a3, a4⟩ := LJ_all q hi
  have hb := hp.1.1
  have h7 : 0 < lenJ.getD q 0 := (show ∀ q, q < 12 → 0 < lenJ.getD q 0 by decide +kernel) q hi
  have hc0 : 0 < cJ q := (show ∀ q, q < 12 → 0 < cJ q by decide +kernel) q hi
  by_cases s1 : sa l t p.2.1 = 1
  · have e1 : wzS t l p = wcd t (p.2.2.1 - p.2.1).toNat p.2.1 0 := by unfold wzS; rw [if_pos ⟨hw, s1⟩]
    have h2 := wcd_iff t p.2.1 (LJ q) (p.2.2.1 - p.2.1).toNat a2 a3 (fun k b c => hp.1.2.1 s1 k b (by omega))
    rw [← e1] at h2
    have h3 : lts t p.2.1 (LJ q) ↔ lw t p.2.1 q (lenJ.getD q 0) 0 = 1 := by
      rw [lts_iff, (lw_iff t p.2.1 q (lenJ.getD q 0) 0).1, a1]
      constructor
      · intro h m b c
        have h4 := h m.toNat (by omega)
        have h5 := a4 m.toNat (by omega)
        rw [a1] at h5
        rw [h5, show ((m.toNat : Nat) : Int) = m by omega] at h4
        exact h4
      · intro h m hm
        have h5 := a4 m hm
        rw [a1] at h5
        rw [h5]
        exact h m (by omega) (by omega)
    by_cases c1 : p.2.2.1 - p.2.1 = ((lenJ.getD q 0 : Nat) : Int)
    · rw [if_pos ⟨s1, c1⟩]
      by_cases c2 : wzS t l p = cJ q
      · rw [if_pos c2]; exact h3.mp (h2.mp c2).2
      · rw [if_neg c2]
        rcases (lw_iff t p.2.1 q (lenJ.getD q 0) 0).2 with z | z
        · exact absurd (h2.mpr ⟨by rw [a1]; omega, h3.mpr z⟩) c2
        · exact z
    · rw [if_neg (fun z => c1 z.2), if_neg]
      intro c2
      have h4 := (h2.mp c2).1
      rw [a1] at h4
      omega
  · have e1 : wzS t l p = 0 := by unfold wzS; rw [if_neg (fun z => s1 z.2)]
    rw [if_neg (fun z => s1 z.1), if_neg (by omega)]
theorem cJ_0 : cJ 0 = 20190384 ∧ cJ 1 = 5861 ∧ cJ 2 = 394658 ∧ cJ 3 = 777658546 ∧ cJ 4 = 24161458 ∧ cJ 5 = 21168 := by decide +kernel
theorem cJ_6 : cJ 6 = 13358 ∧ cJ 7 = 24165011 ∧ cJ 8 = 4583 ∧ cJ 9 = 20587627 ∧ cJ 10 = 402864 ∧ cJ 11 = 769614 := by decide +kernel
theorem kn_J : ∀ m, m < 6 → kn (cJ m) = ((m : Nat) : Int) := by decide +kernel
theorem kn_no {c : Int} (h : ∀ m : Nat, m < 6 → c ≠ cJ m) : kn c = -1 := by
  have h0 := h 0 (by omega)
  have h1 := h 1 (by omega)
  have h2 := h 2 (by omega)
  have h3 := h 3 (by omega)
  have h4 := h 4 (by omega)
  have h5 := h 5 (by omega)
  obtain ⟨e0, e1, e2, e3, e4, e5⟩ := cJ_0
  unfold kn
  rw [if_neg (by omega), if_neg (by omega), if_neg (by omega), if_neg (by omega), if_neg (by omega), if_neg (by omega)]
/-- the class's own state: the trial's row, the token's places -/
def Yt (S : St) (i l : Int) (p : P5) : St := va_up (va_up S 1 p.1) 3 (tp i l (sa l (S 4) p.2.1) p.2.1 p.2.2.1)
def fx (r : Row) (q : P5) : P5 := if q.2.2.2.2 = 0 then q else (r, q.2)
def nh (t : Row) (l : Int) (p : P5) : Int := if sa l t p.2.1 = 2 then n3 t (p.2.2.1 - p.2.1).toNat p.2.1 0 else 1000
theorem nh_num {t : Row} {l : Int} {p : P5} (hp : wfp t l p) : (0 ≤ nh t l p ∧ nh t l p ≤ 1000) ∧ (nh t l p ≤ 99 → numS t l 0 99 p = (p.1, tkA t l p.2.2.1, tkB t l (tkA t l p.2.2.1), nh t l p, 0)) ∧ (99 < nh t l p → numS t l 0 99 p = (p.1, p.2.1, p.2.2.1, numV t l p, 1)) := by
  have hb := hp.1.1
  by_cases s2 : sa l t p.2.1 = 2
  · have h := n3_nv t (p.2.2.1 - p.2.1).toNat p.2.1 0 0 (fun k a c => hp.1.2.2 s2 k a (by omega)) (by omega) (by unfold mn; rw [if_pos (by omega)])
    have e1 : nh t l p = mn 1000 (numV t l p) := by unfold nh numV; rw [if_pos s2, if_pos s2]; exact h.1
    have e2 : 0 ≤ numV t l p := by unfold numV; rw [if_pos s2]; exact h.2
    have e3 : mn 1000 (numV t l p) ≤ 99 → mn 1000 (numV t l p) = numV t l p := by unfold mn; split <;> omega
    have e4 : 0 ≤ mn 1000 (numV t l p) ∧ mn 1000 (numV t l p) ≤ 1000 ∧ mn 1000 (numV t l p) ≤ numV t l p := by unfold mn; split <;> omega
    rw [e1]
    refine ⟨by omega, fun z => ?_, fun z => ?_⟩
    · have e5 := e3 z
      unfold numS
      rw [if_pos ⟨s2, by omega, by omega⟩, e5]
    · unfold numS
      rw [if_neg (fun y => by omega)]
  · have e1 : nh t l p = 1000 := by unfold nh; rw [if_neg s2]
    refine ⟨by omega, fun z => by omega, fun z => ?_⟩
    unfold numS
    rw [if_neg (fun y => s2 y.1)]
def naS (t : Row) (l c : Int) (m : P5) : P5 := if wzS t l m = c then numS t l 0 99 (mustS t l 1 m) else m
def naV (t : Row) (l c wo : Int) (m : P5) : Int := if wzS t l m = c then (if (naS t l c m).2.2.2.2 = 0 then (naS t l c m).2.2.2.1 else -1) else wo
theorem na_1 (t : Row) (l c : Int) (m : P5) : (naS t l c m).1 = m.1 := by
  unfold naS; split
  · rw [num_1, must_1]
  · rfl
theorem must_2 (t : Row) (l v : Int) (p : P5) (r : Row) : mustS t l v (r, p.2) = (r, (mustS t l v p).2) := by
  show (if p.2.2.2.2 = 0 ∧ v = 1 then (r, tkA t l p.2.2.1, tkB t l (tkA t l p.2.2.1), p.2.2.2.1, (0 : Int)) else (r, p.2.1, p.2.2.1, p.2.2.2.1, 1)) = _
  unfold mustS
  split <;> rfl
theorem num_2 (t : Row) (l : Int) (p : P5) (r : Row) : numS t l 0 99 (r, p.2) = (r, (numS t l 0 99 p).2) := by
  show (if sa l t p.2.1 = 2 ∧ 0 ≤ numV t l p ∧ numV t l p ≤ 99 then (r, tkA t l p.2.2.1, tkB t l (tkA t l p.2.2.1), numV t l p, (0 : Int)) else (r, p.2.1, p.2.2.1, numV t l p, 1)) = _
  unfold numS
  split <;> rfl
theorem part_x (t : Row) (l c w : Int) (m : P5) (r : Row) : partS t l c w (r, m.2) = (if wzS t l m = c then uz r w (if (naS t l c m).2.2.2.2 = 0 then (naS t l c m).2.2.2.1 else r w) else r, (naS t l c m).2) := by
  have e : wzS t l (r, m.2) = wzS t l m := rfl
  unfold partS naS
  rw [e, must_2, num_2]
  by_cases h : wzS t l m = c
  · rw [if_pos h, if_pos h, if_pos h]; rfl
  · rw [if_neg h, if_neg h, if_neg h]
theorem asR_w (r : Row) (k v w : Int) (h : 0 ≤ r 0) : uz (asR r k v) (18 + 3 * r 0) w = asR r k w := by
  unfold asR
  rw [uz_swap _ (show (0 : Int) ≠ 18 + 3 * r 0 by omega), uz_swap _ (show 19 + 3 * r 0 ≠ 18 + 3 * r 0 by omega), uz_uz]
theorem amR_w (r : Row) (k v w : Int) (h : 0 ≤ r 1) : uz (amR r k v) (6 + 2 * r 1) w = amR r k w := by
  unfold amR
  rw [uz_swap _ (show (1 : Int) ≠ 6 + 2 * r 1 by omega), uz_uz]
theorem na_w {t : Row} {l c wo : Int} {m : P5} (hm : m.2.2.2.2 = 0) (h : 0 ≤ naV t l c wo m) : (naS t l c m).2.2.2.2 = 0 := by
  unfold naV at h
  by_cases e : wzS t l m = c
  · rw [if_pos e] at h
    by_cases z : (naS t l c m).2.2.2.2 = 0
    · exact z
    · rw [if_neg z] at h; omega
  · unfold naS; rw [if_neg e]; exact hm
theorem na_v {t : Row} {l c wo : Int} {m : P5} (hwo : 0 ≤ wo) (h : naV t l c wo m < 0) : ¬ (naS t l c m).2.2.2.2 = 0 := by
  intro z
  unfold naV at h
  by_cases e : wzS t l m = c
  · rw [if_pos e, if_pos z] at h
    have e2 : naS t l c m = numS t l 0 99 (mustS t l 1 m) := by unfold naS; rw [if_pos e]
    rw [e2] at h z
    have := num_w z
    omega
  · rw [if_neg e] at h; omega
theorem na_le {t : Row} {l c wo : Int} {m : P5} (hwo : 0 ≤ wo ∧ wo ≤ 99) : -1 ≤ naV t l c wo m ∧ naV t l c wo m ≤ 99 := by
  unfold naV
  by_cases e : wzS t l m = c
  · rw [if_pos e]
    by_cases z : (naS t l c m).2.2.2.2 = 0
    · rw [if_pos z]
      have e2 : naS t l c m = numS t l 0 99 (mustS t l 1 m) := by unfold naS; rw [if_pos e]
      rw [e2] at z ⊢
      have := num_w z
      omega
    · rw [if_neg z]; omega
  · rw [if_neg e]; omega
theorem na_row {t : Row} {l c wo w : Int} {m : P5} {F : Int → Row} (h : 0 ≤ naV t l c wo m) (hF : ∀ v, uz (F wo) w v = F v) : (if wzS t l m = c then uz (F wo) w (if (naS t l c m).2.2.2.2 = 0 then (naS t l c m).2.2.2.1 else F wo w) else F wo) = F (naV t l c wo m) := by
  unfold naV at h ⊢
  by_cases e : wzS t l m = c
  · rw [if_pos e] at h ⊢
    by_cases z : (naS t l c m).2.2.2.2 = 0
    · rw [if_pos e, if_pos z, if_pos z, hF]
    · rw [if_neg z] at h; omega
  · rw [if_neg e, if_neg e]
theorem must_0 {t : Row} {l : Int} {p : P5} (hw : p.2.2.2.2 = 0) : mustS t l 1 p = (p.1, tkA t l p.2.2.1, tkB t l (tkA t l p.2.2.1), p.2.2.2.1, 0) := if_pos ⟨hw, rfl⟩
theorem must_n (t : Row) (l : Int) (p : P5) : mustS t l 0 p = (p.1, p.2.1, p.2.2.1, p.2.2.2.1, 1) := if_neg (fun z => by omega)
theorem sheep_e {t : Row} {l kd : Int} {p : P5} (hw : p.2.2.2.2 = 0) (hr : p.1 0 < 8) : sheepS t l kd p = partS t l 24165011 (18 + 3 * p.1 0) (asR p.1 kd 20, (mustS t l 1 p).2) := by
  unfold sheepS
  rw [show (if p.1 0 < 8 then (1 : Int) else 0) = 1 from if_pos hr]
  exact if_pos (by rw [must_0 hw])
theorem sheep_R {t : Row} {l kd : Int} {p : P5} (hw : p.2.2.2.2 = 0) (hr : p.1 0 < 8) (h0 : 0 ≤ p.1 0) (h : 0 ≤ naV t l 24165011 20 (mustS t l 1 p)) : (sheepS t l kd p).2.2.2.2 = 0 ∧ fx p.1 (sheepS t l kd p) = (asR p.1 kd (naV t l 24165011 20 (mustS t l 1 p)), (naS t l 24165011 (mustS t l 1 p)).2) := by
  have e := sheep_e (t := t) (l := l) (kd := kd) hw hr
  rw [part_x, na_row (F := fun v => asR p.1 kd v) h (fun v => asR_w p.1 kd 20 v h0)] at e
  have h1 : (naS t l 24165011 (mustS t l 1 p)).2.2.2.2 = 0 := na_w (by rw [must_0 hw]) h
  rw [e]
  exact ⟨h1, if_pos h1⟩
theorem sheep_W {t : Row} {l kd : Int} {p : P5} (hw : p.2.2.2.2 = 0) (hr : p.1 0 < 8) (h : naV t l 24165011 20 (mustS t l 1 p) < 0) : ¬ (sheepS t l kd p).2.2.2.2 = 0 ∧ fx p.1 (sheepS t l kd p) = naS t l 24165011 (mustS t l 1 p) := by
  have e := sheep_e (t := t) (l := l) (kd := kd) hw hr
  rw [part_x] at e
  have h1 := na_v (by omega) h
  have h2 := na_1 t l 24165011 (mustS t l 1 p)
  rw [must_1] at h2
  rw [e]
  refine ⟨h1, ?_⟩
  unfold fx
  rw [if_neg h1, ← h2]
theorem bit_0 {t : Row} {l c : Int} {p : P5} (hw : p.2.2.2.2 = 0) : (bitS t l c p).2.2.2.2 = 0 := by
  unfold bitS; split
  · rw [must_0 hw]
  · exact hw
theorem man_0 {t : Row} {l : Int} {p : P5} (hr : p.1 1 < 6) : man0 t l p = mustS t l 1 p := by unfold man0; rw [if_pos hr]
theorem man3_0 {t : Row} {l : Int} {p : P5} (hw : p.2.2.2.2 = 0) (hr : p.1 1 < 6) : (man0 t l p).2.2.2.2 = 0 ∧ (man1 t l p).2.2.2.2 = 0 ∧ (man2 t l p).2.2.2.2 = 0 ∧ (man3 t l p).2.2.2.2 = 0 := by
  have h0 : (man0 t l p).2.2.2.2 = 0 := by rw [man_0 hr, must_0 hw]
  have h1 : (man1 t l p).2.2.2.2 = 0 := bit_0 h0
  have h2 : (man2 t l p).2.2.2.2 = 0 := bit_0 h1
  exact ⟨h0, h1, h2, bit_0 h2⟩
theorem man_e {t : Row} {l : Int} {p : P5} (hw : p.2.2.2.2 = 0) (hr : p.1 1 < 6) : manS t l p = partS t l 769614 (6 + 2 * p.1 1) (amR p.1 (manG t l p) 0, (man3 t l p).2) := if_pos (man3_0 hw hr).2.2.2
theorem man_R {t : Row} {l : Int} {p : P5} (hw : p.2.2.2.2 = 0) (hr : p.1 1 < 6) (h0 : 0 ≤ p.1 1) (h : 0 ≤ naV t l 769614 0 (man3 t l p)) : (manS t l p).2.2.2.2 = 0 ∧ fx p.1 (manS t l p) = (amR p.1 (manG t l p) (naV t l 769614 0 (man3 t l p)), (naS t l 769614 (man3 t l p)).2) := by
  have e := man_e (t := t) (l := l) hw hr
  rw [part_x, na_row (F := fun v => amR p.1 (manG t l p) v) h (fun v => amR_w p.1 (manG t l p) 0 v h0)] at e
  have h1 : (naS t l 769614 (man3 t l p)).2.2.2.2 = 0 := na_w (man3_0 hw hr).2.2.2 h
  rw [e]
  exact ⟨h1, if_pos h1⟩
theorem man_W {t : Row} {l : Int} {p : P5} (hw : p.2.2.2.2 = 0) (hr : p.1 1 < 6) (h : naV t l 769614 0 (man3 t l p) < 0) : ¬ (manS t l p).2.2.2.2 = 0 ∧ fx p.1 (manS t l p) = naS t l 769614 (man3 t l p) := by
  have e := man_e (t := t) (l := l) hw hr
  rw [part_x] at e
  have h1 := na_v (by omega) h
  have h2 := na_1 t l 769614 (man3 t l p)
  rw [man3_1] at h2
  rw [e]
  refine ⟨h1, ?_⟩
  unfold fx
  rw [if_neg h1, ← h2]
/-- no room, no such word: the token is the fault -/
theorem bit_wr {t : Row} {l c : Int} {p : P5} (hc : 0 < c) (hw : ¬ p.2.2.2.2 = 0) : bitS t l c p = p := by
  unfold bitS
  rw [if_neg (fun z => hw (wzS_w hc z))]
theorem man_full {t : Row} {l : Int} {p : P5} (hr : ¬ p.1 1 < 6) : manS t l p = (p.1, p.2.1, p.2.2.1, p.2.2.2.1, 1) := by
  have e0 : man0 t l p = (p.1, p.2.1, p.2.2.1, p.2.2.2.1, 1) := by unfold man0; rw [if_neg hr, must_n]
  have hw : ¬ (man0 t l p).2.2.2.2 = 0 := by rw [e0]; show ¬ (1 : Int) = 0; omega
  have e1 : man1 t l p = man0 t l p := bit_wr (by omega) hw
  have e2 : man2 t l p = man0 t l p := by unfold man2; rw [e1]; exact bit_wr (by omega) hw
  have e3 : man3 t l p = man0 t l p := by unfold man3; rw [e2]; exact bit_wr (by omega) hw
  unfold manS
  rw [e3, if_neg hw, e0]
theorem sheep_full {t : Row} {l kd : Int} {p : P5} (hr : ¬ p.1 0 < 8) : sheepS t l kd p = (p.1, p.2.1, p.2.2.1, p.2.2.2.1, 1) := by
  unfold sheepS
  rw [show (if p.1 0 < 8 then (1 : Int) else 0) = 0 from if_neg hr, must_n]
  exact if_neg (by show ¬ (1 : Int) = 0; omega)
/-- the items, as the class takes them -/
def tlP (t : Row) (l : Int) : Nat → P5 → P5
  | 0, p => p
  | n + 1, p => if (itemS t l p).2.2.2.2 = 0 ∧ sa l t (itemS t l p).2.1 = 3 then tlP t l n (mustS t l 1 (itemS t l p)) else fx p.1 (itemS t l p)
theorem tlP_eq {t : Row} {l : Int} : ∀ (n : Nat) (i : Int) (p : P5), ¬ felW l (felL t l n i (itemS t l p)).2 → tlP t l (n + 1) p = (felL t l n i (itemS t l p)).2 := by
  intro n
  induction n with
  | zero =>
    intro i p h
    have h1 : (itemS t l p).2.2.2.2 = 0 ∧ ¬ (itemS t l p).2.1 < l := by
      have h2 : ¬ ((itemS t l p).2.2.2.2 ≠ 0 ∨ (itemS t l p).2.1 < l) := h
      omega
    have h3 : ¬ sa l t (itemS t l p).2.1 = 3 := fun z => by
      have := sa_lt (t := t) (l := l) (a := (itemS t l p).2.1) (by omega)
      omega
    rw [tlP, if_neg (fun z => h3 z.2)]
    exact if_pos h1.1
  | succ n ih =>
    intro i p h
    by_cases c : (itemS t l p).2.2.2.2 = 0 ∧ sa l t (itemS t l p).2.1 = 3
    · rw [tlP, if_pos c]
      rw [felL, if_pos c] at h ⊢
      exact ih (i + 1) _ h
    · rw [fel_stop c] at h ⊢
      rw [tlP, if_neg c]
      have h2 : ¬ ((itemS t l p).2.2.2.2 ≠ 0 ∨ (itemS t l p).2.1 < l) := h
      exact if_pos (by omega)
theorem felL_1 {t : Row} {l : Int} : ∀ (n : Nat) (i : Int) (p : P5), i ≤ (felL t l n i p).1 := by
  intro n
  induction n with
  | zero => intro i p; exact Int.le_refl i
  | succ n ih =>
    intro i p
    rw [felL]
    split
    · have := ih (i + 1) (itemS t l (mustS t l 1 p)); omega
    · exact Int.le_refl i
theorem felL_wf {t : Row} {l : Int} : ∀ (n : Nat) (i : Int) (p : P5), wfp t l p → wfp t l (felL t l n i p).2 := by
  intro n
  induction n with
  | zero => intro i p h; exact h
  | succ n ih =>
    intro i p h
    rw [felL]
    split
    · exact ih (i + 1) _ (wfp_item (wfp_must h))
    · exact h
theorem felL_IR {t : Row} {l b : Int} : ∀ (n : Nat) (i : Int) (p : P5), IR b p.1 → IR b (felL t l n i p).2.1 := by
  intro n
  induction n with
  | zero => intro i p h; exact h
  | succ n ih =>
    intro i p h
    rw [felL]
    split
    · exact ih (i + 1) _ (item_IR (by rw [must_1]; exact h)).1
    · exact h
