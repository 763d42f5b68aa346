set_option maxRecDepth 100000 in
theorem st_man {G : GX} {S : St} (h : Inv S) {g : Int} (h_g : inR g) : CallOk vi G mX4_man mX5_man [vi g] S := by
  obtain ⟨⟨e9, e10, e13, e15, e16, e17, e18, e140, e143⟩, i0, i2, i4, i31, i30, i6, i7, i8, i5⟩ := id h
  exact sA (r := S 0) (c_X4_man i0 (Int.le_refl _) h_g) e9.symm (c_X5_man i0 (Int.le_refl _) h_g) (h.fin _ rfl (ir_man i0) rfl rfl rfl rfl rfl rfl rfl rfl rfl rfl rfl rfl rfl rfl rfl)
set_option maxRecDepth 100000 in
theorem st_manOf {G : GX} {S : St} (h : Inv S) {m : Int} (h_m : inR m) {w : Int} (h_w : inR w) : CallOk vi G mX4_manOf mX5_manOf [vi m, vi w] S := by
  obtain ⟨⟨e9, e10, e13, e15, e16, e17, e18, e140, e143⟩, i0, i2, i4, i31, i30, i6, i7, i8, i5⟩ := id h
  exact sA (r := S 0) (c_X4_manOf i0 (Int.le_refl _) h_m h_w) e9.symm (c_X5_manOf i0 (Int.le_refl _) h_m h_w) (h.fin _ rfl i0 rfl rfl rfl rfl rfl rfl rfl rfl rfl rfl rfl rfl rfl rfl rfl)
set_option maxRecDepth 100000 in
theorem st_dress {G : GX} {S : St} (h : Inv S) {m : Int} (h_m : inR m) {w : Int} (h_w : inR w) {v : Int} (h_v : inR v) : CallOk vi G mX4_dress mX5_dress [vi m, vi w, vi v] S := by
  obtain ⟨⟨e9, e10, e13, e15, e16, e17, e18, e140, e143⟩, i0, i2, i4, i31, i30, i6, i7, i8, i5⟩ := id h
  exact sA (r := S 0) (c_X4_dress i0 (Int.le_refl _) h_m h_w h_v) e9.symm (c_X5_dress i0 (Int.le_refl _) h_m h_w h_v) (h.fin _ rfl (ir_dress i0) rfl rfl rfl rfl rfl rfl rfl rfl rfl rfl rfl rfl rfl rfl rfl)
set_option maxRecDepth 100000 in
theorem st_first {G : GX} {S : St} (h : Inv S) {m : Int} (h_m : inR m) : CallOk vi G mX4_first mX5_first [vi m] S := by
  obtain ⟨⟨e9, e10, e13, e15, e16, e17, e18, e140, e143⟩, i0, i2, i4, i31, i30, i6, i7, i8, i5⟩ := id h
  exact sA (r := S 0) (c_X4_first i0 (Int.le_refl _) h_m) e9.symm (c_X5_first i0 (Int.le_refl _) h_m) (h.fin _ rfl (ir_first i0) rfl rfl rfl rfl rfl rfl rfl rfl rfl rfl rfl rfl rfl rfl rfl)
set_option maxRecDepth 100000 in
theorem st_goesHome {G : GX} {S : St} (h : Inv S) : CallOk vi G mX4_goesHome mX5_goesHome [] S := by
  obtain ⟨⟨e9, e10, e13, e15, e16, e17, e18, e140, e143⟩, i0, i2, i4, i31, i30, i6, i7, i8, i5⟩ := id h
  exact sA (r := S 0) (c_X4_goesHome i0 (Int.le_refl _) ) e9.symm (c_X5_goesHome i0 (Int.le_refl _) ) (h.fin _ rfl (ir_goesHome i0) rfl rfl rfl rfl rfl rfl rfl rfl rfl rfl rfl rfl rfl rfl rfl)
set_option maxRecDepth 100000 in
theorem st_sheep {G : GX} {S : St} (h : Inv S) {k : Int} (h_k : inR k) : CallOk vi G mX4_sheep mX5_sheep [vi k] S := by
  obtain ⟨⟨e9, e10, e13, e15, e16, e17, e18, e140, e143⟩, i0, i2, i4, i31, i30, i6, i7, i8, i5⟩ := id h
  exact sA (r := S 0) (c_X4_sheep i0 (Int.le_refl _) h_k) e9.symm (c_X5_sheep i0 (Int.le_refl _) h_k) (h.fin _ rfl (ir_sheep i0) rfl rfl rfl rfl rfl rfl rfl rfl rfl rfl rfl rfl rfl rfl rfl)
set_option maxRecDepth 100000 in
theorem st_of {G : GX} {S : St} (h : Inv S) {p : Int} (h_p : inR p) {w : Int} (h_w : inR w) : CallOk vi G mX4_of mX5_of [vi p, vi w] S := by
  obtain ⟨⟨e9, e10, e13, e15, e16, e17, e18, e140, e143⟩, i0, i2, i4, i31, i30, i6, i7, i8, i5⟩ := id h
  exact sA (r := S 0) (c_X4_of i0 (Int.le_refl _) h_p h_w) e9.symm (c_X5_of i0 (Int.le_refl _) h_p h_w) (h.fin _ rfl i0 rfl rfl rfl rfl rfl rfl rfl rfl rfl rfl rfl rfl rfl rfl rfl)
set_option maxRecDepth 100000 in
theorem st_set {G : GX} {S : St} (h : Inv S) {p : Int} (h_p : inR p) {w : Int} (h_w : inR w) {v : Int} (h_v : inR v) : CallOk vi G mX4_set mX5_set [vi p, vi w, vi v] S := by
  obtain ⟨⟨e9, e10, e13, e15, e16, e17, e18, e140, e143⟩, i0, i2, i4, i31, i30, i6, i7, i8, i5⟩ := id h
  exact sA (r := S 0) (c_X4_set i0 (Int.le_refl _) h_p h_w h_v) e9.symm (c_X5_set i0 (Int.le_refl _) h_p h_w h_v) (h.fin _ rfl (ir_set i0) rfl rfl rfl rfl rfl rfl rfl rfl rfl rfl rfl rfl rfl rfl rfl)
set_option maxRecDepth 100000 in
theorem st_turn {G : GX} {S : St} (h : Inv S) {p : Int} (h_p : inR p) {k : Int} (h_k : inR k) : CallOk vi G mX4_turn mX5_turn [vi p, vi k] S := by
  obtain ⟨⟨e9, e10, e13, e15, e16, e17, e18, e140, e143⟩, i0, i2, i4, i31, i30, i6, i7, i8, i5⟩ := id h
  exact sA (r := S 0) (c_X4_turn i0 (Int.le_refl _) h_p h_k) e9.symm (c_X5_turn i0 (Int.le_refl _) h_p h_k) (h.fin _ rfl (ir_turn i0) rfl rfl rfl rfl rfl rfl rfl rfl rfl rfl rfl rfl rfl rfl rfl)
set_option maxRecDepth 100000 in
theorem st_as {G : GX} {S : St} (h : Inv S) {p : Int} (h_p : inR p) {k : Int} (h_k : inR k) : CallOk vi G mX4_as mX5_as [vi p, vi k] S := by
  obtain ⟨⟨e9, e10, e13, e15, e16, e17, e18, e140, e143⟩, i0, i2, i4, i31, i30, i6, i7, i8, i5⟩ := id h
  exact sA (r := S 0) (c_X4_as i0 (Int.le_refl _) h_p h_k) e9.symm (c_X5_as i0 (Int.le_refl _) h_p h_k) (h.fin _ rfl i0 rfl rfl rfl rfl rfl rfl rfl rfl rfl rfl rfl rfl rfl rfl rfl)
set_option maxRecDepth 100000 in
theorem st_counts {G : GX} {S : St} (h : Inv S) {p : Int} (h_p : inR p) {g : Int} (h_g : inR g) : CallOk vi G mX4_counts mX5_counts [vi p, vi g] S := by
  obtain ⟨⟨e9, e10, e13, e15, e16, e17, e18, e140, e143⟩, i0, i2, i4, i31, i30, i6, i7, i8, i5⟩ := id h
  exact sA (r := S 0) (c_X4_counts i0 (Int.le_refl _) h_p h_g) e9.symm (c_X5_counts i0 (Int.le_refl _) h_p h_g) (h.fin _ rfl i0 rfl rfl rfl rfl rfl rfl rfl rfl rfl rfl rfl rfl rfl rfl rfl)
set_option maxRecDepth 100000 in
theorem st_minutes {G : GX} {S : St} (h : Inv S) {n : Int} (h_n : inR n) : CallOk vi G mX4_minutes mX5_minutes [vi n] S := by
  obtain ⟨⟨e9, e10, e13, e15, e16, e17, e18, e140, e143⟩, i0, i2, i4, i31, i30, i6, i7, i8, i5⟩ := id h
  exact sA (r := S 0) (c_X4_minutes i0 (Int.le_refl _) h_n) e9.symm (c_X5_minutes i0 (Int.le_refl _) h_n) (h.fin _ rfl (ir_minutes i0) rfl rfl rfl rfl rfl rfl rfl rfl rfl rfl rfl rfl rfl rfl rfl)
set_option maxRecDepth 100000 in
theorem st_now {G : GX} {S : St} (h : Inv S) {w : Int} (h_w : inR w) : CallOk vi G mX4_now mX5_now [vi w] S := by
  obtain ⟨⟨e9, e10, e13, e15, e16, e17, e18, e140, e143⟩, i0, i2, i4, i31, i30, i6, i7, i8, i5⟩ := id h
  exact sA (r := S 0) (c_X4_now i0 (Int.le_refl _) h_w) e9.symm (c_X5_now i0 (Int.le_refl _) h_w) (h.fin _ rfl i0 rfl rfl rfl rfl rfl rfl rfl rfl rfl rfl rfl rfl rfl rfl rfl)
set_option maxRecDepth 100000 in
theorem st_on {G : GX} {S : St} (h : Inv S) {p : Int} (h_p : inR p) {n : Int} (h_n : inR n) {w : Int} (h_w : inR w) : CallOk vi G mX4_on mX5_on [vi p, vi n, vi w] S := by
  obtain ⟨⟨e9, e10, e13, e15, e16, e17, e18, e140, e143⟩, i0, i2, i4, i31, i30, i6, i7, i8, i5⟩ := id h
  exact sA (r := S 0) (c_X4_on i0 (Int.le_refl _) h_p h_n h_w) e9.symm (c_X5_on i0 (Int.le_refl _) h_p h_n h_w) (h.fin _ rfl i0 rfl rfl rfl rfl rfl rfl rfl rfl rfl rfl rfl rfl rfl rfl rfl)
set_option maxRecDepth 100000 in
theorem st_worn {G : GX} {S : St} (h : Inv S) {m : Int} (h_m : inR m) {n : Int} (h_n : inR n) : CallOk vi G mX4_worn mX5_worn [vi m, vi n] S := by
  obtain ⟨⟨e9, e10, e13, e15, e16, e17, e18, e140, e143⟩, i0, i2, i4, i31, i30, i6, i7, i8, i5⟩ := id h
  exact sA (r := S 0) (c_X4_worn i0 (Int.le_refl _) h_m h_n) e9.symm (c_X5_worn i0 (Int.le_refl _) h_m h_n) (h.fin _ rfl i0 rfl rfl rfl rfl rfl rfl rfl rfl rfl rfl rfl rfl rfl rfl rfl)
set_option maxRecDepth 100000 in
theorem st_sleeps {G : GX} {S : St} (h : Inv S) {p : Int} (h_p : inR p) : CallOk vi G mX4_sleeps mX5_sleeps [vi p] S := by
  obtain ⟨⟨e9, e10, e13, e15, e16, e17, e18, e140, e143⟩, i0, i2, i4, i31, i30, i6, i7, i8, i5⟩ := id h
  exact sA (r := S 0) (c_X4_sleeps i0 (Int.le_refl _) h_p) e9.symm (c_X5_sleeps i0 (Int.le_refl _) h_p) (h.fin _ rfl i0 rfl rfl rfl rfl rfl rfl rfl rfl rfl rfl rfl rfl rfl rfl rfl)
set_option maxRecDepth 100000 in
theorem st_quiet {G : GX} {S : St} (h : Inv S) : CallOk vi G mX4_quiet mX5_quiet [] S := by
  obtain ⟨⟨e9, e10, e13, e15, e16, e17, e18, e140, e143⟩, i0, i2, i4, i31, i30, i6, i7, i8, i5⟩ := id h
  exact sA (r := S 0) (c_X4_quiet i0 (Int.le_refl _) ) e9.symm (c_X5_quiet i0 (Int.le_refl _) ) (h.fin _ rfl i0 rfl rfl rfl rfl rfl rfl rfl rfl rfl rfl rfl rfl rfl rfl rfl)
set_option maxRecDepth 100000 in
theorem st_bare {G : GX} {S : St} (h : Inv S) {m : Int} (h_m : inR m) : CallOk vi G mX4_bare mX5_bare [vi m] S := by
  obtain ⟨⟨e9, e10, e13, e15, e16, e17, e18, e140, e143⟩, i0, i2, i4, i31, i30, i6, i7, i8, i5⟩ := id h
  exact sA (r := S 0) (c_X4_bare i0 (Int.le_refl _) h_m) e9.symm (c_X5_bare i0 (Int.le_refl _) h_m) (h.fin _ rfl i0 rfl rfl rfl rfl rfl rfl rfl rfl rfl rfl rfl rfl rfl rfl rfl)
set_option maxRecDepth 100000 in
theorem st_guise {G : GX} {S : St} (h : Inv S) {m : Int} (h_m : inR m) : CallOk vi G mX4_guise mX5_guise [vi m] S := by
  obtain ⟨⟨e9, e10, e13, e15, e16, e17, e18, e140, e143⟩, i0, i2, i4, i31, i30, i6, i7, i8, i5⟩ := id h
  exact sA (r := S 0) (c_X4_guise i0 (Int.le_refl _) h_m) e9.symm (c_X5_guise i0 (Int.le_refl _) h_m) (h.fin _ rfl i0 rfl rfl rfl rfl rfl rfl rfl rfl rfl rfl rfl rfl rfl (m2if _ _ _ _).1 (m2if _ _ _ _).2)
set_option maxRecDepth 100000 in
theorem st_guises {G : GX} {S : St} (h : Inv S) {m : Int} (h_m : inR m) {o : Int} (h_o : inR o) : CallOk vi G mX4_guises mX5_guises [vi m, vi o] S := by
  obtain ⟨⟨e9, e10, e13, e15, e16, e17, e18, e140, e143⟩, i0, i2, i4, i31, i30, i6, i7, i8, i5⟩ := id h
  exact sA (r := S 0) (c_X4_guises i0 (Int.le_refl _) h_m h_o) e9.symm (c_X5_guises i0 (Int.le_refl _) h_m h_o) (h.fin _ rfl i0 rfl rfl rfl rfl rfl rfl rfl rfl rfl rfl rfl rfl rfl (m2if _ _ _ _).1 (m2if _ _ _ _).2)
set_option maxRecDepth 100000 in
theorem st_swap {G : GX} {S : St} (h : Inv S) : CallOk vi G mX4_swap mX5_swap [] S := by
  obtain ⟨⟨e9, e10, e13, e15, e16, e17, e18, e140, e143⟩, i0, i2, i4, i31, i30, i6, i7, i8, i5⟩ := id h
  exact sA (r := S 0) (c_X4_swap i0 (Int.le_refl _) ) e9.symm (c_X5_swap i0 (Int.le_refl _) ) (h.fin _ rfl i0 rfl rfl rfl rfl rfl rfl rfl rfl rfl rfl rfl rfl rfl rfl rfl)
set_option maxRecDepth 100000 in
theorem st_spare {G : GX} {S : St} (h : Inv S) {k : Int} (h_k : inR k) {w : Int} (h_w : inR w) : CallOk vi G mX4_spare mX5_spare [vi k, vi w] S := by
  obtain ⟨⟨e9, e10, e13, e15, e16, e17, e18, e140, e143⟩, i0, i2, i4, i31, i30, i6, i7, i8, i5⟩ := id h
  exact sA (r := S 0) (c_X4_spare i0 (Int.le_refl _) h_k h_w) e9.symm (c_X5_spare i0 (Int.le_refl _) h_k h_w) (h.fin _ rfl i0 rfl rfl rfl rfl rfl rfl rfl rfl rfl rfl rfl rfl rfl rfl rfl)
set_option maxRecDepth 100000 in
theorem st_kind {G : GX} {S : St} (h : Inv S) {p : Int} (h_p : inR p) : CallOk vi G mX4_kind mX5_kind [vi p] S := by
  obtain ⟨⟨e9, e10, e13, e15, e16, e17, e18, e140, e143⟩, i0, i2, i4, i31, i30, i6, i7, i8, i5⟩ := id h
  exact sA (r := S 0) (c_X4_kind i0 (Int.le_refl _) h_p) e9.symm (c_X5_kind i0 (Int.le_refl _) h_p) (h.fin _ rfl i0 rfl rfl rfl rfl rfl rfl rfl rfl rfl rfl rfl rfl rfl (m2if _ _ _ _).1 (m2if _ _ _ _).2)
set_option maxRecDepth 100000 in
theorem st_most {G : GX} {S : St} (h : Inv S) {p : Int} (h_p : inR p) {k : Int} (h_k : inR k) : CallOk vi G mX4_most mX5_most [vi p, vi k] S := by
  obtain ⟨⟨e9, e10, e13, e15, e16, e17, e18, e140, e143⟩, i0, i2, i4, i31, i30, i6, i7, i8, i5⟩ := id h
  exact sA (r := S 0) (c_X4_most i0 (Int.le_refl _) h_p h_k) e9.symm (c_X5_most i0 (Int.le_refl _) h_p h_k) (h.fin _ rfl i0 rfl rfl rfl rfl rfl rfl rfl rfl rfl rfl rfl rfl rfl rfl rfl)
set_option maxRecDepth 100000 in
theorem st_begin {G : GX} {S : St} (h : Inv S) {k : Int} (h_k : inR k) : CallOk vi G mX4_begin mX5_begin [vi k] S := by
  obtain ⟨⟨e9, e10, e13, e15, e16, e17, e18, e140, e143⟩, i0, i2, i4, i31, i30, i6, i7, i8, i5⟩ := id h
  exact sA (r := S 0) (c_X4_begin i0 (Int.le_refl _) h_k) e9.symm (c_X5_begin i0 (Int.le_refl _) h_k) (h.fin _ rfl i0 rfl rfl rfl rfl rfl rfl rfl rfl rfl rfl rfl rfl rfl (m2if _ _ _ _).1 (m2if _ _ _ _).2)
set_option maxRecDepth 100000 in
theorem st_last {G : GX} {S : St} (h : Inv S) : CallOk vi G mX4_last mX5_last [] S := by
  obtain ⟨⟨e9, e10, e13, e15, e16, e17, e18, e140, e143⟩, i0, i2, i4, i31, i30, i6, i7, i8, i5⟩ := id h
  exact sA (r := S 0) (c_X4_last i0 (Int.le_refl _) ) e9.symm (c_X5_last i0 (Int.le_refl _) ) (h.fin _ rfl i0 rfl rfl rfl rfl rfl rfl rfl rfl rfl rfl rfl rfl rfl rfl rfl)
theorem x5_count {G : GX} {S : St} {l : Int} {r : Row} {b : Int} (hI : IR b r) (hb : b ≤ 99999) {w : Int} (h_w : inR w) (e : S 14 3 = l) (hl : 0 ≤ l ∧ l ≤ 120) : Ev G mX5_count [rf G 31, vi w] (mk G (va_up S 9 r)) (some (vi (v_count r l w))) (mk G (va_up (va_up S 13 (tl (S 13) (v_count r l w))) 9 (r))) := by
  subst e; exact c_X5_count hI hb h_w hl
theorem x5_status {G : GX} {S : St} {r d : Row} (e : S 13 = d) (hT : ∀ i, 0 ≤ i → i < 7 → 0 ≤ d i) {w : Int} (h_w : inR w) : Ev G mX5_status [rf G 31, vi w] (mk G (va_up S 9 r)) (some (vi (v_status d w))) (mk G (va_up (va_up S 13 (tl (S 13) (v_status d w))) 9 r)) := by
  subst e; exact c_X5_status hT h_w
theorem x5_undo {G : GX} {S : St} {r kr : Row} {k : Int} (e0 : S 14 0 = k) (e1 : S 10 = kr) (hk : k = 0 ∨ k = 1) {b2 : Int} (hI2 : IR b2 kr) : Ev G mX5_undo [rf G 31] (mk G (va_up S 9 r)) (some (vi (v_undo k kr))) (mk G (va_up (va_up S 13 (tl (S 13) (v_undo k kr))) 9 (r_undo k r kr))) := by
  subst e0; subst e1; exact c_X5_undo hk hI2
theorem x5_tear {G : GX} {S : St} {k : Int} (e0 : S 14 0 = k) (hk : k = 0 ∨ k = 1) : Ev G mX5_tear [rf G 31] (mk G S) (some (vi (v_tear k))) (mk G (va_up S 14 (uz (S 14) 0 0))) := by
  subst e0; exact c_X5_tear hk
theorem x5_wipe {G : GX} {S : St} {l : Int} (e : S 14 3 = l) : Ev G mX5_wipe [rf G 31] (mk G S) (some (vi l)) (mk G (va_up S 14 (uz (S 14) 3 0))) := by
  subst e; exact c_X5_wipe
theorem x5_feed {G : GX} {S : St} {l : Int} {t d : Row} (e : S 14 3 = l) (et : S 15 = t) (ed : S 13 = d) (hl : 0 ≤ l ∧ l ≤ 120) {by_ k : Int} (h_k : inR k) : Ev G mX5_feed [rf G 31, vi by_, vi k] (mk G S) (some (vi (v_feed l k))) (mk G (va_up (va_up (va_up S 13 (tl d (v_feed l k))) 15 (t_feed t l by_ k)) 14 (uz (S 14) 3 (l_feed l k)))) := by
  subst e; subst et; subst ed; exact c_X5_feed hl h_k
theorem f4R {f : Row} {P : Int → Prop} (h : ∀ i, 0 ≤ i → i < 4 → P (f i)) : ∀ q : Fin 4, P (f q) := fun q => h q (by omega) (by have := q.isLt; omega)
theorem x5_write {G : GX} {S : St} {bi le nu d : Row} (e6 : S 16 = bi) (e7 : S 17 = le) (e8 : S 18 = nu) (ed : S 13 = d) (hb6 : ∀ i, 0 ≤ i → i < 4 → inR (bi i)) (hle : ∀ i, 0 ≤ i → i < 4 → 0 ≤ le i ∧ le i ≤ 40) {s i v : Int} (h_s : inR s) (h_i : inR i) : Ev G mX5_write [rf G 31, vi s, vi i, vl v] (mk G S) (some (vl (v_write bi le nu s i))) (mk G (va_up (va_up S 13 (t_write d bi le s i)) 18 (n_write bi le nu s i v))) := by
  subst e6; subst e7; subst e8; subst ed; exact c_X5_write hb6 hle h_s h_i
theorem x5_copy {G : GX} {S : St} {bi le nu d : Row} (e6 : S 16 = bi) (e7 : S 17 = le) (e8 : S 18 = nu) (ed : S 13 = d) (hb6 : ∀ i, 0 ≤ i → i < 4 → inR (bi i)) (hle : ∀ i, 0 ≤ i → i < 4 → 0 ≤ le i ∧ le i ≤ 40) {s : Int} (h_s : inR s) {f : Int} (h_f : inR f) {t : Int} (h_t : inR t) {o : Int} (h_o : inR o) {k : Int} (h_k : inR k) : ∃ m : Row, Ev G mX5_copy [rf G 31, vi s, vi f, vi t, vi o, vi k] (mk G S) (some (vi (v_copy bi le s f t o k))) (mk G (va_up (va_up (va_up S 13 (tl d (v_copy bi le s f t o k))) 19 m) 18 (n_copy bi le nu s f t o k))) := by
  subst e6; subst e7; subst e8; subst ed; exact ⟨_, c_X5_copy hb6 hle h_s h_f h_t h_o h_k⟩
theorem x5_lays {G : GX} {S : St} {r bi le nu : Row} {b : Int} (hI : IR b r) (hb : b ≤ 99999) (e6 : S 16 = bi) (e7 : S 17 = le) (e8 : S 18 = nu) (hb6 : ∀ i, 0 ≤ i → i < 4 → inR (bi i)) (hle : ∀ i, 0 ≤ i → i < 4 → 0 ≤ le i ∧ le i ≤ 40) (hnu : ∀ i, 0 ≤ i → i < 160 → inL (nu i)) {s : Int} (h_s : inR s) : Ev G mX5_lays [rf G 31, vi s] (mk G (va_up S 9 r)) (some (vi (v_lays r bi le nu s))) (mk G (va_up (va_up S 13 (tl (S 13) (v_lays r bi le nu s))) 9 (r_lays r bi le nu s))) := by
  subst e6; subst e7; subst e8; exact c_X5_lays hI hb hb6 hle hnu h_s
theorem x5_book {G : GX} {S : St} {r bi le nu : Row} {b : Int} (hI : IR b r) (hb : b ≤ 99999) (e6 : S 16 = bi) (e7 : S 17 = le) (e8 : S 18 = nu) (hb6 : ∀ i, 0 ≤ i → i < 4 → inR (bi i)) (hle : ∀ i, 0 ≤ i → i < 4 → 0 ≤ le i ∧ le i ≤ 40) {s p : Int} (h_s : inR s) (h_p : inR p) : Ev G mX5_book [rf G 31, vi s, vi p] (mk G (va_up S 9 r)) (some (vi (v_book r bi le s p))) (mk G (if mB r bi s p = 0 then va_up (va_up (va_up S 12 r) 18 (n_book r bi le nu s p)) 9 r else va_up (va_up S 13 (tl (S 13) (mB r bi s p))) 9 r)) := by
  subst e6; subst e7; subst e8; exact c_X5_book hI hb hb6 hle h_s h_p
theorem x5_read {G : GX} {S : St} {r bi le nu : Row} {b : Int} (hI : IR b r) (hb : b ≤ 99999) (e6 : S 16 = bi) (e7 : S 17 = le) (e8 : S 18 = nu) (hb6 : ∀ i, 0 ≤ i → i < 4 → inR (bi i)) (hle : ∀ i, 0 ≤ i → i < 4 → 0 ≤ le i ∧ le i ≤ 40) (hnu : ∀ i, 0 ≤ i → i < 160 → inL (nu i)) {s p : Int} (h_s : inR s) (h_p : inR p) : Ev G mX5_read [rf G 31, vi s, vi p] (mk G (va_up S 9 r)) (some (vi (v_read r bi le nu s p))) (mk G (if mB r bi s p = 0 then va_up (va_up S 12 r) 9 r else va_up (va_up S 13 (tl (S 13) (mB r bi s p))) 9 r)) := by
  subst e6; subst e7; subst e8; exact c_X5_read hI hb hb6 hle hnu h_s h_p
set_option maxRecDepth 100000 in
theorem st_count {G : GX} {S : St} (h : Inv S) {w : Int} (h_w : inR w) : CallOk vi G mX4_count mX5_count [vi w] S := by
  obtain ⟨⟨e9, e10, e13, e15, e16, e17, e18, e140, e143⟩, i0, i2, i4, i31, i30, i6, i7, i8, i5⟩ := id h
  exact sA (r := S 0) (c_X4_count i0 (Int.le_refl _) h_w i31) e9.symm (x5_count i0 (Int.le_refl _) h_w (by exact e143.symm) i31) (h.fin _ rfl i0 rfl rfl rfl rfl rfl rfl rfl rfl rfl rfl rfl rfl rfl rfl rfl)
set_option maxRecDepth 100000 in
theorem st_status {G : GX} {S : St} (h : Inv S) {w : Int} (h_w : inR w) : CallOk vi G mX4_status mX5_status [vi w] S := by
  obtain ⟨⟨e9, e10, e13, e15, e16, e17, e18, e140, e143⟩, i0, i2, i4, i31, i30, i6, i7, i8, i5⟩ := id h
  exact sA (r := S 0) (c_X4_status i5 h_w) e9.symm (x5_status (d := S 5) (by exact e13.symm) i5 h_w) (h.fin _ rfl i0 rfl rfl rfl rfl rfl rfl rfl rfl rfl rfl rfl rfl rfl rfl rfl)
set_option maxRecDepth 100000 in
theorem st_undo {G : GX} {S : St} (h : Inv S) : CallOk vi G mX4_undo mX5_undo [] S := by
  obtain ⟨⟨e9, e10, e13, e15, e16, e17, e18, e140, e143⟩, i0, i2, i4, i31, i30, i6, i7, i8, i5⟩ := id h
  have h4 := c_X4_undo (G := G) (S := S) i0 (Int.le_refl _) i30 i2.1
  rcases e10 with hk0 | e2
  · have h5 := x5_undo (G := G) (S := va_up (va_up S 5 (tl (S 5) (v_undo (S 3 0) (S 2)))) 0 (r_undo (S 3 0) (S 0) (S 2))) (r := S 0) (k := S 3 0) (kr := S 10) e140.symm rfl i30 i2.2
    rw [show v_undo (S 3 0) (S 10) = v_undo (S 3 0) (S 2) from by unfold v_undo; rw [if_pos hk0, if_pos hk0], show r_undo (S 3 0) (S 0) (S 10) = r_undo (S 3 0) (S 0) (S 2) from by unfold r_undo; rw [if_pos hk0, if_pos hk0]] at h5
    exact sA (r := S 0) h4 e9.symm h5 (h.fin _ rfl (ir_undo i0 i2.1) rfl rfl rfl rfl rfl rfl rfl rfl rfl rfl rfl rfl rfl rfl rfl)
  · have h5 := x5_undo (G := G) (S := va_up (va_up S 5 (tl (S 5) (v_undo (S 3 0) (S 2)))) 0 (r_undo (S 3 0) (S 0) (S 2))) (r := S 0) (k := S 3 0) (kr := S 2) e140.symm e2.symm i30 i2.1
    exact sA (r := S 0) h4 e9.symm h5 (h.fin _ rfl (ir_undo i0 i2.1) rfl rfl rfl rfl rfl rfl rfl rfl rfl rfl rfl rfl rfl rfl rfl)
set_option maxRecDepth 100000 in
theorem st_lays {G : GX} {S : St} (h : Inv S) {s : Int} (h_s : inR s) : CallOk vi G mX4_lays mX5_lays [vi s] S := by
  obtain ⟨⟨e9, e10, e13, e15, e16, e17, e18, e140, e143⟩, i0, i2, i4, i31, i30, i6, i7, i8, i5⟩ := id h
  exact sA (r := S 0) (c_X4_lays i0 (Int.le_refl _) (f4R i6) (f4R (P := fun z => 0 ≤ z ∧ z ≤ 40) i7) i8 h_s) e9.symm (x5_lays (bi := S 6) (le := S 7) (nu := S 8) i0 (Int.le_refl _) (by exact e16.symm) (by exact e17.symm) (by exact e18.symm) i6 i7 i8 h_s) (h.fin _ rfl (ir_lays i0) rfl rfl rfl rfl rfl rfl rfl rfl rfl rfl rfl rfl rfl rfl rfl)
set_option maxRecDepth 100000 in
theorem st_image {G : GX} {S : St} (h : Inv S) : CallOk vi G mX4_image mX5_image [] S := by
  obtain ⟨⟨e9, e10, e13, e15, e16, e17, e18, e140, e143⟩, i0, i2, i4, i31, i30, i6, i7, i8, i5⟩ := id h
  exact sA (r := S 0) c_X4_image e9.symm c_X5_image ⟨⟨rfl, Or.inr rfl, e13, e15, e16, e17, e18, rfl, e143⟩, i0, ⟨i0, i0⟩, i4, i31, Or.inr rfl, i6, i7, i8, i5⟩
set_option maxRecDepth 100000 in
theorem st_tear {G : GX} {S : St} (h : Inv S) : CallOk vi G mX4_tear mX5_tear [] S := by
  obtain ⟨⟨e9, e10, e13, e15, e16, e17, e18, e140, e143⟩, i0, i2, i4, i31, i30, i6, i7, i8, i5⟩ := id h
  exact sB (c_X4_tear i30) (x5_tear (by exact e140.symm) i30) ⟨⟨e9, Or.inl rfl, e13, e15, e16, e17, e18, rfl, e143⟩, i0, i2, i4, i31, Or.inl rfl, i6, i7, i8, i5⟩
set_option maxRecDepth 100000 in
theorem st_wipe {G : GX} {S : St} (h : Inv S) : CallOk vi G mX4_wipe mX5_wipe [] S := by
  obtain ⟨⟨e9, e10, e13, e15, e16, e17, e18, e140, e143⟩, i0, i2, i4, i31, i30, i6, i7, i8, i5⟩ := id h
  exact sB c_X4_wipe (x5_wipe (by exact e143.symm)) ⟨⟨e9, e10, e13, e15, e16, e17, e18, e140, rfl⟩, i0, i2, i4, ⟨Int.le_refl 0, by show (0 : Int) ≤ 120; omega⟩, i30, i6, i7, i8, i5⟩
set_option maxRecDepth 100000 in
theorem st_feed {G : GX} {S : St} (h : Inv S) {a : Int} (h_a : inR a) {k : Int} (h_k : inR k) : CallOk vi G mX4_feed mX5_feed [vi a, vi k] S := by
  obtain ⟨⟨e9, e10, e13, e15, e16, e17, e18, e140, e143⟩, i0, i2, i4, i31, i30, i6, i7, i8, i5⟩ := id h
  exact sB (c_X4_feed i31 h_k) (x5_feed (l := S 3 1) (t := S 4) (d := S 5) (by exact e143.symm) (by exact e15.symm) (by exact e13.symm) i31 h_k) ⟨⟨e9, e10, rfl, rfl, e16, e17, e18, e140, rfl⟩, i0, i2, t_feed_b i4, l_feed_b i31, i30, i6, i7, i8, tl_nn i5⟩
set_option maxRecDepth 100000 in
theorem st_write {G : GX} {S : St} (h : Inv S) {s : Int} (h_s : inR s) {i : Int} (h_i : inR i) {v : Int} (hv : inL v) : CallOk vl G mX4_write mX5_write [vi s, vi i, vl v] S := by
  obtain ⟨⟨e9, e10, e13, e15, e16, e17, e18, e140, e143⟩, i0, i2, i4, i31, i30, i6, i7, i8, i5⟩ := id h
  exact sB (f := vl) (c_X4_write (f4R i6) (f4R (P := fun z => 0 ≤ z ∧ z ≤ 40) i7) h_s h_i) (x5_write (bi := S 6) (le := S 7) (nu := S 8) (d := S 5) (by exact e16.symm) (by exact e17.symm) (by exact e18.symm) (by exact e13.symm) i6 i7 h_s h_i) ⟨⟨e9, e10, rfl, e15, e16, e17, rfl, e140, e143⟩, i0, i2, i4, i31, i30, i6, i7, n_write_L i8 hv, t_write_nn i5⟩
set_option maxRecDepth 100000 in
theorem st_copy {G : GX} {S : St} (h : Inv S) {s : Int} (h_s : inR s) {f : Int} (h_f : inR f) {t : Int} (h_t : inR t) {o : Int} (h_o : inR o) {k : Int} (h_k : inR k) : CallOk vi G mX4_copy mX5_copy [vi s, vi f, vi t, vi o, vi k] S := by
  obtain ⟨⟨e9, e10, e13, e15, e16, e17, e18, e140, e143⟩, i0, i2, i4, i31, i30, i6, i7, i8, i5⟩ := id h
  obtain ⟨m, h5⟩ := x5_copy (G := G) (S := va_up (va_up S 5 (tl (S 5) (v_copy (S 6) (S 7) s f t o k))) 8 (n_copy (S 6) (S 7) (S 8) s f t o k)) (bi := S 6) (le := S 7) (nu := S 8) (d := S 5) (by exact e16.symm) (by exact e17.symm) (by exact e18.symm) (by exact e13.symm) i6 i7 h_s h_f h_t h_o h_k
  exact sB (c_X4_copy (f4R i6) (f4R (P := fun z => 0 ≤ z ∧ z ≤ 40) i7) h_s h_f h_t h_o h_k) h5 ⟨⟨e9, e10, rfl, e15, e16, e17, rfl, e140, e143⟩, i0, i2, i4, i31, i30, i6, i7, n_copy_L i8 i7, tl_nn i5⟩
set_option maxRecDepth 100000 in
theorem st_sheet {G : GX} {S : St} (h : Inv S) {s : Int} (h_s : inR s) {w : Int} (h_w : inR w) {k : Int} (h_k : inR k) : CallOk vi G mX4_sheet mX5_sheet [vi s, vi w, vi k] S := by
  obtain ⟨⟨e9, e10, e13, e15, e16, e17, e18, e140, e143⟩, i0, i2, i4, i31, i30, i6, i7, i8, i5⟩ := id h
  have h4 := c_X4_sheet (G := G) (S := S) (f4R i6) h_s h_w h_k
  by_cases q : okS s w k
  · rw [if_pos q] at h4
    have h5 := c_X5_sheet (G := G) (S := va_up (va_up (va_up S 6 (uz (S 6) s w)) 7 (uz (S 7) s (if w = 0 then 0 else k))) 8 (zer (S 8) s)) h_s h_w h_k
    rw [if_pos q] at h5
    obtain ⟨⟨q1, q2⟩, q3, q4⟩ := q
    exact sB h4 h5 ⟨⟨e9, e10, e13, e15, congrArg (fun t => uz t s w) e16, congrArg (fun t => uz t s (if w = 0 then 0 else k)) e17, congrArg (fun t => zer t s) e18, e140, e143⟩, i0, i2, i4, i31, i30, fun i a c => by { show inR (uz (S 6) s w i); unfold uz; split; exact h_w; exact i6 i a c }, fun i a c => by { show 0 ≤ uz (S 7) s (if w = 0 then 0 else k) i ∧ uz (S 7) s (if w = 0 then 0 else k) i ≤ 40; unfold uz; split; split <;> omega; exact i7 i a c }, fun i a c => by { show inL (zer (S 8) s i); unfold zer; split; exact inR_L ⟨by omega, by omega⟩; exact i8 i a c }, i5⟩
  · rw [if_neg q] at h4
    have h5 := c_X5_sheet (G := G) (S := va_up S 5 (tl (S 5) (v_sheet s w k))) h_s h_w h_k
    rw [if_neg q] at h5
    exact sB h4 h5 (h.fin _ e9 i0 rfl rfl rfl rfl rfl rfl rfl rfl rfl rfl rfl rfl rfl rfl rfl)
set_option maxRecDepth 100000 in
theorem st_book {G : GX} {S : St} (h : Inv S) {s : Int} (h_s : inR s) {p : Int} (h_p : inR p) : CallOk vi G mX4_book mX5_book [vi s, vi p] S := by
  obtain ⟨⟨e9, e10, e13, e15, e16, e17, e18, e140, e143⟩, i0, i2, i4, i31, i30, i6, i7, i8, i5⟩ := id h
  have h4 := c_X4_book (G := G) (S := S) i0 (Int.le_refl _) (f4R i6) (f4R (P := fun z => 0 ≤ z ∧ z ≤ 40) i7) h_s h_p
  by_cases q : mB (S 0) (S 6) s p = 0
  · rw [if_pos q] at h4
    have h5 := x5_book (G := G) (S := va_up (va_up S 1 (minsR (S 7 s).toNat (S 0))) 8 (n_book (S 0) (S 6) (S 7) (S 8) s p)) (bi := S 6) (le := S 7) (nu := S 8) i0 (Int.le_refl _) (by exact e16.symm) (by exact e17.symm) (by exact e18.symm) i6 i7 h_s h_p
    rw [if_pos q] at h5
    exact sA (r := S 0) h4 e9.symm h5 ⟨⟨rfl, e10, e13, e15, e16, e17, rfl, e140, e143⟩, i0, i2, i4, i31, i30, i6, i7, n_book_L i0 i8, i5⟩
  · rw [if_neg q] at h4
    have h5 := x5_book (G := G) (S := va_up S 5 (tl (S 5) (mB (S 0) (S 6) s p))) (bi := S 6) (le := S 7) (nu := S 8) i0 (Int.le_refl _) (by exact e16.symm) (by exact e17.symm) (by exact e18.symm) i6 i7 h_s h_p
    rw [if_neg q] at h5
    exact sA (r := S 0) h4 (by exact e9.symm) h5 (h.fin _ rfl i0 rfl rfl rfl rfl rfl rfl rfl rfl rfl rfl rfl rfl rfl rfl rfl)
set_option maxRecDepth 100000 in
theorem st_read {G : GX} {S : St} (h : Inv S) {s : Int} (h_s : inR s) {p : Int} (h_p : inR p) : CallOk vi G mX4_read mX5_read [vi s, vi p] S := by
  obtain ⟨⟨e9, e10, e13, e15, e16, e17, e18, e140, e143⟩, i0, i2, i4, i31, i30, i6, i7, i8, i5⟩ := id h
  have h4 := c_X4_read (G := G) (S := S) i0 (Int.le_refl _) (f4R i6) (f4R (P := fun z => 0 ≤ z ∧ z ≤ 40) i7) i8 h_s h_p
  by_cases q : mB (S 0) (S 6) s p = 0
  · rw [if_pos q] at h4
    have h5 := x5_read (G := G) (S := va_up S 1 (rdL (fun k => S 8 (40 * s + k)) (S 7 s).toNat (S 0) p 600 0 (0, S 1)).2) (bi := S 6) (le := S 7) (nu := S 8) i0 (Int.le_refl _) (by exact e16.symm) (by exact e17.symm) (by exact e18.symm) i6 i7 i8 h_s h_p
    rw [if_pos q] at h5
    exact sA (r := S 0) h4 e9.symm h5 ⟨⟨rfl, e10, e13, e15, e16, e17, e18, e140, e143⟩, i0, i2, i4, i31, i30, i6, i7, i8, i5⟩
  · rw [if_neg q] at h4
    have h5 := x5_read (G := G) (S := va_up S 5 (tl (S 5) (mB (S 0) (S 6) s p))) (bi := S 6) (le := S 7) (nu := S 8) i0 (Int.le_refl _) (by exact e16.symm) (by exact e17.symm) (by exact e18.symm) i6 i7 i8 h_s h_p
    rw [if_neg q] at h5
    exact sA (r := S 0) h4 (by exact e9.symm) h5 (h.fin _ rfl i0 rfl rfl rfl rfl rfl rfl rfl rfl rfl rfl rfl rfl rfl rfl rfl)
theorem x5_fell {G : GX} {S : St} {r t : Row} {l : Int} (e9 : S 9 = r) (e3 : S 14 3 = l) (et : S 15 = t) (hl : 0 ≤ l ∧ l ≤ 120) (hy : ∀ i, 0 ≤ i → i < 120 → 0 ≤ t i ∧ t i ≤ 255) {b : Int} (hI : IR b r) : Ev G mX5_fell [rf G 31] (mk G S) (some (vi (felV l (felL t l 120 1 (itemS t l (r, tkA t l 0, tkB t l (tkA t l 0), S 14 6, 0)))))) (mk G (Zt (va_up S 11 r) (S 14 0) (S 14 1) (S 14 2) 0 (felE r l (felL t l 120 1 (itemS t l (r, tkA t l 0, tkB t l (tkA t l 0), S 14 6, 0))).2))) := by
  subst e9; subst e3; subst et
  have h := c_X5_fell (G := G) (S := S) (k := S 14 0) (x := S 14 1) (y := S 14 2) (l := S 14 3) (p := (S 9, S 14 4, S 14 5, S 14 6, S 14 7)) hl hy hI
  have e : mk G (Zt S (S 14 0) (S 14 1) (S 14 2) (S 14 3) (S 9, S 14 4, S 14 5, S 14 6, S 14 7)) = mk G S := by
    rw [mk_mp (S := S)]
    unfold Zt
    rw [show va_up S 9 (S 9, S 14 4, S 14 5, S 14 6, S 14 7).1 = S from vup_same S 9]
  rw [e] at h
  exact h
theorem felE_IR {a : Row} {l b : Int} {q : P5} (h : IR b a) (hq : IR b q.1) : IR b (felE a l q).1 := by
  unfold felE; split
  · exact h
  · exact hq
set_option maxRecDepth 100000 in
theorem st_fell {G : GX} {S : St} (h : Inv S) : CallOk vi G mX4_fell mX5_fell [] S := by
  obtain ⟨⟨e9, e10, e13, e15, e16, e17, e18, e140, e143⟩, i0, i2, i4, i31, i30, i6, i7, i8, i5⟩ := id h
  have hF := felL_IR (t := S 4) (l := S 3 1) 120 1 (itemS (S 4) (S 3 1) (S 0, tkA (S 4) (S 3 1) 0, tkB (S 4) (S 3 1) (tkA (S 4) (S 3 1) 0), S 14 6, 0)) (item_IR (p := (S 0, tkA (S 4) (S 3 1) 0, tkB (S 4) (S 3 1) (tkA (S 4) (S 3 1) 0), S 14 6, 0)) i0).1
  exact sB (c_X4_fell (S 14 6) i31 i4 i0) (x5_fell (r := S 0) (t := S 4) (l := S 3 1) (by exact e9.symm) (by exact e143.symm) (by exact e15.symm) i31 i4 i0) ⟨⟨rfl, e10, e13, e15, e16, e17, e18, e140, rfl⟩, felE_IR i0 hF, i2, i4, ⟨Int.le_refl 0, by show (0 : Int) ≤ 120; omega⟩, i30, i6, i7, i8, i5⟩
