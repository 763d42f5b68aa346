theorem g0_minute {G : GX} {S : St} : fld (mk G S) (fo 0) 0 0 (vi (S 0 2)) := gf_minute (j := 0)
theorem g0t_minute {G : GX} {S : St} {r : Row} : fld (mk G (va_up S 1 r)) (fo 0) 0 0 (vi (S 0 2)) := gf_minute (j := 0)
theorem g1q_minute {G : GX} {S : St} {r : Row} : fld (mk G (va_up S 1 r)) (fo 1) 0 0 (vi (r 2)) := gf_minute (j := 1)
theorem p0_minute {G : GX} {S : St} {v : Int} : put (mk G S) (fo 0) 0 0 (vi v) (mk G (va_up S 0 (uz (S 0) 2 v))) := pf_minute (j := 0)
theorem p1q_minute {G : GX} {S : St} {r : Row} {v : Int} : put (mk G (va_up S 1 r)) (fo 1) 0 0 (vi v) (mk G (va_up S 1 (uz r 2 v))) := pq_minute (j := 1)
theorem g0_last {G : GX} {S : St} : fld (mk G S) (fo 0) 0 1 (vi (S 0 3)) := gf_last (j := 0)
theorem g0t_last {G : GX} {S : St} {r : Row} : fld (mk G (va_up S 1 r)) (fo 0) 0 1 (vi (S 0 3)) := gf_last (j := 0)
theorem g1q_last {G : GX} {S : St} {r : Row} : fld (mk G (va_up S 1 r)) (fo 1) 0 1 (vi (r 3)) := gf_last (j := 1)
theorem p0_last {G : GX} {S : St} {v : Int} : put (mk G S) (fo 0) 0 1 (vi v) (mk G (va_up S 0 (uz (S 0) 3 v))) := pf_last (j := 0)
theorem p1q_last {G : GX} {S : St} {r : Row} {v : Int} : put (mk G (va_up S 1 r)) (fo 1) 0 1 (vi v) (mk G (va_up S 1 (uz r 3 v))) := pq_last (j := 1)
theorem g0_turn {G : GX} {S : St} : fld (mk G S) (fo 0) 0 2 (vi (S 0 4)) := gf_turn (j := 0)
theorem g0t_turn {G : GX} {S : St} {r : Row} : fld (mk G (va_up S 1 r)) (fo 0) 0 2 (vi (S 0 4)) := gf_turn (j := 0)
theorem g1q_turn {G : GX} {S : St} {r : Row} : fld (mk G (va_up S 1 r)) (fo 1) 0 2 (vi (r 4)) := gf_turn (j := 1)
theorem p0_turn {G : GX} {S : St} {v : Int} : put (mk G S) (fo 0) 0 2 (vi v) (mk G (va_up S 0 (uz (S 0) 4 v))) := pf_turn (j := 0)
theorem p1q_turn {G : GX} {S : St} {r : Row} {v : Int} : put (mk G (va_up S 1 r)) (fo 1) 0 2 (vi v) (mk G (va_up S 1 (uz r 4 v))) := pq_turn (j := 1)
theorem g0_manCount {G : GX} {S : St} : fld (mk G S) (fo 0) 0 3 (vi (S 0 1)) := gf_manCount (j := 0)
theorem g0t_manCount {G : GX} {S : St} {r : Row} : fld (mk G (va_up S 1 r)) (fo 0) 0 3 (vi (S 0 1)) := gf_manCount (j := 0)
theorem g1q_manCount {G : GX} {S : St} {r : Row} : fld (mk G (va_up S 1 r)) (fo 1) 0 3 (vi (r 1)) := gf_manCount (j := 1)
theorem p0_manCount {G : GX} {S : St} {v : Int} : put (mk G S) (fo 0) 0 3 (vi v) (mk G (va_up S 0 (uz (S 0) 1 v))) := pf_manCount (j := 0)
theorem p1q_manCount {G : GX} {S : St} {r : Row} {v : Int} : put (mk G (va_up S 1 r)) (fo 1) 0 3 (vi v) (mk G (va_up S 1 (uz r 1 v))) := pq_manCount (j := 1)
theorem g0_sheepCount {G : GX} {S : St} : fld (mk G S) (fo 0) 0 6 (vi (S 0 0)) := gf_sheepCount (j := 0)
theorem g0t_sheepCount {G : GX} {S : St} {r : Row} : fld (mk G (va_up S 1 r)) (fo 0) 0 6 (vi (S 0 0)) := gf_sheepCount (j := 0)
theorem g1q_sheepCount {G : GX} {S : St} {r : Row} : fld (mk G (va_up S 1 r)) (fo 1) 0 6 (vi (r 0)) := gf_sheepCount (j := 1)
theorem p0_sheepCount {G : GX} {S : St} {v : Int} : put (mk G S) (fo 0) 0 6 (vi v) (mk G (va_up S 0 (uz (S 0) 0 v))) := pf_sheepCount (j := 0)
theorem p1q_sheepCount {G : GX} {S : St} {r : Row} {v : Int} : put (mk G (va_up S 1 r)) (fo 1) 0 6 (vi v) (mk G (va_up S 1 (uz r 0 v))) := pq_sheepCount (j := 1)
theorem g0_guises {G : GX} {S : St} : fld (mk G S) (fo 0) 0 4 (rf G (fg 0)) := gf_guises (j := 0)
theorem g0t_guises {G : GX} {S : St} {r : Row} : fld (mk G (va_up S 1 r)) (fo 0) 0 4 (rf G (fg 0)) := gf_guises (j := 0)
theorem g1q_guises {G : GX} {S : St} {r : Row} : fld (mk G (va_up S 1 r)) (fo 1) 0 4 (rf G (fg 1)) := gf_guises (j := 1)
theorem al0_guises {G : GX} {S : St} : ald G (mk G S) (fg 0) 6 (fun i => S 0 (5 + 2 * i)) := al_guises (j := 0)
theorem al0t_guises {G : GX} {S : St} {r : Row} : ald G (mk G (va_up S 1 r)) (fg 0) 6 (fun i => S 0 (5 + 2 * i)) := al_guises (j := 0)
theorem al1q_guises {G : GX} {S : St} {r : Row} : ald G (mk G (va_up S 1 r)) (fg 1) 6 (fun i => r (5 + 2 * i)) := al_guises (j := 1)
theorem as0_guises {G : GX} {S : St} {m v : Int} (h0 : 0 ≤ m) (hm : m < 6) : va_up (mk G S) (fg 0) (ia G 6 (uz (fun i => S 0 (5 + 2 * i)) m v)) = mk G (va_up S 0 (uz (S 0) (5 + 2 * m) v)) := as_guises (j := 0) h0 hm
theorem as1q_guises {G : GX} {S : St} {r : Row} {m v : Int} (h0 : 0 ≤ m) (hm : m < 6) : va_up (mk G (va_up S 1 r)) (fg 1) (ia G 6 (uz (fun i => r (5 + 2 * i)) m v)) = mk G (va_up S 1 (uz r (5 + 2 * m) v)) := asq_guises (j := 1) h0 hm
theorem g0_wears {G : GX} {S : St} : fld (mk G S) (fo 0) 0 5 (rf G (fw 0)) := gf_wears (j := 0)
theorem g0t_wears {G : GX} {S : St} {r : Row} : fld (mk G (va_up S 1 r)) (fo 0) 0 5 (rf G (fw 0)) := gf_wears (j := 0)
theorem g1q_wears {G : GX} {S : St} {r : Row} : fld (mk G (va_up S 1 r)) (fo 1) 0 5 (rf G (fw 1)) := gf_wears (j := 1)
theorem al0_wears {G : GX} {S : St} : ald G (mk G S) (fw 0) 6 (fun i => S 0 (6 + 2 * i)) := al_wears (j := 0)
theorem al0t_wears {G : GX} {S : St} {r : Row} : ald G (mk G (va_up S 1 r)) (fw 0) 6 (fun i => S 0 (6 + 2 * i)) := al_wears (j := 0)
theorem al1q_wears {G : GX} {S : St} {r : Row} : ald G (mk G (va_up S 1 r)) (fw 1) 6 (fun i => r (6 + 2 * i)) := al_wears (j := 1)
theorem as0_wears {G : GX} {S : St} {m v : Int} (h0 : 0 ≤ m) (hm : m < 6) : va_up (mk G S) (fw 0) (ia G 6 (uz (fun i => S 0 (6 + 2 * i)) m v)) = mk G (va_up S 0 (uz (S 0) (6 + 2 * m) v)) := as_wears (j := 0) h0 hm
theorem as1q_wears {G : GX} {S : St} {r : Row} {m v : Int} (h0 : 0 ≤ m) (hm : m < 6) : va_up (mk G (va_up S 1 r)) (fw 1) (ia G 6 (uz (fun i => r (6 + 2 * i)) m v)) = mk G (va_up S 1 (uz r (6 + 2 * m) v)) := asq_wears (j := 1) h0 hm
theorem g0_kinds {G : GX} {S : St} : fld (mk G S) (fo 0) 0 7 (rf G (fk 0)) := gf_kinds (j := 0)
theorem g0t_kinds {G : GX} {S : St} {r : Row} : fld (mk G (va_up S 1 r)) (fo 0) 0 7 (rf G (fk 0)) := gf_kinds (j := 0)
theorem g1q_kinds {G : GX} {S : St} {r : Row} : fld (mk G (va_up S 1 r)) (fo 1) 0 7 (rf G (fk 1)) := gf_kinds (j := 1)
theorem al0_kinds {G : GX} {S : St} : ald G (mk G S) (fk 0) 8 (fun i => S 0 (17 + 3 * i)) := al_kinds (j := 0)
theorem al0t_kinds {G : GX} {S : St} {r : Row} : ald G (mk G (va_up S 1 r)) (fk 0) 8 (fun i => S 0 (17 + 3 * i)) := al_kinds (j := 0)
theorem al1q_kinds {G : GX} {S : St} {r : Row} : ald G (mk G (va_up S 1 r)) (fk 1) 8 (fun i => r (17 + 3 * i)) := al_kinds (j := 1)
theorem as0_kinds {G : GX} {S : St} {m v : Int} (h0 : 0 ≤ m) (hm : m < 8) : va_up (mk G S) (fk 0) (ia G 8 (uz (fun i => S 0 (17 + 3 * i)) m v)) = mk G (va_up S 0 (uz (S 0) (17 + 3 * m) v)) := as_kinds (j := 0) h0 hm
theorem as1q_kinds {G : GX} {S : St} {r : Row} {m v : Int} (h0 : 0 ≤ m) (hm : m < 8) : va_up (mk G (va_up S 1 r)) (fk 1) (ia G 8 (uz (fun i => r (17 + 3 * i)) m v)) = mk G (va_up S 1 (uz r (17 + 3 * m) v)) := asq_kinds (j := 1) h0 hm
theorem g0_wants {G : GX} {S : St} : fld (mk G S) (fo 0) 0 8 (rf G (fn 0)) := gf_wants (j := 0)
theorem g0t_wants {G : GX} {S : St} {r : Row} : fld (mk G (va_up S 1 r)) (fo 0) 0 8 (rf G (fn 0)) := gf_wants (j := 0)
theorem g1q_wants {G : GX} {S : St} {r : Row} : fld (mk G (va_up S 1 r)) (fo 1) 0 8 (rf G (fn 1)) := gf_wants (j := 1)
theorem al0_wants {G : GX} {S : St} : ald G (mk G S) (fn 0) 8 (fun i => S 0 (18 + 3 * i)) := al_wants (j := 0)
theorem al0t_wants {G : GX} {S : St} {r : Row} : ald G (mk G (va_up S 1 r)) (fn 0) 8 (fun i => S 0 (18 + 3 * i)) := al_wants (j := 0)
theorem al1q_wants {G : GX} {S : St} {r : Row} : ald G (mk G (va_up S 1 r)) (fn 1) 8 (fun i => r (18 + 3 * i)) := al_wants (j := 1)
theorem as0_wants {G : GX} {S : St} {m v : Int} (h0 : 0 ≤ m) (hm : m < 8) : va_up (mk G S) (fn 0) (ia G 8 (uz (fun i => S 0 (18 + 3 * i)) m v)) = mk G (va_up S 0 (uz (S 0) (18 + 3 * m) v)) := as_wants (j := 0) h0 hm
theorem as1q_wants {G : GX} {S : St} {r : Row} {m v : Int} (h0 : 0 ≤ m) (hm : m < 8) : va_up (mk G (va_up S 1 r)) (fn 1) (ia G 8 (uz (fun i => r (18 + 3 * i)) m v)) = mk G (va_up S 1 (uz r (18 + 3 * m) v)) := asq_wants (j := 1) h0 hm
theorem g0_seen {G : GX} {S : St} : fld (mk G S) (fo 0) 0 9 (rf G (fs 0)) := gf_seen (j := 0)
theorem g0t_seen {G : GX} {S : St} {r : Row} : fld (mk G (va_up S 1 r)) (fo 0) 0 9 (rf G (fs 0)) := gf_seen (j := 0)
theorem g1q_seen {G : GX} {S : St} {r : Row} : fld (mk G (va_up S 1 r)) (fo 1) 0 9 (rf G (fs 1)) := gf_seen (j := 1)
theorem al0_seen {G : GX} {S : St} : ald G (mk G S) (fs 0) 8 (fun i => S 0 (19 + 3 * i)) := al_seen (j := 0)
theorem al0t_seen {G : GX} {S : St} {r : Row} : ald G (mk G (va_up S 1 r)) (fs 0) 8 (fun i => S 0 (19 + 3 * i)) := al_seen (j := 0)
theorem al1q_seen {G : GX} {S : St} {r : Row} : ald G (mk G (va_up S 1 r)) (fs 1) 8 (fun i => r (19 + 3 * i)) := al_seen (j := 1)
theorem as0_seen {G : GX} {S : St} {m v : Int} (h0 : 0 ≤ m) (hm : m < 8) : va_up (mk G S) (fs 0) (ia G 8 (uz (fun i => S 0 (19 + 3 * i)) m v)) = mk G (va_up S 0 (uz (S 0) (19 + 3 * m) v)) := as_seen (j := 0) h0 hm
theorem as1q_seen {G : GX} {S : St} {r : Row} {m v : Int} (h0 : 0 ≤ m) (hm : m < 8) : va_up (mk G (va_up S 1 r)) (fs 1) (ia G 8 (uz (fun i => r (19 + 3 * i)) m v)) = mk G (va_up S 1 (uz r (19 + 3 * m) v)) := asq_seen (j := 1) h0 hm
theorem c0_hasMan {G : GX} {S : St} {b : Int} (hI : IR b (S 0)) {m : Int} (hm : inR m) : Ev G mX0_hasMan [rf G (fo 0), vi m] (mk G S) (some (vi (if 0 ≤ m ∧ m < S 0 1 then 1 else 0))) (mk G (S)) := c_X0_hasMan (j := 0) hI hm
theorem c0_hasSheep {G : GX} {S : St} {b : Int} (hI : IR b (S 0)) {m : Int} (hm : inR m) : Ev G mX0_hasSheep [rf G (fo 0), vi m] (mk G S) (some (vi (if 0 ≤ m ∧ m < S 0 0 then 1 else 0))) (mk G (S)) := c_X0_hasSheep (j := 0) hI hm
theorem c0_hasRoomForMan {G : GX} {S : St} {b : Int} (hI : IR b (S 0)) : Ev G mX0_hasRoomForMan [rf G (fo 0)] (mk G S) (some (vi (if S 0 1 < 6 then 1 else 0))) (mk G (S)) := c_X0_hasRoomForMan (j := 0) hI
theorem c0_hasRoomForSheep {G : GX} {S : St} {b : Int} (hI : IR b (S 0)) : Ev G mX0_hasRoomForSheep [rf G (fo 0)] (mk G S) (some (vi (if S 0 0 < 8 then 1 else 0))) (mk G (S)) := c_X0_hasRoomForSheep (j := 0) hI
theorem c0_isAsleep {G : GX} {S : St} {b : Int} (hI : IR b (S 0)) {p : Int} (h0 : 0 ≤ p) (h8 : p < 8) : Ev G mX0_isAsleep [rf G (fo 0), vi p] (mk G S) (some (vi (if S 0 (18 + 3 * p) = 0 then 1 else 0))) (mk G (S)) := c_X0_isAsleep (j := 0) hI h0 h8
theorem c0_sleepers {G : GX} {S : St} {b : Int} (hI : IR b (S 0)) : Ev G mX0_sleepers [rf G (fo 0)] (mk G S) (some (vi (slp (S 0)))) (mk G (S)) := c_X0_sleepers (j := 0) hI
theorem c0_passers {G : GX} {S : St} {b : Int} (hI : IR b (S 0)) : Ev G mX0_passers [rf G (fo 0)] (mk G S) (some (vi (pss (S 0)))) (mk G (S)) := c_X0_passers (j := 0) hI
theorem c0_wantsOfAll {G : GX} {S : St} {b : Int} (hI : IR b (S 0)) : Ev G mX0_wantsOfAll [rf G (fo 0)] (mk G S) (some (vi (wsm (S 0)))) (mk G (S)) := c_X0_wantsOfAll (j := 0) hI
theorem c0_seenByAll {G : GX} {S : St} {b : Int} (hI : IR b (S 0)) : Ev G mX0_seenByAll [rf G (fo 0)] (mk G S) (some (vi (ssm (S 0)))) (mk G (S)) := c_X0_seenByAll (j := 0) hI
theorem c0_wearWithout {G : GX} {S : St} {b : Int} (hI : IR b (S 0)) {s : Int} : Ev G mX0_wearWithout [rf G (fo 0), vi s] (mk G S) (some (vi (lsum (wwo (S 0) s) (S 0 1).toNat 0 0))) (mk G (S)) := c_X0_wearWithout (j := 0) hI
theorem c0_addMan {G : GX} {S : St} {b : Int} (hI : IR b (S 0)) {g w : Int} (hr : S 0 1 < 6) : Ev G mX0_addMan [rf G (fo 0), vi g, vi w] (mk G S) (some (vi (S 0 1))) (mk G (va_up S 0 (amR (S 0) g w))) := c_X0_addMan (j := 0) hI hr
theorem c0_addSheep {G : GX} {S : St} {b : Int} (hI : IR b (S 0)) {k w : Int} (hr : S 0 0 < 8) : Ev G mX0_addSheep [rf G (fo 0), vi k, vi w] (mk G S) (some (vi (S 0 0))) (mk G (va_up S 0 (asR (S 0) k w))) := c_X0_addSheep (j := 0) hI hr
theorem c0_dropLastMan {G : GX} {S : St} {b : Int} (hI : IR b (S 0)) (hr : 0 < S 0 1) : Ev G mX0_dropLastMan [rf G (fo 0)] (mk G S) none (mk G (va_up S 0 (ghR (S 0)))) := c_X0_dropLastMan (j := 0) hI hr
theorem c0_play {G : GX} {S : St} {b : Int} (hI : IR b (S 0)) (hb : b ≤ 900000) {k : Int} (hk : 0 ≤ k ∧ k ≤ 1000) : Ev G mX0_play [rf G (fo 0), vi k] (mk G S) none (mk G (va_up S 0 (minsR k.toNat (S 0)))) := by
  have h := c_X0_play (G := G) (S := S) (j := 0) (r := S 0) hI hb hk
  rw [show va_up S ((0 : Fin 3) : Nat) (S 0) = S from vup_same S 0] at h
  exact h
theorem c1_play {G : GX} {S : St} {r : Row} {b : Int} (hI : IR b r) (hb : b ≤ 900000) {k : Int} (hk : 0 ≤ k ∧ k ≤ 1000) : Ev G mX0_play [rf G (fo 1), vi k] (mk G (va_up S 1 r)) none (mk G (va_up S 1 (minsR k.toNat r))) := c_X0_play (j := 1) hI hb hk
theorem c1_playTillQuiet {G : GX} {S : St} {r : Row} {b : Int} (hI : IR b r) (hb : b ≤ 900000) {k : Int} (hk : -1 ≤ k ∧ k ≤ 1000) : Ev G mX0_playTillQuiet [rf G (fo 1), vi k] (mk G (va_up S 1 r)) (some (vi ((ft qt (k + 1).toNat 0 r).1))) (mk G (va_up S 1 ((ft qt (k + 1).toNat 0 r).2))) := c_X0_playTillQuiet (j := 1) hI hb hk
theorem c1_playTillAsleep {G : GX} {S : St} {r : Row} {b : Int} (hI : IR b r) (hb : b ≤ 900000) {p : Int} (hp : 0 ≤ p ∧ p < 8) {k : Int} (hk : -1 ≤ k ∧ k ≤ 1000) : Ev G mX0_playTillAsleep [rf G (fo 1), vi p, vi k] (mk G (va_up S 1 r)) (some (vi ((ft (at_ (18 + 3 * p) 0) (k + 1).toNat 0 r).1))) (mk G (va_up S 1 ((ft (at_ (18 + 3 * p) 0) (k + 1).toNat 0 r).2))) := c_X0_playTillAsleep (j := 1) hI hb hp hk
theorem c1_playTillBare {G : GX} {S : St} {r : Row} {b : Int} (hI : IR b r) (hb : b ≤ 900000) {p : Int} (hp : 0 ≤ p ∧ p < 6) {k : Int} (hk : -1 ≤ k ∧ k ≤ 1000) : Ev G mX0_playTillBare [rf G (fo 1), vi p, vi k] (mk G (va_up S 1 r)) (some (vi ((ft (at_ (6 + 2 * p) 99) (k + 1).toNat 0 r).1))) (mk G (va_up S 1 ((ft (at_ (6 + 2 * p) 99) (k + 1).toNat 0 r).2))) := c_X0_playTillBare (j := 1) hI hb hp hk
theorem c1_exchange {G : GX} {S : St} {r : Row} {b : Int} (hI : IR b r) {a c : Int} (ha : 0 ≤ a ∧ a < 6) (hc : 0 ≤ c ∧ c < 6) (hac : a ≠ c) : Ev G mX0_exchange [rf G (fo 1), vi a, vi c] (mk G (va_up S 1 r)) none (mk G (va_up S 1 (exR a c r))) := c_X0_exchange (j := 1) ha hc hac
theorem c1_wearOut {G : GX} {S : St} {r : Row} {b : Int} (hI : IR b r) {s : Int} : Ev G mX0_wearOut [rf G (fo 1), vi s] (mk G (va_up S 1 r)) none (mk G (va_up S 1 (woL s (r 1).toNat 0 r))) := c_X0_wearOut (j := 1) hI
theorem c1_isAsleep {G : GX} {S : St} {r : Row} {b : Int} (hI : IR b r) {p : Int} (h0 : 0 ≤ p) (h8 : p < 8) : Ev G mX0_isAsleep [rf G (fo 1), vi p] (mk G (va_up S 1 r)) (some (vi (if r (18 + 3 * p) = 0 then 1 else 0))) (mk G (va_up S 1 r)) := c_X0_isAsleep (S := va_up S 1 r) (j := 1) hI h0 h8
theorem c1_wantsOfAll {G : GX} {S : St} {r : Row} {b : Int} (hI : IR b r) : Ev G mX0_wantsOfAll [rf G (fo 1)] (mk G (va_up S 1 r)) (some (vi (wsm r))) (mk G (va_up S 1 r)) := c_X0_wantsOfAll (S := va_up S 1 r) (j := 1) hI
theorem c1_wearWithout {G : GX} {S : St} {r : Row} {b : Int} (hI : IR b r) {s : Int} : Ev G mX0_wearWithout [rf G (fo 1), vi s] (mk G (va_up S 1 r)) (some (vi (lsum (wwo r s) (r 1).toNat 0 0))) (mk G (va_up S 1 r)) := c_X0_wearWithout (S := va_up S 1 r) (j := 1) hI
theorem c_startTrial2 {G : GX} {S : St} {r : Row} : Ev G mX4_startTrial [rf G 0] (mk G (va_up S 1 r)) none (mk G (va_up S 1 (S 0))) := by
  have h := c_X4_startTrial (G := G) (S := va_up S 1 r)
  rw [show va_up (va_up S 1 r) 1 (va_up S 1 r 0) = va_up S 1 (S 0) from vup_up S 1 r (S 0)] at h
  exact h
theorem fin_b {G : GX} {S : St} {v f : Int} {r : Row} (e : v = f) (er : r = S 0) : mk G (va_up S 5 (tl (S 5) f)) = mk G (va_up (va_up S 5 (tl (S 5) v)) 0 r) := by
  subst e er
  exact congrArg (mk G) (vup_same (va_up S 5 (tl (S 5) v)) 0).symm
theorem fin_g {G : GX} {S : St} {v : Int} {r X : Row} (hv : -1000000000 ≤ v) (er : r = X) : mk G (va_up S 0 X) = mk G (va_up (va_up S 5 (tl (S 5) v)) 0 r) := by
  rw [tl_no hv, vup_same, er]
theorem fin_s {G : GX} {S : St} {v : Int} {r : Row} (hv : -1000000000 ≤ v) (er : r = S 0) : mk G S = mk G (va_up (va_up S 5 (tl (S 5) v)) 0 r) := by
  rw [tl_no hv, vup_same, er, vup_same]
theorem fin_b1 {G : GX} {S : St} {v f : Int} (e : v = f) : mk G (va_up S 5 (tl (S 5) f)) = mk G (va_up (va_up S 1 (S 1)) 5 (tl (S 5) v)) := by
  rw [vup_same, e]
theorem fin_s1 {G : GX} {S : St} {r : Row} {v : Int} (hv : -1000000000 ≤ v) : mk G (va_up S 1 r) = mk G (va_up (va_up S 1 r) 5 (tl (S 5) v)) := by
  rw [tl_no hv]
  exact congrArg (mk G) (vup_same (va_up S 1 r) 5).symm
theorem fin_v {G : GX} {S : St} {v : Int} (hv : -1000000000 ≤ v) : mk G S = mk G (va_up S 5 (tl (S 5) v)) := by rw [tl_no hv, vup_same]
