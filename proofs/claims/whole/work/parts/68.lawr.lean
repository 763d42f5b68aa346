section
variable {p : Program} {l : Launch} {e : Env} {s : State} {m : MethodId} {below : List Frame} {meth : Method} {c : Code} {b L : Nat} {xs : Nat → Int32} {G : GX}

def LC (p : Program) (s : State) (m : MethodId) (meth : Method) (c : Code) (b L : Nat) (xs : Nat → Int32) (G : GX) : Prop := lw_At p s m meth c b L xs ∧ va_K G.1 vwCl (gt G) s ∧ CK G s s.heap ∧ GI G ∧ (∀ q, AD G q → s.heap.size ≤ q) ∧ L ≤ 3072
def Ln (p : Program) (l : Launch) (e : Env) (s : State) (m : MethodId) (below : List Frame) (meth : Method) (c : Code) (b : Nat) (G : GX) (i : Int) (pc : Nat) (st : List Value) (σ : SG) : Prop :=
  ∀ (H : Heap) (locs : List Loc) (ls : Array Slot), HX G s H locs σ → LH ls 4 [some (.ref b), some (rf G 0), some (rf G 31), some (vi i)] → W p l e room_1 s m #[Value.ref b] below meth c H locs 42 970 (lw_Z below #[Value.ref b] s) (F0 m pc ls st)
def sx (xs : Nat → Int32) (z : Int) : Int := (xs z.toNat).toInt
theorem sx_in (xs : Nat → Int32) (z : Int) : inR (sx xs z) := inR_any _
theorem Ln.eqst {i : Int} {pc : Nat} {st st1 : List Value} {σ : SG} (h : st = st1) (k : Ln p l e s m below meth c b G i pc st1 σ) : Ln p l e s m below meth c b G i pc st σ := h ▸ k
variable {i : Int} {pc : Nat} {st : List Value} {σ : SG}
theorem q_aload0 (C : LC p s m meth c b L xs G) (hd : decode code pc = .ok (.aload_n 0, 1)) (k : Ln p l e s m below meth c b G i (pc + 1) (.ref b :: st) σ) : Ln p l e s m below meth c b G i pc st σ := fun H locs ls X hl => lv_aload_n C.1.1 C.1.2.1 hd rfl (hl.at rfl) (k H locs ls X hl)
theorem q_aload1 (C : LC p s m meth c b L xs G) (hd : decode code pc = .ok (.aload_n 1, 1)) (k : Ln p l e s m below meth c b G i (pc + 1) (rf G 0 :: st) σ) : Ln p l e s m below meth c b G i pc st σ := fun H locs ls X hl => lv_aload_n (x := ad G 0) C.1.1 C.1.2.1 hd rfl (hl.at rfl) (k H locs ls X hl)
theorem q_aload2 (C : LC p s m meth c b L xs G) (hd : decode code pc = .ok (.aload_n 2, 1)) (k : Ln p l e s m below meth c b G i (pc + 1) (rf G 31 :: st) σ) : Ln p l e s m below meth c b G i pc st σ := fun H locs ls X hl => lv_aload_n (x := ad G 31) C.1.1 C.1.2.1 hd rfl (hl.at rfl) (k H locs ls X hl)
theorem q_iload3 (C : LC p s m meth c b L xs G) (hd : decode code pc = .ok (.iload_n 3, 1)) (k : Ln p l e s m below meth c b G i (pc + 1) (vi i :: st) σ) : Ln p l e s m below meth c b G i pc st σ := fun H locs ls X hl => lv_iload_n (x := Int32.ofInt i) C.1.1 C.1.2.1 hd rfl (hl.at rfl) (k H locs ls X hl)
theorem q_iconst {n : Int} (C : LC p s m meth c b L xs G) (hd : decode code pc = .ok (.iconst n, 1)) (k : Ln p l e s m below meth c b G i (pc + 1) (vi n :: st) σ) : Ln p l e s m below meth c b G i pc st σ := fun H locs ls X hl => lv_iconst (v := Int32.ofInt n) C.1.1 C.1.2.1 hd rfl (k H locs ls X hl)
theorem q_bipush {n : Int} (h1 : -128 ≤ n) (h2 : n ≤ 127) (C : LC p s m meth c b L xs G) (hd : decode code pc = .ok (.bipush n, 2)) (k : Ln p l e s m below meth c b G i (pc + 2) (vi n :: st) σ) : Ln p l e s m below meth c b G i pc st σ := fun H locs ls X hl => lv_bipush (v := Int32.ofInt n) C.1.1 C.1.2.1 hd (Int8.toInt32_ofInt h1 h2) (k H locs ls X hl)
theorem q_iadd {x y : Int} (C : LC p s m meth c b L xs G) (hd : decode code pc = .ok (.iadd, 1)) (k : Ln p l e s m below meth c b G i (pc + 1) (vi (x + y) :: st) σ) : Ln p l e s m below meth c b G i pc (vi y :: vi x :: st) σ := fun H locs ls X hl => by
  refine lv_iadd C.1.1 C.1.2.1 hd ?_
  have h := k H locs ls X hl
  rw [vi, Int32.ofInt_add] at h
  exact h
theorem q_isub {x y : Int} (C : LC p s m meth c b L xs G) (hd : decode code pc = .ok (.isub, 1)) (k : Ln p l e s m below meth c b G i (pc + 1) (vi (x - y) :: st) σ) : Ln p l e s m below meth c b G i pc (vi y :: vi x :: st) σ := fun H locs ls X hl => by
  refine lv_isub C.1.1 C.1.2.1 hd ?_
  have h := k H locs ls X hl
  rw [vi, Int32.ofInt_sub] at h
  exact h
theorem q_iand {x y : Int} (C : LC p s m meth c b L xs G) (hd : decode code pc = .ok (.iand, 1)) (k : Ln p l e s m below meth c b G i (pc + 1) (vi (bAnd x y) :: st) σ) : Ln p l e s m below meth c b G i pc (vi y :: vi x :: st) σ := fun H locs ls X hl => by
  refine lv_iand C.1.1 C.1.2.1 hd ?_
  have h := k H locs ls X hl
  rw [vi, bAnd, Int32.ofInt_toInt] at h
  exact h
theorem lc_b (C : LC p s m meth c b L xs G) : ¬ AD G b := fun h => by
  have h1 := C.2.2.2.2.1 b h
  have h2 := C.1.2.2.2.2.2.2.2.1
  omega
theorem q_sld {z : Int} (h0 : 0 ≤ z) (h1 : z < (L : Int)) (C : LC p s m meth c b L xs G) (hd : decode code pc = .ok (.iaload, 1)) (k : Ln p l e s m below meth c b G i (pc + 1) (vi (sx xs z) :: st) σ) : Ln p l e s m below meth c b G i pc (vi z :: .ref b :: st) σ := fun H locs ls X hl => by
  obtain ⟨hz, hk⟩ := natof h0 h1
  have hL := C.2.2.2.2.2
  refine va_sld C.1.1 C.1.2.1 C.1.2.2.2.2.2.2.1 C.1.2.2.2.2.2.2.2.1 (lc_b C) X.2 (vp_in_k hz hk (by omega)) hd ?_
  rw [i32_clamp hz (by omega), vi_any]
  exact k H locs ls X hl
theorem q_slen (C : LC p s m meth c b L xs G) (hd : decode code pc = .ok (.arraylength, 1)) (k : Ln p l e s m below meth c b G i (pc + 1) (vi (L : Int) :: st) σ) : Ln p l e s m below meth c b G i pc (.ref b :: st) σ := fun H locs ls X hl => by
  refine va_slen C.1.1 C.1.2.1 C.1.2.2.2.2.2.2.1 C.1.2.2.2.2.2.2.2.1 (lc_b C) X.2 hd ?_
  have h := k H locs ls X hl
  rw [vi, Int32.ofInt_eq_ofNat] at h
  exact h
theorem q_arg {n : Int} (h0 : 0 ≤ i + n) (h1 : i + n < (L : Int)) (C : LC p s m meth c b L xs G) (d0 : decode code pc = .ok (.aload_n 0, 1)) (d1 : decode code (pc + 1) = .ok (.iload_n 3, 1)) (d2 : decode code (pc + 2) = .ok (.iconst n, 1)) (d3 : decode code (pc + 3) = .ok (.iadd, 1)) (d4 : decode code (pc + 4) = .ok (.iaload, 1)) (k : Ln p l e s m below meth c b G i (pc + 5) (vi (sx xs (i + n)) :: st) σ) : Ln p l e s m below meth c b G i pc st σ :=
  q_aload0 C d0 (q_iload3 C d1 (q_iconst C d2 (q_iadd C d3 (q_sld h0 h1 C d4 k))))
theorem q_i2l {x : Int} (C : LC p s m meth c b L xs G) (hd : decode code pc = .ok (.i2l, 1)) (k : Ln p l e s m below meth c b G i (pc + 1) (.long (Int32.ofInt x).toInt64 :: st) σ) : Ln p l e s m below meth c b G i pc (vi x :: st) σ := fun H locs ls X hl => lv_i2l C.1.1 C.1.2.1 hd rfl (k H locs ls X hl)
theorem q_lshl {x : Int64} {y : Int} (C : LC p s m meth c b L xs G) (hd : decode code pc = .ok (.lshl, 1)) (k : Ln p l e s m below meth c b G i (pc + 1) (.long (x <<< ((Int32.ofInt y).toInt64 &&& 63)) :: st) σ) : Ln p l e s m below meth c b G i pc (vi y :: .long x :: st) σ := fun H locs ls X hl => lv_lshl C.1.1 C.1.2.1 hd rfl (k H locs ls X hl)
theorem q_land {x y : Int64} (C : LC p s m meth c b L xs G) (hd : decode code pc = .ok (.land, 1)) (k : Ln p l e s m below meth c b G i (pc + 1) (.long (x &&& y) :: st) σ) : Ln p l e s m below meth c b G i pc (.long y :: .long x :: st) σ := fun H locs ls X hl => lv_land C.1.1 C.1.2.1 hd (k H locs ls X hl)
theorem q_lor {x y : Int64} (C : LC p s m meth c b L xs G) (hd : decode code pc = .ok (.lor, 1)) (k : Ln p l e s m below meth c b G i (pc + 1) (.long (x ||| y) :: st) σ) : Ln p l e s m below meth c b G i pc (.long y :: .long x :: st) σ := fun H locs ls X hl => lv_lor C.1.1 C.1.2.1 hd (k H locs ls X hl)
theorem q_ldc2 {ix : Nat} {z : Int64} (C : LC p s m meth c b L xs G) (hw : Cond.constantLong RL ix z ∈ wsL) (hd : decode code pc = .ok (.ldc2_w ix, 3)) (k : Ln p l e s m below meth c b G i (pc + 3) (.long z :: st) σ) : Ln p l e s m below meth c b G i pc st σ := fun H locs ls X hl => lv_ldc2 (own := RL) C.1.1 C.1.2.1 C.1.2.2.2.2.1 (C.1.2.2.2.2.2.1 _ (wsL_lw hw)) hd (k H locs ls X hl)
theorem q_goto {off : Int} (tgt : Nat) (C : LC p s m meth c b L xs G) (hd : decode code pc = .ok (.goto off, 3)) (ht : (pc : Int) + off = (tgt : Int)) (k : Ln p l e s m below meth c b G i tgt st σ) : Ln p l e s m below meth c b G i pc st σ := fun H locs ls X hl => lv_goto C.1.1 C.1.2.1 hd ht (k H locs ls X hl)
theorem q_iinc {n : Int} (C : LC p s m meth c b L xs G) (hd : decode code pc = .ok (.iinc 3 n, 3)) (k : Ln p l e s m below meth c b G (i + n) (pc + 3) st σ) : Ln p l e s m below meth c b G i pc st σ := fun H locs ls X hl => by
  have hm : (3, vi i) ∈ al 0 [some (.ref b), some (rf G 0), some (rf G 31), some (vi i)] := (al_mem _ 0).mpr ⟨3, by omega, rfl⟩
  obtain ⟨q, hq⟩ := List.getElem?_of_mem hm
  exact lv_iinc (v := Int32.ofInt (i + n)) C.1.1 C.1.2.1 hd hl hq (Int32.ofInt_add i n).symm (by decide) rfl (fun ls' h' => k H locs ls' X (LH.set1 (i := 3) (L := [some (.ref b), some (rf G 0), some (rf G 31), some (vi i)]) (v := vi (i + n)) (pcat3 rfl) h'))
theorem q_icmp_gt {x y : Int} (hx : inR x) (hy : inR y) {off : Int} (tgt : Nat) (C : LC p s m meth c b L xs G) (hd : decode code pc = .ok (.if_icmp .gt off, 3)) (ht : (pc : Int) + off = (tgt : Int)) (kt : y < x → Ln p l e s m below meth c b G i tgt st σ) (kf : ¬ y < x → Ln p l e s m below meth c b G i (pc + 3) st σ) : Ln p l e s m below meth c b G i pc (vi y :: vi x :: st) σ := fun H locs ls X hl =>
  lv_icmp_gt C.1.1 C.1.2.1 hd ht (fun h => kt ((i32_lt hy hx).mp h) H locs ls X hl) (fun h => kf (fun q => h ((i32_lt hy hx).mpr q)) H locs ls X hl)
theorem q_same {x : Int} {off : Int} (tgt : Nat) (C : LC p s m meth c b L xs G) (hd : decode code pc = .ok (.if_icmp .eq off, 3)) (ht : (pc : Int) + off = (tgt : Int)) (kt : Ln p l e s m below meth c b G i tgt st σ) : Ln p l e s m below meth c b G i pc (vi x :: vi x :: st) σ := fun H locs ls X hl =>
  lv_icmp_eq C.1.1 C.1.2.1 hd ht (fun _ => kt H locs ls X hl) (fun h => absurd rfl h)
theorem q_sameL {x : Int} {off : Int} (tgt : Nat) (C : LC p s m meth c b L xs G) (hd : decode code pc = .ok (.lcmp, 1)) (hd2 : decode code (pc + 1) = .ok (.ifCond .eq off, 3)) (ht : ((pc + 1 : Nat) : Int) + off = (tgt : Int)) (kt : Ln p l e s m below meth c b G i tgt st σ) : Ln p l e s m below meth c b G i pc (vl x :: vl x :: st) σ := fun H locs ls X hl => by
  refine W.lcmp C.1.1 C.1.2.1 hd ?_
  have e0 : lg_cmp (Int64.ofInt x) (Int64.ofInt x) = 0 := by unfold lg_cmp; simp
  exact lv_if_eq C.1.1 C.1.2.1 hd2 ht (fun _ => kt H locs ls X hl) (fun h => absurd e0 h)
theorem q_tswI {dflt lo hi off : Int} {offs : Array Int} {len : Nat} {x : Int} (hx : inR x) (q : Nat) (tgt : Nat) (C : LC p s m meth c b L xs G) (hd : decode code pc = .ok (.tableswitch dflt lo hi offs, len)) (hq : x = lo + (q : Int)) (hh : lo + (q : Int) ≤ hi) (ho : offs[q]? = some off) (ht : (pc : Int) + off = (tgt : Int)) (k : Ln p l e s m below meth c b G i tgt st σ) : Ln p l e s m below meth c b G i pc (vi x :: st) σ := fun H locs ls X hl => by
  have ee := i32_toInt hx
  refine lv_tableIn C.1.1 C.1.2.1 hd (off := off) (tgt := tgt) (by rw [ee]; omega) (by rw [ee]; omega) ?_ ht (k H locs ls X hl)
  rw [ee, show (x - lo).toNat = q by omega]
  exact ho
theorem q_tswO {dflt lo hi : Int} {offs : Array Int} {len : Nat} {x : Int} (hx : inR x) (tgt : Nat) (C : LC p s m meth c b L xs G) (hd : decode code pc = .ok (.tableswitch dflt lo hi offs, len)) (hq : x < lo ∨ hi < x) (ht : (pc : Int) + dflt = (tgt : Int)) (k : Ln p l e s m below meth c b G i tgt st σ) : Ln p l e s m below meth c b G i pc (vi x :: st) σ := fun H locs ls X hl =>
  lv_tableOut C.1.1 C.1.2.1 hd (by rw [i32_toInt hx]; exact hq) ht (k H locs ls X hl)
theorem q_end (C : LC p s m meth c b L xs G) (hd : decode code pc = .ok (.ireturn, 1)) : Ln p l e s m below meth c b G i pc [vi 1] σ := fun H locs ls X hl =>
  va_forget (fun q hq => C.2.2.2.2.1 _ (X.2.2.2 q hq)) (lw_ret C.1.1 C.1.2.1 C.1.2.2.1 C.1.2.2.2.2.2.2.2.2.1 hd)
theorem lx_at (C : LC p s m meth c b L xs G) {H : Heap} {locs : List Loc} (X : HX G s H locs σ) {U : State} (hU : U.heap = H) (hW : s.WarmedH U.vm) : PX G σ U :=
  ⟨by rw [hU]; exact X.1, va_K.moved hW.alike C.2.1, by rw [hU]; exact (CK.kept C.2.2.1 X.2.2.1).warm hW⟩
theorem q_callVG {M2 : MI} {ix n i0 : Nat} {As : List Value} {r1 : Option Value} {σ1 : SG} {st0 st1 : List Value} (C : LC p s m meth c b L xs G) (hm : ML RL ix M2.1 n) (hc : MC M2) (hR : M2.2.2.2.2.1 + 1 ≤ 13 ∧ 8 + (M2.2.2.1 + 11) + M2.2.2.2.2.2 ≤ 486) (hO : isO σ i0 M2.1.cls) (hn : As.length = n) (hw8 : (st.map fun v => v.category).sum ≤ 8) (hs0 : st0 = As.reverse ++ rf G i0 :: st) (hs1 : r1.toList ++ st = st1) (hd : decode code pc = .ok (.invokevirtual ix, 3)) (he : Ev G M2 (rf G i0 :: As) σ r1 σ1) (k : Ln p l e s m below meth c b G i (pc + 3) st1 σ1) : Ln p l e s m below meth c b G i pc st0 σ := fun H locs ls X hl => by
  obtain ⟨hi, ci, fs, T0, N0, hσ, hci⟩ := hO
  subst hs1
  have hts : ∀ w ∈ wsL, w.before #[Value.ref b] s = true := fun w hw => C.1.2.2.2.2.2.1 w (wsL_lw hw)
  have hrecv : ∃ cell : Cell, H[ad G i0]? = some cell ∧ cell.vm.isStatics = false ∧ s.vm.findClass M2.1.cls = some cell.cls := va_recv C.2.1 X.1 (ci := ci) (q0 := i0) hci (by rw [wl_get G σ hi, hσ])
  refine w_back (va_runV (As := As) (rest := st) ⟨C.1.1, C.1.2.1, C.1.2.2.2.1, C.1.2.2.2.2.1, hts⟩ (he C.2.2.2.1 l) (cwV n hts (ML.good hm rfl hc) rfl rfl rfl ⟨rfl, hm.2.2.2.2⟩ hR) ⟨px_blind, hrecv, fun U hU hW => ⟨rfl, lx_at C X hU hW⟩⟩ rfl hn hl.1 hs0 (lv_room hw8) hd ⟨Nat.le_of_ble_eq_true rfl, Nat.le_of_ble_eq_true rfl⟩) X.2 (fun q h => h) (fun H1 locs1 hP hS => ?_)
  exact k H1 locs1 ls ⟨hP, hS⟩ hl
theorem q_cV0 {M2 : MI} {ix i0 : Nat} {v1 : Value} {σ1 : SG} (C : LC p s m meth c b L xs G) (hm : ML RL ix M2.1 0) (hc : MC M2) (hR : M2.2.2.2.2.1 + 1 ≤ 13 ∧ 8 + (M2.2.2.1 + 11) + M2.2.2.2.2.2 ≤ 486) (hO : isO σ i0 M2.1.cls) (hw8 : (st.map fun v => v.category).sum ≤ 8) (hd : decode code pc = .ok (.invokevirtual ix, 3)) (he : Ev G M2 (rf G i0 :: []) σ (some v1) σ1) (k : Ln p l e s m below meth c b G i (pc + 3) (v1 :: st) σ1) : Ln p l e s m below meth c b G i pc (rf G i0 :: st) σ := q_callVG C hm hc hR hO rfl hw8 rfl rfl hd he k
theorem q_cV1 {M2 : MI} {ix i0 : Nat} {b0 : Value} {v1 : Value} {σ1 : SG} (C : LC p s m meth c b L xs G) (hm : ML RL ix M2.1 1) (hc : MC M2) (hR : M2.2.2.2.2.1 + 1 ≤ 13 ∧ 8 + (M2.2.2.1 + 11) + M2.2.2.2.2.2 ≤ 486) (hO : isO σ i0 M2.1.cls) (hw8 : (st.map fun v => v.category).sum ≤ 8) (hd : decode code pc = .ok (.invokevirtual ix, 3)) (he : Ev G M2 (rf G i0 :: [b0]) σ (some v1) σ1) (k : Ln p l e s m below meth c b G i (pc + 3) (v1 :: st) σ1) : Ln p l e s m below meth c b G i pc (b0 :: rf G i0 :: st) σ := q_callVG C hm hc hR hO rfl hw8 rfl rfl hd he k
theorem q_cV2 {M2 : MI} {ix i0 : Nat} {b0 b1 : Value} {v1 : Value} {σ1 : SG} (C : LC p s m meth c b L xs G) (hm : ML RL ix M2.1 2) (hc : MC M2) (hR : M2.2.2.2.2.1 + 1 ≤ 13 ∧ 8 + (M2.2.2.1 + 11) + M2.2.2.2.2.2 ≤ 486) (hO : isO σ i0 M2.1.cls) (hw8 : (st.map fun v => v.category).sum ≤ 8) (hd : decode code pc = .ok (.invokevirtual ix, 3)) (he : Ev G M2 (rf G i0 :: [b0, b1]) σ (some v1) σ1) (k : Ln p l e s m below meth c b G i (pc + 3) (v1 :: st) σ1) : Ln p l e s m below meth c b G i pc (b1 :: b0 :: rf G i0 :: st) σ := q_callVG C hm hc hR hO rfl hw8 rfl rfl hd he k
theorem q_cV3 {M2 : MI} {ix i0 : Nat} {b0 b1 b2 : Value} {v1 : Value} {σ1 : SG} (C : LC p s m meth c b L xs G) (hm : ML RL ix M2.1 3) (hc : MC M2) (hR : M2.2.2.2.2.1 + 1 ≤ 13 ∧ 8 + (M2.2.2.1 + 11) + M2.2.2.2.2.2 ≤ 486) (hO : isO σ i0 M2.1.cls) (hw8 : (st.map fun v => v.category).sum ≤ 8) (hd : decode code pc = .ok (.invokevirtual ix, 3)) (he : Ev G M2 (rf G i0 :: [b0, b1, b2]) σ (some v1) σ1) (k : Ln p l e s m below meth c b G i (pc + 3) (v1 :: st) σ1) : Ln p l e s m below meth c b G i pc (b2 :: b1 :: b0 :: rf G i0 :: st) σ := q_callVG C hm hc hR hO rfl hw8 rfl rfl hd he k
theorem q_cV4 {M2 : MI} {ix i0 : Nat} {b0 b1 b2 b3 : Value} {v1 : Value} {σ1 : SG} (C : LC p s m meth c b L xs G) (hm : ML RL ix M2.1 4) (hc : MC M2) (hR : M2.2.2.2.2.1 + 1 ≤ 13 ∧ 8 + (M2.2.2.1 + 11) + M2.2.2.2.2.2 ≤ 486) (hO : isO σ i0 M2.1.cls) (hw8 : (st.map fun v => v.category).sum ≤ 8) (hd : decode code pc = .ok (.invokevirtual ix, 3)) (he : Ev G M2 (rf G i0 :: [b0, b1, b2, b3]) σ (some v1) σ1) (k : Ln p l e s m below meth c b G i (pc + 3) (v1 :: st) σ1) : Ln p l e s m below meth c b G i pc (b3 :: b2 :: b1 :: b0 :: rf G i0 :: st) σ := q_callVG C hm hc hR hO rfl hw8 rfl rfl hd he k
theorem q_cV5 {M2 : MI} {ix i0 : Nat} {b0 b1 b2 b3 b4 : Value} {v1 : Value} {σ1 : SG} (C : LC p s m meth c b L xs G) (hm : ML RL ix M2.1 5) (hc : MC M2) (hR : M2.2.2.2.2.1 + 1 ≤ 13 ∧ 8 + (M2.2.2.1 + 11) + M2.2.2.2.2.2 ≤ 486) (hO : isO σ i0 M2.1.cls) (hw8 : (st.map fun v => v.category).sum ≤ 8) (hd : decode code pc = .ok (.invokevirtual ix, 3)) (he : Ev G M2 (rf G i0 :: [b0, b1, b2, b3, b4]) σ (some v1) σ1) (k : Ln p l e s m below meth c b G i (pc + 3) (v1 :: st) σ1) : Ln p l e s m below meth c b G i pc (b4 :: b3 :: b2 :: b1 :: b0 :: rf G i0 :: st) σ := q_callVG C hm hc hR hO rfl hw8 rfl rfl hd he k
end
