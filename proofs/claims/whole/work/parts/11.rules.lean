theorem p_iconst {G : GX} {M : MI} {pc : Nat} {L : LL} {st : List Value} {σ σ' : SG} {r : Option Value} {n : Int} (hd : decode M.2.1 pc = .ok (.iconst n, 1)) (k : Rn G M (pc + 1) L (vi n :: st) σ r σ') : Rn G M pc L (st) σ r σ' := by
  intro p l e s m args below meth c H locs ls C X hl
  exact lv_iconst (v := Int32.ofInt n) C.1 C.2.1 hd rfl (k p l e s m args below meth c H locs ls C X hl)
theorem p_bipush {G : GX} {M : MI} {pc : Nat} {L : LL} {st : List Value} {σ σ' : SG} {r : Option Value} {n : Int} (h1 : -128 ≤ n) (h2 : n ≤ 127) (hd : decode M.2.1 pc = .ok (.bipush n, 2)) (k : Rn G M (pc + 2) L (vi n :: st) σ r σ') : Rn G M pc L (st) σ r σ' := by
  intro p l e s m args below meth c H locs ls C X hl
  exact lv_bipush (v := Int32.ofInt n) C.1 C.2.1 hd (Int8.toInt32_ofInt h1 h2) (k p l e s m args below meth c H locs ls C X hl)
theorem p_sipush {G : GX} {M : MI} {pc : Nat} {L : LL} {st : List Value} {σ σ' : SG} {r : Option Value} {n : Int} (h1 : -32768 ≤ n) (h2 : n ≤ 32767) (hd : decode M.2.1 pc = .ok (.sipush n, 3)) (k : Rn G M (pc + 3) L (vi n :: st) σ r σ') : Rn G M pc L (st) σ r σ' := by
  intro p l e s m args below meth c H locs ls C X hl
  exact lv_sipush (v := Int32.ofInt n) C.1 C.2.1 hd (Int16.toInt32_ofInt h1 h2) (k p l e s m args below meth c H locs ls C X hl)
theorem p_lconst0 {G : GX} {M : MI} {pc : Nat} {L : LL} {st : List Value} {σ σ' : SG} {r : Option Value}  (hd : decode M.2.1 pc = .ok (.lconst 0, 1)) (k : Rn G M (pc + 1) L (vl 0 :: st) σ r σ') : Rn G M pc L (st) σ r σ' := by
  intro p l e s m args below meth c H locs ls C X hl
  exact lv_lconst (v := Int64.ofInt 0) C.1 C.2.1 hd (by decide +kernel) (k p l e s m args below meth c H locs ls C X hl)
theorem p_lconst1 {G : GX} {M : MI} {pc : Nat} {L : LL} {st : List Value} {σ σ' : SG} {r : Option Value}  (hd : decode M.2.1 pc = .ok (.lconst 1, 1)) (k : Rn G M (pc + 1) L (vl 1 :: st) σ r σ') : Rn G M pc L (st) σ r σ' := by
  intro p l e s m args below meth c H locs ls C X hl
  exact lv_lconst (v := Int64.ofInt 1) C.1 C.2.1 hd (by decide +kernel) (k p l e s m args below meth c H locs ls C X hl)
theorem p_ldc {G : GX} {M : MI} {pc : Nat} {L : LL} {st : List Value} {σ σ' : SG} {r : Option Value} {ix : Nat} {z : Int} (hw : Cond.constant M.1.cls ix (Int32.ofInt z) ∈ wsL) (hd : decode M.2.1 pc = .ok (.ldc ix, 2)) (k : Rn G M (pc + 2) L (vi z :: st) σ r σ') : Rn G M pc L (st) σ r σ' := by
  intro p l e s m args below meth c H locs ls C X hl
  exact lv_ldc C.1 C.2.1 C.2.2.2.2.1 (C.2.2.2.2.2.1 _ hw) hd (k p l e s m args below meth c H locs ls C X hl)
theorem p_ldcw {G : GX} {M : MI} {pc : Nat} {L : LL} {st : List Value} {σ σ' : SG} {r : Option Value} {ix : Nat} {z : Int} (hw : Cond.constant M.1.cls ix (Int32.ofInt z) ∈ wsL) (hd : decode M.2.1 pc = .ok (.ldc_w ix, 3)) (k : Rn G M (pc + 3) L (vi z :: st) σ r σ') : Rn G M pc L (st) σ r σ' := by
  intro p l e s m args below meth c H locs ls C X hl
  exact lv_ldcw C.1 C.2.1 C.2.2.2.2.1 (C.2.2.2.2.2.1 _ hw) hd (k p l e s m args below meth c H locs ls C X hl)
theorem p_ldc2 {G : GX} {M : MI} {pc : Nat} {L : LL} {st : List Value} {σ σ' : SG} {r : Option Value} {ix : Nat} {z : Int} (hw : Cond.constantLong M.1.cls ix (Int64.ofInt z) ∈ wsL) (hd : decode M.2.1 pc = .ok (.ldc2_w ix, 3)) (k : Rn G M (pc + 3) L (vl z :: st) σ r σ') : Rn G M pc L (st) σ r σ' := by
  intro p l e s m args below meth c H locs ls C X hl
  exact lv_ldc2 C.1 C.2.1 C.2.2.2.2.1 (C.2.2.2.2.2.1 _ hw) hd (k p l e s m args below meth c H locs ls C X hl)
theorem p_ldcS {G : GX} {M : MI} {pc : Nat} {L : LL} {st : List Value} {σ σ' : SG} {r : Option Value} {ix : Nat} (i : Nat) (hi : i < 12) (ho : ownJ i = M.1.cls) (he : entJ i = ix) (hd : decode M.2.1 pc = .ok (.ldc ix, 2)) (k : Rn G M (pc + 2) L (.ref (adK G i) :: st) σ r σ') : Rn G M pc L (st) σ r σ' := by
  intro p l e s m args below meth c H locs ls C X hl
  subst he
  have hr := C.2.2.2.2.2.2.2.2.1.2.2.2.2.2.2.2.2.2 i hi
  rw [ho] at hr
  exact va_ldcS C.1 C.2.1 C.2.2.2.2.1 hr hd (k p l e s m args below meth c H locs ls C X hl)
theorem p_iloadN {G : GX} {M : MI} {pc : Nat} {L : LL} {st : List Value} {σ σ' : SG} {r : Option Value} {q : Fin 4} {i : Nat} {x : Int} (hi : (q : Nat) = i) (hk : L[i]? = some (some (vi x))) (hd : decode M.2.1 pc = .ok (.iload_n q, 1)) (k : Rn G M (pc + 1) L (vi x :: st) σ r σ') : Rn G M pc L (st) σ r σ' := by
  intro p l e s m args below meth c H locs ls C X hl
  exact lv_iload_n C.1 C.2.1 hd hi (hl.at hk) (k p l e s m args below meth c H locs ls C X hl)
theorem p_iloadG {G : GX} {M : MI} {pc : Nat} {L : LL} {st : List Value} {σ σ' : SG} {r : Option Value} {i : Nat} {x : Int} (hk : L[i]? = some (some (vi x))) (hd : decode M.2.1 pc = .ok (.iload i, 2)) (k : Rn G M (pc + 2) L (vi x :: st) σ r σ') : Rn G M pc L (st) σ r σ' := by
  intro p l e s m args below meth c H locs ls C X hl
  exact lv_iload C.1 C.2.1 hd (hl.at hk) (k p l e s m args below meth c H locs ls C X hl)
theorem p_istoreN {G : GX} {M : MI} {pc : Nat} {L : LL} {st : List Value} {σ σ' : SG} {r : Option Value} {L' : LL} {q : Fin 4} {i : Nat} {x : Int} (hi : (q : Nat) = i) (hn : i < M.2.2.1) (hc : pcat L i) (hL : L.set i (some (vi x)) = L') (hd : decode M.2.1 pc = .ok (.istore_n q, 1)) (k : Rn G M (pc + 1) L' st σ r σ') : Rn G M pc L (vi x :: st) σ r σ' := by
  intro p l e s m args below meth c H locs ls C X hl
  subst hL
  exact lv_istore_n C.1 C.2.1 hd hi hl hn rfl (fun ls' h' => k p l e s m args below meth c H locs ls' C X (LH.set1 hc h'))
theorem p_istoreG {G : GX} {M : MI} {pc : Nat} {L : LL} {st : List Value} {σ σ' : SG} {r : Option Value} {L' : LL} {i : Nat} {x : Int} (hn : i < M.2.2.1) (hc : pcat L i) (hL : L.set i (some (vi x)) = L') (hd : decode M.2.1 pc = .ok (.istore i, 2)) (k : Rn G M (pc + 2) L' st σ r σ') : Rn G M pc L (vi x :: st) σ r σ' := by
  intro p l e s m args below meth c H locs ls C X hl
  subst hL
  exact lv_istore C.1 C.2.1 hd hl hn rfl (fun ls' h' => k p l e s m args below meth c H locs ls' C X (LH.set1 hc h'))
theorem p_lloadN {G : GX} {M : MI} {pc : Nat} {L : LL} {st : List Value} {σ σ' : SG} {r : Option Value} {q : Fin 4} {i : Nat} {x : Int} (hi : (q : Nat) = i) (hk : L[i]? = some (some (vl x))) (hd : decode M.2.1 pc = .ok (.lload_n q, 1)) (k : Rn G M (pc + 1) L (vl x :: st) σ r σ') : Rn G M pc L (st) σ r σ' := by
  intro p l e s m args below meth c H locs ls C X hl
  exact lv_lload_n C.1 C.2.1 hd hi (hl.at hk) (k p l e s m args below meth c H locs ls C X hl)
theorem p_lloadG {G : GX} {M : MI} {pc : Nat} {L : LL} {st : List Value} {σ σ' : SG} {r : Option Value} {i : Nat} {x : Int} (hk : L[i]? = some (some (vl x))) (hd : decode M.2.1 pc = .ok (.lload i, 2)) (k : Rn G M (pc + 2) L (vl x :: st) σ r σ') : Rn G M pc L (st) σ r σ' := by
  intro p l e s m args below meth c H locs ls C X hl
  exact lv_lload C.1 C.2.1 hd (hl.at hk) (k p l e s m args below meth c H locs ls C X hl)
theorem p_lstoreN {G : GX} {M : MI} {pc : Nat} {L : LL} {st : List Value} {σ σ' : SG} {r : Option Value} {L' : LL} {q : Fin 4} {i : Nat} {x : Int} (hi : (q : Nat) = i) (hn : i + 1 < M.2.2.1) (hc : pcat L i) (hL : (L.set i (some (vl x))).set (i + 1) none = L') (hd : decode M.2.1 pc = .ok (.lstore_n q, 1)) (k : Rn G M (pc + 1) L' st σ r σ') : Rn G M pc L (vl x :: st) σ r σ' := by
  intro p l e s m args below meth c H locs ls C X hl
  subst hL
  exact lv_lstore_n C.1 C.2.1 hd hi hl hn rfl (fun ls' h' => k p l e s m args below meth c H locs ls' C X (LH.set2 hc h'))
theorem p_lstoreG {G : GX} {M : MI} {pc : Nat} {L : LL} {st : List Value} {σ σ' : SG} {r : Option Value} {L' : LL} {i : Nat} {x : Int} (hn : i + 1 < M.2.2.1) (hc : pcat L i) (hL : (L.set i (some (vl x))).set (i + 1) none = L') (hd : decode M.2.1 pc = .ok (.lstore i, 2)) (k : Rn G M (pc + 2) L' st σ r σ') : Rn G M pc L (vl x :: st) σ r σ' := by
  intro p l e s m args below meth c H locs ls C X hl
  subst hL
  exact lv_lstore C.1 C.2.1 hd hl hn rfl (fun ls' h' => k p l e s m args below meth c H locs ls' C X (LH.set2 hc h'))
theorem p_aloadN {G : GX} {M : MI} {pc : Nat} {L : LL} {st : List Value} {σ σ' : SG} {r : Option Value} {q : Fin 4} {i : Nat} {x : Nat} (hi : (q : Nat) = i) (hk : L[i]? = some (some (.ref x))) (hd : decode M.2.1 pc = .ok (.aload_n q, 1)) (k : Rn G M (pc + 1) L (.ref x :: st) σ r σ') : Rn G M pc L (st) σ r σ' := by
  intro p l e s m args below meth c H locs ls C X hl
  exact lv_aload_n C.1 C.2.1 hd hi (hl.at hk) (k p l e s m args below meth c H locs ls C X hl)
theorem p_aloadG {G : GX} {M : MI} {pc : Nat} {L : LL} {st : List Value} {σ σ' : SG} {r : Option Value} {i : Nat} {x : Nat} (hk : L[i]? = some (some (.ref x))) (hd : decode M.2.1 pc = .ok (.aload i, 2)) (k : Rn G M (pc + 2) L (.ref x :: st) σ r σ') : Rn G M pc L (st) σ r σ' := by
  intro p l e s m args below meth c H locs ls C X hl
  exact lv_aload C.1 C.2.1 hd (hl.at hk) (k p l e s m args below meth c H locs ls C X hl)
theorem p_astoreN {G : GX} {M : MI} {pc : Nat} {L : LL} {st : List Value} {σ σ' : SG} {r : Option Value} {L' : LL} {q : Fin 4} {i : Nat} {x : Nat} (hi : (q : Nat) = i) (hn : i < M.2.2.1) (hc : pcat L i) (hL : L.set i (some (.ref x)) = L') (hd : decode M.2.1 pc = .ok (.astore_n q, 1)) (k : Rn G M (pc + 1) L' st σ r σ') : Rn G M pc L (.ref x :: st) σ r σ' := by
  intro p l e s m args below meth c H locs ls C X hl
  subst hL
  exact lv_astore_n C.1 C.2.1 hd hi hl hn rfl (fun ls' h' => k p l e s m args below meth c H locs ls' C X (LH.set1 hc h'))
theorem p_astoreG {G : GX} {M : MI} {pc : Nat} {L : LL} {st : List Value} {σ σ' : SG} {r : Option Value} {L' : LL} {i : Nat} {x : Nat} (hn : i < M.2.2.1) (hc : pcat L i) (hL : L.set i (some (.ref x)) = L') (hd : decode M.2.1 pc = .ok (.astore i, 2)) (k : Rn G M (pc + 2) L' st σ r σ') : Rn G M pc L (.ref x :: st) σ r σ' := by
  intro p l e s m args below meth c H locs ls C X hl
  subst hL
  exact lv_astore C.1 C.2.1 hd hl hn rfl (fun ls' h' => k p l e s m args below meth c H locs ls' C X (LH.set1 hc h'))
theorem p_iincG {G : GX} {M : MI} {pc : Nat} {L : LL} {st : List Value} {σ σ' : SG} {r : Option Value} {L' : LL} {i : Nat} {x n : Int} (hk : L[i]? = some (some (vi x))) (hn : i < M.2.2.1) (hc : pcat L i) (hL : L.set i (some (vi (x + n))) = L') (hd : decode M.2.1 pc = .ok (.iinc i n, 3)) (k : Rn G M (pc + 3) L' st σ r σ') : Rn G M pc L st σ r σ' := by
  intro p l e s m args below meth c H locs ls C X hl
  subst hL
  have hm : (i, vi x) ∈ al 0 L := (al_mem L 0).mpr ⟨i, by omega, hk⟩
  obtain ⟨q, hq⟩ := List.getElem?_of_mem hm
  exact lv_iinc (v := Int32.ofInt (x + n)) C.1 C.2.1 hd hl hq (Int32.ofInt_add x n).symm hn rfl (fun ls' h' => k p l e s m args below meth c H locs ls' C X (LH.set1 hc h'))
theorem pcat0 {L : LL} : pcat L 0 := fun j w h => by omega
theorem pcat1 {a0 : Option Value} {t : LL} (h : ocat a0 = true) : pcat (a0 :: t) 1 := fun j w e hj => by
  have : j = 0 := by omega
  subst this
  simp at hj
  subst hj
  simpa [ocat] using h
theorem pcat2 {a0 a1 : Option Value} {t : LL} (h : ocat a1 = true) : pcat (a0 :: a1 :: t) 2 := fun j w e hj => by
  have : j = 1 := by omega
  subst this
  simp at hj
  subst hj
  simpa [ocat] using h
theorem pcat3 {a0 a1 a2 : Option Value} {t : LL} (h : ocat a2 = true) : pcat (a0 :: a1 :: a2 :: t) 3 := fun j w e hj => by
  have : j = 2 := by omega
  subst this
  simp at hj
  subst hj
  simpa [ocat] using h
theorem pcat4 {a0 a1 a2 a3 : Option Value} {t : LL} (h : ocat a3 = true) : pcat (a0 :: a1 :: a2 :: a3 :: t) 4 := fun j w e hj => by
  have : j = 3 := by omega
  subst this
  simp at hj
  subst hj
  simpa [ocat] using h
theorem pcat5 {a0 a1 a2 a3 a4 : Option Value} {t : LL} (h : ocat a4 = true) : pcat (a0 :: a1 :: a2 :: a3 :: a4 :: t) 5 := fun j w e hj => by
  have : j = 4 := by omega
  subst this
  simp at hj
  subst hj
  simpa [ocat] using h
theorem pcat6 {a0 a1 a2 a3 a4 a5 : Option Value} {t : LL} (h : ocat a5 = true) : pcat (a0 :: a1 :: a2 :: a3 :: a4 :: a5 :: t) 6 := fun j w e hj => by
  have : j = 5 := by omega
  subst this
  simp at hj
  subst hj
  simpa [ocat] using h
theorem pcat7 {a0 a1 a2 a3 a4 a5 a6 : Option Value} {t : LL} (h : ocat a6 = true) : pcat (a0 :: a1 :: a2 :: a3 :: a4 :: a5 :: a6 :: t) 7 := fun j w e hj => by
  have : j = 6 := by omega
  subst this
  simp at hj
  subst hj
  simpa [ocat] using h
theorem pcat8 {a0 a1 a2 a3 a4 a5 a6 a7 : Option Value} {t : LL} (h : ocat a7 = true) : pcat (a0 :: a1 :: a2 :: a3 :: a4 :: a5 :: a6 :: a7 :: t) 8 := fun j w e hj => by
  have : j = 7 := by omega
  subst this
  simp at hj
  subst hj
  simpa [ocat] using h
theorem pcat9 {a0 a1 a2 a3 a4 a5 a6 a7 a8 : Option Value} {t : LL} (h : ocat a8 = true) : pcat (a0 :: a1 :: a2 :: a3 :: a4 :: a5 :: a6 :: a7 :: a8 :: t) 9 := fun j w e hj => by
  have : j = 8 := by omega
  subst this
  simp at hj
  subst hj
  simpa [ocat] using h
theorem pcat10 {a0 a1 a2 a3 a4 a5 a6 a7 a8 a9 : Option Value} {t : LL} (h : ocat a9 = true) : pcat (a0 :: a1 :: a2 :: a3 :: a4 :: a5 :: a6 :: a7 :: a8 :: a9 :: t) 10 := fun j w e hj => by
  have : j = 9 := by omega
  subst this
  simp at hj
  subst hj
  simpa [ocat] using h
theorem pcat11 {a0 a1 a2 a3 a4 a5 a6 a7 a8 a9 a10 : Option Value} {t : LL} (h : ocat a10 = true) : pcat (a0 :: a1 :: a2 :: a3 :: a4 :: a5 :: a6 :: a7 :: a8 :: a9 :: a10 :: t) 11 := fun j w e hj => by
  have : j = 10 := by omega
  subst this
  simp at hj
  subst hj
  simpa [ocat] using h
theorem pcat12 {a0 a1 a2 a3 a4 a5 a6 a7 a8 a9 a10 a11 : Option Value} {t : LL} (h : ocat a11 = true) : pcat (a0 :: a1 :: a2 :: a3 :: a4 :: a5 :: a6 :: a7 :: a8 :: a9 :: a10 :: a11 :: t) 12 := fun j w e hj => by
  have : j = 11 := by omega
  subst this
  simp at hj
  subst hj
  simpa [ocat] using h
theorem pcat13 {a0 a1 a2 a3 a4 a5 a6 a7 a8 a9 a10 a11 a12 : Option Value} {t : LL} (h : ocat a12 = true) : pcat (a0 :: a1 :: a2 :: a3 :: a4 :: a5 :: a6 :: a7 :: a8 :: a9 :: a10 :: a11 :: a12 :: t) 13 := fun j w e hj => by
  have : j = 12 := by omega
  subst this
  simp at hj
  subst hj
  simpa [ocat] using h
theorem p_iload0 {G : GX} {M : MI} {pc : Nat} {t : LL} {st : List Value} {σ σ' : SG} {r : Option Value} {x : Int} (hd : decode M.2.1 pc = .ok (.iload_n 0, 1)) (k : Rn G M (pc + 1) (some (vi x) :: t) (vi x :: st) σ r σ') : Rn G M pc (some (vi x) :: t) st σ r σ' := p_iloadN rfl rfl hd k
theorem p_istore0 {G : GX} {M : MI} {pc : Nat} {t : LL} {st : List Value} {σ σ' : SG} {r : Option Value} {b0 : Option Value} {x : Int} (hn : 0 < M.2.2.1) (hd : decode M.2.1 pc = .ok (.istore_n 0, 1)) (k : Rn G M (pc + 1) (some (vi x) :: t) st σ r σ') : Rn G M pc (b0 :: t) (vi x :: st) σ r σ' := p_istoreN rfl hn pcat0 rfl hd k
theorem p_lload0 {G : GX} {M : MI} {pc : Nat} {t : LL} {st : List Value} {σ σ' : SG} {r : Option Value} {x : Int} (hd : decode M.2.1 pc = .ok (.lload_n 0, 1)) (k : Rn G M (pc + 1) (some (vl x) :: t) (vl x :: st) σ r σ') : Rn G M pc (some (vl x) :: t) st σ r σ' := p_lloadN rfl rfl hd k
theorem p_lstore0 {G : GX} {M : MI} {pc : Nat} {t : LL} {st : List Value} {σ σ' : SG} {r : Option Value} {b0 b1 : Option Value} {x : Int} (hn : 0 + 1 < M.2.2.1) (hd : decode M.2.1 pc = .ok (.lstore_n 0, 1)) (k : Rn G M (pc + 1) (some (vl x) :: none :: t) st σ r σ') : Rn G M pc (b0 :: b1 :: t) (vl x :: st) σ r σ' := p_lstoreN rfl hn pcat0 rfl hd k
theorem p_aload0 {G : GX} {M : MI} {pc : Nat} {t : LL} {st : List Value} {σ σ' : SG} {r : Option Value} {x : Nat} (hd : decode M.2.1 pc = .ok (.aload_n 0, 1)) (k : Rn G M (pc + 1) (some (.ref x) :: t) (.ref x :: st) σ r σ') : Rn G M pc (some (.ref x) :: t) st σ r σ' := p_aloadN rfl rfl hd k
theorem p_astore0 {G : GX} {M : MI} {pc : Nat} {t : LL} {st : List Value} {σ σ' : SG} {r : Option Value} {b0 : Option Value} {x : Nat} (hn : 0 < M.2.2.1) (hd : decode M.2.1 pc = .ok (.astore_n 0, 1)) (k : Rn G M (pc + 1) (some (.ref x) :: t) st σ r σ') : Rn G M pc (b0 :: t) (.ref x :: st) σ r σ' := p_astoreN rfl hn pcat0 rfl hd k
theorem p_iinc0 {G : GX} {M : MI} {pc : Nat} {t : LL} {st : List Value} {σ σ' : SG} {r : Option Value} {x n : Int} (hn : 0 < M.2.2.1) (hd : decode M.2.1 pc = .ok (.iinc 0 n, 3)) (k : Rn G M (pc + 3) (some (vi (x + n)) :: t) st σ r σ') : Rn G M pc (some (vi x) :: t) st σ r σ' := p_iincG rfl hn pcat0 rfl hd k
theorem p_iload1 {G : GX} {M : MI} {pc : Nat} {t : LL} {st : List Value} {σ σ' : SG} {r : Option Value} {a0 : Option Value} {x : Int} (hd : decode M.2.1 pc = .ok (.iload_n 1, 1)) (k : Rn G M (pc + 1) (a0 :: some (vi x) :: t) (vi x :: st) σ r σ') : Rn G M pc (a0 :: some (vi x) :: t) st σ r σ' := p_iloadN rfl rfl hd k
theorem p_istore1 {G : GX} {M : MI} {pc : Nat} {t : LL} {st : List Value} {σ σ' : SG} {r : Option Value} {a0 : Option Value} {b0 : Option Value} {x : Int} (hc : ocat a0 = true) (hn : 1 < M.2.2.1) (hd : decode M.2.1 pc = .ok (.istore_n 1, 1)) (k : Rn G M (pc + 1) (a0 :: some (vi x) :: t) st σ r σ') : Rn G M pc (a0 :: b0 :: t) (vi x :: st) σ r σ' := p_istoreN rfl hn (pcat1 hc) rfl hd k
theorem p_lload1 {G : GX} {M : MI} {pc : Nat} {t : LL} {st : List Value} {σ σ' : SG} {r : Option Value} {a0 : Option Value} {x : Int} (hd : decode M.2.1 pc = .ok (.lload_n 1, 1)) (k : Rn G M (pc + 1) (a0 :: some (vl x) :: t) (vl x :: st) σ r σ') : Rn G M pc (a0 :: some (vl x) :: t) st σ r σ' := p_lloadN rfl rfl hd k
theorem p_lstore1 {G : GX} {M : MI} {pc : Nat} {t : LL} {st : List Value} {σ σ' : SG} {r : Option Value} {a0 : Option Value} {b0 b1 : Option Value} {x : Int} (hc : ocat a0 = true) (hn : 1 + 1 < M.2.2.1) (hd : decode M.2.1 pc = .ok (.lstore_n 1, 1)) (k : Rn G M (pc + 1) (a0 :: some (vl x) :: none :: t) st σ r σ') : Rn G M pc (a0 :: b0 :: b1 :: t) (vl x :: st) σ r σ' := p_lstoreN rfl hn (pcat1 hc) rfl hd k
theorem p_aload1 {G : GX} {M : MI} {pc : Nat} {t : LL} {st : List Value} {σ σ' : SG} {r : Option Value} {a0 : Option Value} {x : Nat} (hd : decode M.2.1 pc = .ok (.aload_n 1, 1)) (k : Rn G M (pc + 1) (a0 :: some (.ref x) :: t) (.ref x :: st) σ r σ') : Rn G M pc (a0 :: some (.ref x) :: t) st σ r σ' := p_aloadN rfl rfl hd k
theorem p_astore1 {G : GX} {M : MI} {pc : Nat} {t : LL} {st : List Value} {σ σ' : SG} {r : Option Value} {a0 : Option Value} {b0 : Option Value} {x : Nat} (hc : ocat a0 = true) (hn : 1 < M.2.2.1) (hd : decode M.2.1 pc = .ok (.astore_n 1, 1)) (k : Rn G M (pc + 1) (a0 :: some (.ref x) :: t) st σ r σ') : Rn G M pc (a0 :: b0 :: t) (.ref x :: st) σ r σ' := p_astoreN rfl hn (pcat1 hc) rfl hd k
theorem p_iinc1 {G : GX} {M : MI} {pc : Nat} {t : LL} {st : List Value} {σ σ' : SG} {r : Option Value} {a0 : Option Value} {x n : Int} (hc : ocat a0 = true) (hn : 1 < M.2.2.1) (hd : decode M.2.1 pc = .ok (.iinc 1 n, 3)) (k : Rn G M (pc + 3) (a0 :: some (vi (x + n)) :: t) st σ r σ') : Rn G M pc (a0 :: some (vi x) :: t) st σ r σ' := p_iincG rfl hn (pcat1 hc) rfl hd k
theorem p_iload2 {G : GX} {M : MI} {pc : Nat} {t : LL} {st : List Value} {σ σ' : SG} {r : Option Value} {a0 a1 : Option Value} {x : Int} (hd : decode M.2.1 pc = .ok (.iload_n 2, 1)) (k : Rn G M (pc + 1) (a0 :: a1 :: some (vi x) :: t) (vi x :: st) σ r σ') : Rn G M pc (a0 :: a1 :: some (vi x) :: t) st σ r σ' := p_iloadN rfl rfl hd k
theorem p_istore2 {G : GX} {M : MI} {pc : Nat} {t : LL} {st : List Value} {σ σ' : SG} {r : Option Value} {a0 a1 : Option Value} {b0 : Option Value} {x : Int} (hc : ocat a1 = true) (hn : 2 < M.2.2.1) (hd : decode M.2.1 pc = .ok (.istore_n 2, 1)) (k : Rn G M (pc + 1) (a0 :: a1 :: some (vi x) :: t) st σ r σ') : Rn G M pc (a0 :: a1 :: b0 :: t) (vi x :: st) σ r σ' := p_istoreN rfl hn (pcat2 hc) rfl hd k
theorem p_lload2 {G : GX} {M : MI} {pc : Nat} {t : LL} {st : List Value} {σ σ' : SG} {r : Option Value} {a0 a1 : Option Value} {x : Int} (hd : decode M.2.1 pc = .ok (.lload_n 2, 1)) (k : Rn G M (pc + 1) (a0 :: a1 :: some (vl x) :: t) (vl x :: st) σ r σ') : Rn G M pc (a0 :: a1 :: some (vl x) :: t) st σ r σ' := p_lloadN rfl rfl hd k
theorem p_lstore2 {G : GX} {M : MI} {pc : Nat} {t : LL} {st : List Value} {σ σ' : SG} {r : Option Value} {a0 a1 : Option Value} {b0 b1 : Option Value} {x : Int} (hc : ocat a1 = true) (hn : 2 + 1 < M.2.2.1) (hd : decode M.2.1 pc = .ok (.lstore_n 2, 1)) (k : Rn G M (pc + 1) (a0 :: a1 :: some (vl x) :: none :: t) st σ r σ') : Rn G M pc (a0 :: a1 :: b0 :: b1 :: t) (vl x :: st) σ r σ' := p_lstoreN rfl hn (pcat2 hc) rfl hd k
theorem p_aload2 {G : GX} {M : MI} {pc : Nat} {t : LL} {st : List Value} {σ σ' : SG} {r : Option Value} {a0 a1 : Option Value} {x : Nat} (hd : decode M.2.1 pc = .ok (.aload_n 2, 1)) (k : Rn G M (pc + 1) (a0 :: a1 :: some (.ref x) :: t) (.ref x :: st) σ r σ') : Rn G M pc (a0 :: a1 :: some (.ref x) :: t) st σ r σ' := p_aloadN rfl rfl hd k
theorem p_astore2 {G : GX} {M : MI} {pc : Nat} {t : LL} {st : List Value} {σ σ' : SG} {r : Option Value} {a0 a1 : Option Value} {b0 : Option Value} {x : Nat} (hc : ocat a1 = true) (hn : 2 < M.2.2.1) (hd : decode M.2.1 pc = .ok (.astore_n 2, 1)) (k : Rn G M (pc + 1) (a0 :: a1 :: some (.ref x) :: t) st σ r σ') : Rn G M pc (a0 :: a1 :: b0 :: t) (.ref x :: st) σ r σ' := p_astoreN rfl hn (pcat2 hc) rfl hd k
theorem p_iinc2 {G : GX} {M : MI} {pc : Nat} {t : LL} {st : List Value} {σ σ' : SG} {r : Option Value} {a0 a1 : Option Value} {x n : Int} (hc : ocat a1 = true) (hn : 2 < M.2.2.1) (hd : decode M.2.1 pc = .ok (.iinc 2 n, 3)) (k : Rn G M (pc + 3) (a0 :: a1 :: some (vi (x + n)) :: t) st σ r σ') : Rn G M pc (a0 :: a1 :: some (vi x) :: t) st σ r σ' := p_iincG rfl hn (pcat2 hc) rfl hd k
theorem p_iload3 {G : GX} {M : MI} {pc : Nat} {t : LL} {st : List Value} {σ σ' : SG} {r : Option Value} {a0 a1 a2 : Option Value} {x : Int} (hd : decode M.2.1 pc = .ok (.iload_n 3, 1)) (k : Rn G M (pc + 1) (a0 :: a1 :: a2 :: some (vi x) :: t) (vi x :: st) σ r σ') : Rn G M pc (a0 :: a1 :: a2 :: some (vi x) :: t) st σ r σ' := p_iloadN rfl rfl hd k
theorem p_istore3 {G : GX} {M : MI} {pc : Nat} {t : LL} {st : List Value} {σ σ' : SG} {r : Option Value} {a0 a1 a2 : Option Value} {b0 : Option Value} {x : Int} (hc : ocat a2 = true) (hn : 3 < M.2.2.1) (hd : decode M.2.1 pc = .ok (.istore_n 3, 1)) (k : Rn G M (pc + 1) (a0 :: a1 :: a2 :: some (vi x) :: t) st σ r σ') : Rn G M pc (a0 :: a1 :: a2 :: b0 :: t) (vi x :: st) σ r σ' := p_istoreN rfl hn (pcat3 hc) rfl hd k
theorem p_lload3 {G : GX} {M : MI} {pc : Nat} {t : LL} {st : List Value} {σ σ' : SG} {r : Option Value} {a0 a1 a2 : Option Value} {x : Int} (hd : decode M.2.1 pc = .ok (.lload_n 3, 1)) (k : Rn G M (pc + 1) (a0 :: a1 :: a2 :: some (vl x) :: t) (vl x :: st) σ r σ') : Rn G M pc (a0 :: a1 :: a2 :: some (vl x) :: t) st σ r σ' := p_lloadN rfl rfl hd k
theorem p_lstore3 {G : GX} {M : MI} {pc : Nat} {t : LL} {st : List Value} {σ σ' : SG} {r : Option Value} {a0 a1 a2 : Option Value} {b0 b1 : Option Value} {x : Int} (hc : ocat a2 = true) (hn : 3 + 1 < M.2.2.1) (hd : decode M.2.1 pc = .ok (.lstore_n 3, 1)) (k : Rn G M (pc + 1) (a0 :: a1 :: a2 :: some (vl x) :: none :: t) st σ r σ') : Rn G M pc (a0 :: a1 :: a2 :: b0 :: b1 :: t) (vl x :: st) σ r σ' := p_lstoreN rfl hn (pcat3 hc) rfl hd k
theorem p_aload3 {G : GX} {M : MI} {pc : Nat} {t : LL} {st : List Value} {σ σ' : SG} {r : Option Value} {a0 a1 a2 : Option Value} {x : Nat} (hd : decode M.2.1 pc = .ok (.aload_n 3, 1)) (k : Rn G M (pc + 1) (a0 :: a1 :: a2 :: some (.ref x) :: t) (.ref x :: st) σ r σ') : Rn G M pc (a0 :: a1 :: a2 :: some (.ref x) :: t) st σ r σ' := p_aloadN rfl rfl hd k
theorem p_astore3 {G : GX} {M : MI} {pc : Nat} {t : LL} {st : List Value} {σ σ' : SG} {r : Option Value} {a0 a1 a2 : Option Value} {b0 : Option Value} {x : Nat} (hc : ocat a2 = true) (hn : 3 < M.2.2.1) (hd : decode M.2.1 pc = .ok (.astore_n 3, 1)) (k : Rn G M (pc + 1) (a0 :: a1 :: a2 :: some (.ref x) :: t) st σ r σ') : Rn G M pc (a0 :: a1 :: a2 :: b0 :: t) (.ref x :: st) σ r σ' := p_astoreN rfl hn (pcat3 hc) rfl hd k
theorem p_iinc3 {G : GX} {M : MI} {pc : Nat} {t : LL} {st : List Value} {σ σ' : SG} {r : Option Value} {a0 a1 a2 : Option Value} {x n : Int} (hc : ocat a2 = true) (hn : 3 < M.2.2.1) (hd : decode M.2.1 pc = .ok (.iinc 3 n, 3)) (k : Rn G M (pc + 3) (a0 :: a1 :: a2 :: some (vi (x + n)) :: t) st σ r σ') : Rn G M pc (a0 :: a1 :: a2 :: some (vi x) :: t) st σ r σ' := p_iincG rfl hn (pcat3 hc) rfl hd k
theorem p_iload4 {G : GX} {M : MI} {pc : Nat} {t : LL} {st : List Value} {σ σ' : SG} {r : Option Value} {a0 a1 a2 a3 : Option Value} {x : Int} (hd : decode M.2.1 pc = .ok (.iload 4, 2)) (k : Rn G M (pc + 2) (a0 :: a1 :: a2 :: a3 :: some (vi x) :: t) (vi x :: st) σ r σ') : Rn G M pc (a0 :: a1 :: a2 :: a3 :: some (vi x) :: t) st σ r σ' := p_iloadG rfl hd k
theorem p_istore4 {G : GX} {M : MI} {pc : Nat} {t : LL} {st : List Value} {σ σ' : SG} {r : Option Value} {a0 a1 a2 a3 : Option Value} {b0 : Option Value} {x : Int} (hc : ocat a3 = true) (hn : 4 < M.2.2.1) (hd : decode M.2.1 pc = .ok (.istore 4, 2)) (k : Rn G M (pc + 2) (a0 :: a1 :: a2 :: a3 :: some (vi x) :: t) st σ r σ') : Rn G M pc (a0 :: a1 :: a2 :: a3 :: b0 :: t) (vi x :: st) σ r σ' := p_istoreG hn (pcat4 hc) rfl hd k
theorem p_lload4 {G : GX} {M : MI} {pc : Nat} {t : LL} {st : List Value} {σ σ' : SG} {r : Option Value} {a0 a1 a2 a3 : Option Value} {x : Int} (hd : decode M.2.1 pc = .ok (.lload 4, 2)) (k : Rn G M (pc + 2) (a0 :: a1 :: a2 :: a3 :: some (vl x) :: t) (vl x :: st) σ r σ') : Rn G M pc (a0 :: a1 :: a2 :: a3 :: some (vl x) :: t) st σ r σ' := p_lloadG rfl hd k
theorem p_lstore4 {G : GX} {M : MI} {pc : Nat} {t : LL} {st : List Value} {σ σ' : SG} {r : Option Value} {a0 a1 a2 a3 : Option Value} {b0 b1 : Option Value} {x : Int} (hc : ocat a3 = true) (hn : 4 + 1 < M.2.2.1) (hd : decode M.2.1 pc = .ok (.lstore 4, 2)) (k : Rn G M (pc + 2) (a0 :: a1 :: a2 :: a3 :: some (vl x) :: none :: t) st σ r σ') : Rn G M pc (a0 :: a1 :: a2 :: a3 :: b0 :: b1 :: t) (vl x :: st) σ r σ' := p_lstoreG hn (pcat4 hc) rfl hd k
theorem p_aload4 {G : GX} {M : MI} {pc : Nat} {t : LL} {st : List Value} {σ σ' : SG} {r : Option Value} {a0 a1 a2 a3 : Option Value} {x : Nat} (hd : decode M.2.1 pc = .ok (.aload 4, 2)) (k : Rn G M (pc + 2) (a0 :: a1 :: a2 :: a3 :: some (.ref x) :: t) (.ref x :: st) σ r σ') : Rn G M pc (a0 :: a1 :: a2 :: a3 :: some (.ref x) :: t) st σ r σ' := p_aloadG rfl hd k
theorem p_astore4 {G : GX} {M : MI} {pc : Nat} {t : LL} {st : List Value} {σ σ' : SG} {r : Option Value} {a0 a1 a2 a3 : Option Value} {b0 : Option Value} {x : Nat} (hc : ocat a3 = true) (hn : 4 < M.2.2.1) (hd : decode M.2.1 pc = .ok (.astore 4, 2)) (k : Rn G M (pc + 2) (a0 :: a1 :: a2 :: a3 :: some (.ref x) :: t) st σ r σ') : Rn G M pc (a0 :: a1 :: a2 :: a3 :: b0 :: t) (.ref x :: st) σ r σ' := p_astoreG hn (pcat4 hc) rfl hd k
theorem p_iinc4 {G : GX} {M : MI} {pc : Nat} {t : LL} {st : List Value} {σ σ' : SG} {r : Option Value} {a0 a1 a2 a3 : Option Value} {x n : Int} (hc : ocat a3 = true) (hn : 4 < M.2.2.1) (hd : decode M.2.1 pc = .ok (.iinc 4 n, 3)) (k : Rn G M (pc + 3) (a0 :: a1 :: a2 :: a3 :: some (vi (x + n)) :: t) st σ r σ') : Rn G M pc (a0 :: a1 :: a2 :: a3 :: some (vi x) :: t) st σ r σ' := p_iincG rfl hn (pcat4 hc) rfl hd k
theorem p_iload5 {G : GX} {M : MI} {pc : Nat} {t : LL} {st : List Value} {σ σ' : SG} {r : Option Value} {a0 a1 a2 a3 a4 : Option Value} {x : Int} (hd : decode M.2.1 pc = .ok (.iload 5, 2)) (k : Rn G M (pc + 2) (a0 :: a1 :: a2 :: a3 :: a4 :: some (vi x) :: t) (vi x :: st) σ r σ') : Rn G M pc (a0 :: a1 :: a2 :: a3 :: a4 :: some (vi x) :: t) st σ r σ' := p_iloadG rfl hd k
theorem p_istore5 {G : GX} {M : MI} {pc : Nat} {t : LL} {st : List Value} {σ σ' : SG} {r : Option Value} {a0 a1 a2 a3 a4 : Option Value} {b0 : Option Value} {x : Int} (hc : ocat a4 = true) (hn : 5 < M.2.2.1) (hd : decode M.2.1 pc = .ok (.istore 5, 2)) (k : Rn G M (pc + 2) (a0 :: a1 :: a2 :: a3 :: a4 :: some (vi x) :: t) st σ r σ') : Rn G M pc (a0 :: a1 :: a2 :: a3 :: a4 :: b0 :: t) (vi x :: st) σ r σ' := p_istoreG hn (pcat5 hc) rfl hd k
theorem p_lload5 {G : GX} {M : MI} {pc : Nat} {t : LL} {st : List Value} {σ σ' : SG} {r : Option Value} {a0 a1 a2 a3 a4 : Option Value} {x : Int} (hd : decode M.2.1 pc = .ok (.lload 5, 2)) (k : Rn G M (pc + 2) (a0 :: a1 :: a2 :: a3 :: a4 :: some (vl x) :: t) (vl x :: st) σ r σ') : Rn G M pc (a0 :: a1 :: a2 :: a3 :: a4 :: some (vl x) :: t) st σ r σ' := p_lloadG rfl hd k
theorem p_lstore5 {G : GX} {M : MI} {pc : Nat} {t : LL} {st : List Value} {σ σ' : SG} {r : Option Value} {a0 a1 a2 a3 a4 : Option Value} {b0 b1 : Option Value} {x : Int} (hc : ocat a4 = true) (hn : 5 + 1 < M.2.2.1) (hd : decode M.2.1 pc = .ok (.lstore 5, 2)) (k : Rn G M (pc + 2) (a0 :: a1 :: a2 :: a3 :: a4 :: some (vl x) :: none :: t) st σ r σ') : Rn G M pc (a0 :: a1 :: a2 :: a3 :: a4 :: b0 :: b1 :: t) (vl x :: st) σ r σ' := p_lstoreG hn (pcat5 hc) rfl hd k
theorem p_aload5 {G : GX} {M : MI} {pc : Nat} {t : LL} {st : List Value} {σ σ' : SG} {r : Option Value} {a0 a1 a2 a3 a4 : Option Value} {x : Nat} (hd : decode M.2.1 pc = .ok (.aload 5, 2)) (k : Rn G M (pc + 2) (a0 :: a1 :: a2 :: a3 :: a4 :: some (.ref x) :: t) (.ref x :: st) σ r σ') : Rn G M pc (a0 :: a1 :: a2 :: a3 :: a4 :: some (.ref x) :: t) st σ r σ' := p_aloadG rfl hd k
theorem p_astore5 {G : GX} {M : MI} {pc : Nat} {t : LL} {st : List Value} {σ σ' : SG} {r : Option Value} {a0 a1 a2 a3 a4 : Option Value} {b0 : Option Value} {x : Nat} (hc : ocat a4 = true) (hn : 5 < M.2.2.1) (hd : decode M.2.1 pc = .ok (.astore 5, 2)) (k : Rn G M (pc + 2) (a0 :: a1 :: a2 :: a3 :: a4 :: some (.ref x) :: t) st σ r σ') : Rn G M pc (a0 :: a1 :: a2 :: a3 :: a4 :: b0 :: t) (.ref x :: st) σ r σ' := p_astoreG hn (pcat5 hc) rfl hd k
theorem p_iinc5 {G : GX} {M : MI} {pc : Nat} {t : LL} {st : List Value} {σ σ' : SG} {r : Option Value} {a0 a1 a2 a3 a4 : Option Value} {x n : Int} (hc : ocat a4 = true) (hn : 5 < M.2.2.1) (hd : decode M.2.1 pc = .ok (.iinc 5 n, 3)) (k : Rn G M (pc + 3) (a0 :: a1 :: a2 :: a3 :: a4 :: some (vi (x + n)) :: t) st σ r σ') : Rn G M pc (a0 :: a1 :: a2 :: a3 :: a4 :: some (vi x) :: t) st σ r σ' := p_iincG rfl hn (pcat5 hc) rfl hd k
theorem p_iload6 {G : GX} {M : MI} {pc : Nat} {t : LL} {st : List Value} {σ σ' : SG} {r : Option Value} {a0 a1 a2 a3 a4 a5 : Option Value} {x : Int} (hd : decode M.2.1 pc = .ok (.iload 6, 2)) (k : Rn G M (pc + 2) (a0 :: a1 :: a2 :: a3 :: a4 :: a5 :: some (vi x) :: t) (vi x :: st) σ r σ') : Rn G M pc (a0 :: a1 :: a2 :: a3 :: a4 :: a5 :: some (vi x) :: t) st σ r σ' := p_iloadG rfl hd k
theorem p_istore6 {G : GX} {M : MI} {pc : Nat} {t : LL} {st : List Value} {σ σ' : SG} {r : Option Value} {a0 a1 a2 a3 a4 a5 : Option Value} {b0 : Option Value} {x : Int} (hc : ocat a5 = true) (hn : 6 < M.2.2.1) (hd : decode M.2.1 pc = .ok (.istore 6, 2)) (k : Rn G M (pc + 2) (a0 :: a1 :: a2 :: a3 :: a4 :: a5 :: some (vi x) :: t) st σ r σ') : Rn G M pc (a0 :: a1 :: a2 :: a3 :: a4 :: a5 :: b0 :: t) (vi x :: st) σ r σ' := p_istoreG hn (pcat6 hc) rfl hd k
theorem p_lload6 {G : GX} {M : MI} {pc : Nat} {t : LL} {st : List Value} {σ σ' : SG} {r : Option Value} {a0 a1 a2 a3 a4 a5 : Option Value} {x : Int} (hd : decode M.2.1 pc = .ok (.lload 6, 2)) (k : Rn G M (pc + 2) (a0 :: a1 :: a2 :: a3 :: a4 :: a5 :: some (vl x) :: t) (vl x :: st) σ r σ') : Rn G M pc (a0 :: a1 :: a2 :: a3 :: a4 :: a5 :: some (vl x) :: t) st σ r σ' := p_lloadG rfl hd k
theorem p_lstore6 {G : GX} {M : MI} {pc : Nat} {t : LL} {st : List Value} {σ σ' : SG} {r : Option Value} {a0 a1 a2 a3 a4 a5 : Option Value} {b0 b1 : Option Value} {x : Int} (hc : ocat a5 = true) (hn : 6 + 1 < M.2.2.1) (hd : decode M.2.1 pc = .ok (.lstore 6, 2)) (k : Rn G M (pc + 2) (a0 :: a1 :: a2 :: a3 :: a4 :: a5 :: some (vl x) :: none :: t) st σ r σ') : Rn G M pc (a0 :: a1 :: a2 :: a3 :: a4 :: a5 :: b0 :: b1 :: t) (vl x :: st) σ r σ' := p_lstoreG hn (pcat6 hc) rfl hd k
theorem p_aload6 {G : GX} {M : MI} {pc : Nat} {t : LL} {st : List Value} {σ σ' : SG} {r : Option Value} {a0 a1 a2 a3 a4 a5 : Option Value} {x : Nat} (hd : decode M.2.1 pc = .ok (.aload 6, 2)) (k : Rn G M (pc + 2) (a0 :: a1 :: a2 :: a3 :: a4 :: a5 :: some (.ref x) :: t) (.ref x :: st) σ r σ') : Rn G M pc (a0 :: a1 :: a2 :: a3 :: a4 :: a5 :: some (.ref x) :: t) st σ r σ' := p_aloadG rfl hd k
theorem p_astore6 {G : GX} {M : MI} {pc : Nat} {t : LL} {st : List Value} {σ σ' : SG} {r : Option Value} {a0 a1 a2 a3 a4 a5 : Option Value} {b0 : Option Value} {x : Nat} (hc : ocat a5 = true) (hn : 6 < M.2.2.1) (hd : decode M.2.1 pc = .ok (.astore 6, 2)) (k : Rn G M (pc + 2) (a0 :: a1 :: a2 :: a3 :: a4 :: a5 :: some (.ref x) :: t) st σ r σ') : Rn G M pc (a0 :: a1 :: a2 :: a3 :: a4 :: a5 :: b0 :: t) (.ref x :: st) σ r σ' := p_astoreG hn (pcat6 hc) rfl hd k
theorem p_iinc6 {G : GX} {M : MI} {pc : Nat} {t : LL} {st : List Value} {σ σ' : SG} {r : Option Value} {a0 a1 a2 a3 a4 a5 : Option Value} {x n : Int} (hc : ocat a5 = true) (hn : 6 < M.2.2.1) (hd : decode M.2.1 pc = .ok (.iinc 6 n, 3)) (k : Rn G M (pc + 3) (a0 :: a1 :: a2 :: a3 :: a4 :: a5 :: some (vi (x + n)) :: t) st σ r σ') : Rn G M pc (a0 :: a1 :: a2 :: a3 :: a4 :: a5 :: some (vi x) :: t) st σ r σ' := p_iincG rfl hn (pcat6 hc) rfl hd k
theorem p_iload7 {G : GX} {M : MI} {pc : Nat} {t : LL} {st : List Value} {σ σ' : SG} {r : Option Value} {a0 a1 a2 a3 a4 a5 a6 : Option Value} {x : Int} (hd : decode M.2.1 pc = .ok (.iload 7, 2)) (k : Rn G M (pc + 2) (a0 :: a1 :: a2 :: a3 :: a4 :: a5 :: a6 :: some (vi x) :: t) (vi x :: st) σ r σ') : Rn G M pc (a0 :: a1 :: a2 :: a3 :: a4 :: a5 :: a6 :: some (vi x) :: t) st σ r σ' := p_iloadG rfl hd k
theorem p_istore7 {G : GX} {M : MI} {pc : Nat} {t : LL} {st : List Value} {σ σ' : SG} {r : Option Value} {a0 a1 a2 a3 a4 a5 a6 : Option Value} {b0 : Option Value} {x : Int} (hc : ocat a6 = true) (hn : 7 < M.2.2.1) (hd : decode M.2.1 pc = .ok (.istore 7, 2)) (k : Rn G M (pc + 2) (a0 :: a1 :: a2 :: a3 :: a4 :: a5 :: a6 :: some (vi x) :: t) st σ r σ') : Rn G M pc (a0 :: a1 :: a2 :: a3 :: a4 :: a5 :: a6 :: b0 :: t) (vi x :: st) σ r σ' := p_istoreG hn (pcat7 hc) rfl hd k
theorem p_lload7 {G : GX} {M : MI} {pc : Nat} {t : LL} {st : List Value} {σ σ' : SG} {r : Option Value} {a0 a1 a2 a3 a4 a5 a6 : Option Value} {x : Int} (hd : decode M.2.1 pc = .ok (.lload 7, 2)) (k : Rn G M (pc + 2) (a0 :: a1 :: a2 :: a3 :: a4 :: a5 :: a6 :: some (vl x) :: t) (vl x :: st) σ r σ') : Rn G M pc (a0 :: a1 :: a2 :: a3 :: a4 :: a5 :: a6 :: some (vl x) :: t) st σ r σ' := p_lloadG rfl hd k
theorem p_lstore7 {G : GX} {M : MI} {pc : Nat} {t : LL} {st : List Value} {σ σ' : SG} {r : Option Value} {a0 a1 a2 a3 a4 a5 a6 : Option Value} {b0 b1 : Option Value} {x : Int} (hc : ocat a6 = true) (hn : 7 + 1 < M.2.2.1) (hd : decode M.2.1 pc = .ok (.lstore 7, 2)) (k : Rn G M (pc + 2) (a0 :: a1 :: a2 :: a3 :: a4 :: a5 :: a6 :: some (vl x) :: none :: t) st σ r σ') : Rn G M pc (a0 :: a1 :: a2 :: a3 :: a4 :: a5 :: a6 :: b0 :: b1 :: t) (vl x :: st) σ r σ' := p_lstoreG hn (pcat7 hc) rfl hd k
theorem p_aload7 {G : GX} {M : MI} {pc : Nat} {t : LL} {st : List Value} {σ σ' : SG} {r : Option Value} {a0 a1 a2 a3 a4 a5 a6 : Option Value} {x : Nat} (hd : decode M.2.1 pc = .ok (.aload 7, 2)) (k : Rn G M (pc + 2) (a0 :: a1 :: a2 :: a3 :: a4 :: a5 :: a6 :: some (.ref x) :: t) (.ref x :: st) σ r σ') : Rn G M pc (a0 :: a1 :: a2 :: a3 :: a4 :: a5 :: a6 :: some (.ref x) :: t) st σ r σ' := p_aloadG rfl hd k
theorem p_astore7 {G : GX} {M : MI} {pc : Nat} {t : LL} {st : List Value} {σ σ' : SG} {r : Option Value} {a0 a1 a2 a3 a4 a5 a6 : Option Value} {b0 : Option Value} {x : Nat} (hc : ocat a6 = true) (hn : 7 < M.2.2.1) (hd : decode M.2.1 pc = .ok (.astore 7, 2)) (k : Rn G M (pc + 2) (a0 :: a1 :: a2 :: a3 :: a4 :: a5 :: a6 :: some (.ref x) :: t) st σ r σ') : Rn G M pc (a0 :: a1 :: a2 :: a3 :: a4 :: a5 :: a6 :: b0 :: t) (.ref x :: st) σ r σ' := p_astoreG hn (pcat7 hc) rfl hd k
theorem p_iinc7 {G : GX} {M : MI} {pc : Nat} {t : LL} {st : List Value} {σ σ' : SG} {r : Option Value} {a0 a1 a2 a3 a4 a5 a6 : Option Value} {x n : Int} (hc : ocat a6 = true) (hn : 7 < M.2.2.1) (hd : decode M.2.1 pc = .ok (.iinc 7 n, 3)) (k : Rn G M (pc + 3) (a0 :: a1 :: a2 :: a3 :: a4 :: a5 :: a6 :: some (vi (x + n)) :: t) st σ r σ') : Rn G M pc (a0 :: a1 :: a2 :: a3 :: a4 :: a5 :: a6 :: some (vi x) :: t) st σ r σ' := p_iincG rfl hn (pcat7 hc) rfl hd k
theorem p_iload8 {G : GX} {M : MI} {pc : Nat} {t : LL} {st : List Value} {σ σ' : SG} {r : Option Value} {a0 a1 a2 a3 a4 a5 a6 a7 : Option Value} {x : Int} (hd : decode M.2.1 pc = .ok (.iload 8, 2)) (k : Rn G M (pc + 2) (a0 :: a1 :: a2 :: a3 :: a4 :: a5 :: a6 :: a7 :: some (vi x) :: t) (vi x :: st) σ r σ') : Rn G M pc (a0 :: a1 :: a2 :: a3 :: a4 :: a5 :: a6 :: a7 :: some (vi x) :: t) st σ r σ' := p_iloadG rfl hd k
theorem p_istore8 {G : GX} {M : MI} {pc : Nat} {t : LL} {st : List Value} {σ σ' : SG} {r : Option Value} {a0 a1 a2 a3 a4 a5 a6 a7 : Option Value} {b0 : Option Value} {x : Int} (hc : ocat a7 = true) (hn : 8 < M.2.2.1) (hd : decode M.2.1 pc = .ok (.istore 8, 2)) (k : Rn G M (pc + 2) (a0 :: a1 :: a2 :: a3 :: a4 :: a5 :: a6 :: a7 :: some (vi x) :: t) st σ r σ') : Rn G M pc (a0 :: a1 :: a2 :: a3 :: a4 :: a5 :: a6 :: a7 :: b0 :: t) (vi x :: st) σ r σ' := p_istoreG hn (pcat8 hc) rfl hd k
theorem p_lload8 {G : GX} {M : MI} {pc : Nat} {t : LL} {st : List Value} {σ σ' : SG} {r : Option Value} {a0 a1 a2 a3 a4 a5 a6 a7 : Option Value} {x : Int} (hd : decode M.2.1 pc = .ok (.lload 8, 2)) (k : Rn G M (pc + 2) (a0 :: a1 :: a2 :: a3 :: a4 :: a5 :: a6 :: a7 :: some (vl x) :: t) (vl x :: st) σ r σ') : Rn G M pc (a0 :: a1 :: a2 :: a3 :: a4 :: a5 :: a6 :: a7 :: some (vl x) :: t) st σ r σ' := p_lloadG rfl hd k
theorem p_lstore8 {G : GX} {M : MI} {pc : Nat} {t : LL} {st : List Value} {σ σ' : SG} {r : Option Value} {a0 a1 a2 a3 a4 a5 a6 a7 : Option Value} {b0 b1 : Option Value} {x : Int} (hc : ocat a7 = true) (hn : 8 + 1 < M.2.2.1) (hd : decode M.2.1 pc = .ok (.lstore 8, 2)) (k : Rn G M (pc + 2) (a0 :: a1 :: a2 :: a3 :: a4 :: a5 :: a6 :: a7 :: some (vl x) :: none :: t) st σ r σ') : Rn G M pc (a0 :: a1 :: a2 :: a3 :: a4 :: a5 :: a6 :: a7 :: b0 :: b1 :: t) (vl x :: st) σ r σ' := p_lstoreG hn (pcat8 hc) rfl hd k
theorem p_aload8 {G : GX} {M : MI} {pc : Nat} {t : LL} {st : List Value} {σ σ' : SG} {r : Option Value} {a0 a1 a2 a3 a4 a5 a6 a7 : Option Value} {x : Nat} (hd : decode M.2.1 pc = .ok (.aload 8, 2)) (k : Rn G M (pc + 2) (a0 :: a1 :: a2 :: a3 :: a4 :: a5 :: a6 :: a7 :: some (.ref x) :: t) (.ref x :: st) σ r σ') : Rn G M pc (a0 :: a1 :: a2 :: a3 :: a4 :: a5 :: a6 :: a7 :: some (.ref x) :: t) st σ r σ' := p_aloadG rfl hd k
theorem p_astore8 {G : GX} {M : MI} {pc : Nat} {t : LL} {st : List Value} {σ σ' : SG} {r : Option Value} {a0 a1 a2 a3 a4 a5 a6 a7 : Option Value} {b0 : Option Value} {x : Nat} (hc : ocat a7 = true) (hn : 8 < M.2.2.1) (hd : decode M.2.1 pc = .ok (.astore 8, 2)) (k : Rn G M (pc + 2) (a0 :: a1 :: a2 :: a3 :: a4 :: a5 :: a6 :: a7 :: some (.ref x) :: t) st σ r σ') : Rn G M pc (a0 :: a1 :: a2 :: a3 :: a4 :: a5 :: a6 :: a7 :: b0 :: t) (.ref x :: st) σ r σ' := p_astoreG hn (pcat8 hc) rfl hd k
theorem p_iinc8 {G : GX} {M : MI} {pc : Nat} {t : LL} {st : List Value} {σ σ' : SG} {r : Option Value} {a0 a1 a2 a3 a4 a5 a6 a7 : Option Value} {x n : Int} (hc : ocat a7 = true) (hn : 8 < M.2.2.1) (hd : decode M.2.1 pc = .ok (.iinc 8 n, 3)) (k : Rn G M (pc + 3) (a0 :: a1 :: a2 :: a3 :: a4 :: a5 :: a6 :: a7 :: some (vi (x + n)) :: t) st σ r σ') : Rn G M pc (a0 :: a1 :: a2 :: a3 :: a4 :: a5 :: a6 :: a7 :: some (vi x) :: t) st σ r σ' := p_iincG rfl hn (pcat8 hc) rfl hd k
theorem p_iload9 {G : GX} {M : MI} {pc : Nat} {t : LL} {st : List Value} {σ σ' : SG} {r : Option Value} {a0 a1 a2 a3 a4 a5 a6 a7 a8 : Option Value} {x : Int} (hd : decode M.2.1 pc = .ok (.iload 9, 2)) (k : Rn G M (pc + 2) (a0 :: a1 :: a2 :: a3 :: a4 :: a5 :: a6 :: a7 :: a8 :: some (vi x) :: t) (vi x :: st) σ r σ') : Rn G M pc (a0 :: a1 :: a2 :: a3 :: a4 :: a5 :: a6 :: a7 :: a8 :: some (vi x) :: t) st σ r σ' := p_iloadG rfl hd k
theorem p_istore9 {G : GX} {M : MI} {pc : Nat} {t : LL} {st : List Value} {σ σ' : SG} {r : Option Value} {a0 a1 a2 a3 a4 a5 a6 a7 a8 : Option Value} {b0 : Option Value} {x : Int} (hc : ocat a8 = true) (hn : 9 < M.2.2.1) (hd : decode M.2.1 pc = .ok (.istore 9, 2)) (k : Rn G M (pc + 2) (a0 :: a1 :: a2 :: a3 :: a4 :: a5 :: a6 :: a7 :: a8 :: some (vi x) :: t) st σ r σ') : Rn G M pc (a0 :: a1 :: a2 :: a3 :: a4 :: a5 :: a6 :: a7 :: a8 :: b0 :: t) (vi x :: st) σ r σ' := p_istoreG hn (pcat9 hc) rfl hd k
theorem p_lload9 {G : GX} {M : MI} {pc : Nat} {t : LL} {st : List Value} {σ σ' : SG} {r : Option Value} {a0 a1 a2 a3 a4 a5 a6 a7 a8 : Option Value} {x : Int} (hd : decode M.2.1 pc = .ok (.lload 9, 2)) (k : Rn G M (pc + 2) (a0 :: a1 :: a2 :: a3 :: a4 :: a5 :: a6 :: a7 :: a8 :: some (vl x) :: t) (vl x :: st) σ r σ') : Rn G M pc (a0 :: a1 :: a2 :: a3 :: a4 :: a5 :: a6 :: a7 :: a8 :: some (vl x) :: t) st σ r σ' := p_lloadG rfl hd k
theorem p_lstore9 {G : GX} {M : MI} {pc : Nat} {t : LL} {st : List Value} {σ σ' : SG} {r : Option Value} {a0 a1 a2 a3 a4 a5 a6 a7 a8 : Option Value} {b0 b1 : Option Value} {x : Int} (hc : ocat a8 = true) (hn : 9 + 1 < M.2.2.1) (hd : decode M.2.1 pc = .ok (.lstore 9, 2)) (k : Rn G M (pc + 2) (a0 :: a1 :: a2 :: a3 :: a4 :: a5 :: a6 :: a7 :: a8 :: some (vl x) :: none :: t) st σ r σ') : Rn G M pc (a0 :: a1 :: a2 :: a3 :: a4 :: a5 :: a6 :: a7 :: a8 :: b0 :: b1 :: t) (vl x :: st) σ r σ' := p_lstoreG hn (pcat9 hc) rfl hd k
theorem p_aload9 {G : GX} {M : MI} {pc : Nat} {t : LL} {st : List Value} {σ σ' : SG} {r : Option Value} {a0 a1 a2 a3 a4 a5 a6 a7 a8 : Option Value} {x : Nat} (hd : decode M.2.1 pc = .ok (.aload 9, 2)) (k : Rn G M (pc + 2) (a0 :: a1 :: a2 :: a3 :: a4 :: a5 :: a6 :: a7 :: a8 :: some (.ref x) :: t) (.ref x :: st) σ r σ') : Rn G M pc (a0 :: a1 :: a2 :: a3 :: a4 :: a5 :: a6 :: a7 :: a8 :: some (.ref x) :: t) st σ r σ' := p_aloadG rfl hd k
theorem p_astore9 {G : GX} {M : MI} {pc : Nat} {t : LL} {st : List Value} {σ σ' : SG} {r : Option Value} {a0 a1 a2 a3 a4 a5 a6 a7 a8 : Option Value} {b0 : Option Value} {x : Nat} (hc : ocat a8 = true) (hn : 9 < M.2.2.1) (hd : decode M.2.1 pc = .ok (.astore 9, 2)) (k : Rn G M (pc + 2) (a0 :: a1 :: a2 :: a3 :: a4 :: a5 :: a6 :: a7 :: a8 :: some (.ref x) :: t) st σ r σ') : Rn G M pc (a0 :: a1 :: a2 :: a3 :: a4 :: a5 :: a6 :: a7 :: a8 :: b0 :: t) (.ref x :: st) σ r σ' := p_astoreG hn (pcat9 hc) rfl hd k
theorem p_iinc9 {G : GX} {M : MI} {pc : Nat} {t : LL} {st : List Value} {σ σ' : SG} {r : Option Value} {a0 a1 a2 a3 a4 a5 a6 a7 a8 : Option Value} {x n : Int} (hc : ocat a8 = true) (hn : 9 < M.2.2.1) (hd : decode M.2.1 pc = .ok (.iinc 9 n, 3)) (k : Rn G M (pc + 3) (a0 :: a1 :: a2 :: a3 :: a4 :: a5 :: a6 :: a7 :: a8 :: some (vi (x + n)) :: t) st σ r σ') : Rn G M pc (a0 :: a1 :: a2 :: a3 :: a4 :: a5 :: a6 :: a7 :: a8 :: some (vi x) :: t) st σ r σ' := p_iincG rfl hn (pcat9 hc) rfl hd k
theorem p_iload10 {G : GX} {M : MI} {pc : Nat} {t : LL} {st : List Value} {σ σ' : SG} {r : Option Value} {a0 a1 a2 a3 a4 a5 a6 a7 a8 a9 : Option Value} {x : Int} (hd : decode M.2.1 pc = .ok (.iload 10, 2)) (k : Rn G M (pc + 2) (a0 :: a1 :: a2 :: a3 :: a4 :: a5 :: a6 :: a7 :: a8 :: a9 :: some (vi x) :: t) (vi x :: st) σ r σ') : Rn G M pc (a0 :: a1 :: a2 :: a3 :: a4 :: a5 :: a6 :: a7 :: a8 :: a9 :: some (vi x) :: t) st σ r σ' := p_iloadG rfl hd k
theorem p_istore10 {G : GX} {M : MI} {pc : Nat} {t : LL} {st : List Value} {σ σ' : SG} {r : Option Value} {a0 a1 a2 a3 a4 a5 a6 a7 a8 a9 : Option Value} {b0 : Option Value} {x : Int} (hc : ocat a9 = true) (hn : 10 < M.2.2.1) (hd : decode M.2.1 pc = .ok (.istore 10, 2)) (k : Rn G M (pc + 2) (a0 :: a1 :: a2 :: a3 :: a4 :: a5 :: a6 :: a7 :: a8 :: a9 :: some (vi x) :: t) st σ r σ') : Rn G M pc (a0 :: a1 :: a2 :: a3 :: a4 :: a5 :: a6 :: a7 :: a8 :: a9 :: b0 :: t) (vi x :: st) σ r σ' := p_istoreG hn (pcat10 hc) rfl hd k
theorem p_lload10 {G : GX} {M : MI} {pc : Nat} {t : LL} {st : List Value} {σ σ' : SG} {r : Option Value} {a0 a1 a2 a3 a4 a5 a6 a7 a8 a9 : Option Value} {x : Int} (hd : decode M.2.1 pc = .ok (.lload 10, 2)) (k : Rn G M (pc + 2) (a0 :: a1 :: a2 :: a3 :: a4 :: a5 :: a6 :: a7 :: a8 :: a9 :: some (vl x) :: t) (vl x :: st) σ r σ') : Rn G M pc (a0 :: a1 :: a2 :: a3 :: a4 :: a5 :: a6 :: a7 :: a8 :: a9 :: some (vl x) :: t) st σ r σ' := p_lloadG rfl hd k
theorem p_lstore10 {G : GX} {M : MI} {pc : Nat} {t : LL} {st : List Value} {σ σ' : SG} {r : Option Value} {a0 a1 a2 a3 a4 a5 a6 a7 a8 a9 : Option Value} {b0 b1 : Option Value} {x : Int} (hc : ocat a9 = true) (hn : 10 + 1 < M.2.2.1) (hd : decode M.2.1 pc = .ok (.lstore 10, 2)) (k : Rn G M (pc + 2) (a0 :: a1 :: a2 :: a3 :: a4 :: a5 :: a6 :: a7 :: a8 :: a9 :: some (vl x) :: none :: t) st σ r σ') : Rn G M pc (a0 :: a1 :: a2 :: a3 :: a4 :: a5 :: a6 :: a7 :: a8 :: a9 :: b0 :: b1 :: t) (vl x :: st) σ r σ' := p_lstoreG hn (pcat10 hc) rfl hd k
theorem p_aload10 {G : GX} {M : MI} {pc : Nat} {t : LL} {st : List Value} {σ σ' : SG} {r : Option Value} {a0 a1 a2 a3 a4 a5 a6 a7 a8 a9 : Option Value} {x : Nat} (hd : decode M.2.1 pc = .ok (.aload 10, 2)) (k : Rn G M (pc + 2) (a0 :: a1 :: a2 :: a3 :: a4 :: a5 :: a6 :: a7 :: a8 :: a9 :: some (.ref x) :: t) (.ref x :: st) σ r σ') : Rn G M pc (a0 :: a1 :: a2 :: a3 :: a4 :: a5 :: a6 :: a7 :: a8 :: a9 :: some (.ref x) :: t) st σ r σ' := p_aloadG rfl hd k
theorem p_astore10 {G : GX} {M : MI} {pc : Nat} {t : LL} {st : List Value} {σ σ' : SG} {r : Option Value} {a0 a1 a2 a3 a4 a5 a6 a7 a8 a9 : Option Value} {b0 : Option Value} {x : Nat} (hc : ocat a9 = true) (hn : 10 < M.2.2.1) (hd : decode M.2.1 pc = .ok (.astore 10, 2)) (k : Rn G M (pc + 2) (a0 :: a1 :: a2 :: a3 :: a4 :: a5 :: a6 :: a7 :: a8 :: a9 :: some (.ref x) :: t) st σ r σ') : Rn G M pc (a0 :: a1 :: a2 :: a3 :: a4 :: a5 :: a6 :: a7 :: a8 :: a9 :: b0 :: t) (.ref x :: st) σ r σ' := p_astoreG hn (pcat10 hc) rfl hd k
theorem p_iinc10 {G : GX} {M : MI} {pc : Nat} {t : LL} {st : List Value} {σ σ' : SG} {r : Option Value} {a0 a1 a2 a3 a4 a5 a6 a7 a8 a9 : Option Value} {x n : Int} (hc : ocat a9 = true) (hn : 10 < M.2.2.1) (hd : decode M.2.1 pc = .ok (.iinc 10 n, 3)) (k : Rn G M (pc + 3) (a0 :: a1 :: a2 :: a3 :: a4 :: a5 :: a6 :: a7 :: a8 :: a9 :: some (vi (x + n)) :: t) st σ r σ') : Rn G M pc (a0 :: a1 :: a2 :: a3 :: a4 :: a5 :: a6 :: a7 :: a8 :: a9 :: some (vi x) :: t) st σ r σ' := p_iincG rfl hn (pcat10 hc) rfl hd k
theorem p_iload11 {G : GX} {M : MI} {pc : Nat} {t : LL} {st : List Value} {σ σ' : SG} {r : Option Value} {a0 a1 a2 a3 a4 a5 a6 a7 a8 a9 a10 : Option Value} {x : Int} (hd : decode M.2.1 pc = .ok (.iload 11, 2)) (k : Rn G M (pc + 2) (a0 :: a1 :: a2 :: a3 :: a4 :: a5 :: a6 :: a7 :: a8 :: a9 :: a10 :: some (vi x) :: t) (vi x :: st) σ r σ') : Rn G M pc (a0 :: a1 :: a2 :: a3 :: a4 :: a5 :: a6 :: a7 :: a8 :: a9 :: a10 :: some (vi x) :: t) st σ r σ' := p_iloadG rfl hd k
theorem p_istore11 {G : GX} {M : MI} {pc : Nat} {t : LL} {st : List Value} {σ σ' : SG} {r : Option Value} {a0 a1 a2 a3 a4 a5 a6 a7 a8 a9 a10 : Option Value} {b0 : Option Value} {x : Int} (hc : ocat a10 = true) (hn : 11 < M.2.2.1) (hd : decode M.2.1 pc = .ok (.istore 11, 2)) (k : Rn G M (pc + 2) (a0 :: a1 :: a2 :: a3 :: a4 :: a5 :: a6 :: a7 :: a8 :: a9 :: a10 :: some (vi x) :: t) st σ r σ') : Rn G M pc (a0 :: a1 :: a2 :: a3 :: a4 :: a5 :: a6 :: a7 :: a8 :: a9 :: a10 :: b0 :: t) (vi x :: st) σ r σ' := p_istoreG hn (pcat11 hc) rfl hd k
theorem p_lload11 {G : GX} {M : MI} {pc : Nat} {t : LL} {st : List Value} {σ σ' : SG} {r : Option Value} {a0 a1 a2 a3 a4 a5 a6 a7 a8 a9 a10 : Option Value} {x : Int} (hd : decode M.2.1 pc = .ok (.lload 11, 2)) (k : Rn G M (pc + 2) (a0 :: a1 :: a2 :: a3 :: a4 :: a5 :: a6 :: a7 :: a8 :: a9 :: a10 :: some (vl x) :: t) (vl x :: st) σ r σ') : Rn G M pc (a0 :: a1 :: a2 :: a3 :: a4 :: a5 :: a6 :: a7 :: a8 :: a9 :: a10 :: some (vl x) :: t) st σ r σ' := p_lloadG rfl hd k
theorem p_lstore11 {G : GX} {M : MI} {pc : Nat} {t : LL} {st : List Value} {σ σ' : SG} {r : Option Value} {a0 a1 a2 a3 a4 a5 a6 a7 a8 a9 a10 : Option Value} {b0 b1 : Option Value} {x : Int} (hc : ocat a10 = true) (hn : 11 + 1 < M.2.2.1) (hd : decode M.2.1 pc = .ok (.lstore 11, 2)) (k : Rn G M (pc + 2) (a0 :: a1 :: a2 :: a3 :: a4 :: a5 :: a6 :: a7 :: a8 :: a9 :: a10 :: some (vl x) :: none :: t) st σ r σ') : Rn G M pc (a0 :: a1 :: a2 :: a3 :: a4 :: a5 :: a6 :: a7 :: a8 :: a9 :: a10 :: b0 :: b1 :: t) (vl x :: st) σ r σ' := p_lstoreG hn (pcat11 hc) rfl hd k
theorem p_aload11 {G : GX} {M : MI} {pc : Nat} {t : LL} {st : List Value} {σ σ' : SG} {r : Option Value} {a0 a1 a2 a3 a4 a5 a6 a7 a8 a9 a10 : Option Value} {x : Nat} (hd : decode M.2.1 pc = .ok (.aload 11, 2)) (k : Rn G M (pc + 2) (a0 :: a1 :: a2 :: a3 :: a4 :: a5 :: a6 :: a7 :: a8 :: a9 :: a10 :: some (.ref x) :: t) (.ref x :: st) σ r σ') : Rn G M pc (a0 :: a1 :: a2 :: a3 :: a4 :: a5 :: a6 :: a7 :: a8 :: a9 :: a10 :: some (.ref x) :: t) st σ r σ' := p_aloadG rfl hd k
theorem p_astore11 {G : GX} {M : MI} {pc : Nat} {t : LL} {st : List Value} {σ σ' : SG} {r : Option Value} {a0 a1 a2 a3 a4 a5 a6 a7 a8 a9 a10 : Option Value} {b0 : Option Value} {x : Nat} (hc : ocat a10 = true) (hn : 11 < M.2.2.1) (hd : decode M.2.1 pc = .ok (.astore 11, 2)) (k : Rn G M (pc + 2) (a0 :: a1 :: a2 :: a3 :: a4 :: a5 :: a6 :: a7 :: a8 :: a9 :: a10 :: some (.ref x) :: t) st σ r σ') : Rn G M pc (a0 :: a1 :: a2 :: a3 :: a4 :: a5 :: a6 :: a7 :: a8 :: a9 :: a10 :: b0 :: t) (.ref x :: st) σ r σ' := p_astoreG hn (pcat11 hc) rfl hd k
theorem p_iinc11 {G : GX} {M : MI} {pc : Nat} {t : LL} {st : List Value} {σ σ' : SG} {r : Option Value} {a0 a1 a2 a3 a4 a5 a6 a7 a8 a9 a10 : Option Value} {x n : Int} (hc : ocat a10 = true) (hn : 11 < M.2.2.1) (hd : decode M.2.1 pc = .ok (.iinc 11 n, 3)) (k : Rn G M (pc + 3) (a0 :: a1 :: a2 :: a3 :: a4 :: a5 :: a6 :: a7 :: a8 :: a9 :: a10 :: some (vi (x + n)) :: t) st σ r σ') : Rn G M pc (a0 :: a1 :: a2 :: a3 :: a4 :: a5 :: a6 :: a7 :: a8 :: a9 :: a10 :: some (vi x) :: t) st σ r σ' := p_iincG rfl hn (pcat11 hc) rfl hd k
theorem p_iload12 {G : GX} {M : MI} {pc : Nat} {t : LL} {st : List Value} {σ σ' : SG} {r : Option Value} {a0 a1 a2 a3 a4 a5 a6 a7 a8 a9 a10 a11 : Option Value} {x : Int} (hd : decode M.2.1 pc = .ok (.iload 12, 2)) (k : Rn G M (pc + 2) (a0 :: a1 :: a2 :: a3 :: a4 :: a5 :: a6 :: a7 :: a8 :: a9 :: a10 :: a11 :: some (vi x) :: t) (vi x :: st) σ r σ') : Rn G M pc (a0 :: a1 :: a2 :: a3 :: a4 :: a5 :: a6 :: a7 :: a8 :: a9 :: a10 :: a11 :: some (vi x) :: t) st σ r σ' := p_iloadG rfl hd k
theorem p_istore12 {G : GX} {M : MI} {pc : Nat} {t : LL} {st : List Value} {σ σ' : SG} {r : Option Value} {a0 a1 a2 a3 a4 a5 a6 a7 a8 a9 a10 a11 : Option Value} {b0 : Option Value} {x : Int} (hc : ocat a11 = true) (hn : 12 < M.2.2.1) (hd : decode M.2.1 pc = .ok (.istore 12, 2)) (k : Rn G M (pc + 2) (a0 :: a1 :: a2 :: a3 :: a4 :: a5 :: a6 :: a7 :: a8 :: a9 :: a10 :: a11 :: some (vi x) :: t) st σ r σ') : Rn G M pc (a0 :: a1 :: a2 :: a3 :: a4 :: a5 :: a6 :: a7 :: a8 :: a9 :: a10 :: a11 :: b0 :: t) (vi x :: st) σ r σ' := p_istoreG hn (pcat12 hc) rfl hd k
theorem p_lload12 {G : GX} {M : MI} {pc : Nat} {t : LL} {st : List Value} {σ σ' : SG} {r : Option Value} {a0 a1 a2 a3 a4 a5 a6 a7 a8 a9 a10 a11 : Option Value} {x : Int} (hd : decode M.2.1 pc = .ok (.lload 12, 2)) (k : Rn G M (pc + 2) (a0 :: a1 :: a2 :: a3 :: a4 :: a5 :: a6 :: a7 :: a8 :: a9 :: a10 :: a11 :: some (vl x) :: t) (vl x :: st) σ r σ') : Rn G M pc (a0 :: a1 :: a2 :: a3 :: a4 :: a5 :: a6 :: a7 :: a8 :: a9 :: a10 :: a11 :: some (vl x) :: t) st σ r σ' := p_lloadG rfl hd k
theorem p_lstore12 {G : GX} {M : MI} {pc : Nat} {t : LL} {st : List Value} {σ σ' : SG} {r : Option Value} {a0 a1 a2 a3 a4 a5 a6 a7 a8 a9 a10 a11 : Option Value} {b0 b1 : Option Value} {x : Int} (hc : ocat a11 = true) (hn : 12 + 1 < M.2.2.1) (hd : decode M.2.1 pc = .ok (.lstore 12, 2)) (k : Rn G M (pc + 2) (a0 :: a1 :: a2 :: a3 :: a4 :: a5 :: a6 :: a7 :: a8 :: a9 :: a10 :: a11 :: some (vl x) :: none :: t) st σ r σ') : Rn G M pc (a0 :: a1 :: a2 :: a3 :: a4 :: a5 :: a6 :: a7 :: a8 :: a9 :: a10 :: a11 :: b0 :: b1 :: t) (vl x :: st) σ r σ' := p_lstoreG hn (pcat12 hc) rfl hd k
theorem p_aload12 {G : GX} {M : MI} {pc : Nat} {t : LL} {st : List Value} {σ σ' : SG} {r : Option Value} {a0 a1 a2 a3 a4 a5 a6 a7 a8 a9 a10 a11 : Option Value} {x : Nat} (hd : decode M.2.1 pc = .ok (.aload 12, 2)) (k : Rn G M (pc + 2) (a0 :: a1 :: a2 :: a3 :: a4 :: a5 :: a6 :: a7 :: a8 :: a9 :: a10 :: a11 :: some (.ref x) :: t) (.ref x :: st) σ r σ') : Rn G M pc (a0 :: a1 :: a2 :: a3 :: a4 :: a5 :: a6 :: a7 :: a8 :: a9 :: a10 :: a11 :: some (.ref x) :: t) st σ r σ' := p_aloadG rfl hd k
theorem p_astore12 {G : GX} {M : MI} {pc : Nat} {t : LL} {st : List Value} {σ σ' : SG} {r : Option Value} {a0 a1 a2 a3 a4 a5 a6 a7 a8 a9 a10 a11 : Option Value} {b0 : Option Value} {x : Nat} (hc : ocat a11 = true) (hn : 12 < M.2.2.1) (hd : decode M.2.1 pc = .ok (.astore 12, 2)) (k : Rn G M (pc + 2) (a0 :: a1 :: a2 :: a3 :: a4 :: a5 :: a6 :: a7 :: a8 :: a9 :: a10 :: a11 :: some (.ref x) :: t) st σ r σ') : Rn G M pc (a0 :: a1 :: a2 :: a3 :: a4 :: a5 :: a6 :: a7 :: a8 :: a9 :: a10 :: a11 :: b0 :: t) (.ref x :: st) σ r σ' := p_astoreG hn (pcat12 hc) rfl hd k
theorem p_iinc12 {G : GX} {M : MI} {pc : Nat} {t : LL} {st : List Value} {σ σ' : SG} {r : Option Value} {a0 a1 a2 a3 a4 a5 a6 a7 a8 a9 a10 a11 : Option Value} {x n : Int} (hc : ocat a11 = true) (hn : 12 < M.2.2.1) (hd : decode M.2.1 pc = .ok (.iinc 12 n, 3)) (k : Rn G M (pc + 3) (a0 :: a1 :: a2 :: a3 :: a4 :: a5 :: a6 :: a7 :: a8 :: a9 :: a10 :: a11 :: some (vi (x + n)) :: t) st σ r σ') : Rn G M pc (a0 :: a1 :: a2 :: a3 :: a4 :: a5 :: a6 :: a7 :: a8 :: a9 :: a10 :: a11 :: some (vi x) :: t) st σ r σ' := p_iincG rfl hn (pcat12 hc) rfl hd k
theorem p_iload13 {G : GX} {M : MI} {pc : Nat} {t : LL} {st : List Value} {σ σ' : SG} {r : Option Value} {a0 a1 a2 a3 a4 a5 a6 a7 a8 a9 a10 a11 a12 : Option Value} {x : Int} (hd : decode M.2.1 pc = .ok (.iload 13, 2)) (k : Rn G M (pc + 2) (a0 :: a1 :: a2 :: a3 :: a4 :: a5 :: a6 :: a7 :: a8 :: a9 :: a10 :: a11 :: a12 :: some (vi x) :: t) (vi x :: st) σ r σ') : Rn G M pc (a0 :: a1 :: a2 :: a3 :: a4 :: a5 :: a6 :: a7 :: a8 :: a9 :: a10 :: a11 :: a12 :: some (vi x) :: t) st σ r σ' := p_iloadG rfl hd k
theorem p_istore13 {G : GX} {M : MI} {pc : Nat} {t : LL} {st : List Value} {σ σ' : SG} {r : Option Value} {a0 a1 a2 a3 a4 a5 a6 a7 a8 a9 a10 a11 a12 : Option Value} {b0 : Option Value} {x : Int} (hc : ocat a12 = true) (hn : 13 < M.2.2.1) (hd : decode M.2.1 pc = .ok (.istore 13, 2)) (k : Rn G M (pc + 2) (a0 :: a1 :: a2 :: a3 :: a4 :: a5 :: a6 :: a7 :: a8 :: a9 :: a10 :: a11 :: a12 :: some (vi x) :: t) st σ r σ') : Rn G M pc (a0 :: a1 :: a2 :: a3 :: a4 :: a5 :: a6 :: a7 :: a8 :: a9 :: a10 :: a11 :: a12 :: b0 :: t) (vi x :: st) σ r σ' := p_istoreG hn (pcat13 hc) rfl hd k
theorem p_lload13 {G : GX} {M : MI} {pc : Nat} {t : LL} {st : List Value} {σ σ' : SG} {r : Option Value} {a0 a1 a2 a3 a4 a5 a6 a7 a8 a9 a10 a11 a12 : Option Value} {x : Int} (hd : decode M.2.1 pc = .ok (.lload 13, 2)) (k : Rn G M (pc + 2) (a0 :: a1 :: a2 :: a3 :: a4 :: a5 :: a6 :: a7 :: a8 :: a9 :: a10 :: a11 :: a12 :: some (vl x) :: t) (vl x :: st) σ r σ') : Rn G M pc (a0 :: a1 :: a2 :: a3 :: a4 :: a5 :: a6 :: a7 :: a8 :: a9 :: a10 :: a11 :: a12 :: some (vl x) :: t) st σ r σ' := p_lloadG rfl hd k
theorem p_lstore13 {G : GX} {M : MI} {pc : Nat} {t : LL} {st : List Value} {σ σ' : SG} {r : Option Value} {a0 a1 a2 a3 a4 a5 a6 a7 a8 a9 a10 a11 a12 : Option Value} {b0 b1 : Option Value} {x : Int} (hc : ocat a12 = true) (hn : 13 + 1 < M.2.2.1) (hd : decode M.2.1 pc = .ok (.lstore 13, 2)) (k : Rn G M (pc + 2) (a0 :: a1 :: a2 :: a3 :: a4 :: a5 :: a6 :: a7 :: a8 :: a9 :: a10 :: a11 :: a12 :: some (vl x) :: none :: t) st σ r σ') : Rn G M pc (a0 :: a1 :: a2 :: a3 :: a4 :: a5 :: a6 :: a7 :: a8 :: a9 :: a10 :: a11 :: a12 :: b0 :: b1 :: t) (vl x :: st) σ r σ' := p_lstoreG hn (pcat13 hc) rfl hd k
theorem p_aload13 {G : GX} {M : MI} {pc : Nat} {t : LL} {st : List Value} {σ σ' : SG} {r : Option Value} {a0 a1 a2 a3 a4 a5 a6 a7 a8 a9 a10 a11 a12 : Option Value} {x : Nat} (hd : decode M.2.1 pc = .ok (.aload 13, 2)) (k : Rn G M (pc + 2) (a0 :: a1 :: a2 :: a3 :: a4 :: a5 :: a6 :: a7 :: a8 :: a9 :: a10 :: a11 :: a12 :: some (.ref x) :: t) (.ref x :: st) σ r σ') : Rn G M pc (a0 :: a1 :: a2 :: a3 :: a4 :: a5 :: a6 :: a7 :: a8 :: a9 :: a10 :: a11 :: a12 :: some (.ref x) :: t) st σ r σ' := p_aloadG rfl hd k
theorem p_astore13 {G : GX} {M : MI} {pc : Nat} {t : LL} {st : List Value} {σ σ' : SG} {r : Option Value} {a0 a1 a2 a3 a4 a5 a6 a7 a8 a9 a10 a11 a12 : Option Value} {b0 : Option Value} {x : Nat} (hc : ocat a12 = true) (hn : 13 < M.2.2.1) (hd : decode M.2.1 pc = .ok (.astore 13, 2)) (k : Rn G M (pc + 2) (a0 :: a1 :: a2 :: a3 :: a4 :: a5 :: a6 :: a7 :: a8 :: a9 :: a10 :: a11 :: a12 :: some (.ref x) :: t) st σ r σ') : Rn G M pc (a0 :: a1 :: a2 :: a3 :: a4 :: a5 :: a6 :: a7 :: a8 :: a9 :: a10 :: a11 :: a12 :: b0 :: t) (.ref x :: st) σ r σ' := p_astoreG hn (pcat13 hc) rfl hd k
theorem p_iinc13 {G : GX} {M : MI} {pc : Nat} {t : LL} {st : List Value} {σ σ' : SG} {r : Option Value} {a0 a1 a2 a3 a4 a5 a6 a7 a8 a9 a10 a11 a12 : Option Value} {x n : Int} (hc : ocat a12 = true) (hn : 13 < M.2.2.1) (hd : decode M.2.1 pc = .ok (.iinc 13 n, 3)) (k : Rn G M (pc + 3) (a0 :: a1 :: a2 :: a3 :: a4 :: a5 :: a6 :: a7 :: a8 :: a9 :: a10 :: a11 :: a12 :: some (vi (x + n)) :: t) st σ r σ') : Rn G M pc (a0 :: a1 :: a2 :: a3 :: a4 :: a5 :: a6 :: a7 :: a8 :: a9 :: a10 :: a11 :: a12 :: some (vi x) :: t) st σ r σ' := p_iincG rfl hn (pcat13 hc) rfl hd k
theorem p_oload0 {G : GX} {M : MI} {pc : Nat} {t : LL} {st : List Value} {σ σ' : SG} {r : Option Value} {x : Nat} (hd : decode M.2.1 pc = .ok (.aload_n 0, 1)) (k : Rn G M (pc + 1) (some (rf G x) :: t) (rf G x :: st) σ r σ') : Rn G M pc (some (rf G x) :: t) st σ r σ' := p_aload0 (x := ad G x) hd k
theorem p_ostore0 {G : GX} {M : MI} {pc : Nat} {t : LL} {st : List Value} {σ σ' : SG} {r : Option Value} {b0 : Option Value} {x : Nat} (hn : 0 < M.2.2.1) (hd : decode M.2.1 pc = .ok (.astore_n 0, 1)) (k : Rn G M (pc + 1) (some (rf G x) :: t) st σ r σ') : Rn G M pc (b0 :: t) (rf G x :: st) σ r σ' := p_astore0 (x := ad G x) hn hd k
theorem p_oload1 {G : GX} {M : MI} {pc : Nat} {t : LL} {st : List Value} {σ σ' : SG} {r : Option Value} {a0 : Option Value} {x : Nat} (hd : decode M.2.1 pc = .ok (.aload_n 1, 1)) (k : Rn G M (pc + 1) (a0 :: some (rf G x) :: t) (rf G x :: st) σ r σ') : Rn G M pc (a0 :: some (rf G x) :: t) st σ r σ' := p_aload1 (x := ad G x) hd k
theorem p_ostore1 {G : GX} {M : MI} {pc : Nat} {t : LL} {st : List Value} {σ σ' : SG} {r : Option Value} {a0 : Option Value} {b0 : Option Value} {x : Nat} (hc : ocat a0 = true) (hn : 1 < M.2.2.1) (hd : decode M.2.1 pc = .ok (.astore_n 1, 1)) (k : Rn G M (pc + 1) (a0 :: some (rf G x) :: t) st σ r σ') : Rn G M pc (a0 :: b0 :: t) (rf G x :: st) σ r σ' := p_astore1 (x := ad G x) hc hn hd k
theorem p_oload2 {G : GX} {M : MI} {pc : Nat} {t : LL} {st : List Value} {σ σ' : SG} {r : Option Value} {a0 a1 : Option Value} {x : Nat} (hd : decode M.2.1 pc = .ok (.aload_n 2, 1)) (k : Rn G M (pc + 1) (a0 :: a1 :: some (rf G x) :: t) (rf G x :: st) σ r σ') : Rn G M pc (a0 :: a1 :: some (rf G x) :: t) st σ r σ' := p_aload2 (x := ad G x) hd k
theorem p_ostore2 {G : GX} {M : MI} {pc : Nat} {t : LL} {st : List Value} {σ σ' : SG} {r : Option Value} {a0 a1 : Option Value} {b0 : Option Value} {x : Nat} (hc : ocat a1 = true) (hn : 2 < M.2.2.1) (hd : decode M.2.1 pc = .ok (.astore_n 2, 1)) (k : Rn G M (pc + 1) (a0 :: a1 :: some (rf G x) :: t) st σ r σ') : Rn G M pc (a0 :: a1 :: b0 :: t) (rf G x :: st) σ r σ' := p_astore2 (x := ad G x) hc hn hd k
theorem p_oload3 {G : GX} {M : MI} {pc : Nat} {t : LL} {st : List Value} {σ σ' : SG} {r : Option Value} {a0 a1 a2 : Option Value} {x : Nat} (hd : decode M.2.1 pc = .ok (.aload_n 3, 1)) (k : Rn G M (pc + 1) (a0 :: a1 :: a2 :: some (rf G x) :: t) (rf G x :: st) σ r σ') : Rn G M pc (a0 :: a1 :: a2 :: some (rf G x) :: t) st σ r σ' := p_aload3 (x := ad G x) hd k
theorem p_ostore3 {G : GX} {M : MI} {pc : Nat} {t : LL} {st : List Value} {σ σ' : SG} {r : Option Value} {a0 a1 a2 : Option Value} {b0 : Option Value} {x : Nat} (hc : ocat a2 = true) (hn : 3 < M.2.2.1) (hd : decode M.2.1 pc = .ok (.astore_n 3, 1)) (k : Rn G M (pc + 1) (a0 :: a1 :: a2 :: some (rf G x) :: t) st σ r σ') : Rn G M pc (a0 :: a1 :: a2 :: b0 :: t) (rf G x :: st) σ r σ' := p_astore3 (x := ad G x) hc hn hd k
theorem p_oload4 {G : GX} {M : MI} {pc : Nat} {t : LL} {st : List Value} {σ σ' : SG} {r : Option Value} {a0 a1 a2 a3 : Option Value} {x : Nat} (hd : decode M.2.1 pc = .ok (.aload 4, 2)) (k : Rn G M (pc + 2) (a0 :: a1 :: a2 :: a3 :: some (rf G x) :: t) (rf G x :: st) σ r σ') : Rn G M pc (a0 :: a1 :: a2 :: a3 :: some (rf G x) :: t) st σ r σ' := p_aload4 (x := ad G x) hd k
theorem p_ostore4 {G : GX} {M : MI} {pc : Nat} {t : LL} {st : List Value} {σ σ' : SG} {r : Option Value} {a0 a1 a2 a3 : Option Value} {b0 : Option Value} {x : Nat} (hc : ocat a3 = true) (hn : 4 < M.2.2.1) (hd : decode M.2.1 pc = .ok (.astore 4, 2)) (k : Rn G M (pc + 2) (a0 :: a1 :: a2 :: a3 :: some (rf G x) :: t) st σ r σ') : Rn G M pc (a0 :: a1 :: a2 :: a3 :: b0 :: t) (rf G x :: st) σ r σ' := p_astore4 (x := ad G x) hc hn hd k
theorem p_oload5 {G : GX} {M : MI} {pc : Nat} {t : LL} {st : List Value} {σ σ' : SG} {r : Option Value} {a0 a1 a2 a3 a4 : Option Value} {x : Nat} (hd : decode M.2.1 pc = .ok (.aload 5, 2)) (k : Rn G M (pc + 2) (a0 :: a1 :: a2 :: a3 :: a4 :: some (rf G x) :: t) (rf G x :: st) σ r σ') : Rn G M pc (a0 :: a1 :: a2 :: a3 :: a4 :: some (rf G x) :: t) st σ r σ' := p_aload5 (x := ad G x) hd k
theorem p_ostore5 {G : GX} {M : MI} {pc : Nat} {t : LL} {st : List Value} {σ σ' : SG} {r : Option Value} {a0 a1 a2 a3 a4 : Option Value} {b0 : Option Value} {x : Nat} (hc : ocat a4 = true) (hn : 5 < M.2.2.1) (hd : decode M.2.1 pc = .ok (.astore 5, 2)) (k : Rn G M (pc + 2) (a0 :: a1 :: a2 :: a3 :: a4 :: some (rf G x) :: t) st σ r σ') : Rn G M pc (a0 :: a1 :: a2 :: a3 :: a4 :: b0 :: t) (rf G x :: st) σ r σ' := p_astore5 (x := ad G x) hc hn hd k
theorem p_oload6 {G : GX} {M : MI} {pc : Nat} {t : LL} {st : List Value} {σ σ' : SG} {r : Option Value} {a0 a1 a2 a3 a4 a5 : Option Value} {x : Nat} (hd : decode M.2.1 pc = .ok (.aload 6, 2)) (k : Rn G M (pc + 2) (a0 :: a1 :: a2 :: a3 :: a4 :: a5 :: some (rf G x) :: t) (rf G x :: st) σ r σ') : Rn G M pc (a0 :: a1 :: a2 :: a3 :: a4 :: a5 :: some (rf G x) :: t) st σ r σ' := p_aload6 (x := ad G x) hd k
theorem p_ostore6 {G : GX} {M : MI} {pc : Nat} {t : LL} {st : List Value} {σ σ' : SG} {r : Option Value} {a0 a1 a2 a3 a4 a5 : Option Value} {b0 : Option Value} {x : Nat} (hc : ocat a5 = true) (hn : 6 < M.2.2.1) (hd : decode M.2.1 pc = .ok (.astore 6, 2)) (k : Rn G M (pc + 2) (a0 :: a1 :: a2 :: a3 :: a4 :: a5 :: some (rf G x) :: t) st σ r σ') : Rn G M pc (a0 :: a1 :: a2 :: a3 :: a4 :: a5 :: b0 :: t) (rf G x :: st) σ r σ' := p_astore6 (x := ad G x) hc hn hd k
theorem p_oload7 {G : GX} {M : MI} {pc : Nat} {t : LL} {st : List Value} {σ σ' : SG} {r : Option Value} {a0 a1 a2 a3 a4 a5 a6 : Option Value} {x : Nat} (hd : decode M.2.1 pc = .ok (.aload 7, 2)) (k : Rn G M (pc + 2) (a0 :: a1 :: a2 :: a3 :: a4 :: a5 :: a6 :: some (rf G x) :: t) (rf G x :: st) σ r σ') : Rn G M pc (a0 :: a1 :: a2 :: a3 :: a4 :: a5 :: a6 :: some (rf G x) :: t) st σ r σ' := p_aload7 (x := ad G x) hd k
theorem p_ostore7 {G : GX} {M : MI} {pc : Nat} {t : LL} {st : List Value} {σ σ' : SG} {r : Option Value} {a0 a1 a2 a3 a4 a5 a6 : Option Value} {b0 : Option Value} {x : Nat} (hc : ocat a6 = true) (hn : 7 < M.2.2.1) (hd : decode M.2.1 pc = .ok (.astore 7, 2)) (k : Rn G M (pc + 2) (a0 :: a1 :: a2 :: a3 :: a4 :: a5 :: a6 :: some (rf G x) :: t) st σ r σ') : Rn G M pc (a0 :: a1 :: a2 :: a3 :: a4 :: a5 :: a6 :: b0 :: t) (rf G x :: st) σ r σ' := p_astore7 (x := ad G x) hc hn hd k
theorem p_oload8 {G : GX} {M : MI} {pc : Nat} {t : LL} {st : List Value} {σ σ' : SG} {r : Option Value} {a0 a1 a2 a3 a4 a5 a6 a7 : Option Value} {x : Nat} (hd : decode M.2.1 pc = .ok (.aload 8, 2)) (k : Rn G M (pc + 2) (a0 :: a1 :: a2 :: a3 :: a4 :: a5 :: a6 :: a7 :: some (rf G x) :: t) (rf G x :: st) σ r σ') : Rn G M pc (a0 :: a1 :: a2 :: a3 :: a4 :: a5 :: a6 :: a7 :: some (rf G x) :: t) st σ r σ' := p_aload8 (x := ad G x) hd k
theorem p_ostore8 {G : GX} {M : MI} {pc : Nat} {t : LL} {st : List Value} {σ σ' : SG} {r : Option Value} {a0 a1 a2 a3 a4 a5 a6 a7 : Option Value} {b0 : Option Value} {x : Nat} (hc : ocat a7 = true) (hn : 8 < M.2.2.1) (hd : decode M.2.1 pc = .ok (.astore 8, 2)) (k : Rn G M (pc + 2) (a0 :: a1 :: a2 :: a3 :: a4 :: a5 :: a6 :: a7 :: some (rf G x) :: t) st σ r σ') : Rn G M pc (a0 :: a1 :: a2 :: a3 :: a4 :: a5 :: a6 :: a7 :: b0 :: t) (rf G x :: st) σ r σ' := p_astore8 (x := ad G x) hc hn hd k
theorem p_oload9 {G : GX} {M : MI} {pc : Nat} {t : LL} {st : List Value} {σ σ' : SG} {r : Option Value} {a0 a1 a2 a3 a4 a5 a6 a7 a8 : Option Value} {x : Nat} (hd : decode M.2.1 pc = .ok (.aload 9, 2)) (k : Rn G M (pc + 2) (a0 :: a1 :: a2 :: a3 :: a4 :: a5 :: a6 :: a7 :: a8 :: some (rf G x) :: t) (rf G x :: st) σ r σ') : Rn G M pc (a0 :: a1 :: a2 :: a3 :: a4 :: a5 :: a6 :: a7 :: a8 :: some (rf G x) :: t) st σ r σ' := p_aload9 (x := ad G x) hd k
theorem p_ostore9 {G : GX} {M : MI} {pc : Nat} {t : LL} {st : List Value} {σ σ' : SG} {r : Option Value} {a0 a1 a2 a3 a4 a5 a6 a7 a8 : Option Value} {b0 : Option Value} {x : Nat} (hc : ocat a8 = true) (hn : 9 < M.2.2.1) (hd : decode M.2.1 pc = .ok (.astore 9, 2)) (k : Rn G M (pc + 2) (a0 :: a1 :: a2 :: a3 :: a4 :: a5 :: a6 :: a7 :: a8 :: some (rf G x) :: t) st σ r σ') : Rn G M pc (a0 :: a1 :: a2 :: a3 :: a4 :: a5 :: a6 :: a7 :: a8 :: b0 :: t) (rf G x :: st) σ r σ' := p_astore9 (x := ad G x) hc hn hd k
theorem p_oload10 {G : GX} {M : MI} {pc : Nat} {t : LL} {st : List Value} {σ σ' : SG} {r : Option Value} {a0 a1 a2 a3 a4 a5 a6 a7 a8 a9 : Option Value} {x : Nat} (hd : decode M.2.1 pc = .ok (.aload 10, 2)) (k : Rn G M (pc + 2) (a0 :: a1 :: a2 :: a3 :: a4 :: a5 :: a6 :: a7 :: a8 :: a9 :: some (rf G x) :: t) (rf G x :: st) σ r σ') : Rn G M pc (a0 :: a1 :: a2 :: a3 :: a4 :: a5 :: a6 :: a7 :: a8 :: a9 :: some (rf G x) :: t) st σ r σ' := p_aload10 (x := ad G x) hd k
theorem p_ostore10 {G : GX} {M : MI} {pc : Nat} {t : LL} {st : List Value} {σ σ' : SG} {r : Option Value} {a0 a1 a2 a3 a4 a5 a6 a7 a8 a9 : Option Value} {b0 : Option Value} {x : Nat} (hc : ocat a9 = true) (hn : 10 < M.2.2.1) (hd : decode M.2.1 pc = .ok (.astore 10, 2)) (k : Rn G M (pc + 2) (a0 :: a1 :: a2 :: a3 :: a4 :: a5 :: a6 :: a7 :: a8 :: a9 :: some (rf G x) :: t) st σ r σ') : Rn G M pc (a0 :: a1 :: a2 :: a3 :: a4 :: a5 :: a6 :: a7 :: a8 :: a9 :: b0 :: t) (rf G x :: st) σ r σ' := p_astore10 (x := ad G x) hc hn hd k
theorem p_oload11 {G : GX} {M : MI} {pc : Nat} {t : LL} {st : List Value} {σ σ' : SG} {r : Option Value} {a0 a1 a2 a3 a4 a5 a6 a7 a8 a9 a10 : Option Value} {x : Nat} (hd : decode M.2.1 pc = .ok (.aload 11, 2)) (k : Rn G M (pc + 2) (a0 :: a1 :: a2 :: a3 :: a4 :: a5 :: a6 :: a7 :: a8 :: a9 :: a10 :: some (rf G x) :: t) (rf G x :: st) σ r σ') : Rn G M pc (a0 :: a1 :: a2 :: a3 :: a4 :: a5 :: a6 :: a7 :: a8 :: a9 :: a10 :: some (rf G x) :: t) st σ r σ' := p_aload11 (x := ad G x) hd k
theorem p_ostore11 {G : GX} {M : MI} {pc : Nat} {t : LL} {st : List Value} {σ σ' : SG} {r : Option Value} {a0 a1 a2 a3 a4 a5 a6 a7 a8 a9 a10 : Option Value} {b0 : Option Value} {x : Nat} (hc : ocat a10 = true) (hn : 11 < M.2.2.1) (hd : decode M.2.1 pc = .ok (.astore 11, 2)) (k : Rn G M (pc + 2) (a0 :: a1 :: a2 :: a3 :: a4 :: a5 :: a6 :: a7 :: a8 :: a9 :: a10 :: some (rf G x) :: t) st σ r σ') : Rn G M pc (a0 :: a1 :: a2 :: a3 :: a4 :: a5 :: a6 :: a7 :: a8 :: a9 :: a10 :: b0 :: t) (rf G x :: st) σ r σ' := p_astore11 (x := ad G x) hc hn hd k
theorem p_oload12 {G : GX} {M : MI} {pc : Nat} {t : LL} {st : List Value} {σ σ' : SG} {r : Option Value} {a0 a1 a2 a3 a4 a5 a6 a7 a8 a9 a10 a11 : Option Value} {x : Nat} (hd : decode M.2.1 pc = .ok (.aload 12, 2)) (k : Rn G M (pc + 2) (a0 :: a1 :: a2 :: a3 :: a4 :: a5 :: a6 :: a7 :: a8 :: a9 :: a10 :: a11 :: some (rf G x) :: t) (rf G x :: st) σ r σ') : Rn G M pc (a0 :: a1 :: a2 :: a3 :: a4 :: a5 :: a6 :: a7 :: a8 :: a9 :: a10 :: a11 :: some (rf G x) :: t) st σ r σ' := p_aload12 (x := ad G x) hd k
theorem p_ostore12 {G : GX} {M : MI} {pc : Nat} {t : LL} {st : List Value} {σ σ' : SG} {r : Option Value} {a0 a1 a2 a3 a4 a5 a6 a7 a8 a9 a10 a11 : Option Value} {b0 : Option Value} {x : Nat} (hc : ocat a11 = true) (hn : 12 < M.2.2.1) (hd : decode M.2.1 pc = .ok (.astore 12, 2)) (k : Rn G M (pc + 2) (a0 :: a1 :: a2 :: a3 :: a4 :: a5 :: a6 :: a7 :: a8 :: a9 :: a10 :: a11 :: some (rf G x) :: t) st σ r σ') : Rn G M pc (a0 :: a1 :: a2 :: a3 :: a4 :: a5 :: a6 :: a7 :: a8 :: a9 :: a10 :: a11 :: b0 :: t) (rf G x :: st) σ r σ' := p_astore12 (x := ad G x) hc hn hd k
theorem p_oload13 {G : GX} {M : MI} {pc : Nat} {t : LL} {st : List Value} {σ σ' : SG} {r : Option Value} {a0 a1 a2 a3 a4 a5 a6 a7 a8 a9 a10 a11 a12 : Option Value} {x : Nat} (hd : decode M.2.1 pc = .ok (.aload 13, 2)) (k : Rn G M (pc + 2) (a0 :: a1 :: a2 :: a3 :: a4 :: a5 :: a6 :: a7 :: a8 :: a9 :: a10 :: a11 :: a12 :: some (rf G x) :: t) (rf G x :: st) σ r σ') : Rn G M pc (a0 :: a1 :: a2 :: a3 :: a4 :: a5 :: a6 :: a7 :: a8 :: a9 :: a10 :: a11 :: a12 :: some (rf G x) :: t) st σ r σ' := p_aload13 (x := ad G x) hd k
theorem p_ostore13 {G : GX} {M : MI} {pc : Nat} {t : LL} {st : List Value} {σ σ' : SG} {r : Option Value} {a0 a1 a2 a3 a4 a5 a6 a7 a8 a9 a10 a11 a12 : Option Value} {b0 : Option Value} {x : Nat} (hc : ocat a12 = true) (hn : 13 < M.2.2.1) (hd : decode M.2.1 pc = .ok (.astore 13, 2)) (k : Rn G M (pc + 2) (a0 :: a1 :: a2 :: a3 :: a4 :: a5 :: a6 :: a7 :: a8 :: a9 :: a10 :: a11 :: a12 :: some (rf G x) :: t) st σ r σ') : Rn G M pc (a0 :: a1 :: a2 :: a3 :: a4 :: a5 :: a6 :: a7 :: a8 :: a9 :: a10 :: a11 :: a12 :: b0 :: t) (rf G x :: st) σ r σ' := p_astore13 (x := ad G x) hc hn hd k
def lle : LL → LL → Prop
  | [], _ => True
  | none :: t, [] => lle t []
  | none :: t, _ :: u => lle t u
  | some _ :: _, [] => False
  | some v :: t, a :: u => a = some v ∧ lle t u
theorem lle_at : ∀ (A B : LL), lle A B → ∀ (k : Nat) (v : Value), A[k]? = some (some v) → B[k]? = some (some v) := by
  intro A
  induction A with
  | nil => intro B h k v hk; simp at hk
  | cons a t ih =>
    intro B h k v hk
    cases a with
    | none =>
      cases k with
      | zero => simp at hk
      | succ k =>
        cases B with
        | nil => have := ih [] h k v (by simpa using hk); simp at this
        | cons b u => simpa using ih u h k v (by simpa using hk)
    | some w =>
      cases B with
      | nil => exact h.elim
      | cons b u =>
        cases k with
        | zero => simp at hk; subst hk; simp [h.1]
        | succ k => simpa using ih u h.2 k v (by simpa using hk)
theorem Rn.keep {G : GX} {M : MI} {pc : Nat} {L : LL} {st : List Value} {σ σ' : SG} {r : Option Value} {L' : LL} (hs : lle L' L) (k : Rn G M pc L' st σ r σ') : Rn G M pc L st σ r σ' := by
  intro p l e s m args below meth c H locs ls C X hl
  exact k p l e s m args below meth c H locs ls C X (hl.mono (lle_at L' L hs))
theorem Rn.kp {G : GX} {M : MI} {pc : Nat} {L : LL} {st : List Value} {σ σ' : SG} {r : Option Value} {L' : LL} (k : Rn G M pc L' st σ r σ') (hs : lle L' L) : Rn G M pc L st σ r σ' := Rn.keep hs k
theorem Rn.eqs {G : GX} {M : MI} {pc : Nat} {L : LL} {st : List Value} {σ σ' : SG} {r : Option Value} {σ1 : SG} (h : σ = σ1) (k : Rn G M pc L st σ1 r σ') : Rn G M pc L st σ r σ' := h ▸ k
theorem Rn.eqst {G : GX} {M : MI} {pc : Nat} {L : LL} {st : List Value} {σ σ' : SG} {r : Option Value} {st1 : List Value} (h : st = st1) (k : Rn G M pc L st1 σ r σ') : Rn G M pc L st σ r σ' := h ▸ k
theorem Rn.eqL {G : GX} {M : MI} {pc : Nat} {L : LL} {st : List Value} {σ σ' : SG} {r : Option Value} {L1 : LL} (h : L = L1) (k : Rn G M pc L1 st σ r σ') : Rn G M pc L st σ r σ' := h ▸ k
theorem p_iadd {G : GX} {M : MI} {pc : Nat} {L : LL} {st : List Value} {σ σ' : SG} {r : Option Value} {a b : Int} (hd : decode M.2.1 pc = .ok (.iadd, 1)) (k : Rn G M (pc + 1) L (vi (a + b) :: st) σ r σ') : Rn G M pc L (vi b :: vi a :: st) σ r σ' := by
  intro p l e s m args below meth c H locs ls C X hl
  refine lv_iadd C.1 C.2.1 hd ?_
  have h := k p l e s m args below meth c H locs ls C X hl
  rw [vi, Int32.ofInt_add] at h
  exact h
theorem p_isub {G : GX} {M : MI} {pc : Nat} {L : LL} {st : List Value} {σ σ' : SG} {r : Option Value} {a b : Int} (hd : decode M.2.1 pc = .ok (.isub, 1)) (k : Rn G M (pc + 1) L (vi (a - b) :: st) σ r σ') : Rn G M pc L (vi b :: vi a :: st) σ r σ' := by
  intro p l e s m args below meth c H locs ls C X hl
  refine lv_isub C.1 C.2.1 hd ?_
  have h := k p l e s m args below meth c H locs ls C X hl
  rw [vi, Int32.ofInt_sub] at h
  exact h
theorem p_imul {G : GX} {M : MI} {pc : Nat} {L : LL} {st : List Value} {σ σ' : SG} {r : Option Value} {a b : Int} (hd : decode M.2.1 pc = .ok (.imul, 1)) (k : Rn G M (pc + 1) L (vi (a * b) :: st) σ r σ') : Rn G M pc L (vi b :: vi a :: st) σ r σ' := by
  intro p l e s m args below meth c H locs ls C X hl
  refine lv_imul C.1 C.2.1 hd ?_
  have h := k p l e s m args below meth c H locs ls C X hl
  rw [vi, Int32.ofInt_mul] at h
  exact h
theorem p_ladd {G : GX} {M : MI} {pc : Nat} {L : LL} {st : List Value} {σ σ' : SG} {r : Option Value} {a b : Int} (hd : decode M.2.1 pc = .ok (.ladd, 1)) (k : Rn G M (pc + 1) L (vl (a + b) :: st) σ r σ') : Rn G M pc L (vl b :: vl a :: st) σ r σ' := by
  intro p l e s m args below meth c H locs ls C X hl
  refine lv_ladd C.1 C.2.1 hd ?_
  have h := k p l e s m args below meth c H locs ls C X hl
  rw [vl, Int64.ofInt_add] at h
  exact h
theorem p_lmul {G : GX} {M : MI} {pc : Nat} {L : LL} {st : List Value} {σ σ' : SG} {r : Option Value} {a b : Int} (hd : decode M.2.1 pc = .ok (.lmul, 1)) (k : Rn G M (pc + 1) L (vl (a * b) :: st) σ r σ') : Rn G M pc L (vl b :: vl a :: st) σ r σ' := by
  intro p l e s m args below meth c H locs ls C X hl
  refine lv_lmul C.1 C.2.1 hd ?_
  have h := k p l e s m args below meth c H locs ls C X hl
  rw [vl, Int64.ofInt_mul] at h
  exact h
def bAnd (a b : Int) : Int := (Int32.ofInt a &&& Int32.ofInt b).toInt
def bOr (a b : Int) : Int := (Int32.ofInt a ||| Int32.ofInt b).toInt
def bXor (a b : Int) : Int := (Int32.ofInt a ^^^ Int32.ofInt b).toInt
def bShl (a b : Int) : Int := (Int32.ofInt a <<< (Int32.ofInt b &&& 31)).toInt
def bShr (a b : Int) : Int := (Int32.ofInt a >>> (Int32.ofInt b &&& 31)).toInt
def bUsr (a b : Int) : Int := (((Int32.ofInt a).toUInt32 >>> ((Int32.ofInt b).toUInt32 &&& Int32.toUInt32 31)).toInt32).toInt
def nb8 (a : Int) : Int := ((Int32.ofInt a).toInt8.toInt32).toInt
def nb16 (a : Int) : Int := ((Int32.ofInt a).toInt16.toInt32).toInt
def nbc (a : Int) : Int := (((Int32.ofInt a).toUInt32 % 65536).toInt32).toInt
theorem p_iand {G : GX} {M : MI} {pc : Nat} {L : LL} {st : List Value} {σ σ' : SG} {r : Option Value} {a b : Int} (hd : decode M.2.1 pc = .ok (.iand, 1)) (k : Rn G M (pc + 1) L (vi (bAnd a b) :: st) σ r σ') : Rn G M pc L (vi b :: vi a :: st) σ r σ' := by
  intro p l e s m args below meth c H locs ls C X hl
  refine lv_iand C.1 C.2.1 hd ?_
  have h := k p l e s m args below meth c H locs ls C X hl
  rw [vi, bAnd, Int32.ofInt_toInt] at h
  exact h
theorem p_ior {G : GX} {M : MI} {pc : Nat} {L : LL} {st : List Value} {σ σ' : SG} {r : Option Value} {a b : Int} (hd : decode M.2.1 pc = .ok (.ior, 1)) (k : Rn G M (pc + 1) L (vi (bOr a b) :: st) σ r σ') : Rn G M pc L (vi b :: vi a :: st) σ r σ' := by
  intro p l e s m args below meth c H locs ls C X hl
  refine lv_ior C.1 C.2.1 hd ?_
  have h := k p l e s m args below meth c H locs ls C X hl
  rw [vi, bOr, Int32.ofInt_toInt] at h
  exact h
theorem p_ixor {G : GX} {M : MI} {pc : Nat} {L : LL} {st : List Value} {σ σ' : SG} {r : Option Value} {a b : Int} (hd : decode M.2.1 pc = .ok (.ixor, 1)) (k : Rn G M (pc + 1) L (vi (bXor a b) :: st) σ r σ') : Rn G M pc L (vi b :: vi a :: st) σ r σ' := by
  intro p l e s m args below meth c H locs ls C X hl
  refine lv_ixor C.1 C.2.1 hd ?_
  have h := k p l e s m args below meth c H locs ls C X hl
  rw [vi, bXor, Int32.ofInt_toInt] at h
  exact h
theorem p_ishl {G : GX} {M : MI} {pc : Nat} {L : LL} {st : List Value} {σ σ' : SG} {r : Option Value} {a b : Int} (hd : decode M.2.1 pc = .ok (.ishl, 1)) (k : Rn G M (pc + 1) L (vi (bShl a b) :: st) σ r σ') : Rn G M pc L (vi b :: vi a :: st) σ r σ' := by
  intro p l e s m args below meth c H locs ls C X hl
  refine lv_ishl C.1 C.2.1 hd ?_
  have h := k p l e s m args below meth c H locs ls C X hl
  rw [vi, bShl, Int32.ofInt_toInt] at h
  exact h
theorem p_ishr {G : GX} {M : MI} {pc : Nat} {L : LL} {st : List Value} {σ σ' : SG} {r : Option Value} {a b : Int} (hd : decode M.2.1 pc = .ok (.ishr, 1)) (k : Rn G M (pc + 1) L (vi (bShr a b) :: st) σ r σ') : Rn G M pc L (vi b :: vi a :: st) σ r σ' := by
  intro p l e s m args below meth c H locs ls C X hl
  refine lv_ishr C.1 C.2.1 hd ?_
  have h := k p l e s m args below meth c H locs ls C X hl
  rw [vi, bShr, Int32.ofInt_toInt] at h
  exact h
theorem p_iushr {G : GX} {M : MI} {pc : Nat} {L : LL} {st : List Value} {σ σ' : SG} {r : Option Value} {a b : Int} (hd : decode M.2.1 pc = .ok (.iushr, 1)) (k : Rn G M (pc + 1) L (vi (bUsr a b) :: st) σ r σ') : Rn G M pc L (vi b :: vi a :: st) σ r σ' := by
  intro p l e s m args below meth c H locs ls C X hl
  refine lv_iushr C.1 C.2.1 hd rfl ?_
  have h := k p l e s m args below meth c H locs ls C X hl
  rw [vi, bUsr, Int32.ofInt_toInt] at h
  exact h
theorem p_i2b {G : GX} {M : MI} {pc : Nat} {L : LL} {st : List Value} {σ σ' : SG} {r : Option Value} {a : Int} (hd : decode M.2.1 pc = .ok (.i2b, 1)) (k : Rn G M (pc + 1) L (vi (nb8 a) :: st) σ r σ') : Rn G M pc L (vi a :: st) σ r σ' := by
  intro p l e s m args below meth c H locs ls C X hl
  refine lv_i2b C.1 C.2.1 hd rfl ?_
  have h := k p l e s m args below meth c H locs ls C X hl
  rw [vi, nb8, Int32.ofInt_toInt] at h
  exact h
theorem p_i2s {G : GX} {M : MI} {pc : Nat} {L : LL} {st : List Value} {σ σ' : SG} {r : Option Value} {a : Int} (hd : decode M.2.1 pc = .ok (.i2s, 1)) (k : Rn G M (pc + 1) L (vi (nb16 a) :: st) σ r σ') : Rn G M pc L (vi a :: st) σ r σ' := by
  intro p l e s m args below meth c H locs ls C X hl
  refine lv_i2s C.1 C.2.1 hd rfl ?_
  have h := k p l e s m args below meth c H locs ls C X hl
  rw [vi, nb16, Int32.ofInt_toInt] at h
  exact h
theorem p_i2c {G : GX} {M : MI} {pc : Nat} {L : LL} {st : List Value} {σ σ' : SG} {r : Option Value} {a : Int} (hd : decode M.2.1 pc = .ok (.i2c, 1)) (k : Rn G M (pc + 1) L (vi (nbc a) :: st) σ r σ') : Rn G M pc L (vi a :: st) σ r σ' := by
  intro p l e s m args below meth c H locs ls C X hl
  refine lv_i2c C.1 C.2.1 hd rfl ?_
  have h := k p l e s m args below meth c H locs ls C X hl
  rw [vi, nbc, Int32.ofInt_toInt] at h
  exact h
theorem p_i2l {G : GX} {M : MI} {pc : Nat} {L : LL} {st : List Value} {σ σ' : SG} {r : Option Value} {a : Int} (ha : inR a) (hd : decode M.2.1 pc = .ok (.i2l, 1)) (k : Rn G M (pc + 1) L (vl a :: st) σ r σ') : Rn G M pc L (vi a :: st) σ r σ' := by
  intro p l e s m args below meth c H locs ls C X hl
  exact lv_i2l (v := Int64.ofInt a) C.1 C.2.1 hd (Int32.toInt64_ofInt ha.1 ha.2) (k p l e s m args below meth c H locs ls C X hl)
theorem p_l2i {G : GX} {M : MI} {pc : Nat} {L : LL} {st : List Value} {σ σ' : SG} {r : Option Value} {a : Int} (hd : decode M.2.1 pc = .ok (.l2i, 1)) (k : Rn G M (pc + 1) L (vi a :: st) σ r σ') : Rn G M pc L (vl a :: st) σ r σ' := by
  intro p l e s m args below meth c H locs ls C X hl
  exact lv_l2i (v := Int32.ofInt a) C.1 C.2.1 hd Int64.toInt32_ofInt (k p l e s m args below meth c H locs ls C X hl)
theorem i32_ne0 {b : Int} (hb : inR b) (h0 : 0 < b) : ¬ Int32.ofInt b = 0 := fun h => by
  have := (i32_eq hb inR0).mp h
  omega
theorem i32_div {a b : Int} (ha : inR a) (hb : inR b) (h0 : 0 ≤ a) (h1 : 0 < b) : Int32.ofInt a / Int32.ofInt b = Int32.ofInt (a / b) := by
  have hq : inR (a / b) := by
    have h2 : 0 ≤ a / b := Int.ediv_nonneg h0 (by omega)
    have h3 : a / b ≤ a := Int.ediv_le_self b h0
    have := ha.2
    constructor <;> omega
  rw [← Int32.toInt_inj, i32_toInt hq, Int32.toInt_div_of_ne_right, i32_toInt ha, i32_toInt hb, Int.tdiv_eq_ediv_of_nonneg h0]
  intro h
  have h2 : (Int32.ofInt b).toInt = (-1 : Int32).toInt := by rw [h]
  rw [i32_toInt hb] at h2
  have h3 : (-1 : Int32).toInt = -1 := by decide
  omega
theorem p_idiv {G : GX} {M : MI} {pc : Nat} {L : LL} {st : List Value} {σ σ' : SG} {r : Option Value} {a b : Int} (ha : inR a) (hb : inR b) (h0 : 0 ≤ a) (h1 : 0 < b) (hd : decode M.2.1 pc = .ok (.idiv, 1)) (k : Rn G M (pc + 1) L (vi (a / b) :: st) σ r σ') : Rn G M pc L (vi b :: vi a :: st) σ r σ' := by
  intro p l e s m args below meth c H locs ls C X hl
  refine lv_idiv C.1 C.2.1 hd (i32_ne0 hb h1) ?_
  have h := k p l e s m args below meth c H locs ls C X hl
  rw [vi, ← i32_div ha hb h0 h1] at h
  exact h
theorem p_irem {G : GX} {M : MI} {pc : Nat} {L : LL} {st : List Value} {σ σ' : SG} {r : Option Value} {a b : Int} (ha : inR a) (hb : inR b) (h0 : 0 ≤ a) (h1 : 0 < b) (hd : decode M.2.1 pc = .ok (.irem, 1)) (k : Rn G M (pc + 1) L (vi (a % b) :: st) σ r σ') : Rn G M pc L (vi b :: vi a :: st) σ r σ' := by
  intro p l e s m args below meth c H locs ls C X hl
  refine lv_irem C.1 C.2.1 hd (i32_ne0 hb h1) ?_
  have h := k p l e s m args below meth c H locs ls C X hl
  have e : a % b = a - a / b * b := by rw [Int.emod_def, Int.mul_comm]
  rw [vi, e, Int32.ofInt_sub, Int32.ofInt_mul, ← i32_div ha hb h0 h1] at h
  exact h
def sgn (a b : Int) : Int := if a < b then -1 else if a = b then 0 else 1
theorem lg_cmp_sgn {a b : Int} (ha : inL a) (hb : inL b) : lg_cmp (Int64.ofInt a) (Int64.ofInt b) = Int32.ofInt (sgn a b) := by
  have h1 := i64_lt ha hb
  have h2 := i64_eq ha hb
  have h3 := i64_lt hb ha
  unfold lg_cmp sgn
  by_cases c1 : a < b
  · rw [if_neg (fun z => by have := h3.mp z; omega), if_neg (fun z => by have := h2.mp z; omega), if_pos c1]; rfl
  · by_cases c2 : a = b
    · subst c2; simp
    · have c3 : b < a := by omega
      rw [if_pos (h3.mpr c3), if_neg c1, if_neg c2]; rfl
theorem p_lcmp {G : GX} {M : MI} {pc : Nat} {L : LL} {st : List Value} {σ σ' : SG} {r : Option Value} {a b : Int} (ha : inL a) (hb : inL b) (hd : decode M.2.1 pc = .ok (.lcmp, 1)) (k : Rn G M (pc + 1) L (vi (sgn a b) :: st) σ r σ') : Rn G M pc L (vl b :: vl a :: st) σ r σ' := by
  intro p l e s m args below meth c H locs ls C X hl
  refine W.lcmp C.1 C.2.1 hd ?_
  have h := k p l e s m args below meth c H locs ls C X hl
  rw [vi, ← lg_cmp_sgn ha hb] at h
  exact h
theorem p_dup {G : GX} {M : MI} {pc : Nat} {L : LL} {st : List Value} {σ σ' : SG} {r : Option Value} {v : Value} (hv : v.category = 1) (hd : decode M.2.1 pc = .ok (.dup, 1)) (k : Rn G M (pc + 1) L (v :: v :: st) σ r σ') : Rn G M pc L (v :: st) σ r σ' := by
  intro p l e s m args below meth c H locs ls C X hl
  exact lv_dup C.1 C.2.1 hd hv (k p l e s m args below meth c H locs ls C X hl)
theorem p_pop {G : GX} {M : MI} {pc : Nat} {L : LL} {st : List Value} {σ σ' : SG} {r : Option Value} {v : Value} (hv : v.category = 1) (hd : decode M.2.1 pc = .ok (.pop, 1)) (k : Rn G M (pc + 1) L (st) σ r σ') : Rn G M pc L (v :: st) σ r σ' := by
  intro p l e s m args below meth c H locs ls C X hl
  exact lv_pop C.1 C.2.1 hd hv (k p l e s m args below meth c H locs ls C X hl)
theorem p_dup2 {G : GX} {M : MI} {pc : Nat} {L : LL} {st : List Value} {σ σ' : SG} {r : Option Value} {v w : Value} (hv : v.category = 1) (hw : w.category = 1) (hd : decode M.2.1 pc = .ok (.dup2, 1)) (k : Rn G M (pc + 1) L (v :: w :: v :: w :: st) σ r σ') : Rn G M pc L (v :: w :: st) σ r σ' := by
  intro p l e s m args below meth c H locs ls C X hl
  exact lv_dup2_11 C.1 C.2.1 hd hv hw (k p l e s m args below meth c H locs ls C X hl)
theorem p_if_eq {G : GX} {M : MI} {pc : Nat} {L : LL} {st : List Value} {σ σ' : SG} {r : Option Value} {a : Int} (ha : inR a) {off : Int} (tgt : Nat) (hd : decode M.2.1 pc = .ok (.ifCond .eq off, 3)) (ht : (pc : Int) + off = (tgt : Int)) (kt : a = 0 → Rn G M tgt L st σ r σ') (kf : ¬ a = 0 → Rn G M (pc + 3) L st σ r σ') : Rn G M pc L (vi a :: st) σ r σ' := by
  intro p l e s m args below meth c H locs ls C X hl
  exact lv_if_eq C.1 C.2.1 hd ht (fun h => kt ((i32_eq ha inR0).mp h) p l e s m args below meth c H locs ls C X hl) (fun h => kf (fun q => h ((i32_eq ha inR0).mpr q)) p l e s m args below meth c H locs ls C X hl)
theorem p_icmp_eq {G : GX} {M : MI} {pc : Nat} {L : LL} {st : List Value} {σ σ' : SG} {r : Option Value} {a b : Int} (ha : inR a) (hb : inR b) {off : Int} (tgt : Nat) (hd : decode M.2.1 pc = .ok (.if_icmp .eq off, 3)) (ht : (pc : Int) + off = (tgt : Int)) (kt : a = b → Rn G M tgt L st σ r σ') (kf : ¬ a = b → Rn G M (pc + 3) L st σ r σ') : Rn G M pc L (vi b :: vi a :: st) σ r σ' := by
  intro p l e s m args below meth c H locs ls C X hl
  exact lv_icmp_eq C.1 C.2.1 hd ht (fun h => kt ((i32_eq ha hb).mp h) p l e s m args below meth c H locs ls C X hl) (fun h => kf (fun q => h ((i32_eq ha hb).mpr q)) p l e s m args below meth c H locs ls C X hl)
theorem p_if_ne {G : GX} {M : MI} {pc : Nat} {L : LL} {st : List Value} {σ σ' : SG} {r : Option Value} {a : Int} (ha : inR a) {off : Int} (tgt : Nat) (hd : decode M.2.1 pc = .ok (.ifCond .ne off, 3)) (ht : (pc : Int) + off = (tgt : Int)) (kt : ¬ a = 0 → Rn G M tgt L st σ r σ') (kf : a = 0 → Rn G M (pc + 3) L st σ r σ') : Rn G M pc L (vi a :: st) σ r σ' := by
  intro p l e s m args below meth c H locs ls C X hl
  exact lv_if_ne C.1 C.2.1 hd ht (fun h => kt (fun q => h ((i32_eq ha inR0).mpr q)) p l e s m args below meth c H locs ls C X hl) (fun h => kf ((i32_eq ha inR0).mp h) p l e s m args below meth c H locs ls C X hl)
theorem p_icmp_ne {G : GX} {M : MI} {pc : Nat} {L : LL} {st : List Value} {σ σ' : SG} {r : Option Value} {a b : Int} (ha : inR a) (hb : inR b) {off : Int} (tgt : Nat) (hd : decode M.2.1 pc = .ok (.if_icmp .ne off, 3)) (ht : (pc : Int) + off = (tgt : Int)) (kt : ¬ a = b → Rn G M tgt L st σ r σ') (kf : a = b → Rn G M (pc + 3) L st σ r σ') : Rn G M pc L (vi b :: vi a :: st) σ r σ' := by
  intro p l e s m args below meth c H locs ls C X hl
  exact lv_icmp_ne C.1 C.2.1 hd ht (fun h => kt (fun q => h ((i32_eq ha hb).mpr q)) p l e s m args below meth c H locs ls C X hl) (fun h => kf ((i32_eq ha hb).mp h) p l e s m args below meth c H locs ls C X hl)
theorem p_if_lt {G : GX} {M : MI} {pc : Nat} {L : LL} {st : List Value} {σ σ' : SG} {r : Option Value} {a : Int} (ha : inR a) {off : Int} (tgt : Nat) (hd : decode M.2.1 pc = .ok (.ifCond .lt off, 3)) (ht : (pc : Int) + off = (tgt : Int)) (kt : a < 0 → Rn G M tgt L st σ r σ') (kf : ¬ a < 0 → Rn G M (pc + 3) L st σ r σ') : Rn G M pc L (vi a :: st) σ r σ' := by
  intro p l e s m args below meth c H locs ls C X hl
  exact lv_if_lt C.1 C.2.1 hd ht (fun h => kt ((i32_lt ha inR0).mp h) p l e s m args below meth c H locs ls C X hl) (fun h => kf (fun q => h ((i32_lt ha inR0).mpr q)) p l e s m args below meth c H locs ls C X hl)
theorem p_icmp_lt {G : GX} {M : MI} {pc : Nat} {L : LL} {st : List Value} {σ σ' : SG} {r : Option Value} {a b : Int} (ha : inR a) (hb : inR b) {off : Int} (tgt : Nat) (hd : decode M.2.1 pc = .ok (.if_icmp .lt off, 3)) (ht : (pc : Int) + off = (tgt : Int)) (kt : a < b → Rn G M tgt L st σ r σ') (kf : ¬ a < b → Rn G M (pc + 3) L st σ r σ') : Rn G M pc L (vi b :: vi a :: st) σ r σ' := by
  intro p l e s m args below meth c H locs ls C X hl
  exact lv_icmp_lt C.1 C.2.1 hd ht (fun h => kt ((i32_lt ha hb).mp h) p l e s m args below meth c H locs ls C X hl) (fun h => kf (fun q => h ((i32_lt ha hb).mpr q)) p l e s m args below meth c H locs ls C X hl)
theorem p_if_ge {G : GX} {M : MI} {pc : Nat} {L : LL} {st : List Value} {σ σ' : SG} {r : Option Value} {a : Int} (ha : inR a) {off : Int} (tgt : Nat) (hd : decode M.2.1 pc = .ok (.ifCond .ge off, 3)) (ht : (pc : Int) + off = (tgt : Int)) (kt : 0 ≤ a → Rn G M tgt L st σ r σ') (kf : ¬ 0 ≤ a → Rn G M (pc + 3) L st σ r σ') : Rn G M pc L (vi a :: st) σ r σ' := by
  intro p l e s m args below meth c H locs ls C X hl
  exact lv_if_ge C.1 C.2.1 hd ht (fun h => kt ((i32_le inR0 ha).mp h) p l e s m args below meth c H locs ls C X hl) (fun h => kf (fun q => h ((i32_le inR0 ha).mpr q)) p l e s m args below meth c H locs ls C X hl)
theorem p_icmp_ge {G : GX} {M : MI} {pc : Nat} {L : LL} {st : List Value} {σ σ' : SG} {r : Option Value} {a b : Int} (ha : inR a) (hb : inR b) {off : Int} (tgt : Nat) (hd : decode M.2.1 pc = .ok (.if_icmp .ge off, 3)) (ht : (pc : Int) + off = (tgt : Int)) (kt : b ≤ a → Rn G M tgt L st σ r σ') (kf : ¬ b ≤ a → Rn G M (pc + 3) L st σ r σ') : Rn G M pc L (vi b :: vi a :: st) σ r σ' := by
  intro p l e s m args below meth c H locs ls C X hl
  exact lv_icmp_ge C.1 C.2.1 hd ht (fun h => kt ((i32_le hb ha).mp h) p l e s m args below meth c H locs ls C X hl) (fun h => kf (fun q => h ((i32_le hb ha).mpr q)) p l e s m args below meth c H locs ls C X hl)
theorem p_if_gt {G : GX} {M : MI} {pc : Nat} {L : LL} {st : List Value} {σ σ' : SG} {r : Option Value} {a : Int} (ha : inR a) {off : Int} (tgt : Nat) (hd : decode M.2.1 pc = .ok (.ifCond .gt off, 3)) (ht : (pc : Int) + off = (tgt : Int)) (kt : 0 < a → Rn G M tgt L st σ r σ') (kf : ¬ 0 < a → Rn G M (pc + 3) L st σ r σ') : Rn G M pc L (vi a :: st) σ r σ' := by
  intro p l e s m args below meth c H locs ls C X hl
  exact lv_if_gt C.1 C.2.1 hd ht (fun h => kt ((i32_lt inR0 ha).mp h) p l e s m args below meth c H locs ls C X hl) (fun h => kf (fun q => h ((i32_lt inR0 ha).mpr q)) p l e s m args below meth c H locs ls C X hl)
theorem p_icmp_gt {G : GX} {M : MI} {pc : Nat} {L : LL} {st : List Value} {σ σ' : SG} {r : Option Value} {a b : Int} (ha : inR a) (hb : inR b) {off : Int} (tgt : Nat) (hd : decode M.2.1 pc = .ok (.if_icmp .gt off, 3)) (ht : (pc : Int) + off = (tgt : Int)) (kt : b < a → Rn G M tgt L st σ r σ') (kf : ¬ b < a → Rn G M (pc + 3) L st σ r σ') : Rn G M pc L (vi b :: vi a :: st) σ r σ' := by
  intro p l e s m args below meth c H locs ls C X hl
  exact lv_icmp_gt C.1 C.2.1 hd ht (fun h => kt ((i32_lt hb ha).mp h) p l e s m args below meth c H locs ls C X hl) (fun h => kf (fun q => h ((i32_lt hb ha).mpr q)) p l e s m args below meth c H locs ls C X hl)
theorem p_if_le {G : GX} {M : MI} {pc : Nat} {L : LL} {st : List Value} {σ σ' : SG} {r : Option Value} {a : Int} (ha : inR a) {off : Int} (tgt : Nat) (hd : decode M.2.1 pc = .ok (.ifCond .le off, 3)) (ht : (pc : Int) + off = (tgt : Int)) (kt : a ≤ 0 → Rn G M tgt L st σ r σ') (kf : ¬ a ≤ 0 → Rn G M (pc + 3) L st σ r σ') : Rn G M pc L (vi a :: st) σ r σ' := by
  intro p l e s m args below meth c H locs ls C X hl
  exact lv_if_le C.1 C.2.1 hd ht (fun h => kt ((i32_le ha inR0).mp h) p l e s m args below meth c H locs ls C X hl) (fun h => kf (fun q => h ((i32_le ha inR0).mpr q)) p l e s m args below meth c H locs ls C X hl)
theorem p_icmp_le {G : GX} {M : MI} {pc : Nat} {L : LL} {st : List Value} {σ σ' : SG} {r : Option Value} {a b : Int} (ha : inR a) (hb : inR b) {off : Int} (tgt : Nat) (hd : decode M.2.1 pc = .ok (.if_icmp .le off, 3)) (ht : (pc : Int) + off = (tgt : Int)) (kt : a ≤ b → Rn G M tgt L st σ r σ') (kf : ¬ a ≤ b → Rn G M (pc + 3) L st σ r σ') : Rn G M pc L (vi b :: vi a :: st) σ r σ' := by
  intro p l e s m args below meth c H locs ls C X hl
  exact lv_icmp_le C.1 C.2.1 hd ht (fun h => kt ((i32_le ha hb).mp h) p l e s m args below meth c H locs ls C X hl) (fun h => kf (fun q => h ((i32_le ha hb).mpr q)) p l e s m args below meth c H locs ls C X hl)
theorem p_lc_eq {G : GX} {M : MI} {pc : Nat} {L : LL} {st : List Value} {σ σ' : SG} {r : Option Value} {a b : Int} (ha : inL a) (hb : inL b) {off : Int} (tgt : Nat) (hd : decode M.2.1 pc = .ok (.lcmp, 1)) (hd2 : decode M.2.1 (pc + 1) = .ok (.ifCond .eq off, 3)) (ht : ((pc + 1 : Nat) : Int) + off = (tgt : Int)) (kt : a = b → Rn G M tgt L st σ r σ') (kf : ¬ a = b → Rn G M (pc + 4) L st σ r σ') : Rn G M pc L (vl b :: vl a :: st) σ r σ' := by
  refine p_lcmp ha hb hd (p_if_eq ?_ tgt hd2 ht (fun q => kt ?_) (fun q => kf ?_))
  · unfold sgn; split
    · exact ⟨by omega, by omega⟩
    · split
      · exact ⟨by omega, by omega⟩
      · exact ⟨by omega, by omega⟩
  · unfold sgn at q; split at q <;> (try split at q) <;> omega
  · unfold sgn at q; split at q <;> (try split at q) <;> omega
theorem p_lc_ne {G : GX} {M : MI} {pc : Nat} {L : LL} {st : List Value} {σ σ' : SG} {r : Option Value} {a b : Int} (ha : inL a) (hb : inL b) {off : Int} (tgt : Nat) (hd : decode M.2.1 pc = .ok (.lcmp, 1)) (hd2 : decode M.2.1 (pc + 1) = .ok (.ifCond .ne off, 3)) (ht : ((pc + 1 : Nat) : Int) + off = (tgt : Int)) (kt : ¬ a = b → Rn G M tgt L st σ r σ') (kf : a = b → Rn G M (pc + 4) L st σ r σ') : Rn G M pc L (vl b :: vl a :: st) σ r σ' := by
  refine p_lcmp ha hb hd (p_if_ne ?_ tgt hd2 ht (fun q => kt ?_) (fun q => kf ?_))
  · unfold sgn; split
    · exact ⟨by omega, by omega⟩
    · split
      · exact ⟨by omega, by omega⟩
      · exact ⟨by omega, by omega⟩
  · unfold sgn at q; split at q <;> (try split at q) <;> omega
  · unfold sgn at q; split at q <;> (try split at q) <;> omega
theorem p_lc_lt {G : GX} {M : MI} {pc : Nat} {L : LL} {st : List Value} {σ σ' : SG} {r : Option Value} {a b : Int} (ha : inL a) (hb : inL b) {off : Int} (tgt : Nat) (hd : decode M.2.1 pc = .ok (.lcmp, 1)) (hd2 : decode M.2.1 (pc + 1) = .ok (.ifCond .lt off, 3)) (ht : ((pc + 1 : Nat) : Int) + off = (tgt : Int)) (kt : a < b → Rn G M tgt L st σ r σ') (kf : ¬ a < b → Rn G M (pc + 4) L st σ r σ') : Rn G M pc L (vl b :: vl a :: st) σ r σ' := by
  refine p_lcmp ha hb hd (p_if_lt ?_ tgt hd2 ht (fun q => kt ?_) (fun q => kf ?_))
  · unfold sgn; split
    · exact ⟨by omega, by omega⟩
    · split
      · exact ⟨by omega, by omega⟩
      · exact ⟨by omega, by omega⟩
  · unfold sgn at q; split at q <;> (try split at q) <;> omega
  · unfold sgn at q; split at q <;> (try split at q) <;> omega
theorem p_lc_ge {G : GX} {M : MI} {pc : Nat} {L : LL} {st : List Value} {σ σ' : SG} {r : Option Value} {a b : Int} (ha : inL a) (hb : inL b) {off : Int} (tgt : Nat) (hd : decode M.2.1 pc = .ok (.lcmp, 1)) (hd2 : decode M.2.1 (pc + 1) = .ok (.ifCond .ge off, 3)) (ht : ((pc + 1 : Nat) : Int) + off = (tgt : Int)) (kt : b ≤ a → Rn G M tgt L st σ r σ') (kf : ¬ b ≤ a → Rn G M (pc + 4) L st σ r σ') : Rn G M pc L (vl b :: vl a :: st) σ r σ' := by
  refine p_lcmp ha hb hd (p_if_ge ?_ tgt hd2 ht (fun q => kt ?_) (fun q => kf ?_))
  · unfold sgn; split
    · exact ⟨by omega, by omega⟩
    · split
      · exact ⟨by omega, by omega⟩
      · exact ⟨by omega, by omega⟩
  · unfold sgn at q; split at q <;> (try split at q) <;> omega
  · unfold sgn at q; split at q <;> (try split at q) <;> omega
theorem p_lc_gt {G : GX} {M : MI} {pc : Nat} {L : LL} {st : List Value} {σ σ' : SG} {r : Option Value} {a b : Int} (ha : inL a) (hb : inL b) {off : Int} (tgt : Nat) (hd : decode M.2.1 pc = .ok (.lcmp, 1)) (hd2 : decode M.2.1 (pc + 1) = .ok (.ifCond .gt off, 3)) (ht : ((pc + 1 : Nat) : Int) + off = (tgt : Int)) (kt : b < a → Rn G M tgt L st σ r σ') (kf : ¬ b < a → Rn G M (pc + 4) L st σ r σ') : Rn G M pc L (vl b :: vl a :: st) σ r σ' := by
  refine p_lcmp ha hb hd (p_if_gt ?_ tgt hd2 ht (fun q => kt ?_) (fun q => kf ?_))
  · unfold sgn; split
    · exact ⟨by omega, by omega⟩
    · split
      · exact ⟨by omega, by omega⟩
      · exact ⟨by omega, by omega⟩
  · unfold sgn at q; split at q <;> (try split at q) <;> omega
  · unfold sgn at q; split at q <;> (try split at q) <;> omega
theorem p_lc_le {G : GX} {M : MI} {pc : Nat} {L : LL} {st : List Value} {σ σ' : SG} {r : Option Value} {a b : Int} (ha : inL a) (hb : inL b) {off : Int} (tgt : Nat) (hd : decode M.2.1 pc = .ok (.lcmp, 1)) (hd2 : decode M.2.1 (pc + 1) = .ok (.ifCond .le off, 3)) (ht : ((pc + 1 : Nat) : Int) + off = (tgt : Int)) (kt : a ≤ b → Rn G M tgt L st σ r σ') (kf : ¬ a ≤ b → Rn G M (pc + 4) L st σ r σ') : Rn G M pc L (vl b :: vl a :: st) σ r σ' := by
  refine p_lcmp ha hb hd (p_if_le ?_ tgt hd2 ht (fun q => kt ?_) (fun q => kf ?_))
  · unfold sgn; split
    · exact ⟨by omega, by omega⟩
    · split
      · exact ⟨by omega, by omega⟩
      · exact ⟨by omega, by omega⟩
  · unfold sgn at q; split at q <;> (try split at q) <;> omega
  · unfold sgn at q; split at q <;> (try split at q) <;> omega
theorem p_goto {G : GX} {M : MI} {pc : Nat} {L : LL} {st : List Value} {σ σ' : SG} {r : Option Value} {off : Int} (tgt : Nat) (hd : decode M.2.1 pc = .ok (.goto off, 3)) (ht : (pc : Int) + off = (tgt : Int)) (k : Rn G M tgt L st σ r σ') : Rn G M pc L st σ r σ' := by
  intro p l e s m args below meth c H locs ls C X hl
  exact lv_goto C.1 C.2.1 hd ht (k p l e s m args below meth c H locs ls C X hl)
theorem p_tswI {G : GX} {M : MI} {pc : Nat} {L : LL} {st : List Value} {σ σ' : SG} {r : Option Value} {dflt lo hi off : Int} {offs : Array Int} {len : Nat} {a : Int} (ha : inR a) (q : Nat) (tgt : Nat) (hd : decode M.2.1 pc = .ok (.tableswitch dflt lo hi offs, len)) (hq : a = lo + (q : Int)) (hh : lo + (q : Int) ≤ hi) (ho : offs[q]? = some off) (ht : (pc : Int) + off = (tgt : Int)) (k : Rn G M tgt L st σ r σ') : Rn G M pc L (vi a :: st) σ r σ' := by
  intro p l e s m args below meth c H locs ls C X hl
  have ee := i32_toInt ha
  refine lv_tableIn C.1 C.2.1 hd (off := off) (tgt := tgt) (by rw [ee]; omega) (by rw [ee]; omega) ?_ ht (k p l e s m args below meth c H locs ls C X hl)
  rw [ee, show (a - lo).toNat = q by omega]
  exact ho
theorem p_tswO {G : GX} {M : MI} {pc : Nat} {L : LL} {st : List Value} {σ σ' : SG} {r : Option Value} {dflt lo hi : Int} {offs : Array Int} {len : Nat} {a : Int} (ha : inR a) (tgt : Nat) (hd : decode M.2.1 pc = .ok (.tableswitch dflt lo hi offs, len)) (hq : a < lo ∨ hi < a) (ht : (pc : Int) + dflt = (tgt : Int)) (k : Rn G M tgt L st σ r σ') : Rn G M pc L (vi a :: st) σ r σ' := by
  intro p l e s m args below meth c H locs ls C X hl
  exact lv_tableOut C.1 C.2.1 hd (by rw [i32_toInt ha]; exact hq) ht (k p l e s m args below meth c H locs ls C X hl)
theorem p_bif_eq {G : GX} {M : MI} {pc : Nat} {L : LL} {st : List Value} {σ σ' : SG} {r : Option Value} {P : Prop} [Decidable P] {off : Int} (tgt : Nat) (hd : decode M.2.1 pc = .ok (.ifCond .eq off, 3)) (ht : (pc : Int) + off = (tgt : Int)) (kt : ¬ P → Rn G M tgt L st σ r σ') (kf : P → Rn G M (pc + 3) L st σ r σ') : Rn G M pc L (vi (if P then 1 else 0) :: st) σ r σ' := by
  by_cases h : P
  · rw [if_pos h]; exact p_if_eq ⟨by omega, by omega⟩ tgt hd ht (fun q => absurd q (by decide)) (fun _ => kf h)
  · rw [if_neg h]; exact p_if_eq ⟨by omega, by omega⟩ tgt hd ht (fun _ => kt h) (fun q => absurd rfl q)
theorem p_bif_ne {G : GX} {M : MI} {pc : Nat} {L : LL} {st : List Value} {σ σ' : SG} {r : Option Value} {P : Prop} [Decidable P] {off : Int} (tgt : Nat) (hd : decode M.2.1 pc = .ok (.ifCond .ne off, 3)) (ht : (pc : Int) + off = (tgt : Int)) (kt : P → Rn G M tgt L st σ r σ') (kf : ¬ P → Rn G M (pc + 3) L st σ r σ') : Rn G M pc L (vi (if P then 1 else 0) :: st) σ r σ' := by
  by_cases h : P
  · rw [if_pos h]; exact p_if_ne ⟨by omega, by omega⟩ tgt hd ht (fun _ => kt h) (fun q => absurd q (by decide))
  · rw [if_neg h]; exact p_if_ne ⟨by omega, by omega⟩ tgt hd ht (fun q => absurd rfl q) (fun _ => kf h)
theorem nz0 : narrow .boolean (vi 0) = vi 0 := by decide +kernel
theorem nz1 : narrow .boolean (vi 1) = vi 1 := by decide +kernel
theorem nzb (P : Prop) [Decidable P] : narrow .boolean (vi (if P then 1 else 0)) = vi (if P then 1 else 0) := by
  by_cases h : P
  · rw [if_pos h]; exact nz1
  · rw [if_neg h]; exact nz0
theorem p_iret {G : GX} {M : MI} {pc : Nat} {L : LL} {σ σ' : SG} {r : Option Value} {a : Int} (hr : M.2.2.2.1 = some .int) (hd : decode M.2.1 pc = .ok (.ireturn, 1)) (hv : some (vi a) = r) (hs : σ = σ') : Rn G M pc L [vi a] σ r σ' := by
  intro p l e s m args below meth c H locs ls C X hl
  subst hv; subst hs
  exact W.iret C.1 C.2.1 (C.2.2.1.trans hr) (fun t ht hW => ⟨rfl, by rw [ht]; exact X.1, X.2.F ht⟩) X.2.2.2 hd C.2.2.2.2.2.2.1
theorem p_zret {G : GX} {M : MI} {pc : Nat} {L : LL} {σ σ' : SG} {r : Option Value} {a : Int} {ty : FieldType} (hr : M.2.2.2.1 = some ty) (hn : narrow ty (vi a) = vi a) (hd : decode M.2.1 pc = .ok (.ireturn, 1)) (hv : some (vi a) = r) (hs : σ = σ') : Rn G M pc L [vi a] σ r σ' := by
  intro p l e s m args below meth c H locs ls C X hl
  subst hv; subst hs
  exact W.zret C.1 C.2.1 (C.2.2.1.trans hr) hn (fun t ht hW => ⟨rfl, by rw [ht]; exact X.1, X.2.F ht⟩) X.2.2.2 hd C.2.2.2.2.2.2.1
theorem p_lret {G : GX} {M : MI} {pc : Nat} {L : LL} {σ σ' : SG} {r : Option Value} {a : Int} (hr : M.2.2.2.1 = some .long) (hd : decode M.2.1 pc = .ok (.lreturn, 1)) (hv : some (vl a) = r) (hs : σ = σ') : Rn G M pc L [vl a] σ r σ' := by
  intro p l e s m args below meth c H locs ls C X hl
  subst hv; subst hs
  exact W.lret C.1 C.2.1 (C.2.2.1.trans hr) (fun t ht hW => ⟨rfl, by rw [ht]; exact X.1, X.2.F ht⟩) X.2.2.2 hd C.2.2.2.2.2.2.1
theorem p_vret {G : GX} {M : MI} {pc : Nat} {L : LL} {σ σ' : SG} {r : Option Value} (hr : M.2.2.2.1 = none) (hd : decode M.2.1 pc = .ok (.return_, 1)) (hv : none = r) (hs : σ = σ') : Rn G M pc L [] σ r σ' := by
  intro p l e s m args below meth c H locs ls C X hl
  subst hv; subst hs
  exact W.vret C.1 C.2.1 (C.2.2.1.trans hr) (fun t ht hW => ⟨rfl, by rw [ht]; exact X.1, X.2.F ht⟩) X.2.2.2 hd C.2.2.2.2.2.2.1
theorem p_aret {G : GX} {M : MI} {pc : Nat} {L : LL} {σ σ' : SG} {r : Option Value} {a : Nat} {n : String} (hr : M.2.2.2.1 = some (.object n)) (hd : decode M.2.1 pc = .ok (.areturn, 1)) (hv : some (.ref a) = r) (hs : σ = σ') : Rn G M pc L [.ref a] σ r σ' := by
  intro p l e s m args below meth c H locs ls C X hl
  subst hv; subst hs
  exact W.aret C.1 C.2.1 (C.2.2.1.trans hr) (Or.inl ⟨_, rfl⟩) (Or.inr ⟨_, rfl⟩) (fun t ht hW => ⟨rfl, by rw [ht]; exact X.1, X.2.F ht⟩) X.2.2.2 hd C.2.2.2.2.2.2.1
def FL (own : String) (ix ci k : Nat) : Prop := ∃ (C : String) (T : u_T) (N : Nat), vwCl[ci]? = some (C, T, N) ∧ k < N ∧ (∀ w ∈ u_ws C T N, w ∈ wsL) ∧ Cond.fieldLink own ix (T k).1 (T k).2.1 (T k).2.2.1 ∈ wsL
def FW (own : String) (ix ci k : Nat) (ty : FieldType) : Prop := ∃ (C : String) (T : u_T) (N : Nat) (ty0 : Nat → FieldType), vwCl[ci]? = some (C, T, N) ∧ k < N ∧ (∀ w ∈ u_ws C T N, w ∈ wsL) ∧ Cond.fieldLink own ix (T k).1 (T k).2.1 (T k).2.2.1 ∈ wsL ∧ (∀ k, k < N → parseFieldDescriptor (T k).2.2.1 = some (ty0 k)) ∧ (∀ a, a < N → ∀ b, b < N → a ≠ b → (T a).2.1 ≠ (T b).2.1) ∧ (T k).2.2.2 = false ∧ parseFieldDescriptor (T k).2.2.1 = some ty
def fld (σ : SG) (i ci k : Nat) (v : Value) : Prop := i < NC ∧ ∃ fs, σ i = .inr (ci, fs) ∧ fs[k]? = some v
def put (σ : SG) (i ci k : Nat) (v : Value) (σ1 : SG) : Prop := i < NC ∧ ∃ fs, σ i = .inr (ci, fs) ∧ k < fs.length ∧ va_up σ i (.inr (ci, fs.set k v)) = σ1
theorem p_get {G : GX} {M : MI} {pc : Nat} {L : LL} {st : List Value} {σ σ' : SG} {r : Option Value} {ix ci k i : Nat} {v : Value} (hf : FL M.1.cls ix ci k) (hσ : fld σ i ci k v) (hd : decode M.2.1 pc = .ok (.getfield ix, 3)) (kk : Rn G M (pc + 3) L (v :: st) σ r σ') : Rn G M pc L (rf G i :: st) σ r σ' := by
  intro p l e s m args below meth c H locs ls C X hl
  obtain ⟨Cn, T, N, h1, h2, h3, h4⟩ := hf
  obtain ⟨hi, fs, e1, e2⟩ := hσ
  exact va_get (D := G.1) (ci := ci) (v := v) (C := Cn) (T := T) (N := N) C.1 C.2.1 C.2.2.2.2.2.1 h3 C.2.2.2.2.1 C.2.2.2.2.2.2.2.1 X.1 i (by rw [wl_get G σ hi, e1]) h1 k h2 (C.2.2.2.2.2.1 _ h4) (fun _ h9 => h9) e2 hd (kk p l e s m args below meth c H locs ls C X hl)
theorem p_put {G : GX} {M : MI} {pc : Nat} {L : LL} {st : List Value} {σ σ' : SG} {r : Option Value} {σ1 : SG} {ix ci k i : Nat} {v : Value} {ty : FieldType} (hf : FW M.1.cls ix ci k ty) (hn : narrow ty v = v) (hfit : fits ty v = true) (hσ : put σ i ci k v σ1) (hd : decode M.2.1 pc = .ok (.putfield ix, 3)) (kk : Rn G M (pc + 3) L st σ1 r σ') : Rn G M pc L (v :: rf G i :: st) σ r σ' := by
  intro p l e s m args below meth c H locs ls C X hl
  obtain ⟨Cn, T, N, ty0, h1, h2, h3, h4, h5, h6, h7, h8⟩ := hf
  obtain ⟨hi, fs, e1, e2, e3⟩ := hσ
  subst e3
  refine va_put (D := G.1) (ci := ci) (v := v) (ty := ty) (C := Cn) (T := T) (N := N) C.1 C.2.1 C.2.2.2.2.2.1 h3 ty0 h5 h6 C.2.2.2.2.1 C.2.2.2.2.2.2.2.1 X.1 (wl_D C.2.2.2.2.2.2.2.2.2 σ) X.2 i (by rw [wl_get G σ hi, e1]) h1 k h2 (C.2.2.2.2.2.1 _ h4) (fun _ h9 => h9) h7 h8 hn hfit e2 hd (fun H1 locs1 hP hD hS => ?_)
  have hP2 : va_P G.1 vwCl ((wl G σ).set i (ad G i, .inr (ci, fs.set k v))) H1 := hP
  rw [wl_set G σ hi] at hP2
  exact kk p l e s m args below meth c H1 locs1 ls C ⟨hP2, hS⟩ hl
def uz {α : Type} (f : Int → α) (k : Int) (v : α) : Int → α := fun j => if j = k then v else f j
theorem uz_self {α : Type} (f : Int → α) (k : Int) (v : α) : uz f k v k = v := by simp [uz]
theorem uz_ne {α : Type} (f : Int → α) {k j : Int} (v : α) (h : j ≠ k) : uz f k v j = f j := by simp [uz, h]
def ia (G : GX) (n : Nat) (f : Int → Int) : va_E := .inl (G.2.1.1, n, .inl (fun k => if k < n then Int32.ofInt (f k) else 0))
def ja (G : GX) (n : Nat) (f : Int → Int) : va_E := .inl (G.2.1.2.1, n, .inr (.inl (fun k => if k < n then Int64.ofInt (f k) else 0)))
def qa (G : GX) (n : Nat) (f : Nat → Option Nat) : va_E := .inl (G.2.1.2.2, n, .inr (.inr (.inr (.inr f))))
theorem i32_clamp {z : Int} {k : Nat} (hz : z = (k : Int)) (hk : k < 2147483648) : (Int32.ofInt z).toNatClampNeg = k := by
  subst hz
  rw [Int32.toNatClampNeg_ofInt_of_le (by omega) (by omega)]
  omega
theorem vp_in_k {z : Int} {k n : Nat} (hz : z = (k : Int)) (hk : k < n) (hn : n < 2147483648) : vp_in (Int32.ofInt z) n := by
  unfold vp_in
  rw [i32_clamp hz (by omega)]
  rintro (h | h)
  · have := (i32_lt (b := 0) (by constructor <;> omega) inR0).mp h
    omega
  · omega
theorem natof {z : Int} {n : Nat} (h0 : 0 ≤ z) (h1 : z < (n : Int)) : z = ((z.toNat : Nat) : Int) ∧ z.toNat < n := by omega
def ald (G : GX) (σ : SG) (i n : Nat) (f : Int → Int) : Prop := i < NC ∧ n < 2147483648 ∧ σ i = ia G n f
def jld (G : GX) (σ : SG) (i n : Nat) (f : Int → Int) : Prop := i < NC ∧ n < 2147483648 ∧ σ i = ja G n f
def qld (G : GX) (σ : SG) (i n : Nat) (f : Nat → Option Nat) : Prop := i < NC ∧ n < 2147483648 ∧ σ i = qa G n f
theorem ia_set (G : GX) {n : Nat} {f : Int → Int} {z : Int} (h0 : 0 ≤ z) (h1 : z < (n : Int)) (x : Int) : (.inl (G.2.1.1, n, .inl (upd (fun k => if k < n then Int32.ofInt (f k) else 0) z.toNat (Int32.ofInt x))) : va_E) = ia G n (uz f z x) := by
  unfold ia
  congr 4
  funext j
  by_cases e : j = z.toNat
  · have h2 : (j : Int) = z := by omega
    have h3 : j < n := by omega
    simp [upd, uz, e]
    rw [show max z 0 = z by omega]
    simp
    omega
  · have h2 : ¬ (j : Int) = z := by omega
    simp [upd, uz, e, h2]
theorem ja_set (G : GX) {n : Nat} {f : Int → Int} {z : Int} (h0 : 0 ≤ z) (h1 : z < (n : Int)) (x : Int) : (.inl (G.2.1.2.1, n, .inr (.inl (vp_updL (fun k => if k < n then Int64.ofInt (f k) else 0) z.toNat (Int64.ofInt x)))) : va_E) = ja G n (uz f z x) := by
  unfold ja
  congr 5
  funext j
  by_cases e : j = z.toNat
  · have h2 : (j : Int) = z := by omega
    have h3 : j < n := by omega
    simp [vp_updL, uz, e]
    rw [show max z 0 = z by omega]
    simp
    omega
  · have h2 : ¬ (j : Int) = z := by omega
    simp [vp_updL, uz, e, h2]
theorem ia_congr (G : GX) {n : Nat} {f g : Int → Int} (h : ∀ k : Int, 0 ≤ k → k < n → f k = g k) : ia G n f = ia G n g := by
  unfold ia
  congr 4
  funext j
  by_cases e : j < n
  · simp only [e, if_true]; rw [h j (by omega) (by omega)]
  · simp [e]
theorem ja_congr (G : GX) {n : Nat} {f g : Int → Int} (h : ∀ k : Int, 0 ≤ k → k < n → f k = g k) : ja G n f = ja G n g := by
  unfold ja
  congr 5
  funext j
  by_cases e : j < n
  · simp only [e, if_true]; rw [h j (by omega) (by omega)]
  · simp [e]
theorem p_iald {G : GX} {M : MI} {pc : Nat} {L : LL} {st : List Value} {σ σ' : SG} {r : Option Value} {i n : Nat} {f : Int → Int} {z : Int} (hσ : ald G σ i n f) (h0 : 0 ≤ z) (h1 : z < (n : Int)) (hd : decode M.2.1 pc = .ok (.iaload, 1)) (kk : Rn G M (pc + 1) L (vi (f z) :: st) σ r σ') : Rn G M pc L (vi z :: rf G i :: st) σ r σ' := by
  intro p l e s m args below meth c H locs ls C X hl
  obtain ⟨hi, hn, e1⟩ := hσ
  have h := kk p l e s m args below meth c H locs ls C X hl
  obtain ⟨hz, hk⟩ := natof h0 h1
  refine va_iald (D := G.1) C.1 C.2.1 C.2.2.2.2.2.2.2.1 X.1 i 0 (by rw [wl_get G σ hi, e1]; rfl) rfl (vp_in_k hz hk hn) hd ?_
  rw [i32_clamp hz (by omega), if_pos hk, ← hz]
  exact h
theorem p_jald {G : GX} {M : MI} {pc : Nat} {L : LL} {st : List Value} {σ σ' : SG} {r : Option Value} {i n : Nat} {f : Int → Int} {z : Int} (hσ : jld G σ i n f) (h0 : 0 ≤ z) (h1 : z < (n : Int)) (hd : decode M.2.1 pc = .ok (.laload, 1)) (kk : Rn G M (pc + 1) L (vl (f z) :: st) σ r σ') : Rn G M pc L (vi z :: rf G i :: st) σ r σ' := by
  intro p l e s m args below meth c H locs ls C X hl
  obtain ⟨hi, hn, e1⟩ := hσ
  have h := kk p l e s m args below meth c H locs ls C X hl
  obtain ⟨hz, hk⟩ := natof h0 h1
  refine va_lald (D := G.1) C.1 C.2.1 C.2.2.2.2.2.2.2.1 X.1 i 1 (by rw [wl_get G σ hi, e1]; rfl) rfl (vp_in_k hz hk hn) hd ?_
  rw [i32_clamp hz (by omega), if_pos hk, ← hz]
  exact h
theorem p_qald {G : GX} {M : MI} {pc : Nat} {L : LL} {st : List Value} {σ σ' : SG} {r : Option Value} {i n : Nat} {f : Nat → Option Nat} {z : Int} {w : Nat} (hσ : qld G σ i n f) (h0 : 0 ≤ z) (h1 : z < (n : Int)) (hw : f z.toNat = some (ad G w)) (hd : decode M.2.1 pc = .ok (.aaload, 1)) (kk : Rn G M (pc + 1) L (rf G w :: st) σ r σ') : Rn G M pc L (vi z :: rf G i :: st) σ r σ' := by
  intro p l e s m args below meth c H locs ls C X hl
  obtain ⟨hi, hn, e1⟩ := hσ
  have h := kk p l e s m args below meth c H locs ls C X hl
  obtain ⟨hz, hk⟩ := natof h0 h1
  refine va_aldq (D := G.1) C.1 C.2.1 C.2.2.2.2.2.2.2.1 X.1 i 2 (by rw [wl_get G σ hi, e1]; rfl) rfl (vp_in_k hz hk hn) hd ?_
  rw [i32_clamp hz (by omega), hw]
  exact h
theorem p_iast {G : GX} {M : MI} {pc : Nat} {L : LL} {st : List Value} {σ σ' : SG} {r : Option Value} {σ1 : SG} {i n : Nat} {f : Int → Int} {z x : Int} (hσ : ald G σ i n f) (h0 : 0 ≤ z) (h1 : z < (n : Int)) (hs : va_up σ i (ia G n (uz f z x)) = σ1) (hd : decode M.2.1 pc = .ok (.iastore, 1)) (kk : Rn G M (pc + 1) L st σ1 r σ') : Rn G M pc L (vi x :: vi z :: rf G i :: st) σ r σ' := by
  intro p l e s m args below meth c H locs ls C X hl
  obtain ⟨hi, hn, e1⟩ := hσ
  subst hs
  obtain ⟨hz, hk⟩ := natof h0 h1
  refine va_iast (D := G.1) C.1 C.2.1 C.2.2.2.2.2.2.2.1 X.1 (wl_D C.2.2.2.2.2.2.2.2.2 σ) X.2 i 0 (by rw [wl_get G σ hi, e1]; rfl) rfl (vp_in_k hz hk hn) hd (fun H1 locs1 hP hD hS => ?_)
  rw [i32_clamp hz (by omega), ia_set G h0 h1] at hP
  have hP2 : va_P G.1 vwCl ((wl G σ).set i (ad G i, ia G n (uz f z x))) H1 := hP
  rw [wl_set G σ hi] at hP2
  exact kk p l e s m args below meth c H1 locs1 ls C ⟨hP2, hS⟩ hl
theorem p_jast {G : GX} {M : MI} {pc : Nat} {L : LL} {st : List Value} {σ σ' : SG} {r : Option Value} {σ1 : SG} {i n : Nat} {f : Int → Int} {z x : Int} (hσ : jld G σ i n f) (h0 : 0 ≤ z) (h1 : z < (n : Int)) (hs : va_up σ i (ja G n (uz f z x)) = σ1) (hd : decode M.2.1 pc = .ok (.lastore, 1)) (kk : Rn G M (pc + 1) L st σ1 r σ') : Rn G M pc L (vl x :: vi z :: rf G i :: st) σ r σ' := by
  intro p l e s m args below meth c H locs ls C X hl
  obtain ⟨hi, hn, e1⟩ := hσ
  subst hs
  obtain ⟨hz, hk⟩ := natof h0 h1
  refine va_last (D := G.1) C.1 C.2.1 C.2.2.2.2.2.2.2.1 X.1 (wl_D C.2.2.2.2.2.2.2.2.2 σ) X.2 i 1 (by rw [wl_get G σ hi, e1]; rfl) rfl (vp_in_k hz hk hn) hd (fun H1 locs1 hP hD hS => ?_)
  rw [i32_clamp hz (by omega), ja_set G h0 h1] at hP
  have hP2 : va_P G.1 vwCl ((wl G σ).set i (ad G i, ja G n (uz f z x))) H1 := hP
  rw [wl_set G σ hi] at hP2
  exact kk p l e s m args below meth c H1 locs1 ls C ⟨hP2, hS⟩ hl
theorem p_ilen {G : GX} {M : MI} {pc : Nat} {L : LL} {st : List Value} {σ σ' : SG} {r : Option Value} {i n : Nat} {f : Int → Int} (hσ : ald G σ i n f) (hd : decode M.2.1 pc = .ok (.arraylength, 1)) (kk : Rn G M (pc + 1) L (vi (n : Int) :: st) σ r σ') : Rn G M pc L (rf G i :: st) σ r σ' := by
  intro p l e s m args below meth c H locs ls C X hl
  obtain ⟨hi, hn, e1⟩ := hσ
  exact va_alen (D := G.1) (ty := .int) (v := Int32.ofInt n) C.1 C.2.1 C.2.2.2.2.2.2.2.1 X.1 i 0 (by rw [wl_get G σ hi, e1]; rfl) rfl Int32.ofInt_eq_ofNat.symm hd (kk p l e s m args below meth c H locs ls C X hl)
theorem p_qlen {G : GX} {M : MI} {pc : Nat} {L : LL} {st : List Value} {σ σ' : SG} {r : Option Value} {i n : Nat} {f : Nat → Option Nat} (hσ : qld G σ i n f) (hd : decode M.2.1 pc = .ok (.arraylength, 1)) (kk : Rn G M (pc + 1) L (vi (n : Int) :: st) σ r σ') : Rn G M pc L (rf G i :: st) σ r σ' := by
  intro p l e s m args below meth c H locs ls C X hl
  obtain ⟨hi, hn, e1⟩ := hσ
  exact va_alen (D := G.1) (ty := .object "FlockCounts$Sheet") (v := Int32.ofInt n) C.1 C.2.1 C.2.2.2.2.2.2.2.1 X.1 i 2 (by rw [wl_get G σ hi, e1]; rfl) rfl Int32.ofInt_eq_ofNat.symm hd (kk p l e s m args below meth c H locs ls C X hl)
theorem p_gsABOVE {G : GX} {M : MI} {pc : Nat} {L : LL} {st : List Value} {σ σ' : SG} {r : Option Value} {ix : Nat} (hw : Cond.fieldLink M.1.cls ix "FlockCounts$Kinds" "ABOVE" "[I" ∈ wsL) (hd : decode M.2.1 pc = .ok (.getstatic ix, 3)) (k : Rn G M (pc + 3) L (.ref (aA G) :: st) σ r σ') : Rn G M pc L (st) σ r σ' := by
  intro p l e s m args below meth c H locs ls C X hl
  exact va_gets C.1 C.2.1 C.2.2.2.2.2.2.2.2.1.1 X.2 C.2.2.2.2.1 (C.2.2.2.2.2.1 _ hw) (fun _ h => h) hd (k p l e s m args below meth c H locs ls C X hl)
theorem p_ldABOVE {G : GX} {M : MI} {pc : Nat} {L : LL} {st : List Value} {σ σ' : SG} {r : Option Value} {z : Int} (h0 : 0 ≤ z) (h1 : z < 6) (hd : decode M.2.1 pc = .ok (.iaload, 1)) (kk : Rn G M (pc + 1) L (vi (tA z) :: st) σ r σ') : Rn G M pc L (vi z :: .ref (aA G) :: st) σ r σ' := by
  intro p l e s m args below meth c H locs ls C X hl
  obtain ⟨hz, hk⟩ := natof (n := 6) h0 h1
  exact va_ti C.1 C.2.1 C.2.2.2.2.2.2.2.2.1.2.2.2.1 X.2 (vp_in_k hz hk (by omega)) (v := vi (tA z)) (by rw [i32_clamp hz (by omega)]; unfold fA; rw [← hz]) hd (kk p l e s m args below meth c H locs ls C X hl)
theorem p_gsWAKES {G : GX} {M : MI} {pc : Nat} {L : LL} {st : List Value} {σ σ' : SG} {r : Option Value} {ix : Nat} (hw : Cond.fieldLink M.1.cls ix "FlockCounts$Kinds" "WAKES" "[I" ∈ wsL) (hd : decode M.2.1 pc = .ok (.getstatic ix, 3)) (k : Rn G M (pc + 3) L (.ref (aW G) :: st) σ r σ') : Rn G M pc L (st) σ r σ' := by
  intro p l e s m args below meth c H locs ls C X hl
  exact va_gets C.1 C.2.1 C.2.2.2.2.2.2.2.2.1.2.1 X.2 C.2.2.2.2.1 (C.2.2.2.2.2.1 _ hw) (fun _ h => h) hd (k p l e s m args below meth c H locs ls C X hl)
theorem p_ldWAKES {G : GX} {M : MI} {pc : Nat} {L : LL} {st : List Value} {σ σ' : SG} {r : Option Value} {z : Int} (h0 : 0 ≤ z) (h1 : z < 6) (hd : decode M.2.1 pc = .ok (.iaload, 1)) (kk : Rn G M (pc + 1) L (vi (tW z) :: st) σ r σ') : Rn G M pc L (vi z :: .ref (aW G) :: st) σ r σ' := by
  intro p l e s m args below meth c H locs ls C X hl
  obtain ⟨hz, hk⟩ := natof (n := 6) h0 h1
  exact va_ti C.1 C.2.1 C.2.2.2.2.2.2.2.2.1.2.2.2.2.1 X.2 (vp_in_k hz hk (by omega)) (v := vi (tW z)) (by rw [i32_clamp hz (by omega)]; unfold fW; rw [← hz]) hd (kk p l e s m args below meth c H locs ls C X hl)
theorem p_gsTIRES {G : GX} {M : MI} {pc : Nat} {L : LL} {st : List Value} {σ σ' : SG} {r : Option Value} {ix : Nat} (hw : Cond.fieldLink M.1.cls ix "FlockCounts$Kinds" "TIRES" "[I" ∈ wsL) (hd : decode M.2.1 pc = .ok (.getstatic ix, 3)) (k : Rn G M (pc + 3) L (.ref (aT G) :: st) σ r σ') : Rn G M pc L (st) σ r σ' := by
  intro p l e s m args below meth c H locs ls C X hl
  exact va_gets C.1 C.2.1 C.2.2.2.2.2.2.2.2.1.2.2.1 X.2 C.2.2.2.2.1 (C.2.2.2.2.2.1 _ hw) (fun _ h => h) hd (k p l e s m args below meth c H locs ls C X hl)
theorem p_ldTIRES {G : GX} {M : MI} {pc : Nat} {L : LL} {st : List Value} {σ σ' : SG} {r : Option Value} {z : Int} (h0 : 0 ≤ z) (h1 : z < 6) (hd : decode M.2.1 pc = .ok (.iaload, 1)) (kk : Rn G M (pc + 1) L (vi (tT z) :: st) σ r σ') : Rn G M pc L (vi z :: .ref (aT G) :: st) σ r σ' := by
  intro p l e s m args below meth c H locs ls C X hl
  obtain ⟨hz, hk⟩ := natof (n := 6) h0 h1
  exact va_ti C.1 C.2.1 C.2.2.2.2.2.2.2.2.1.2.2.2.2.2.1 X.2 (vp_in_k hz hk (by omega)) (v := vi (tT z)) (by rw [i32_clamp hz (by omega)]; unfold fT; rw [← hz]) hd (kk p l e s m args below meth c H locs ls C X hl)
theorem p_gsCS {G : GX} {M : MI} {pc : Nat} {L : LL} {st : List Value} {σ σ' : SG} {r : Option Value} {ix : Nat} (hw : Cond.fieldLink M.1.cls ix "java/lang/String" "COMPACT_STRINGS" "Z" ∈ wsL) (hd : decode M.2.1 pc = .ok (.getstatic ix, 3)) (k : Rn G M (pc + 3) L (vi 1 :: st) σ r σ') : Rn G M pc L (st) σ r σ' := by
  intro p l e s m args below meth c H locs ls C X hl
  exact va_gets C.1 C.2.1 C.2.2.2.2.2.2.2.2.1.2.2.2.2.2.2.1 X.2 C.2.2.2.2.1 (C.2.2.2.2.2.1 _ hw) (fun _ h => h) hd (k p l e s m args below meth c H locs ls C X hl)
theorem p_gsSF {G : GX} {M : MI} {pc : Nat} {L : LL} {st : List Value} {σ σ' : SG} {r : Option Value} {ix : Nat} (hw : Cond.fieldLink M.1.cls ix "jdk/internal/util/Preconditions" "SIOOBE_FORMATTER" "Ljava/util/function/BiFunction;" ∈ wsL) (hd : decode M.2.1 pc = .ok (.getstatic ix, 3)) (k : ∀ v : Value, (v = .null ∨ ∃ a, v = .ref a) → Rn G M (pc + 3) L (v :: st) σ r σ') : Rn G M pc L st σ r σ' := by
  intro p l e s m args below meth c H locs ls C X hl
  rcases C.2.2.2.2.2.2.2.2.1.2.2.2.2.2.2.2.1 with h | ⟨t, h⟩
  · exact va_gets C.1 C.2.1 h X.2 C.2.2.2.2.1 (C.2.2.2.2.2.1 _ hw) (fun _ h => h) hd (k _ (Or.inl rfl) p l e s m args below meth c H locs ls C X hl)
  · exact va_gets C.1 C.2.1 h X.2 C.2.2.2.2.1 (C.2.2.2.2.2.1 _ hw) (fun _ h => h) hd (k _ (Or.inr ⟨_, rfl⟩) p l e s m args below meth c H locs ls C X hl)
theorem p_strV {G : GX} {M : MI} {pc : Nat} {L : LL} {st : List Value} {σ σ' : SG} {r : Option Value} {ix i : Nat} (hi : i < 12) (hw : Cond.fieldLink M.1.cls ix "java/lang/String" "value" "[B" ∈ wsL) (hd : decode M.2.1 pc = .ok (.getfield ix, 3)) (k : Rn G M (pc + 3) L (.ref (adV G i) :: st) σ r σ') : Rn G M pc L (.ref (adK G i) :: st) σ r σ' := by
  intro p l e s m args below meth c H locs ls C X hl
  exact vk_getf C.1 C.2.1 (C.2.2.2.2.2.2.2.2.1.2.2.2.2.2.2.2.2.1.1 i hi).2.2.1 X.2 C.2.2.2.2.1 (C.2.2.2.2.2.1 _ hw) (fun _ h => h) hd (k p l e s m args below meth c H locs ls C X hl)
theorem p_strC {G : GX} {M : MI} {pc : Nat} {L : LL} {st : List Value} {σ σ' : SG} {r : Option Value} {ix i : Nat} (hi : i < 12) (hw : Cond.fieldLink M.1.cls ix "java/lang/String" "coder" "B" ∈ wsL) (hd : decode M.2.1 pc = .ok (.getfield ix, 3)) (k : Rn G M (pc + 3) L (vi 0 :: st) σ r σ') : Rn G M pc L (.ref (adK G i) :: st) σ r σ' := by
  intro p l e s m args below meth c H locs ls C X hl
  exact vk_getf C.1 C.2.1 (C.2.2.2.2.2.2.2.2.1.2.2.2.2.2.2.2.2.1.1 i hi).2.1 X.2 C.2.2.2.2.1 (C.2.2.2.2.2.1 _ hw) (fun _ h => h) hd (k p l e s m args below meth c H locs ls C X hl)
theorem p_strL {G : GX} {M : MI} {pc : Nat} {L : LL} {st : List Value} {σ σ' : SG} {r : Option Value} {i : Nat} (hi : i < 12) (hd : decode M.2.1 pc = .ok (.arraylength, 1)) (k : Rn G M (pc + 1) L (vi ((lenJ.getD i 0 : Nat) : Int) :: st) σ r σ') : Rn G M pc L (.ref (adV G i) :: st) σ r σ' := by
  intro p l e s m args below meth c H locs ls C X hl
  exact va_tlen C.1 C.2.1 (C.2.2.2.2.2.2.2.2.1.2.2.2.2.2.2.2.2.1.1 i hi).2.2.2 X.2 (v := Int32.ofInt ((lenJ.getD i 0 : Nat) : Int)) Int32.ofInt_eq_ofNat.symm hd (k p l e s m args below meth c H locs ls C X hl)
def chJ (i : Nat) (z : Int) : Int := ((bytJ.getD i []).getD z.toNat 0).toInt
theorem lenJ_lt (i : Nat) : lenJ.getD i 0 < 7 := by
  by_cases h : i < 12
  · exact (show ∀ i, i < 12 → lenJ.getD i 0 < 7 by decide +kernel) i h
  · have : lenJ[i]? = none := by simp [lenJ]; omega
    simp [List.getD, this]
theorem p_strB {G : GX} {M : MI} {pc : Nat} {L : LL} {st : List Value} {σ σ' : SG} {r : Option Value} {i : Nat} {z : Int} (hi : i < 12) (h0 : 0 ≤ z) (h1 : z < ((lenJ.getD i 0 : Nat) : Int)) (hd : decode M.2.1 pc = .ok (.baload, 1)) (k : Rn G M (pc + 1) L (vi (chJ i z) :: st) σ r σ') : Rn G M pc L (vi z :: .ref (adV G i) :: st) σ r σ' := by
  intro p l e s m args below meth c H locs ls C X hl
  have h7 := lenJ_lt i
  obtain ⟨hz, hj⟩ := natof h0 h1
  refine va_tb C.1 C.2.1 (C.2.2.2.2.2.2.2.2.1.2.2.2.2.2.2.2.2.1.1 i hi).2.2.2 X.2 (vp_in_k hz hj (by omega)) (v := vi (chJ i z)) ?_ hd (k p l e s m args below meth c H locs ls C X hl)
  rw [i32_clamp hz (by omega)]
  exact vi_any _
theorem p_mmax {G : GX} {M : MI} {pc : Nat} {L : LL} {st : List Value} {σ σ' : SG} {r : Option Value} {ix : Nat} {a b : Int} (ha : inR a) (hb : inR b) (hw : Cond.methodLink M.1.cls ix Lib.Math.max.name ∈ wsL) (hw2 : Cond.static Lib.Math.max.name ∈ wsL) (hw3 : Cond.initialized "java/lang/Math" ∈ wsL) (hw4 : Cond.code Lib.Math.max.name Lib.Math.max.code 2 (some .int) ∈ wsL) (hfr : 1 ≤ M.2.2.2.2.1) (hlo : (st.map fun v => v.category).sum + 13 ≤ M.2.2.2.2.2) (hd : decode M.2.1 pc = .ok (.invokestatic ix, 3)) (k : Rn G M (pc + 3) L (vi (if a < b then b else a) :: st) σ r σ') : Rn G M pc L (vi b :: vi a :: st) σ r σ' := by
  intro p l e s m args below meth c H locs ls C X hl
  have h := k p l e s m args below meth c H locs ls C X hl
  have e : vi (if a < b then b else a) = .int (if Int32.ofInt a < Int32.ofInt b then Int32.ofInt b else Int32.ofInt a) := by
    by_cases q : a < b
    · rw [if_pos q, if_pos ((i32_lt ha hb).mpr q)]; rfl
    · rw [if_neg q, if_neg (fun z => q ((i32_lt ha hb).mp z))]; rfl
  rw [e] at h
  exact va_mmax C.1 C.2.1 (by rw [C.2.2.2.1]; exact hl.1.symm) C.2.2.2.2.1 (C.2.2.2.2.2.1 _ hw) (C.2.2.2.2.2.1 _ hw2) (C.2.2.2.2.2.1 _ hw3) (C.2.2.2.2.2.1 _ hw4) hfr hlo (Nat.le_refl _) (Nat.le_refl _) hd h
theorem p_mmin {G : GX} {M : MI} {pc : Nat} {L : LL} {st : List Value} {σ σ' : SG} {r : Option Value} {ix : Nat} {a b : Int} (ha : inR a) (hb : inR b) (hw : Cond.methodLink M.1.cls ix Lib.Math.min.name ∈ wsL) (hw2 : Cond.static Lib.Math.min.name ∈ wsL) (hw3 : Cond.initialized "java/lang/Math" ∈ wsL) (hw4 : Cond.code Lib.Math.min.name Lib.Math.min.code 2 (some .int) ∈ wsL) (hfr : 1 ≤ M.2.2.2.2.1) (hlo : (st.map fun v => v.category).sum + 13 ≤ M.2.2.2.2.2) (hd : decode M.2.1 pc = .ok (.invokestatic ix, 3)) (k : Rn G M (pc + 3) L (vi (if b < a then b else a) :: st) σ r σ') : Rn G M pc L (vi b :: vi a :: st) σ r σ' := by
  intro p l e s m args below meth c H locs ls C X hl
  have h := k p l e s m args below meth c H locs ls C X hl
  have e : vi (if b < a then b else a) = .int (if Int32.ofInt b < Int32.ofInt a then Int32.ofInt b else Int32.ofInt a) := by
    by_cases q : b < a
    · rw [if_pos q, if_pos ((i32_lt hb ha).mpr q)]; rfl
    · rw [if_neg q, if_neg (fun z => q ((i32_lt hb ha).mp z))]; rfl
  rw [e] at h
  exact va_mmin C.1 C.2.1 (by rw [C.2.2.2.1]; exact hl.1.symm) C.2.2.2.2.1 (C.2.2.2.2.2.1 _ hw) (C.2.2.2.2.2.1 _ hw2) (C.2.2.2.2.2.1 _ hw3) (C.2.2.2.2.2.1 _ hw4) hfr hlo (Nat.le_refl _) (Nat.le_refl _) hd h
def ML (own : String) (ix : Nat) (y : MethodName) (n : Nat) : Prop := Cond.methodLink own ix y ∈ wsL ∧ Cond.instanceMethod y ∈ wsL ∧ Cond.selects y.cls y y ∈ wsL ∧ Cond.initialized y.cls ∈ wsL ∧ (y.cls ≠ "java/lang/invoke/MethodHandle" ∧ y.cls ≠ "java/lang/invoke/VarHandle" ∧ (parseMethodDescriptor y.desc).map (fun d => d.parameters.length) = some n)
def MS (own : String) (ix : Nat) (y : MethodName) (n : Nat) : Prop := Cond.methodLink own ix y ∈ wsL ∧ Cond.static y ∈ wsL ∧ Cond.initialized y.cls ∈ wsL ∧ (y.cls ≠ "java/lang/invoke/MethodHandle" ∧ y.cls ≠ "java/lang/invoke/VarHandle" ∧ (parseMethodDescriptor y.desc).map (fun d => d.parameters.length) = some n)
def MC (M2 : MI) : Prop := Cond.code M2.1 M2.2.1 M2.2.2.1 M2.2.2.2.1 ∈ wsL
def MR (M M2 : MI) : Prop := M2.2.2.2.2.1 + 1 ≤ M.2.2.2.2.1 ∧ 8 + (M2.2.2.1 + 11) + M2.2.2.2.2.2 ≤ M.2.2.2.2.2
theorem ML.good {own : String} {ix n : Nat} {y : MethodName} {M2 : MI} (h : ML own ix y n) (e : M2.1 = y) (hc : MC M2) : GoodIn wsL (wsV own ix y.cls y (Mws M2)) := by
  refine goodIn_sub (fun w hw => ?_) (List.all_eq_true.mpr fun w hw => List.all_eq_true.mp ws_good w ?_) <;>
  · rcases List.mem_append.mp hw with q | q
    · simp only [List.mem_cons, List.not_mem_nil, or_false] at q
      rcases q with rfl | rfl | rfl | rfl
      · exact h.1
      · exact h.2.1
      · exact h.2.2.1
      · exact h.2.2.2.1
    · exact (ws_in M2 M2 hc w q).1
theorem MS.good {own : String} {ix n : Nat} {y : MethodName} {M2 : MI} (h : MS own ix y n) (e : M2.1 = y) (hc : MC M2) : GoodIn wsL (va_wsS own ix y (Mws M2)) := by
  refine goodIn_sub (fun w hw => ?_) (List.all_eq_true.mpr fun w hw => List.all_eq_true.mp ws_good w ?_) <;>
  · rcases List.mem_append.mp hw with q | q
    · simp only [List.mem_cons, List.not_mem_nil, or_false] at q
      rcases q with rfl | rfl | rfl
      · exact h.1
      · exact h.2.1
      · exact h.2.2.1
    · exact (ws_in M2 M2 hc w q).1
theorem px_blind {G : GX} {σ : SG} {av : List Value} : FrameBlind (va_Pc av (PX G σ)) := fun a U g mk q => by
  obtain ⟨q0, q1, q2, q3⟩ := q
  exact ⟨q0, q1, va_K.moved (u := U) (U := U.calling g mk a) (Vm.Alike.refl U.vm) q2, CK.same (u := U) (U := U.calling g mk a) rfl q3⟩
theorem px_at {G : GX} {M : MI} {σ : SG} {p : Program} {s : State} {m : MethodId} {args : Array Value} {meth : Method} {c : Code} {H : Heap} {locs : List Loc} (C : CX G M p s m args meth c) (X : HX G s H locs σ) {U : State} (hU : U.heap = H) (hW : s.WarmedH U.vm) : PX G σ U :=
  ⟨by rw [hU]; exact X.1, va_K.moved hW.alike C.2.2.2.2.2.2.2.1, by rw [hU]; exact (CK.kept (C.2.2.2.2.2.2.2.2.1) X.2.2.1).warm hW⟩
/-- behind a call -/
theorem w_back {p : Program} {l : Launch} {e : Env} {R : Room} {s : State} {m : MethodId} {args : Array Value} {below : List Frame} {meth : Method} {c : Code} {H : Heap} {locs : List Loc} {cells slots pc : Nat} {Q : State → Prop} {ls : Array Slot} {st0 rest : List Value} {a : Array Value} {G : GX} {A0 : Nat → Prop} {H0 : Heap} {r1 : Option Value} {σ1 : SG}
    (hr : va_Run p l e R s m args below meth c H locs cells slots 0 0 (F0 m pc ls st0) rest (QX G r1 σ1 a) (AD G)) (hS : va_S A0 H0 H locs) (hA : ∀ q, AD G q → A0 q)
    (kk : ∀ (H1 : Heap) (locs1 : List Loc), va_P G.1 vwCl (wl G σ1) H1 → va_S A0 H0 H1 locs1 → W p l e R s m args below meth c H1 locs1 cells slots Q (F0 m (pc + 3) ls (r1.toList ++ rest))) : W p l e R s m args below meth c H locs cells slots Q (F0 m pc ls st0) := by
  intro T hT X
  obtain ⟨v, st₀, t, T', L, h0, X', hL, e1, e2, ⟨hv, hP, hz, hk⟩, stp⟩ := hr T hT X
  cases hv
  rw [h0] at hz hk
  obtain ⟨t2, a1, b1⟩ := kk T'.heap (locs ++ L) (by rw [e1]; exact hP)
    ⟨Nat.le_trans hS.1 (by rw [e1]; exact hz), fun q h1 h2 => by rw [e1, hk q (Nat.lt_of_lt_of_le h1 hS.1) (fun z => h2 (hA q z))]; exact hS.2.1 q h1 h2, fun q hq => by
      rcases List.mem_append.mp hq with h | h
      · exact hS.2.2 q h
      · exact hA _ (hL q h)⟩ T' rfl X'
  exact ⟨t2, stp t2 a1, b1⟩
theorem p_callVG {G : GX} {M : MI} {pc : Nat} {L : LL} {st : List Value} {σ σ' : SG} {r : Option Value} {M2 : MI} {ix n i ci : Nat} {As : List Value} {r1 : Option Value} {σ1 : SG} {st0 st1 : List Value} {fs : List Value} (hm : ML M.1.cls ix M2.1 n) (hc : MC M2) (hR : MR M M2) (hi : i < NC) (hσ : σ i = .inr (ci, fs)) (hci : ∃ T N, vwCl[ci]? = some (M2.1.cls, T, N)) (hn : As.length = n) (hw8 : (st.map fun v => v.category).sum ≤ 8) (hs0 : st0 = As.reverse ++ rf G i :: st) (hs1 : r1.toList ++ st = st1) (hd : decode M.2.1 pc = .ok (.invokevirtual ix, 3)) (he : Ev G M2 (rf G i :: As) σ r1 σ1) (k : Rn G M (pc + 3) L st1 σ1 r σ') : Rn G M pc L st0 σ r σ' := by
  intro p l e s m args below meth c H locs ls C X hl
  obtain ⟨T0, N0, hci⟩ := hci
  subst hs1
  have hrecv : ∃ cell : Cell, H[ad G i]? = some cell ∧ cell.vm.isStatics = false ∧ s.vm.findClass M2.1.cls = some cell.cls := va_recv C.2.2.2.2.2.2.2.1 X.1 (ci := ci) (q0 := i) hci (by rw [wl_get G σ hi, hσ])
  refine w_back (va_runV (As := As) (rest := st) ⟨C.1, C.2.1, C.2.2.2.1, C.2.2.2.2.1, C.2.2.2.2.2.1⟩ (he C.2.2.2.2.2.2.2.2.2 l) (cwV n C.2.2.2.2.2.1 (ML.good hm rfl hc) rfl rfl rfl ⟨rfl, hm.2.2.2.2⟩ hR) ⟨px_blind, hrecv, fun U hU hW => ⟨rfl, px_at C X hU hW⟩⟩ rfl hn hl.1 hs0 (lv_room hw8) hd ⟨Nat.le_refl _, Nat.le_refl _⟩) X.2 (fun q h => h) (fun H1 locs1 hP hS => ?_)
  exact k p l e s m args below meth c H1 locs1 ls C ⟨hP, hS⟩ hl
theorem p_callSG {G : GX} {M : MI} {pc : Nat} {L : LL} {st : List Value} {σ σ' : SG} {r : Option Value} {M2 : MI} {ix n : Nat} {As : List Value} {r1 : Option Value} {σ1 : SG} {st0 st1 : List Value} (hm : MS M.1.cls ix M2.1 n) (hc : MC M2) (hR : MR M M2) (hn : As.length = n) (hw8 : (st.map fun v => v.category).sum ≤ 8) (hs0 : st0 = As.reverse ++ st) (hs1 : r1.toList ++ st = st1) (hd : decode M.2.1 pc = .ok (.invokestatic ix, 3)) (he : Ev G M2 As σ r1 σ1) (k : Rn G M (pc + 3) L st1 σ1 r σ') : Rn G M pc L st0 σ r σ' := by
  intro p l e s m args below meth c H locs ls C X hl
  subst hs1
  refine w_back (va_runS (As := As) (rest := st) ⟨C.1, C.2.1, C.2.2.2.1, C.2.2.2.2.1, C.2.2.2.2.2.1⟩ (he C.2.2.2.2.2.2.2.2.2 l) (va_cwS n C.2.2.2.2.2.1 (MS.good hm rfl hc) rfl rfl rfl hm.2.2.2 hR) ⟨px_blind, fun U hU hW => ⟨rfl, px_at C X hU hW⟩⟩ rfl hn hl.1 hs0 (lv_room hw8) hd ⟨Nat.le_refl _, Nat.le_refl _⟩) X.2 (fun q h => h) (fun H1 locs1 hP hS => ?_)
  exact k p l e s m args below meth c H1 locs1 ls C ⟨hP, hS⟩ hl
theorem p_callKG {G : GX} {M : MI} {pc : Nat} {L : LL} {st : List Value} {σ σ' : SG} {r : Option Value} {M2 : MI} {ix n i : Nat} {As : List Value} {r1 : Option Value} {σ1 : SG} {st0 st1 : List Value} (hm : ML M.1.cls ix M2.1 n) (hc : MC M2) (hR : MR M M2) (hi : i < 12) (hcs : M2.1.cls = "java/lang/String") (hn : As.length = n) (hw8 : (st.map fun v => v.category).sum ≤ 8) (hs0 : st0 = As.reverse ++ .ref (adK G i) :: st) (hs1 : r1.toList ++ st = st1) (hd : decode M.2.1 pc = .ok (.invokevirtual ix, 3)) (he : Ev G M2 (.ref (adK G i) :: As) σ r1 σ1) (k : Rn G M (pc + 3) L st1 σ1 r σ') : Rn G M pc L st0 σ r σ' := by
  intro p l e s m args below meth c H locs ls C X hl
  subst hs1
  have hrecv : ∃ cell : Cell, H[adK G i]? = some cell ∧ cell.vm.isStatics = false ∧ s.vm.findClass M2.1.cls = some cell.cls := by rw [hcs]; exact vk_recv C.2.2.2.2.2.2.2.2.1.2.2.2.2.2.2.2.2.1 hi X.2
  refine w_back (va_runV (As := As) (rest := st) ⟨C.1, C.2.1, C.2.2.2.1, C.2.2.2.2.1, C.2.2.2.2.2.1⟩ (he C.2.2.2.2.2.2.2.2.2 l) (cwV n C.2.2.2.2.2.1 (ML.good hm rfl hc) rfl rfl rfl ⟨rfl, hm.2.2.2.2⟩ hR) ⟨px_blind, hrecv, fun U hU hW => ⟨rfl, px_at C X hU hW⟩⟩ rfl hn hl.1 hs0 (lv_room hw8) hd ⟨Nat.le_refl _, Nat.le_refl _⟩) X.2 (fun q h => h) (fun H1 locs1 hP hS => ?_)
  exact k p l e s m args below meth c H1 locs1 ls C ⟨hP, hS⟩ hl
def isO (σ : SG) (i : Nat) (cn : String) : Prop := i < NC ∧ ∃ ci fs T N, σ i = .inr (ci, fs) ∧ vwCl[ci]? = some (cn, T, N)
theorem p_cV0v {G : GX} {M : MI} {pc : Nat} {L : LL} {st : List Value} {σ σ' : SG} {r : Option Value} {M2 : MI} {ix i : Nat} {σ1 : SG} (hm : ML M.1.cls ix M2.1 0) (hc : MC M2) (hR : MR M M2) (hO : isO σ i M2.1.cls) (hw8 : (st.map fun v => v.category).sum ≤ 8) (hd : decode M.2.1 pc = .ok (.invokevirtual ix, 3)) (he : Ev G M2 (rf G i :: []) σ none σ1) (k : Rn G M (pc + 3) L st σ1 r σ') : Rn G M pc L (rf G i :: st) σ r σ' := by
  obtain ⟨hi, ci, fs, T, N, h1, h2⟩ := hO
  exact p_callVG hm hc hR hi h1 ⟨T, N, h2⟩ rfl hw8 rfl rfl hd he k
theorem p_cS0v {G : GX} {M : MI} {pc : Nat} {L : LL} {st : List Value} {σ σ' : SG} {r : Option Value} {M2 : MI} {ix : Nat} {σ1 : SG} (hm : MS M.1.cls ix M2.1 0) (hc : MC M2) (hR : MR M M2) (hw8 : (st.map fun v => v.category).sum ≤ 8) (hd : decode M.2.1 pc = .ok (.invokestatic ix, 3)) (he : Ev G M2 [] σ none σ1) (k : Rn G M (pc + 3) L st σ1 r σ') : Rn G M pc L (st) σ r σ' := p_callSG hm hc hR rfl hw8 rfl rfl hd he k
theorem p_cK0v {G : GX} {M : MI} {pc : Nat} {L : LL} {st : List Value} {σ σ' : SG} {r : Option Value} {M2 : MI} {ix i : Nat} {σ1 : SG} (hi : i < 12) (hm : ML M.1.cls ix M2.1 0) (hc : MC M2) (hR : MR M M2) (hcs : M2.1.cls = "java/lang/String") (hw8 : (st.map fun v => v.category).sum ≤ 8) (hd : decode M.2.1 pc = .ok (.invokevirtual ix, 3)) (he : Ev G M2 (.ref (adK G i) :: []) σ none σ1) (k : Rn G M (pc + 3) L st σ1 r σ') : Rn G M pc L (.ref (adK G i) :: st) σ r σ' := p_callKG hm hc hR hi hcs rfl hw8 rfl rfl hd he k
theorem p_cV0r {G : GX} {M : MI} {pc : Nat} {L : LL} {st : List Value} {σ σ' : SG} {r : Option Value} {M2 : MI} {ix i : Nat} {v1 : Value} {σ1 : SG} (hm : ML M.1.cls ix M2.1 0) (hc : MC M2) (hR : MR M M2) (hO : isO σ i M2.1.cls) (hw8 : (st.map fun v => v.category).sum ≤ 8) (hd : decode M.2.1 pc = .ok (.invokevirtual ix, 3)) (he : Ev G M2 (rf G i :: []) σ (some v1) σ1) (k : Rn G M (pc + 3) L (v1 :: st) σ1 r σ') : Rn G M pc L (rf G i :: st) σ r σ' := by
  obtain ⟨hi, ci, fs, T, N, h1, h2⟩ := hO
  exact p_callVG hm hc hR hi h1 ⟨T, N, h2⟩ rfl hw8 rfl rfl hd he k
theorem p_cS0r {G : GX} {M : MI} {pc : Nat} {L : LL} {st : List Value} {σ σ' : SG} {r : Option Value} {M2 : MI} {ix : Nat} {v1 : Value} {σ1 : SG} (hm : MS M.1.cls ix M2.1 0) (hc : MC M2) (hR : MR M M2) (hw8 : (st.map fun v => v.category).sum ≤ 8) (hd : decode M.2.1 pc = .ok (.invokestatic ix, 3)) (he : Ev G M2 [] σ (some v1) σ1) (k : Rn G M (pc + 3) L (v1 :: st) σ1 r σ') : Rn G M pc L (st) σ r σ' := p_callSG hm hc hR rfl hw8 rfl rfl hd he k
theorem p_cK0r {G : GX} {M : MI} {pc : Nat} {L : LL} {st : List Value} {σ σ' : SG} {r : Option Value} {M2 : MI} {ix i : Nat} {v1 : Value} {σ1 : SG} (hi : i < 12) (hm : ML M.1.cls ix M2.1 0) (hc : MC M2) (hR : MR M M2) (hcs : M2.1.cls = "java/lang/String") (hw8 : (st.map fun v => v.category).sum ≤ 8) (hd : decode M.2.1 pc = .ok (.invokevirtual ix, 3)) (he : Ev G M2 (.ref (adK G i) :: []) σ (some v1) σ1) (k : Rn G M (pc + 3) L (v1 :: st) σ1 r σ') : Rn G M pc L (.ref (adK G i) :: st) σ r σ' := p_callKG hm hc hR hi hcs rfl hw8 rfl rfl hd he k
theorem p_cV1v {G : GX} {M : MI} {pc : Nat} {L : LL} {st : List Value} {σ σ' : SG} {r : Option Value} {M2 : MI} {ix i : Nat} {b0 : Value} {σ1 : SG} (hm : ML M.1.cls ix M2.1 1) (hc : MC M2) (hR : MR M M2) (hO : isO σ i M2.1.cls) (hw8 : (st.map fun v => v.category).sum ≤ 8) (hd : decode M.2.1 pc = .ok (.invokevirtual ix, 3)) (he : Ev G M2 (rf G i :: [b0]) σ none σ1) (k : Rn G M (pc + 3) L st σ1 r σ') : Rn G M pc L (b0 :: rf G i :: st) σ r σ' := by
  obtain ⟨hi, ci, fs, T, N, h1, h2⟩ := hO
  exact p_callVG hm hc hR hi h1 ⟨T, N, h2⟩ rfl hw8 rfl rfl hd he k
theorem p_cS1v {G : GX} {M : MI} {pc : Nat} {L : LL} {st : List Value} {σ σ' : SG} {r : Option Value} {M2 : MI} {ix : Nat} {b0 : Value} {σ1 : SG} (hm : MS M.1.cls ix M2.1 1) (hc : MC M2) (hR : MR M M2) (hw8 : (st.map fun v => v.category).sum ≤ 8) (hd : decode M.2.1 pc = .ok (.invokestatic ix, 3)) (he : Ev G M2 [b0] σ none σ1) (k : Rn G M (pc + 3) L st σ1 r σ') : Rn G M pc L (b0 :: st) σ r σ' := p_callSG hm hc hR rfl hw8 rfl rfl hd he k
theorem p_cK1v {G : GX} {M : MI} {pc : Nat} {L : LL} {st : List Value} {σ σ' : SG} {r : Option Value} {M2 : MI} {ix i : Nat} {b0 : Value} {σ1 : SG} (hi : i < 12) (hm : ML M.1.cls ix M2.1 1) (hc : MC M2) (hR : MR M M2) (hcs : M2.1.cls = "java/lang/String") (hw8 : (st.map fun v => v.category).sum ≤ 8) (hd : decode M.2.1 pc = .ok (.invokevirtual ix, 3)) (he : Ev G M2 (.ref (adK G i) :: [b0]) σ none σ1) (k : Rn G M (pc + 3) L st σ1 r σ') : Rn G M pc L (b0 :: .ref (adK G i) :: st) σ r σ' := p_callKG hm hc hR hi hcs rfl hw8 rfl rfl hd he k
theorem p_cV1r {G : GX} {M : MI} {pc : Nat} {L : LL} {st : List Value} {σ σ' : SG} {r : Option Value} {M2 : MI} {ix i : Nat} {b0 : Value} {v1 : Value} {σ1 : SG} (hm : ML M.1.cls ix M2.1 1) (hc : MC M2) (hR : MR M M2) (hO : isO σ i M2.1.cls) (hw8 : (st.map fun v => v.category).sum ≤ 8) (hd : decode M.2.1 pc = .ok (.invokevirtual ix, 3)) (he : Ev G M2 (rf G i :: [b0]) σ (some v1) σ1) (k : Rn G M (pc + 3) L (v1 :: st) σ1 r σ') : Rn G M pc L (b0 :: rf G i :: st) σ r σ' := by
  obtain ⟨hi, ci, fs, T, N, h1, h2⟩ := hO
  exact p_callVG hm hc hR hi h1 ⟨T, N, h2⟩ rfl hw8 rfl rfl hd he k
theorem p_cS1r {G : GX} {M : MI} {pc : Nat} {L : LL} {st : List Value} {σ σ' : SG} {r : Option Value} {M2 : MI} {ix : Nat} {b0 : Value} {v1 : Value} {σ1 : SG} (hm : MS M.1.cls ix M2.1 1) (hc : MC M2) (hR : MR M M2) (hw8 : (st.map fun v => v.category).sum ≤ 8) (hd : decode M.2.1 pc = .ok (.invokestatic ix, 3)) (he : Ev G M2 [b0] σ (some v1) σ1) (k : Rn G M (pc + 3) L (v1 :: st) σ1 r σ') : Rn G M pc L (b0 :: st) σ r σ' := p_callSG hm hc hR rfl hw8 rfl rfl hd he k
theorem p_cK1r {G : GX} {M : MI} {pc : Nat} {L : LL} {st : List Value} {σ σ' : SG} {r : Option Value} {M2 : MI} {ix i : Nat} {b0 : Value} {v1 : Value} {σ1 : SG} (hi : i < 12) (hm : ML M.1.cls ix M2.1 1) (hc : MC M2) (hR : MR M M2) (hcs : M2.1.cls = "java/lang/String") (hw8 : (st.map fun v => v.category).sum ≤ 8) (hd : decode M.2.1 pc = .ok (.invokevirtual ix, 3)) (he : Ev G M2 (.ref (adK G i) :: [b0]) σ (some v1) σ1) (k : Rn G M (pc + 3) L (v1 :: st) σ1 r σ') : Rn G M pc L (b0 :: .ref (adK G i) :: st) σ r σ' := p_callKG hm hc hR hi hcs rfl hw8 rfl rfl hd he k
theorem p_cV2v {G : GX} {M : MI} {pc : Nat} {L : LL} {st : List Value} {σ σ' : SG} {r : Option Value} {M2 : MI} {ix i : Nat} {b0 b1 : Value} {σ1 : SG} (hm : ML M.1.cls ix M2.1 2) (hc : MC M2) (hR : MR M M2) (hO : isO σ i M2.1.cls) (hw8 : (st.map fun v => v.category).sum ≤ 8) (hd : decode M.2.1 pc = .ok (.invokevirtual ix, 3)) (he : Ev G M2 (rf G i :: [b0, b1]) σ none σ1) (k : Rn G M (pc + 3) L st σ1 r σ') : Rn G M pc L (b1 :: b0 :: rf G i :: st) σ r σ' := by
  obtain ⟨hi, ci, fs, T, N, h1, h2⟩ := hO
  exact p_callVG hm hc hR hi h1 ⟨T, N, h2⟩ rfl hw8 rfl rfl hd he k
theorem p_cS2v {G : GX} {M : MI} {pc : Nat} {L : LL} {st : List Value} {σ σ' : SG} {r : Option Value} {M2 : MI} {ix : Nat} {b0 b1 : Value} {σ1 : SG} (hm : MS M.1.cls ix M2.1 2) (hc : MC M2) (hR : MR M M2) (hw8 : (st.map fun v => v.category).sum ≤ 8) (hd : decode M.2.1 pc = .ok (.invokestatic ix, 3)) (he : Ev G M2 [b0, b1] σ none σ1) (k : Rn G M (pc + 3) L st σ1 r σ') : Rn G M pc L (b1 :: b0 :: st) σ r σ' := p_callSG hm hc hR rfl hw8 rfl rfl hd he k
theorem p_cV2r {G : GX} {M : MI} {pc : Nat} {L : LL} {st : List Value} {σ σ' : SG} {r : Option Value} {M2 : MI} {ix i : Nat} {b0 b1 : Value} {v1 : Value} {σ1 : SG} (hm : ML M.1.cls ix M2.1 2) (hc : MC M2) (hR : MR M M2) (hO : isO σ i M2.1.cls) (hw8 : (st.map fun v => v.category).sum ≤ 8) (hd : decode M.2.1 pc = .ok (.invokevirtual ix, 3)) (he : Ev G M2 (rf G i :: [b0, b1]) σ (some v1) σ1) (k : Rn G M (pc + 3) L (v1 :: st) σ1 r σ') : Rn G M pc L (b1 :: b0 :: rf G i :: st) σ r σ' := by
  obtain ⟨hi, ci, fs, T, N, h1, h2⟩ := hO
  exact p_callVG hm hc hR hi h1 ⟨T, N, h2⟩ rfl hw8 rfl rfl hd he k
theorem p_cS2r {G : GX} {M : MI} {pc : Nat} {L : LL} {st : List Value} {σ σ' : SG} {r : Option Value} {M2 : MI} {ix : Nat} {b0 b1 : Value} {v1 : Value} {σ1 : SG} (hm : MS M.1.cls ix M2.1 2) (hc : MC M2) (hR : MR M M2) (hw8 : (st.map fun v => v.category).sum ≤ 8) (hd : decode M.2.1 pc = .ok (.invokestatic ix, 3)) (he : Ev G M2 [b0, b1] σ (some v1) σ1) (k : Rn G M (pc + 3) L (v1 :: st) σ1 r σ') : Rn G M pc L (b1 :: b0 :: st) σ r σ' := p_callSG hm hc hR rfl hw8 rfl rfl hd he k
theorem p_cV3v {G : GX} {M : MI} {pc : Nat} {L : LL} {st : List Value} {σ σ' : SG} {r : Option Value} {M2 : MI} {ix i : Nat} {b0 b1 b2 : Value} {σ1 : SG} (hm : ML M.1.cls ix M2.1 3) (hc : MC M2) (hR : MR M M2) (hO : isO σ i M2.1.cls) (hw8 : (st.map fun v => v.category).sum ≤ 8) (hd : decode M.2.1 pc = .ok (.invokevirtual ix, 3)) (he : Ev G M2 (rf G i :: [b0, b1, b2]) σ none σ1) (k : Rn G M (pc + 3) L st σ1 r σ') : Rn G M pc L (b2 :: b1 :: b0 :: rf G i :: st) σ r σ' := by
  obtain ⟨hi, ci, fs, T, N, h1, h2⟩ := hO
  exact p_callVG hm hc hR hi h1 ⟨T, N, h2⟩ rfl hw8 rfl rfl hd he k
theorem p_cS3v {G : GX} {M : MI} {pc : Nat} {L : LL} {st : List Value} {σ σ' : SG} {r : Option Value} {M2 : MI} {ix : Nat} {b0 b1 b2 : Value} {σ1 : SG} (hm : MS M.1.cls ix M2.1 3) (hc : MC M2) (hR : MR M M2) (hw8 : (st.map fun v => v.category).sum ≤ 8) (hd : decode M.2.1 pc = .ok (.invokestatic ix, 3)) (he : Ev G M2 [b0, b1, b2] σ none σ1) (k : Rn G M (pc + 3) L st σ1 r σ') : Rn G M pc L (b2 :: b1 :: b0 :: st) σ r σ' := p_callSG hm hc hR rfl hw8 rfl rfl hd he k
theorem p_cV3r {G : GX} {M : MI} {pc : Nat} {L : LL} {st : List Value} {σ σ' : SG} {r : Option Value} {M2 : MI} {ix i : Nat} {b0 b1 b2 : Value} {v1 : Value} {σ1 : SG} (hm : ML M.1.cls ix M2.1 3) (hc : MC M2) (hR : MR M M2) (hO : isO σ i M2.1.cls) (hw8 : (st.map fun v => v.category).sum ≤ 8) (hd : decode M.2.1 pc = .ok (.invokevirtual ix, 3)) (he : Ev G M2 (rf G i :: [b0, b1, b2]) σ (some v1) σ1) (k : Rn G M (pc + 3) L (v1 :: st) σ1 r σ') : Rn G M pc L (b2 :: b1 :: b0 :: rf G i :: st) σ r σ' := by
  obtain ⟨hi, ci, fs, T, N, h1, h2⟩ := hO
  exact p_callVG hm hc hR hi h1 ⟨T, N, h2⟩ rfl hw8 rfl rfl hd he k
theorem p_cS3r {G : GX} {M : MI} {pc : Nat} {L : LL} {st : List Value} {σ σ' : SG} {r : Option Value} {M2 : MI} {ix : Nat} {b0 b1 b2 : Value} {v1 : Value} {σ1 : SG} (hm : MS M.1.cls ix M2.1 3) (hc : MC M2) (hR : MR M M2) (hw8 : (st.map fun v => v.category).sum ≤ 8) (hd : decode M.2.1 pc = .ok (.invokestatic ix, 3)) (he : Ev G M2 [b0, b1, b2] σ (some v1) σ1) (k : Rn G M (pc + 3) L (v1 :: st) σ1 r σ') : Rn G M pc L (b2 :: b1 :: b0 :: st) σ r σ' := p_callSG hm hc hR rfl hw8 rfl rfl hd he k
theorem p_cV4v {G : GX} {M : MI} {pc : Nat} {L : LL} {st : List Value} {σ σ' : SG} {r : Option Value} {M2 : MI} {ix i : Nat} {b0 b1 b2 b3 : Value} {σ1 : SG} (hm : ML M.1.cls ix M2.1 4) (hc : MC M2) (hR : MR M M2) (hO : isO σ i M2.1.cls) (hw8 : (st.map fun v => v.category).sum ≤ 8) (hd : decode M.2.1 pc = .ok (.invokevirtual ix, 3)) (he : Ev G M2 (rf G i :: [b0, b1, b2, b3]) σ none σ1) (k : Rn G M (pc + 3) L st σ1 r σ') : Rn G M pc L (b3 :: b2 :: b1 :: b0 :: rf G i :: st) σ r σ' := by
  obtain ⟨hi, ci, fs, T, N, h1, h2⟩ := hO
  exact p_callVG hm hc hR hi h1 ⟨T, N, h2⟩ rfl hw8 rfl rfl hd he k
theorem p_cS4v {G : GX} {M : MI} {pc : Nat} {L : LL} {st : List Value} {σ σ' : SG} {r : Option Value} {M2 : MI} {ix : Nat} {b0 b1 b2 b3 : Value} {σ1 : SG} (hm : MS M.1.cls ix M2.1 4) (hc : MC M2) (hR : MR M M2) (hw8 : (st.map fun v => v.category).sum ≤ 8) (hd : decode M.2.1 pc = .ok (.invokestatic ix, 3)) (he : Ev G M2 [b0, b1, b2, b3] σ none σ1) (k : Rn G M (pc + 3) L st σ1 r σ') : Rn G M pc L (b3 :: b2 :: b1 :: b0 :: st) σ r σ' := p_callSG hm hc hR rfl hw8 rfl rfl hd he k
theorem p_cV4r {G : GX} {M : MI} {pc : Nat} {L : LL} {st : List Value} {σ σ' : SG} {r : Option Value} {M2 : MI} {ix i : Nat} {b0 b1 b2 b3 : Value} {v1 : Value} {σ1 : SG} (hm : ML M.1.cls ix M2.1 4) (hc : MC M2) (hR : MR M M2) (hO : isO σ i M2.1.cls) (hw8 : (st.map fun v => v.category).sum ≤ 8) (hd : decode M.2.1 pc = .ok (.invokevirtual ix, 3)) (he : Ev G M2 (rf G i :: [b0, b1, b2, b3]) σ (some v1) σ1) (k : Rn G M (pc + 3) L (v1 :: st) σ1 r σ') : Rn G M pc L (b3 :: b2 :: b1 :: b0 :: rf G i :: st) σ r σ' := by
  obtain ⟨hi, ci, fs, T, N, h1, h2⟩ := hO
  exact p_callVG hm hc hR hi h1 ⟨T, N, h2⟩ rfl hw8 rfl rfl hd he k
theorem p_cS4r {G : GX} {M : MI} {pc : Nat} {L : LL} {st : List Value} {σ σ' : SG} {r : Option Value} {M2 : MI} {ix : Nat} {b0 b1 b2 b3 : Value} {v1 : Value} {σ1 : SG} (hm : MS M.1.cls ix M2.1 4) (hc : MC M2) (hR : MR M M2) (hw8 : (st.map fun v => v.category).sum ≤ 8) (hd : decode M.2.1 pc = .ok (.invokestatic ix, 3)) (he : Ev G M2 [b0, b1, b2, b3] σ (some v1) σ1) (k : Rn G M (pc + 3) L (v1 :: st) σ1 r σ') : Rn G M pc L (b3 :: b2 :: b1 :: b0 :: st) σ r σ' := p_callSG hm hc hR rfl hw8 rfl rfl hd he k
theorem p_cV5v {G : GX} {M : MI} {pc : Nat} {L : LL} {st : List Value} {σ σ' : SG} {r : Option Value} {M2 : MI} {ix i : Nat} {b0 b1 b2 b3 b4 : Value} {σ1 : SG} (hm : ML M.1.cls ix M2.1 5) (hc : MC M2) (hR : MR M M2) (hO : isO σ i M2.1.cls) (hw8 : (st.map fun v => v.category).sum ≤ 8) (hd : decode M.2.1 pc = .ok (.invokevirtual ix, 3)) (he : Ev G M2 (rf G i :: [b0, b1, b2, b3, b4]) σ none σ1) (k : Rn G M (pc + 3) L st σ1 r σ') : Rn G M pc L (b4 :: b3 :: b2 :: b1 :: b0 :: rf G i :: st) σ r σ' := by
  obtain ⟨hi, ci, fs, T, N, h1, h2⟩ := hO
  exact p_callVG hm hc hR hi h1 ⟨T, N, h2⟩ rfl hw8 rfl rfl hd he k
theorem p_cS5v {G : GX} {M : MI} {pc : Nat} {L : LL} {st : List Value} {σ σ' : SG} {r : Option Value} {M2 : MI} {ix : Nat} {b0 b1 b2 b3 b4 : Value} {σ1 : SG} (hm : MS M.1.cls ix M2.1 5) (hc : MC M2) (hR : MR M M2) (hw8 : (st.map fun v => v.category).sum ≤ 8) (hd : decode M.2.1 pc = .ok (.invokestatic ix, 3)) (he : Ev G M2 [b0, b1, b2, b3, b4] σ none σ1) (k : Rn G M (pc + 3) L st σ1 r σ') : Rn G M pc L (b4 :: b3 :: b2 :: b1 :: b0 :: st) σ r σ' := p_callSG hm hc hR rfl hw8 rfl rfl hd he k
theorem p_cV5r {G : GX} {M : MI} {pc : Nat} {L : LL} {st : List Value} {σ σ' : SG} {r : Option Value} {M2 : MI} {ix i : Nat} {b0 b1 b2 b3 b4 : Value} {v1 : Value} {σ1 : SG} (hm : ML M.1.cls ix M2.1 5) (hc : MC M2) (hR : MR M M2) (hO : isO σ i M2.1.cls) (hw8 : (st.map fun v => v.category).sum ≤ 8) (hd : decode M.2.1 pc = .ok (.invokevirtual ix, 3)) (he : Ev G M2 (rf G i :: [b0, b1, b2, b3, b4]) σ (some v1) σ1) (k : Rn G M (pc + 3) L (v1 :: st) σ1 r σ') : Rn G M pc L (b4 :: b3 :: b2 :: b1 :: b0 :: rf G i :: st) σ r σ' := by
  obtain ⟨hi, ci, fs, T, N, h1, h2⟩ := hO
  exact p_callVG hm hc hR hi h1 ⟨T, N, h2⟩ rfl hw8 rfl rfl hd he k
theorem p_cS5r {G : GX} {M : MI} {pc : Nat} {L : LL} {st : List Value} {σ σ' : SG} {r : Option Value} {M2 : MI} {ix : Nat} {b0 b1 b2 b3 b4 : Value} {v1 : Value} {σ1 : SG} (hm : MS M.1.cls ix M2.1 5) (hc : MC M2) (hR : MR M M2) (hw8 : (st.map fun v => v.category).sum ≤ 8) (hd : decode M.2.1 pc = .ok (.invokestatic ix, 3)) (he : Ev G M2 [b0, b1, b2, b3, b4] σ (some v1) σ1) (k : Rn G M (pc + 3) L (v1 :: st) σ1 r σ') : Rn G M pc L (b4 :: b3 :: b2 :: b1 :: b0 :: st) σ r σ' := p_callSG hm hc hR rfl hw8 rfl rfl hd he k
