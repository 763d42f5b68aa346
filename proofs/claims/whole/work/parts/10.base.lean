/-! THE LAYER: a judgement Rn over the kit's W, with numbers as integers, all cells of the system in one store σ by their indices, and one word list for all methods -/
def vi (z : Int) : Value := .int (Int32.ofInt z)
def vl (z : Int) : Value := .long (Int64.ofInt z)
def inR (z : Int) : Prop := -2147483648 ≤ z ∧ z ≤ 2147483647
def inL (z : Int) : Prop := -9223372036854775808 ≤ z ∧ z ≤ 9223372036854775807
theorem i32_toInt {z : Int} (h : inR z) : (Int32.ofInt z).toInt = z := Int32.toInt_ofInt_of_le (by have := h.1; omega) (by have := h.2; omega)
theorem i64_toInt {z : Int} (h : inL z) : (Int64.ofInt z).toInt = z := Int64.toInt_ofInt_of_le (by have := h.1; omega) (by have := h.2; omega)
theorem i32_eq {a b : Int} (ha : inR a) (hb : inR b) : Int32.ofInt a = Int32.ofInt b ↔ a = b := by
  rw [← Int32.toInt_inj, i32_toInt ha, i32_toInt hb]
theorem i32_lt {a b : Int} (ha : inR a) (hb : inR b) : Int32.ofInt a < Int32.ofInt b ↔ a < b := by
  rw [Int32.lt_iff_toInt_lt, i32_toInt ha, i32_toInt hb]
theorem i32_le {a b : Int} (ha : inR a) (hb : inR b) : Int32.ofInt a ≤ Int32.ofInt b ↔ a ≤ b := by
  rw [Int32.le_iff_toInt_le, i32_toInt ha, i32_toInt hb]
theorem i64_eq {a b : Int} (ha : inL a) (hb : inL b) : Int64.ofInt a = Int64.ofInt b ↔ a = b := by
  rw [← Int64.toInt_inj, i64_toInt ha, i64_toInt hb]
theorem i64_lt {a b : Int} (ha : inL a) (hb : inL b) : Int64.ofInt a < Int64.ofInt b ↔ a < b := by
  rw [Int64.lt_iff_toInt_lt, i64_toInt ha, i64_toInt hb]
theorem i32_z : (0 : Int32) = Int32.ofInt 0 := rfl
theorem inR0 : inR 0 := by constructor <;> omega
theorem inR_any (x : Int32) : inR x.toInt := ⟨Int32.le_toInt x, by have := Int32.toInt_lt x; omega⟩
theorem inL_any (x : Int64) : inL x.toInt := ⟨Int64.le_toInt x, by have := Int64.toInt_lt x; omega⟩
theorem vi_any (x : Int32) : Value.int x = vi x.toInt := by rw [vi, Int32.ofInt_toInt]
theorem vl_any (x : Int64) : Value.long x = vl x.toInt := by rw [vl, Int64.ofInt_toInt]
/-- locals by their places -/
abbrev LL : Type := List (Option Value)
def al : Nat → LL → List (Nat × Value)
  | _, [] => []
  | i, none :: t => al (i + 1) t
  | i, some v :: t => (i, v) :: al (i + 1) t
theorem al_mem {v : Value} {j : Nat} : ∀ (L : LL) (i : Nat), (j, v) ∈ al i L ↔ ∃ k, j = i + k ∧ L[k]? = some (some v) := by
  intro L
  induction L with
  | nil => intro i; simp [al]
  | cons a t ih =>
    intro i
    cases a with
    | none =>
      rw [al, ih]
      constructor
      · rintro ⟨k, h1, h2⟩; exact ⟨k + 1, by omega, by simpa using h2⟩
      · rintro ⟨k, h1, h2⟩
        cases k with
        | zero => simp at h2
        | succ k => exact ⟨k, by omega, by simpa using h2⟩
    | some w =>
      rw [al, List.mem_cons, ih]
      constructor
      · rintro (h | ⟨k, h1, h2⟩)
        · obtain ⟨h1, h2⟩ := Prod.mk.inj h; exact ⟨0, by omega, by simp [h2]⟩
        · exact ⟨k + 1, by omega, by simpa using h2⟩
      · rintro ⟨k, h1, h2⟩
        cases k with
        | zero => left; simp at h2; rw [h2, h1]; rfl
        | succ k => right; exact ⟨k, by omega, by simpa using h2⟩
def LH (ls : Array Slot) (nL : Nat) (L : LL) : Prop := lv_has ls nL (al 0 L)
theorem LH.at {ls : Array Slot} {nL : Nat} {L : LL} (h : LH ls nL L) {k : Nat} {v : Value} (hk : L[k]? = some (some v)) : ls[k]? = some (.val v) :=
  h.2.2 (k, v) ((al_mem L 0).mpr ⟨k, by omega, hk⟩)
theorem LH.mono {ls : Array Slot} {nL : Nat} {L L' : LL} (h : LH ls nL L) (hs : ∀ (k : Nat) (v : Value), L'[k]? = some (some v) → L[k]? = some (some v)) : LH ls nL L' :=
  ⟨h.1, h.2.1, fun q hq => by
    obtain ⟨i, v⟩ := q
    obtain ⟨k, h1, h2⟩ := (al_mem L' 0).mp hq
    exact h.2.2 (i, v) ((al_mem L 0).mpr ⟨k, h1, hs k v h2⟩)⟩
/-- no long ends in this place -/
def ocat (a : Option Value) : Bool := match a with
  | none => true
  | some v => v.category == 1
def pcat (L : LL) (i : Nat) : Prop := ∀ j w, i = j + 1 → L[j]? = some (some w) → w.category = 1
theorem cat_or (v : Value) : v.category = 1 ∨ v.category = 2 := lv_cat v
theorem LH.set1 {ls : Array Slot} {nL : Nat} {L : LL} {i : Nat} {v : Value} (hc : pcat L i) (h : lv_has ls nL ((i, v) :: (al 0 L).filter (fun q => !(q.1 == i) && !(q.1 + 1 == i && q.2.category == 2)))) : LH ls nL (L.set i (some v)) :=
  ⟨h.1, h.2.1, fun q hq => by
    obtain ⟨j, w⟩ := q
    obtain ⟨k, h1, h2⟩ := (al_mem _ 0).mp hq
    have e : j = k := by omega
    subst e
    refine h.2.2 (j, w) ?_
    by_cases hj : j = i
    · subst hj
      rw [List.getElem?_set] at h2
      simp only [if_true] at h2
      split at h2
      · cases h2; exact List.mem_cons_self
      · cases h2
    · rw [List.getElem?_set_ne (Ne.symm hj)] at h2
      refine List.mem_cons_of_mem _ (List.mem_filter.mpr ⟨(al_mem L 0).mpr ⟨j, by omega, h2⟩, ?_⟩)
      have hcw : j + 1 = i → w.category = 1 := fun e => hc j w e.symm h2
      by_cases e : j + 1 = i
      · simp [hj, hcw e]
      · simp [hj, e]⟩
theorem LH.set2 {ls : Array Slot} {nL : Nat} {L : LL} {i : Nat} {v : Value} (hc : pcat L i) (h : lv_has ls nL ((i, v) :: (al 0 L).filter (fun q => !(q.1 == i) && (!(q.1 == i + 1) && !(q.1 + 1 == i && q.2.category == 2))))) : LH ls nL ((L.set i (some v)).set (i + 1) none) :=
  ⟨h.1, h.2.1, fun q hq => by
    obtain ⟨j, w⟩ := q
    obtain ⟨k, h1, h2⟩ := (al_mem _ 0).mp hq
    have e : j = k := by omega
    subst e
    refine h.2.2 (j, w) ?_
    by_cases hj1 : j = i + 1
    · subst hj1
      rw [List.getElem?_set] at h2
      simp only [if_true] at h2
      split at h2 <;> cases h2
    rw [List.getElem?_set_ne (Ne.symm hj1)] at h2
    by_cases hj : j = i
    · subst hj
      rw [List.getElem?_set] at h2
      simp only [if_true] at h2
      split at h2
      · cases h2; exact List.mem_cons_self
      · cases h2
    · rw [List.getElem?_set_ne (Ne.symm hj)] at h2
      refine List.mem_cons_of_mem _ (List.mem_filter.mpr ⟨(al_mem L 0).mpr ⟨j, by omega, h2⟩, ?_⟩)
      have hcw : j + 1 = i → w.category = 1 := fun e => hc j w e.symm h2
      by_cases e : j + 1 = i
      · simp [hj, hj1, hcw e]
      · simp [hj, hj1, e]⟩
/-- the world: numbers of classes and slots, the array classes, the cells' addresses, the constants' -/
abbrev GX : Type := va_G × (ClassId × ClassId × ClassId) × (Nat → Nat) × (Nat × Nat × Nat) × (Nat → Nat) × (Nat → Nat)
def NC : Nat := 42
abbrev SG : Type := Nat → va_E
def ad (G : GX) (i : Nat) : Nat := G.2.2.1 i
def rf (G : GX) (i : Nat) : Value := .ref (ad G i)
def gt (G : GX) : List (ClassId × FieldType) := [(G.2.1.1, .int), (G.2.1.2.1, .long), (G.2.1.2.2, .object "FlockCounts$Sheet")]
def AD (G : GX) : Nat → Prop := fun q => ∃ i, i < NC ∧ q = ad G i
def wl (G : GX) (σ : SG) : va_W := (List.range NC).map (fun i => (ad G i, σ i))
def GI (G : GX) : Prop := ∀ i j, i < NC → j < NC → ad G i = ad G j → i = j
theorem wl_get (G : GX) (σ : SG) {i : Nat} (h : i < NC) : (wl G σ)[i]? = some (ad G i, σ i) := by simp [wl, h]
theorem wl_of {G : GX} {σ : SG} {i : Nat} {q : Nat × va_E} (h : (wl G σ)[i]? = some q) : i < NC ∧ q = (ad G i, σ i) := by
  by_cases hi : i < NC
  · rw [wl_get G σ hi] at h; exact ⟨hi, (Option.some.inj h).symm⟩
  · simp [wl, hi] at h
theorem wl_set (G : GX) (σ : SG) {i : Nat} (h : i < NC) (e : va_E) : (wl G σ).set i (ad G i, e) = wl G (va_up σ i e) := by
  apply List.ext_getElem?
  intro j
  rw [List.getElem?_set]
  by_cases hj : i = j
  · subst hj
    rw [if_pos rfl, if_pos (by simp [wl, h]), wl_get G _ h, va_up_self]
  · rw [if_neg hj]
    by_cases hk : j < NC
    · rw [wl_get G _ hk, wl_get G _ hk, va_up_ne _ _ (Ne.symm hj)]
    · simp [wl, hk]
theorem wl_D {G : GX} (h : GI G) (σ : SG) : va_D (AD G) (wl G σ) :=
  ⟨fun i j p q hp hq hpq => by
    obtain ⟨h1, rfl⟩ := wl_of hp
    obtain ⟨h2, rfl⟩ := wl_of hq
    exact h i j h1 h2 hpq,
   fun k q hq => by
    obtain ⟨h1, rfl⟩ := wl_of hq
    exact ⟨k, h1, rfl⟩⟩
/-- the constants: static rows, texts -/
def tA (z : Int) : Int := if z = 0 then -1 else if z = 4 then 1 else if z = 5 then 3 else 0
def tW (z : Int) : Int := if z = 1 then 1 else if z = 2 then 2 else if z = 4 then 2 else 0
def tT (z : Int) : Int := if z = 2 then 0 else if z = 4 then 2 else 1
def fA (j : Nat) : Value := vi (tA j)
def fW (j : Nat) : Value := vi (tW j)
def fT (j : Nat) : Value := vi (tT j)
def lenJ : List Nat := [5, 3, 4, 6, 5, 3, 3, 5, 3, 5, 4, 4]
def bytJ : List (List Int32) := [[115, 104, 101, 101, 112], [101, 119, 101], [108, 97, 109, 98], [119, 101, 116, 104, 101, 114], [119, 97, 107, 101, 114], [116, 117, 112], [109, 97, 110], [119, 97, 110, 116, 115], [100, 111, 103], [115, 116, 105, 99, 107], [108, 105, 109, 112], [119, 111, 114, 110]]
def ownJ (i : Nat) : String := if i < 6 then "FlockCounts$Kinds" else "FlockCounts$Tape"
def entJ (i : Nat) : Nat := ([19, 9, 11, 13, 15, 17, 37, 68, 78, 83, 85, 87] : List Nat).getD i 0
def txtJ (i : Nat) : String := (["sheep", "ewe", "lamb", "wether", "waker", "tup", "man", "wants", "dog", "stick", "limp", "worn"] : List String).getD i ""
def aA (G : GX) : Nat := G.2.2.2.1.1
def aW (G : GX) : Nat := G.2.2.2.1.2.1
def aT (G : GX) : Nat := G.2.2.2.1.2.2
def adK (G : GX) : Nat → Nat := G.2.2.2.2.1
def adV (G : GX) : Nat → Nat := G.2.2.2.2.2
def CK (G : GX) (U : State) (H : Heap) : Prop :=
  va_Z "FlockCounts$Kinds" "ABOVE" "[I" (.ref (aA G)) (AD G) U H ∧ va_Z "FlockCounts$Kinds" "WAKES" "[I" (.ref (aW G)) (AD G) U H ∧ va_Z "FlockCounts$Kinds" "TIRES" "[I" (.ref (aT G)) (AD G) U H ∧
  va_T .int (aA G) 6 fA (AD G) U H ∧ va_T .int (aW G) 6 fW (AD G) U H ∧ va_T .int (aT G) 6 fT (AD G) U H ∧
  va_Z "java/lang/String" "COMPACT_STRINGS" "Z" (vi 1) (AD G) U H ∧ va_Zq "jdk/internal/util/Preconditions" "SIOOBE_FORMATTER" "Ljava/util/function/BiFunction;" (AD G) U H ∧
  vk_S 12 lenJ bytJ (adK G) (adV G) (AD G) U H ∧ ∀ i, i < 12 → vk_R (ownJ i) (entJ i) (txtJ i) (adK G i) U
theorem CK.kept {G : GX} {U : State} {H H1 : Heap} (h : CK G U H) (hq : ∀ a : Nat, a < H.size → ¬ AD G a → H1[a]? = H[a]?) : CK G U H1 := by
  obtain ⟨h1, h2, h3, h4, h5, h6, h7, h8, h9, h10⟩ := h
  exact ⟨h1.kept hq, h2.kept hq, h3.kept hq, h4.kept hq, h5.kept hq, h6.kept hq, h7.kept hq, h8.kept hq, h9.kept hq, h10⟩
theorem CK.warm {G : GX} {s U : State} {H : Heap} (hW : s.WarmedH U.vm) (h : CK G s H) : CK G U H := by
  obtain ⟨h1, h2, h3, h4, h5, h6, h7, h8, h9, h10⟩ := h
  have hv := hW.alike
  exact ⟨h1.moved hv, h2.moved hv, h3.moved hv, h4.moved hv, h5.moved hv, h6.moved hv, h7.moved hv, h8.moved hv, h9.moved hv, fun i hi => (h10 i hi).warm hW⟩
theorem CK.same {G : GX} {u U : State} {H : Heap} (hv : U.vm = u.vm) (h : CK G u H) : CK G U H := by
  obtain ⟨h1, h2, h3, h4, h5, h6, h7, h8, h9, h10⟩ := h
  have ha : u.vm.Alike U.vm := by rw [hv]; exact Vm.Alike.refl _
  exact ⟨h1.moved ha, h2.moved ha, h3.moved ha, h4.moved ha, h5.moved ha, h6.moved ha, h7.moved ha, h8.moved ha, h9.moved ha, fun i hi => (h10 i hi).same hv⟩
/-- a method: its name, code, locals, what it returns, frames and locals' words of its room -/
abbrev MI : Type := MethodName × ByteArray × Nat × Option FieldType × Nat × Nat
def Mrm (M : MI) : Room := { frames := M.2.2.2.2.1, cells := 0, slots := 0, locals := M.2.2.2.2.2 }
def Mws (M : MI) : List Cond := Cond.code M.1 M.2.1 M.2.2.1 M.2.2.2.1 :: wsL
def CX (G : GX) (M : MI) (p : Program) (s : State) (m : MethodId) (args : Array Value) (meth : Method) (c : Code) : Prop :=
  p.tables.exec = Jvm.exec ∧ c.code = M.2.1 ∧ meth.sig.returnType = M.2.2.2.1 ∧ c.maxLocals = M.2.2.1 ∧ s.vm.findClass M.1.cls = some m.cls ∧ (∀ w ∈ wsL, w.before args s = true) ∧ meth.locks = false ∧ va_K G.1 vwCl (gt G) s ∧ CK G s s.heap ∧ GI G
def HX (G : GX) (s : State) (H : Heap) (locs : List Loc) (σ : SG) : Prop := va_P G.1 vwCl (wl G σ) H ∧ va_S (AD G) s.heap H locs
def QX (G : GX) (r : Option Value) (σ' : SG) : Array Value → State → Outcome → State → Prop := fun _ st o t => o = .returned r ∧ va_P G.1 vwCl (wl G σ') t.heap ∧ va_F (AD G) st t
def Rn (G : GX) (M : MI) (pc : Nat) (L : LL) (st : List Value) (σ : SG) (r : Option Value) (σ' : SG) : Prop :=
  ∀ (p : Program) (l : Launch) (e : Env) (s : State) (m : MethodId) (args : Array Value) (below : List Frame) (meth : Method) (c : Code) (H : Heap) (locs : List Loc) (ls : Array Slot),
    CX G M p s m args meth c → HX G s H locs σ → LH ls M.2.2.1 L → W p l e (Mrm M) s m args below meth c H locs 0 0 (MQ below (QX G r σ') args s 0 0 (AD G)) (F0 m pc ls st)
def PX (G : GX) (σ : SG) : State → Prop := fun U => va_P G.1 vwCl (wl G σ) U.heap ∧ va_K G.1 vwCl (gt G) U ∧ CK G U U.heap
/-- method M, called with these arguments on the store σ, answers r and leaves σ' -/
def Ev (G : GX) (M : MI) (av : List Value) (σ : SG) (r : Option Value) (σ' : SG) : Prop :=
  GI G → ∀ l : Launch, Met l M.1 (Mws M) (Mrm M) (va_Pc av (PX G σ)) (QX G r σ') 0 0 (AD G)
theorem ws_good : wsL.all goodWord = true := List.all_eq_true.mpr fun w hw => (List.mem_filter.mp hw).2
theorem ws_in (M M2 : MI) (h : Cond.code M2.1 M2.2.1 M2.2.2.1 M2.2.2.2.1 ∈ wsL) : GoodIn wsL (Mws M2) := fun w hw => by
  have hm : w ∈ wsL := (List.mem_cons.mp hw).elim (fun e => e ▸ h) id
  exact ⟨hm, good_of_word (List.all_eq_true.mp ws_good w hm)⟩
/-- the locals with which a method begins -/
def lent : List Value → Nat → LL
  | [], n => List.replicate n none
  | v :: t, n => if v.category = 2 then some v :: none :: lent t (n - 2) else some v :: lent t (n - 1)
theorem lent_args (vs : List Value) : ∀ (n i k : Nat) (v : Value), (lent vs n)[k]? = some (some v) → (i + k, v) ∈ lv_args i vs := by
  induction vs with
  | nil =>
    intro n i k v h
    simp only [lent] at h
    have := List.eq_of_mem_replicate (List.mem_of_getElem? h)
    cases this
  | cons w t ih =>
    intro n i k v h
    by_cases hc : w.category = 2
    · simp only [lent, hc, if_true] at h
      match k, h with
      | 0, h => simp at h; subst h; simp [lv_args]
      | 1, h => simp at h
      | k + 2, h =>
        have h2 := ih (n - 2) (i + 2) k v (by simpa using h)
        simp only [lv_args, hc, if_true]
        refine List.mem_cons_of_mem _ ?_
        have e : i + (k + 2) = i + 2 + k := by omega
        rw [e]; exact h2
    · simp only [lent, hc, if_false] at h
      match k, h with
      | 0, h => simp at h; subst h; simp [lv_args]
      | k + 1, h =>
        have h2 := ih (n - 1) (i + 1) k v (by simpa using h)
        simp only [lv_args, hc, if_false]
        refine List.mem_cons_of_mem _ ?_
        have e : i + (k + 1) = i + 1 + k := by omega
        rw [e]; exact h2
theorem Ev.enter {G : GX} {M : MI} {av : List Value} {σ σ' : SG} {r : Option Value} (hy : plainName M.1.cls = true) (hn : (lg_sl av).length ≤ M.2.2.1) {L : LL} (hL : lent av M.2.2.1 = L) (k : Rn G M 0 L [] σ r σ') : Ev G M av σ r σ' := by
  intro hG l
  refine Met.ofW (cc := M.2.1) (maxL := M.2.2.1) (ret := M.2.2.2.1) (ws' := wsL) hy rfl ?_
  intro p e s m args below meth c s₁ B hml hv
  obtain ⟨rfl, hP, hK, hC⟩ := hv
  have hts := atoms_spec (ws := Mws M) B.pre
  have hl := lv_entry av (n := M.2.2.1) hn
  rw [lg_entry_eq]
  refine k p l e s m _ below meth c s.heap [] _ ⟨B.exec, B.bytes, B.returns, hml, findClass_of_methodNamed B.named, fun w hw => hts w (List.mem_cons_of_mem _ hw), B.notSynchronized, hK, hC, hG⟩ ⟨hP, va_S.rf⟩ ?_
  subst hL
  refine ⟨hl.1, hl.2.1, fun q hq => ?_⟩
  obtain ⟨i, v⟩ := q
  obtain ⟨j, h1, h2⟩ := (al_mem _ 0).mp hq
  have h3 := lent_args av _ 0 j v h2
  have e : i = 0 + j := h1
  subst e
  exact hl.2.2 _ h3
