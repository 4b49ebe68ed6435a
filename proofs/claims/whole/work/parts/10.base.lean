
/-! the layer G: a frame of locals, stack, numbers and arrays, over the kit's W -/
abbrev x_M : Type := MethodName × ByteArray × Nat × Option FieldType
def x_rm (fr lo : Nat) : Room := { frames := fr, cells := 0, slots := 0, locals := lo }
def x_wd (ad : Nat → Nat) (cI : ClassId) (sc : Nat → Int32) (ar : Nat → Nat → Int32) : va_W :=
  [(ad 0, .inr (0, [.ref (ad 1), .ref (ad 2), .ref (ad 3), .ref (ad 4), .ref (ad 5), .int (sc 0), .int (sc 1)])),
   (ad 1, .inl (cI, 768, .inl (ar 0))),
   (ad 2, .inr (1, [.int 1, .int (sc 2), .int (sc 3)])),
   (ad 3, .inr (1, [.int 16, .int (sc 4), .int (sc 5)])),
   (ad 4, .inr (2, [.ref (ad 6), .int (sc 6), .int (sc 7)])),
   (ad 5, .inl (cI, 4, .inl (ar 1))),
   (ad 6, .inl (cI, 16, .inl (ar 2))),
   (ad 7, .inr (3, [.int (sc 8), .int (sc 9), .int (sc 10), .int (sc 11), .int (sc 12), .int (sc 13), .int (sc 14), .ref (ad 8), .ref (ad 9), .int (sc 15), .int (sc 16), .int (sc 17), .ref (ad 10), .ref (ad 11)])),
   (ad 8, .inl (cI, 4, .inl (ar 3))),
   (ad 9, .inl (cI, 768, .inl (ar 4))),
   (ad 10, .inl (cI, 16, .inl (ar 5))),
   (ad 11, .inl (cI, 16, .inl (ar 6)))]
def x_A (ad : Nat → Nat) (q : Nat) : Prop := ∃ i, i < 12 ∧ q = ad i
def x_dis (ad : Nat → Nat) : Prop := ∀ i j, i < 12 → j < 12 → ad i = ad j → i = j
theorem x_wdA {ad : Nat → Nat} {cI : ClassId} {sc : Nat → Int32} {ar : Nat → Nat → Int32} {k : Nat} {q : Nat × va_E} (h : (x_wd ad cI sc ar)[k]? = some q) : k < 12 ∧ q.1 = ad k := by
  match k, h with
  | 0, h => cases h; exact ⟨by decide, rfl⟩
  | 1, h => cases h; exact ⟨by decide, rfl⟩
  | 2, h => cases h; exact ⟨by decide, rfl⟩
  | 3, h => cases h; exact ⟨by decide, rfl⟩
  | 4, h => cases h; exact ⟨by decide, rfl⟩
  | 5, h => cases h; exact ⟨by decide, rfl⟩
  | 6, h => cases h; exact ⟨by decide, rfl⟩
  | 7, h => cases h; exact ⟨by decide, rfl⟩
  | 8, h => cases h; exact ⟨by decide, rfl⟩
  | 9, h => cases h; exact ⟨by decide, rfl⟩
  | 10, h => cases h; exact ⟨by decide, rfl⟩
  | 11, h => cases h; exact ⟨by decide, rfl⟩
  | k + 12, h => cases h
theorem x_D {ad : Nat → Nat} {cI : ClassId} {sc : Nat → Int32} {ar : Nat → Nat → Int32} {A : Nat → Prop} (hd : x_dis ad) (hA : ∀ i, i < 12 → A (ad i)) : va_D A (x_wd ad cI sc ar) := by
  refine ⟨fun i j p q hi hj e => ?_, fun k q hk => ?_⟩
  · obtain ⟨h1, h2⟩ := x_wdA hi
    obtain ⟨h3, h4⟩ := x_wdA hj
    exact hd i j h1 h3 (by rw [← h2, ← h4]; exact e)
  · obtain ⟨h1, h2⟩ := x_wdA hk
    rw [h2]; exact hA k h1
def x_ua (ar : Nat → Nat → Int32) (j : Nat) (f : Nat → Int32) : Nat → Nat → Int32 := fun i => if i = j then f else ar i
def x_X (p : Program) (R : Room) (s : State) (m : MethodId) (args : Array Value) (meth : Method) (c : Code) (y : x_M) (ad : Nat → Nat) (D : va_G) (cI : ClassId) (A : Nat → Prop) (cells slots : Nat) : Prop :=
  p.tables.exec = Jvm.exec ∧ c.code = y.2.1 ∧ c.maxLocals = y.2.2.1 ∧ s.vm.findClass y.1.cls = some m.cls ∧ (∀ w ∈ x_tb, w.before args s = true) ∧ va_K D x_Cl [(cI, .int)] s ∧ x_dis ad ∧ (∀ i, i < 12 → A (ad i)) ∧ meth.sig.returnType = y.2.2.2 ∧ meth.locks = false ∧ cells ≤ R.cells ∧ slots ≤ R.slots
section XX
variable {p : Program} {R : Room} {s : State} {m : MethodId} {args : Array Value} {meth : Method} {c : Code} {y : x_M} {ad : Nat → Nat} {D : va_G} {cI : ClassId} {A : Nat → Prop} {cells slots : Nat}
theorem x_X.ex (h : x_X p R s m args meth c y ad D cI A cells slots) : p.tables.exec = Jvm.exec := h.1
theorem x_X.cd (h : x_X p R s m args meth c y ad D cI A cells slots) : c.code = y.2.1 := h.2.1
theorem x_X.ml (h : x_X p R s m args meth c y ad D cI A cells slots) : c.maxLocals = y.2.2.1 := h.2.2.1
theorem x_X.own (h : x_X p R s m args meth c y ad D cI A cells slots) : s.vm.findClass y.1.cls = some m.cls := h.2.2.2.1
theorem x_X.ts (h : x_X p R s m args meth c y ad D cI A cells slots) : ∀ w ∈ x_tb, w.before args s = true := h.2.2.2.2.1
theorem x_X.K (h : x_X p R s m args meth c y ad D cI A cells slots) : va_K D x_Cl [(cI, .int)] s := h.2.2.2.2.2.1
theorem x_X.dis (h : x_X p R s m args meth c y ad D cI A cells slots) : x_dis ad := h.2.2.2.2.2.2.1
theorem x_X.inA (h : x_X p R s m args meth c y ad D cI A cells slots) : ∀ i, i < 12 → A (ad i) := h.2.2.2.2.2.2.2.1
theorem x_X.ret (h : x_X p R s m args meth c y ad D cI A cells slots) : meth.sig.returnType = y.2.2.2 := h.2.2.2.2.2.2.2.2.1
theorem x_X.lk (h : x_X p R s m args meth c y ad D cI A cells slots) : meth.locks = false := h.2.2.2.2.2.2.2.2.2.1
theorem x_X.cl (h : x_X p R s m args meth c y ad D cI A cells slots) : cells ≤ R.cells ∧ slots ≤ R.slots := h.2.2.2.2.2.2.2.2.2.2
end XX
def x_has (ls : Array Slot) (n : Nat) (L : List (Option Value)) : Prop := ls.size = n ∧ lv_wf ls ∧ ∀ (i : Nat) (v : Value), L[i]? = some (some v) → ls[i]? = some (.val v)
def x_pr (L : List (Option Value)) : List (Nat × Value) := (List.range L.length).filterMap fun i => match L[i]? with
  | some (some v) => some (i, v)
  | _ => none
theorem x_pr_mem {L : List (Option Value)} {i : Nat} {v : Value} : (i, v) ∈ x_pr L ↔ L[i]? = some (some v) := by
  unfold x_pr
  rw [List.mem_filterMap]
  constructor
  · rintro ⟨j, -, h⟩
    split at h
    · next w hw =>
      cases h
      exact hw
    · cases h
  · intro h
    refine ⟨i, List.mem_range.mpr (List.getElem?_eq_some_iff.mp h).1, ?_⟩
    rw [h]
theorem x_has_lv {ls : Array Slot} {n : Nat} {L : List (Option Value)} (h : x_has ls n L) : lv_has ls n (x_pr L) :=
  ⟨h.1, h.2.1, fun q hq => h.2.2 q.1 q.2 (x_pr_mem.mp hq)⟩
theorem x_lv_has {ls : Array Slot} {n : Nat} {L : List (Option Value)} (h : lv_has ls n (x_pr L)) : x_has ls n L :=
  ⟨h.1, h.2.1, fun i v hv => h.2.2 (i, v) (x_pr_mem.mpr hv)⟩
theorem x_has_of {ls : Array Slot} {n : Nat} {L : List (Option Value)} {av : List (Nat × Value)} (h : lv_has ls n av) (e : x_pr L = av) : x_has ls n L := x_lv_has (e ▸ h)
def x_okS (L : List (Option Value)) (i : Nat) : Bool := match i with
  | 0 => true
  | j + 1 => match L[j]? with
    | some (some v) => v.category == 1
    | _ => true
theorem x_okS_use {L : List (Option Value)} {i j : Nat} {w : Value} (h : x_okS L i = true) (e : j + 1 = i) (hw : L[j]? = some (some w)) : ¬ w.category = 2 := by
  subst e
  unfold x_okS at h
  simp only [hw] at h
  intro h2
  rw [h2] at h
  cases h
theorem x_set1 {ls : Array Slot} {n i : Nat} {L : List (Option Value)} {v : Value} (ho : x_okS L i = true) (h : lv_has ls n ((i, v) :: (x_pr L).filter (fun q => !(q.1 == i) && !(q.1 + 1 == i && q.2.category == 2)))) : x_has ls n (L.set i (some v)) := by
  refine ⟨h.1, h.2.1, fun j w hj => ?_⟩
  by_cases e : i = j
  · subst e
    have hl : i < L.length := by
      have := (List.getElem?_eq_some_iff.mp hj).1
      rwa [List.length_set] at this
    rw [List.getElem?_set_self hl] at hj
    cases hj
    exact h.2.2 (i, v) List.mem_cons_self
  · rw [List.getElem?_set_ne e] at hj
    refine h.2.2 (j, w) (List.mem_cons_of_mem _ (List.mem_filter.mpr ⟨x_pr_mem.mpr hj, ?_⟩))
    have e2 : ¬ j = i := fun h => e h.symm
    by_cases e3 : j + 1 = i
    · have := x_okS_use ho e3 hj
      simp [e2, this]
    · simp [e2, e3]
theorem x_set2 {ls : Array Slot} {n i : Nat} {L : List (Option Value)} {v : Value} (ho : x_okS L i = true) (h : lv_has ls n ((i, v) :: (x_pr L).filter (fun q => !(q.1 == i) && (!(q.1 == i + 1) && !(q.1 + 1 == i && q.2.category == 2))))) : x_has ls n ((L.set i (some v)).set (i + 1) none) := by
  refine ⟨h.1, h.2.1, fun j w hj => ?_⟩
  by_cases e0 : i + 1 = j
  · subst e0
    by_cases hl : i + 1 < (L.set i (some v)).length
    · rw [List.getElem?_set_self hl] at hj; cases hj
    · have := (List.getElem?_eq_some_iff.mp hj).1
      rw [List.length_set] at this
      exact absurd this hl
  · rw [List.getElem?_set_ne e0] at hj
    by_cases e : i = j
    · subst e
      have hl : i < L.length := by
        have := (List.getElem?_eq_some_iff.mp hj).1
        rwa [List.length_set] at this
      rw [List.getElem?_set_self hl] at hj
      cases hj
      exact h.2.2 (i, v) List.mem_cons_self
    · rw [List.getElem?_set_ne e] at hj
      refine h.2.2 (j, w) (List.mem_cons_of_mem _ (List.mem_filter.mpr ⟨x_pr_mem.mpr hj, ?_⟩))
      have e2 : ¬ j = i := fun h => e h.symm
      have e4 : ¬ j = i + 1 := fun h => e0 h.symm
      by_cases e3 : j + 1 = i
      · have := x_okS_use ho e3 hj
        simp [e2, e4, this]
      · simp [e2, e3, e4]
def x_le : List (Option Value) → List (Option Value) → Prop
  | [], _ => True
  | none :: t, _ :: u => x_le t u
  | some v :: t, w :: u => w = some v ∧ x_le t u
  | _ :: _, [] => False
theorem x_le_use : ∀ {L L' : List (Option Value)}, x_le L' L → ∀ (i : Nat) (v : Value), L'[i]? = some (some v) → L[i]? = some (some v)
  | _, [], _, i, v, h => by simp at h
  | [], a :: t, hl, i, v, h => by cases a <;> cases hl
  | w :: u, none :: t, hl, i, v, h => by
    cases i with
    | zero => simp at h
    | succ i =>
      rw [List.getElem?_cons_succ] at h ⊢
      exact x_le_use (L := u) (L' := t) hl i v h
  | w :: u, some z :: t, hl, i, v, h => by
    cases i with
    | zero =>
      rw [List.getElem?_cons_zero] at h ⊢
      cases h
      rw [hl.1]
    | succ i =>
      rw [List.getElem?_cons_succ] at h ⊢
      exact x_le_use (L := u) (L' := t) hl.2 i v h
theorem x_has_le {ls : Array Slot} {n : Nat} {L L' : List (Option Value)} (h : x_has ls n L) (hl : x_le L' L) : x_has ls n L' := ⟨h.1, h.2.1, fun i v hv => h.2.2 i v (x_le_use hl i v hv)⟩
def x_G (p : Program) (l : Launch) (e : Env) (R : Room) (s : State) (m : MethodId) (args : Array Value) (below : List Frame) (meth : Method) (c : Code) (y : x_M) (ad : Nat → Nat) (D : va_G) (cI : ClassId) (A : Nat → Prop) (cells slots : Nat) (Q : State → Prop) (pc : Nat) (L : List (Option Value)) (st : List Value) (sc : Nat → Int32) (ar : Nat → Nat → Int32) : Prop :=
  ∀ (H : Heap) (locs : List Loc) (ls : Array Slot), x_has ls y.2.2.1 L → va_P D x_Cl (x_wd ad cI sc ar) H → va_S A s.heap H locs → W p l e R s m args below meth c H locs cells slots Q (F0 m pc ls st)
def x_Qc (ad : Nat → Nat) (D : va_G) (cI : ClassId) (Post : Option Value → (Nat → Int32) → (Nat → Nat → Int32) → Prop) : Array Value → State → Outcome → State → Prop := fun _ st o t => ∃ (r : Option Value) (sc : Nat → Int32) (ar : Nat → Nat → Int32), o = .returned r ∧ Post r sc ar ∧ va_P D x_Cl (x_wd ad cI sc ar) t.heap ∧ va_F (x_A ad) st t
def x_Pc (ad : Nat → Nat) (D : va_G) (cI : ClassId) (av : List Value) (sc : Nat → Int32) (ar : Nat → Nat → Int32) : Array Value → State → Prop := fun v U => v = av.toArray ∧ va_P D x_Cl (x_wd ad cI sc ar) U.heap ∧ va_K D x_Cl [(cI, .int)] U
def x_Con (l : Launch) (y : x_M) (fr lo : Nat) (ad : Nat → Nat) (D : va_G) (cI : ClassId) (av : List Value) (sc : Nat → Int32) (ar : Nat → Nat → Int32) (Post : Option Value → (Nat → Int32) → (Nat → Nat → Int32) → Prop) : Prop :=
  Met l y.1 (Cond.code y.1 y.2.1 y.2.2.1 y.2.2.2 :: x_tb) (x_rm fr lo) (x_Pc ad D cI av sc ar) (x_Qc ad D cI Post) 0 0 (x_A ad)
abbrev x_Q (below : List Frame) (args : Array Value) (s : State) (ad : Nat → Nat) (D : va_G) (cI : ClassId) (Post : Option Value → (Nat → Int32) → (Nat → Nat → Int32) → Prop) : State → Prop := MQ below (x_Qc ad D cI Post) args s 0 0 (x_A ad)
def x_E (r : Option Value) (sc : Nat → Int32) (ar : Nat → Nat → Int32) : Option Value → (Nat → Int32) → (Nat → Nat → Int32) → Prop := fun r' sc' ar' => r' = r ∧ sc' = sc ∧ ar' = ar

section XR
variable {p : Program} {l : Launch} {e : Env} {R : Room} {s : State} {m : MethodId} {args : Array Value} {below : List Frame} {meth : Method} {c : Code} {y : x_M} {ad : Nat → Nat} {D : va_G} {cI : ClassId} {A : Nat → Prop} {cells slots : Nat} {Q : State → Prop} {pc : Nat} {L : List (Option Value)} {rest : List Value} {sc : Nat → Int32} {ar : Nat → Nat → Int32}
theorem x_intro {fr lo : Nat} {av : List Value} {Post : Option Value → (Nat → Int32) → (Nat → Nat → Int32) → Prop} (hd : x_dis ad) (L0 : List (Option Value)) (hy : plainName y.1.cls = true) (hlen : (lg_sl av).length ≤ y.2.2.1) (hL0 : x_pr L0 = lv_args 0 av)
    (body : ∀ (p : Program) (e : Env) (s : State) (m : MethodId) (args : Array Value) (below : List Frame) (meth : Method) (c : Code), x_X p (x_rm fr lo) s m args meth c y ad D cI (x_A ad) 0 0 → x_G p l e (x_rm fr lo) s m args below meth c y ad D cI (x_A ad) 0 0 (x_Q below args s ad D cI Post) 0 L0 [] sc ar) : x_Con l y fr lo ad D cI av sc ar Post := by
  refine Met.ofW (cc := y.2.1) (maxL := y.2.2.1) (ret := y.2.2.2) hy rfl ?_
  intro p e s m args below meth c s₁ B hml hv
  obtain ⟨rfl, hP, hK⟩ := hv
  have hts : ∀ w ∈ x_tb, w.before av.toArray s = true := fun w h => atoms_spec (ws := Cond.code y.1 y.2.1 y.2.2.1 y.2.2.2 :: x_tb) B.pre w (List.mem_cons_of_mem _ h)
  have hl := lv_entry av (n := y.2.2.1) hlen
  rw [lg_entry_eq]
  exact body p e s m av.toArray below meth c ⟨B.exec, B.bytes, hml, findClass_of_methodNamed B.named, hts, hK, hd, fun i h => ⟨i, h, rfl⟩, B.returns, B.notSynchronized, Nat.le_refl _, Nat.le_refl _⟩ s.heap [] _ (x_has_of hl hL0) hP va_S.rf
theorem xg_weak (L' : List (Option Value)) (hl : x_le L' L) (k : x_G p l e R s m args below meth c y ad D cI A cells slots Q pc L' rest sc ar) : x_G p l e R s m args below meth c y ad D cI A cells slots Q pc L rest sc ar :=
  fun H locs ls h hP hS => k H locs ls (x_has_le h hl) hP hS
theorem xg_eq {sc' : Nat → Int32} {ar' : Nat → Nat → Int32} {st : List Value} (h1 : sc = sc') (h2 : ar = ar') (h3 : rest = st) (k : x_G p l e R s m args below meth c y ad D cI A cells slots Q pc L st sc' ar') : x_G p l e R s m args below meth c y ad D cI A cells slots Q pc L rest sc ar := by
  subst h1; subst h2; subst h3; exact k
theorem xg_iconst (X : x_X p R s m args meth c y ad D cI A cells slots) {n : Int} {v : Int32} (hdg : decode y.2.1 pc = .ok (.iconst n, 1)) (hv : Int32.ofInt n = v) (k : x_G p l e R s m args below meth c y ad D cI A cells slots Q (pc + 1) L (.int v :: rest) sc ar) : x_G p l e R s m args below meth c y ad D cI A cells slots Q pc L rest sc ar :=
  fun H locs ls hl hP hS => lv_iconst X.ex X.cd hdg hv (k H locs ls hl hP hS)
theorem xg_bipush (X : x_X p R s m args meth c y ad D cI A cells slots) {n : Int} {v : Int32} (hdg : decode y.2.1 pc = .ok (.bipush n, 2)) (hv : (Int8.ofInt n).toInt32 = v) (k : x_G p l e R s m args below meth c y ad D cI A cells slots Q (pc + 2) L (.int v :: rest) sc ar) : x_G p l e R s m args below meth c y ad D cI A cells slots Q pc L rest sc ar :=
  fun H locs ls hl hP hS => lv_bipush X.ex X.cd hdg hv (k H locs ls hl hP hS)
theorem xg_sipush (X : x_X p R s m args meth c y ad D cI A cells slots) {n : Int} {v : Int32} (hdg : decode y.2.1 pc = .ok (.sipush n, 3)) (hv : (Int16.ofInt n).toInt32 = v) (k : x_G p l e R s m args below meth c y ad D cI A cells slots Q (pc + 3) L (.int v :: rest) sc ar) : x_G p l e R s m args below meth c y ad D cI A cells slots Q pc L rest sc ar :=
  fun H locs ls hl hP hS => lv_sipush X.ex X.cd hdg hv (k H locs ls hl hP hS)
theorem xg_lconst (X : x_X p R s m args meth c y ad D cI A cells slots) {n : Fin 2} {v : Int64} (hdg : decode y.2.1 pc = .ok (.lconst n, 1)) (hv : Int64.ofNat (n : Nat) = v) (k : x_G p l e R s m args below meth c y ad D cI A cells slots Q (pc + 1) L (.long v :: rest) sc ar) : x_G p l e R s m args below meth c y ad D cI A cells slots Q pc L rest sc ar :=
  fun H locs ls hl hP hS => lv_lconst X.ex X.cd hdg hv (k H locs ls hl hP hS)
theorem xg_iload_n (X : x_X p R s m args meth c y ad D cI A cells slots) {k : Fin 4} {x : Int32} (hdg : decode y.2.1 pc = .ok (.iload_n k, 1)) (hx : L[k.val]? = some (some (.int x))) (k : x_G p l e R s m args below meth c y ad D cI A cells slots Q (pc + 1) L (.int x :: rest) sc ar) : x_G p l e R s m args below meth c y ad D cI A cells slots Q pc L rest sc ar :=
  fun H locs ls hl hP hS => lv_iload_n X.ex X.cd hdg rfl (hl.2.2 _ _ hx) (k H locs ls hl hP hS)
theorem xg_iload (X : x_X p R s m args meth c y ad D cI A cells slots) {i : Nat} {x : Int32} (hdg : decode y.2.1 pc = .ok (.iload i, 2)) (hx : L[i]? = some (some (.int x))) (k : x_G p l e R s m args below meth c y ad D cI A cells slots Q (pc + 2) L (.int x :: rest) sc ar) : x_G p l e R s m args below meth c y ad D cI A cells slots Q pc L rest sc ar :=
  fun H locs ls hl hP hS => lv_iload X.ex X.cd hdg (hl.2.2 _ _ hx) (k H locs ls hl hP hS)
theorem xg_lload_n (X : x_X p R s m args meth c y ad D cI A cells slots) {k : Fin 4} {x : Int64} (hdg : decode y.2.1 pc = .ok (.lload_n k, 1)) (hx : L[k.val]? = some (some (.long x))) (k : x_G p l e R s m args below meth c y ad D cI A cells slots Q (pc + 1) L (.long x :: rest) sc ar) : x_G p l e R s m args below meth c y ad D cI A cells slots Q pc L rest sc ar :=
  fun H locs ls hl hP hS => lv_lload_n X.ex X.cd hdg rfl (hl.2.2 _ _ hx) (k H locs ls hl hP hS)
theorem xg_lload (X : x_X p R s m args meth c y ad D cI A cells slots) {i : Nat} {x : Int64} (hdg : decode y.2.1 pc = .ok (.lload i, 2)) (hx : L[i]? = some (some (.long x))) (k : x_G p l e R s m args below meth c y ad D cI A cells slots Q (pc + 2) L (.long x :: rest) sc ar) : x_G p l e R s m args below meth c y ad D cI A cells slots Q pc L rest sc ar :=
  fun H locs ls hl hP hS => lv_lload X.ex X.cd hdg (hl.2.2 _ _ hx) (k H locs ls hl hP hS)
theorem xg_aload_n (X : x_X p R s m args meth c y ad D cI A cells slots) {k : Fin 4} {x : Nat} (hdg : decode y.2.1 pc = .ok (.aload_n k, 1)) (hx : L[k.val]? = some (some (.ref x))) (k : x_G p l e R s m args below meth c y ad D cI A cells slots Q (pc + 1) L (.ref x :: rest) sc ar) : x_G p l e R s m args below meth c y ad D cI A cells slots Q pc L rest sc ar :=
  fun H locs ls hl hP hS => lv_aload_n X.ex X.cd hdg rfl (hl.2.2 _ _ hx) (k H locs ls hl hP hS)
theorem xg_aload (X : x_X p R s m args meth c y ad D cI A cells slots) {i : Nat} {x : Nat} (hdg : decode y.2.1 pc = .ok (.aload i, 2)) (hx : L[i]? = some (some (.ref x))) (k : x_G p l e R s m args below meth c y ad D cI A cells slots Q (pc + 2) L (.ref x :: rest) sc ar) : x_G p l e R s m args below meth c y ad D cI A cells slots Q pc L rest sc ar :=
  fun H locs ls hl hP hS => lv_aload X.ex X.cd hdg (hl.2.2 _ _ hx) (k H locs ls hl hP hS)
theorem xg_istore_n (X : x_X p R s m args meth c y ad D cI A cells slots) {k : Fin 4} {x : Int32} (hdg : decode y.2.1 pc = .ok (.istore_n k, 1)) (hn : k.val < y.2.2.1) (ho : x_okS L k.val = true) (kk : x_G p l e R s m args below meth c y ad D cI A cells slots Q (pc + 1) (L.set k.val (some (.int x))) rest sc ar) : x_G p l e R s m args below meth c y ad D cI A cells slots Q pc L (.int x :: rest) sc ar :=
  fun H locs ls hl hP hS => lv_istore_n X.ex X.cd hdg rfl (x_has_lv hl) hn rfl (fun ls' h' => kk H locs ls' (x_set1 ho h') hP hS)
theorem xg_istore (X : x_X p R s m args meth c y ad D cI A cells slots) {i : Nat} {x : Int32} (hdg : decode y.2.1 pc = .ok (.istore i, 2)) (hn : i < y.2.2.1) (ho : x_okS L i = true) (kk : x_G p l e R s m args below meth c y ad D cI A cells slots Q (pc + 2) (L.set i (some (.int x))) rest sc ar) : x_G p l e R s m args below meth c y ad D cI A cells slots Q pc L (.int x :: rest) sc ar :=
  fun H locs ls hl hP hS => lv_istore X.ex X.cd hdg (x_has_lv hl) hn rfl (fun ls' h' => kk H locs ls' (x_set1 ho h') hP hS)
theorem xg_lstore_n (X : x_X p R s m args meth c y ad D cI A cells slots) {k : Fin 4} {x : Int64} (hdg : decode y.2.1 pc = .ok (.lstore_n k, 1)) (hn : k.val + 1 < y.2.2.1) (ho : x_okS L k.val = true) (kk : x_G p l e R s m args below meth c y ad D cI A cells slots Q (pc + 1) ((L.set k.val (some (.long x))).set (k.val + 1) none) rest sc ar) : x_G p l e R s m args below meth c y ad D cI A cells slots Q pc L (.long x :: rest) sc ar :=
  fun H locs ls hl hP hS => lv_lstore_n X.ex X.cd hdg rfl (x_has_lv hl) hn rfl (fun ls' h' => kk H locs ls' (x_set2 ho h') hP hS)
theorem xg_lstore (X : x_X p R s m args meth c y ad D cI A cells slots) {i : Nat} {x : Int64} (hdg : decode y.2.1 pc = .ok (.lstore i, 2)) (hn : i + 1 < y.2.2.1) (ho : x_okS L i = true) (kk : x_G p l e R s m args below meth c y ad D cI A cells slots Q (pc + 2) ((L.set i (some (.long x))).set (i + 1) none) rest sc ar) : x_G p l e R s m args below meth c y ad D cI A cells slots Q pc L (.long x :: rest) sc ar :=
  fun H locs ls hl hP hS => lv_lstore X.ex X.cd hdg (x_has_lv hl) hn rfl (fun ls' h' => kk H locs ls' (x_set2 ho h') hP hS)
theorem x_pr_at {i : Nat} {v : Value} (h : L[i]? = some (some v)) : ∃ k : Nat, (x_pr L)[k]? = some (i, v) := by
  obtain ⟨k, hk, e⟩ := List.getElem_of_mem (x_pr_mem.mpr h)
  exact ⟨k, by rw [List.getElem?_eq_getElem hk, e]⟩
theorem xg_iinc (X : x_X p R s m args meth c y ad D cI A cells slots) {i : Nat} {n : Int} {x v : Int32} (hdg : decode y.2.1 pc = .ok (.iinc i n, 3)) (hx : L[i]? = some (some (.int x))) (hv : x + Int32.ofInt n = v) (hn : i < y.2.2.1) (ho : x_okS L i = true) (kk : x_G p l e R s m args below meth c y ad D cI A cells slots Q (pc + 3) (L.set i (some (.int v))) rest sc ar) : x_G p l e R s m args below meth c y ad D cI A cells slots Q pc L rest sc ar := by
  intro H locs ls hl hP hS
  obtain ⟨k, hk⟩ := x_pr_at hx
  exact lv_iinc X.ex X.cd hdg (x_has_lv hl) hk hv hn rfl (fun ls' h' => kk H locs ls' (x_set1 ho h') hP hS)
theorem xg_iadd (X : x_X p R s m args meth c y ad D cI A cells slots) {x z : Int32} (hdg : decode y.2.1 pc = .ok (.iadd, 1)) (k : x_G p l e R s m args below meth c y ad D cI A cells slots Q (pc + 1) L (.int (x + z) :: rest) sc ar) : x_G p l e R s m args below meth c y ad D cI A cells slots Q pc L (.int z :: .int x :: rest) sc ar :=
  fun H locs ls hl hP hS => lv_iadd X.ex X.cd hdg (k H locs ls hl hP hS)
theorem xg_isub (X : x_X p R s m args meth c y ad D cI A cells slots) {x z : Int32} (hdg : decode y.2.1 pc = .ok (.isub, 1)) (k : x_G p l e R s m args below meth c y ad D cI A cells slots Q (pc + 1) L (.int (x - z) :: rest) sc ar) : x_G p l e R s m args below meth c y ad D cI A cells slots Q pc L (.int z :: .int x :: rest) sc ar :=
  fun H locs ls hl hP hS => lv_isub X.ex X.cd hdg (k H locs ls hl hP hS)
theorem xg_imul (X : x_X p R s m args meth c y ad D cI A cells slots) {x z : Int32} (hdg : decode y.2.1 pc = .ok (.imul, 1)) (k : x_G p l e R s m args below meth c y ad D cI A cells slots Q (pc + 1) L (.int (x * z) :: rest) sc ar) : x_G p l e R s m args below meth c y ad D cI A cells slots Q pc L (.int z :: .int x :: rest) sc ar :=
  fun H locs ls hl hP hS => lv_imul X.ex X.cd hdg (k H locs ls hl hP hS)
theorem xg_iand (X : x_X p R s m args meth c y ad D cI A cells slots) {x z : Int32} (hdg : decode y.2.1 pc = .ok (.iand, 1)) (k : x_G p l e R s m args below meth c y ad D cI A cells slots Q (pc + 1) L (.int (x &&& z) :: rest) sc ar) : x_G p l e R s m args below meth c y ad D cI A cells slots Q pc L (.int z :: .int x :: rest) sc ar :=
  fun H locs ls hl hP hS => lv_iand X.ex X.cd hdg (k H locs ls hl hP hS)
theorem xg_ishl (X : x_X p R s m args meth c y ad D cI A cells slots) {x z : Int32} (hdg : decode y.2.1 pc = .ok (.ishl, 1)) (k : x_G p l e R s m args below meth c y ad D cI A cells slots Q (pc + 1) L (.int (x <<< (z &&& 31)) :: rest) sc ar) : x_G p l e R s m args below meth c y ad D cI A cells slots Q pc L (.int z :: .int x :: rest) sc ar :=
  fun H locs ls hl hP hS => lv_ishl X.ex X.cd hdg (k H locs ls hl hP hS)
theorem xg_ishr (X : x_X p R s m args meth c y ad D cI A cells slots) {x z : Int32} (hdg : decode y.2.1 pc = .ok (.ishr, 1)) (k : x_G p l e R s m args below meth c y ad D cI A cells slots Q (pc + 1) L (.int (x >>> (z &&& 31)) :: rest) sc ar) : x_G p l e R s m args below meth c y ad D cI A cells slots Q pc L (.int z :: .int x :: rest) sc ar :=
  fun H locs ls hl hP hS => lv_ishr X.ex X.cd hdg (k H locs ls hl hP hS)
theorem xg_idiv (X : x_X p R s m args meth c y ad D cI A cells slots) {x z : Int32} (hdg : decode y.2.1 pc = .ok (.idiv, 1)) (hne : ¬ z = 0) (k : x_G p l e R s m args below meth c y ad D cI A cells slots Q (pc + 1) L (.int (x / z) :: rest) sc ar) : x_G p l e R s m args below meth c y ad D cI A cells slots Q pc L (.int z :: .int x :: rest) sc ar :=
  fun H locs ls hl hP hS => lv_idiv X.ex X.cd hdg hne (k H locs ls hl hP hS)
theorem xg_irem (X : x_X p R s m args meth c y ad D cI A cells slots) {x z : Int32} (hdg : decode y.2.1 pc = .ok (.irem, 1)) (hne : ¬ z = 0) (k : x_G p l e R s m args below meth c y ad D cI A cells slots Q (pc + 1) L (.int (x - x / z * z) :: rest) sc ar) : x_G p l e R s m args below meth c y ad D cI A cells slots Q pc L (.int z :: .int x :: rest) sc ar :=
  fun H locs ls hl hP hS => lv_irem X.ex X.cd hdg hne (k H locs ls hl hP hS)
theorem xg_ladd (X : x_X p R s m args meth c y ad D cI A cells slots) {x z : Int64} (hdg : decode y.2.1 pc = .ok (.ladd, 1)) (k : x_G p l e R s m args below meth c y ad D cI A cells slots Q (pc + 1) L (.long (x + z) :: rest) sc ar) : x_G p l e R s m args below meth c y ad D cI A cells slots Q pc L (.long z :: .long x :: rest) sc ar :=
  fun H locs ls hl hP hS => lv_ladd X.ex X.cd hdg (k H locs ls hl hP hS)
theorem xg_lsub (X : x_X p R s m args meth c y ad D cI A cells slots) {x z : Int64} (hdg : decode y.2.1 pc = .ok (.lsub, 1)) (k : x_G p l e R s m args below meth c y ad D cI A cells slots Q (pc + 1) L (.long (x - z) :: rest) sc ar) : x_G p l e R s m args below meth c y ad D cI A cells slots Q pc L (.long z :: .long x :: rest) sc ar :=
  fun H locs ls hl hP hS => lv_lsub X.ex X.cd hdg (k H locs ls hl hP hS)
theorem xg_lmul (X : x_X p R s m args meth c y ad D cI A cells slots) {x z : Int64} (hdg : decode y.2.1 pc = .ok (.lmul, 1)) (k : x_G p l e R s m args below meth c y ad D cI A cells slots Q (pc + 1) L (.long (x * z) :: rest) sc ar) : x_G p l e R s m args below meth c y ad D cI A cells slots Q pc L (.long z :: .long x :: rest) sc ar :=
  fun H locs ls hl hP hS => lv_lmul X.ex X.cd hdg (k H locs ls hl hP hS)
theorem xg_ldiv (X : x_X p R s m args meth c y ad D cI A cells slots) {x z : Int64} (hdg : decode y.2.1 pc = .ok (.ldiv, 1)) (hne : ¬ z = 0) (k : x_G p l e R s m args below meth c y ad D cI A cells slots Q (pc + 1) L (.long (x / z) :: rest) sc ar) : x_G p l e R s m args below meth c y ad D cI A cells slots Q pc L (.long z :: .long x :: rest) sc ar :=
  fun H locs ls hl hP hS => lv_ldiv X.ex X.cd hdg hne (k H locs ls hl hP hS)
theorem xg_lneg (X : x_X p R s m args meth c y ad D cI A cells slots) {x : Int64} (hdg : decode y.2.1 pc = .ok (.lneg, 1)) (k : x_G p l e R s m args below meth c y ad D cI A cells slots Q (pc + 1) L (.long (-x) :: rest) sc ar) : x_G p l e R s m args below meth c y ad D cI A cells slots Q pc L (.long x :: rest) sc ar :=
  fun H locs ls hl hP hS => lv_lneg X.ex X.cd hdg (k H locs ls hl hP hS)
theorem xg_lshl (X : x_X p R s m args meth c y ad D cI A cells slots) {x : Int64} {z : Int32} (hdg : decode y.2.1 pc = .ok (.lshl, 1)) (k : x_G p l e R s m args below meth c y ad D cI A cells slots Q (pc + 1) L (.long (x <<< (z.toInt64 &&& 63)) :: rest) sc ar) : x_G p l e R s m args below meth c y ad D cI A cells slots Q pc L (.int z :: .long x :: rest) sc ar :=
  fun H locs ls hl hP hS => lv_lshl X.ex X.cd hdg rfl (k H locs ls hl hP hS)
theorem xg_i2l (X : x_X p R s m args meth c y ad D cI A cells slots) {x : Int32} (hdg : decode y.2.1 pc = .ok (.i2l, 1)) (k : x_G p l e R s m args below meth c y ad D cI A cells slots Q (pc + 1) L (.long x.toInt64 :: rest) sc ar) : x_G p l e R s m args below meth c y ad D cI A cells slots Q pc L (.int x :: rest) sc ar :=
  fun H locs ls hl hP hS => lv_i2l X.ex X.cd hdg rfl (k H locs ls hl hP hS)
theorem xg_l2i (X : x_X p R s m args meth c y ad D cI A cells slots) {x : Int64} (hdg : decode y.2.1 pc = .ok (.l2i, 1)) (k : x_G p l e R s m args below meth c y ad D cI A cells slots Q (pc + 1) L (.int x.toInt32 :: rest) sc ar) : x_G p l e R s m args below meth c y ad D cI A cells slots Q pc L (.long x :: rest) sc ar :=
  fun H locs ls hl hP hS => lv_l2i X.ex X.cd hdg rfl (k H locs ls hl hP hS)
theorem xg_lcmp (X : x_X p R s m args meth c y ad D cI A cells slots) {x z : Int64} (hdg : decode y.2.1 pc = .ok (.lcmp, 1)) (k : x_G p l e R s m args below meth c y ad D cI A cells slots Q (pc + 1) L (.int (lg_cmp x z) :: rest) sc ar) : x_G p l e R s m args below meth c y ad D cI A cells slots Q pc L (.long z :: .long x :: rest) sc ar :=
  fun H locs ls hl hP hS => W.lcmp X.ex X.cd hdg (k H locs ls hl hP hS)
theorem xg_dup (X : x_X p R s m args meth c y ad D cI A cells slots) {va : Value} (hdg : decode y.2.1 pc = .ok (.dup, 1)) (h1 : va.category = 1) (k : x_G p l e R s m args below meth c y ad D cI A cells slots Q (pc + 1) L (va :: va :: rest) sc ar) : x_G p l e R s m args below meth c y ad D cI A cells slots Q pc L (va :: rest) sc ar :=
  fun H locs ls hl hP hS => lv_dup X.ex X.cd hdg h1 (k H locs ls hl hP hS)
theorem xg_dup2 (X : x_X p R s m args meth c y ad D cI A cells slots) {va vb : Value} (hdg : decode y.2.1 pc = .ok (.dup2, 1)) (h1 : va.category = 1) (h2 : vb.category = 1) (k : x_G p l e R s m args below meth c y ad D cI A cells slots Q (pc + 1) L (va :: vb :: va :: vb :: rest) sc ar) : x_G p l e R s m args below meth c y ad D cI A cells slots Q pc L (va :: vb :: rest) sc ar :=
  fun H locs ls hl hP hS => lv_dup2_11 X.ex X.cd hdg h1 h2 (k H locs ls hl hP hS)
theorem xg_ldc2 (X : x_X p R s m args meth c y ad D cI A cells slots) {index : Nat} {v : Int64} (hdg : decode y.2.1 pc = .ok (.ldc2_w index, 3)) (hc : Cond.constantLong y.1.cls index v ∈ x_tb) (k : x_G p l e R s m args below meth c y ad D cI A cells slots Q (pc + 3) L (.long v :: rest) sc ar) : x_G p l e R s m args below meth c y ad D cI A cells slots Q pc L rest sc ar :=
  fun H locs ls hl hP hS => lv_ldc2 X.ex X.cd X.own (X.ts _ hc) hdg (k H locs ls hl hP hS)
theorem xg_if_eq (X : x_X p R s m args meth c y ad D cI A cells slots) {x : Int32} {off : Int} {tgt : Nat} (hdg : decode y.2.1 pc = .ok (.ifCond .eq off, 3)) (ht : (pc : Int) + off = (tgt : Int)) (kt : x = 0 → x_G p l e R s m args below meth c y ad D cI A cells slots Q tgt L rest sc ar) (kf : ¬ x = 0 → x_G p l e R s m args below meth c y ad D cI A cells slots Q (pc + 3) L rest sc ar) : x_G p l e R s m args below meth c y ad D cI A cells slots Q pc L (.int x :: rest) sc ar :=
  fun H locs ls hl hP hS => lv_if_eq X.ex X.cd hdg ht (fun h => kt h H locs ls hl hP hS) (fun h => kf h H locs ls hl hP hS)
theorem xg_icmp_eq (X : x_X p R s m args meth c y ad D cI A cells slots) {x z : Int32} {off : Int} {tgt : Nat} (hdg : decode y.2.1 pc = .ok (.if_icmp .eq off, 3)) (ht : (pc : Int) + off = (tgt : Int)) (kt : x = z → x_G p l e R s m args below meth c y ad D cI A cells slots Q tgt L rest sc ar) (kf : ¬ x = z → x_G p l e R s m args below meth c y ad D cI A cells slots Q (pc + 3) L rest sc ar) : x_G p l e R s m args below meth c y ad D cI A cells slots Q pc L (.int z :: .int x :: rest) sc ar :=
  fun H locs ls hl hP hS => lv_icmp_eq X.ex X.cd hdg ht (fun h => kt h H locs ls hl hP hS) (fun h => kf h H locs ls hl hP hS)
theorem xg_if_ne (X : x_X p R s m args meth c y ad D cI A cells slots) {x : Int32} {off : Int} {tgt : Nat} (hdg : decode y.2.1 pc = .ok (.ifCond .ne off, 3)) (ht : (pc : Int) + off = (tgt : Int)) (kt : ¬ x = 0 → x_G p l e R s m args below meth c y ad D cI A cells slots Q tgt L rest sc ar) (kf : x = 0 → x_G p l e R s m args below meth c y ad D cI A cells slots Q (pc + 3) L rest sc ar) : x_G p l e R s m args below meth c y ad D cI A cells slots Q pc L (.int x :: rest) sc ar :=
  fun H locs ls hl hP hS => lv_if_ne X.ex X.cd hdg ht (fun h => kt h H locs ls hl hP hS) (fun h => kf h H locs ls hl hP hS)
theorem xg_icmp_ne (X : x_X p R s m args meth c y ad D cI A cells slots) {x z : Int32} {off : Int} {tgt : Nat} (hdg : decode y.2.1 pc = .ok (.if_icmp .ne off, 3)) (ht : (pc : Int) + off = (tgt : Int)) (kt : ¬ x = z → x_G p l e R s m args below meth c y ad D cI A cells slots Q tgt L rest sc ar) (kf : x = z → x_G p l e R s m args below meth c y ad D cI A cells slots Q (pc + 3) L rest sc ar) : x_G p l e R s m args below meth c y ad D cI A cells slots Q pc L (.int z :: .int x :: rest) sc ar :=
  fun H locs ls hl hP hS => lv_icmp_ne X.ex X.cd hdg ht (fun h => kt h H locs ls hl hP hS) (fun h => kf h H locs ls hl hP hS)
theorem xg_if_lt (X : x_X p R s m args meth c y ad D cI A cells slots) {x : Int32} {off : Int} {tgt : Nat} (hdg : decode y.2.1 pc = .ok (.ifCond .lt off, 3)) (ht : (pc : Int) + off = (tgt : Int)) (kt : x < 0 → x_G p l e R s m args below meth c y ad D cI A cells slots Q tgt L rest sc ar) (kf : ¬ x < 0 → x_G p l e R s m args below meth c y ad D cI A cells slots Q (pc + 3) L rest sc ar) : x_G p l e R s m args below meth c y ad D cI A cells slots Q pc L (.int x :: rest) sc ar :=
  fun H locs ls hl hP hS => lv_if_lt X.ex X.cd hdg ht (fun h => kt h H locs ls hl hP hS) (fun h => kf h H locs ls hl hP hS)
theorem xg_icmp_lt (X : x_X p R s m args meth c y ad D cI A cells slots) {x z : Int32} {off : Int} {tgt : Nat} (hdg : decode y.2.1 pc = .ok (.if_icmp .lt off, 3)) (ht : (pc : Int) + off = (tgt : Int)) (kt : x < z → x_G p l e R s m args below meth c y ad D cI A cells slots Q tgt L rest sc ar) (kf : ¬ x < z → x_G p l e R s m args below meth c y ad D cI A cells slots Q (pc + 3) L rest sc ar) : x_G p l e R s m args below meth c y ad D cI A cells slots Q pc L (.int z :: .int x :: rest) sc ar :=
  fun H locs ls hl hP hS => lv_icmp_lt X.ex X.cd hdg ht (fun h => kt h H locs ls hl hP hS) (fun h => kf h H locs ls hl hP hS)
theorem xg_if_ge (X : x_X p R s m args meth c y ad D cI A cells slots) {x : Int32} {off : Int} {tgt : Nat} (hdg : decode y.2.1 pc = .ok (.ifCond .ge off, 3)) (ht : (pc : Int) + off = (tgt : Int)) (kt : 0 ≤ x → x_G p l e R s m args below meth c y ad D cI A cells slots Q tgt L rest sc ar) (kf : ¬ 0 ≤ x → x_G p l e R s m args below meth c y ad D cI A cells slots Q (pc + 3) L rest sc ar) : x_G p l e R s m args below meth c y ad D cI A cells slots Q pc L (.int x :: rest) sc ar :=
  fun H locs ls hl hP hS => lv_if_ge X.ex X.cd hdg ht (fun h => kt h H locs ls hl hP hS) (fun h => kf h H locs ls hl hP hS)
theorem xg_icmp_ge (X : x_X p R s m args meth c y ad D cI A cells slots) {x z : Int32} {off : Int} {tgt : Nat} (hdg : decode y.2.1 pc = .ok (.if_icmp .ge off, 3)) (ht : (pc : Int) + off = (tgt : Int)) (kt : z ≤ x → x_G p l e R s m args below meth c y ad D cI A cells slots Q tgt L rest sc ar) (kf : ¬ z ≤ x → x_G p l e R s m args below meth c y ad D cI A cells slots Q (pc + 3) L rest sc ar) : x_G p l e R s m args below meth c y ad D cI A cells slots Q pc L (.int z :: .int x :: rest) sc ar :=
  fun H locs ls hl hP hS => lv_icmp_ge X.ex X.cd hdg ht (fun h => kt h H locs ls hl hP hS) (fun h => kf h H locs ls hl hP hS)
theorem xg_if_gt (X : x_X p R s m args meth c y ad D cI A cells slots) {x : Int32} {off : Int} {tgt : Nat} (hdg : decode y.2.1 pc = .ok (.ifCond .gt off, 3)) (ht : (pc : Int) + off = (tgt : Int)) (kt : 0 < x → x_G p l e R s m args below meth c y ad D cI A cells slots Q tgt L rest sc ar) (kf : ¬ 0 < x → x_G p l e R s m args below meth c y ad D cI A cells slots Q (pc + 3) L rest sc ar) : x_G p l e R s m args below meth c y ad D cI A cells slots Q pc L (.int x :: rest) sc ar :=
  fun H locs ls hl hP hS => lv_if_gt X.ex X.cd hdg ht (fun h => kt h H locs ls hl hP hS) (fun h => kf h H locs ls hl hP hS)
theorem xg_icmp_gt (X : x_X p R s m args meth c y ad D cI A cells slots) {x z : Int32} {off : Int} {tgt : Nat} (hdg : decode y.2.1 pc = .ok (.if_icmp .gt off, 3)) (ht : (pc : Int) + off = (tgt : Int)) (kt : z < x → x_G p l e R s m args below meth c y ad D cI A cells slots Q tgt L rest sc ar) (kf : ¬ z < x → x_G p l e R s m args below meth c y ad D cI A cells slots Q (pc + 3) L rest sc ar) : x_G p l e R s m args below meth c y ad D cI A cells slots Q pc L (.int z :: .int x :: rest) sc ar :=
  fun H locs ls hl hP hS => lv_icmp_gt X.ex X.cd hdg ht (fun h => kt h H locs ls hl hP hS) (fun h => kf h H locs ls hl hP hS)
theorem xg_if_le (X : x_X p R s m args meth c y ad D cI A cells slots) {x : Int32} {off : Int} {tgt : Nat} (hdg : decode y.2.1 pc = .ok (.ifCond .le off, 3)) (ht : (pc : Int) + off = (tgt : Int)) (kt : x ≤ 0 → x_G p l e R s m args below meth c y ad D cI A cells slots Q tgt L rest sc ar) (kf : ¬ x ≤ 0 → x_G p l e R s m args below meth c y ad D cI A cells slots Q (pc + 3) L rest sc ar) : x_G p l e R s m args below meth c y ad D cI A cells slots Q pc L (.int x :: rest) sc ar :=
  fun H locs ls hl hP hS => lv_if_le X.ex X.cd hdg ht (fun h => kt h H locs ls hl hP hS) (fun h => kf h H locs ls hl hP hS)
theorem xg_icmp_le (X : x_X p R s m args meth c y ad D cI A cells slots) {x z : Int32} {off : Int} {tgt : Nat} (hdg : decode y.2.1 pc = .ok (.if_icmp .le off, 3)) (ht : (pc : Int) + off = (tgt : Int)) (kt : x ≤ z → x_G p l e R s m args below meth c y ad D cI A cells slots Q tgt L rest sc ar) (kf : ¬ x ≤ z → x_G p l e R s m args below meth c y ad D cI A cells slots Q (pc + 3) L rest sc ar) : x_G p l e R s m args below meth c y ad D cI A cells slots Q pc L (.int z :: .int x :: rest) sc ar :=
  fun H locs ls hl hP hS => lv_icmp_le X.ex X.cd hdg ht (fun h => kt h H locs ls hl hP hS) (fun h => kf h H locs ls hl hP hS)
theorem xg_goto (X : x_X p R s m args meth c y ad D cI A cells slots) {off : Int} {tgt : Nat} (hdg : decode y.2.1 pc = .ok (.goto off, 3)) (ht : (pc : Int) + off = (tgt : Int)) (k : x_G p l e R s m args below meth c y ad D cI A cells slots Q tgt L rest sc ar) : x_G p l e R s m args below meth c y ad D cI A cells slots Q pc L rest sc ar :=
  fun H locs ls hl hP hS => lv_goto X.ex X.cd hdg ht (k H locs ls hl hP hS)
theorem xg_tableOut (X : x_X p R s m args meth c y ad D cI A cells slots) {dflt lo hi : Int} {offs : Array Int} {len : Nat} {x : Int32} {tgt : Nat} (hdg : decode y.2.1 pc = .ok (.tableswitch dflt lo hi offs, len)) (h : x.toInt < lo ∨ hi < x.toInt) (ht : (pc : Int) + dflt = (tgt : Int)) (k : x_G p l e R s m args below meth c y ad D cI A cells slots Q tgt L rest sc ar) : x_G p l e R s m args below meth c y ad D cI A cells slots Q pc L (.int x :: rest) sc ar :=
  fun H locs ls hl hP hS => lv_tableOut X.ex X.cd hdg h ht (k H locs ls hl hP hS)
theorem xg_tableIn (X : x_X p R s m args meth c y ad D cI A cells slots) {dflt lo hi : Int} {offs : Array Int} {len : Nat} {x : Int32} {off : Int} {tgt : Nat} (hdg : decode y.2.1 pc = .ok (.tableswitch dflt lo hi offs, len)) (h1 : ¬ x.toInt < lo) (h2 : ¬ hi < x.toInt) (ho : offs[(x.toInt - lo).toNat]? = some off) (ht : (pc : Int) + off = (tgt : Int)) (k : x_G p l e R s m args below meth c y ad D cI A cells slots Q tgt L rest sc ar) : x_G p l e R s m args below meth c y ad D cI A cells slots Q pc L (.int x :: rest) sc ar :=
  fun H locs ls hl hP hS => lv_tableIn X.ex X.cd hdg h1 h2 ho ht (k H locs ls hl hP hS)
theorem xg_lookup (X : x_X p R s m args meth c y ad D cI A cells slots) {dflt : Int} {ps : Array (Int × Int)} {len : Nat} {x : Int32} {off : Int} {tgt : Nat} (hdg : decode y.2.1 pc = .ok (.lookupswitch dflt ps, len)) (hp : (ps.toList.zip (ps.toList.drop 1)).all (fun (a, next) => a.1 < next.1) = true) (ho : Op.lookupswitch.offset ps.toList dflt x.toInt = off) (ht : (pc : Int) + off = (tgt : Int)) (k : x_G p l e R s m args below meth c y ad D cI A cells slots Q tgt L rest sc ar) : x_G p l e R s m args below meth c y ad D cI A cells slots Q pc L (.int x :: rest) sc ar :=
  fun H locs ls hl hP hS => lv_lookup X.ex X.cd hdg hp ho ht (k H locs ls hl hP hS)
theorem xg_get (X : x_X p R s m args meth c y ad D cI A cells slots) {a q0 ci index N k : Nat} {C : String} {T : u_T} {fs : List Value} {v : Value} (he : (x_wd ad cI sc ar)[q0]? = some (a, .inr (ci, fs))) (hc : x_Cl[ci]? = some (C, T, N)) (hin : ∀ w ∈ u_ws C T N, w ∈ x_tb) (hk : k < N) (hlink : Cond.fieldLink y.1.cls index (T k).1 (T k).2.1 (T k).2.2.1 ∈ x_tb) (hv : fs[k]? = some v) (hdg : decode y.2.1 pc = .ok (.getfield index, 3)) (kk : x_G p l e R s m args below meth c y ad D cI A cells slots Q (pc + 3) L (v :: rest) sc ar) : x_G p l e R s m args below meth c y ad D cI A cells slots Q pc L (.ref a :: rest) sc ar :=
  fun H locs ls hl hP hS => va_get X.ex X.cd X.ts hin X.own X.K hP q0 he hc k hk (X.ts _ hlink) (fun _ h => h) hv hdg (kk H locs ls hl hP hS)
theorem xg_put (X : x_X p R s m args meth c y ad D cI A cells slots) {a q0 ci index N k : Nat} {C : String} {T : u_T} {fs : List Value} {v : Value} {sc' : Nat → Int32} {ty : FieldType} {ty0 : Nat → FieldType} (he : (x_wd ad cI sc ar)[q0]? = some (a, .inr (ci, fs))) (hc : x_Cl[ci]? = some (C, T, N)) (hin : ∀ w ∈ u_ws C T N, w ∈ x_tb) (hty : ∀ k, k < N → parseFieldDescriptor (T k).2.2.1 = some (ty0 k)) (hnm : ∀ a, a < N → ∀ b, b < N → a ≠ b → (T a).2.1 ≠ (T b).2.1) (hk : k < N) (hlink : Cond.fieldLink y.1.cls index (T k).1 (T k).2.1 (T k).2.2.1 ∈ x_tb) (hfin : (T k).2.2.2 = false) (hd : parseFieldDescriptor (T k).2.2.1 = some ty) (hn : narrow ty v = v) (hfit : fits ty v = true) (hlen : k < fs.length) (hset : (x_wd ad cI sc ar).set q0 (a, .inr (ci, fs.set k v)) = x_wd ad cI sc' ar) (hdg : decode y.2.1 pc = .ok (.putfield index, 3)) (kk : x_G p l e R s m args below meth c y ad D cI A cells slots Q (pc + 3) L rest sc' ar) : x_G p l e R s m args below meth c y ad D cI A cells slots Q pc L (v :: .ref a :: rest) sc ar :=
  fun H locs ls hl hP hS => va_put X.ex X.cd X.ts hin ty0 hty hnm X.own X.K hP (x_D X.dis X.inA) hS q0 he hc k hk (X.ts _ hlink) (fun _ h => h) hfin hd hn hfit hlen hdg (fun H1 locs1 hP1 _ hS1 => kk H1 locs1 ls hl (hset ▸ hP1) hS1)
theorem xg_iald (X : x_X p R s m args meth c y ad D cI A cells slots) {a q0 n : Nat} {f : Nat → Int32} {i : Int32} (he : (x_wd ad cI sc ar)[q0]? = some (a, .inl (cI, n, .inl f))) (hdg : decode y.2.1 pc = .ok (.iaload, 1)) (hin : vp_in i n) (kk : x_G p l e R s m args below meth c y ad D cI A cells slots Q (pc + 1) L (.int (f i.toNatClampNeg) :: rest) sc ar) : x_G p l e R s m args below meth c y ad D cI A cells slots Q pc L (.int i :: .ref a :: rest) sc ar :=
  fun H locs ls hl hP hS => va_iald X.ex X.cd X.K hP q0 0 he rfl hin hdg (kk H locs ls hl hP hS)
theorem xg_iast (X : x_X p R s m args meth c y ad D cI A cells slots) {a q0 n : Nat} {f : Nat → Int32} {i x : Int32} {ar' : Nat → Nat → Int32} (he : (x_wd ad cI sc ar)[q0]? = some (a, .inl (cI, n, .inl f))) (hset : (x_wd ad cI sc ar).set q0 (a, .inl (cI, n, .inl (upd f i.toNatClampNeg x))) = x_wd ad cI sc ar') (hdg : decode y.2.1 pc = .ok (.iastore, 1)) (hin : vp_in i n) (kk : x_G p l e R s m args below meth c y ad D cI A cells slots Q (pc + 1) L rest sc ar') : x_G p l e R s m args below meth c y ad D cI A cells slots Q pc L (.int x :: .int i :: .ref a :: rest) sc ar :=
  fun H locs ls hl hP hS => va_iast X.ex X.cd X.K hP (x_D X.dis X.inA) hS q0 0 he rfl hin hdg (fun H1 locs1 hP1 _ hS1 => kk H1 locs1 ls hl (hset ▸ hP1) hS1)
theorem xg_alen (X : x_X p R s m args meth c y ad D cI A cells slots) {a q0 n : Nat} {f : Nat → Int32} {v : Int32} (he : (x_wd ad cI sc ar)[q0]? = some (a, .inl (cI, n, .inl f))) (hv : Int32.ofNat n = v) (hdg : decode y.2.1 pc = .ok (.arraylength, 1)) (kk : x_G p l e R s m args below meth c y ad D cI A cells slots Q (pc + 1) L (.int v :: rest) sc ar) : x_G p l e R s m args below meth c y ad D cI A cells slots Q pc L (.ref a :: rest) sc ar :=
  fun H locs ls hl hP hS => va_alen X.ex X.cd X.K hP q0 0 he rfl hv hdg (kk H locs ls hl hP hS)
theorem xg_iret (X : x_X p R s m args meth c y ad D cI (x_A ad) 0 0) {Post : Option Value → (Nat → Int32) → (Nat → Nat → Int32) → Prop} {v : Int32} {ty : FieldType} (hdg : decode y.2.1 pc = .ok (.ireturn, 1)) (hr : y.2.2.2 = some ty) (hn : narrow ty (.int v) = .int v) (hp : Post (some (.int v)) sc ar) : x_G p l e R s m args below meth c y ad D cI (x_A ad) 0 0 (x_Q below args s ad D cI Post) pc L [.int v] sc ar :=
  fun H locs ls hl hP hS => W.zret X.ex X.cd (X.ret.trans hr) hn (fun t ht hW => ⟨_, sc, ar, rfl, hp, by rw [ht]; exact hP, hS.F ht⟩) hS.2.2 hdg (hlocks := X.lk)
theorem xg_lret (X : x_X p R s m args meth c y ad D cI (x_A ad) 0 0) {Post : Option Value → (Nat → Int32) → (Nat → Nat → Int32) → Prop} {v : Int64} (hdg : decode y.2.1 pc = .ok (.lreturn, 1)) (hr : y.2.2.2 = some .long) (hp : Post (some (.long v)) sc ar) : x_G p l e R s m args below meth c y ad D cI (x_A ad) 0 0 (x_Q below args s ad D cI Post) pc L [.long v] sc ar :=
  fun H locs ls hl hP hS => W.lret X.ex X.cd (X.ret.trans hr) (fun t ht hW => ⟨_, sc, ar, rfl, hp, by rw [ht]; exact hP, hS.F ht⟩) hS.2.2 hdg (hlocks := X.lk)
theorem xg_vret (X : x_X p R s m args meth c y ad D cI (x_A ad) 0 0) {Post : Option Value → (Nat → Int32) → (Nat → Nat → Int32) → Prop} (hdg : decode y.2.1 pc = .ok (.return_, 1)) (hr : y.2.2.2 = none) (hp : Post none sc ar) : x_G p l e R s m args below meth c y ad D cI (x_A ad) 0 0 (x_Q below args s ad D cI Post) pc L [] sc ar :=
  fun H locs ls hl hP hS => W.vret X.ex X.cd (X.ret.trans hr) (fun t ht hW => ⟨_, sc, ar, rfl, hp, by rw [ht]; exact hP, hS.F ht⟩) hS.2.2 hdg (hlocks := X.lk)
theorem x_callW {Post : Option Value → (Nat → Int32) → (Nat → Nat → Int32) → Prop} {H : Heap} {locs : List Loc} {ls : Array Slot} {st0 : List Value} {a : Array Value} (hr : va_Run p l e R s m args below meth c H locs cells slots 0 0 (F0 m pc ls st0) rest (x_Qc ad D cI Post a) (x_A ad)) (hS : va_S A s.heap H locs) (hA : ∀ i, i < 12 → A (ad i))
    (kk : ∀ (r : Option Value) (sc' : Nat → Int32) (ar' : Nat → Nat → Int32) (H1 : Heap) (locs1 : List Loc), Post r sc' ar' → va_P D x_Cl (x_wd ad cI sc' ar') H1 → va_S A s.heap H1 locs1 → W p l e R s m args below meth c H1 locs1 cells slots Q (F0 m (pc + 3) ls (r.toList ++ rest))) : W p l e R s m args below meth c H locs cells slots Q (F0 m pc ls st0) := by
  have hAA : ∀ q, x_A ad q → A q := fun q hq => by
    obtain ⟨i, h1, h2⟩ := hq
    rw [h2]; exact hA i h1
  intro T hT X
  obtain ⟨v, st₀, t, T', L, h0, X', hL, e1, e2, ⟨r, sc', ar', hv, hp, hw, hz, hk⟩, st⟩ := hr T hT X
  cases hv
  rw [h0] at hz hk
  obtain ⟨t2, a1, b1⟩ := kk v sc' ar' T'.heap (locs ++ L) hp (by rw [e1]; exact hw)
    ⟨Nat.le_trans hS.1 (by rw [e1]; exact hz), fun q h1 h2 => by rw [e1, hk q (Nat.lt_of_lt_of_le h1 hS.1) (fun z => h2 (hAA q z))]; exact hS.2.1 q h1 h2, fun q hq => by
      rcases List.mem_append.mp hq with h | h
      · exact hS.2.2 q h
      · exact hAA _ (hL q h)⟩ T' rfl X'
  exact ⟨t2, st t2 a1, b1⟩
def x_good (ws : List Cond) : Bool := ws.all fun w => decide (w ∈ x_tb) && goodWord w
theorem x_pair {a : List Cond} {w : Cond} (h0 : GoodIn x_tb x_tb) (h : x_good (a ++ [w]) = true) : GoodIn x_tb (a ++ (w :: x_tb)) := by
  have h1 := goodIn_of (a ++ [w]) h
  intro z hz
  rcases List.mem_append.mp hz with h2 | h2
  · exact h1 z (List.mem_append_left _ h2)
  · rcases List.mem_cons.mp h2 with h3 | h3
    · exact h1 z (List.mem_append_right _ (by rw [h3]; exact List.mem_singleton_self _))
    · exact h0 z h3
def x_siteV (own : String) (index : Nat) (C : String) (y : x_M) (n : Nat) : Prop := x_good (wsV own index C y.1 [Cond.code y.1 y.2.1 y.2.2.1 y.2.2.2]) = true ∧ (y.1.cls = C ∧ y.1.cls ≠ "java/lang/invoke/MethodHandle" ∧ y.1.cls ≠ "java/lang/invoke/VarHandle" ∧ (parseMethodDescriptor y.1.desc).map (fun d => d.parameters.length) = some n)
def x_siteS (own : String) (index : Nat) (y : x_M) (n : Nat) : Prop := x_good (va_wsS own index y.1 [Cond.code y.1 y.2.1 y.2.2.1 y.2.2.2]) = true ∧ (y.1.cls ≠ "java/lang/invoke/MethodHandle" ∧ y.1.cls ≠ "java/lang/invoke/VarHandle" ∧ (parseMethodDescriptor y.1.desc).map (fun d => d.parameters.length) = some n)
theorem xg_callV (X : x_X p R s m args meth c y ad D cI A cells slots) {Post : Option Value → (Nat → Int32) → (Nat → Nat → Int32) → Prop} {y2 : x_M} {fr lo index n q0 ci N : Nat} {C : String} {T : u_T} {As st0 : List Value} (hC : x_Con l y2 fr lo ad D cI (.ref (ad q0) :: As) sc ar Post) (hs : x_siteV y.1.cls index C y2 n) (hrc : ∃ fs, (x_wd ad cI sc ar)[q0]? = some (ad q0, .inr (ci, fs))) (hcl : x_Cl[ci]? = some (C, T, N)) (hn : As.length = n) (hR : fr + 1 ≤ R.frames ∧ 8 + (y2.2.2.1 + 11) + lo ≤ R.locals) (hst : st0 = As.reverse ++ .ref (ad q0) :: rest) (hcat : (rest.map fun v => v.category).sum ≤ 8) (hdg : decode y.2.1 pc = .ok (.invokevirtual index, 3)) (k : ∀ r sc' ar', Post r sc' ar' → x_G p l e R s m args below meth c y ad D cI A cells slots Q (pc + 3) L (r.toList ++ rest) sc' ar') : x_G p l e R s m args below meth c y ad D cI A cells slots Q pc L st0 sc ar := by
  intro H locs ls hl hP hS
  obtain ⟨fs, he⟩ := hrc
  have cw := cwV (R := R) (mc := 0) (ms := 0) (rm := x_rm fr lo) (ws := Cond.code y2.1 y2.2.1 y2.2.2.1 y2.2.2.2 :: x_tb) (own := y.1.cls) (index := index) (C := C) (y := y2.1) n X.ts (x_pair x_g0 hs.1) rfl rfl rfl hs.2 hR
  refine x_callW (va_runV (As := As) (rest := rest) ⟨X.ex, X.cd, X.ml, X.own, X.ts⟩ hC cw ⟨fun a U g mk q => ⟨q.1, q.2.1, va_K.moved (u := U) (U := U.calling g mk a) (Vm.Alike.refl U.vm) q.2.2⟩, va_recv X.K hP hcl he, fun U hU hW => ⟨rfl, by rw [hU]; exact hP, va_K.moved hW.alike X.K⟩⟩ rfl hn hl.1 hst (lv_room hcat) hdg X.cl) hS X.inA ?_
  intro r sc' ar' H1 locs1 hp hP1 hS1
  exact k r sc' ar' hp H1 locs1 ls hl hP1 hS1
theorem xg_callS (X : x_X p R s m args meth c y ad D cI A cells slots) {Post : Option Value → (Nat → Int32) → (Nat → Nat → Int32) → Prop} {y2 : x_M} {fr lo index n : Nat} {As st0 : List Value} (hC : x_Con l y2 fr lo ad D cI As sc ar Post) (hs : x_siteS y.1.cls index y2 n) (hn : As.length = n) (hR : fr + 1 ≤ R.frames ∧ 8 + (y2.2.2.1 + 11) + lo ≤ R.locals) (hst : st0 = As.reverse ++ rest) (hcat : (rest.map fun v => v.category).sum ≤ 8) (hdg : decode y.2.1 pc = .ok (.invokestatic index, 3)) (k : ∀ r sc' ar', Post r sc' ar' → x_G p l e R s m args below meth c y ad D cI A cells slots Q (pc + 3) L (r.toList ++ rest) sc' ar') : x_G p l e R s m args below meth c y ad D cI A cells slots Q pc L st0 sc ar := by
  intro H locs ls hl hP hS
  have cw := va_cwS (R := R) (mc := 0) (ms := 0) (rm := x_rm fr lo) (ws := Cond.code y2.1 y2.2.1 y2.2.2.1 y2.2.2.2 :: x_tb) (own := y.1.cls) (index := index) (y := y2.1) n X.ts (x_pair x_g0 hs.1) rfl rfl rfl hs.2 hR
  refine x_callW (va_runS (As := As) (rest := rest) ⟨X.ex, X.cd, X.ml, X.own, X.ts⟩ hC cw ⟨fun a U g mk q => ⟨q.1, q.2.1, va_K.moved (u := U) (U := U.calling g mk a) (Vm.Alike.refl U.vm) q.2.2⟩, fun U hU hW => ⟨rfl, by rw [hU]; exact hP, va_K.moved hW.alike X.K⟩⟩ rfl hn hl.1 hst (lv_room hcat) hdg X.cl) hS X.inA ?_
  intro r sc' ar' H1 locs1 hp hP1 hS1
  exact k r sc' ar' hp H1 locs1 ls hl hP1 hS1
theorem xg_cV0 (X : x_X p R s m args meth c y ad D cI A cells slots) {Post : Option Value → (Nat → Int32) → (Nat → Nat → Int32) → Prop} {y2 : x_M} {fr lo index : Nat} {q0 ci N : Nat} {C : String} {T : u_T} (hdg : decode y.2.1 pc = .ok (.invokevirtual index, 3)) (hC : x_Con l y2 fr lo ad D cI (.ref (ad q0) :: []) sc ar Post) (hs : x_siteV y.1.cls index C y2 0) (hrc : ∃ fs, (x_wd ad cI sc ar)[q0]? = some (ad q0, .inr (ci, fs))) (hcl : x_Cl[ci]? = some (C, T, N)) (hR : fr + 1 ≤ R.frames ∧ 8 + (y2.2.2.1 + 11) + lo ≤ R.locals) (hcat : (rest.map fun v => v.category).sum ≤ 8) (k : ∀ r sc' ar', Post r sc' ar' → x_G p l e R s m args below meth c y ad D cI A cells slots Q (pc + 3) L (r.toList ++ rest) sc' ar') : x_G p l e R s m args below meth c y ad D cI A cells slots Q pc L (.ref (ad q0) :: rest) sc ar :=
  xg_callV X hC hs hrc hcl rfl hR rfl hcat hdg k
theorem xg_crV0 (X : x_X p R s m args meth c y ad D cI A cells slots) {v : Value} {sc2 : Nat → Int32} {ar2 : Nat → Nat → Int32} {y2 : x_M} {fr lo index : Nat} {q0 ci N : Nat} {C : String} {T : u_T} (hdg : decode y.2.1 pc = .ok (.invokevirtual index, 3)) (hC : x_Con l y2 fr lo ad D cI (.ref (ad q0) :: []) sc ar (x_E (some v) sc2 ar2)) (hs : x_siteV y.1.cls index C y2 0) (hrc : ∃ fs, (x_wd ad cI sc ar)[q0]? = some (ad q0, .inr (ci, fs))) (hcl : x_Cl[ci]? = some (C, T, N)) (hR : fr + 1 ≤ R.frames ∧ 8 + (y2.2.2.1 + 11) + lo ≤ R.locals) (hcat : (rest.map fun v => v.category).sum ≤ 8) (k : x_G p l e R s m args below meth c y ad D cI A cells slots Q (pc + 3) L (v :: rest) sc2 ar2) : x_G p l e R s m args below meth c y ad D cI A cells slots Q pc L (.ref (ad q0) :: rest) sc ar :=
  xg_callV X hC hs hrc hcl rfl hR rfl hcat hdg (fun r sc' ar' h => by obtain ⟨rfl, rfl, rfl⟩ := h; exact k)
theorem xg_cvV0 (X : x_X p R s m args meth c y ad D cI A cells slots) {sc2 : Nat → Int32} {ar2 : Nat → Nat → Int32} {y2 : x_M} {fr lo index : Nat} {q0 ci N : Nat} {C : String} {T : u_T} (hdg : decode y.2.1 pc = .ok (.invokevirtual index, 3)) (hC : x_Con l y2 fr lo ad D cI (.ref (ad q0) :: []) sc ar (x_E none sc2 ar2)) (hs : x_siteV y.1.cls index C y2 0) (hrc : ∃ fs, (x_wd ad cI sc ar)[q0]? = some (ad q0, .inr (ci, fs))) (hcl : x_Cl[ci]? = some (C, T, N)) (hR : fr + 1 ≤ R.frames ∧ 8 + (y2.2.2.1 + 11) + lo ≤ R.locals) (hcat : (rest.map fun v => v.category).sum ≤ 8) (k : x_G p l e R s m args below meth c y ad D cI A cells slots Q (pc + 3) L rest sc2 ar2) : x_G p l e R s m args below meth c y ad D cI A cells slots Q pc L (.ref (ad q0) :: rest) sc ar :=
  xg_callV X hC hs hrc hcl rfl hR rfl hcat hdg (fun r sc' ar' h => by obtain ⟨rfl, rfl, rfl⟩ := h; exact k)
theorem xg_cS0 (X : x_X p R s m args meth c y ad D cI A cells slots) {Post : Option Value → (Nat → Int32) → (Nat → Nat → Int32) → Prop} {y2 : x_M} {fr lo index : Nat} (hdg : decode y.2.1 pc = .ok (.invokestatic index, 3)) (hC : x_Con l y2 fr lo ad D cI [] sc ar Post) (hs : x_siteS y.1.cls index y2 0) (hR : fr + 1 ≤ R.frames ∧ 8 + (y2.2.2.1 + 11) + lo ≤ R.locals) (hcat : (rest.map fun v => v.category).sum ≤ 8) (k : ∀ r sc' ar', Post r sc' ar' → x_G p l e R s m args below meth c y ad D cI A cells slots Q (pc + 3) L (r.toList ++ rest) sc' ar') : x_G p l e R s m args below meth c y ad D cI A cells slots Q pc L (rest) sc ar :=
  xg_callS X hC hs rfl hR rfl hcat hdg k
theorem xg_crS0 (X : x_X p R s m args meth c y ad D cI A cells slots) {v : Value} {sc2 : Nat → Int32} {ar2 : Nat → Nat → Int32} {y2 : x_M} {fr lo index : Nat} (hdg : decode y.2.1 pc = .ok (.invokestatic index, 3)) (hC : x_Con l y2 fr lo ad D cI [] sc ar (x_E (some v) sc2 ar2)) (hs : x_siteS y.1.cls index y2 0) (hR : fr + 1 ≤ R.frames ∧ 8 + (y2.2.2.1 + 11) + lo ≤ R.locals) (hcat : (rest.map fun v => v.category).sum ≤ 8) (k : x_G p l e R s m args below meth c y ad D cI A cells slots Q (pc + 3) L (v :: rest) sc2 ar2) : x_G p l e R s m args below meth c y ad D cI A cells slots Q pc L (rest) sc ar :=
  xg_callS X hC hs rfl hR rfl hcat hdg (fun r sc' ar' h => by obtain ⟨rfl, rfl, rfl⟩ := h; exact k)
theorem xg_cvS0 (X : x_X p R s m args meth c y ad D cI A cells slots) {sc2 : Nat → Int32} {ar2 : Nat → Nat → Int32} {y2 : x_M} {fr lo index : Nat} (hdg : decode y.2.1 pc = .ok (.invokestatic index, 3)) (hC : x_Con l y2 fr lo ad D cI [] sc ar (x_E none sc2 ar2)) (hs : x_siteS y.1.cls index y2 0) (hR : fr + 1 ≤ R.frames ∧ 8 + (y2.2.2.1 + 11) + lo ≤ R.locals) (hcat : (rest.map fun v => v.category).sum ≤ 8) (k : x_G p l e R s m args below meth c y ad D cI A cells slots Q (pc + 3) L rest sc2 ar2) : x_G p l e R s m args below meth c y ad D cI A cells slots Q pc L (rest) sc ar :=
  xg_callS X hC hs rfl hR rfl hcat hdg (fun r sc' ar' h => by obtain ⟨rfl, rfl, rfl⟩ := h; exact k)
theorem xg_cV1 (X : x_X p R s m args meth c y ad D cI A cells slots) {Post : Option Value → (Nat → Int32) → (Nat → Nat → Int32) → Prop} {y2 : x_M} {fr lo index : Nat} {q0 ci N : Nat} {C : String} {T : u_T} {a1 : Value} (hdg : decode y.2.1 pc = .ok (.invokevirtual index, 3)) (hC : x_Con l y2 fr lo ad D cI (.ref (ad q0) :: [a1]) sc ar Post) (hs : x_siteV y.1.cls index C y2 1) (hrc : ∃ fs, (x_wd ad cI sc ar)[q0]? = some (ad q0, .inr (ci, fs))) (hcl : x_Cl[ci]? = some (C, T, N)) (hR : fr + 1 ≤ R.frames ∧ 8 + (y2.2.2.1 + 11) + lo ≤ R.locals) (hcat : (rest.map fun v => v.category).sum ≤ 8) (k : ∀ r sc' ar', Post r sc' ar' → x_G p l e R s m args below meth c y ad D cI A cells slots Q (pc + 3) L (r.toList ++ rest) sc' ar') : x_G p l e R s m args below meth c y ad D cI A cells slots Q pc L (a1 :: .ref (ad q0) :: rest) sc ar :=
  xg_callV X hC hs hrc hcl rfl hR rfl hcat hdg k
theorem xg_crV1 (X : x_X p R s m args meth c y ad D cI A cells slots) {v : Value} {sc2 : Nat → Int32} {ar2 : Nat → Nat → Int32} {y2 : x_M} {fr lo index : Nat} {q0 ci N : Nat} {C : String} {T : u_T} {a1 : Value} (hdg : decode y.2.1 pc = .ok (.invokevirtual index, 3)) (hC : x_Con l y2 fr lo ad D cI (.ref (ad q0) :: [a1]) sc ar (x_E (some v) sc2 ar2)) (hs : x_siteV y.1.cls index C y2 1) (hrc : ∃ fs, (x_wd ad cI sc ar)[q0]? = some (ad q0, .inr (ci, fs))) (hcl : x_Cl[ci]? = some (C, T, N)) (hR : fr + 1 ≤ R.frames ∧ 8 + (y2.2.2.1 + 11) + lo ≤ R.locals) (hcat : (rest.map fun v => v.category).sum ≤ 8) (k : x_G p l e R s m args below meth c y ad D cI A cells slots Q (pc + 3) L (v :: rest) sc2 ar2) : x_G p l e R s m args below meth c y ad D cI A cells slots Q pc L (a1 :: .ref (ad q0) :: rest) sc ar :=
  xg_callV X hC hs hrc hcl rfl hR rfl hcat hdg (fun r sc' ar' h => by obtain ⟨rfl, rfl, rfl⟩ := h; exact k)
theorem xg_cvV1 (X : x_X p R s m args meth c y ad D cI A cells slots) {sc2 : Nat → Int32} {ar2 : Nat → Nat → Int32} {y2 : x_M} {fr lo index : Nat} {q0 ci N : Nat} {C : String} {T : u_T} {a1 : Value} (hdg : decode y.2.1 pc = .ok (.invokevirtual index, 3)) (hC : x_Con l y2 fr lo ad D cI (.ref (ad q0) :: [a1]) sc ar (x_E none sc2 ar2)) (hs : x_siteV y.1.cls index C y2 1) (hrc : ∃ fs, (x_wd ad cI sc ar)[q0]? = some (ad q0, .inr (ci, fs))) (hcl : x_Cl[ci]? = some (C, T, N)) (hR : fr + 1 ≤ R.frames ∧ 8 + (y2.2.2.1 + 11) + lo ≤ R.locals) (hcat : (rest.map fun v => v.category).sum ≤ 8) (k : x_G p l e R s m args below meth c y ad D cI A cells slots Q (pc + 3) L rest sc2 ar2) : x_G p l e R s m args below meth c y ad D cI A cells slots Q pc L (a1 :: .ref (ad q0) :: rest) sc ar :=
  xg_callV X hC hs hrc hcl rfl hR rfl hcat hdg (fun r sc' ar' h => by obtain ⟨rfl, rfl, rfl⟩ := h; exact k)
theorem xg_cS1 (X : x_X p R s m args meth c y ad D cI A cells slots) {Post : Option Value → (Nat → Int32) → (Nat → Nat → Int32) → Prop} {y2 : x_M} {fr lo index : Nat} {a1 : Value} (hdg : decode y.2.1 pc = .ok (.invokestatic index, 3)) (hC : x_Con l y2 fr lo ad D cI [a1] sc ar Post) (hs : x_siteS y.1.cls index y2 1) (hR : fr + 1 ≤ R.frames ∧ 8 + (y2.2.2.1 + 11) + lo ≤ R.locals) (hcat : (rest.map fun v => v.category).sum ≤ 8) (k : ∀ r sc' ar', Post r sc' ar' → x_G p l e R s m args below meth c y ad D cI A cells slots Q (pc + 3) L (r.toList ++ rest) sc' ar') : x_G p l e R s m args below meth c y ad D cI A cells slots Q pc L (a1 :: rest) sc ar :=
  xg_callS X hC hs rfl hR rfl hcat hdg k
theorem xg_crS1 (X : x_X p R s m args meth c y ad D cI A cells slots) {v : Value} {sc2 : Nat → Int32} {ar2 : Nat → Nat → Int32} {y2 : x_M} {fr lo index : Nat} {a1 : Value} (hdg : decode y.2.1 pc = .ok (.invokestatic index, 3)) (hC : x_Con l y2 fr lo ad D cI [a1] sc ar (x_E (some v) sc2 ar2)) (hs : x_siteS y.1.cls index y2 1) (hR : fr + 1 ≤ R.frames ∧ 8 + (y2.2.2.1 + 11) + lo ≤ R.locals) (hcat : (rest.map fun v => v.category).sum ≤ 8) (k : x_G p l e R s m args below meth c y ad D cI A cells slots Q (pc + 3) L (v :: rest) sc2 ar2) : x_G p l e R s m args below meth c y ad D cI A cells slots Q pc L (a1 :: rest) sc ar :=
  xg_callS X hC hs rfl hR rfl hcat hdg (fun r sc' ar' h => by obtain ⟨rfl, rfl, rfl⟩ := h; exact k)
theorem xg_cvS1 (X : x_X p R s m args meth c y ad D cI A cells slots) {sc2 : Nat → Int32} {ar2 : Nat → Nat → Int32} {y2 : x_M} {fr lo index : Nat} {a1 : Value} (hdg : decode y.2.1 pc = .ok (.invokestatic index, 3)) (hC : x_Con l y2 fr lo ad D cI [a1] sc ar (x_E none sc2 ar2)) (hs : x_siteS y.1.cls index y2 1) (hR : fr + 1 ≤ R.frames ∧ 8 + (y2.2.2.1 + 11) + lo ≤ R.locals) (hcat : (rest.map fun v => v.category).sum ≤ 8) (k : x_G p l e R s m args below meth c y ad D cI A cells slots Q (pc + 3) L rest sc2 ar2) : x_G p l e R s m args below meth c y ad D cI A cells slots Q pc L (a1 :: rest) sc ar :=
  xg_callS X hC hs rfl hR rfl hcat hdg (fun r sc' ar' h => by obtain ⟨rfl, rfl, rfl⟩ := h; exact k)
theorem xg_cV2 (X : x_X p R s m args meth c y ad D cI A cells slots) {Post : Option Value → (Nat → Int32) → (Nat → Nat → Int32) → Prop} {y2 : x_M} {fr lo index : Nat} {q0 ci N : Nat} {C : String} {T : u_T} {a1 a2 : Value} (hdg : decode y.2.1 pc = .ok (.invokevirtual index, 3)) (hC : x_Con l y2 fr lo ad D cI (.ref (ad q0) :: [a1, a2]) sc ar Post) (hs : x_siteV y.1.cls index C y2 2) (hrc : ∃ fs, (x_wd ad cI sc ar)[q0]? = some (ad q0, .inr (ci, fs))) (hcl : x_Cl[ci]? = some (C, T, N)) (hR : fr + 1 ≤ R.frames ∧ 8 + (y2.2.2.1 + 11) + lo ≤ R.locals) (hcat : (rest.map fun v => v.category).sum ≤ 8) (k : ∀ r sc' ar', Post r sc' ar' → x_G p l e R s m args below meth c y ad D cI A cells slots Q (pc + 3) L (r.toList ++ rest) sc' ar') : x_G p l e R s m args below meth c y ad D cI A cells slots Q pc L (a2 :: a1 :: .ref (ad q0) :: rest) sc ar :=
  xg_callV X hC hs hrc hcl rfl hR rfl hcat hdg k
theorem xg_crV2 (X : x_X p R s m args meth c y ad D cI A cells slots) {v : Value} {sc2 : Nat → Int32} {ar2 : Nat → Nat → Int32} {y2 : x_M} {fr lo index : Nat} {q0 ci N : Nat} {C : String} {T : u_T} {a1 a2 : Value} (hdg : decode y.2.1 pc = .ok (.invokevirtual index, 3)) (hC : x_Con l y2 fr lo ad D cI (.ref (ad q0) :: [a1, a2]) sc ar (x_E (some v) sc2 ar2)) (hs : x_siteV y.1.cls index C y2 2) (hrc : ∃ fs, (x_wd ad cI sc ar)[q0]? = some (ad q0, .inr (ci, fs))) (hcl : x_Cl[ci]? = some (C, T, N)) (hR : fr + 1 ≤ R.frames ∧ 8 + (y2.2.2.1 + 11) + lo ≤ R.locals) (hcat : (rest.map fun v => v.category).sum ≤ 8) (k : x_G p l e R s m args below meth c y ad D cI A cells slots Q (pc + 3) L (v :: rest) sc2 ar2) : x_G p l e R s m args below meth c y ad D cI A cells slots Q pc L (a2 :: a1 :: .ref (ad q0) :: rest) sc ar :=
  xg_callV X hC hs hrc hcl rfl hR rfl hcat hdg (fun r sc' ar' h => by obtain ⟨rfl, rfl, rfl⟩ := h; exact k)
theorem xg_cvV2 (X : x_X p R s m args meth c y ad D cI A cells slots) {sc2 : Nat → Int32} {ar2 : Nat → Nat → Int32} {y2 : x_M} {fr lo index : Nat} {q0 ci N : Nat} {C : String} {T : u_T} {a1 a2 : Value} (hdg : decode y.2.1 pc = .ok (.invokevirtual index, 3)) (hC : x_Con l y2 fr lo ad D cI (.ref (ad q0) :: [a1, a2]) sc ar (x_E none sc2 ar2)) (hs : x_siteV y.1.cls index C y2 2) (hrc : ∃ fs, (x_wd ad cI sc ar)[q0]? = some (ad q0, .inr (ci, fs))) (hcl : x_Cl[ci]? = some (C, T, N)) (hR : fr + 1 ≤ R.frames ∧ 8 + (y2.2.2.1 + 11) + lo ≤ R.locals) (hcat : (rest.map fun v => v.category).sum ≤ 8) (k : x_G p l e R s m args below meth c y ad D cI A cells slots Q (pc + 3) L rest sc2 ar2) : x_G p l e R s m args below meth c y ad D cI A cells slots Q pc L (a2 :: a1 :: .ref (ad q0) :: rest) sc ar :=
  xg_callV X hC hs hrc hcl rfl hR rfl hcat hdg (fun r sc' ar' h => by obtain ⟨rfl, rfl, rfl⟩ := h; exact k)
theorem xg_cS2 (X : x_X p R s m args meth c y ad D cI A cells slots) {Post : Option Value → (Nat → Int32) → (Nat → Nat → Int32) → Prop} {y2 : x_M} {fr lo index : Nat} {a1 a2 : Value} (hdg : decode y.2.1 pc = .ok (.invokestatic index, 3)) (hC : x_Con l y2 fr lo ad D cI [a1, a2] sc ar Post) (hs : x_siteS y.1.cls index y2 2) (hR : fr + 1 ≤ R.frames ∧ 8 + (y2.2.2.1 + 11) + lo ≤ R.locals) (hcat : (rest.map fun v => v.category).sum ≤ 8) (k : ∀ r sc' ar', Post r sc' ar' → x_G p l e R s m args below meth c y ad D cI A cells slots Q (pc + 3) L (r.toList ++ rest) sc' ar') : x_G p l e R s m args below meth c y ad D cI A cells slots Q pc L (a2 :: a1 :: rest) sc ar :=
  xg_callS X hC hs rfl hR rfl hcat hdg k
theorem xg_crS2 (X : x_X p R s m args meth c y ad D cI A cells slots) {v : Value} {sc2 : Nat → Int32} {ar2 : Nat → Nat → Int32} {y2 : x_M} {fr lo index : Nat} {a1 a2 : Value} (hdg : decode y.2.1 pc = .ok (.invokestatic index, 3)) (hC : x_Con l y2 fr lo ad D cI [a1, a2] sc ar (x_E (some v) sc2 ar2)) (hs : x_siteS y.1.cls index y2 2) (hR : fr + 1 ≤ R.frames ∧ 8 + (y2.2.2.1 + 11) + lo ≤ R.locals) (hcat : (rest.map fun v => v.category).sum ≤ 8) (k : x_G p l e R s m args below meth c y ad D cI A cells slots Q (pc + 3) L (v :: rest) sc2 ar2) : x_G p l e R s m args below meth c y ad D cI A cells slots Q pc L (a2 :: a1 :: rest) sc ar :=
  xg_callS X hC hs rfl hR rfl hcat hdg (fun r sc' ar' h => by obtain ⟨rfl, rfl, rfl⟩ := h; exact k)
theorem xg_cvS2 (X : x_X p R s m args meth c y ad D cI A cells slots) {sc2 : Nat → Int32} {ar2 : Nat → Nat → Int32} {y2 : x_M} {fr lo index : Nat} {a1 a2 : Value} (hdg : decode y.2.1 pc = .ok (.invokestatic index, 3)) (hC : x_Con l y2 fr lo ad D cI [a1, a2] sc ar (x_E none sc2 ar2)) (hs : x_siteS y.1.cls index y2 2) (hR : fr + 1 ≤ R.frames ∧ 8 + (y2.2.2.1 + 11) + lo ≤ R.locals) (hcat : (rest.map fun v => v.category).sum ≤ 8) (k : x_G p l e R s m args below meth c y ad D cI A cells slots Q (pc + 3) L rest sc2 ar2) : x_G p l e R s m args below meth c y ad D cI A cells slots Q pc L (a2 :: a1 :: rest) sc ar :=
  xg_callS X hC hs rfl hR rfl hcat hdg (fun r sc' ar' h => by obtain ⟨rfl, rfl, rfl⟩ := h; exact k)
theorem xg_cV3 (X : x_X p R s m args meth c y ad D cI A cells slots) {Post : Option Value → (Nat → Int32) → (Nat → Nat → Int32) → Prop} {y2 : x_M} {fr lo index : Nat} {q0 ci N : Nat} {C : String} {T : u_T} {a1 a2 a3 : Value} (hdg : decode y.2.1 pc = .ok (.invokevirtual index, 3)) (hC : x_Con l y2 fr lo ad D cI (.ref (ad q0) :: [a1, a2, a3]) sc ar Post) (hs : x_siteV y.1.cls index C y2 3) (hrc : ∃ fs, (x_wd ad cI sc ar)[q0]? = some (ad q0, .inr (ci, fs))) (hcl : x_Cl[ci]? = some (C, T, N)) (hR : fr + 1 ≤ R.frames ∧ 8 + (y2.2.2.1 + 11) + lo ≤ R.locals) (hcat : (rest.map fun v => v.category).sum ≤ 8) (k : ∀ r sc' ar', Post r sc' ar' → x_G p l e R s m args below meth c y ad D cI A cells slots Q (pc + 3) L (r.toList ++ rest) sc' ar') : x_G p l e R s m args below meth c y ad D cI A cells slots Q pc L (a3 :: a2 :: a1 :: .ref (ad q0) :: rest) sc ar :=
  xg_callV X hC hs hrc hcl rfl hR rfl hcat hdg k
theorem xg_crV3 (X : x_X p R s m args meth c y ad D cI A cells slots) {v : Value} {sc2 : Nat → Int32} {ar2 : Nat → Nat → Int32} {y2 : x_M} {fr lo index : Nat} {q0 ci N : Nat} {C : String} {T : u_T} {a1 a2 a3 : Value} (hdg : decode y.2.1 pc = .ok (.invokevirtual index, 3)) (hC : x_Con l y2 fr lo ad D cI (.ref (ad q0) :: [a1, a2, a3]) sc ar (x_E (some v) sc2 ar2)) (hs : x_siteV y.1.cls index C y2 3) (hrc : ∃ fs, (x_wd ad cI sc ar)[q0]? = some (ad q0, .inr (ci, fs))) (hcl : x_Cl[ci]? = some (C, T, N)) (hR : fr + 1 ≤ R.frames ∧ 8 + (y2.2.2.1 + 11) + lo ≤ R.locals) (hcat : (rest.map fun v => v.category).sum ≤ 8) (k : x_G p l e R s m args below meth c y ad D cI A cells slots Q (pc + 3) L (v :: rest) sc2 ar2) : x_G p l e R s m args below meth c y ad D cI A cells slots Q pc L (a3 :: a2 :: a1 :: .ref (ad q0) :: rest) sc ar :=
  xg_callV X hC hs hrc hcl rfl hR rfl hcat hdg (fun r sc' ar' h => by obtain ⟨rfl, rfl, rfl⟩ := h; exact k)
theorem xg_cvV3 (X : x_X p R s m args meth c y ad D cI A cells slots) {sc2 : Nat → Int32} {ar2 : Nat → Nat → Int32} {y2 : x_M} {fr lo index : Nat} {q0 ci N : Nat} {C : String} {T : u_T} {a1 a2 a3 : Value} (hdg : decode y.2.1 pc = .ok (.invokevirtual index, 3)) (hC : x_Con l y2 fr lo ad D cI (.ref (ad q0) :: [a1, a2, a3]) sc ar (x_E none sc2 ar2)) (hs : x_siteV y.1.cls index C y2 3) (hrc : ∃ fs, (x_wd ad cI sc ar)[q0]? = some (ad q0, .inr (ci, fs))) (hcl : x_Cl[ci]? = some (C, T, N)) (hR : fr + 1 ≤ R.frames ∧ 8 + (y2.2.2.1 + 11) + lo ≤ R.locals) (hcat : (rest.map fun v => v.category).sum ≤ 8) (k : x_G p l e R s m args below meth c y ad D cI A cells slots Q (pc + 3) L rest sc2 ar2) : x_G p l e R s m args below meth c y ad D cI A cells slots Q pc L (a3 :: a2 :: a1 :: .ref (ad q0) :: rest) sc ar :=
  xg_callV X hC hs hrc hcl rfl hR rfl hcat hdg (fun r sc' ar' h => by obtain ⟨rfl, rfl, rfl⟩ := h; exact k)
theorem xg_cS3 (X : x_X p R s m args meth c y ad D cI A cells slots) {Post : Option Value → (Nat → Int32) → (Nat → Nat → Int32) → Prop} {y2 : x_M} {fr lo index : Nat} {a1 a2 a3 : Value} (hdg : decode y.2.1 pc = .ok (.invokestatic index, 3)) (hC : x_Con l y2 fr lo ad D cI [a1, a2, a3] sc ar Post) (hs : x_siteS y.1.cls index y2 3) (hR : fr + 1 ≤ R.frames ∧ 8 + (y2.2.2.1 + 11) + lo ≤ R.locals) (hcat : (rest.map fun v => v.category).sum ≤ 8) (k : ∀ r sc' ar', Post r sc' ar' → x_G p l e R s m args below meth c y ad D cI A cells slots Q (pc + 3) L (r.toList ++ rest) sc' ar') : x_G p l e R s m args below meth c y ad D cI A cells slots Q pc L (a3 :: a2 :: a1 :: rest) sc ar :=
  xg_callS X hC hs rfl hR rfl hcat hdg k
theorem xg_crS3 (X : x_X p R s m args meth c y ad D cI A cells slots) {v : Value} {sc2 : Nat → Int32} {ar2 : Nat → Nat → Int32} {y2 : x_M} {fr lo index : Nat} {a1 a2 a3 : Value} (hdg : decode y.2.1 pc = .ok (.invokestatic index, 3)) (hC : x_Con l y2 fr lo ad D cI [a1, a2, a3] sc ar (x_E (some v) sc2 ar2)) (hs : x_siteS y.1.cls index y2 3) (hR : fr + 1 ≤ R.frames ∧ 8 + (y2.2.2.1 + 11) + lo ≤ R.locals) (hcat : (rest.map fun v => v.category).sum ≤ 8) (k : x_G p l e R s m args below meth c y ad D cI A cells slots Q (pc + 3) L (v :: rest) sc2 ar2) : x_G p l e R s m args below meth c y ad D cI A cells slots Q pc L (a3 :: a2 :: a1 :: rest) sc ar :=
  xg_callS X hC hs rfl hR rfl hcat hdg (fun r sc' ar' h => by obtain ⟨rfl, rfl, rfl⟩ := h; exact k)
theorem xg_cvS3 (X : x_X p R s m args meth c y ad D cI A cells slots) {sc2 : Nat → Int32} {ar2 : Nat → Nat → Int32} {y2 : x_M} {fr lo index : Nat} {a1 a2 a3 : Value} (hdg : decode y.2.1 pc = .ok (.invokestatic index, 3)) (hC : x_Con l y2 fr lo ad D cI [a1, a2, a3] sc ar (x_E none sc2 ar2)) (hs : x_siteS y.1.cls index y2 3) (hR : fr + 1 ≤ R.frames ∧ 8 + (y2.2.2.1 + 11) + lo ≤ R.locals) (hcat : (rest.map fun v => v.category).sum ≤ 8) (k : x_G p l e R s m args below meth c y ad D cI A cells slots Q (pc + 3) L rest sc2 ar2) : x_G p l e R s m args below meth c y ad D cI A cells slots Q pc L (a3 :: a2 :: a1 :: rest) sc ar :=
  xg_callS X hC hs rfl hR rfl hcat hdg (fun r sc' ar' h => by obtain ⟨rfl, rfl, rfl⟩ := h; exact k)
theorem xg_cV4 (X : x_X p R s m args meth c y ad D cI A cells slots) {Post : Option Value → (Nat → Int32) → (Nat → Nat → Int32) → Prop} {y2 : x_M} {fr lo index : Nat} {q0 ci N : Nat} {C : String} {T : u_T} {a1 a2 a3 a4 : Value} (hdg : decode y.2.1 pc = .ok (.invokevirtual index, 3)) (hC : x_Con l y2 fr lo ad D cI (.ref (ad q0) :: [a1, a2, a3, a4]) sc ar Post) (hs : x_siteV y.1.cls index C y2 4) (hrc : ∃ fs, (x_wd ad cI sc ar)[q0]? = some (ad q0, .inr (ci, fs))) (hcl : x_Cl[ci]? = some (C, T, N)) (hR : fr + 1 ≤ R.frames ∧ 8 + (y2.2.2.1 + 11) + lo ≤ R.locals) (hcat : (rest.map fun v => v.category).sum ≤ 8) (k : ∀ r sc' ar', Post r sc' ar' → x_G p l e R s m args below meth c y ad D cI A cells slots Q (pc + 3) L (r.toList ++ rest) sc' ar') : x_G p l e R s m args below meth c y ad D cI A cells slots Q pc L (a4 :: a3 :: a2 :: a1 :: .ref (ad q0) :: rest) sc ar :=
  xg_callV X hC hs hrc hcl rfl hR rfl hcat hdg k
theorem xg_crV4 (X : x_X p R s m args meth c y ad D cI A cells slots) {v : Value} {sc2 : Nat → Int32} {ar2 : Nat → Nat → Int32} {y2 : x_M} {fr lo index : Nat} {q0 ci N : Nat} {C : String} {T : u_T} {a1 a2 a3 a4 : Value} (hdg : decode y.2.1 pc = .ok (.invokevirtual index, 3)) (hC : x_Con l y2 fr lo ad D cI (.ref (ad q0) :: [a1, a2, a3, a4]) sc ar (x_E (some v) sc2 ar2)) (hs : x_siteV y.1.cls index C y2 4) (hrc : ∃ fs, (x_wd ad cI sc ar)[q0]? = some (ad q0, .inr (ci, fs))) (hcl : x_Cl[ci]? = some (C, T, N)) (hR : fr + 1 ≤ R.frames ∧ 8 + (y2.2.2.1 + 11) + lo ≤ R.locals) (hcat : (rest.map fun v => v.category).sum ≤ 8) (k : x_G p l e R s m args below meth c y ad D cI A cells slots Q (pc + 3) L (v :: rest) sc2 ar2) : x_G p l e R s m args below meth c y ad D cI A cells slots Q pc L (a4 :: a3 :: a2 :: a1 :: .ref (ad q0) :: rest) sc ar :=
  xg_callV X hC hs hrc hcl rfl hR rfl hcat hdg (fun r sc' ar' h => by obtain ⟨rfl, rfl, rfl⟩ := h; exact k)
theorem xg_cvV4 (X : x_X p R s m args meth c y ad D cI A cells slots) {sc2 : Nat → Int32} {ar2 : Nat → Nat → Int32} {y2 : x_M} {fr lo index : Nat} {q0 ci N : Nat} {C : String} {T : u_T} {a1 a2 a3 a4 : Value} (hdg : decode y.2.1 pc = .ok (.invokevirtual index, 3)) (hC : x_Con l y2 fr lo ad D cI (.ref (ad q0) :: [a1, a2, a3, a4]) sc ar (x_E none sc2 ar2)) (hs : x_siteV y.1.cls index C y2 4) (hrc : ∃ fs, (x_wd ad cI sc ar)[q0]? = some (ad q0, .inr (ci, fs))) (hcl : x_Cl[ci]? = some (C, T, N)) (hR : fr + 1 ≤ R.frames ∧ 8 + (y2.2.2.1 + 11) + lo ≤ R.locals) (hcat : (rest.map fun v => v.category).sum ≤ 8) (k : x_G p l e R s m args below meth c y ad D cI A cells slots Q (pc + 3) L rest sc2 ar2) : x_G p l e R s m args below meth c y ad D cI A cells slots Q pc L (a4 :: a3 :: a2 :: a1 :: .ref (ad q0) :: rest) sc ar :=
  xg_callV X hC hs hrc hcl rfl hR rfl hcat hdg (fun r sc' ar' h => by obtain ⟨rfl, rfl, rfl⟩ := h; exact k)
theorem xg_cS4 (X : x_X p R s m args meth c y ad D cI A cells slots) {Post : Option Value → (Nat → Int32) → (Nat → Nat → Int32) → Prop} {y2 : x_M} {fr lo index : Nat} {a1 a2 a3 a4 : Value} (hdg : decode y.2.1 pc = .ok (.invokestatic index, 3)) (hC : x_Con l y2 fr lo ad D cI [a1, a2, a3, a4] sc ar Post) (hs : x_siteS y.1.cls index y2 4) (hR : fr + 1 ≤ R.frames ∧ 8 + (y2.2.2.1 + 11) + lo ≤ R.locals) (hcat : (rest.map fun v => v.category).sum ≤ 8) (k : ∀ r sc' ar', Post r sc' ar' → x_G p l e R s m args below meth c y ad D cI A cells slots Q (pc + 3) L (r.toList ++ rest) sc' ar') : x_G p l e R s m args below meth c y ad D cI A cells slots Q pc L (a4 :: a3 :: a2 :: a1 :: rest) sc ar :=
  xg_callS X hC hs rfl hR rfl hcat hdg k
theorem xg_crS4 (X : x_X p R s m args meth c y ad D cI A cells slots) {v : Value} {sc2 : Nat → Int32} {ar2 : Nat → Nat → Int32} {y2 : x_M} {fr lo index : Nat} {a1 a2 a3 a4 : Value} (hdg : decode y.2.1 pc = .ok (.invokestatic index, 3)) (hC : x_Con l y2 fr lo ad D cI [a1, a2, a3, a4] sc ar (x_E (some v) sc2 ar2)) (hs : x_siteS y.1.cls index y2 4) (hR : fr + 1 ≤ R.frames ∧ 8 + (y2.2.2.1 + 11) + lo ≤ R.locals) (hcat : (rest.map fun v => v.category).sum ≤ 8) (k : x_G p l e R s m args below meth c y ad D cI A cells slots Q (pc + 3) L (v :: rest) sc2 ar2) : x_G p l e R s m args below meth c y ad D cI A cells slots Q pc L (a4 :: a3 :: a2 :: a1 :: rest) sc ar :=
  xg_callS X hC hs rfl hR rfl hcat hdg (fun r sc' ar' h => by obtain ⟨rfl, rfl, rfl⟩ := h; exact k)
theorem xg_cvS4 (X : x_X p R s m args meth c y ad D cI A cells slots) {sc2 : Nat → Int32} {ar2 : Nat → Nat → Int32} {y2 : x_M} {fr lo index : Nat} {a1 a2 a3 a4 : Value} (hdg : decode y.2.1 pc = .ok (.invokestatic index, 3)) (hC : x_Con l y2 fr lo ad D cI [a1, a2, a3, a4] sc ar (x_E none sc2 ar2)) (hs : x_siteS y.1.cls index y2 4) (hR : fr + 1 ≤ R.frames ∧ 8 + (y2.2.2.1 + 11) + lo ≤ R.locals) (hcat : (rest.map fun v => v.category).sum ≤ 8) (k : x_G p l e R s m args below meth c y ad D cI A cells slots Q (pc + 3) L rest sc2 ar2) : x_G p l e R s m args below meth c y ad D cI A cells slots Q pc L (a4 :: a3 :: a2 :: a1 :: rest) sc ar :=
  xg_callS X hC hs rfl hR rfl hcat hdg (fun r sc' ar' h => by obtain ⟨rfl, rfl, rfl⟩ := h; exact k)
theorem xg_cV5 (X : x_X p R s m args meth c y ad D cI A cells slots) {Post : Option Value → (Nat → Int32) → (Nat → Nat → Int32) → Prop} {y2 : x_M} {fr lo index : Nat} {q0 ci N : Nat} {C : String} {T : u_T} {a1 a2 a3 a4 a5 : Value} (hdg : decode y.2.1 pc = .ok (.invokevirtual index, 3)) (hC : x_Con l y2 fr lo ad D cI (.ref (ad q0) :: [a1, a2, a3, a4, a5]) sc ar Post) (hs : x_siteV y.1.cls index C y2 5) (hrc : ∃ fs, (x_wd ad cI sc ar)[q0]? = some (ad q0, .inr (ci, fs))) (hcl : x_Cl[ci]? = some (C, T, N)) (hR : fr + 1 ≤ R.frames ∧ 8 + (y2.2.2.1 + 11) + lo ≤ R.locals) (hcat : (rest.map fun v => v.category).sum ≤ 8) (k : ∀ r sc' ar', Post r sc' ar' → x_G p l e R s m args below meth c y ad D cI A cells slots Q (pc + 3) L (r.toList ++ rest) sc' ar') : x_G p l e R s m args below meth c y ad D cI A cells slots Q pc L (a5 :: a4 :: a3 :: a2 :: a1 :: .ref (ad q0) :: rest) sc ar :=
  xg_callV X hC hs hrc hcl rfl hR rfl hcat hdg k
theorem xg_crV5 (X : x_X p R s m args meth c y ad D cI A cells slots) {v : Value} {sc2 : Nat → Int32} {ar2 : Nat → Nat → Int32} {y2 : x_M} {fr lo index : Nat} {q0 ci N : Nat} {C : String} {T : u_T} {a1 a2 a3 a4 a5 : Value} (hdg : decode y.2.1 pc = .ok (.invokevirtual index, 3)) (hC : x_Con l y2 fr lo ad D cI (.ref (ad q0) :: [a1, a2, a3, a4, a5]) sc ar (x_E (some v) sc2 ar2)) (hs : x_siteV y.1.cls index C y2 5) (hrc : ∃ fs, (x_wd ad cI sc ar)[q0]? = some (ad q0, .inr (ci, fs))) (hcl : x_Cl[ci]? = some (C, T, N)) (hR : fr + 1 ≤ R.frames ∧ 8 + (y2.2.2.1 + 11) + lo ≤ R.locals) (hcat : (rest.map fun v => v.category).sum ≤ 8) (k : x_G p l e R s m args below meth c y ad D cI A cells slots Q (pc + 3) L (v :: rest) sc2 ar2) : x_G p l e R s m args below meth c y ad D cI A cells slots Q pc L (a5 :: a4 :: a3 :: a2 :: a1 :: .ref (ad q0) :: rest) sc ar :=
  xg_callV X hC hs hrc hcl rfl hR rfl hcat hdg (fun r sc' ar' h => by obtain ⟨rfl, rfl, rfl⟩ := h; exact k)
theorem xg_cvV5 (X : x_X p R s m args meth c y ad D cI A cells slots) {sc2 : Nat → Int32} {ar2 : Nat → Nat → Int32} {y2 : x_M} {fr lo index : Nat} {q0 ci N : Nat} {C : String} {T : u_T} {a1 a2 a3 a4 a5 : Value} (hdg : decode y.2.1 pc = .ok (.invokevirtual index, 3)) (hC : x_Con l y2 fr lo ad D cI (.ref (ad q0) :: [a1, a2, a3, a4, a5]) sc ar (x_E none sc2 ar2)) (hs : x_siteV y.1.cls index C y2 5) (hrc : ∃ fs, (x_wd ad cI sc ar)[q0]? = some (ad q0, .inr (ci, fs))) (hcl : x_Cl[ci]? = some (C, T, N)) (hR : fr + 1 ≤ R.frames ∧ 8 + (y2.2.2.1 + 11) + lo ≤ R.locals) (hcat : (rest.map fun v => v.category).sum ≤ 8) (k : x_G p l e R s m args below meth c y ad D cI A cells slots Q (pc + 3) L rest sc2 ar2) : x_G p l e R s m args below meth c y ad D cI A cells slots Q pc L (a5 :: a4 :: a3 :: a2 :: a1 :: .ref (ad q0) :: rest) sc ar :=
  xg_callV X hC hs hrc hcl rfl hR rfl hcat hdg (fun r sc' ar' h => by obtain ⟨rfl, rfl, rfl⟩ := h; exact k)
theorem xg_cS5 (X : x_X p R s m args meth c y ad D cI A cells slots) {Post : Option Value → (Nat → Int32) → (Nat → Nat → Int32) → Prop} {y2 : x_M} {fr lo index : Nat} {a1 a2 a3 a4 a5 : Value} (hdg : decode y.2.1 pc = .ok (.invokestatic index, 3)) (hC : x_Con l y2 fr lo ad D cI [a1, a2, a3, a4, a5] sc ar Post) (hs : x_siteS y.1.cls index y2 5) (hR : fr + 1 ≤ R.frames ∧ 8 + (y2.2.2.1 + 11) + lo ≤ R.locals) (hcat : (rest.map fun v => v.category).sum ≤ 8) (k : ∀ r sc' ar', Post r sc' ar' → x_G p l e R s m args below meth c y ad D cI A cells slots Q (pc + 3) L (r.toList ++ rest) sc' ar') : x_G p l e R s m args below meth c y ad D cI A cells slots Q pc L (a5 :: a4 :: a3 :: a2 :: a1 :: rest) sc ar :=
  xg_callS X hC hs rfl hR rfl hcat hdg k
theorem xg_crS5 (X : x_X p R s m args meth c y ad D cI A cells slots) {v : Value} {sc2 : Nat → Int32} {ar2 : Nat → Nat → Int32} {y2 : x_M} {fr lo index : Nat} {a1 a2 a3 a4 a5 : Value} (hdg : decode y.2.1 pc = .ok (.invokestatic index, 3)) (hC : x_Con l y2 fr lo ad D cI [a1, a2, a3, a4, a5] sc ar (x_E (some v) sc2 ar2)) (hs : x_siteS y.1.cls index y2 5) (hR : fr + 1 ≤ R.frames ∧ 8 + (y2.2.2.1 + 11) + lo ≤ R.locals) (hcat : (rest.map fun v => v.category).sum ≤ 8) (k : x_G p l e R s m args below meth c y ad D cI A cells slots Q (pc + 3) L (v :: rest) sc2 ar2) : x_G p l e R s m args below meth c y ad D cI A cells slots Q pc L (a5 :: a4 :: a3 :: a2 :: a1 :: rest) sc ar :=
  xg_callS X hC hs rfl hR rfl hcat hdg (fun r sc' ar' h => by obtain ⟨rfl, rfl, rfl⟩ := h; exact k)
theorem xg_cvS5 (X : x_X p R s m args meth c y ad D cI A cells slots) {sc2 : Nat → Int32} {ar2 : Nat → Nat → Int32} {y2 : x_M} {fr lo index : Nat} {a1 a2 a3 a4 a5 : Value} (hdg : decode y.2.1 pc = .ok (.invokestatic index, 3)) (hC : x_Con l y2 fr lo ad D cI [a1, a2, a3, a4, a5] sc ar (x_E none sc2 ar2)) (hs : x_siteS y.1.cls index y2 5) (hR : fr + 1 ≤ R.frames ∧ 8 + (y2.2.2.1 + 11) + lo ≤ R.locals) (hcat : (rest.map fun v => v.category).sum ≤ 8) (k : x_G p l e R s m args below meth c y ad D cI A cells slots Q (pc + 3) L rest sc2 ar2) : x_G p l e R s m args below meth c y ad D cI A cells slots Q pc L (a5 :: a4 :: a3 :: a2 :: a1 :: rest) sc ar :=
  xg_callS X hC hs rfl hR rfl hcat hdg (fun r sc' ar' h => by obtain ⟨rfl, rfl, rfl⟩ := h; exact k)
theorem xg_labs (X : x_X p R s m args meth c y ad D cI A cells slots) {index : Nat} {x : Int64} (hdg : decode y.2.1 pc = .ok (.invokestatic index, 3)) (hs : x_good [Cond.methodLink y.1.cls index Lib.MathLoose.abs_long.x, Cond.static Lib.MathLoose.abs_long.x, Cond.initialized "java/lang/Math", Cond.code Lib.MathLoose.abs_long.x Lib.MathLoose.abs_long.code 2 (some .long)] = true) (hR : 1 ≤ R.frames ∧ (rest.map fun v => v.category).sum + 13 ≤ R.locals) (k : x_G p l e R s m args below meth c y ad D cI A cells slots Q (pc + 3) L (.long (if 0 < x then x else -x) :: rest) sc ar) : x_G p l e R s m args below meth c y ad D cI A cells slots Q pc L (.long x :: rest) sc ar := by
  intro H locs ls hl hP hS
  have h := goodIn_of _ hs
  exact va_mabs_long X.ex X.cd (X.ml.trans hl.1.symm) X.own (X.ts _ (h _ (by simp)).1) (X.ts _ (h _ (by simp)).1) (X.ts _ (h _ (by simp)).1) (X.ts _ (h _ (by simp)).1) hR.1 hR.2 X.cl.1 X.cl.2 hdg (k H locs ls hl hP hS)
end XR
theorem x_inc {n : Int} {v : Int32} (h : Int32.ofInt n = v) (x : Int32) : x + Int32.ofInt n = x + v := by rw [h]
def x_b (P : Prop) [Decidable P] : Int32 := if P then 1 else 0
def x_st (j : Nat) : Int32 := if j = 0 then 1 else 16
theorem x_bt {P : Prop} [Decidable P] (h : P) : x_b P = 1 := if_pos h
theorem x_bf {P : Prop} [Decidable P] (h : ¬ P) : x_b P = 0 := if_neg h
theorem x_b0 {P : Prop} [Decidable P] (h : x_b P = 0) : ¬ P := fun hp => by
  rw [x_bt hp] at h
  exact absurd h (by decide)
theorem x_bn {P : Prop} [Decidable P] (h : ¬ x_b P = 0) : P := Classical.byContradiction fun hp => h (x_bf hp)
theorem x_b01 {P : Prop} [Decidable P] : x_b P = 0 ∨ x_b P = 1 := by
  by_cases h : P
  · exact Or.inr (x_bt h)
  · exact Or.inl (x_bf h)
theorem x_nb {P : Prop} [Decidable P] : narrow .boolean (.int (x_b P)) = .int (x_b P) := by
  by_cases h : P
  · rw [x_bt h]; rfl
  · rw [x_bf h]; rfl
theorem x_ret1 {P : Prop} [Decidable P] {sc : Nat → Int32} {ar : Nat → Nat → Int32} (h : P) : x_E (some (.int (x_b P))) sc ar (some (.int 1)) sc ar := ⟨by rw [x_bt h], rfl, rfl⟩
theorem x_ret0 {P : Prop} [Decidable P] {sc : Nat → Int32} {ar : Nat → Nat → Int32} (h : ¬ P) : x_E (some (.int (x_b P))) sc ar (some (.int 0)) sc ar := ⟨by rw [x_bf h], rfl, rfl⟩
theorem x_rcS {ad : Nat → Nat} {cI : ClassId} {sc : Nat → Int32} {ar : Nat → Nat → Int32} {j : Nat} (hj : j < 2) : ∃ fs, (x_wd ad cI sc ar)[j + 2]? = some (ad (j + 2), .inr (1, fs)) := by
  match j, hj with
  | 0, _ => exact ⟨_, rfl⟩
  | 1, _ => exact ⟨_, rfl⟩
