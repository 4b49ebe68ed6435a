theorem x_goodc {w : Cond} (h : x_good [w] = true) : GoodIn x_tb (w :: x_tb) := x_pair (a := []) x_g0 h
set_option maxRecDepth 100000 in
set_option maxHeartbeats 800000 in
theorem c_S_init (l : Launch) (dC : Nat → ClassId) (dI : Nat → Nat → Nat) (h0 : Nat) (sz : Nat) (st : Int32) : Met l M_S_init.1 (Cond.code M_S_init.1 M_S_init.2.1 M_S_init.2.2.1 M_S_init.2.2.2 :: x_tb) ({ frames := 1, cells := 0, slots := 0, locals := 12 }) (va_Pc [.ref h0, .int st] (fun U => U.heap.size = sz ∧ va_P (dC, dI) x_Cl [(h0, .inr (1, [.int 0, .int 0, .int 0]))] U.heap ∧ va_K (dC, dI) x_Cl [] U ∧ va_D (fun _ => True) [(h0, .inr (1, [.int 0, .int 0, .int 0]))])) (va_Qv (fun (_ : Unit) => True) (fun (_ : Unit) (t : State) => va_P (dC, dI) x_Cl [(h0, .inr (1, [.int st, .int 0, .int 0]))] t.heap ∧ va_K (dC, dI) x_Cl [] t ∧ va_D (va_A [(h0, .inr (1, [.int 0, .int 0, .int 0]))] sz) [(h0, .inr (1, [.int st, .int 0, .int 0]))]) (va_A [(h0, .inr (1, [.int 0, .int 0, .int 0]))] sz)) 0 0 (va_A [(h0, .inr (1, [.int 0, .int 0, .int 0]))] sz) := by
  refine Met.ofW (cc := M_S_init.2.1) (maxL := 2) (ret := none) (by decide) rfl ?_
  intro p e s m args below meth c s₁ B hml hv
  obtain ⟨rfl, hsz, hP, hK, hD0⟩ := hv
  have hx := B.exec
  have hb := B.bytes
  have hr := B.returns
  have hts : ∀ w ∈ x_tb, w.before _ s = true := fun w h => atoms_spec (ws := Cond.code M_S_init.1 M_S_init.2.1 M_S_init.2.2.1 M_S_init.2.2.2 :: x_tb) B.pre w (List.mem_cons_of_mem _ h)
  have hown : s.vm.findClass R_S = some m.cls := findClass_of_methodNamed B.named
  have hlocks := B.notSynchronized
  have hin : meth.name = "<init>" := (name_of_methodNamed B.named B.method).1
  subst hsz
  have hD := hD0.self (sz := s.heap.size)
  generalize hAe : va_A [(h0, .inr (1, [.int 0, .int 0, .int 0]))] s.heap.size = A at hD ⊢
  have hA : ∀ q : Nat, s.heap.size ≤ q → A q := fun q h => by rw [← hAe]; exact Or.inr h
  have hS : va_S A s.heap s.heap [] := va_S.rf
  have hP : va_P (dC, dI) x_Cl [(h0, .inr (1, [.int 0, .int 0, .int 0]))] s.heap := hP
  have hl := lv_entry ([.ref h0, .int st]) (n := 2) (Nat.le_of_ble_eq_true rfl)
  rw [lg_entry_eq]
  generalize (lg_sl ([.ref h0, .int st]) ++ List.replicate (2 - (lg_sl ([.ref h0, .int st])).length) Slot.unset).toArray = ls at hl ⊢
  have hl : lv_has ls 2 [(0, .ref h0), (1, .int st)] := hl
  refine lv_aload_n hx hb d_S_init_0 rfl (lv_at hl 0 rfl) ?_
  refine W.objInit hx hb hown (hts (.methodLink R_S 1 objectInit) (by decide +kernel)) (hts (.instanceMethod objectInit) (by decide +kernel)) (hts (.code objectInit ⟨#[0xb1]⟩ 1 none) (by decide +kernel)) rfl (by rw [hml]; exact hl.1) rfl d_S_init_1 (Nat.le_of_ble_eq_true rfl) (Nat.le_of_ble_eq_true rfl) ?_
  refine W.eq (g2 := F0 m 4 ls []) rfl ?_
  refine lv_aload_n hx hb d_S_init_4 rfl (lv_at hl 0 rfl) ?_
  refine lv_iload_n hx hb d_S_init_5 rfl (lv_at hl 1 rfl) ?_
  refine va_putF (D := (dC, dI)) (ci := 1) (v := .int st) (ty := .int) (C := R_S) (T := F_S) (N := 3) hx hb hts in_S ft_S ft_S_ok n_S hown hK hP hD hS 0 rfl rfl 0 (by decide) (hts (.fieldLink R_S 7 (F_S 0).1 (F_S 0).2.1 (F_S 0).2.2.1) (by decide +kernel)) (fun _ h9 => h9) rfl hin rfl (by decide +kernel) rfl rfl (Nat.le_of_ble_eq_true rfl) d_S_init_6 (fun H locs hP hD hS => ?_)
  have hP : va_P (dC, dI) x_Cl [(h0, .inr (1, [.int st, .int 0, .int 0]))] H := hP
  have hD : va_D A [(h0, .inr (1, [.int st, .int 0, .int 0]))] := hD
  refine lv_aload_n hx hb d_S_init_9 rfl (lv_at hl 0 rfl) ?_
  refine lv_iconst (v := 0) hx hb d_S_init_10 (by decide) ?_
  refine va_put (D := (dC, dI)) (ci := 1) (v := .int 0) (ty := .int) (C := R_S) (T := F_S) (N := 3) hx hb hts in_S ft_S ft_S_ok n_S hown hK hP hD hS 0 rfl rfl 1 (by decide) (hts (.fieldLink R_S 13 (F_S 1).1 (F_S 1).2.1 (F_S 1).2.2.1) (by decide +kernel)) (fun _ h9 => h9) rfl (by decide +kernel) rfl rfl (Nat.le_of_ble_eq_true rfl) d_S_init_11 (fun H locs hP hD hS => ?_)
  have hP : va_P (dC, dI) x_Cl [(h0, .inr (1, [.int st, .int 0, .int 0]))] H := hP
  have hD : va_D A [(h0, .inr (1, [.int st, .int 0, .int 0]))] := hD
  refine lv_aload_n hx hb d_S_init_14 rfl (lv_at hl 0 rfl) ?_
  refine lv_iconst (v := 0) hx hb d_S_init_15 (by decide) ?_
  refine va_put (D := (dC, dI)) (ci := 1) (v := .int 0) (ty := .int) (C := R_S) (T := F_S) (N := 3) hx hb hts in_S ft_S ft_S_ok n_S hown hK hP hD hS 0 rfl rfl 2 (by decide) (hts (.fieldLink R_S 16 (F_S 2).1 (F_S 2).2.1 (F_S 2).2.2.1) (by decide +kernel)) (fun _ h9 => h9) rfl (by decide +kernel) rfl rfl (Nat.le_of_ble_eq_true rfl) d_S_init_16 (fun H locs hP hD hS => ?_)
  have hP : va_P (dC, dI) x_Cl [(h0, .inr (1, [.int st, .int 0, .int 0]))] H := hP
  have hD : va_D A [(h0, .inr (1, [.int st, .int 0, .int 0]))] := hD
  have hK9 := hK.sub (tys' := []) [] rfl
  refine W.widen (k := 0) (n := 0) (by decide) (by decide) ?_
  exact W.vret hx hb hr (fun t ht hW => ⟨⟨(), rfl, trivial, by rw [ht]; exact hP, va_K.moved hW.alike hK9, hD⟩, hS.F ht⟩) hS.2.2 d_S_init_19
set_option maxRecDepth 100000 in
set_option maxHeartbeats 800000 in
theorem c_L_init (l : Launch) (dC : Nat → ClassId) (dI : Nat → Nat → Nat) (h0 : Nat) (sz : Nat) : Met l M_L_init.1 (Cond.code M_L_init.1 M_L_init.2.1 M_L_init.2.2.1 M_L_init.2.2.2 :: x_tb) ({ frames := 1, cells := 1, slots := 16, locals := 12 }) (va_Pc [.ref h0] (fun U => U.heap.size = sz ∧ va_P (dC, dI) x_Cl [(h0, .inr (2, [.null, .int 0, .int 0]))] U.heap ∧ va_K (dC, dI) x_Cl [] U ∧ va_D (fun _ => True) [(h0, .inr (2, [.null, .int 0, .int 0]))])) (va_Qv (fun (_ : Unit) => True) (fun (_ : Unit) (t : State) => ∃ (q7 : Nat) (k7 : ClassId), va_P (dC, dI) x_Cl [(h0, .inr (2, [.ref q7, .int 0, .int 0])), (q7, .inl (k7, 16, .inl (fun _ => 0)))] t.heap ∧ va_K (dC, dI) x_Cl [(k7, .int)] t ∧ va_D (va_A [(h0, .inr (2, [.null, .int 0, .int 0]))] sz) [(h0, .inr (2, [.ref q7, .int 0, .int 0])), (q7, .inl (k7, 16, .inl (fun _ => 0)))]) (va_A [(h0, .inr (2, [.null, .int 0, .int 0]))] sz)) 1 16 (va_A [(h0, .inr (2, [.null, .int 0, .int 0]))] sz) := by
  refine Met.ofW (cc := M_L_init.2.1) (maxL := 1) (ret := none) (by decide) rfl ?_
  intro p e s m args below meth c s₁ B hml hv
  obtain ⟨rfl, hsz, hP, hK, hD0⟩ := hv
  have hx := B.exec
  have hb := B.bytes
  have hr := B.returns
  have hts : ∀ w ∈ x_tb, w.before _ s = true := fun w h => atoms_spec (ws := Cond.code M_L_init.1 M_L_init.2.1 M_L_init.2.2.1 M_L_init.2.2.2 :: x_tb) B.pre w (List.mem_cons_of_mem _ h)
  have hown : s.vm.findClass R_L = some m.cls := findClass_of_methodNamed B.named
  have hlocks := B.notSynchronized
  have hin : meth.name = "<init>" := (name_of_methodNamed B.named B.method).1
  subst hsz
  have hD := hD0.self (sz := s.heap.size)
  generalize hAe : va_A [(h0, .inr (2, [.null, .int 0, .int 0]))] s.heap.size = A at hD ⊢
  have hA : ∀ q : Nat, s.heap.size ≤ q → A q := fun q h => by rw [← hAe]; exact Or.inr h
  have hS : va_S A s.heap s.heap [] := va_S.rf
  have hP : va_P (dC, dI) x_Cl [(h0, .inr (2, [.null, .int 0, .int 0]))] s.heap := hP
  have hl := lv_entry ([.ref h0]) (n := 1) (Nat.le_of_ble_eq_true rfl)
  rw [lg_entry_eq]
  generalize (lg_sl ([.ref h0]) ++ List.replicate (1 - (lg_sl ([.ref h0])).length) Slot.unset).toArray = ls at hl ⊢
  have hl : lv_has ls 1 [(0, .ref h0)] := hl
  refine lv_aload_n hx hb d_L_init_0 rfl (lv_at hl 0 rfl) ?_
  refine W.objInit hx hb hown (hts (.methodLink R_L 3 objectInit) (by decide +kernel)) (hts (.instanceMethod objectInit) (by decide +kernel)) (hts (.code objectInit ⟨#[0xb1]⟩ 1 none) (by decide +kernel)) rfl (by rw [hml]; exact hl.1) rfl d_L_init_1 (Nat.le_of_ble_eq_true rfl) (Nat.le_of_ble_eq_true rfl) ?_
  refine W.eq (g2 := F0 m 4 ls []) rfl ?_
  refine lv_aload_n hx hb d_L_init_4 rfl (lv_at hl 0 rfl) ?_
  refine lv_bipush (v := 16) hx hb d_L_init_5 (by decide) ?_
  refine va_newa (atype := .int) (n := 16) (ty := .int) (N' := 16) (a0 := (16, .inl (fun _ => 0))) hx hb (hts (.arrayClass .int) (by decide +kernel)) rfl hK hP hD hS hA (fun _ => rfl) (by decide +kernel) (by decide +kernel) (by decide +kernel) (by decide) (by decide) d_L_init_7 (fun q7 k7 H hK hP hD hS => ?_)
  have hK : va_K (dC, dI) x_Cl [(k7, .int)] s := hK
  have hP : va_P (dC, dI) x_Cl [(h0, .inr (2, [.null, .int 0, .int 0])), (q7, .inl (k7, 16, .inl (fun _ => 0)))] H := hP
  have hD : va_D A [(h0, .inr (2, [.null, .int 0, .int 0])), (q7, .inl (k7, 16, .inl (fun _ => 0)))] := hD
  refine W.widen (k := 1) (n := 16) (by decide) (by decide) ?_
  refine va_putF (D := (dC, dI)) (ci := 2) (v := .ref q7) (ty := .array .int) (C := R_L) (T := F_L) (N := 3) hx hb hts in_L ft_L ft_L_ok n_L hown hK hP hD hS 0 rfl rfl 0 (by decide) (hts (.fieldLink R_L 9 (F_L 0).1 (F_L 0).2.1 (F_L 0).2.2.1) (by decide +kernel)) (fun _ h9 => h9) rfl hin rfl (by decide +kernel) rfl rfl (Nat.le_of_ble_eq_true rfl) d_L_init_9 (fun H locs hP hD hS => ?_)
  have hP : va_P (dC, dI) x_Cl [(h0, .inr (2, [.ref q7, .int 0, .int 0])), (q7, .inl (k7, 16, .inl (fun _ => 0)))] H := hP
  have hD : va_D A [(h0, .inr (2, [.ref q7, .int 0, .int 0])), (q7, .inl (k7, 16, .inl (fun _ => 0)))] := hD
  refine lv_aload_n hx hb d_L_init_12 rfl (lv_at hl 0 rfl) ?_
  refine lv_iconst (v := 0) hx hb d_L_init_13 (by decide) ?_
  refine va_put (D := (dC, dI)) (ci := 2) (v := .int 0) (ty := .int) (C := R_L) (T := F_L) (N := 3) hx hb hts in_L ft_L ft_L_ok n_L hown hK hP hD hS 0 rfl rfl 1 (by decide) (hts (.fieldLink R_L 15 (F_L 1).1 (F_L 1).2.1 (F_L 1).2.2.1) (by decide +kernel)) (fun _ h9 => h9) rfl (by decide +kernel) rfl rfl (Nat.le_of_ble_eq_true rfl) d_L_init_14 (fun H locs hP hD hS => ?_)
  have hP : va_P (dC, dI) x_Cl [(h0, .inr (2, [.ref q7, .int 0, .int 0])), (q7, .inl (k7, 16, .inl (fun _ => 0)))] H := hP
  have hD : va_D A [(h0, .inr (2, [.ref q7, .int 0, .int 0])), (q7, .inl (k7, 16, .inl (fun _ => 0)))] := hD
  refine lv_aload_n hx hb d_L_init_17 rfl (lv_at hl 0 rfl) ?_
  refine lv_iconst (v := 0) hx hb d_L_init_18 (by decide) ?_
  refine va_put (D := (dC, dI)) (ci := 2) (v := .int 0) (ty := .int) (C := R_L) (T := F_L) (N := 3) hx hb hts in_L ft_L ft_L_ok n_L hown hK hP hD hS 0 rfl rfl 2 (by decide) (hts (.fieldLink R_L 19 (F_L 2).1 (F_L 2).2.1 (F_L 2).2.2.1) (by decide +kernel)) (fun _ h9 => h9) rfl (by decide +kernel) rfl rfl (Nat.le_of_ble_eq_true rfl) d_L_init_19 (fun H locs hP hD hS => ?_)
  have hP : va_P (dC, dI) x_Cl [(h0, .inr (2, [.ref q7, .int 0, .int 0])), (q7, .inl (k7, 16, .inl (fun _ => 0)))] H := hP
  have hD : va_D A [(h0, .inr (2, [.ref q7, .int 0, .int 0])), (q7, .inl (k7, 16, .inl (fun _ => 0)))] := hD
  have hK9 := hK.sub (tys' := [(k7, .int)]) [0] rfl
  refine W.widen (k := 1) (n := 16) (by decide) (by decide) ?_
  exact W.vret hx hb hr (fun t ht hW => ⟨⟨(), rfl, trivial, q7, k7, by rw [ht]; exact hP, va_K.moved hW.alike hK9, hD⟩, hS.F ht⟩) hS.2.2 d_L_init_22
set_option maxRecDepth 100000 in
set_option maxHeartbeats 800000 in
theorem c_T_init (l : Launch) (dC : Nat → ClassId) (dI : Nat → Nat → Nat) (h0 : Nat) (sz : Nat) : Met l M_T_init.1 (Cond.code M_T_init.1 M_T_init.2.1 M_T_init.2.2.1 M_T_init.2.2.2 :: x_tb) ({ frames := 2, cells := 6, slots := 797, locals := 33 }) (va_Pc [.ref h0] (fun U => U.heap.size = sz ∧ va_P (dC, dI) x_Cl [(h0, .inr (0, [.null, .null, .null, .null, .null, .int 0, .int 0]))] U.heap ∧ va_K (dC, dI) x_Cl [] U ∧ va_D (fun _ => True) [(h0, .inr (0, [.null, .null, .null, .null, .null, .int 0, .int 0]))])) (va_Qv (fun (_ : Unit) => True) (fun (_ : Unit) (t : State) => ∃ (q8 q14 q26 q39 q43 q51 : Nat) (k8 k43 k51 : ClassId), va_P (dC, dI) x_Cl [(h0, .inr (0, [.ref q8, .ref q14, .ref q26, .ref q39, .ref q51, .int 0, .int 0])), (q8, .inl (k8, 768, .inl (fun _ => 0))), (q14, .inr (1, [.int 1, .int 0, .int 0])), (q26, .inr (1, [.int 16, .int 0, .int 0])), (q39, .inr (2, [.ref q43, .int 0, .int 0])), (q43, .inl (k43, 16, .inl (fun _ => 0))), (q51, .inl (k51, 4, .inl (fun _ => 0)))] t.heap ∧ va_K (dC, dI) x_Cl [(k8, .int), (k43, .int), (k51, .int)] t ∧ va_D (va_A [(h0, .inr (0, [.null, .null, .null, .null, .null, .int 0, .int 0]))] sz) [(h0, .inr (0, [.ref q8, .ref q14, .ref q26, .ref q39, .ref q51, .int 0, .int 0])), (q8, .inl (k8, 768, .inl (fun _ => 0))), (q14, .inr (1, [.int 1, .int 0, .int 0])), (q26, .inr (1, [.int 16, .int 0, .int 0])), (q39, .inr (2, [.ref q43, .int 0, .int 0])), (q43, .inl (k43, 16, .inl (fun _ => 0))), (q51, .inl (k51, 4, .inl (fun _ => 0)))]) (va_A [(h0, .inr (0, [.null, .null, .null, .null, .null, .int 0, .int 0]))] sz)) 6 797 (va_A [(h0, .inr (0, [.null, .null, .null, .null, .null, .int 0, .int 0]))] sz) := by
  refine Met.ofW (cc := M_T_init.2.1) (maxL := 1) (ret := none) (by decide) rfl ?_
  intro p e s m args below meth c s₁ B hml hv
  obtain ⟨rfl, hsz, hP, hK, hD0⟩ := hv
  have hx := B.exec
  have hb := B.bytes
  have hr := B.returns
  have hts : ∀ w ∈ x_tb, w.before _ s = true := fun w h => atoms_spec (ws := Cond.code M_T_init.1 M_T_init.2.1 M_T_init.2.2.1 M_T_init.2.2.2 :: x_tb) B.pre w (List.mem_cons_of_mem _ h)
  have hown : s.vm.findClass R_T = some m.cls := findClass_of_methodNamed B.named
  have hlocks := B.notSynchronized
  have hin : meth.name = "<init>" := (name_of_methodNamed B.named B.method).1
  subst hsz
  have hD := hD0.self (sz := s.heap.size)
  generalize hAe : va_A [(h0, .inr (0, [.null, .null, .null, .null, .null, .int 0, .int 0]))] s.heap.size = A at hD ⊢
  have hA : ∀ q : Nat, s.heap.size ≤ q → A q := fun q h => by rw [← hAe]; exact Or.inr h
  have hS : va_S A s.heap s.heap [] := va_S.rf
  have hP : va_P (dC, dI) x_Cl [(h0, .inr (0, [.null, .null, .null, .null, .null, .int 0, .int 0]))] s.heap := hP
  have hl := lv_entry ([.ref h0]) (n := 1) (Nat.le_of_ble_eq_true rfl)
  rw [lg_entry_eq]
  generalize (lg_sl ([.ref h0]) ++ List.replicate (1 - (lg_sl ([.ref h0])).length) Slot.unset).toArray = ls at hl ⊢
  have hl : lv_has ls 1 [(0, .ref h0)] := hl
  refine lv_aload_n hx hb d_T_init_0 rfl (lv_at hl 0 rfl) ?_
  refine W.objInit hx hb hown (hts (.methodLink R_T 3 objectInit) (by decide +kernel)) (hts (.instanceMethod objectInit) (by decide +kernel)) (hts (.code objectInit ⟨#[0xb1]⟩ 1 none) (by decide +kernel)) rfl (by rw [hml]; exact hl.1) rfl d_T_init_1 (Nat.le_of_ble_eq_true rfl) (Nat.le_of_ble_eq_true rfl) ?_
  refine W.eq (g2 := F0 m 4 ls []) rfl ?_
  refine lv_aload_n hx hb d_T_init_4 rfl (lv_at hl 0 rfl) ?_
  refine lv_sipush (v := 768) hx hb d_T_init_5 (by decide) ?_
  refine va_newa (atype := .int) (n := 768) (ty := .int) (N' := 768) (a0 := (768, .inl (fun _ => 0))) hx hb (hts (.arrayClass .int) (by decide +kernel)) rfl hK hP hD hS hA (fun _ => rfl) (by decide +kernel) (by decide +kernel) (by decide +kernel) (by decide) (by decide) d_T_init_8 (fun q8 k8 H hK hP hD hS => ?_)
  have hK : va_K (dC, dI) x_Cl [(k8, .int)] s := hK
  have hP : va_P (dC, dI) x_Cl [(h0, .inr (0, [.null, .null, .null, .null, .null, .int 0, .int 0])), (q8, .inl (k8, 768, .inl (fun _ => 0)))] H := hP
  have hD : va_D A [(h0, .inr (0, [.null, .null, .null, .null, .null, .int 0, .int 0])), (q8, .inl (k8, 768, .inl (fun _ => 0)))] := hD
  refine W.widen (k := 1) (n := 768) (by decide) (by decide) ?_
  refine va_putF (D := (dC, dI)) (ci := 0) (v := .ref q8) (ty := .array .int) (C := R_T) (T := F_T) (N := 7) hx hb hts in_T ft_T ft_T_ok n_T hown hK hP hD hS 0 rfl rfl 0 (by decide) (hts (.fieldLink R_T 9 (F_T 0).1 (F_T 0).2.1 (F_T 0).2.2.1) (by decide +kernel)) (fun _ h9 => h9) rfl hin rfl (by decide +kernel) rfl rfl (Nat.le_of_ble_eq_true rfl) d_T_init_10 (fun H locs hP hD hS => ?_)
  have hP : va_P (dC, dI) x_Cl [(h0, .inr (0, [.ref q8, .null, .null, .null, .null, .int 0, .int 0])), (q8, .inl (k8, 768, .inl (fun _ => 0)))] H := hP
  have hD : va_D A [(h0, .inr (0, [.ref q8, .null, .null, .null, .null, .int 0, .int 0])), (q8, .inl (k8, 768, .inl (fun _ => 0)))] := hD
  refine lv_aload_n hx hb d_T_init_13 rfl (lv_at hl 0 rfl) ?_
  refine va_new (ci := 1) (fs := [.int 0, .int 0, .int 0]) (C := R_S) (T := F_S) (N := 3) hx hb hts in_S ft_S ft_S_ok hown (hts (.classLink R_T 13 R_S) (by decide +kernel)) (hts (.instantiable R_S 3) (by decide +kernel)) (hts (.initialized R_S) (by decide +kernel)) hK hP hD hS hA rfl (fun j hj => by match j, hj with | 0, _ => rfl | 1, _ => rfl | 2, _ => rfl) (by decide) (by decide) d_T_init_14 (fun q14 H hP hD hS => ?_)
  have hP : va_P (dC, dI) x_Cl [(h0, .inr (0, [.ref q8, .null, .null, .null, .null, .int 0, .int 0])), (q8, .inl (k8, 768, .inl (fun _ => 0))), (q14, .inr (1, [.int 0, .int 0, .int 0]))] H := hP
  have hD : va_D A [(h0, .inr (0, [.ref q8, .null, .null, .null, .null, .int 0, .int 0])), (q8, .inl (k8, 768, .inl (fun _ => 0))), (q14, .inr (1, [.int 0, .int 0, .int 0]))] := hD
  refine W.widen (k := 2) (n := 771) (by decide) (by decide) ?_
  refine lv_dup hx hb d_T_init_17 rfl ?_
  refine lv_iconst (v := 1) hx hb d_T_init_18 (by decide) ?_
  have hPc := hP.sub (ws' := [(q14, .inr (1, [.int 0, .int 0, .int 0]))]) [2] rfl
  have hDc := hD.sub (ws' := [(q14, .inr (1, [.int 0, .int 0, .int 0]))]) [2] (by decide) rfl
  have hKc := hK.sub (tys' := []) [] rfl
  have hFc := va_free (wc := [(q14, .inr (1, [.int 0, .int 0, .int 0]))]) hD hS hA [2] rfl
  refine va_callv (va_runI (As := [.int 1]) (rest := [.ref q14, .ref h0]) ⟨hx, hb, hml, hown, hts⟩ (c_S_init l dC dI q14 H.size 1) (cwI 1 hts (x_goodc (by decide +kernel)) rfl rfl rfl (hts (.initialized R_S) (by decide +kernel)) (hts (.methodLink R_T 15 M_S_init.1) (by decide +kernel)) (hts (.instanceMethod M_S_init.1) (by decide +kernel)) rfl (by decide +kernel) ⟨Nat.le_of_ble_eq_true rfl, Nat.le_of_ble_eq_true rfl⟩) ⟨fun a U g mk q => by obtain ⟨q0, q1, qP, qK, qD⟩ := q; exact ⟨q0, q1, qP, va_K.moved (u := U) (U := U.calling g mk a) (Vm.Alike.refl U.vm) qK, qD⟩, fun U hU hW => ⟨rfl, by rw [hU], by rw [hU]; exact hPc, va_K.moved hW.alike hKc, hDc.weaken (fun _ _ _ _ => trivial)⟩⟩ rfl rfl hl.1 rfl (lv_room (Nat.le_of_ble_eq_true rfl)) d_T_init_19 ⟨by decide, by decide⟩) hS (fun q _ h => hFc q h) hFc (fun u t H1 locs ht hvm hw hB hz1 hk1 hS => ?_)
  obtain ⟨hP1, hK1, hD1⟩ := hB
  rw [ht] at hP1
  have hK1 := va_K.moved hvm.symm hK1
  obtain ⟨hP, hD⟩ := va_join (wr := [(h0, .inr (0, [.ref q8, .null, .null, .null, .null, .int 0, .int 0])), (q8, .inl (k8, 768, .inl (fun _ => 0)))]) (w1 := [(q14, .inr (1, [.int 1, .int 0, .int 0]))]) hP hD [2] [0, 1] rfl rfl (by decide) (by decide) hk1 hFc hP1 hD1
  have hK := hK.app hK1
  generalize H1 = H at hP hS ⊢
  have hP : va_P (dC, dI) x_Cl [(h0, .inr (0, [.ref q8, .null, .null, .null, .null, .int 0, .int 0])), (q8, .inl (k8, 768, .inl (fun _ => 0))), (q14, .inr (1, [.int 1, .int 0, .int 0]))] H := hP
  have hD : va_D A [(h0, .inr (0, [.ref q8, .null, .null, .null, .null, .int 0, .int 0])), (q8, .inl (k8, 768, .inl (fun _ => 0))), (q14, .inr (1, [.int 1, .int 0, .int 0]))] := hD
  have hK : va_K (dC, dI) x_Cl [(k8, .int)] s := hK
  refine W.widen (k := 2) (n := 771) (by decide) (by decide) ?_
  refine va_putF (D := (dC, dI)) (ci := 0) (v := .ref q14) (ty := .object "LiftedTile$Span") (C := R_T) (T := F_T) (N := 7) hx hb hts in_T ft_T ft_T_ok n_T hown hK hP hD hS 0 rfl rfl 1 (by decide) (hts (.fieldLink R_T 18 (F_T 1).1 (F_T 1).2.1 (F_T 1).2.2.1) (by decide +kernel)) (fun _ h9 => h9) rfl hin rfl (by decide +kernel) rfl rfl (Nat.le_of_ble_eq_true rfl) d_T_init_22 (fun H locs hP hD hS => ?_)
  have hP : va_P (dC, dI) x_Cl [(h0, .inr (0, [.ref q8, .ref q14, .null, .null, .null, .int 0, .int 0])), (q8, .inl (k8, 768, .inl (fun _ => 0))), (q14, .inr (1, [.int 1, .int 0, .int 0]))] H := hP
  have hD : va_D A [(h0, .inr (0, [.ref q8, .ref q14, .null, .null, .null, .int 0, .int 0])), (q8, .inl (k8, 768, .inl (fun _ => 0))), (q14, .inr (1, [.int 1, .int 0, .int 0]))] := hD
  refine lv_aload_n hx hb d_T_init_25 rfl (lv_at hl 0 rfl) ?_
  refine va_new (ci := 1) (fs := [.int 0, .int 0, .int 0]) (C := R_S) (T := F_S) (N := 3) hx hb hts in_S ft_S ft_S_ok hown (hts (.classLink R_T 13 R_S) (by decide +kernel)) (hts (.instantiable R_S 3) (by decide +kernel)) (hts (.initialized R_S) (by decide +kernel)) hK hP hD hS hA rfl (fun j hj => by match j, hj with | 0, _ => rfl | 1, _ => rfl | 2, _ => rfl) (by decide) (by decide) d_T_init_26 (fun q26 H hP hD hS => ?_)
  have hP : va_P (dC, dI) x_Cl [(h0, .inr (0, [.ref q8, .ref q14, .null, .null, .null, .int 0, .int 0])), (q8, .inl (k8, 768, .inl (fun _ => 0))), (q14, .inr (1, [.int 1, .int 0, .int 0])), (q26, .inr (1, [.int 0, .int 0, .int 0]))] H := hP
  have hD : va_D A [(h0, .inr (0, [.ref q8, .ref q14, .null, .null, .null, .int 0, .int 0])), (q8, .inl (k8, 768, .inl (fun _ => 0))), (q14, .inr (1, [.int 1, .int 0, .int 0])), (q26, .inr (1, [.int 0, .int 0, .int 0]))] := hD
  refine W.widen (k := 3) (n := 774) (by decide) (by decide) ?_
  refine lv_dup hx hb d_T_init_29 rfl ?_
  refine lv_bipush (v := 16) hx hb d_T_init_30 (by decide) ?_
  have hPc := hP.sub (ws' := [(q26, .inr (1, [.int 0, .int 0, .int 0]))]) [3] rfl
  have hDc := hD.sub (ws' := [(q26, .inr (1, [.int 0, .int 0, .int 0]))]) [3] (by decide) rfl
  have hKc := hK.sub (tys' := []) [] rfl
  have hFc := va_free (wc := [(q26, .inr (1, [.int 0, .int 0, .int 0]))]) hD hS hA [3] rfl
  refine va_callv (va_runI (As := [.int 16]) (rest := [.ref q26, .ref h0]) ⟨hx, hb, hml, hown, hts⟩ (c_S_init l dC dI q26 H.size 16) (cwI 1 hts (x_goodc (by decide +kernel)) rfl rfl rfl (hts (.initialized R_S) (by decide +kernel)) (hts (.methodLink R_T 15 M_S_init.1) (by decide +kernel)) (hts (.instanceMethod M_S_init.1) (by decide +kernel)) rfl (by decide +kernel) ⟨Nat.le_of_ble_eq_true rfl, Nat.le_of_ble_eq_true rfl⟩) ⟨fun a U g mk q => by obtain ⟨q0, q1, qP, qK, qD⟩ := q; exact ⟨q0, q1, qP, va_K.moved (u := U) (U := U.calling g mk a) (Vm.Alike.refl U.vm) qK, qD⟩, fun U hU hW => ⟨rfl, by rw [hU], by rw [hU]; exact hPc, va_K.moved hW.alike hKc, hDc.weaken (fun _ _ _ _ => trivial)⟩⟩ rfl rfl hl.1 rfl (lv_room (Nat.le_of_ble_eq_true rfl)) d_T_init_32 ⟨by decide, by decide⟩) hS (fun q _ h => hFc q h) hFc (fun u t H1 locs ht hvm hw hB hz1 hk1 hS => ?_)
  obtain ⟨hP1, hK1, hD1⟩ := hB
  rw [ht] at hP1
  have hK1 := va_K.moved hvm.symm hK1
  obtain ⟨hP, hD⟩ := va_join (wr := [(h0, .inr (0, [.ref q8, .ref q14, .null, .null, .null, .int 0, .int 0])), (q8, .inl (k8, 768, .inl (fun _ => 0))), (q14, .inr (1, [.int 1, .int 0, .int 0]))]) (w1 := [(q26, .inr (1, [.int 16, .int 0, .int 0]))]) hP hD [3] [0, 1, 2] rfl rfl (by decide) (by decide) hk1 hFc hP1 hD1
  have hK := hK.app hK1
  generalize H1 = H at hP hS ⊢
  have hP : va_P (dC, dI) x_Cl [(h0, .inr (0, [.ref q8, .ref q14, .null, .null, .null, .int 0, .int 0])), (q8, .inl (k8, 768, .inl (fun _ => 0))), (q14, .inr (1, [.int 1, .int 0, .int 0])), (q26, .inr (1, [.int 16, .int 0, .int 0]))] H := hP
  have hD : va_D A [(h0, .inr (0, [.ref q8, .ref q14, .null, .null, .null, .int 0, .int 0])), (q8, .inl (k8, 768, .inl (fun _ => 0))), (q14, .inr (1, [.int 1, .int 0, .int 0])), (q26, .inr (1, [.int 16, .int 0, .int 0]))] := hD
  have hK : va_K (dC, dI) x_Cl [(k8, .int)] s := hK
  refine W.widen (k := 3) (n := 774) (by decide) (by decide) ?_
  refine va_putF (D := (dC, dI)) (ci := 0) (v := .ref q26) (ty := .object "LiftedTile$Span") (C := R_T) (T := F_T) (N := 7) hx hb hts in_T ft_T ft_T_ok n_T hown hK hP hD hS 0 rfl rfl 2 (by decide) (hts (.fieldLink R_T 22 (F_T 2).1 (F_T 2).2.1 (F_T 2).2.2.1) (by decide +kernel)) (fun _ h9 => h9) rfl hin rfl (by decide +kernel) rfl rfl (Nat.le_of_ble_eq_true rfl) d_T_init_35 (fun H locs hP hD hS => ?_)
  have hP : va_P (dC, dI) x_Cl [(h0, .inr (0, [.ref q8, .ref q14, .ref q26, .null, .null, .int 0, .int 0])), (q8, .inl (k8, 768, .inl (fun _ => 0))), (q14, .inr (1, [.int 1, .int 0, .int 0])), (q26, .inr (1, [.int 16, .int 0, .int 0]))] H := hP
  have hD : va_D A [(h0, .inr (0, [.ref q8, .ref q14, .ref q26, .null, .null, .int 0, .int 0])), (q8, .inl (k8, 768, .inl (fun _ => 0))), (q14, .inr (1, [.int 1, .int 0, .int 0])), (q26, .inr (1, [.int 16, .int 0, .int 0]))] := hD
  refine lv_aload_n hx hb d_T_init_38 rfl (lv_at hl 0 rfl) ?_
  refine va_new (ci := 2) (fs := [.null, .int 0, .int 0]) (C := R_L) (T := F_L) (N := 3) hx hb hts in_L ft_L ft_L_ok hown (hts (.classLink R_T 25 R_L) (by decide +kernel)) (hts (.instantiable R_L 3) (by decide +kernel)) (hts (.initialized R_L) (by decide +kernel)) hK hP hD hS hA rfl (fun j hj => by match j, hj with | 0, _ => rfl | 1, _ => rfl | 2, _ => rfl) (by decide) (by decide) d_T_init_39 (fun q39 H hP hD hS => ?_)
  have hP : va_P (dC, dI) x_Cl [(h0, .inr (0, [.ref q8, .ref q14, .ref q26, .null, .null, .int 0, .int 0])), (q8, .inl (k8, 768, .inl (fun _ => 0))), (q14, .inr (1, [.int 1, .int 0, .int 0])), (q26, .inr (1, [.int 16, .int 0, .int 0])), (q39, .inr (2, [.null, .int 0, .int 0]))] H := hP
  have hD : va_D A [(h0, .inr (0, [.ref q8, .ref q14, .ref q26, .null, .null, .int 0, .int 0])), (q8, .inl (k8, 768, .inl (fun _ => 0))), (q14, .inr (1, [.int 1, .int 0, .int 0])), (q26, .inr (1, [.int 16, .int 0, .int 0])), (q39, .inr (2, [.null, .int 0, .int 0]))] := hD
  refine W.widen (k := 4) (n := 777) (by decide) (by decide) ?_
  refine lv_dup hx hb d_T_init_42 rfl ?_
  have hPc := hP.sub (ws' := [(q39, .inr (2, [.null, .int 0, .int 0]))]) [4] rfl
  have hDc := hD.sub (ws' := [(q39, .inr (2, [.null, .int 0, .int 0]))]) [4] (by decide) rfl
  have hKc := hK.sub (tys' := []) [] rfl
  have hFc := va_free (wc := [(q39, .inr (2, [.null, .int 0, .int 0]))]) hD hS hA [4] rfl
  refine va_callv (va_runI (As := []) (rest := [.ref q39, .ref h0]) ⟨hx, hb, hml, hown, hts⟩ (c_L_init l dC dI q39 H.size) (cwI 0 hts (x_goodc (by decide +kernel)) rfl rfl rfl (hts (.initialized R_L) (by decide +kernel)) (hts (.methodLink R_T 27 M_L_init.1) (by decide +kernel)) (hts (.instanceMethod M_L_init.1) (by decide +kernel)) rfl (by decide +kernel) ⟨Nat.le_of_ble_eq_true rfl, Nat.le_of_ble_eq_true rfl⟩) ⟨fun a U g mk q => by obtain ⟨q0, q1, qP, qK, qD⟩ := q; exact ⟨q0, q1, qP, va_K.moved (u := U) (U := U.calling g mk a) (Vm.Alike.refl U.vm) qK, qD⟩, fun U hU hW => ⟨rfl, by rw [hU], by rw [hU]; exact hPc, va_K.moved hW.alike hKc, hDc.weaken (fun _ _ _ _ => trivial)⟩⟩ rfl rfl hl.1 rfl (lv_room (Nat.le_of_ble_eq_true rfl)) d_T_init_43 ⟨by decide, by decide⟩) hS (fun q _ h => hFc q h) hFc (fun u t H1 locs ht hvm hw hB hz1 hk1 hS => ?_)
  obtain ⟨q43, k43, hP1, hK1, hD1⟩ := hB
  rw [ht] at hP1
  have hK1 := va_K.moved hvm.symm hK1
  obtain ⟨hP, hD⟩ := va_join (wr := [(h0, .inr (0, [.ref q8, .ref q14, .ref q26, .null, .null, .int 0, .int 0])), (q8, .inl (k8, 768, .inl (fun _ => 0))), (q14, .inr (1, [.int 1, .int 0, .int 0])), (q26, .inr (1, [.int 16, .int 0, .int 0]))]) (w1 := [(q39, .inr (2, [.ref q43, .int 0, .int 0])), (q43, .inl (k43, 16, .inl (fun _ => 0)))]) hP hD [4] [0, 1, 2, 3] rfl rfl (by decide) (by decide) hk1 hFc hP1 hD1
  have hK := hK.app hK1
  generalize H1 = H at hP hS ⊢
  have hP : va_P (dC, dI) x_Cl [(h0, .inr (0, [.ref q8, .ref q14, .ref q26, .null, .null, .int 0, .int 0])), (q8, .inl (k8, 768, .inl (fun _ => 0))), (q14, .inr (1, [.int 1, .int 0, .int 0])), (q26, .inr (1, [.int 16, .int 0, .int 0])), (q39, .inr (2, [.ref q43, .int 0, .int 0])), (q43, .inl (k43, 16, .inl (fun _ => 0)))] H := hP
  have hD : va_D A [(h0, .inr (0, [.ref q8, .ref q14, .ref q26, .null, .null, .int 0, .int 0])), (q8, .inl (k8, 768, .inl (fun _ => 0))), (q14, .inr (1, [.int 1, .int 0, .int 0])), (q26, .inr (1, [.int 16, .int 0, .int 0])), (q39, .inr (2, [.ref q43, .int 0, .int 0])), (q43, .inl (k43, 16, .inl (fun _ => 0)))] := hD
  have hK : va_K (dC, dI) x_Cl [(k8, .int), (k43, .int)] s := hK
  refine W.widen (k := 5) (n := 793) (by decide) (by decide) ?_
  refine va_putF (D := (dC, dI)) (ci := 0) (v := .ref q39) (ty := .object "LiftedTile$Line") (C := R_T) (T := F_T) (N := 7) hx hb hts in_T ft_T ft_T_ok n_T hown hK hP hD hS 0 rfl rfl 3 (by decide) (hts (.fieldLink R_T 28 (F_T 3).1 (F_T 3).2.1 (F_T 3).2.2.1) (by decide +kernel)) (fun _ h9 => h9) rfl hin rfl (by decide +kernel) rfl rfl (Nat.le_of_ble_eq_true rfl) d_T_init_46 (fun H locs hP hD hS => ?_)
  have hP : va_P (dC, dI) x_Cl [(h0, .inr (0, [.ref q8, .ref q14, .ref q26, .ref q39, .null, .int 0, .int 0])), (q8, .inl (k8, 768, .inl (fun _ => 0))), (q14, .inr (1, [.int 1, .int 0, .int 0])), (q26, .inr (1, [.int 16, .int 0, .int 0])), (q39, .inr (2, [.ref q43, .int 0, .int 0])), (q43, .inl (k43, 16, .inl (fun _ => 0)))] H := hP
  have hD : va_D A [(h0, .inr (0, [.ref q8, .ref q14, .ref q26, .ref q39, .null, .int 0, .int 0])), (q8, .inl (k8, 768, .inl (fun _ => 0))), (q14, .inr (1, [.int 1, .int 0, .int 0])), (q26, .inr (1, [.int 16, .int 0, .int 0])), (q39, .inr (2, [.ref q43, .int 0, .int 0])), (q43, .inl (k43, 16, .inl (fun _ => 0)))] := hD
  refine lv_aload_n hx hb d_T_init_49 rfl (lv_at hl 0 rfl) ?_
  refine lv_iconst (v := 4) hx hb d_T_init_50 (by decide) ?_
  refine va_newa (atype := .int) (n := 4) (ty := .int) (N' := 4) (a0 := (4, .inl (fun _ => 0))) hx hb (hts (.arrayClass .int) (by decide +kernel)) rfl hK hP hD hS hA (fun _ => rfl) (by decide +kernel) (by decide +kernel) (by decide +kernel) (by decide) (by decide) d_T_init_51 (fun q51 k51 H hK hP hD hS => ?_)
  have hK : va_K (dC, dI) x_Cl [(k8, .int), (k43, .int), (k51, .int)] s := hK
  have hP : va_P (dC, dI) x_Cl [(h0, .inr (0, [.ref q8, .ref q14, .ref q26, .ref q39, .null, .int 0, .int 0])), (q8, .inl (k8, 768, .inl (fun _ => 0))), (q14, .inr (1, [.int 1, .int 0, .int 0])), (q26, .inr (1, [.int 16, .int 0, .int 0])), (q39, .inr (2, [.ref q43, .int 0, .int 0])), (q43, .inl (k43, 16, .inl (fun _ => 0))), (q51, .inl (k51, 4, .inl (fun _ => 0)))] H := hP
  have hD : va_D A [(h0, .inr (0, [.ref q8, .ref q14, .ref q26, .ref q39, .null, .int 0, .int 0])), (q8, .inl (k8, 768, .inl (fun _ => 0))), (q14, .inr (1, [.int 1, .int 0, .int 0])), (q26, .inr (1, [.int 16, .int 0, .int 0])), (q39, .inr (2, [.ref q43, .int 0, .int 0])), (q43, .inl (k43, 16, .inl (fun _ => 0))), (q51, .inl (k51, 4, .inl (fun _ => 0)))] := hD
  refine W.widen (k := 6) (n := 797) (by decide) (by decide) ?_
  refine va_putF (D := (dC, dI)) (ci := 0) (v := .ref q51) (ty := .array .int) (C := R_T) (T := F_T) (N := 7) hx hb hts in_T ft_T ft_T_ok n_T hown hK hP hD hS 0 rfl rfl 4 (by decide) (hts (.fieldLink R_T 32 (F_T 4).1 (F_T 4).2.1 (F_T 4).2.2.1) (by decide +kernel)) (fun _ h9 => h9) rfl hin rfl (by decide +kernel) rfl rfl (Nat.le_of_ble_eq_true rfl) d_T_init_53 (fun H locs hP hD hS => ?_)
  have hP : va_P (dC, dI) x_Cl [(h0, .inr (0, [.ref q8, .ref q14, .ref q26, .ref q39, .ref q51, .int 0, .int 0])), (q8, .inl (k8, 768, .inl (fun _ => 0))), (q14, .inr (1, [.int 1, .int 0, .int 0])), (q26, .inr (1, [.int 16, .int 0, .int 0])), (q39, .inr (2, [.ref q43, .int 0, .int 0])), (q43, .inl (k43, 16, .inl (fun _ => 0))), (q51, .inl (k51, 4, .inl (fun _ => 0)))] H := hP
  have hD : va_D A [(h0, .inr (0, [.ref q8, .ref q14, .ref q26, .ref q39, .ref q51, .int 0, .int 0])), (q8, .inl (k8, 768, .inl (fun _ => 0))), (q14, .inr (1, [.int 1, .int 0, .int 0])), (q26, .inr (1, [.int 16, .int 0, .int 0])), (q39, .inr (2, [.ref q43, .int 0, .int 0])), (q43, .inl (k43, 16, .inl (fun _ => 0))), (q51, .inl (k51, 4, .inl (fun _ => 0)))] := hD
  refine lv_aload_n hx hb d_T_init_56 rfl (lv_at hl 0 rfl) ?_
  refine lv_iconst (v := 0) hx hb d_T_init_57 (by decide) ?_
  refine va_put (D := (dC, dI)) (ci := 0) (v := .int 0) (ty := .int) (C := R_T) (T := F_T) (N := 7) hx hb hts in_T ft_T ft_T_ok n_T hown hK hP hD hS 0 rfl rfl 5 (by decide) (hts (.fieldLink R_T 35 (F_T 5).1 (F_T 5).2.1 (F_T 5).2.2.1) (by decide +kernel)) (fun _ h9 => h9) rfl (by decide +kernel) rfl rfl (Nat.le_of_ble_eq_true rfl) d_T_init_58 (fun H locs hP hD hS => ?_)
  have hP : va_P (dC, dI) x_Cl [(h0, .inr (0, [.ref q8, .ref q14, .ref q26, .ref q39, .ref q51, .int 0, .int 0])), (q8, .inl (k8, 768, .inl (fun _ => 0))), (q14, .inr (1, [.int 1, .int 0, .int 0])), (q26, .inr (1, [.int 16, .int 0, .int 0])), (q39, .inr (2, [.ref q43, .int 0, .int 0])), (q43, .inl (k43, 16, .inl (fun _ => 0))), (q51, .inl (k51, 4, .inl (fun _ => 0)))] H := hP
  have hD : va_D A [(h0, .inr (0, [.ref q8, .ref q14, .ref q26, .ref q39, .ref q51, .int 0, .int 0])), (q8, .inl (k8, 768, .inl (fun _ => 0))), (q14, .inr (1, [.int 1, .int 0, .int 0])), (q26, .inr (1, [.int 16, .int 0, .int 0])), (q39, .inr (2, [.ref q43, .int 0, .int 0])), (q43, .inl (k43, 16, .inl (fun _ => 0))), (q51, .inl (k51, 4, .inl (fun _ => 0)))] := hD
  refine lv_aload_n hx hb d_T_init_61 rfl (lv_at hl 0 rfl) ?_
  refine lv_iconst (v := 0) hx hb d_T_init_62 (by decide) ?_
  refine va_put (D := (dC, dI)) (ci := 0) (v := .int 0) (ty := .boolean) (C := R_T) (T := F_T) (N := 7) hx hb hts in_T ft_T ft_T_ok n_T hown hK hP hD hS 0 rfl rfl 6 (by decide) (hts (.fieldLink R_T 39 (F_T 6).1 (F_T 6).2.1 (F_T 6).2.2.1) (by decide +kernel)) (fun _ h9 => h9) rfl (by decide +kernel) rfl rfl (Nat.le_of_ble_eq_true rfl) d_T_init_63 (fun H locs hP hD hS => ?_)
  have hP : va_P (dC, dI) x_Cl [(h0, .inr (0, [.ref q8, .ref q14, .ref q26, .ref q39, .ref q51, .int 0, .int 0])), (q8, .inl (k8, 768, .inl (fun _ => 0))), (q14, .inr (1, [.int 1, .int 0, .int 0])), (q26, .inr (1, [.int 16, .int 0, .int 0])), (q39, .inr (2, [.ref q43, .int 0, .int 0])), (q43, .inl (k43, 16, .inl (fun _ => 0))), (q51, .inl (k51, 4, .inl (fun _ => 0)))] H := hP
  have hD : va_D A [(h0, .inr (0, [.ref q8, .ref q14, .ref q26, .ref q39, .ref q51, .int 0, .int 0])), (q8, .inl (k8, 768, .inl (fun _ => 0))), (q14, .inr (1, [.int 1, .int 0, .int 0])), (q26, .inr (1, [.int 16, .int 0, .int 0])), (q39, .inr (2, [.ref q43, .int 0, .int 0])), (q43, .inl (k43, 16, .inl (fun _ => 0))), (q51, .inl (k51, 4, .inl (fun _ => 0)))] := hD
  have hK9 := hK.sub (tys' := [(k8, .int), (k43, .int), (k51, .int)]) [0, 1, 2] rfl
  refine W.widen (k := 6) (n := 797) (by decide) (by decide) ?_
  exact W.vret hx hb hr (fun t ht hW => ⟨⟨(), rfl, trivial, q8, q14, q26, q39, q43, q51, k8, k43, k51, by rw [ht]; exact hP, va_K.moved hW.alike hK9, hD⟩, hS.F ht⟩) hS.2.2 d_T_init_66
set_option maxRecDepth 100000 in
set_option maxHeartbeats 800000 in
theorem c_R_init (l : Launch) (dC : Nat → ClassId) (dI : Nat → Nat → Nat) (h0 : Nat) (sz : Nat) : Met l M_R_init.1 (Cond.code M_R_init.1 M_R_init.2.1 M_R_init.2.2.1 M_R_init.2.2.2 :: x_tb) ({ frames := 1, cells := 4, slots := 804, locals := 12 }) (va_Pc [.ref h0] (fun U => U.heap.size = sz ∧ va_P (dC, dI) x_Cl [(h0, .inr (3, [.int 0, .int 0, .int 0, .int 0, .int 0, .int 0, .int 0, .null, .null, .int 0, .int 0, .int 0, .null, .null]))] U.heap ∧ va_K (dC, dI) x_Cl [] U ∧ va_D (fun _ => True) [(h0, .inr (3, [.int 0, .int 0, .int 0, .int 0, .int 0, .int 0, .int 0, .null, .null, .int 0, .int 0, .int 0, .null, .null]))])) (va_Qv (fun (_ : Unit) => True) (fun (_ : Unit) (t : State) => ∃ (q6 q15 q23 q31 : Nat) (k6 k15 k23 k31 : ClassId), va_P (dC, dI) x_Cl [(h0, .inr (3, [.int 0, .int 0, .int 0, .int 0, .int 0, .int 0, .int 0, .ref q6, .ref q15, .int 0, .int 0, .int 0, .ref q23, .ref q31])), (q6, .inl (k6, 4, .inl (fun _ => 0))), (q15, .inl (k15, 768, .inl (fun _ => 0))), (q23, .inl (k23, 16, .inl (fun _ => 0))), (q31, .inl (k31, 16, .inl (fun _ => 0)))] t.heap ∧ va_K (dC, dI) x_Cl [(k6, .int), (k15, .int), (k23, .int), (k31, .int)] t ∧ va_D (va_A [(h0, .inr (3, [.int 0, .int 0, .int 0, .int 0, .int 0, .int 0, .int 0, .null, .null, .int 0, .int 0, .int 0, .null, .null]))] sz) [(h0, .inr (3, [.int 0, .int 0, .int 0, .int 0, .int 0, .int 0, .int 0, .ref q6, .ref q15, .int 0, .int 0, .int 0, .ref q23, .ref q31])), (q6, .inl (k6, 4, .inl (fun _ => 0))), (q15, .inl (k15, 768, .inl (fun _ => 0))), (q23, .inl (k23, 16, .inl (fun _ => 0))), (q31, .inl (k31, 16, .inl (fun _ => 0)))]) (va_A [(h0, .inr (3, [.int 0, .int 0, .int 0, .int 0, .int 0, .int 0, .int 0, .null, .null, .int 0, .int 0, .int 0, .null, .null]))] sz)) 4 804 (va_A [(h0, .inr (3, [.int 0, .int 0, .int 0, .int 0, .int 0, .int 0, .int 0, .null, .null, .int 0, .int 0, .int 0, .null, .null]))] sz) := by
  refine Met.ofW (cc := M_R_init.2.1) (maxL := 1) (ret := none) (by decide) rfl ?_
  intro p e s m args below meth c s₁ B hml hv
  obtain ⟨rfl, hsz, hP, hK, hD0⟩ := hv
  have hx := B.exec
  have hb := B.bytes
  have hr := B.returns
  have hts : ∀ w ∈ x_tb, w.before _ s = true := fun w h => atoms_spec (ws := Cond.code M_R_init.1 M_R_init.2.1 M_R_init.2.2.1 M_R_init.2.2.2 :: x_tb) B.pre w (List.mem_cons_of_mem _ h)
  have hown : s.vm.findClass R_R = some m.cls := findClass_of_methodNamed B.named
  have hlocks := B.notSynchronized
  have hin : meth.name = "<init>" := (name_of_methodNamed B.named B.method).1
  subst hsz
  have hD := hD0.self (sz := s.heap.size)
  generalize hAe : va_A [(h0, .inr (3, [.int 0, .int 0, .int 0, .int 0, .int 0, .int 0, .int 0, .null, .null, .int 0, .int 0, .int 0, .null, .null]))] s.heap.size = A at hD ⊢
  have hA : ∀ q : Nat, s.heap.size ≤ q → A q := fun q h => by rw [← hAe]; exact Or.inr h
  have hS : va_S A s.heap s.heap [] := va_S.rf
  have hP : va_P (dC, dI) x_Cl [(h0, .inr (3, [.int 0, .int 0, .int 0, .int 0, .int 0, .int 0, .int 0, .null, .null, .int 0, .int 0, .int 0, .null, .null]))] s.heap := hP
  have hl := lv_entry ([.ref h0]) (n := 1) (Nat.le_of_ble_eq_true rfl)
  rw [lg_entry_eq]
  generalize (lg_sl ([.ref h0]) ++ List.replicate (1 - (lg_sl ([.ref h0])).length) Slot.unset).toArray = ls at hl ⊢
  have hl : lv_has ls 1 [(0, .ref h0)] := hl
  refine lv_aload_n hx hb d_R_init_0 rfl (lv_at hl 0 rfl) ?_
  refine W.objInit hx hb hown (hts (.methodLink R_R 1 objectInit) (by decide +kernel)) (hts (.instanceMethod objectInit) (by decide +kernel)) (hts (.code objectInit ⟨#[0xb1]⟩ 1 none) (by decide +kernel)) rfl (by rw [hml]; exact hl.1) rfl d_R_init_1 (Nat.le_of_ble_eq_true rfl) (Nat.le_of_ble_eq_true rfl) ?_
  refine W.eq (g2 := F0 m 4 ls []) rfl ?_
  refine lv_aload_n hx hb d_R_init_4 rfl (lv_at hl 0 rfl) ?_
  refine lv_iconst (v := 4) hx hb d_R_init_5 (by decide) ?_
  refine va_newa (atype := .int) (n := 4) (ty := .int) (N' := 4) (a0 := (4, .inl (fun _ => 0))) hx hb (hts (.arrayClass .int) (by decide +kernel)) rfl hK hP hD hS hA (fun _ => rfl) (by decide +kernel) (by decide +kernel) (by decide +kernel) (by decide) (by decide) d_R_init_6 (fun q6 k6 H hK hP hD hS => ?_)
  have hK : va_K (dC, dI) x_Cl [(k6, .int)] s := hK
  have hP : va_P (dC, dI) x_Cl [(h0, .inr (3, [.int 0, .int 0, .int 0, .int 0, .int 0, .int 0, .int 0, .null, .null, .int 0, .int 0, .int 0, .null, .null])), (q6, .inl (k6, 4, .inl (fun _ => 0)))] H := hP
  have hD : va_D A [(h0, .inr (3, [.int 0, .int 0, .int 0, .int 0, .int 0, .int 0, .int 0, .null, .null, .int 0, .int 0, .int 0, .null, .null])), (q6, .inl (k6, 4, .inl (fun _ => 0)))] := hD
  refine W.widen (k := 1) (n := 4) (by decide) (by decide) ?_
  refine va_put (D := (dC, dI)) (ci := 3) (v := .ref q6) (ty := .array .int) (C := R_R) (T := F_R) (N := 14) hx hb hts in_R ft_R ft_R_ok n_R hown hK hP hD hS 0 rfl rfl 7 (by decide) (hts (.fieldLink R_R 7 (F_R 7).1 (F_R 7).2.1 (F_R 7).2.2.1) (by decide +kernel)) (fun _ h9 => h9) rfl (by decide +kernel) rfl rfl (Nat.le_of_ble_eq_true rfl) d_R_init_8 (fun H locs hP hD hS => ?_)
  have hP : va_P (dC, dI) x_Cl [(h0, .inr (3, [.int 0, .int 0, .int 0, .int 0, .int 0, .int 0, .int 0, .ref q6, .null, .int 0, .int 0, .int 0, .null, .null])), (q6, .inl (k6, 4, .inl (fun _ => 0)))] H := hP
  have hD : va_D A [(h0, .inr (3, [.int 0, .int 0, .int 0, .int 0, .int 0, .int 0, .int 0, .ref q6, .null, .int 0, .int 0, .int 0, .null, .null])), (q6, .inl (k6, 4, .inl (fun _ => 0)))] := hD
  refine lv_aload_n hx hb d_R_init_11 rfl (lv_at hl 0 rfl) ?_
  refine lv_sipush (v := 768) hx hb d_R_init_12 (by decide) ?_
  refine va_newa (atype := .int) (n := 768) (ty := .int) (N' := 768) (a0 := (768, .inl (fun _ => 0))) hx hb (hts (.arrayClass .int) (by decide +kernel)) rfl hK hP hD hS hA (fun _ => rfl) (by decide +kernel) (by decide +kernel) (by decide +kernel) (by decide) (by decide) d_R_init_15 (fun q15 k15 H hK hP hD hS => ?_)
  have hK : va_K (dC, dI) x_Cl [(k6, .int), (k15, .int)] s := hK
  have hP : va_P (dC, dI) x_Cl [(h0, .inr (3, [.int 0, .int 0, .int 0, .int 0, .int 0, .int 0, .int 0, .ref q6, .null, .int 0, .int 0, .int 0, .null, .null])), (q6, .inl (k6, 4, .inl (fun _ => 0))), (q15, .inl (k15, 768, .inl (fun _ => 0)))] H := hP
  have hD : va_D A [(h0, .inr (3, [.int 0, .int 0, .int 0, .int 0, .int 0, .int 0, .int 0, .ref q6, .null, .int 0, .int 0, .int 0, .null, .null])), (q6, .inl (k6, 4, .inl (fun _ => 0))), (q15, .inl (k15, 768, .inl (fun _ => 0)))] := hD
  refine W.widen (k := 2) (n := 772) (by decide) (by decide) ?_
  refine va_put (D := (dC, dI)) (ci := 3) (v := .ref q15) (ty := .array .int) (C := R_R) (T := F_R) (N := 14) hx hb hts in_R ft_R ft_R_ok n_R hown hK hP hD hS 0 rfl rfl 8 (by decide) (hts (.fieldLink R_R 13 (F_R 8).1 (F_R 8).2.1 (F_R 8).2.2.1) (by decide +kernel)) (fun _ h9 => h9) rfl (by decide +kernel) rfl rfl (Nat.le_of_ble_eq_true rfl) d_R_init_17 (fun H locs hP hD hS => ?_)
  have hP : va_P (dC, dI) x_Cl [(h0, .inr (3, [.int 0, .int 0, .int 0, .int 0, .int 0, .int 0, .int 0, .ref q6, .ref q15, .int 0, .int 0, .int 0, .null, .null])), (q6, .inl (k6, 4, .inl (fun _ => 0))), (q15, .inl (k15, 768, .inl (fun _ => 0)))] H := hP
  have hD : va_D A [(h0, .inr (3, [.int 0, .int 0, .int 0, .int 0, .int 0, .int 0, .int 0, .ref q6, .ref q15, .int 0, .int 0, .int 0, .null, .null])), (q6, .inl (k6, 4, .inl (fun _ => 0))), (q15, .inl (k15, 768, .inl (fun _ => 0)))] := hD
  refine lv_aload_n hx hb d_R_init_20 rfl (lv_at hl 0 rfl) ?_
  refine lv_bipush (v := 16) hx hb d_R_init_21 (by decide) ?_
  refine va_newa (atype := .int) (n := 16) (ty := .int) (N' := 16) (a0 := (16, .inl (fun _ => 0))) hx hb (hts (.arrayClass .int) (by decide +kernel)) rfl hK hP hD hS hA (fun _ => rfl) (by decide +kernel) (by decide +kernel) (by decide +kernel) (by decide) (by decide) d_R_init_23 (fun q23 k23 H hK hP hD hS => ?_)
  have hK : va_K (dC, dI) x_Cl [(k6, .int), (k15, .int), (k23, .int)] s := hK
  have hP : va_P (dC, dI) x_Cl [(h0, .inr (3, [.int 0, .int 0, .int 0, .int 0, .int 0, .int 0, .int 0, .ref q6, .ref q15, .int 0, .int 0, .int 0, .null, .null])), (q6, .inl (k6, 4, .inl (fun _ => 0))), (q15, .inl (k15, 768, .inl (fun _ => 0))), (q23, .inl (k23, 16, .inl (fun _ => 0)))] H := hP
  have hD : va_D A [(h0, .inr (3, [.int 0, .int 0, .int 0, .int 0, .int 0, .int 0, .int 0, .ref q6, .ref q15, .int 0, .int 0, .int 0, .null, .null])), (q6, .inl (k6, 4, .inl (fun _ => 0))), (q15, .inl (k15, 768, .inl (fun _ => 0))), (q23, .inl (k23, 16, .inl (fun _ => 0)))] := hD
  refine W.widen (k := 3) (n := 788) (by decide) (by decide) ?_
  refine va_put (D := (dC, dI)) (ci := 3) (v := .ref q23) (ty := .array .int) (C := R_R) (T := F_R) (N := 14) hx hb hts in_R ft_R ft_R_ok n_R hown hK hP hD hS 0 rfl rfl 12 (by decide) (hts (.fieldLink R_R 16 (F_R 12).1 (F_R 12).2.1 (F_R 12).2.2.1) (by decide +kernel)) (fun _ h9 => h9) rfl (by decide +kernel) rfl rfl (Nat.le_of_ble_eq_true rfl) d_R_init_25 (fun H locs hP hD hS => ?_)
  have hP : va_P (dC, dI) x_Cl [(h0, .inr (3, [.int 0, .int 0, .int 0, .int 0, .int 0, .int 0, .int 0, .ref q6, .ref q15, .int 0, .int 0, .int 0, .ref q23, .null])), (q6, .inl (k6, 4, .inl (fun _ => 0))), (q15, .inl (k15, 768, .inl (fun _ => 0))), (q23, .inl (k23, 16, .inl (fun _ => 0)))] H := hP
  have hD : va_D A [(h0, .inr (3, [.int 0, .int 0, .int 0, .int 0, .int 0, .int 0, .int 0, .ref q6, .ref q15, .int 0, .int 0, .int 0, .ref q23, .null])), (q6, .inl (k6, 4, .inl (fun _ => 0))), (q15, .inl (k15, 768, .inl (fun _ => 0))), (q23, .inl (k23, 16, .inl (fun _ => 0)))] := hD
  refine lv_aload_n hx hb d_R_init_28 rfl (lv_at hl 0 rfl) ?_
  refine lv_bipush (v := 16) hx hb d_R_init_29 (by decide) ?_
  refine va_newa (atype := .int) (n := 16) (ty := .int) (N' := 16) (a0 := (16, .inl (fun _ => 0))) hx hb (hts (.arrayClass .int) (by decide +kernel)) rfl hK hP hD hS hA (fun _ => rfl) (by decide +kernel) (by decide +kernel) (by decide +kernel) (by decide) (by decide) d_R_init_31 (fun q31 k31 H hK hP hD hS => ?_)
  have hK : va_K (dC, dI) x_Cl [(k6, .int), (k15, .int), (k23, .int), (k31, .int)] s := hK
  have hP : va_P (dC, dI) x_Cl [(h0, .inr (3, [.int 0, .int 0, .int 0, .int 0, .int 0, .int 0, .int 0, .ref q6, .ref q15, .int 0, .int 0, .int 0, .ref q23, .null])), (q6, .inl (k6, 4, .inl (fun _ => 0))), (q15, .inl (k15, 768, .inl (fun _ => 0))), (q23, .inl (k23, 16, .inl (fun _ => 0))), (q31, .inl (k31, 16, .inl (fun _ => 0)))] H := hP
  have hD : va_D A [(h0, .inr (3, [.int 0, .int 0, .int 0, .int 0, .int 0, .int 0, .int 0, .ref q6, .ref q15, .int 0, .int 0, .int 0, .ref q23, .null])), (q6, .inl (k6, 4, .inl (fun _ => 0))), (q15, .inl (k15, 768, .inl (fun _ => 0))), (q23, .inl (k23, 16, .inl (fun _ => 0))), (q31, .inl (k31, 16, .inl (fun _ => 0)))] := hD
  refine W.widen (k := 4) (n := 804) (by decide) (by decide) ?_
  refine va_put (D := (dC, dI)) (ci := 3) (v := .ref q31) (ty := .array .int) (C := R_R) (T := F_R) (N := 14) hx hb hts in_R ft_R ft_R_ok n_R hown hK hP hD hS 0 rfl rfl 13 (by decide) (hts (.fieldLink R_R 19 (F_R 13).1 (F_R 13).2.1 (F_R 13).2.2.1) (by decide +kernel)) (fun _ h9 => h9) rfl (by decide +kernel) rfl rfl (Nat.le_of_ble_eq_true rfl) d_R_init_33 (fun H locs hP hD hS => ?_)
  have hP : va_P (dC, dI) x_Cl [(h0, .inr (3, [.int 0, .int 0, .int 0, .int 0, .int 0, .int 0, .int 0, .ref q6, .ref q15, .int 0, .int 0, .int 0, .ref q23, .ref q31])), (q6, .inl (k6, 4, .inl (fun _ => 0))), (q15, .inl (k15, 768, .inl (fun _ => 0))), (q23, .inl (k23, 16, .inl (fun _ => 0))), (q31, .inl (k31, 16, .inl (fun _ => 0)))] H := hP
  have hD : va_D A [(h0, .inr (3, [.int 0, .int 0, .int 0, .int 0, .int 0, .int 0, .int 0, .ref q6, .ref q15, .int 0, .int 0, .int 0, .ref q23, .ref q31])), (q6, .inl (k6, 4, .inl (fun _ => 0))), (q15, .inl (k15, 768, .inl (fun _ => 0))), (q23, .inl (k23, 16, .inl (fun _ => 0))), (q31, .inl (k31, 16, .inl (fun _ => 0)))] := hD
  have hK9 := hK.sub (tys' := [(k6, .int), (k15, .int), (k23, .int), (k31, .int)]) [0, 1, 2, 3] rfl
  refine W.widen (k := 4) (n := 804) (by decide) (by decide) ?_
  exact W.vret hx hb hr (fun t ht hW => ⟨⟨(), rfl, trivial, q6, q15, q23, q31, k6, k15, k23, k31, by rw [ht]; exact hP, va_K.moved hW.alike hK9, hD⟩, hS.F ht⟩) hS.2.2 d_R_init_36
