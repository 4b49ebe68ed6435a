section CS
variable {p : Program} {l : Launch} {e : Env} {s : State} {m : MethodId} {below : List Frame} {meth : Method} {c : Code} {ad : Nat → Nat} {D : va_G} {cI : ClassId} {b L k : Nat} {xs : Nat → Int32} {sc : Nat → Int32} {ar : Nat → Nat → Int32}
set_option maxRecDepth 100000 in
set_option maxHeartbeats 800000 in
theorem law_loop (X : x_X p room_1 s m #[Value.ref b] meth c M_W_law ad D cI (fun q => s.heap.size ≤ q) 12 1622) (hX : va_X b L xs s s.heap) (hbl : b < s.heap.size) (hbA : ¬ s.heap.size ≤ b) (hL : L ≤ 3072) : ∀ (n k : Nat) (sc : Nat → Int32) (ar : Nat → Nat → Int32), L + 6 - 6 * k < n → 6 * k ≤ L + 6 → x_IN sc ar → x_G p l e room_1 s m #[Value.ref b] below meth c M_W_law ad D cI (fun q => s.heap.size ≤ q) 12 1622 (lw_Z below #[Value.ref b] s) 18 [some (.ref b), some (.ref (ad 0)), some (.ref (ad 7)), some (.int (nI (6 * k)))] [] sc ar := by
  intro n
  induction n with
  | zero => intro k sc ar h; exact absurd h (Nat.not_lt_zero _)
  | succ n ih =>
    intro k sc ar hn hk hN
    refine xg_iload_n X (pc := 18) d_W_law_18 rfl ?_
    refine xg_aload_n X (pc := 19) d_W_law_19 rfl ?_
    refine xg_slen X (pc := 20) hX hbl hbA d_W_law_20 ?_
    refine xg_bipush X (pc := 21) (v := 6) d_W_law_21 (by decide) ?_
    refine xg_isub X (pc := 23) d_W_law_23 ?_
    have e6 : (6 : Int32) = zI 6 := by decide
    have e1 : Int32.ofNat L - 6 = zI ((L : Int) - 6) := by
      show nI L - 6 = _
      rw [← zI_nI, e6, zI_sub]
    refine xg_icmp_gt X (pc := 24) (tgt := 642) d_W_law_24 rfl (fun h24 => ?_) (fun h24 => ?_)
    · refine xg_iconst X (pc := 642) (v := 1) d_W_law_642 (by decide) ?_
      exact fun H locs ls hl hP hS => va_forget (fun q hq => hS.2.2 q hq) (lw_ret X.ex X.cd X.ret X.lk d_W_law_643)
    · rw [e1, ← zI_nI, zI_lt _ _] at h24
      have hk6 : 6 * k + 6 ≤ L := by omega
      refine xg_aload_n X (pc := 27) d_W_law_27 rfl ?_
      refine xg_iload_n X (pc := 28) d_W_law_28 rfl ?_
      refine xg_sld X (pc := 29) hX hbl hbA d_W_law_29 (vp_in_nI (by omega) (by omega)) ?_
      refine xg_bipush X (pc := 30) (v := 15) d_W_law_30 (by decide) ?_
      refine xg_iand X (pc := 32) d_W_law_32 ?_
      have cont : ∀ (sc2 : Nat → Int32) (ar2 : Nat → Nat → Int32), x_IN sc2 ar2 → x_G p l e room_1 s m #[Value.ref b] below meth c M_W_law ad D cI (fun q => s.heap.size ≤ q) 12 1622 (lw_Z below #[Value.ref b] s) 636 [some (.ref b), some (.ref (ad 0)), some (.ref (ad 7)), some (.int (nI (6 * k)))] [] sc2 ar2 := by
        intro sc2 ar2 hN2
        refine xg_iinc X (pc := 636) d_W_law_636 rfl (x_inc (by decide : Int32.ofInt (6) = 6) _) (by decide) rfl ?_
        refine xg_goto X (pc := 639) (tgt := 18) d_W_law_639 rfl ?_
        refine xg_weak [some (.ref b), some (.ref (ad 0)), some (.ref (ad 7)), some (.int (nI (6 * (k + 1))))] ⟨rfl, rfl, rfl, congrArg (fun v => some (Value.int v)) (by rw [Nat.mul_add]; exact nI_add (6 * k) 6), trivial⟩ ?_
        exact ih (k + 1) sc2 ar2 (by omega) (by omega) hN2
      obtain ⟨j, hj, ej⟩ := pk_andE (xs (nI (6 * k)).toNatClampNeg) (m := 15) 4 (by decide)
      rw [ej]
      match j, hj with
      | 0, _ => exact xg_tableIn X (pc := 33) (off := 75) (tgt := 108) d_W_law_33 (by decide) (by decide) (by decide) rfl (law_0 X hX hbl hbA hL hk6 hN cont)
      | 1, _ => exact xg_tableIn X (pc := 33) (off := 128) (tgt := 161) d_W_law_33 (by decide) (by decide) (by decide) rfl (law_1 X hX hbl hbA hL hk6 hN cont)
      | 2, _ => exact xg_tableIn X (pc := 33) (off := 181) (tgt := 214) d_W_law_33 (by decide) (by decide) (by decide) rfl (law_2 X hX hbl hbA hL hk6 hN cont)
      | 3, _ => exact xg_tableIn X (pc := 33) (off := 224) (tgt := 257) d_W_law_33 (by decide) (by decide) (by decide) rfl (law_3 X hX hbl hbA hL hk6 hN cont)
      | 4, _ => exact xg_tableIn X (pc := 33) (off := 237) (tgt := 270) d_W_law_33 (by decide) (by decide) (by decide) rfl (law_4 X hX hbl hbA hL hk6 hN cont)
      | 5, _ => exact xg_tableIn X (pc := 33) (off := 250) (tgt := 283) d_W_law_33 (by decide) (by decide) (by decide) rfl (law_5 X hX hbl hbA hL hk6 hN cont)
      | 6, _ => exact xg_tableIn X (pc := 33) (off := 263) (tgt := 296) d_W_law_33 (by decide) (by decide) (by decide) rfl (law_6 X hX hbl hbA hL hk6 hN cont)
      | 7, _ => exact xg_tableIn X (pc := 33) (off := 286) (tgt := 319) d_W_law_33 (by decide) (by decide) (by decide) rfl (law_7 X hX hbl hbA hL hk6 hN cont)
      | 8, _ => exact xg_tableIn X (pc := 33) (off := 299) (tgt := 332) d_W_law_33 (by decide) (by decide) (by decide) rfl (law_8 X hX hbl hbA hL hk6 hN cont)
      | 9, _ => exact xg_tableIn X (pc := 33) (off := 312) (tgt := 345) d_W_law_33 (by decide) (by decide) (by decide) rfl (law_9 X hX hbl hbA hL hk6 hN cont)
      | 10, _ => exact xg_tableIn X (pc := 33) (off := 335) (tgt := 368) d_W_law_33 (by decide) (by decide) (by decide) rfl (law_10 X hX hbl hbA hL hk6 hN cont)
      | 11, _ => exact xg_tableIn X (pc := 33) (off := 394) (tgt := 427) d_W_law_33 (by decide) (by decide) (by decide) rfl (law_11 X hX hbl hbA hL hk6 hN cont)
      | 12, _ => exact xg_tableIn X (pc := 33) (off := 453) (tgt := 486) d_W_law_33 (by decide) (by decide) (by decide) rfl (law_12 X hX hbl hbA hL hk6 hN cont)
      | 13, _ => exact xg_tableIn X (pc := 33) (off := 516) (tgt := 549) d_W_law_33 (by decide) (by decide) (by decide) rfl (law_13 X hX hbl hbA hL hk6 hN cont)
      | 14, _ => exact xg_tableIn X (pc := 33) (off := 559) (tgt := 592) d_W_law_33 (by decide) (by decide) (by decide) rfl (law_14 X hX hbl hbA hL hk6 hN cont)
      | 15, _ => exact xg_tableOut X (pc := 33) (tgt := 636) d_W_law_33 (Or.inr (by decide)) rfl (cont sc ar hN)
      | j + 16, hj => exact absurd hj (by omega)
end CS
theorem x_dis_of {ad : Nat → Nat} {cI : ClassId} {sc : Nat → Int32} {ar : Nat → Nat → Int32} {A : Nat → Prop} (h : va_D A (x_wd ad cI sc ar)) : x_dis ad ∧ ∀ i, i < 12 → A (ad i) := by
  have key : ∀ i, i < 12 → ∃ e : va_E, (x_wd ad cI sc ar)[i]? = some (ad i, e) := by
    intro i hi
    match i, hi with
    | 0, _ => exact ⟨_, rfl⟩
    | 1, _ => exact ⟨_, rfl⟩
    | 2, _ => exact ⟨_, rfl⟩
    | 3, _ => exact ⟨_, rfl⟩
    | 4, _ => exact ⟨_, rfl⟩
    | 5, _ => exact ⟨_, rfl⟩
    | 6, _ => exact ⟨_, rfl⟩
    | 7, _ => exact ⟨_, rfl⟩
    | 8, _ => exact ⟨_, rfl⟩
    | 9, _ => exact ⟨_, rfl⟩
    | 10, _ => exact ⟨_, rfl⟩
    | 11, _ => exact ⟨_, rfl⟩
  refine ⟨fun i j hi hj e => ?_, fun i hi => ?_⟩
  · obtain ⟨e1, h1⟩ := key i hi
    obtain ⟨e2, h2⟩ := key j hj
    exact h.1 i j _ _ h1 h2 e
  · obtain ⟨e1, h1⟩ := key i hi
    exact h.2 i _ h1
theorem x_IN0 : x_IN (fun _ => 0) (fun _ _ => 0) := ⟨0, 0, 0, 0, 0, 0, 0, fun _ => 0, fun _ => 0, ⟨by decide, by decide, by decide, by decide, by decide, Or.inl rfl, Or.inr ⟨rfl, rfl, rfl, rfl⟩, fun _ _ _ => rfl⟩, ⟨rfl, rfl, rfl, rfl, rfl, rfl, rfl, rfl⟩, ⟨rfl, rfl, rfl, rfl, rfl, rfl, rfl, rfl, rfl⟩⟩
set_option maxRecDepth 100000 in
set_option maxHeartbeats 800000 in
theorem whole_start {p : Program} {e : Env} {s : State} {m : MethodId} {below : List Frame} {meth : Method} {c : Code} (l : Launch) {b L : Nat} {xs : Nat → Int32} (hL : L ≤ 3072) (C0 : lw_At p s m meth c b L xs) : W p l e room_1 s m #[Value.ref b] below meth c s.heap [] 0 0 (lw_Z below #[Value.ref b] s) (entryFrame m ([Value.ref b] : List Value).toArray 4) := by
  obtain ⟨hx, hb0, hr, hml, hown0, hts0, hX, hbl, hlk, -⟩ := C0
  have hb : c.code = M_W_law.2.1 := hb0
  have hown : s.vm.findClass R_W = some m.cls := hown0
  have hts : ∀ w ∈ x_tb, w.before #[Value.ref b] s = true := fun w h => hts0 w (List.mem_filter.mp h).1
  obtain ⟨cT, iT, nT⟩ := u_known (C := R_T) (T := F_T) (N := 7) (n := 7) hts in_T (hts (.instantiable R_T 7) (by decide +kernel))
  obtain ⟨cS, iS, nS⟩ := u_known (C := R_S) (T := F_S) (N := 3) (n := 3) hts in_S (hts (.instantiable R_S 3) (by decide +kernel))
  obtain ⟨cL, iL, nL⟩ := u_known (C := R_L) (T := F_L) (N := 3) (n := 3) hts in_L (hts (.instantiable R_L 3) (by decide +kernel))
  obtain ⟨cR, iR, nR⟩ := u_known (C := R_R) (T := F_R) (N := 14) (n := 14) hts in_R (hts (.instantiable R_R 14) (by decide +kernel))
  obtain ⟨dC, dI, hK⟩ : ∃ (dC : Nat → ClassId) (dI : Nat → Nat → Nat), va_K (dC, dI) x_Cl [] s := by
    refine ⟨fun k => match k with | 0 => cT | 1 => cS | 2 => cL | _ => cR, fun k => match k with | 0 => iT | 1 => iS | 2 => iL | _ => iR, fun k q hq => ?_, fun k q hq => by simp at hq⟩
    match k, hq with
    | 0, hq => cases hq; exact nT
    | 1, hq => cases hq; exact nS
    | 2, hq => cases hq; exact nL
    | 3, hq => cases hq; exact nR
    | k + 4, hq => simp [x_Cl] at hq
  obtain ⟨A, hAe⟩ : ∃ A : Nat → Prop, A = fun q => s.heap.size ≤ q := ⟨_, rfl⟩
  have hA : ∀ q : Nat, s.heap.size ≤ q → A q := fun q h => by rw [hAe]; exact h
  have hP : va_P (dC, dI) x_Cl [] s.heap := fun k q hq => by simp at hq
  have hD : va_D A [] := ⟨fun i j p q hi => by simp at hi, fun k q hk => by simp at hk⟩
  have hS : va_S A s.heap s.heap [] := va_S.rf
  have hl := lv_entry ([.ref b]) (n := 4) (Nat.le_of_ble_eq_true rfl)
  rw [lg_entry_eq]
  generalize (lg_sl ([.ref b]) ++ List.replicate (4 - (lg_sl ([.ref b])).length) Slot.unset).toArray = ls at hl ⊢
  have hl : lv_has ls 4 [(0, .ref b)] := hl
  refine va_new (ci := 0) (fs := [.null, .null, .null, .null, .null, .int 0, .int 0]) (C := R_T) (T := F_T) (N := 7) hx hb hts in_T ft_T ft_T_ok hown (hts (.classLink R_W 7 R_T) (by decide +kernel)) (hts (.instantiable R_T 7) (by decide +kernel)) (hts (.initialized R_T) (by decide +kernel)) hK hP hD hS hA rfl (fun j hj => by match j, hj with | 0, _ => rfl | 1, _ => rfl | 2, _ => rfl | 3, _ => rfl | 4, _ => rfl | 5, _ => rfl | 6, _ => rfl) (by decide) (by decide) d_W_law_0 (fun q0 H hP hD hS => ?_)
  have hP : va_P (dC, dI) x_Cl [(q0, .inr (0, [.null, .null, .null, .null, .null, .int 0, .int 0]))] H := hP
  have hD : va_D A [(q0, .inr (0, [.null, .null, .null, .null, .null, .int 0, .int 0]))] := hD
  refine W.widen (k := 1) (n := 7) (by decide) (by decide) ?_
  refine lv_dup hx hb d_W_law_3 rfl ?_
  have hPc := hP.sub (ws' := [(q0, .inr (0, [.null, .null, .null, .null, .null, .int 0, .int 0]))]) [0] rfl
  have hDc := hD.sub (ws' := [(q0, .inr (0, [.null, .null, .null, .null, .null, .int 0, .int 0]))]) [0] (by decide) rfl
  have hKc := hK.sub (tys' := []) [] rfl
  have hFc := va_free (wc := [(q0, .inr (0, [.null, .null, .null, .null, .null, .int 0, .int 0]))]) hD hS hA [0] rfl
  refine va_callv (va_runI (As := []) (rest := [.ref q0]) ⟨hx, hb, hml, hown, hts⟩ (c_T_init l dC dI q0 H.size) (cwI 0 hts (x_goodc (by decide +kernel)) rfl rfl rfl (hts (.initialized R_T) (by decide +kernel)) (hts (.methodLink R_W 9 M_T_init.1) (by decide +kernel)) (hts (.instanceMethod M_T_init.1) (by decide +kernel)) rfl (by decide +kernel) ⟨Nat.le_of_ble_eq_true rfl, Nat.le_of_ble_eq_true rfl⟩) ⟨fun a U g mk q => by obtain ⟨q0, q1, qP, qK, qD⟩ := q; exact ⟨q0, q1, qP, va_K.moved (u := U) (U := U.calling g mk a) (Vm.Alike.refl U.vm) qK, qD⟩, fun U hU hW => ⟨rfl, by rw [hU], by rw [hU]; exact hPc, va_K.moved hW.alike hKc, hDc.weaken (fun _ _ _ _ => trivial)⟩⟩ rfl rfl hl.1 rfl (lv_room (Nat.le_of_ble_eq_true rfl)) d_W_law_4 ⟨by decide, by decide⟩) hS (fun q _ h => hFc q h) hFc (fun u t H1 locs ht hvm hw hB hz1 hk1 hS => ?_)
  obtain ⟨xq8, xq14, xq26, xq39, xq43, xq51, xk8, xk43, xk51, hP1, hK1, hD1⟩ := hB
  rw [ht] at hP1
  have hK1 := va_K.moved hvm.symm hK1
  obtain ⟨hP, hD⟩ := va_join (wr := []) (w1 := [(q0, .inr (0, [.ref xq8, .ref xq14, .ref xq26, .ref xq39, .ref xq51, .int 0, .int 0])), (xq8, .inl (xk8, 768, .inl (fun _ => 0))), (xq14, .inr (1, [.int 1, .int 0, .int 0])), (xq26, .inr (1, [.int 16, .int 0, .int 0])), (xq39, .inr (2, [.ref xq43, .int 0, .int 0])), (xq43, .inl (xk43, 16, .inl (fun _ => 0))), (xq51, .inl (xk51, 4, .inl (fun _ => 0)))]) hP hD [0] [] rfl rfl (by decide) (by decide) hk1 hFc hP1 hD1
  have hK := hK.app hK1
  generalize H1 = H at hP hS ⊢
  have hP : va_P (dC, dI) x_Cl [(q0, .inr (0, [.ref xq8, .ref xq14, .ref xq26, .ref xq39, .ref xq51, .int 0, .int 0])), (xq8, .inl (xk8, 768, .inl (fun _ => 0))), (xq14, .inr (1, [.int 1, .int 0, .int 0])), (xq26, .inr (1, [.int 16, .int 0, .int 0])), (xq39, .inr (2, [.ref xq43, .int 0, .int 0])), (xq43, .inl (xk43, 16, .inl (fun _ => 0))), (xq51, .inl (xk51, 4, .inl (fun _ => 0)))] H := hP
  have hD : va_D A [(q0, .inr (0, [.ref xq8, .ref xq14, .ref xq26, .ref xq39, .ref xq51, .int 0, .int 0])), (xq8, .inl (xk8, 768, .inl (fun _ => 0))), (xq14, .inr (1, [.int 1, .int 0, .int 0])), (xq26, .inr (1, [.int 16, .int 0, .int 0])), (xq39, .inr (2, [.ref xq43, .int 0, .int 0])), (xq43, .inl (xk43, 16, .inl (fun _ => 0))), (xq51, .inl (xk51, 4, .inl (fun _ => 0)))] := hD
  have hK : va_K (dC, dI) x_Cl [(xk8, .int), (xk43, .int), (xk51, .int)] s := hK
  refine W.widen (k := 7) (n := 804) (by decide) (by decide) ?_
  refine lv_astore_n hx hb d_W_law_7 rfl hl (by decide) rfl (fun ls hl => ?_)
  have hl : lv_has ls 4 [(1, .ref q0), (0, .ref b)] := hl
  refine va_new (ci := 3) (fs := [.int 0, .int 0, .int 0, .int 0, .int 0, .int 0, .int 0, .null, .null, .int 0, .int 0, .int 0, .null, .null]) (C := R_R) (T := F_R) (N := 14) hx hb hts in_R ft_R ft_R_ok hown (hts (.classLink R_W 10 R_R) (by decide +kernel)) (hts (.instantiable R_R 14) (by decide +kernel)) (hts (.initialized R_R) (by decide +kernel)) hK hP hD hS hA rfl (fun j hj => by match j, hj with | 0, _ => rfl | 1, _ => rfl | 2, _ => rfl | 3, _ => rfl | 4, _ => rfl | 5, _ => rfl | 6, _ => rfl | 7, _ => rfl | 8, _ => rfl | 9, _ => rfl | 10, _ => rfl | 11, _ => rfl | 12, _ => rfl | 13, _ => rfl) (by decide) (by decide) d_W_law_8 (fun q8 H hP hD hS => ?_)
  have hP : va_P (dC, dI) x_Cl [(q0, .inr (0, [.ref xq8, .ref xq14, .ref xq26, .ref xq39, .ref xq51, .int 0, .int 0])), (xq8, .inl (xk8, 768, .inl (fun _ => 0))), (xq14, .inr (1, [.int 1, .int 0, .int 0])), (xq26, .inr (1, [.int 16, .int 0, .int 0])), (xq39, .inr (2, [.ref xq43, .int 0, .int 0])), (xq43, .inl (xk43, 16, .inl (fun _ => 0))), (xq51, .inl (xk51, 4, .inl (fun _ => 0))), (q8, .inr (3, [.int 0, .int 0, .int 0, .int 0, .int 0, .int 0, .int 0, .null, .null, .int 0, .int 0, .int 0, .null, .null]))] H := hP
  have hD : va_D A [(q0, .inr (0, [.ref xq8, .ref xq14, .ref xq26, .ref xq39, .ref xq51, .int 0, .int 0])), (xq8, .inl (xk8, 768, .inl (fun _ => 0))), (xq14, .inr (1, [.int 1, .int 0, .int 0])), (xq26, .inr (1, [.int 16, .int 0, .int 0])), (xq39, .inr (2, [.ref xq43, .int 0, .int 0])), (xq43, .inl (xk43, 16, .inl (fun _ => 0))), (xq51, .inl (xk51, 4, .inl (fun _ => 0))), (q8, .inr (3, [.int 0, .int 0, .int 0, .int 0, .int 0, .int 0, .int 0, .null, .null, .int 0, .int 0, .int 0, .null, .null]))] := hD
  refine W.widen (k := 8) (n := 818) (by decide) (by decide) ?_
  refine lv_dup hx hb d_W_law_11 rfl ?_
  have hPc := hP.sub (ws' := [(q8, .inr (3, [.int 0, .int 0, .int 0, .int 0, .int 0, .int 0, .int 0, .null, .null, .int 0, .int 0, .int 0, .null, .null]))]) [7] rfl
  have hDc := hD.sub (ws' := [(q8, .inr (3, [.int 0, .int 0, .int 0, .int 0, .int 0, .int 0, .int 0, .null, .null, .int 0, .int 0, .int 0, .null, .null]))]) [7] (by decide) rfl
  have hKc := hK.sub (tys' := []) [] rfl
  have hFc := va_free (wc := [(q8, .inr (3, [.int 0, .int 0, .int 0, .int 0, .int 0, .int 0, .int 0, .null, .null, .int 0, .int 0, .int 0, .null, .null]))]) hD hS hA [7] rfl
  refine va_callv (va_runI (As := []) (rest := [.ref q8]) ⟨hx, hb, hml, hown, hts⟩ (c_R_init l dC dI q8 H.size) (cwI 0 hts (x_goodc (by decide +kernel)) rfl rfl rfl (hts (.initialized R_R) (by decide +kernel)) (hts (.methodLink R_W 12 M_R_init.1) (by decide +kernel)) (hts (.instanceMethod M_R_init.1) (by decide +kernel)) rfl (by decide +kernel) ⟨Nat.le_of_ble_eq_true rfl, Nat.le_of_ble_eq_true rfl⟩) ⟨fun a U g mk q => by obtain ⟨q0, q1, qP, qK, qD⟩ := q; exact ⟨q0, q1, qP, va_K.moved (u := U) (U := U.calling g mk a) (Vm.Alike.refl U.vm) qK, qD⟩, fun U hU hW => ⟨rfl, by rw [hU], by rw [hU]; exact hPc, va_K.moved hW.alike hKc, hDc.weaken (fun _ _ _ _ => trivial)⟩⟩ rfl rfl hl.1 rfl (lv_room (Nat.le_of_ble_eq_true rfl)) d_W_law_12 ⟨by decide, by decide⟩) hS (fun q _ h => hFc q h) hFc (fun u t H1 locs ht hvm hw hB hz1 hk1 hS => ?_)
  obtain ⟨yq6, yq15, yq23, yq31, yk6, yk15, yk23, yk31, hP1, hK1, hD1⟩ := hB
  rw [ht] at hP1
  have hK1 := va_K.moved hvm.symm hK1
  obtain ⟨hP, hD⟩ := va_join (wr := [(q0, .inr (0, [.ref xq8, .ref xq14, .ref xq26, .ref xq39, .ref xq51, .int 0, .int 0])), (xq8, .inl (xk8, 768, .inl (fun _ => 0))), (xq14, .inr (1, [.int 1, .int 0, .int 0])), (xq26, .inr (1, [.int 16, .int 0, .int 0])), (xq39, .inr (2, [.ref xq43, .int 0, .int 0])), (xq43, .inl (xk43, 16, .inl (fun _ => 0))), (xq51, .inl (xk51, 4, .inl (fun _ => 0)))]) (w1 := [(q8, .inr (3, [.int 0, .int 0, .int 0, .int 0, .int 0, .int 0, .int 0, .ref yq6, .ref yq15, .int 0, .int 0, .int 0, .ref yq23, .ref yq31])), (yq6, .inl (yk6, 4, .inl (fun _ => 0))), (yq15, .inl (yk15, 768, .inl (fun _ => 0))), (yq23, .inl (yk23, 16, .inl (fun _ => 0))), (yq31, .inl (yk31, 16, .inl (fun _ => 0)))]) hP hD [7] [0, 1, 2, 3, 4, 5, 6] rfl rfl (by decide) (by decide) hk1 hFc hP1 hD1
  have hK := hK.app hK1
  generalize H1 = H at hP hS ⊢
  have hP : va_P (dC, dI) x_Cl [(q0, .inr (0, [.ref xq8, .ref xq14, .ref xq26, .ref xq39, .ref xq51, .int 0, .int 0])), (xq8, .inl (xk8, 768, .inl (fun _ => 0))), (xq14, .inr (1, [.int 1, .int 0, .int 0])), (xq26, .inr (1, [.int 16, .int 0, .int 0])), (xq39, .inr (2, [.ref xq43, .int 0, .int 0])), (xq43, .inl (xk43, 16, .inl (fun _ => 0))), (xq51, .inl (xk51, 4, .inl (fun _ => 0))), (q8, .inr (3, [.int 0, .int 0, .int 0, .int 0, .int 0, .int 0, .int 0, .ref yq6, .ref yq15, .int 0, .int 0, .int 0, .ref yq23, .ref yq31])), (yq6, .inl (yk6, 4, .inl (fun _ => 0))), (yq15, .inl (yk15, 768, .inl (fun _ => 0))), (yq23, .inl (yk23, 16, .inl (fun _ => 0))), (yq31, .inl (yk31, 16, .inl (fun _ => 0)))] H := hP
  have hD : va_D A [(q0, .inr (0, [.ref xq8, .ref xq14, .ref xq26, .ref xq39, .ref xq51, .int 0, .int 0])), (xq8, .inl (xk8, 768, .inl (fun _ => 0))), (xq14, .inr (1, [.int 1, .int 0, .int 0])), (xq26, .inr (1, [.int 16, .int 0, .int 0])), (xq39, .inr (2, [.ref xq43, .int 0, .int 0])), (xq43, .inl (xk43, 16, .inl (fun _ => 0))), (xq51, .inl (xk51, 4, .inl (fun _ => 0))), (q8, .inr (3, [.int 0, .int 0, .int 0, .int 0, .int 0, .int 0, .int 0, .ref yq6, .ref yq15, .int 0, .int 0, .int 0, .ref yq23, .ref yq31])), (yq6, .inl (yk6, 4, .inl (fun _ => 0))), (yq15, .inl (yk15, 768, .inl (fun _ => 0))), (yq23, .inl (yk23, 16, .inl (fun _ => 0))), (yq31, .inl (yk31, 16, .inl (fun _ => 0)))] := hD
  have hK : va_K (dC, dI) x_Cl [(xk8, .int), (xk43, .int), (xk51, .int), (yk6, .int), (yk15, .int), (yk23, .int), (yk31, .int)] s := hK
  refine W.widen (k := 12) (n := 1622) (by decide) (by decide) ?_
  refine lv_astore_n hx hb d_W_law_15 rfl hl (by decide) rfl (fun ls hl => ?_)
  have hl : lv_has ls 4 [(2, .ref q8), (1, .ref q0), (0, .ref b)] := hl
  have e1 : xk8 = xk43 := Option.some.inj ((show s.vm.findClass ("[" ++ FieldType.int.toString) = some xk8 from (hK.2 0 (xk8, .int) rfl).2).symm.trans (show s.vm.findClass ("[" ++ FieldType.int.toString) = some xk43 from (hK.2 1 (xk43, .int) rfl).2))
  have e2 : xk8 = xk51 := Option.some.inj ((show s.vm.findClass ("[" ++ FieldType.int.toString) = some xk8 from (hK.2 0 (xk8, .int) rfl).2).symm.trans (show s.vm.findClass ("[" ++ FieldType.int.toString) = some xk51 from (hK.2 2 (xk51, .int) rfl).2))
  have e3 : xk8 = yk6 := Option.some.inj ((show s.vm.findClass ("[" ++ FieldType.int.toString) = some xk8 from (hK.2 0 (xk8, .int) rfl).2).symm.trans (show s.vm.findClass ("[" ++ FieldType.int.toString) = some yk6 from (hK.2 3 (yk6, .int) rfl).2))
  have e4 : xk8 = yk15 := Option.some.inj ((show s.vm.findClass ("[" ++ FieldType.int.toString) = some xk8 from (hK.2 0 (xk8, .int) rfl).2).symm.trans (show s.vm.findClass ("[" ++ FieldType.int.toString) = some yk15 from (hK.2 4 (yk15, .int) rfl).2))
  have e5 : xk8 = yk23 := Option.some.inj ((show s.vm.findClass ("[" ++ FieldType.int.toString) = some xk8 from (hK.2 0 (xk8, .int) rfl).2).symm.trans (show s.vm.findClass ("[" ++ FieldType.int.toString) = some yk23 from (hK.2 5 (yk23, .int) rfl).2))
  have e6 : xk8 = yk31 := Option.some.inj ((show s.vm.findClass ("[" ++ FieldType.int.toString) = some xk8 from (hK.2 0 (xk8, .int) rfl).2).symm.trans (show s.vm.findClass ("[" ++ FieldType.int.toString) = some yk31 from (hK.2 6 (yk31, .int) rfl).2))
  subst e1
  subst e2
  subst e3
  subst e4
  subst e5
  subst e6
  have hP9 := hP.sub (ws' := x_wd (fun i => [q0, xq8, xq14, xq26, xq39, xq51, xq43, q8, yq6, yq15, yq23, yq31].getD i 0) xk8 (fun _ => 0) (fun _ _ => 0)) [0, 1, 2, 3, 4, 6, 5, 7, 8, 9, 10, 11] rfl
  have hD9 := hD.sub (ws' := x_wd (fun i => [q0, xq8, xq14, xq26, xq39, xq51, xq43, q8, yq6, yq15, yq23, yq31].getD i 0) xk8 (fun _ => 0) (fun _ _ => 0)) [0, 1, 2, 3, 4, 6, 5, 7, 8, 9, 10, 11] (by decide) rfl
  have hK9 := hK.sub (tys' := [(xk8, .int)]) [0] rfl
  obtain ⟨ad, hadE⟩ : ∃ ad : Nat → Nat, ad = (fun i => [q0, xq8, xq14, xq26, xq39, xq51, xq43, q8, yq6, yq15, yq23, yq31].getD i 0) := ⟨_, rfl⟩
  rw [← hadE] at hP9 hD9
  have h0 : ad 0 = q0 := by rw [hadE]; rfl
  have h7 : ad 7 = q8 := by rw [hadE]; rfl
  rw [hAe] at hS hD9
  obtain ⟨hdis, hin⟩ := x_dis_of hD9
  have hbA : ¬ s.heap.size ≤ b := Nat.not_le.mpr hbl
  have X : x_X p room_1 s m #[Value.ref b] meth c M_W_law ad (dC, dI) xk8 (fun q => s.heap.size ≤ q) 12 1622 := ⟨hx, hb, hml, hown, hts, hK9, hdis, hin, hr, hlk, by decide, by decide⟩
  have hG : x_G p l e room_1 s m #[Value.ref b] below meth c M_W_law ad (dC, dI) xk8 (fun q => s.heap.size ≤ q) 12 1622 (lw_Z below #[Value.ref b] s) 16 [some (.ref b), some (.ref (ad 0)), some (.ref (ad 7)), none] [] (fun _ => 0) (fun _ _ => 0) := by
    refine xg_iconst X (pc := 16) (v := 0) d_W_law_16 (by decide) ?_
    refine xg_istore_n X (pc := 17) d_W_law_17 (by decide) rfl ?_
    refine xg_weak [some (.ref b), some (.ref (ad 0)), some (.ref (ad 7)), some (.int (nI (6 * 0)))] ⟨rfl, rfl, rfl, rfl, trivial⟩ ?_
    exact law_loop X hX hbl hbA hL _ 0 _ _ (Nat.lt_succ_self _) (by omega) x_IN0
  refine hG _ _ _ (x_has_of (lv_sub hl [2, 1, 0] rfl) (by rw [h0, h7]; rfl)) hP9 hS
