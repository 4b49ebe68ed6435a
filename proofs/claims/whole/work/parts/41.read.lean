def x_K (l : Launch) (yT : x_M) (fT lT : Nat) (yR : x_M) (fR lR : Nat) (ad : Nat → Nat) (D : va_G) (cI : ClassId) (av : List Value) (sc : Nat → Int32) (ar : Nat → Nat → Int32) (r : Value) : Prop :=
  x_Con l yT fT lT ad D cI (.ref (ad 0) :: av) sc ar (fun r' sc' ar' => r' = some r ∧ x_Con l yR fR lR ad D cI (.ref (ad 7) :: av) sc' ar' (fun r2 sc2 ar2 => r2 = some r ∧ x_IN sc2 ar2))
section KR
variable {l : Launch} {ad : Nat → Nat} {D : va_G} {cI : ClassId} {sc : Nat → Int32} {ar : Nat → Nat → Int32}
theorem x_Kread {yT yR : x_M} {fT lT fR lR : Nat} {av : List Value} {r r2 : Value} (hT : x_Con l yT fT lT ad D cI (.ref (ad 0) :: av) sc ar (x_E (some r) sc ar)) (hR : x_Con l yR fR lR ad D cI (.ref (ad 7) :: av) sc ar (x_E (some r2) sc ar)) (e : r = r2) (hN : x_IN sc ar) : x_K l yT fT lT yR fR lR ad D cI av sc ar r := by
  refine hT.post ?_
  rintro _ _ _ ⟨rfl, rfl, rfl⟩
  refine ⟨rfl, hR.post ?_⟩
  rintro _ _ _ ⟨rfl, rfl, rfl⟩
  exact ⟨by rw [e], hN⟩
theorem k_at (hd : x_dis ad) (hN : x_IN sc ar) (pl u v : Int32) : ∃ r, x_K l M_T_at 2 47 M_R_at 1 23 ad D cI [.int pl, .int u, .int v] sc ar (.int r) := by
  have hN' := hN
  obtain ⟨th, mx, lf, tp, ww, hh, p0, f, kk, hP, hT, hR⟩ := hN'
  refine ⟨_, x_Kread (c_T_at hd (x_cp_vp hP hT)) (c_R_at hd (x_rc_vp hP hR)) (congrArg Value.int ?_) hN⟩
  have eu : u.toInt64.toInt = u.toInt := Int32.toInt_toInt64 u
  have ev : v.toInt64.toInt = v.toInt := Int32.toInt_toInt64 v
  by_cases h : x_Pl pl u.toInt v.toInt lf tp ww hh
  · have h' : x_Pl pl u.toInt64.toInt v.toInt64.toInt lf tp ww hh := by rw [eu, ev]; exact h
    rw [if_neg (x_cp_ne hP hT h'), if_pos ((x_rp_iff hP hR).mpr h), x_cp_in hP hT h', x_rc_in hP hR h, eu, ev, hT.2.2.2.2.2.2.1, hR.2.2.2.2.2.2.2.1]
  · have h' : ¬ x_Pl pl u.toInt64.toInt v.toInt64.toInt lf tp ww hh := by rw [eu, ev]; exact h
    rw [if_pos (x_cp_out hP hT h'), if_neg (fun q => h ((x_rp_iff hP hR).mp q))]
theorem k_mixed (hd : x_dis ad) (hN : x_IN sc ar) : ∃ r, x_K l M_T_mixed 0 0 M_R_mixed 0 0 ad D cI [] sc ar (.int r) := by
  have hN' := hN
  obtain ⟨th, mx, lf, tp, ww, hh, p0, f, kk, hP, hT, hR⟩ := hN'
  exact ⟨_, x_Kread (c_T_mixed hd (by rw [hT.2.2.2.2.2.1]; exact hP.2.2.2.2.2.1)) (c_R_mixed hd (by rw [hR.2.2.2.2.2.1]; exact hP.2.2.2.2.2.1)) (by rw [hT.2.2.2.2.2.1, hR.2.2.2.2.2.1]) hN⟩
theorem k_levels (hd : x_dis ad) (hN : x_IN sc ar) : ∃ r, x_K l M_T_levels 0 0 M_R_levels 0 0 ad D cI [] sc ar (.int r) := by
  have hN' := hN
  obtain ⟨th, mx, lf, tp, ww, hh, p0, f, kk, hP, hT, hR⟩ := hN'
  exact ⟨_, x_Kread (c_T_levels hd) (c_R_levels hd) (by rw [hT.2.2.2.2.1, hR.2.2.2.2.2.2.1]) hN⟩
theorem x_kvp {d : Int32} {n : Nat} (hn : n ≤ 4) : ¬ d < 1 ∧ ¬ nI n < d → vp_in (d - 1) 4 := by
  rintro ⟨h1, h2⟩
  obtain ⟨dd, rfl, g1, g2⟩ := x_lvl (by omega) h1 h2
  have e : nI dd - 1 = nI (dd - 1) := pk_sub (b := 1) g1
  rw [e]
  exact vp_in_nI (by omega) (by decide)
theorem k_kernel (hd : x_dis ad) (hN : x_IN sc ar) (d : Int32) : ∃ r, x_K l M_T_kernel 1 21 M_R_kernel 1 21 ad D cI [.int d] sc ar (.int r) := by
  have hN' := hN
  obtain ⟨th, mx, lf, tp, ww, hh, p0, f, kk, hP, hT, hR⟩ := hN'
  refine ⟨_, x_Kread (c_T_kernel hd (by rw [hT.2.2.2.2.1]; exact x_kvp hP.2.2.2.2.1)) (c_R_kernel hd (by rw [hR.2.2.2.2.2.2.1]; exact x_kvp hP.2.2.2.2.1)) ?_ hN⟩
  rw [hT.2.2.2.2.1, hR.2.2.2.2.2.2.1, hT.2.2.2.2.2.2.2, hR.2.2.2.2.2.2.2.2]
theorem x_tile {th mx : Int32} {lf tp ww hh p0 : Nat} {f kk : Nat → Int32} (hP : x_IP th mx lf tp ww hh p0 f) (hT : x_IT mx lf tp ww hh p0 f kk sc ar) (hR : x_IR th mx lf tp ww hh p0 f kk sc ar) : ¬ sc 3 ≤ 0 ↔ ¬ sc 8 = 0 := by
  rw [hT.2.1, hR.1]
  have e : (0 : Int32) = nI 0 := rfl
  rcases hP.2.2.2.2.2.2.1 with ⟨c1, c2, -⟩ | ⟨c1, c2, -⟩
  · rw [c1, e, nI_leI (by have := hP.2.2.1; omega) (by decide)]
    constructor
    · intro _; decide
    · intro _; omega
  · rw [c1, c2]
    decide
theorem x_bdiff {th mx : Int32} {lf tp ww hh p0 : Nat} {f kk : Nat → Int32} {d o : Int32} (hP : x_IP th mx lf tp ww hh p0 f) (hT : x_IT mx lf tp ww hh p0 f kk sc ar) (hR : x_IR th mx lf tp ww hh p0 f kk sc ar) : (¬ sc 3 ≤ 0 ∧ (¬ d < 1 ∧ ¬ 4 < d) ∧ (¬ o < 0 ∧ ¬ 4 ≤ o)) ↔ x_bd sc d o := by
  unfold x_bd
  rw [x_tile hP hT hR, x_o34 o]
  constructor
  · rintro ⟨a, ⟨b, c⟩, e⟩; exact ⟨a, b, c, e⟩
  · rintro ⟨a, b, c, e⟩; exact ⟨a, ⟨b, c⟩, e⟩
theorem x_DNw {d o w : Int32} (h1 : ¬ d < 1) (h2 : ¬ 4 < d) (h3 : ¬ o < 0) (h4 : ¬ 4 ≤ o) : ∃ dd oo : Nat, d = nI dd ∧ o = nI oo ∧ oo < 4 ∧ 1 ≤ dd ∧ dd ≤ 4 ∧ x_DN d o w dd (x_t dd oo (!decide (w = 0))) := by
  obtain ⟨dd, e1, g1, g2⟩ := x_lvl (n := 4) (by decide) h1 h2
  obtain ⟨oo, e2, g3⟩ := x_bnd h3 h4
  subst e1
  subst e2
  obtain ⟨t1, t2, t3, t4, t5, t6⟩ := x_tR g1 g2 g3
  refine ⟨dd, oo, rfl, rfl, g3, g1, g2, rfl, g1, g2, ?_, ?_⟩
  · rw [x_shw]
    by_cases hw : w = 0
    · rw [if_pos hw, t3]; simp [hw]
    · rw [if_neg hw, t4]; simp [hw]
  · by_cases hw : w = 0
    · simp only [hw, decide_true, Bool.not_true]; exact t5
    · simp only [hw, decide_false, Bool.not_false]; exact t6
theorem k_start (hd : x_dis ad) (hN : x_IN sc ar) (d o w : Int32) : ∃ r, x_K l M_T_start 2 44 M_R_start 3 68 ad D cI [.int d, .int o, .int w] sc ar (.int r) := by
  have hN' := hN
  obtain ⟨th, mx, lf, tp, ww, hh, p0, f, kk, hP, hT, hR⟩ := hN'
  have hif := x_bdiff (d := d) (o := o) hP hT hR
  by_cases hc : x_bd sc d o
  · obtain ⟨dd, oo, e1, e2, g3, g1, g2, hD⟩ := x_DNw (w := w) hc.2.1 hc.2.2.1 hc.2.2.2.1 (fun q => hc.2.2.2.2 ((x_o34 o).mp q))
    refine ⟨_, x_Kread (c_T_start hd) (c_R_start hd (fun _ => ⟨hD, hR.2.1, hR.2.2.1, hP.1, hP.2.1⟩)) (congrArg Value.int ?_) hN⟩
    rw [if_pos (hif.mpr hc), if_pos hc]
    subst e1
    subst e2
    obtain ⟨t1, t2, t3, t4, t5, t6⟩ := x_tR g1 g2 g3
    have b1 := hP.1
    have b2 := hP.2.1
    by_cases hw : w = 0
    · rw [if_pos hw, if_pos hw, t1, hT.1, x_lf_cs g2 (by omega) t5]; simp [hw]
    · rw [if_neg hw, if_neg hw, t2, hT.2.2.1, x_lf_cs g2 (by omega) t6]; simp [hw]
  · refine ⟨_, x_Kread (c_T_start hd) (c_R_start (dd := 0) (t := 0) (lf := 0) (tp := 0) hd (fun q => absurd q hc)) (congrArg Value.int ?_) hN⟩
    rw [if_neg (fun q => hc (hif.mp q)), if_neg hc]
theorem k_size (hd : x_dis ad) (hN : x_IN sc ar) (d o w : Int32) : ∃ r, x_K l M_T_size 2 44 M_R_size 2 43 ad D cI [.int d, .int o, .int w] sc ar (.int r) := by
  have hN' := hN
  obtain ⟨th, mx, lf, tp, ww, hh, p0, f, kk, hP, hT, hR⟩ := hN'
  have hif := x_bdiff (d := d) (o := o) hP hT hR
  by_cases hc : x_bd sc d o
  · obtain ⟨dd, oo, e1, e2, g3, g1, g2, hD⟩ := x_DNw (w := w) hc.2.1 hc.2.2.1 hc.2.2.2.1 (fun q => hc.2.2.2.2 ((x_o34 o).mp q))
    refine ⟨_, x_Kread (c_T_size hd) (c_R_size hd (fun _ => ⟨hD, hR.2.1, hR.2.2.1, hR.2.2.2.1, hR.2.2.2.2.1, hP.1, hP.2.1, hP.2.2.1, hP.2.2.2.1⟩)) (congrArg Value.int ?_) hN⟩
    rw [if_pos (hif.mpr hc), if_pos hc]
    subst e1
    subst e2
    obtain ⟨t1, t2, t3, t4, t5, t6⟩ := x_tR g1 g2 g3
    obtain ⟨b1, b2, b3, b4, -⟩ := hP
    by_cases hw : w = 0
    · rw [if_pos hw, if_pos hw, t1, hT.1, hT.2.1, nI_add, x_lf_cs g2 (by omega) t5, x_lf_cs g2 (by omega) t5, pk_sub (x_cs_mono (by omega))]; simp [hw]
    · rw [if_neg hw, if_neg hw, t2, hT.2.2.1, hT.2.2.2.1, nI_add, x_lf_cs g2 (by omega) t6, x_lf_cs g2 (by omega) t6, pk_sub (x_cs_mono (by omega))]; simp [hw]
  · refine ⟨_, x_Kread (c_T_size hd) (c_R_size (dd := 0) (t := 0) (lf := 0) (tp := 0) (ww := 0) (hh := 0) hd (fun q => absurd q hc)) (congrArg Value.int ?_) hN⟩
    rw [if_neg (fun q => hc (hif.mp q)), if_neg hc]
theorem x_XX {u : Int32} {dd t : Nat} (g1 : 1 ≤ dd) (g2 : dd ≤ 4) (ht : t < 2 ^ dd) : (u.toInt64 <<< ((nI dd).toInt64 &&& 63) + (nI t).toInt64).toInt = u.toInt * 2 ^ dd + t ∧ (2 * ((1 : Int32) <<< ((nI dd - 1) &&& 31)).toInt64 * u.toInt64 + (nI t).toInt64).toInt = u.toInt * 2 ^ dd + t := by
  have a1 := u.le_toInt
  have a2 := u.toInt_lt
  have eu : u.toInt64.toInt = u.toInt := Int32.toInt_toInt64 u
  have ht2 : t < 16 := Nat.lt_of_lt_of_le ht (x_p24 g2)
  have et : (nI t).toInt64.toInt = (t : Int) := x_nIl (by omega)
  clear ht
  match dd, g1, g2 with
  | 1, _, _ =>
    have e2 : (2 * ((1 : Int32) <<< ((nI 1 - 1) &&& 31)).toInt64).toInt = 2 := by decide
    have e1 : (u.toInt64 <<< ((nI 1).toInt64 &&& 63)).toInt = u.toInt * 2 := by
      rw [Jvm.Kit.i64_shl (k := 1) _ _ (by decide) (by rw [eu]; omega) (by rw [eu]; omega), eu]; rfl
    have e3 : (2 * ((1 : Int32) <<< ((nI 1 - 1) &&& 31)).toInt64 * u.toInt64).toInt = 2 * u.toInt := by
      rw [Jvm.Kit.i64_mul (by rw [e2, eu]; omega) (by rw [e2, eu]; omega), e2, eu]
    constructor
    · rw [Jvm.Kit.i64_add (by rw [e1, et]; omega) (by rw [e1, et]; omega), e1, et]; rfl
    · rw [Jvm.Kit.i64_add (by rw [e3, et]; omega) (by rw [e3, et]; omega), e3, et, Int.mul_comm]; rfl
  | 2, _, _ =>
    have e2 : (2 * ((1 : Int32) <<< ((nI 2 - 1) &&& 31)).toInt64).toInt = 4 := by decide
    have e1 : (u.toInt64 <<< ((nI 2).toInt64 &&& 63)).toInt = u.toInt * 4 := by
      rw [Jvm.Kit.i64_shl (k := 2) _ _ (by decide) (by rw [eu]; omega) (by rw [eu]; omega), eu]; rfl
    have e3 : (2 * ((1 : Int32) <<< ((nI 2 - 1) &&& 31)).toInt64 * u.toInt64).toInt = 4 * u.toInt := by
      rw [Jvm.Kit.i64_mul (by rw [e2, eu]; omega) (by rw [e2, eu]; omega), e2, eu]
    constructor
    · rw [Jvm.Kit.i64_add (by rw [e1, et]; omega) (by rw [e1, et]; omega), e1, et]; rfl
    · rw [Jvm.Kit.i64_add (by rw [e3, et]; omega) (by rw [e3, et]; omega), e3, et, Int.mul_comm]; rfl
  | 3, _, _ =>
    have e2 : (2 * ((1 : Int32) <<< ((nI 3 - 1) &&& 31)).toInt64).toInt = 8 := by decide
    have e1 : (u.toInt64 <<< ((nI 3).toInt64 &&& 63)).toInt = u.toInt * 8 := by
      rw [Jvm.Kit.i64_shl (k := 3) _ _ (by decide) (by rw [eu]; omega) (by rw [eu]; omega), eu]; rfl
    have e3 : (2 * ((1 : Int32) <<< ((nI 3 - 1) &&& 31)).toInt64 * u.toInt64).toInt = 8 * u.toInt := by
      rw [Jvm.Kit.i64_mul (by rw [e2, eu]; omega) (by rw [e2, eu]; omega), e2, eu]
    constructor
    · rw [Jvm.Kit.i64_add (by rw [e1, et]; omega) (by rw [e1, et]; omega), e1, et]; rfl
    · rw [Jvm.Kit.i64_add (by rw [e3, et]; omega) (by rw [e3, et]; omega), e3, et, Int.mul_comm]; rfl
  | 4, _, _ =>
    have e2 : (2 * ((1 : Int32) <<< ((nI 4 - 1) &&& 31)).toInt64).toInt = 16 := by decide
    have e1 : (u.toInt64 <<< ((nI 4).toInt64 &&& 63)).toInt = u.toInt * 16 := by
      rw [Jvm.Kit.i64_shl (k := 4) _ _ (by decide) (by rw [eu]; omega) (by rw [eu]; omega), eu]; rfl
    have e3 : (2 * ((1 : Int32) <<< ((nI 4 - 1) &&& 31)).toInt64 * u.toInt64).toInt = 16 * u.toInt := by
      rw [Jvm.Kit.i64_mul (by rw [e2, eu]; omega) (by rw [e2, eu]; omega), e2, eu]
    constructor
    · rw [Jvm.Kit.i64_add (by rw [e1, et]; omega) (by rw [e1, et]; omega), e1, et]; rfl
    · rw [Jvm.Kit.i64_add (by rw [e3, et]; omega) (by rw [e3, et]; omega), e3, et, Int.mul_comm]; rfl
theorem k_coefficient (hd : x_dis ad) (hN : x_IN sc ar) (pl d o u v : Int32) : ∃ r, x_K l M_T_coefficient 3 76 M_R_coefficient 2 46 ad D cI [.int pl, .int d, .int o, .int u, .int v] sc ar (.int r) := by
  have hN' := hN
  obtain ⟨th, mx, lf, tp, ww, hh, p0, f, kk, hP, hT, hR⟩ := hN'
  refine ⟨_, x_Kread (c_T_coefficient hd (x_cp_vp hP hT)) (c_R_coefficient hd (fun _ _ => x_rc_vp hP hR)) (congrArg Value.int ?_) hN⟩
  have e3 : (3 : Int32) ≤ pl ↔ (2 : Int32) < pl := x_le1 pl 2 (by decide)
  have o34 := x_o34 o
  rw [hT.2.2.2.2.1, hR.2.2.2.2.2.2.1]
  by_cases hc : (¬ d < 1 ∧ ¬ nI p0 < d) ∧ (¬ o < 0 ∧ ¬ 4 ≤ o)
  · rw [if_pos hc]
    obtain ⟨dd, e1, g1, g2⟩ := x_lvl (by have := hP.2.2.2.2.1; omega) hc.1.1 hc.1.2
    obtain ⟨oo, e2, g4⟩ := x_bnd hc.2.1 hc.2.2
    have g3 : dd ≤ 4 := Nat.le_trans g2 hP.2.2.2.2.1
    subst e1
    subst e2
    obtain ⟨t1, t2, t3, t4, t5, t6⟩ := x_tR g1 g3 g4
    obtain ⟨eX, eX'⟩ := x_XX (u := u) g1 g3 t5
    obtain ⟨eY, eY'⟩ := x_XX (u := v) g1 g3 t6
    have h16 := x_p24 g3
    unfold x_cc
    rw [t1, t2]
    have hX : x_rX (nI dd) (nI oo) u = u.toInt64 <<< ((nI dd).toInt64 &&& 63) + (nI (x_t dd oo false)).toInt64 := by
      unfold x_rX
      rw [t3]
      exact Int64.toInt_inj.mp (by rw [eX, eX'])
    have hY : x_rY (nI dd) (nI oo) v = v.toInt64 <<< ((nI dd).toInt64 &&& 63) + (nI (x_t dd oo true)).toInt64 := by
      unfold x_rY
      rw [t4]
      exact Int64.toInt_inj.mp (by rw [eY, eY'])
    rw [hX, hY]
    generalize u.toInt64 <<< ((nI dd).toInt64 &&& 63) + (nI (x_t dd oo false)).toInt64 = P1
    generalize v.toInt64 <<< ((nI dd).toInt64 &&& 63) + (nI (x_t dd oo true)).toInt64 = P2
    have z0 : (0 : Int64).toInt = 0 := by decide
    have z2 : (2000 : Int64).toInt = 2000 := by decide
    have hnear : (¬ lg_cmp P1 0 < 0 ∧ ¬ 0 < lg_cmp P1 2000 ∧ ¬ lg_cmp P2 0 < 0 ∧ lg_cmp P2 2000 ≤ 0) ↔ (¬ P1.toInt < 0 ∧ ¬ 2000 < P1.toInt ∧ ¬ P2.toInt < 0 ∧ P2.toInt ≤ 2000) := by
      rw [(x_cmpc P1 0).1, (x_cmpc P1 2000).2.2.1, (x_cmpc P2 0).1, (x_cmpc P2 2000).2.2.2.1, z0, z2]
    obtain ⟨b1, b2, b3, b4, -⟩ := id hP
    by_cases hp : x_Pl pl P1.toInt P2.toInt lf tp ww hh
    · have hpl : ¬ pl < 0 ∧ ¬ 2 < pl := ⟨hp.1.1, fun q => hp.1.2 (e3.mpr q)⟩
      have q1 : P1.toInt32.toInt = P1.toInt := Jvm.Kit.i32_of_i64 (by have := hp.2; omega) (by have := hp.2; omega)
      have q2 : P2.toInt32.toInt = P2.toInt := Jvm.Kit.i32_of_i64 (by have := hp.2; omega) (by have := hp.2; omega)
      have hp' : x_Pl pl P1.toInt32.toInt P2.toInt32.toInt lf tp ww hh := by rw [q1, q2]; exact hp
      rw [if_neg (x_cp_ne hP hT hp), if_pos ⟨hc.1, ⟨hc.2.1, fun q => hc.2.2 (o34.mpr q)⟩, hpl⟩, if_pos (hnear.mpr (by have := hp.2; omega)), if_pos ((x_rp_iff hP hR).mpr hp'), x_cp_in hP hT hp, x_rc_in hP hR hp', q1, q2, hT.2.2.2.2.2.2.1, hR.2.2.2.2.2.2.2.1]
    · rw [if_pos (x_cp_out hP hT hp)]
      by_cases hq : (¬ nI dd < 1 ∧ ¬ nI p0 < nI dd) ∧ (¬ nI oo < 0 ∧ ¬ 3 < nI oo) ∧ (¬ pl < 0 ∧ ¬ 2 < pl)
      · rw [if_pos hq]
        by_cases hn : ¬ P1.toInt < 0 ∧ ¬ 2000 < P1.toInt ∧ ¬ P2.toInt < 0 ∧ P2.toInt ≤ 2000
        · rw [if_pos (hnear.mpr hn), if_neg]
          intro h
          have h2 := (x_rp_iff hP hR).mp h
          have q1 : P1.toInt32.toInt = P1.toInt := Jvm.Kit.i32_of_i64 (by omega) (by omega)
          have q2 : P2.toInt32.toInt = P2.toInt := Jvm.Kit.i32_of_i64 (by omega) (by omega)
          rw [q1, q2] at h2
          exact hp h2
        · rw [if_neg (fun q => hn (hnear.mp q))]
      · rw [if_neg hq]
  · rw [if_neg hc, if_neg (fun q => hc ⟨q.1, q.2.1.1, fun z => q.2.1.2 (o34.mp z)⟩)]
end KR
