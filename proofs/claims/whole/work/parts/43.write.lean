section KW
variable {l : Launch} {ad : Nat → Nat} {D : va_G} {cI : ClassId} {sc : Nat → Int32} {ar : Nat → Nat → Int32}
theorem k_open (hd : x_dis ad) (hN : x_IN sc ar) (l0 t0 w0 h0 : Int32) : ∃ r, x_K l M_T_open 1 23 M_R_open 0 0 ad D cI [.int l0, .int t0, .int w0, .int h0] sc ar (.int r) := by
  have hN' := hN
  obtain ⟨th, mx, lf, tp, ww, hh, p0, f, kk, hP, hT, hR⟩ := hN'
  by_cases hC : x_op l0 t0 w0 h0
  · refine ⟨1, (c_T_open hd).post ?_⟩
    intro r sc1 ar1 h
    try dsimp only at h
    rw [if_pos hC] at h
    obtain ⟨rfl, rfl, rfl⟩ := h
    refine ⟨rfl, (c_R_open hd).post ?_⟩
    intro r sc2 ar2 h
    try dsimp only at h
    rw [if_pos hC] at h
    obtain ⟨rfl, rfl, rfl⟩ := h
    refine ⟨rfl, ?_⟩
    obtain ⟨⟨a1, a2⟩, ⟨a3, a4⟩, ⟨a5, a6⟩, ⟨a7, a8⟩⟩ := hC
    obtain ⟨lf', c1, c2⟩ := nI_of a1
    obtain ⟨tp', c3, c4⟩ := nI_of a3
    obtain ⟨ww', c5, c6, c7⟩ := x_lvl (n := 16) (by decide) a5 a6
    obtain ⟨hh', d5, d6, d7⟩ := x_lvl (n := 16) (by decide) a7 a8
    subst c2 c4 c5 d5
    have b1 : lf' ≤ 1000 := Nat.le_of_not_lt fun q => a2 ((nI_ltI (a := 1000) (by decide) c1).mpr q)
    have b2 : tp' ≤ 1000 := Nat.le_of_not_lt fun q => a4 ((nI_ltI (a := 1000) (by decide) c3).mpr q)
    refine ⟨1, 0, lf', tp', ww', hh', 0, x_fl f 0 768, kk, ⟨b1, b2, c7, d7, by decide, Or.inl rfl, Or.inl ⟨rfl, by omega, by omega⟩, x_Z_fl⟩, ⟨rfl, rfl, rfl, rfl, rfl, rfl, ?_, hT.2.2.2.2.2.2.2⟩, ⟨rfl, rfl, rfl, rfl, rfl, rfl, rfl, ?_, hR.2.2.2.2.2.2.2.2⟩⟩
    · show x_fl (ar 0) 0 768 = _
      rw [hT.2.2.2.2.2.2.1]
    · show x_fl (ar 4) 0 768 = _
      rw [hR.2.2.2.2.2.2.2.1]
  · refine ⟨0, (c_T_open hd).post ?_⟩
    intro r sc1 ar1 h
    try dsimp only at h
    rw [if_neg hC] at h
    obtain ⟨rfl, rfl, rfl⟩ := h
    refine ⟨rfl, (c_R_open hd).post ?_⟩
    intro r sc2 ar2 h
    try dsimp only at h
    rw [if_neg hC] at h
    obtain ⟨rfl, rfl, rfl⟩ := h
    exact ⟨rfl, hN⟩
theorem k_put (hd : x_dis ad) (hN : x_IN sc ar) (pl u v z : Int32) : ∃ r, x_K l M_T_put 2 47 M_R_put 1 23 ad D cI [.int pl, .int u, .int v, .int z] sc ar (.int r) := by
  have hN' := hN
  obtain ⟨th, mx, lf, tp, ww, hh, p0, f, kk, hP, hT, hR⟩ := hN'
  have eu : u.toInt64.toInt = u.toInt := Int32.toInt_toInt64 u
  have ev : v.toInt64.toInt = v.toInt := Int32.toInt_toInt64 v
  have hz : z ≤ 32767 ↔ ¬ 32767 < z := Int32.not_lt.symm
  by_cases hC : x_Pl pl u.toInt v.toInt lf tp ww hh ∧ ¬ z < -32768 ∧ z ≤ 32767 ∧ ¬ 0 < nI p0 ∧ mx = 0
  · have h' : x_Pl pl u.toInt64.toInt v.toInt64.toInt lf tp ww hh := by rw [eu, ev]; exact hC.1
    have hCT : ¬ x_cp sc pl u.toInt64 v.toInt64 = -1 ∧ ¬ z < -32768 ∧ z ≤ 32767 ∧ ¬ 0 < sc 0 ∧ sc 1 = 0 := ⟨x_cp_ne hP hT h', hC.2.1, hC.2.2.1, by rw [hT.2.2.2.2.1]; exact hC.2.2.2.1, by rw [hT.2.2.2.2.2.1]; exact hC.2.2.2.2⟩
    refine ⟨1, (c_T_put hd (x_cp_vp hP hT)).post ?_⟩
    intro r sc1 ar1 h
    try dsimp only at h
    rw [if_pos hCT] at h
    obtain ⟨rfl, rfl, rfl⟩ := h
    have hR1 : x_IR th mx lf tp ww hh p0 f kk sc1 (x_ua ar 0 (upd (ar 0) (x_cp sc1 pl u.toInt64 v.toInt64).toNatClampNeg z)) := hR
    refine ⟨rfl, (c_R_put hd (x_rc_vp hP hR1)).post ?_⟩
    intro r sc2 ar2 h
    try dsimp only at h
    have hq := (x_rp_iff (pl := pl) (u := u) (v := v) hP hR1).mpr hC.1
    have hCR : (¬ pl < 0 ∧ ¬ 2 < pl) ∧ x_rp sc1 u v ∧ ¬ z < -32768 ∧ ¬ 32767 < z ∧ ¬ 0 < sc1 14 ∧ sc1 13 = 0 := ⟨hq.1, hq.2, hC.2.1, hz.mp hC.2.2.1, by rw [hR.2.2.2.2.2.2.1]; exact hC.2.2.2.1, by rw [hR.2.2.2.2.2.1]; exact hC.2.2.2.2⟩
    rw [if_pos hCR] at h
    obtain ⟨rfl, rfl, rfl⟩ := h
    refine ⟨rfl, ?_⟩
    have hlt := x_pi_lt hC.1 hP.2.2.1 hP.2.2.2.1
    have e1 : (x_cp sc2 pl u.toInt64 v.toInt64).toNatClampNeg = x_pi pl u.toInt v.toInt lf tp := by
      rw [x_cp_in hP hT h', nI_clamp (by rw [eu, ev]; omega), eu, ev]
    have e2 : (x_rc sc2 pl u v).toNatClampNeg = x_pi pl u.toInt v.toInt lf tp := by
      rw [x_rc_in hP hR1 hC.1, nI_clamp (by omega)]
    refine ⟨th, mx, lf, tp, ww, hh, p0, upd f (x_pi pl u.toInt v.toInt lf tp) z, kk, ⟨hP.1, hP.2.1, hP.2.2.1, hP.2.2.2.1, hP.2.2.2.2.1, hP.2.2.2.2.2.1, hP.2.2.2.2.2.2.1, ?_⟩, ⟨hT.1, hT.2.1, hT.2.2.1, hT.2.2.2.1, hT.2.2.2.2.1, hT.2.2.2.2.2.1, ?_, hT.2.2.2.2.2.2.2⟩, ⟨hR.1, hR.2.1, hR.2.2.1, hR.2.2.2.1, hR.2.2.2.2.1, hR.2.2.2.2.2.1, hR.2.2.2.2.2.2.1, ?_, hR.2.2.2.2.2.2.2.2⟩⟩
    · obtain ⟨q, hq3, rfl⟩ := x_plq hC.1.1
      have hpp := hC.1.2
      have hb3 := hP.2.2.1
      have hb4 := hP.2.2.2.1
      refine x_upd_Z hP.2.2.2.2.2.2.2 ?_ ?_
      · unfold x_pi
        rw [nI_clamp (by omega)]
        omega
      · unfold x_pi
        rw [nI_clamp (by omega)]
        omega
    · show upd (ar 0) (x_cp sc2 pl u.toInt64 v.toInt64).toNatClampNeg z = _
      rw [e1, hT.2.2.2.2.2.2.1]
    · show upd (ar 4) (x_rc sc2 pl u v).toNatClampNeg z = _
      rw [e2, hR.2.2.2.2.2.2.2.1]
  · refine ⟨0, (c_T_put hd (x_cp_vp hP hT)).post ?_⟩
    intro r sc1 ar1 h
    try dsimp only at h
    have hCT : ¬ (¬ x_cp sc pl u.toInt64 v.toInt64 = -1 ∧ ¬ z < -32768 ∧ z ≤ 32767 ∧ ¬ 0 < sc 0 ∧ sc 1 = 0) := by
      rintro ⟨q1, q2, q3, q4, q5⟩
      apply hC
      refine ⟨?_, q2, q3, by rw [← hT.2.2.2.2.1]; exact q4, by rw [← hT.2.2.2.2.2.1]; exact q5⟩
      refine Classical.byContradiction fun q => q1 (x_cp_out hP hT ?_)
      rw [eu, ev]; exact q
    rw [if_neg hCT] at h
    obtain ⟨rfl, rfl, rfl⟩ := h
    refine ⟨rfl, (c_R_put hd (x_rc_vp hP hR)).post ?_⟩
    intro r sc2 ar2 h
    try dsimp only at h
    rw [if_neg] at h
    · obtain ⟨rfl, rfl, rfl⟩ := h
      exact ⟨rfl, hN⟩
    · rintro ⟨q1, q2, q3, q4, q5, q6⟩
      apply hC
      exact ⟨(x_rp_iff hP hR).mp ⟨q1, q2⟩, q3, hz.mpr q4, by rw [← hR.2.2.2.2.2.2.1]; exact q5, by rw [← hR.2.2.2.2.2.1]; exact q6⟩
theorem k_mix (hd : x_dis ad) (hN : x_IN sc ar) : ∃ r, x_K l M_T_mix 1 24 M_R_mix 0 0 ad D cI [] sc ar (.int r) := by
  have hN' := hN
  obtain ⟨th, mx, lf, tp, ww, hh, p0, f, kk, hP, hT, hR⟩ := hN'
  have ht := x_tile hP hT hR
  have e0 : sc 0 = sc 14 := hT.2.2.2.2.1.trans hR.2.2.2.2.2.2.1.symm
  have e1 : sc 1 = sc 13 := hT.2.2.2.2.2.1.trans hR.2.2.2.2.2.1.symm
  by_cases hC : ¬ sc 3 ≤ 0 ∧ ¬ 0 < sc 0 ∧ sc 1 = 0
  · refine ⟨1, (c_T_mix hd).post ?_⟩
    intro r sc1 ar1 h
    try dsimp only at h
    rw [if_pos hC] at h
    obtain ⟨rfl, rfl, rfl⟩ := h
    refine ⟨rfl, (c_R_mix hd).post ?_⟩
    intro r sc2 ar2 h
    try dsimp only at h
    have hCR : ¬ upd sc 1 1 8 = 0 ∧ ¬ 0 < upd sc 1 1 14 ∧ upd sc 1 1 13 = 0 := ⟨ht.mp hC.1, by show ¬ 0 < sc 14; rw [← e0]; exact hC.2.1, by show sc 13 = 0; rw [← e1]; exact hC.2.2⟩
    rw [if_pos hCR] at h
    obtain ⟨rfl, rfl, rfl⟩ := h
    refine ⟨rfl, th, 1, lf, tp, ww, hh, p0, x_mxs f 256, kk, ⟨hP.1, hP.2.1, hP.2.2.1, hP.2.2.2.1, hP.2.2.2.2.1, Or.inr rfl, hP.2.2.2.2.2.2.1, x_mxs_Z hP.2.2.2.2.2.2.2 256 (by decide)⟩, ⟨hT.1, hT.2.1, hT.2.2.1, hT.2.2.2.1, hT.2.2.2.2.1, rfl, ?_, hT.2.2.2.2.2.2.2⟩, ⟨hR.1, hR.2.1, hR.2.2.1, hR.2.2.2.1, hR.2.2.2.2.1, rfl, hR.2.2.2.2.2.2.1, ?_, hR.2.2.2.2.2.2.2.2⟩⟩
    · show x_mxs (ar 0) 256 = _
      rw [hT.2.2.2.2.2.2.1]
    · show x_mxs (ar 4) 256 = _
      rw [hR.2.2.2.2.2.2.2.1]
  · refine ⟨0, (c_T_mix hd).post ?_⟩
    intro r sc1 ar1 h
    try dsimp only at h
    rw [if_neg hC] at h
    obtain ⟨rfl, rfl, rfl⟩ := h
    refine ⟨rfl, (c_R_mix hd).post ?_⟩
    intro r sc2 ar2 h
    try dsimp only at h
    rw [if_neg (fun q => hC ⟨ht.mpr q.1, by rw [e0]; exact q.2.1, by rw [e1]; exact q.2.2⟩)] at h
    obtain ⟨rfl, rfl, rfl⟩ := h
    exact ⟨rfl, hN⟩
theorem k_unmix (hd : x_dis ad) (hN : x_IN sc ar) : ∃ r, x_K l M_T_unmix 1 25 M_R_unmix 0 0 ad D cI [] sc ar (.int r) := by
  have hN' := hN
  obtain ⟨th, mx, lf, tp, ww, hh, p0, f, kk, hP, hT, hR⟩ := hN'
  have e0 : sc 0 = sc 14 := hT.2.2.2.2.1.trans hR.2.2.2.2.2.2.1.symm
  have e1 : sc 1 = sc 13 := hT.2.2.2.2.2.1.trans hR.2.2.2.2.2.1.symm
  by_cases hC : ¬ 0 < sc 0 ∧ ¬ sc 1 = 0
  · refine ⟨1, (c_T_unmix hd).post ?_⟩
    intro r sc1 ar1 h
    try dsimp only at h
    rw [if_pos hC] at h
    obtain ⟨rfl, rfl, rfl⟩ := h
    refine ⟨rfl, (c_R_unmix hd).post ?_⟩
    intro r sc2 ar2 h
    try dsimp only at h
    have hCR : ¬ 0 < upd sc 1 0 14 ∧ ¬ upd sc 1 0 13 = 0 := ⟨by show ¬ 0 < sc 14; rw [← e0]; exact hC.1, by show ¬ sc 13 = 0; rw [← e1]; exact hC.2⟩
    rw [if_pos hCR] at h
    obtain ⟨rfl, rfl, rfl⟩ := h
    refine ⟨rfl, th, 0, lf, tp, ww, hh, p0, x_ums f 256, kk, ⟨hP.1, hP.2.1, hP.2.2.1, hP.2.2.2.1, hP.2.2.2.2.1, Or.inl rfl, hP.2.2.2.2.2.2.1, x_ums_Z hP.2.2.2.2.2.2.2 256 (by decide)⟩, ⟨hT.1, hT.2.1, hT.2.2.1, hT.2.2.2.1, hT.2.2.2.2.1, rfl, ?_, hT.2.2.2.2.2.2.2⟩, ⟨hR.1, hR.2.1, hR.2.2.1, hR.2.2.2.1, hR.2.2.2.2.1, rfl, hR.2.2.2.2.2.2.1, ?_, hR.2.2.2.2.2.2.2.2⟩⟩
    · show x_ums (ar 0) 256 = _
      rw [hT.2.2.2.2.2.2.1]
    · show x_ums (ar 4) 256 = _
      rw [hR.2.2.2.2.2.2.2.1]
  · refine ⟨0, (c_T_unmix hd).post ?_⟩
    intro r sc1 ar1 h
    try dsimp only at h
    rw [if_neg hC] at h
    obtain ⟨rfl, rfl, rfl⟩ := h
    refine ⟨rfl, (c_R_unmix hd).post ?_⟩
    intro r sc2 ar2 h
    try dsimp only at h
    rw [if_neg (fun q => hC ⟨by rw [e0]; exact q.1, by rw [e1]; exact q.2⟩)] at h
    obtain ⟨rfl, rfl, rfl⟩ := h
    exact ⟨rfl, hN⟩
end KW
