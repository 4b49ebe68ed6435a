section KL
variable {l : Launch} {ad : Nat → Nat} {D : va_G} {cI : ClassId} {sc : Nat → Int32} {ar : Nat → Nat → Int32}
theorem k_forward (hd : x_dis ad) (hN : x_IN sc ar) (kn : Int32) : ∃ r, x_K l M_T_forward 5 121 M_R_forward 7 157 ad D cI [.int kn] sc ar (.int r) := by
  have hN' := hN
  obtain ⟨th, mx, lf, tp, ww, hh, p0, f, kk, hP, hT, hR⟩ := hN'
  have ht := x_tile hP hT hR
  have e0 : sc 0 = sc 14 := hT.2.2.2.2.1.trans hR.2.2.2.2.2.2.1.symm
  have e3 : (3 : Int32) ≤ kn ↔ (2 : Int32) < kn := x_le1 kn 2 (by decide)
  obtain ⟨b1, b2, b3, b4, b5, b6, b7, b8⟩ := id hP
  have hTC : x_TC sc lf tp ww hh p0 := ⟨hT.1, hT.2.1, hT.2.2.1, hT.2.2.2.1, hT.2.2.2.2.1, b1, b2, b3, b4⟩
  have hp3 : sc 14 < 4 → p0 ≤ 3 := by
    intro h
    rw [hR.2.2.2.2.2.2.1] at h
    exact Nat.le_of_lt_succ ((nI_ltI (b := 4) (by omega) (by decide)).mp h)
  have hpos : ¬ sc 8 = 0 → 0 < ww ∧ 0 < hh := by
    intro h
    rcases b7 with c | c
    · exact ⟨c.2.1, c.2.2⟩
    · exact absurd (hR.1.trans c.1) h
  have hRC : ∀ sc1 : Nat → Int32, (∀ z, 8 ≤ z → sc1 z = sc z) → ¬ sc1 8 = 0 → x_RC sc1 lf tp ww hh ∧ 0 < ww ∧ 0 < hh := by
    intro sc1 h1 h2
    rw [h1 8 (by decide)] at h2
    refine ⟨⟨?_, ?_, ?_, ?_, ?_, b1, b2, b3, b4⟩, hpos h2⟩
    · rw [h1 8 (by decide)]; exact h2
    · rw [h1 9 (by decide)]; exact hR.2.1
    · rw [h1 10 (by decide)]; exact hR.2.2.1
    · rw [h1 11 (by decide)]; exact hR.2.2.2.1
    · rw [h1 12 (by decide)]; exact hR.2.2.2.2.1
  by_cases hC : ¬ sc 3 ≤ 0 ∧ ¬ kn < 0 ∧ ¬ 3 ≤ kn ∧ sc 0 < 4
  · refine ⟨1, (c_T_forward hd hTC (by omega)).post ?_⟩
    intro r sc1 ar1 h
    try dsimp only at h
    rw [if_pos hC] at h
    obtain ⟨rfl, q0, qs, qa, qf, qk⟩ := h
    have hs1 : ∀ z, 8 ≤ z → sc1 z = sc z := fun z hz => qs z (by omega) (by omega) (by omega)
    have ha1 : ∀ z, 3 ≤ z → ar1 z = ar z := fun z hz => qa z (by omega) (by omega) (by omega)
    have hCR : ¬ sc1 8 = 0 ∧ ¬ kn < 0 ∧ ¬ 2 < kn ∧ sc1 14 < 4 := ⟨by rw [hs1 8 (by decide)]; exact ht.mp hC.1, hC.2.1, fun q => hC.2.2.1 (e3.mpr q), by rw [hs1 14 (by decide), ← e0]; exact hC.2.2.2⟩
    refine ⟨rfl, (c_R_forward hd (hRC sc1 hs1) (by rw [hs1 14 (by decide)]; exact hR.2.2.2.2.2.2.1) (fun q => hp3 (by rw [← hs1 14 (by decide)]; exact q))).post ?_⟩
    intro r sc2 ar2 h
    try dsimp only at h
    rw [if_pos hCR] at h
    obtain ⟨rfl, u0, us, ua, uf, uk⟩ := h
    have hp : p0 ≤ 3 := hp3 (by rw [← e0]; exact hC.2.2.2)
    refine ⟨rfl, th, mx, lf, tp, ww, hh, p0 + 1, x_FW kn p0 lf tp ww hh f 3, upd kk p0 kn, ⟨b1, b2, b3, b4, by omega, b6, ?_, x_FW_Z hp b3 b4 b8 3⟩, ⟨?_, ?_, ?_, ?_, ?_, ?_, ?_, ?_⟩, ⟨?_, ?_, ?_, ?_, ?_, ?_, ?_, ?_, ?_⟩⟩
    · rcases b7 with c | c
      · exact Or.inl c
      · exact absurd (hR.1.trans c.1) (ht.mp hC.1)
    · rw [us 2 (by decide) (by decide) (by decide) (by decide), qs 2 (by decide) (by decide) (by decide)]; exact hT.1
    · rw [us 3 (by decide) (by decide) (by decide) (by decide), qs 3 (by decide) (by decide) (by decide)]; exact hT.2.1
    · rw [us 4 (by decide) (by decide) (by decide) (by decide), qs 4 (by decide) (by decide) (by decide)]; exact hT.2.2.1
    · rw [us 5 (by decide) (by decide) (by decide) (by decide), qs 5 (by decide) (by decide) (by decide)]; exact hT.2.2.2.1
    · rw [us 0 (by decide) (by decide) (by decide) (by decide), q0, hT.2.2.2.2.1, x_k1]
    · rw [us 1 (by decide) (by decide) (by decide) (by decide), qs 1 (by decide) (by decide) (by decide)]; exact hT.2.2.2.2.2.1
    · rw [ua 0 (by decide) (by decide) (by decide) (by decide), qf, hT.2.2.2.2.2.2.1]
    · rw [ua 1 (by decide) (by decide) (by decide) (by decide), qk, hT.2.2.2.2.2.2.2]
    · rw [us 8 (by decide) (by decide) (by decide) (by decide), hs1 8 (by decide)]; exact hR.1
    · rw [us 9 (by decide) (by decide) (by decide) (by decide), hs1 9 (by decide)]; exact hR.2.1
    · rw [us 10 (by decide) (by decide) (by decide) (by decide), hs1 10 (by decide)]; exact hR.2.2.1
    · rw [us 11 (by decide) (by decide) (by decide) (by decide), hs1 11 (by decide)]; exact hR.2.2.2.1
    · rw [us 12 (by decide) (by decide) (by decide) (by decide), hs1 12 (by decide)]; exact hR.2.2.2.2.1
    · rw [us 13 (by decide) (by decide) (by decide) (by decide), hs1 13 (by decide)]; exact hR.2.2.2.2.2.1
    · rw [u0, hs1 14 (by decide), hR.2.2.2.2.2.2.1, x_k1]
    · rw [uf, ha1 4 (by decide), hR.2.2.2.2.2.2.2.1]
    · rw [uk, ha1 3 (by decide), hR.2.2.2.2.2.2.2.2]
  · refine ⟨0, (c_T_forward hd hTC (by omega)).post ?_⟩
    intro r sc1 ar1 h
    try dsimp only at h
    rw [if_neg hC] at h
    obtain ⟨rfl, rfl, rfl⟩ := h
    refine ⟨rfl, (c_R_forward hd (hRC _ (fun _ _ => rfl)) hR.2.2.2.2.2.2.1 hp3).post ?_⟩
    intro r sc2 ar2 h
    try dsimp only at h
    rw [if_neg (fun q => hC ⟨ht.mpr q.1, q.2.1, fun z => q.2.2.1 (e3.mp z), by rw [e0]; exact q.2.2.2⟩)] at h
    obtain ⟨rfl, rfl, rfl⟩ := h
    exact ⟨rfl, hN⟩
theorem k_back (hd : x_dis ad) (hN : x_IN sc ar) : ∃ r, x_K l M_T_back 5 121 M_R_back 7 157 ad D cI [] sc ar (.int r) := by
  have hN' := hN
  obtain ⟨th, mx, lf, tp, ww, hh, p0, f, kk, hP, hT, hR⟩ := hN'
  have e0 : sc 0 = sc 14 := hT.2.2.2.2.1.trans hR.2.2.2.2.2.2.1.symm
  obtain ⟨b1, b2, b3, b4, b5, b6, b7, b8⟩ := id hP
  have hpp : ¬ sc 0 = 0 → sc 0 - 1 = nI (p0 - 1) ∧ 1 ≤ p0 := by
    intro h
    rw [hT.2.2.2.2.1] at h ⊢
    have h1 : 1 ≤ p0 := Nat.pos_of_ne_zero fun q => h (by rw [q]; rfl)
    exact ⟨pk_sub (b := 1) h1, h1⟩
  have hTC : x_TC (upd sc 0 (nI (p0 - 1))) lf tp ww hh (p0 - 1) := ⟨hT.1, hT.2.1, hT.2.2.1, hT.2.2.2.1, rfl, b1, b2, b3, b4⟩
  by_cases hC : ¬ sc 0 = 0
  · obtain ⟨g1, g2⟩ := hpp hC
    have hth : th = 1 ∧ 0 < ww ∧ 0 < hh := by
      rcases b7 with c | c
      · exact c
      · omega
    have hp : p0 - 1 ≤ 3 := by omega
    refine ⟨1, (c_T_back hd hTC hp (fun h => (hpp h).1)).post ?_⟩
    intro r sc1 ar1 h
    try dsimp only at h
    rw [if_pos hC] at h
    obtain ⟨rfl, q0, qs, qa, qf⟩ := h
    have hs1 : ∀ z, 8 ≤ z → sc1 z = sc z := fun z hz => qs z (by omega) (by omega) (by omega)
    have ha1 : ∀ z, 3 ≤ z → ar1 z = ar z := fun z hz => qa z (by omega) (by omega)
    have hRC : x_RC sc1 lf tp ww hh := by
      refine ⟨?_, ?_, ?_, ?_, ?_, b1, b2, b3, b4⟩
      · rw [hs1 8 (by decide), hR.1, hth.1]; decide
      · rw [hs1 9 (by decide)]; exact hR.2.1
      · rw [hs1 10 (by decide)]; exact hR.2.2.1
      · rw [hs1 11 (by decide)]; exact hR.2.2.2.1
      · rw [hs1 12 (by decide)]; exact hR.2.2.2.2.1
    refine ⟨rfl, (c_R_back (lf := lf) (tp := tp) (ww := ww) (hh := hh) (p0 := p0 - 1) hd (fun _ => ⟨⟨hRC, hth.2⟩, by rw [hs1 14 (by decide), ← e0]; exact g1, hp⟩)).post ?_⟩
    intro r sc2 ar2 h
    try dsimp only at h
    rw [if_pos (by rw [hs1 14 (by decide), ← e0]; exact hC)] at h
    obtain ⟨rfl, u0, us, ua, uf⟩ := h
    refine ⟨rfl, th, mx, lf, tp, ww, hh, p0 - 1, x_BK (kk (p0 - 1)) (p0 - 1) lf tp ww hh f 3, kk, ⟨b1, b2, b3, b4, by omega, b6, Or.inl hth, x_BK_Z hp b3 b4 b8 3⟩, ⟨?_, ?_, ?_, ?_, ?_, ?_, ?_, ?_⟩, ⟨?_, ?_, ?_, ?_, ?_, ?_, ?_, ?_, ?_⟩⟩
    · rw [us 2 (by decide) (by decide) (by decide) (by decide), qs 2 (by decide) (by decide) (by decide)]; exact hT.1
    · rw [us 3 (by decide) (by decide) (by decide) (by decide), qs 3 (by decide) (by decide) (by decide)]; exact hT.2.1
    · rw [us 4 (by decide) (by decide) (by decide) (by decide), qs 4 (by decide) (by decide) (by decide)]; exact hT.2.2.1
    · rw [us 5 (by decide) (by decide) (by decide) (by decide), qs 5 (by decide) (by decide) (by decide)]; exact hT.2.2.2.1
    · rw [us 0 (by decide) (by decide) (by decide) (by decide), q0, g1]
    · rw [us 1 (by decide) (by decide) (by decide) (by decide), qs 1 (by decide) (by decide) (by decide)]; exact hT.2.2.2.2.2.1
    · rw [ua 0 (by decide) (by decide) (by decide), qf, hT.2.2.2.2.2.2.1, hT.2.2.2.2.2.2.2]
    · rw [ua 1 (by decide) (by decide) (by decide), qa 1 (by decide) (by decide)]; exact hT.2.2.2.2.2.2.2
    · rw [us 8 (by decide) (by decide) (by decide) (by decide), hs1 8 (by decide)]; exact hR.1
    · rw [us 9 (by decide) (by decide) (by decide) (by decide), hs1 9 (by decide)]; exact hR.2.1
    · rw [us 10 (by decide) (by decide) (by decide) (by decide), hs1 10 (by decide)]; exact hR.2.2.1
    · rw [us 11 (by decide) (by decide) (by decide) (by decide), hs1 11 (by decide)]; exact hR.2.2.2.1
    · rw [us 12 (by decide) (by decide) (by decide) (by decide), hs1 12 (by decide)]; exact hR.2.2.2.2.1
    · rw [us 13 (by decide) (by decide) (by decide) (by decide), hs1 13 (by decide)]; exact hR.2.2.2.2.2.1
    · rw [u0, hs1 14 (by decide), ← e0, g1]
    · rw [uf, ha1 4 (by decide), ha1 3 (by decide), hR.2.2.2.2.2.2.2.1, hR.2.2.2.2.2.2.2.2]
    · rw [ua 3 (by decide) (by decide) (by decide), ha1 3 (by decide)]; exact hR.2.2.2.2.2.2.2.2
  · refine ⟨0, (c_T_back hd hTC (by omega) (fun h => (hpp h).1)).post ?_⟩
    intro r sc1 ar1 h
    try dsimp only at h
    rw [if_neg hC] at h
    obtain ⟨rfl, rfl, rfl⟩ := h
    refine ⟨rfl, (c_R_back (lf := lf) (tp := tp) (ww := ww) (hh := hh) (p0 := p0) hd (fun q => absurd (by rw [← e0] at q; exact q) hC)).post ?_⟩
    intro r sc2 ar2 h
    try dsimp only at h
    rw [if_neg (fun q => hC (by rw [e0]; exact q))] at h
    obtain ⟨rfl, rfl, rfl⟩ := h
    exact ⟨rfl, hN⟩
theorem x_cbs {th mx : Int32} {lf tp ww hh p0 dd oo : Nat} {f kk : Nat → Int32} {sc1 : Nat → Int32} {ar1 : Nat → Nat → Int32} (hP : x_IP th mx lf tp ww hh p0 f) (hT : x_IT mx lf tp ww hh p0 f kk sc ar) (hR : x_IR th mx lf tp ww hh p0 f kk sc1 ar1) (h1 : 1 ≤ dd) (h4 : dd ≤ 4) (ho : oo < 4) (i : Nat) (hi : i < 768) : decide (x_rp sc1 (x_ux sc1 i) (x_vx sc1 i) ∧ x_be (nI dd) (nI oo) (x_ux sc1 i) (x_vx sc1 i)) = true ↔ (i % 16 < ww ∧ i / 16 % 16 < hh) ∧ decide (x_os sc (nI i) (nI dd) (nI oo)) = true := by
  obtain ⟨b1, b2, b3, b4, -, -, b7, -⟩ := id hP
  have m1 : nI i - nI i / (16 : Int32) * (16 : Int32) = nI (i % 16) := pk_rem (d := 16) (by omega) (by decide) (by decide)
  have m2 : nI i / (16 : Int32) = nI (i / 16) := pk_div (d := 16) (by omega) (by decide) (by decide)
  have m3 : nI (i / 16) - nI (i / 16) / (16 : Int32) * (16 : Int32) = nI (i / 16 % 16) := pk_rem (d := 16) (by omega) (by decide) (by decide)
  have eu : x_ux sc1 i = nI (lf + i % 16) := by
    unfold x_ux
    rw [m1, hR.2.1, nI_add]
  have ev : x_vx sc1 i = nI (tp + i / 16 % 16) := by
    unfold x_vx
    rw [m2, m3, hR.2.2.1, nI_add]
  simp only [decide_eq_true_eq]
  rw [eu, ev, x_osN hi hT.1 hT.2.2.1 b1 b2 h1 h4 ho, x_beN (by omega) (by omega) h1 h4 ho]
  have key : x_rp sc1 (nI (lf + i % 16)) (nI (tp + i / 16 % 16)) ↔ (i % 16 < ww ∧ i / 16 % 16 < hh) := by
    have h := x_rp_iff (pl := 0) (u := nI (lf + i % 16)) (v := nI (tp + i / 16 % 16)) hP hR
    rw [nI_toInt (by omega), nI_toInt (by omega)] at h
    constructor
    · intro q
      have := h.mp ⟨by decide, q⟩
      have := this.2
      omega
    · intro q
      exact (h.mpr ⟨by decide, by omega, by omega, by omega, by omega⟩).2
  rw [key]
theorem k_thin (hd : x_dis ad) (hN : x_IN sc ar) (d o t : Int32) : ∃ r, x_K l M_T_thin 3 66 M_R_thin 3 67 ad D cI [.int d, .int o, .int t] sc ar (.int r) := by
  have hN' := hN
  obtain ⟨th, mx, lf, tp, ww, hh, p0, f, kk, hP, hT, hR⟩ := hN'
  have e0 : sc 0 = sc 14 := hT.2.2.2.2.1.trans hR.2.2.2.2.2.2.1.symm
  obtain ⟨b1, b2, b3, b4, b5, b6, b7, b8⟩ := id hP
  have o34 := x_o34 o
  have hzz : ∀ x : Int32, x = nI p0 → (¬ d < 1 ∧ ¬ x < d → ¬ 2 * (1 : Int32) <<< ((d - 1) &&& 31) = 0) := by
    rintro x rfl ⟨h1, h2⟩
    obtain ⟨dd, e1, g1, g2⟩ := x_lvl (by omega) h1 h2
    rw [x_stepN e1 g1 (by omega)]
    exact x_pne (by omega)
  by_cases hC : (¬ d < 1 ∧ ¬ sc 0 < d) ∧ (¬ o < 0 ∧ ¬ 4 ≤ o) ∧ ¬ t < 1 ∧ t ≤ 32767 ∧ (¬ o = 0 ∨ d = sc 0)
  · obtain ⟨dd, e1, g1, g2⟩ := x_lvl (n := p0) (by omega) hC.1.1 (by rw [← hT.2.2.2.2.1]; exact hC.1.2)
    obtain ⟨oo, e2, g3⟩ := x_bnd hC.2.1.1 hC.2.1.2
    have hcb : ∀ (sc1 : Nat → Int32) (ar1 : Nat → Nat → Int32), x_IR th mx lf tp ww hh p0 f kk sc1 ar1 → ∀ i, i < 768 → ((fun i => decide (x_rp sc1 (x_ux sc1 i) (x_vx sc1 i) ∧ x_be d o (x_ux sc1 i) (x_vx sc1 i))) i = true ↔ (i % 16 < ww ∧ i / 16 % 16 < hh) ∧ (fun i => decide (x_os sc (nI i) d o)) i = true) := by
      intro sc1 ar1 h i hi
      rw [e1, e2]
      exact x_cbs hP hT h g1 (by omega) g3 i hi
    have hg : (fun x => x_th x t) = (fun x => x_rth x t) := funext fun x => x_th_rth x t
    have hg0 : (fun x => x_th x t) 0 = 0 := x_th0 t
    refine ⟨x_tc (fun i => decide (x_os sc (nI i) d o)) (fun x => x_th x t) (ar 0) 768, (c_T_thin hd).post ?_⟩
    intro r sc1 ar1 h
    try dsimp only at h
    rw [if_pos hC] at h
    obtain ⟨rfl, rfl, rfl⟩ := h
    have hR1 : x_IR th mx lf tp ww hh p0 f kk sc1 (x_ua ar 0 (x_tf (fun i => decide (x_os sc1 (nI i) d o)) (fun x => x_th x t) (ar 0) 768)) := hR
    refine ⟨rfl, (c_R_thin hd (hzz _ hR.2.2.2.2.2.2.1)).post ?_⟩
    intro r sc2 ar2 h
    try dsimp only at h
    have hCR : (¬ d < 1 ∧ ¬ sc1 14 < d) ∧ (¬ o < 0 ∧ ¬ 3 < o) ∧ (¬ o = 0 ∨ d = sc1 14) ∧ ¬ t < 1 ∧ t ≤ 32767 := ⟨⟨hC.1.1, by rw [← e0]; exact hC.1.2⟩, ⟨hC.2.1.1, fun q => hC.2.1.2 (o34.mpr q)⟩, by rw [← e0]; exact hC.2.2.2.2, hC.2.2.1, hC.2.2.2.1⟩
    rw [if_pos hCR] at h
    obtain ⟨rfl, rfl, rfl⟩ := h
    have hc9 := hcb sc2 _ hR1
    have q1 : x_ua ar 0 (x_tf (fun i => decide (x_os sc2 (nI i) d o)) (fun x => x_th x t) (ar 0) 768) 4 = f := hR.2.2.2.2.2.2.2.1
    have q0 : ar 0 = f := hT.2.2.2.2.2.2.1
    refine ⟨?_, th, mx, lf, tp, ww, hh, p0, x_tf (fun i => decide (x_os sc2 (nI i) d o)) (fun x => x_th x t) f 768, kk, ⟨b1, b2, b3, b4, b5, b6, b7, x_tf_Z hg0 b8 768⟩, ⟨hT.1, hT.2.1, hT.2.2.1, hT.2.2.2.1, hT.2.2.2.2.1, hT.2.2.2.2.2.1, ?_, hT.2.2.2.2.2.2.2⟩, ⟨hR.1, hR.2.1, hR.2.2.1, hR.2.2.2.1, hR.2.2.2.2.1, hR.2.2.2.2.2.1, hR.2.2.2.2.2.2.1, ?_, hR.2.2.2.2.2.2.2.2⟩⟩
    · rw [q1, q0, ← hg, x_tc_eq b8 hc9 768 (by decide)]
    · rw [x_ua_ne (by decide), x_ua_at, q0]
    · rw [x_ua_at, q1, ← hg]
      exact (x_tf_eq hg0 b8 hc9).symm
  · refine ⟨-1, (c_T_thin hd).post ?_⟩
    intro r sc1 ar1 h
    try dsimp only at h
    rw [if_neg hC] at h
    obtain ⟨rfl, rfl, rfl⟩ := h
    refine ⟨rfl, (c_R_thin hd (hzz _ hR.2.2.2.2.2.2.1)).post ?_⟩
    intro r sc2 ar2 h
    try dsimp only at h
    rw [if_neg (fun q => hC ⟨⟨q.1.1, by rw [e0]; exact q.1.2⟩, ⟨q.2.1.1, fun z => q.2.1.2 (o34.mp z)⟩, q.2.2.2.1, q.2.2.2.2, by rw [e0]; exact q.2.2.1⟩)] at h
    obtain ⟨rfl, rfl, rfl⟩ := h
    exact ⟨rfl, hN⟩
end KL
