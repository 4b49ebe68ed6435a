theorem x_wi_ext {G G2 : Nat → Int64} {a : Int64} : ∀ m, (∀ i, i < m → G i = G2 i) → x_wi G a m = x_wi G2 a m
  | 0, _ => rfl
  | m + 1, h => by
    show x_wi G a m + G m = x_wi G2 a m + G2 m
    rw [x_wi_ext m (fun i hi => h i (by omega)), h m (by omega)]
theorem x_ws_zero {cb : Nat → Bool} {f : Nat → Int32} {b n : Nat} : ∀ m, (∀ i, i < m → f (b + (n + i)) = 0) → x_ws cb f b (n + m) = x_ws cb f b n
  | 0, _ => rfl
  | m + 1, h => by
    have e : x_am 0 = 0 := by decide
    by_cases hc : cb (b + (n + m)) = true
    · rw [← Nat.add_assoc, x_ws_y hc, h m (by omega), e, Int64.add_zero, x_ws_zero m (fun i hi => h i (by omega))]
    · rw [← Nat.add_assoc, x_ws_n hc, x_ws_zero m (fun i hi => h i (by omega))]
theorem x_ws_row {cb : Nat → Bool} {f : Nat → Int32} {b n : Nat} {G : Nat → Int64} : ∀ m, (∀ i, i < m → G i = if cb (b + (n + i)) = true then x_am (f (b + (n + i))) else 0) → x_ws cb f b (n + m) = x_wi G (x_ws cb f b n) m
  | 0, _ => rfl
  | m + 1, h => by
    show x_ws cb f b (n + m) + _ = x_wi G (x_ws cb f b n) m + G m
    rw [x_ws_row m (fun i hi => h i (by omega)), h m (by omega)]
    rfl
theorem x_ws_wo {cb : Nat → Bool} {f : Nat → Int32} {b ww hh : Nat} {G : Nat → Nat → Int64} (h3 : ww ≤ 16) (h4 : hh ≤ 16) (hG : ∀ y x, y < hh → x < ww → G y x = if cb (b + (16 * y + x)) = true then x_am (f (b + (16 * y + x))) else 0) (hz : ∀ i, i < 256 → (ww ≤ i % 16 ∨ hh ≤ i / 16) → f (b + i) = 0) : x_ws cb f b 256 = x_wo G ww hh := by
  have rows : ∀ k, k ≤ hh → x_ws cb f b (16 * k) = x_wo G ww k := by
    intro k
    induction k with
    | zero => intro _; rfl
    | succ k ih =>
      intro hk
      have e1 : 16 * (k + 1) = (16 * k + ww) + (16 - ww) := by omega
      rw [e1, x_ws_zero (n := 16 * k + ww) (16 - ww) (fun i hi => hz _ (by omega) (by omega)), x_ws_row (n := 16 * k) (G := G k) ww (fun i hi => hG k i (by omega) hi), ih (by omega)]
      rfl
  have e2 : 256 = 16 * hh + (256 - 16 * hh) := by omega
  rw [e2, x_ws_zero (n := 16 * hh) (256 - 16 * hh) (fun i hi => hz _ (by omega) (by omega)), rows hh (Nat.le_refl _)]
section KS
variable {l : Launch} {ad : Nat → Nat} {D : va_G} {cI : ClassId} {sc : Nat → Int32} {ar : Nat → Nat → Int32}
theorem k_weight (hd : x_dis ad) (hN : x_IN sc ar) (pl d o : Int32) : ∃ r, x_K l M_T_weight 2 47 M_R_weight 3 67 ad D cI [.int pl, .int d, .int o] sc ar (.long r) := by
  have hN' := hN
  obtain ⟨th, mx, lf, tp, ww, hh, p0, f, kk, hP, hT, hR⟩ := hN'
  have e0 : sc 0 = sc 14 := hT.2.2.2.2.1.trans hR.2.2.2.2.2.2.1.symm
  obtain ⟨b1, b2, b3, b4, b5, b6, b7, b8⟩ := id hP
  have o34 := x_o34 o
  have e3 : (3 : Int32) ≤ pl ↔ (2 : Int32) < pl := x_le1 pl 2 (by decide)
  have hlv : ¬ d < 1 ∧ ¬ sc 14 < d → ∃ dd : Nat, d = nI dd ∧ 1 ≤ dd ∧ dd ≤ p0 := by
    rintro ⟨h1, h2⟩
    rw [hR.2.2.2.2.2.2.1] at h2
    exact x_lvl (by omega) h1 h2
  have hz : ¬ d < 1 ∧ ¬ sc 14 < d → ¬ 2 * (1 : Int32) <<< ((d - 1) &&& 31) = 0 := by
    intro h
    obtain ⟨dd, e1, g1, g2⟩ := hlv h
    rw [x_stepN e1 g1 (by omega)]
    exact x_pne (by omega)
  have hRC : ¬ d < 1 ∧ ¬ sc 14 < d → x_RC sc lf tp ww hh := by
    intro h
    obtain ⟨dd, e1, g1, g2⟩ := hlv h
    refine ⟨?_, hR.2.1, hR.2.2.1, hR.2.2.2.1, hR.2.2.2.2.1, b1, b2, b3, b4⟩
    rcases b7 with c | c
    · rw [hR.1, c.1]; decide
    · omega
  by_cases hC : (¬ d < 1 ∧ ¬ sc 0 < d) ∧ (¬ o < 0 ∧ ¬ 4 ≤ o) ∧ x_pl pl
  · have hl : ¬ d < 1 ∧ ¬ sc 14 < d := ⟨hC.1.1, by rw [← e0]; exact hC.1.2⟩
    obtain ⟨dd, e1, g1, g2⟩ := hlv hl
    obtain ⟨oo, e2, g3⟩ := x_bnd hC.2.1.1 hC.2.1.2
    obtain ⟨q, hq, eq⟩ := x_plq hC.2.2
    refine ⟨x_ws (fun i => decide (x_os sc (nI i) d o)) (ar 0) (pl.toNatClampNeg * 256) 256, (c_T_weight hd).post ?_⟩
    intro r sc1 ar1 h
    try dsimp only at h
    rw [if_pos hC] at h
    obtain ⟨rfl, rfl, rfl⟩ := h
    refine ⟨rfl, (c_R_weight hd hRC hz).post ?_⟩
    intro r sc2 ar2 h
    try dsimp only at h
    rw [if_pos ⟨hl, ⟨hC.2.1.1, fun z => hC.2.1.2 (o34.mpr z)⟩, hC.2.2.1, fun z => hC.2.2.2 (e3.mpr z)⟩] at h
    obtain ⟨rfl, rfl, rfl⟩ := h
    refine ⟨?_, hN⟩
    subst e1 e2 eq
    rw [nI_clamp (by omega), hT.2.2.2.2.2.2.1, hR.2.2.2.2.2.2.2.1]
    refine congrArg (fun v => some (Value.long v)) (x_ws_wo b3 b4 ?_ ?_).symm
    · intro y x hy hx
      have ei : x_ix q lf tp (lf + x) (tp + y) = q * 256 + (16 * y + x) := by
        unfold x_ix
        omega
      have hi : q * 256 + (16 * y + x) < 768 := by omega
      have hos := x_osN (sc := sc2) (i := q * 256 + (16 * y + x)) hi hT.1 hT.2.2.1 b1 b2 g1 (by omega) g3
      have hbe := x_beN (x := lf + x) (y := tp + y) (by omega) (by omega) g1 (show dd ≤ 4 by omega) g3
      rw [show (q * 256 + (16 * y + x)) % 16 = x by omega, show (q * 256 + (16 * y + x)) / 16 % 16 = y by omega] at hos
      rw [ei]
      by_cases hb : x_be (nI dd) (nI oo) (nI (lf + x)) (nI (tp + y))
      · rw [if_pos hb, if_pos (decide_eq_true (hos.mpr (hbe.mp hb))), x_am_ram]
      · rw [if_neg hb, if_neg (fun z => hb (hbe.mpr (hos.mp (of_decide_eq_true z))))]
    · intro i hi ho
      exact b8 _ (by omega) (by omega)
  · refine ⟨-1, (c_T_weight hd).post ?_⟩
    intro r sc1 ar1 h
    try dsimp only at h
    rw [if_neg hC] at h
    obtain ⟨rfl, rfl, rfl⟩ := h
    refine ⟨rfl, (c_R_weight hd hRC hz).post ?_⟩
    intro r sc2 ar2 h
    try dsimp only at h
    rw [if_neg (fun q => hC ⟨⟨q.1.1, by rw [e0]; exact q.1.2⟩, ⟨q.2.1.1, fun z => q.2.1.2 (o34.mp z)⟩, q.2.2.1, fun z => q.2.2.2 (e3.mp z)⟩)] at h
    obtain ⟨rfl, rfl, rfl⟩ := h
    exact ⟨rfl, hN⟩
end KS
