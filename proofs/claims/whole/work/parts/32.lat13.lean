theorem x_cd_s0 {x p : Nat} (h : x % 2 ^ p = 0) : x_cd x p * 2 ^ p = x ∧ x_cd (x + 1) p = x_cd x p + 1 := by
  have hs : 0 < 2 ^ p := Nat.two_pow_pos p
  have e : x_cd x p * 2 ^ p = x := by
    have h1 := @x_cd_le x p (x / 2 ^ p)
    have h2 : x / 2 ^ p * 2 ^ p = x := Nat.div_mul_cancel (Nat.dvd_of_mod_eq_zero h)
    have h3 : x_cd x p ≤ x / 2 ^ p := h1.mpr (by omega)
    have h4 : x ≤ x_cd x p * 2 ^ p := x_cd_le.mp (Nat.le_refl _)
    have h5 := Nat.mul_le_mul_right (2 ^ p) h3
    omega
  refine ⟨e, ?_⟩
  have h6 : x_cd (x + 1) p ≤ x_cd x p + 1 := x_cd_le.mpr (by rw [Nat.add_mul]; omega)
  have h7 : x_cd x p < x_cd (x + 1) p := x_cd_lt.mp (by omega)
  omega
theorem x_cd_s1 {x p : Nat} (h : ¬ x % 2 ^ p = 0) : x_cd (x + 1) p = x_cd x p := by
  have h4 : x ≤ x_cd x p * 2 ^ p := x_cd_le.mp (Nat.le_refl _)
  have h5 : ¬ x = x_cd x p * 2 ^ p := fun q => h (by rw [q]; exact Nat.mul_mod_left _ _)
  have h6 : x_cd (x + 1) p ≤ x_cd x p := x_cd_le.mpr (by omega)
  have h7 := x_cd_mono (x := x) (y := x + 1) (p := p) (by omega)
  omega
theorem x_irem {x p : Nat} (hx : x < 2 ^ 31) (hp : p ≤ 4) : nI x - nI x / nI (2 ^ p) * nI (2 ^ p) = nI (x % 2 ^ p) := by
  have h16 : 2 ^ p ≤ 2 ^ 4 := Nat.pow_le_pow_right (by decide) hp
  exact pk_rem hx (Nat.two_pow_pos p) (by omega)
theorem x_pne {p : Nat} (hp : p ≤ 4) : ¬ nI (2 ^ p) = 0 := by
  have h16 : 2 ^ p ≤ 2 ^ 4 := Nat.pow_le_pow_right (by decide) hp
  exact nI_ne0 (Nat.two_pow_pos p) (by omega)
def x_C1 (fwd : Bool) (kn : Int32) (q p lf tp ww hh : Nat) (f : Nat → Int32) : Nat → Int32 := x_LL fwd kn q p tp hh 16 lf 1 f (x_cd (lf + ww) p - x_cd lf p)
def x_R1 (fwd : Bool) (kn : Int32) (q p lf tp ww hh : Nat) (f : Nat → Int32) : Nat → Int32 := x_LL fwd kn q p lf ww 1 tp 16 f (x_cd (tp + hh) p - x_cd tp p)
def x_FW (kn : Int32) (p lf tp ww hh : Nat) (f : Nat → Int32) : Nat → Nat → Int32
  | 0 => f
  | q + 1 => x_R1 true kn q p lf tp ww hh (x_C1 true kn q p lf tp ww hh (x_FW kn p lf tp ww hh f q))
def x_BK (kn : Int32) (p lf tp ww hh : Nat) (f : Nat → Int32) : Nat → Nat → Int32
  | 0 => f
  | q + 1 => x_C1 false kn q p lf tp ww hh (x_R1 false kn q p lf tp ww hh (x_BK kn p lf tp ww hh f q))
section C13
variable {l : Launch} {ad : Nat → Nat} {D : va_G} {cI : ClassId} {sc : Nat → Int32} {ar : Nat → Nat → Int32}
set_option maxRecDepth 100000 in
set_option maxHeartbeats 800000 in
theorem c_R_columns (hd : x_dis ad) {q p0 lf tp ww hh : Nat} {fwd : Bool} {w : Int32} (hc : x_RC sc lf tp ww hh) (hq : q < 3) (hp : p0 ≤ 3) (hpos : 0 < ww ∧ 0 < hh) (hw : w = 0 ∧ fwd = true ∨ ¬ w = 0 ∧ fwd = false) : x_Con l M_R_columns 6 133 ad D cI [.ref (ad 7), .int (nI q), .int (nI (2 ^ p0)), .int w] sc ar (x_RP sc ar (x_C1 fwd (sc 17) q p0 lf tp ww hh (ar 4))) := by
  refine x_intro hd [some (.ref (ad 7)), some (.int (nI q)), some (.int (nI (2 ^ p0))), some (.int w), none] (by decide) (Nat.le_of_ble_eq_true rfl) rfl ?_
  intro p e s m args below meth c X
  have loop : ∀ (n k : Nat) (sc' : Nat → Int32) (ar' : Nat → Nat → Int32), ww - k < n → k ≤ ww → (∀ z, z ≠ 15 → z ≠ 16 → sc' z = sc z) → (∀ z, z ≠ 4 → z ≠ 5 → z ≠ 6 → ar' z = ar z) → ar' 4 = x_LL fwd (sc 17) q p0 tp hh 16 lf 1 (ar 4) (x_cd (lf + k) p0 - x_cd lf p0) → x_G p l e (x_rm 6 133) s m args below meth c M_R_columns ad D cI (x_A ad) 0 0 (x_Q below args s ad D cI (x_RP sc ar (x_C1 fwd (sc 17) q p0 lf tp ww hh (ar 4)))) 6 [some (.ref (ad 7)), some (.int (nI q)), some (.int (nI (2 ^ p0))), some (.int w), some (.int (nI (lf + k)))] [] sc' ar' := by
    intro n
    induction n with
    | zero => intro k sc' ar' h; exact absurd h (Nat.not_lt_zero _)
    | succ n ih =>
      intro k sc' ar' hn hk hsc har hf
      have ⟨b1, b2, b3, b4⟩ := hc.2.2.2.2.2
      have hc1 : x_RC sc' lf tp ww hh := by
        obtain ⟨h8, h9, h10, h11, h12, b⟩ := hc
        refine ⟨?_, ?_, ?_, ?_, ?_, b⟩
        · rw [hsc 8 (by decide) (by decide)]; exact h8
        · rw [hsc 9 (by decide) (by decide)]; exact h9
        · rw [hsc 10 (by decide) (by decide)]; exact h10
        · rw [hsc 11 (by decide) (by decide)]; exact h11
        · rw [hsc 12 (by decide) (by decide)]; exact h12
      refine xg_iload X (pc := 6) d_R_columns_6 rfl ?_
      refine xg_aload_n X (pc := 8) d_R_columns_8 rfl ?_
      refine xf_R_26 X (pc := 9) rfl d_R_columns_9 ?_
      refine xg_aload_n X (pc := 12) d_R_columns_12 rfl ?_
      refine xf_R_30 X (pc := 13) rfl d_R_columns_13 ?_
      refine xg_iadd X (pc := 16) d_R_columns_16 ?_
      refine xg_icmp_ge X (pc := 17) (tgt := 42) d_R_columns_17 rfl (fun h17 => ?_) (fun h17 => ?_)
      · rw [hc1.2.1, hc1.2.2.2.1, nI_add, nI_leI (by omega) (by omega)] at h17
        have hk2 : k = ww := by omega
        subst hk2
        exact xg_vret X (pc := 42) d_R_columns_42 rfl (⟨rfl, hsc, har, hf⟩)
      · rw [hc1.2.1, hc1.2.2.2.1, nI_add, nI_leI (by omega) (by omega)] at h17
        refine xg_iload X (pc := 20) d_R_columns_20 rfl ?_
        refine xg_iload_n X (pc := 22) d_R_columns_22 rfl ?_
        refine xg_irem X (pc := 23) d_R_columns_23 (x_pne (by omega)) ?_
        refine xg_if_ne X (pc := 24) (tgt := 36) d_R_columns_24 rfl (fun h24 => ?_) (fun h24 => ?_)
        · rw [x_irem (by omega) (by omega)] at h24
          have h24 : ¬ (lf + k) % 2 ^ p0 = 0 := fun q9 => h24 (by rw [q9]; rfl)
          refine xg_iinc X (pc := 36) d_R_columns_36 rfl (x_inc (by decide : Int32.ofInt (1) = 1) _) (by decide) rfl ?_
          refine xg_goto X (pc := 39) (tgt := 6) d_R_columns_39 rfl ?_
          refine xg_weak [some (.ref (ad 7)), some (.int (nI q)), some (.int (nI (2 ^ p0))), some (.int w), some (.int (nI (lf + (k + 1))))] ⟨rfl, rfl, rfl, rfl, by rw [x_k1] <;> rfl, trivial⟩ ?_
          refine ih (k + 1) _ _ (by omega) (by omega) hsc har ?_
          rw [hf, ← Nat.add_assoc, x_cd_s1 h24]
        · rw [x_irem (by omega) (by omega)] at h24
          have h24 := (nI_eq (Nat.lt_of_le_of_lt (Nat.mod_le _ _) (by omega)) (by decide)).mp h24
          refine xg_aload_n X (pc := 27) d_R_columns_27 rfl ?_
          refine xg_iload_n X (pc := 28) d_R_columns_28 rfl ?_
          refine xg_iload X (pc := 29) d_R_columns_29 rfl ?_
          refine xg_iload_n X (pc := 31) d_R_columns_31 rfl ?_
          refine xg_iload_n X (pc := 32) d_R_columns_32 rfl ?_
          refine xg_cV4 X (pc := 33) d_R_columns_33 (c_R_column hd hc1 hq hp (by omega) (by omega) hpos.2 hw) s_R_106 ⟨_, rfl⟩ rfl ⟨by decide, by decide⟩ (Nat.le_of_ble_eq_true rfl) ?_
          rintro _ sc1 ar1 ⟨rfl, hs1, ha1, hf1⟩
          refine xg_iinc X (pc := 36) d_R_columns_36 rfl (x_inc (by decide : Int32.ofInt (1) = 1) _) (by decide) rfl ?_
          refine xg_goto X (pc := 39) (tgt := 6) d_R_columns_39 rfl ?_
          refine xg_weak [some (.ref (ad 7)), some (.int (nI q)), some (.int (nI (2 ^ p0))), some (.int w), some (.int (nI (lf + (k + 1))))] ⟨rfl, rfl, rfl, rfl, by rw [x_k1] <;> rfl, trivial⟩ ?_
          refine ih (k + 1) _ _ (by omega) (by omega) (fun z z1 z2 => (hs1 z z1 z2).trans (hsc z z1 z2)) (fun z z1 z2 z3 => (ha1 z z1 z2 z3).trans (har z z1 z2 z3)) ?_
          obtain ⟨g1, g2⟩ := x_cd_s0 h24
          have g3 := x_cd_mono (x := lf) (y := lf + k) (p := p0) (by omega)
          rw [hf1, ← Nat.add_assoc, g2, show x_cd (lf + k) p0 + 1 - x_cd lf p0 = (x_cd (lf + k) p0 - x_cd lf p0) + 1 by omega]
          show x_ln _ (sc' 17) (ar' 4) _ _ _ _ = x_ln _ _ (x_LL fwd (sc 17) q p0 tp hh 16 lf 1 (ar 4) (x_cd (lf + k) p0 - x_cd lf p0)) _ _ _ _
          rw [hf, hsc 17 (by decide) (by decide)]
          refine congrArg (fun c9 => x_ln fwd (sc 17) (x_LL fwd (sc 17) q p0 tp hh 16 lf 1 (ar 4) (x_cd (lf + k) p0 - x_cd lf p0)) c9 _ _ _) ?_
          unfold x_lc
          rw [show x_cd lf p0 + (x_cd (lf + k) p0 - x_cd lf p0) = x_cd (lf + k) p0 by omega, g1]
          first | done | omega
  refine xg_aload_n X (pc := 0) d_R_columns_0 rfl ?_
  refine xf_R_26 X (pc := 1) rfl d_R_columns_1 ?_
  refine xg_istore X (pc := 4) d_R_columns_4 (by decide) rfl ?_
  refine xg_weak [some (.ref (ad 7)), some (.int (nI q)), some (.int (nI (2 ^ p0))), some (.int w), some (.int (nI (lf + 0)))] ⟨rfl, rfl, rfl, rfl, by rw [hc.2.1]; rfl, trivial⟩ ?_
  exact loop _ 0 sc ar (Nat.lt_succ_self _) (by omega) (fun _ _ _ => rfl) (fun _ _ _ _ => rfl) (by rw [Nat.add_zero, Nat.sub_self]; rfl)
set_option maxRecDepth 100000 in
set_option maxHeartbeats 800000 in
theorem c_R_rows (hd : x_dis ad) {q p0 lf tp ww hh : Nat} {fwd : Bool} {w : Int32} (hc : x_RC sc lf tp ww hh) (hq : q < 3) (hp : p0 ≤ 3) (hpos : 0 < ww ∧ 0 < hh) (hw : w = 0 ∧ fwd = true ∨ ¬ w = 0 ∧ fwd = false) : x_Con l M_R_rows 6 133 ad D cI [.ref (ad 7), .int (nI q), .int (nI (2 ^ p0)), .int w] sc ar (x_RP sc ar (x_R1 fwd (sc 17) q p0 lf tp ww hh (ar 4))) := by
  refine x_intro hd [some (.ref (ad 7)), some (.int (nI q)), some (.int (nI (2 ^ p0))), some (.int w), none] (by decide) (Nat.le_of_ble_eq_true rfl) rfl ?_
  intro p e s m args below meth c X
  have loop : ∀ (n k : Nat) (sc' : Nat → Int32) (ar' : Nat → Nat → Int32), hh - k < n → k ≤ hh → (∀ z, z ≠ 15 → z ≠ 16 → sc' z = sc z) → (∀ z, z ≠ 4 → z ≠ 5 → z ≠ 6 → ar' z = ar z) → ar' 4 = x_LL fwd (sc 17) q p0 lf ww 1 tp 16 (ar 4) (x_cd (tp + k) p0 - x_cd tp p0) → x_G p l e (x_rm 6 133) s m args below meth c M_R_rows ad D cI (x_A ad) 0 0 (x_Q below args s ad D cI (x_RP sc ar (x_R1 fwd (sc 17) q p0 lf tp ww hh (ar 4)))) 6 [some (.ref (ad 7)), some (.int (nI q)), some (.int (nI (2 ^ p0))), some (.int w), some (.int (nI (tp + k)))] [] sc' ar' := by
    intro n
    induction n with
    | zero => intro k sc' ar' h; exact absurd h (Nat.not_lt_zero _)
    | succ n ih =>
      intro k sc' ar' hn hk hsc har hf
      have ⟨b1, b2, b3, b4⟩ := hc.2.2.2.2.2
      have hc1 : x_RC sc' lf tp ww hh := by
        obtain ⟨h8, h9, h10, h11, h12, b⟩ := hc
        refine ⟨?_, ?_, ?_, ?_, ?_, b⟩
        · rw [hsc 8 (by decide) (by decide)]; exact h8
        · rw [hsc 9 (by decide) (by decide)]; exact h9
        · rw [hsc 10 (by decide) (by decide)]; exact h10
        · rw [hsc 11 (by decide) (by decide)]; exact h11
        · rw [hsc 12 (by decide) (by decide)]; exact h12
      refine xg_iload X (pc := 6) d_R_rows_6 rfl ?_
      refine xg_aload_n X (pc := 8) d_R_rows_8 rfl ?_
      refine xf_R_33 X (pc := 9) rfl d_R_rows_9 ?_
      refine xg_aload_n X (pc := 12) d_R_rows_12 rfl ?_
      refine xf_R_36 X (pc := 13) rfl d_R_rows_13 ?_
      refine xg_iadd X (pc := 16) d_R_rows_16 ?_
      refine xg_icmp_ge X (pc := 17) (tgt := 42) d_R_rows_17 rfl (fun h17 => ?_) (fun h17 => ?_)
      · rw [hc1.2.2.1, hc1.2.2.2.2.1, nI_add, nI_leI (by omega) (by omega)] at h17
        have hk2 : k = hh := by omega
        subst hk2
        exact xg_vret X (pc := 42) d_R_rows_42 rfl (⟨rfl, hsc, har, hf⟩)
      · rw [hc1.2.2.1, hc1.2.2.2.2.1, nI_add, nI_leI (by omega) (by omega)] at h17
        refine xg_iload X (pc := 20) d_R_rows_20 rfl ?_
        refine xg_iload_n X (pc := 22) d_R_rows_22 rfl ?_
        refine xg_irem X (pc := 23) d_R_rows_23 (x_pne (by omega)) ?_
        refine xg_if_ne X (pc := 24) (tgt := 36) d_R_rows_24 rfl (fun h24 => ?_) (fun h24 => ?_)
        · rw [x_irem (by omega) (by omega)] at h24
          have h24 : ¬ (tp + k) % 2 ^ p0 = 0 := fun q9 => h24 (by rw [q9]; rfl)
          refine xg_iinc X (pc := 36) d_R_rows_36 rfl (x_inc (by decide : Int32.ofInt (1) = 1) _) (by decide) rfl ?_
          refine xg_goto X (pc := 39) (tgt := 6) d_R_rows_39 rfl ?_
          refine xg_weak [some (.ref (ad 7)), some (.int (nI q)), some (.int (nI (2 ^ p0))), some (.int w), some (.int (nI (tp + (k + 1))))] ⟨rfl, rfl, rfl, rfl, by rw [x_k1] <;> rfl, trivial⟩ ?_
          refine ih (k + 1) _ _ (by omega) (by omega) hsc har ?_
          rw [hf, ← Nat.add_assoc, x_cd_s1 h24]
        · rw [x_irem (by omega) (by omega)] at h24
          have h24 := (nI_eq (Nat.lt_of_le_of_lt (Nat.mod_le _ _) (by omega)) (by decide)).mp h24
          refine xg_aload_n X (pc := 27) d_R_rows_27 rfl ?_
          refine xg_iload_n X (pc := 28) d_R_rows_28 rfl ?_
          refine xg_iload X (pc := 29) d_R_rows_29 rfl ?_
          refine xg_iload_n X (pc := 31) d_R_rows_31 rfl ?_
          refine xg_iload_n X (pc := 32) d_R_rows_32 rfl ?_
          refine xg_cV4 X (pc := 33) d_R_rows_33 (c_R_row hd hc1 hq hp (by omega) (by omega) hpos.1 hw) s_R_110 ⟨_, rfl⟩ rfl ⟨by decide, by decide⟩ (Nat.le_of_ble_eq_true rfl) ?_
          rintro _ sc1 ar1 ⟨rfl, hs1, ha1, hf1⟩
          refine xg_iinc X (pc := 36) d_R_rows_36 rfl (x_inc (by decide : Int32.ofInt (1) = 1) _) (by decide) rfl ?_
          refine xg_goto X (pc := 39) (tgt := 6) d_R_rows_39 rfl ?_
          refine xg_weak [some (.ref (ad 7)), some (.int (nI q)), some (.int (nI (2 ^ p0))), some (.int w), some (.int (nI (tp + (k + 1))))] ⟨rfl, rfl, rfl, rfl, by rw [x_k1] <;> rfl, trivial⟩ ?_
          refine ih (k + 1) _ _ (by omega) (by omega) (fun z z1 z2 => (hs1 z z1 z2).trans (hsc z z1 z2)) (fun z z1 z2 z3 => (ha1 z z1 z2 z3).trans (har z z1 z2 z3)) ?_
          obtain ⟨g1, g2⟩ := x_cd_s0 h24
          have g3 := x_cd_mono (x := tp) (y := tp + k) (p := p0) (by omega)
          rw [hf1, ← Nat.add_assoc, g2, show x_cd (tp + k) p0 + 1 - x_cd tp p0 = (x_cd (tp + k) p0 - x_cd tp p0) + 1 by omega]
          show x_ln _ (sc' 17) (ar' 4) _ _ _ _ = x_ln _ _ (x_LL fwd (sc 17) q p0 lf ww 1 tp 16 (ar 4) (x_cd (tp + k) p0 - x_cd tp p0)) _ _ _ _
          rw [hf, hsc 17 (by decide) (by decide)]
          refine congrArg (fun c9 => x_ln fwd (sc 17) (x_LL fwd (sc 17) q p0 lf ww 1 tp 16 (ar 4) (x_cd (tp + k) p0 - x_cd tp p0)) c9 _ _ _) ?_
          unfold x_lc
          rw [show x_cd tp p0 + (x_cd (tp + k) p0 - x_cd tp p0) = x_cd (tp + k) p0 by omega, g1]
          first | done | omega
  refine xg_aload_n X (pc := 0) d_R_rows_0 rfl ?_
  refine xf_R_33 X (pc := 1) rfl d_R_rows_1 ?_
  refine xg_istore X (pc := 4) d_R_rows_4 (by decide) rfl ?_
  refine xg_weak [some (.ref (ad 7)), some (.int (nI q)), some (.int (nI (2 ^ p0))), some (.int w), some (.int (nI (tp + 0)))] ⟨rfl, rfl, rfl, rfl, by rw [hc.2.2.1]; rfl, trivial⟩ ?_
  exact loop _ 0 sc ar (Nat.lt_succ_self _) (by omega) (fun _ _ _ => rfl) (fun _ _ _ _ => rfl) (by rw [Nat.add_zero, Nat.sub_self]; rfl)
end C13
