theorem x_Z_fl {ww hh : Nat} {f : Nat → Int32} : x_Z ww hh (x_fl f 0 768) := by
  intro i hi _
  unfold x_fl
  rw [if_pos hi]
theorem x_mx_Z {ww hh k : Nat} {f : Nat → Int32} (hZ : x_Z ww hh f) (hk : k < 256) : x_Z ww hh (x_mx f k) := by
  intro i hi ho
  unfold x_mx upd
  by_cases h1 : i = k + 512
  · rw [if_pos h1, hZ k (by omega) (by omega), hZ (k + 256) (by omega) (by omega)]; rfl
  · rw [if_neg h1]
    by_cases h2 : i = k + 256
    · rw [if_pos h2, hZ (k + 512) (by omega) (by omega), hZ (k + 256) (by omega) (by omega)]; rfl
    · rw [if_neg h2]
      by_cases h3 : i = k
      · rw [if_pos h3, hZ k (by omega) (by omega), hZ (k + 256) (by omega) (by omega), hZ (k + 512) (by omega) (by omega)]; decide
      · rw [if_neg h3]; exact hZ i hi ho
theorem x_um_Z {ww hh k : Nat} {f : Nat → Int32} (hZ : x_Z ww hh f) (hk : k < 256) : x_Z ww hh (x_um f k) := by
  intro i hi ho
  unfold x_um upd
  by_cases h1 : i = k + 512
  · rw [if_pos h1, hZ k (by omega) (by omega), hZ (k + 256) (by omega) (by omega), hZ (k + 512) (by omega) (by omega)]; decide
  · rw [if_neg h1]
    by_cases h2 : i = k + 256
    · rw [if_pos h2, hZ k (by omega) (by omega), hZ (k + 512) (by omega) (by omega), hZ (k + 256) (by omega) (by omega)]; decide
    · rw [if_neg h2]
      by_cases h3 : i = k
      · rw [if_pos h3, hZ k (by omega) (by omega), hZ (k + 256) (by omega) (by omega), hZ (k + 512) (by omega) (by omega)]; decide
      · rw [if_neg h3]; exact hZ i hi ho
theorem x_mxs_Z {ww hh : Nat} {f : Nat → Int32} (hZ : x_Z ww hh f) : ∀ n, n ≤ 256 → x_Z ww hh (x_mxs f n)
  | 0, _ => hZ
  | n + 1, h => x_mx_Z (x_mxs_Z hZ n (by omega)) (by omega)
theorem x_ums_Z {ww hh : Nat} {f : Nat → Int32} (hZ : x_Z ww hh f) : ∀ n, n ≤ 256 → x_Z ww hh (x_ums f n)
  | 0, _ => hZ
  | n + 1, h => x_um_Z (x_ums_Z hZ n (by omega)) (by omega)
theorem x_upd_Z {ww hh j : Nat} {f : Nat → Int32} {y : Int32} (hZ : x_Z ww hh f) (h1 : j % 16 < ww) (h2 : j / 16 % 16 < hh) : x_Z ww hh (upd f j y) := by
  intro i hi ho
  have hne : i ≠ j := by
    intro e
    rw [e] at ho
    omega
  rw [pk_un hne]
  exact hZ i hi ho
theorem x_wr_Z {ww hh c st : Nat} {f v : Nat → Int32} (hZ : x_Z ww hh f) : ∀ n, (∀ k, k < n → (c + k * st) % 16 < ww ∧ (c + k * st) / 16 % 16 < hh) → x_Z ww hh (x_wr f v c st n)
  | 0, _ => hZ
  | n + 1, h => x_upd_Z (x_wr_Z hZ n (fun k hk => h k (by omega))) (h n (by omega)).1 (h n (by omega)).2
theorem x_ix_in {q lf tp u v ww hh : Nat} (h1 : lf ≤ u) (h2 : u < lf + ww) (h3 : tp ≤ v) (h4 : v < tp + hh) (b3 : ww ≤ 16) (b4 : hh ≤ 16) : x_ix q lf tp u v % 16 < ww ∧ x_ix q lf tp u v / 16 % 16 < hh := by
  unfold x_ix
  omega
theorem x_it_Z {ww hh : Nat} {G : Nat → (Nat → Int32) → Nat → Int32} {f : Nat → Int32} (hZ : x_Z ww hh f) : ∀ n, (∀ k g, k < n → x_Z ww hh g → x_Z ww hh (G k g)) → x_Z ww hh (x_it G f n)
  | 0, _ => hZ
  | n + 1, h => h n _ (by omega) (x_it_Z hZ n (fun k g hk hg => h k g (by omega) hg))
theorem x_C1_Z {fwd : Bool} {kn : Int32} {q p lf tp ww hh : Nat} {f : Nat → Int32} (hp : p ≤ 3) (b3 : ww ≤ 16) (b4 : hh ≤ 16) (hZ : x_Z ww hh f) : x_Z ww hh (x_C1 fwd kn q p lf tp ww hh f) := by
  refine x_it_Z hZ _ (fun k g hk hg => x_wr_Z hg _ (fun i hi => ?_))
  have ga : tp ≤ x_cd tp p * 2 ^ p := x_cd_le.mp (Nat.le_refl _)
  have e : x_lc q p tp 16 lf 1 k + i * (16 * 2 ^ p) = x_ix q lf tp ((x_cd lf p + k) * 2 ^ p) ((x_cd tp p + i) * 2 ^ p) := by
    rw [x_ixc hp ga]
    unfold x_lc
    rw [Nat.mul_one]
  rw [e]
  exact x_ix_in (x_cd_le.mp (by omega)) (x_cd_lt.mpr (by omega)) (x_cd_le.mp (by omega)) (x_cd_lt.mpr (by omega)) b3 b4
theorem x_R1_Z {fwd : Bool} {kn : Int32} {q p lf tp ww hh : Nat} {f : Nat → Int32} (hp : p ≤ 3) (b3 : ww ≤ 16) (b4 : hh ≤ 16) (hZ : x_Z ww hh f) : x_Z ww hh (x_R1 fwd kn q p lf tp ww hh f) := by
  refine x_it_Z hZ _ (fun k g hk hg => x_wr_Z hg _ (fun i hi => ?_))
  have ga : lf ≤ x_cd lf p * 2 ^ p := x_cd_le.mp (Nat.le_refl _)
  have e : x_lc q p lf 1 tp 16 k + i * (1 * 2 ^ p) = x_ix q lf tp ((x_cd lf p + i) * 2 ^ p) ((x_cd tp p + k) * 2 ^ p) := by
    rw [x_ixr hp ga]
    unfold x_lc
    rfl
  rw [e]
  exact x_ix_in (x_cd_le.mp (by omega)) (x_cd_lt.mpr (by omega)) (x_cd_le.mp (by omega)) (x_cd_lt.mpr (by omega)) b3 b4
theorem x_FW_Z {kn : Int32} {p lf tp ww hh : Nat} {f : Nat → Int32} (hp : p ≤ 3) (b3 : ww ≤ 16) (b4 : hh ≤ 16) (hZ : x_Z ww hh f) : ∀ q, x_Z ww hh (x_FW kn p lf tp ww hh f q)
  | 0 => hZ
  | q + 1 => x_R1_Z hp b3 b4 (x_C1_Z hp b3 b4 (x_FW_Z hp b3 b4 hZ q))
theorem x_BK_Z {kn : Int32} {p lf tp ww hh : Nat} {f : Nat → Int32} (hp : p ≤ 3) (b3 : ww ≤ 16) (b4 : hh ≤ 16) (hZ : x_Z ww hh f) : ∀ q, x_Z ww hh (x_BK kn p lf tp ww hh f q)
  | 0 => hZ
  | q + 1 => x_C1_Z hp b3 b4 (x_R1_Z hp b3 b4 (x_BK_Z hp b3 b4 hZ q))
theorem x_th0 (t : Int32) : x_th 0 t = 0 := by
  unfold x_th
  rw [if_pos]
  rw [(x_cmpc _ 0).2.2.2.2]
  have e : x_am 0 = 0 := by decide
  rw [e]
  apply Int64.toInt_inj.mp
  rw [Jvm.Kit.i64_div (by intro h; exact absurd h.1 (by decide))]
  have e0 : (0 : Int64).toInt = 0 := by decide
  rw [e0, Int.zero_tdiv]
theorem x_tf_Z {ww hh : Nat} {cb : Nat → Bool} {g : Int32 → Int32} {f : Nat → Int32} (hg : g 0 = 0) (hZ : x_Z ww hh f) (n : Nat) : x_Z ww hh (x_tf cb g f n) := by
  intro i hi ho
  have h0 := hZ i hi ho
  unfold x_tf
  by_cases h : i < n ∧ cb i = true
  · rw [if_pos h, h0, hg]
  · rw [if_neg h, h0]
theorem x_tf_eq {ww hh : Nat} {cb cb2 : Nat → Bool} {g : Int32 → Int32} {f : Nat → Int32} (hg : g 0 = 0) (hZ : x_Z ww hh f) (hc : ∀ i, i < 768 → (cb2 i = true ↔ (i % 16 < ww ∧ i / 16 % 16 < hh) ∧ cb i = true)) : x_tf cb g f 768 = x_tf cb2 g f 768 := by
  funext i
  unfold x_tf
  by_cases hi : i < 768
  · by_cases ho : i % 16 < ww ∧ i / 16 % 16 < hh
    · by_cases h : cb i = true
      · rw [if_pos ⟨hi, h⟩, if_pos ⟨hi, (hc i hi).mpr ⟨ho, h⟩⟩]
      · rw [if_neg (fun q => h q.2), if_neg (fun q => h ((hc i hi).mp q.2).2)]
    · have h0 := hZ i hi (by omega)
      by_cases h : cb i = true
      · rw [if_pos ⟨hi, h⟩, if_neg (fun q => ho ((hc i hi).mp q.2).1), h0, hg]
      · rw [if_neg (fun q => h q.2), if_neg (fun q => ho ((hc i hi).mp q.2).1)]
  · rw [if_neg (fun q => hi q.1), if_neg (fun q => hi q.1)]
theorem x_tc_eq {ww hh : Nat} {cb cb2 : Nat → Bool} {g : Int32 → Int32} {f : Nat → Int32} (hZ : x_Z ww hh f) (hc : ∀ i, i < 768 → (cb2 i = true ↔ (i % 16 < ww ∧ i / 16 % 16 < hh) ∧ cb i = true)) : ∀ n, n ≤ 768 → x_tc cb g f n = x_tc cb2 g f n
  | 0, _ => rfl
  | n + 1, h => by
    show x_tc cb g f n + _ = x_tc cb2 g f n + _
    rw [x_tc_eq hZ hc n (by omega)]
    congr 1
    by_cases h0 : f n = 0
    · rw [if_neg (fun q => q.2.1 h0), if_neg (fun q => q.2.1 h0)]
    · have ho : n % 16 < ww ∧ n / 16 % 16 < hh := by
        refine Classical.byContradiction fun q => h0 (hZ n (by omega) (by omega))
      by_cases hb : cb n = true
      · have hb2 := (hc n (by omega)).mpr ⟨ho, hb⟩
        rw [hb, hb2]
      · have hb2 : ¬ cb2 n = true := fun q => hb ((hc n (by omega)).mp q).2
        rw [if_neg (fun q => hb q.1), if_neg (fun q => hb2 q.1)]
theorem x_osN {sc : Nat → Int32} {i dd oo lf tp : Nat} (hi : i < 768) (g2 : sc 2 = nI lf) (g4 : sc 4 = nI tp) (b1 : lf ≤ 1000) (b2 : tp ≤ 1000) (h1 : 1 ≤ dd) (h4 : dd ≤ 4) (ho : oo < 4) : x_os sc (nI i) (nI dd) (nI oo) ↔ ((lf + i % 16) % 2 ^ dd = x_t dd oo false ∧ (tp + i / 16 % 16) % 2 ^ dd = x_t dd oo true) := by
  obtain ⟨t1, t2, -, -, t5, t6⟩ := x_tR h1 h4 ho
  have h16 := x_p24 h4
  have hp := Nat.two_pow_pos dd
  have e16 : (16 : Int32) = nI 16 := rfl
  have m1 : nI i - nI i / 16 * 16 = nI (i % 16) := pk_rem (d := 16) (by omega) (by decide) (by decide)
  have m2 : nI i / 16 = nI (i / 16) := pk_div (d := 16) (by omega) (by decide) (by decide)
  have m3 : nI (i / 16) - nI (i / 16) / 16 * 16 = nI (i / 16 % 16) := pk_rem (d := 16) (by omega) (by decide) (by decide)
  have e1 : (1 : Int32) <<< (nI dd &&& 31) - 1 = nI (2 ^ dd - 1) := by
    have := x_shl (x := 1) h4 (by decide)
    rw [Nat.one_mul] at this
    have e9 : (1 : Int32) <<< (nI dd &&& 31) = nI (2 ^ dd) := this
    rw [e9]
    exact pk_sub (b := 1) hp
  have hm : (nI (2 ^ dd - 1)).toBitVec.toNat = 2 ^ dd - 1 := pk_tn (by omega)
  unfold x_os
  rw [m1, m2, m3, g2, g4, nI_add, nI_add, e1, pk_andN (by omega) dd hm, pk_andN (by omega) dd hm, t1, t2]
  have l1 := Nat.mod_lt (lf + i % 16) hp
  have l2 := Nat.mod_lt (tp + i / 16 % 16) hp
  rw [nI_eq (by omega) (by omega), nI_eq (by omega) (by omega)]
theorem x_mod_t {x t p : Nat} (hp : p ≤ 4) (ht : t < 2 ^ p) : ((x : Int) - t) % (2 ^ p : Nat) = 0 ↔ x % 2 ^ p = t := by
  match p, hp with
  | 0, _ => simp at ht ⊢; omega
  | 1, _ => simp at ht ⊢; omega
  | 2, _ => simp at ht ⊢; omega
  | 3, _ => simp at ht ⊢; omega
  | 4, _ => simp at ht ⊢; omega
theorem x_beN {x y dd oo : Nat} (hx : x ≤ 3000) (hy : y ≤ 3000) (h1 : 1 ≤ dd) (h4 : dd ≤ 4) (ho : oo < 4) : x_be (nI dd) (nI oo) (nI x) (nI y) ↔ (x % 2 ^ dd = x_t dd oo false ∧ y % 2 ^ dd = x_t dd oo true) := by
  obtain ⟨-, -, t3, t4, t5, t6⟩ := x_tR h1 h4 ho
  have h16 := x_p24 h4
  unfold x_be
  rw [t3, t4, x_stepN rfl h1 h4, ← zI_nI x, ← zI_nI y, ← zI_nI (x_t dd oo false), ← zI_nI (x_t dd oo true), zI_sub, zI_sub, x_iremz h4 (by omega) (by omega), x_iremz h4 (by omega) (by omega), x_mod_t h4 t5, x_mod_t h4 t6]
