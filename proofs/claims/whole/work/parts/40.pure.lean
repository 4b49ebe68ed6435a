theorem x_Con.post {l : Launch} {y : x_M} {fr lo : Nat} {ad : Nat → Nat} {D : va_G} {cI : ClassId} {av : List Value} {sc : Nat → Int32} {ar : Nat → Nat → Int32} {P P' : Option Value → (Nat → Int32) → (Nat → Nat → Int32) → Prop} (h : x_Con l y fr lo ad D cI av sc ar P) (hp : ∀ r sc' ar', P r sc' ar' → P' r sc' ar') : x_Con l y fr lo ad D cI av sc ar P' := by
  intro p e ha hc hk s m args below hf happ hP hK
  obtain ⟨n, o, h1, h2, h3, ⟨⟨r, sc', ar', e1, e2, e3⟩, h5⟩⟩ := h p e ha hc hk s m args below hf happ hP hK
  exact ⟨n, o, h1, h2, h3, ⟨⟨r, sc', ar', e1, hp _ _ _ e2, e3⟩, h5⟩⟩
theorem x_cmpc (x y : Int64) : (lg_cmp x y < 0 ↔ x.toInt < y.toInt) ∧ (0 ≤ lg_cmp x y ↔ y.toInt ≤ x.toInt) ∧ (0 < lg_cmp x y ↔ y.toInt < x.toInt) ∧ (lg_cmp x y ≤ 0 ↔ x.toInt ≤ y.toInt) ∧ (lg_cmp x y = 0 ↔ x = y) := by
  rcases lg_tri x y with h | h | h
  · have e : lg_cmp x y = -1 := by
      unfold lg_cmp
      rw [if_neg (lg_lt_not h), if_neg (lg_lt_ne h)]
    have h' := Int64.lt_iff_toInt_lt.mp h
    rw [e]
    exact ⟨⟨fun _ => h', fun _ => by decide⟩, ⟨fun q => absurd q (by decide), fun q => absurd q (by omega)⟩, ⟨fun q => absurd q (by decide), fun q => absurd q (by omega)⟩, ⟨fun _ => by omega, fun _ => by decide⟩, ⟨fun q => absurd q (by decide), fun q => absurd q (lg_lt_ne h)⟩⟩
  · subst h
    have e : lg_cmp x x = 0 := by simp [lg_cmp]
    rw [e]
    exact ⟨⟨fun q => absurd q (by decide), fun q => absurd q (by omega)⟩, ⟨fun _ => by omega, fun _ => by decide⟩, ⟨fun q => absurd q (by decide), fun q => absurd q (by omega)⟩, ⟨fun _ => by omega, fun _ => by decide⟩, ⟨fun _ => rfl, fun _ => rfl⟩⟩
  · have e : lg_cmp x y = 1 := by
      unfold lg_cmp
      rw [if_pos h]
    have h' := Int64.lt_iff_toInt_lt.mp h
    rw [e]
    exact ⟨⟨fun q => absurd q (by decide), fun q => absurd q (by omega)⟩, ⟨fun _ => by omega, fun _ => by decide⟩, ⟨fun _ => h', fun _ => by decide⟩, ⟨fun q => absurd q (by decide), fun q => absurd q (by omega)⟩, ⟨fun q => absurd q (by decide), fun q => absurd q.symm (lg_lt_ne h)⟩⟩
theorem x_nIl {n : Nat} (h : n < 2 ^ 31) : (nI n).toInt64.toInt = (n : Int) := by rw [Int32.toInt_toInt64, nI_toInt h]
theorem x_le1 (x : Int32) (n : Nat) (hn : n < 2 ^ 30) : nI (n + 1) ≤ x ↔ nI n < x := by
  rw [Int32.le_iff_toInt_le, Int32.lt_iff_toInt_lt, nI_toInt (by omega), nI_toInt (by omega)]
  omega
theorem x_holN {sc : Nat → Int32} {j b n : Nat} {z : Int64} (hb : sc (2 * j + 2) = nI b) (hn : sc (2 * j + 3) = nI n) (h1 : b ≤ 1000) (h2 : n ≤ 16) : x_hol sc j z ↔ ((b : Int) ≤ z.toInt ∧ z.toInt < b + n) := by
  have e1 : (nI b).toInt64.toInt = (b : Int) := x_nIl (by omega)
  have e2 : (nI (b + n)).toInt64.toInt = ((b + n : Nat) : Int) := x_nIl (by omega)
  unfold x_hol
  rw [hb, hn, nI_add, (x_cmpc z (nI b).toInt64).1, (x_cmpc z (nI (b + n)).toInt64).2.1, e1, e2]
  omega
abbrev x_Pl (pl : Int32) (U V : Int) (lf tp ww hh : Nat) : Prop := x_pl pl ∧ (lf : Int) ≤ U ∧ U < lf + ww ∧ (tp : Int) ≤ V ∧ V < tp + hh
def x_pi (pl : Int32) (U V : Int) (lf tp : Nat) : Nat := pl.toNatClampNeg * 256 + (V - tp).toNat * 16 + (U - lf).toNat
theorem x_pi_lt {pl : Int32} {U V : Int} {lf tp ww hh : Nat} (h : x_Pl pl U V lf tp ww hh) (h3 : ww ≤ 16) (h4 : hh ≤ 16) : x_pi pl U V lf tp < 768 := by
  obtain ⟨q, hq, rfl⟩ := x_plq h.1
  unfold x_pi
  rw [nI_clamp (by omega)]
  have := h.2
  omega
abbrev x_IT (mx : Int32) (lf tp ww hh p0 : Nat) (f kk : Nat → Int32) (sc : Nat → Int32) (ar : Nat → Nat → Int32) : Prop := sc 2 = nI lf ∧ sc 3 = nI ww ∧ sc 4 = nI tp ∧ sc 5 = nI hh ∧ sc 0 = nI p0 ∧ sc 1 = mx ∧ ar 0 = f ∧ ar 1 = kk
abbrev x_IR (th mx : Int32) (lf tp ww hh p0 : Nat) (f kk : Nat → Int32) (sc : Nat → Int32) (ar : Nat → Nat → Int32) : Prop := sc 8 = th ∧ sc 9 = nI lf ∧ sc 10 = nI tp ∧ sc 11 = nI ww ∧ sc 12 = nI hh ∧ sc 13 = mx ∧ sc 14 = nI p0 ∧ ar 4 = f ∧ ar 3 = kk
def x_Z (ww hh : Nat) (f : Nat → Int32) : Prop := ∀ i, i < 768 → (ww ≤ i % 16 ∨ hh ≤ i / 16 % 16) → f i = 0
abbrev x_IP (th mx : Int32) (lf tp ww hh p0 : Nat) (f : Nat → Int32) : Prop := lf ≤ 1000 ∧ tp ≤ 1000 ∧ ww ≤ 16 ∧ hh ≤ 16 ∧ p0 ≤ 4 ∧ (mx = 0 ∨ mx = 1) ∧ ((th = 1 ∧ 0 < ww ∧ 0 < hh) ∨ (th = 0 ∧ ww = 0 ∧ hh = 0 ∧ p0 = 0)) ∧ x_Z ww hh f
def x_IN (sc : Nat → Int32) (ar : Nat → Nat → Int32) : Prop := ∃ (th mx : Int32) (lf tp ww hh p0 : Nat) (f kk : Nat → Int32), x_IP th mx lf tp ww hh p0 f ∧ x_IT mx lf tp ww hh p0 f kk sc ar ∧ x_IR th mx lf tp ww hh p0 f kk sc ar
section PU
variable {sc : Nat → Int32} {ar : Nat → Nat → Int32} {th mx : Int32} {lf tp ww hh p0 : Nat} {f kk : Nat → Int32}
theorem x_cp_in {pl : Int32} {u v : Int64} (hP : x_IP th mx lf tp ww hh p0 f) (hT : x_IT mx lf tp ww hh p0 f kk sc ar) (h : x_Pl pl u.toInt v.toInt lf tp ww hh) : x_cp sc pl u v = nI (x_pi pl u.toInt v.toInt lf tp) := by
  obtain ⟨b1, b2, b3, b4, -⟩ := hP
  obtain ⟨g2, g3, g4, g5, -⟩ := hT
  have hc : x_pl pl ∧ x_hol sc 0 u ∧ x_hol sc 1 v := ⟨h.1, (x_holN (j := 0) g2 g3 b1 b3).mpr ⟨h.2.1, h.2.2.1⟩, (x_holN (j := 1) g4 g5 b2 b4).mpr ⟨h.2.2.2.1, h.2.2.2.2⟩⟩
  obtain ⟨q, hq, rfl⟩ := x_plq h.1
  have hh2 := h.2
  have eu : u = lN u.toInt.toNat := Int64.toInt_inj.mp (by rw [lN_toInt (by omega)]; omega)
  have ev : v = lN v.toInt.toNat := Int64.toInt_inj.mp (by rw [lN_toInt (by omega)]; omega)
  have e1 : x_off sc 0 u = nI ((u.toInt.toNat - lf) * 1) := by
    have := x_offN (sc := sc) (j := 0) (b := lf) (z := u.toInt.toNat) (by decide) g2 (by omega) (by omega)
    rw [← eu] at this
    exact this
  have e2 : x_off sc 1 v = nI ((v.toInt.toNat - tp) * 16) := by
    have := x_offN (sc := sc) (j := 1) (b := tp) (z := v.toInt.toNat) (by decide) g4 (by omega) (by omega)
    rw [← ev] at this
    exact this
  unfold x_cp
  rw [if_pos hc, e1, e2, x_m256, nI_add, nI_add]
  unfold x_pi
  rw [nI_clamp (by omega)]
  congr 1
  omega
theorem x_cp_out {pl : Int32} {u v : Int64} (hP : x_IP th mx lf tp ww hh p0 f) (hT : x_IT mx lf tp ww hh p0 f kk sc ar) (h : ¬ x_Pl pl u.toInt v.toInt lf tp ww hh) : x_cp sc pl u v = -1 := by
  obtain ⟨b1, b2, b3, b4, -⟩ := hP
  obtain ⟨g2, g3, g4, g5, -⟩ := hT
  unfold x_cp
  rw [if_neg]
  rintro ⟨q1, q2, q3⟩
  rw [x_holN (j := 0) g2 g3 b1 b3] at q2
  rw [x_holN (j := 1) g4 g5 b2 b4] at q3
  exact h ⟨q1, q2.1, q2.2, q3.1, q3.2⟩
theorem x_cp_vp {pl : Int32} {u v : Int64} (hP : x_IP th mx lf tp ww hh p0 f) (hT : x_IT mx lf tp ww hh p0 f kk sc ar) : ¬ x_cp sc pl u v = -1 → vp_in (x_cp sc pl u v) 768 := by
  intro h
  by_cases hp : x_Pl pl u.toInt v.toInt lf tp ww hh
  · rw [x_cp_in hP hT hp]
    exact vp_in_nI (x_pi_lt hp hP.2.2.1 hP.2.2.2.1) (by decide)
  · exact absurd (x_cp_out hP hT hp) h
theorem x_cp_ne {pl : Int32} {u v : Int64} (hP : x_IP th mx lf tp ww hh p0 f) (hT : x_IT mx lf tp ww hh p0 f kk sc ar) (h : x_Pl pl u.toInt v.toInt lf tp ww hh) : ¬ x_cp sc pl u v = -1 := by
  rw [x_cp_in hP hT h]
  have := x_pi_lt h hP.2.2.1 hP.2.2.2.1
  rw [← Int32.toInt_inj, nI_toInt (by omega)]
  have e : (-1 : Int32).toInt = -1 := by decide
  rw [e]
  omega
theorem x_rp_iff {pl u v : Int32} (hP : x_IP th mx lf tp ww hh p0 f) (hR : x_IR th mx lf tp ww hh p0 f kk sc ar) : ((¬ pl < 0 ∧ ¬ 2 < pl) ∧ x_rp sc u v) ↔ x_Pl pl u.toInt v.toInt lf tp ww hh := by
  obtain ⟨b1, b2, b3, b4, -, -, b7, -⟩ := hP
  obtain ⟨g8, g9, g10, g11, g12, -⟩ := hR
  have e3 : (3 : Int32) ≤ pl ↔ (2 : Int32) < pl := x_le1 pl 2 (by decide)
  unfold x_Pl x_pl
  rw [e3]
  unfold x_rp
  rw [g8, g9, g10, g11, g12, nI_add, nI_add]
  simp only [Int32.lt_iff_toInt_lt, Int32.le_iff_toInt_le]
  rw [nI_toInt (n := lf) (by omega), nI_toInt (n := tp) (by omega), nI_toInt (n := lf + ww) (by omega), nI_toInt (n := tp + hh) (by omega)]
  rcases b7 with ⟨c1, c2, c3⟩ | ⟨c1, c2, c3, -⟩
  · have c4 : ¬ th = 0 := by rw [c1]; decide
    constructor
    · rintro ⟨a1, -, a2, a3, a4, a5⟩
      exact ⟨a1, by omega, by omega, by omega, by omega⟩
    · rintro ⟨a1, a2, a3, a4, a5⟩
      exact ⟨a1, c4, by omega, by omega, by omega, by omega⟩
  · constructor
    · rintro ⟨-, a0, -⟩
      exact absurd c1 a0
    · rintro ⟨-, a2, a3, -⟩
      omega
theorem x_rc_in {pl u v : Int32} (hP : x_IP th mx lf tp ww hh p0 f) (hR : x_IR th mx lf tp ww hh p0 f kk sc ar) (h : x_Pl pl u.toInt v.toInt lf tp ww hh) : x_rc sc pl u v = nI (x_pi pl u.toInt v.toInt lf tp) := by
  obtain ⟨b1, b2, b3, b4, -⟩ := hP
  obtain ⟨g8, g9, g10, -⟩ := hR
  obtain ⟨q, hq, rfl⟩ := x_plq h.1
  have h2 := h.2
  have eu : u = nI u.toInt.toNat := Int32.toInt_inj.mp (by rw [nI_toInt (by omega)]; omega)
  have ev : v = nI v.toInt.toNat := Int32.toInt_inj.mp (by rw [nI_toInt (by omega)]; omega)
  have := x_rcN (q := q) (u := u.toInt.toNat) (v := v.toInt.toNat) g9 g10 (by omega) (by omega)
  rw [← eu, ← ev] at this
  rw [this]
  unfold x_ix x_pi
  rw [nI_clamp (by omega)]
  congr 1
  omega
theorem x_rc_vp {pl u v : Int32} (hP : x_IP th mx lf tp ww hh p0 f) (hR : x_IR th mx lf tp ww hh p0 f kk sc ar) : (¬ pl < 0 ∧ ¬ 2 < pl) ∧ x_rp sc u v → vp_in (x_rc sc pl u v) 768 := by
  intro h
  have hp := (x_rp_iff hP hR).mp h
  rw [x_rc_in hP hR hp]
  exact vp_in_nI (x_pi_lt hp hP.2.2.1 hP.2.2.2.1) (by decide)
theorem x_lvl {d : Int32} {n : Nat} (hn : n < 2 ^ 31) (h1 : ¬ d < 1) (h2 : ¬ nI n < d) : ∃ dd : Nat, d = nI dd ∧ 1 ≤ dd ∧ dd ≤ n := by
  have e1 : (1 : Int32).toInt = 1 := by decide
  rw [Int32.lt_iff_toInt_lt, e1] at h1
  rw [Int32.lt_iff_toInt_lt, nI_toInt hn] at h2
  exact ⟨d.toInt.toNat, Int32.toInt_inj.mp (by rw [nI_toInt (by omega)]; omega), by omega, by omega⟩
theorem x_bnd {o : Int32} (h1 : ¬ o < 0) (h2 : ¬ 4 ≤ o) : ∃ oo : Nat, o = nI oo ∧ oo < 4 := by
  obtain ⟨j, j1, j2⟩ := nI_of h1
  refine ⟨j, j2, ?_⟩
  rw [j2] at h2
  exact Nat.lt_of_not_le fun q => h2 ((nI_leI (a := 4) (by decide) j1).mpr q)
theorem x_o34 (o : Int32) : 4 ≤ o ↔ 3 < o := x_le1 o 3 (by decide)
def x_t (dd oo : Nat) (w : Bool) : Nat := 2 ^ (dd - 1) * (if w = true then oo / 2 else oo % 2)
theorem x_tR {dd oo : Nat} (h1 : 1 ≤ dd) (h4 : dd ≤ 4) (ho : oo < 4) : x_sR (nI dd) (nI oo) = nI (x_t dd oo false) ∧ x_sD (nI dd) (nI oo) = nI (x_t dd oo true) ∧ x_sh (nI dd) (nI oo) 0 = nI (x_t dd oo false) ∧ x_sh (nI dd) (nI oo) 1 = nI (x_t dd oo true) ∧ x_t dd oo false < 2 ^ dd ∧ x_t dd oo true < 2 ^ dd := by
  match dd, h1, h4, oo, ho with
  | 1, _, _, 0, _ => decide
  | 1, _, _, 1, _ => decide
  | 1, _, _, 2, _ => decide
  | 1, _, _, 3, _ => decide
  | 2, _, _, 0, _ => decide
  | 2, _, _, 1, _ => decide
  | 2, _, _, 2, _ => decide
  | 2, _, _, 3, _ => decide
  | 3, _, _, 0, _ => decide
  | 3, _, _, 1, _ => decide
  | 3, _, _, 2, _ => decide
  | 3, _, _, 3, _ => decide
  | 4, _, _, 0, _ => decide
  | 4, _, _, 1, _ => decide
  | 4, _, _, 2, _ => decide
  | 4, _, _, 3, _ => decide
theorem x_shw (d o w : Int32) : x_sh d o w = if w = 0 then x_sh d o 0 else x_sh d o 1 := by
  unfold x_sh
  by_cases h : w = 0
  · rw [if_pos h, if_pos h, if_pos rfl]
  · rw [if_neg h, if_neg h, if_neg (by decide)]
theorem x_lf_cs {x p t : Nat} (hp : p ≤ 4) (hx : x ≤ 3000) (ht : t < 2 ^ p) : x_lf (nI x) (nI p) (nI t) = nI (x_cs x t p) := by
  rw [x_lfN hp hx ht]
  congr 1
  unfold x_cs x_cd
  by_cases h : t ≤ x
  · congr 1
    omega
  · rw [show x - t = 0 by omega, Nat.zero_add, Nat.div_eq_of_lt (by omega), Nat.div_eq_of_lt (by omega)]
theorem x_am_ram (v : Int32) : x_am v = x_ram v := by
  unfold x_am x_ram
  have e0 : (0 : Int64).toInt = 0 := by decide
  have e1 : (0 : Int32).toInt = 0 := by decide
  by_cases h : v = 0
  · subst h
    rfl
  · have h9 : ¬ v.toInt = 0 := fun q => h (Int32.toInt_inj.mp (by rw [q, e1]))
    by_cases h2 : 0 ≤ v
    · rw [if_pos h2, if_pos]
      rw [Int64.lt_iff_toInt_lt, e0, Int32.toInt_toInt64]
      rw [Int32.le_iff_toInt_le, e1] at h2
      omega
    · rw [if_neg h2, if_neg]
      rw [Int64.lt_iff_toInt_lt, e0, Int32.toInt_toInt64]
      rw [Int32.le_iff_toInt_le, e1] at h2
      omega
theorem x_th_rth (v t : Int32) : x_th v t = x_rth v t := by
  unfold x_th x_rth
  rw [x_am_ram]
  by_cases h : lg_cmp (x_ram v / t.toInt64) 0 = 0
  · rw [if_pos h, if_pos h]
    by_cases h2 : 0 ≤ v
    · rw [if_pos h2]; rfl
    · rw [if_neg h2]; rfl
  · rw [if_neg h, if_neg h]
end PU
