theorem c_R_fromN {l : Launch} {ad : Nat → Nat} {D : va_G} {cI : ClassId} {sc : Nat → Int32} {ar : Nat → Nat → Int32} (hd : x_dis ad) {n0 q : Nat} {y1 y2 : Int32} (e1 : y1 = nI n0) (e2 : y2 = nI (2 ^ q)) (hn : n0 ≤ 3000) (hq : q ≤ 4) : x_Con l M_R_from 0 0 ad D cI [.int y1, .int y2] sc ar (x_E (some (.int (nI (x_cd n0 q)))) sc ar) := by
  subst e1
  subst e2
  exact c_R_from hd hn hq
def x_ix (q lf tp u v : Nat) : Nat := q * 256 + (v - tp) * 16 + (u - lf)
theorem x_rcN {sc : Nat → Int32} {q lf tp u v : Nat} (h9 : sc 9 = nI lf) (h10 : sc 10 = nI tp) (hu : lf ≤ u) (hv : tp ≤ v) : x_rc sc (nI q) (nI u) (nI v) = nI (x_ix q lf tp u v) := by
  show 256 * nI q + 16 * (nI v - sc 10) + nI u - sc 9 = _
  rw [h9, h10, pk_sub hv]
  show nI 256 * nI q + nI 16 * nI (v - tp) + nI u - nI lf = _
  rw [pk_mul, pk_mul, nI_add, nI_add, pk_sub (by omega)]
  unfold x_ix
  congr 1
  omega
abbrev x_RC (sc : Nat → Int32) (lf tp ww hh : Nat) : Prop := ¬ sc 8 = 0 ∧ sc 9 = nI lf ∧ sc 10 = nI tp ∧ sc 11 = nI ww ∧ sc 12 = nI hh ∧ lf ≤ 1000 ∧ tp ≤ 1000 ∧ ww ≤ 16 ∧ hh ≤ 16
theorem x_rpN {sc : Nat → Int32} {lf tp ww hh u v : Nat} (hc : x_RC sc lf tp ww hh) (hu : u < 2 ^ 30) (hv : v < 2 ^ 30) : x_rp sc (nI u) (nI v) ↔ (lf ≤ u ∧ u < lf + ww ∧ tp ≤ v ∧ v < tp + hh) := by
  obtain ⟨h8, h9, h10, h11, h12, b1, b2, b3, b4⟩ := hc
  unfold x_rp
  rw [h9, h10, h11, h12, nI_add, nI_add, nI_ltI (by omega) (by omega), nI_leI (by omega) (by omega), nI_ltI (by omega) (by omega), nI_leI (by omega) (by omega)]
  constructor
  · rintro ⟨-, a1, a2, a3, a4⟩
    omega
  · intro h
    exact ⟨h8, by omega, by omega, by omega, by omega⟩
theorem x_plN {q : Nat} (hq : q < 3) : ¬ nI q < 0 ∧ ¬ 2 < nI q := by
  match q, hq with
  | 0, _ => decide
  | 1, _ => decide
  | 2, _ => decide
section RN
variable {l : Launch} {ad : Nat → Nat} {D : va_G} {cI : ClassId} {sc : Nat → Int32} {ar : Nat → Nat → Int32}
theorem c_R_cellN (hd : x_dis ad) {q lf tp u v : Nat} {u0 v0 : Int32} (h9 : sc 9 = nI lf) (h10 : sc 10 = nI tp) (hu : lf ≤ u) (hv : tp ≤ v) (eu : u0 = nI u) (ev : v0 = nI v) : x_Con l M_R_cell 0 0 ad D cI [.ref (ad 7), .int (nI q), .int u0, .int v0] sc ar (x_E (some (.int (nI (x_ix q lf tp u v)))) sc ar) := by
  subst eu
  subst ev
  rw [← x_rcN h9 h10 hu hv]
  exact c_R_cell hd
theorem c_R_atN (hd : x_dis ad) {q lf tp ww hh u v : Nat} {u0 v0 : Int32} (hc : x_RC sc lf tp ww hh) (hq : q < 3) (hu : lf ≤ u) (hu2 : u < lf + ww) (hv : tp ≤ v) (hv2 : v < tp + hh) (eu : u0 = nI u) (ev : v0 = nI v) : x_Con l M_R_at 1 23 ad D cI [.ref (ad 7), .int (nI q), .int u0, .int v0] sc ar (x_E (some (.int (ar 4 (x_ix q lf tp u v)))) sc ar) := by
  subst eu
  subst ev
  have hc' := hc
  obtain ⟨h8, h9, h10, h11, h12, b1, b2, b3, b4⟩ := hc'
  have hr := x_rcN (q := q) h9 h10 hu hv
  have hlt : x_ix q lf tp u v < 768 := by unfold x_ix; omega
  have hcd : (¬ nI q < 0 ∧ ¬ 2 < nI q) ∧ x_rp sc (nI u) (nI v) := ⟨x_plN hq, (x_rpN hc (by omega) (by omega)).mpr ⟨hu, hu2, hv, hv2⟩⟩
  have h := c_R_at (l := l) (D := D) (cI := cI) (sc := sc) (ar := ar) hd (pl := nI q) (u := nI u) (v := nI v) (fun _ => by rw [hr]; exact vp_in_nI hlt (by decide))
  rw [if_pos hcd, hr, nI_clamp (by omega)] at h
  exact h
end RN
theorem x_wr0 {f v : Nat → Int32} {c st : Nat} : x_wr f v c st 0 = f := rfl
theorem x_ln_eq0 {fwd : Bool} {kn : Int32} {f v : Nat → Int32} {c st : Nat} {a : Int} : ∀ {n : Nat}, x_wr f (x_LF fwd kn (x_fg v (fun i => f (c + i * st)) n) a (a + (n : Int) - 1)) c st n = x_ln fwd kn f c st a n
  | 0 => by
    rw [x_wr0]
    unfold x_ln
    rw [x_wr0]
  | _ + 1 => x_ln_eq (Nat.succ_pos _)
abbrev x_RP (sc : Nat → Int32) (ar : Nat → Nat → Int32) (F : Nat → Int32) : Option Value → (Nat → Int32) → (Nat → Nat → Int32) → Prop := fun r sc' ar' => r = none ∧ (∀ i, i ≠ 15 → i ≠ 16 → sc' i = sc i) ∧ (∀ i, i ≠ 4 → i ≠ 5 → i ≠ 6 → ar' i = ar i) ∧ ar' 4 = F
theorem x_cdpos {x n p : Nat} (h : 0 < n) : 1 ≤ x_cd (x + n) p := by
  have := @x_cd_lt (x + n) p 0
  omega
theorem x_ixc {q lf tp u A k p : Nat} (hp : p ≤ 3) (h : tp ≤ A * 2 ^ p) : x_ix q lf tp u ((A + k) * 2 ^ p) = (q * 256 + (A * 2 ^ p - tp) * 16 + (u - lf)) + k * (16 * 2 ^ p) := by
  unfold x_ix
  match p, hp with
  | 0, _ => omega
  | 1, _ => omega
  | 2, _ => omega
  | 3, _ => omega
theorem x_ixr {q lf tp v A k p : Nat} (hp : p ≤ 3) (h : lf ≤ A * 2 ^ p) : x_ix q lf tp ((A + k) * 2 ^ p) v = (q * 256 + (A * 2 ^ p - lf) * 1 + (v - tp) * 16) + k * (1 * 2 ^ p) := by
  unfold x_ix
  match p, hp with
  | 0, _ => omega
  | 1, _ => omega
  | 2, _ => omega
  | 3, _ => omega
section C12
variable {l : Launch} {ad : Nat → Nat} {D : va_G} {cI : ClassId} {sc : Nat → Int32} {ar : Nat → Nat → Int32}
set_option maxRecDepth 100000 in
set_option maxHeartbeats 800000 in
theorem c_R_column (hd : x_dis ad) {q p0 xx lf tp ww hh : Nat} {fwd : Bool} {w : Int32} (hc : x_RC sc lf tp ww hh) (hq : q < 3) (hp : p0 ≤ 3) (hx1 : lf ≤ xx) (hx2 : xx < lf + ww) (hpos : 0 < hh) (hw : w = 0 ∧ fwd = true ∨ ¬ w = 0 ∧ fwd = false) : x_Con l M_R_column 5 108 ad D cI [.ref (ad 7), .int (nI q), .int (nI xx), .int (nI (2 ^ p0)), .int w] sc ar (x_RP sc ar (x_ln fwd (sc 17) (ar 4) (q * 256 + (x_cd tp p0 * 2 ^ p0 - tp) * 16 + (xx - lf)) (16 * 2 ^ p0) ((x_cd tp p0) : Int) (x_cd (tp + hh) p0 - x_cd tp p0))) := by
  obtain ⟨h8, h9, h10, h11, h12, b1, b2, b3, b4⟩ := id hc
  have hA := x_cdb (x := tp) (p := p0)
  have hE := x_cdb (x := tp + hh) (p := p0)
  have hN := x_cdn (x := tp) (n := hh) (p := p0) (by omega)
  have hM := x_cd_mono (x := tp) (y := tp + hh) (p := p0) (by omega)
  have hB1 := x_cdpos (x := tp) (p := p0) hpos
  have ga : tp ≤ x_cd tp p0 * 2 ^ p0 := x_cd_le.mp (Nat.le_refl _)
  have h16 : 2 ^ p0 ≤ 2 ^ 3 := Nat.pow_le_pow_right (by decide) hp
  have hc1 : x_RC (upd (upd sc 15 (nI (x_cd tp p0))) 16 (nI (x_cd (tp + hh) p0 - 1))) lf tp ww hh := ⟨h8, h9, h10, h11, h12, b1, b2, b3, b4⟩
  refine x_intro hd [some (.ref (ad 7)), some (.int (nI q)), some (.int (nI xx)), some (.int (nI (2 ^ p0))), some (.int w), none] (by decide) (Nat.le_of_ble_eq_true rfl) rfl ?_
  intro p e s m args below meth c X
  have hlt : ∀ k, k < (x_cd (tp + hh) p0 - x_cd tp p0) → (q * 256 + (x_cd tp p0 * 2 ^ p0 - tp) * 16 + (xx - lf)) + k * (16 * 2 ^ p0) < 768 := by
    intro k hk3
    have gk : tp ≤ ((x_cd tp p0) + k) * 2 ^ p0 := x_cd_le.mp (by omega)
    have gk2 : ((x_cd tp p0) + k) * 2 ^ p0 < tp + hh := x_cd_lt.mpr (by omega)
    rw [← x_ixc (k := k) hp ga]
    unfold x_ix
    omega
  have hfin : x_wr (ar 4) (x_LF fwd (sc 17) (x_fg (ar 5) (fun i => ar 4 ((q * 256 + (x_cd tp p0 * 2 ^ p0 - tp) * 16 + (xx - lf)) + i * (16 * 2 ^ p0))) (x_cd (tp + hh) p0 - x_cd tp p0)) ((x_cd tp p0) : Int) (((x_cd tp p0) : Int) + ((x_cd (tp + hh) p0 - x_cd tp p0) : Nat) - 1)) (q * 256 + (x_cd tp p0 * 2 ^ p0 - tp) * 16 + (xx - lf)) (16 * 2 ^ p0) (x_cd (tp + hh) p0 - x_cd tp p0) = (x_ln fwd (sc 17) (ar 4) (q * 256 + (x_cd tp p0 * 2 ^ p0 - tp) * 16 + (xx - lf)) (16 * 2 ^ p0) ((x_cd tp p0) : Int) (x_cd (tp + hh) p0 - x_cd tp p0)) := x_ln_eq0
  have loop2 : ∀ n k : Nat, (x_cd (tp + hh) p0 - x_cd tp p0) - k < n → k ≤ (x_cd (tp + hh) p0 - x_cd tp p0) → x_G p l e (x_rm 5 108) s m args below meth c M_R_column ad D cI (x_A ad) 0 0 (x_Q below args s ad D cI (x_RP sc ar (x_ln fwd (sc 17) (ar 4) (q * 256 + (x_cd tp p0 * 2 ^ p0 - tp) * 16 + (xx - lf)) (16 * 2 ^ p0) ((x_cd tp p0) : Int) (x_cd (tp + hh) p0 - x_cd tp p0)))) 86 [some (.ref (ad 7)), some (.int (nI q)), some (.int (nI xx)), some (.int (nI (2 ^ p0))), some (.int w), some (.int (nI ((x_cd tp p0) + k)))] [] (upd (upd sc 15 (nI (x_cd tp p0))) 16 (nI (x_cd (tp + hh) p0 - 1))) (x_ua (x_ua (x_ua ar 5 (x_fg (ar 5) (fun i => ar 4 ((q * 256 + (x_cd tp p0 * 2 ^ p0 - tp) * 16 + (xx - lf)) + i * (16 * 2 ^ p0))) (x_cd (tp + hh) p0 - x_cd tp p0))) 6 (x_fg (ar 6) (x_LF fwd (sc 17) (x_fg (ar 5) (fun i => ar 4 ((q * 256 + (x_cd tp p0 * 2 ^ p0 - tp) * 16 + (xx - lf)) + i * (16 * 2 ^ p0))) (x_cd (tp + hh) p0 - x_cd tp p0)) ((x_cd tp p0) : Int) (((x_cd tp p0) : Int) + ((x_cd (tp + hh) p0 - x_cd tp p0) : Nat) - 1)) (x_cd (tp + hh) p0 - x_cd tp p0))) 4 (x_wr (ar 4) (x_fg (ar 6) (x_LF fwd (sc 17) (x_fg (ar 5) (fun i => ar 4 ((q * 256 + (x_cd tp p0 * 2 ^ p0 - tp) * 16 + (xx - lf)) + i * (16 * 2 ^ p0))) (x_cd (tp + hh) p0 - x_cd tp p0)) ((x_cd tp p0) : Int) (((x_cd tp p0) : Int) + ((x_cd (tp + hh) p0 - x_cd tp p0) : Nat) - 1)) (x_cd (tp + hh) p0 - x_cd tp p0)) (q * 256 + (x_cd tp p0 * 2 ^ p0 - tp) * 16 + (xx - lf)) (16 * 2 ^ p0) k)) := by
    intro n
    induction n with
    | zero => intro k h _; exact absurd h (Nat.not_lt_zero _)
    | succ n ih =>
      intro k hn hk
      refine xg_iload X (pc := 86) d_R_column_86 rfl ?_
      refine xg_aload_n X (pc := 88) d_R_column_88 rfl ?_
      refine xf_R_60 X (pc := 89) rfl d_R_column_89 ?_
      refine xg_icmp_gt X (pc := 92) (tgt := 128) d_R_column_92 rfl (fun h92 => ?_) (fun h92 => ?_)
      · have hk2 : k = (x_cd (tp + hh) p0 - x_cd tp p0) := by
          have q9 : nI (x_cd (tp + hh) p0 - 1) < nI ((x_cd tp p0) + k) := h92
          rw [nI_ltI (by omega) (by omega)] at q9
          omega
        subst hk2
        exact xg_vret X (pc := 128) d_R_column_128 rfl (⟨rfl, fun z z1 z2 => by rw [pk_un z2, pk_un z1], fun z z1 z2 z3 => by rw [x_ua_ne z1, x_ua_ne z3, x_ua_ne z2], (x_wr_ext (fun i hi => x_fg_lt hi)).trans (hfin)⟩)
      · have hk3 : k < (x_cd (tp + hh) p0 - x_cd tp p0) := by
          have q9 : ¬ nI (x_cd (tp + hh) p0 - 1) < nI ((x_cd tp p0) + k) := h92
          rw [nI_ltI (by omega) (by omega)] at q9
          omega
        have gk : tp ≤ ((x_cd tp p0) + k) * 2 ^ p0 := x_cd_le.mp (by omega)
        have gk2 : ((x_cd tp p0) + k) * 2 ^ p0 < tp + hh := x_cd_lt.mpr (by omega)
        refine xg_aload_n X (pc := 95) d_R_column_95 rfl ?_
        refine xf_R_13 X (pc := 96) rfl d_R_column_96 ?_
        refine xg_aload_n X (pc := 99) d_R_column_99 rfl ?_
        refine xg_iload_n X (pc := 100) d_R_column_100 rfl ?_
        refine xg_iload_n X (pc := 101) d_R_column_101 rfl ?_
        refine xg_iload X (pc := 102) d_R_column_102 rfl ?_
        refine xg_iload_n X (pc := 104) d_R_column_104 rfl ?_
        refine xg_imul X (pc := 105) d_R_column_105 ?_
        refine xg_crV3 X (pc := 106) d_R_column_106 (c_R_cellN hd hc1.2.1 hc1.2.2.1 (by omega) gk rfl (pk_mul _ _)) s_R_53 ⟨_, rfl⟩ rfl ⟨by decide, by decide⟩ (Nat.le_of_ble_eq_true rfl) ?_
        refine xg_aload_n X (pc := 109) d_R_column_109 rfl ?_
        refine xf_R_19 X (pc := 110) rfl d_R_column_110 ?_
        refine xg_iload X (pc := 113) d_R_column_113 rfl ?_
        refine xg_aload_n X (pc := 115) d_R_column_115 rfl ?_
        refine xf_R_57 X (pc := 116) rfl d_R_column_116 ?_
        refine xg_isub X (pc := 119) d_R_column_119 ?_
        refine xa_ld11 X (pc := 120) d_R_column_120 (by show vp_in (nI ((x_cd tp p0) + k) - nI (x_cd tp p0)) 16; rw [(show nI ((x_cd tp p0) + k) - nI (x_cd tp p0) = nI k by rw [pk_sub (by omega)]; congr 1; omega)]; exact vp_in_nI (by omega) (by decide)) ?_
        refine xa_st9 X (pc := 121) d_R_column_121 (by rw [x_ixc hp ga]; exact vp_in_nI (hlt k hk3) (by decide)) ?_
        refine xg_iinc X (pc := 122) d_R_column_122 rfl (x_inc (by decide : Int32.ofInt (1) = 1) _) (by decide) rfl ?_
        refine xg_goto X (pc := 125) (tgt := 86) d_R_column_125 rfl ?_
        refine xg_weak [some (.ref (ad 7)), some (.int (nI q)), some (.int (nI xx)), some (.int (nI (2 ^ p0))), some (.int w), some (.int (nI ((x_cd tp p0) + (k + 1))))] ⟨rfl, rfl, rfl, rfl, rfl, by rw [x_k1] <;> rfl, trivial⟩ ?_
        refine xg_eq rfl (ar' := (x_ua (x_ua (x_ua ar 5 (x_fg (ar 5) (fun i => ar 4 ((q * 256 + (x_cd tp p0 * 2 ^ p0 - tp) * 16 + (xx - lf)) + i * (16 * 2 ^ p0))) (x_cd (tp + hh) p0 - x_cd tp p0))) 6 (x_fg (ar 6) (x_LF fwd (sc 17) (x_fg (ar 5) (fun i => ar 4 ((q * 256 + (x_cd tp p0 * 2 ^ p0 - tp) * 16 + (xx - lf)) + i * (16 * 2 ^ p0))) (x_cd (tp + hh) p0 - x_cd tp p0)) ((x_cd tp p0) : Int) (((x_cd tp p0) : Int) + ((x_cd (tp + hh) p0 - x_cd tp p0) : Nat) - 1)) (x_cd (tp + hh) p0 - x_cd tp p0))) 4 (x_wr (ar 4) (x_fg (ar 6) (x_LF fwd (sc 17) (x_fg (ar 5) (fun i => ar 4 ((q * 256 + (x_cd tp p0 * 2 ^ p0 - tp) * 16 + (xx - lf)) + i * (16 * 2 ^ p0))) (x_cd (tp + hh) p0 - x_cd tp p0)) ((x_cd tp p0) : Int) (((x_cd tp p0) : Int) + ((x_cd (tp + hh) p0 - x_cd tp p0) : Nat) - 1)) (x_cd (tp + hh) p0 - x_cd tp p0)) (q * 256 + (x_cd tp p0 * 2 ^ p0 - tp) * 16 + (xx - lf)) (16 * 2 ^ p0) (k + 1)))) ?_ rfl (ih (k + 1) (by omega) (by omega))
        rw [x_ua_ua, x_ua_at]
        refine congrArg _ ?_
        rw [show (nI ((x_cd tp p0) + k) - (upd (upd sc 15 (nI (x_cd tp p0))) 16 (nI (x_cd (tp + hh) p0 - 1))) 15).toNatClampNeg = k from by show (nI ((x_cd tp p0) + k) - nI (x_cd tp p0)).toNatClampNeg = k; rw [(show nI ((x_cd tp p0) + k) - nI (x_cd tp p0) = nI k by rw [pk_sub (by omega)]; congr 1; omega), nI_clamp (by omega)], x_ixc hp ga, nI_clamp (by have := hlt k hk3; omega)]
        rfl
  have loop1 : x_G p l e (x_rm 5 108) s m args below meth c M_R_column ad D cI (x_A ad) 0 0 (x_Q below args s ad D cI (x_RP sc ar (x_ln fwd (sc 17) (ar 4) (q * 256 + (x_cd tp p0 * 2 ^ p0 - tp) * 16 + (xx - lf)) (16 * 2 ^ p0) ((x_cd tp p0) : Int) (x_cd (tp + hh) p0 - x_cd tp p0)))) 74 [some (.ref (ad 7)), some (.int (nI q)), some (.int (nI xx)), some (.int (nI (2 ^ p0))), some (.int w), some (.int (nI ((x_cd tp p0) + (x_cd (tp + hh) p0 - x_cd tp p0))))] [] (upd (upd sc 15 (nI (x_cd tp p0))) 16 (nI (x_cd (tp + hh) p0 - 1))) (x_ua ar 5 (x_fg (ar 5) (fun i => ar 4 ((q * 256 + (x_cd tp p0 * 2 ^ p0 - tp) * 16 + (xx - lf)) + i * (16 * 2 ^ p0))) (x_cd (tp + hh) p0 - x_cd tp p0))) → ∀ n k : Nat, (x_cd (tp + hh) p0 - x_cd tp p0) - k < n → k ≤ (x_cd (tp + hh) p0 - x_cd tp p0) → x_G p l e (x_rm 5 108) s m args below meth c M_R_column ad D cI (x_A ad) 0 0 (x_Q below args s ad D cI (x_RP sc ar (x_ln fwd (sc 17) (ar 4) (q * 256 + (x_cd tp p0 * 2 ^ p0 - tp) * 16 + (xx - lf)) (16 * 2 ^ p0) ((x_cd tp p0) : Int) (x_cd (tp + hh) p0 - x_cd tp p0)))) 37 [some (.ref (ad 7)), some (.int (nI q)), some (.int (nI xx)), some (.int (nI (2 ^ p0))), some (.int w), some (.int (nI ((x_cd tp p0) + k)))] [] (upd (upd sc 15 (nI (x_cd tp p0))) 16 (nI (x_cd (tp + hh) p0 - 1))) (x_ua ar 5 (x_fg (ar 5) (fun i => ar 4 ((q * 256 + (x_cd tp p0 * 2 ^ p0 - tp) * 16 + (xx - lf)) + i * (16 * 2 ^ p0))) k)) := by
    intro cont n
    induction n with
    | zero => intro k h _; exact absurd h (Nat.not_lt_zero _)
    | succ n ih =>
      intro k hn hk
      refine xg_iload X (pc := 37) d_R_column_37 rfl ?_
      refine xg_aload_n X (pc := 39) d_R_column_39 rfl ?_
      refine xf_R_60 X (pc := 40) rfl d_R_column_40 ?_
      refine xg_icmp_gt X (pc := 43) (tgt := 74) d_R_column_43 rfl (fun h43 => ?_) (fun h43 => ?_)
      · have hk2 : k = (x_cd (tp + hh) p0 - x_cd tp p0) := by
          have q9 : nI (x_cd (tp + hh) p0 - 1) < nI ((x_cd tp p0) + k) := h43
          rw [nI_ltI (by omega) (by omega)] at q9
          omega
        subst hk2
        exact cont
      · have hk3 : k < (x_cd (tp + hh) p0 - x_cd tp p0) := by
          have q9 : ¬ nI (x_cd (tp + hh) p0 - 1) < nI ((x_cd tp p0) + k) := h43
          rw [nI_ltI (by omega) (by omega)] at q9
          omega
        have gk : tp ≤ ((x_cd tp p0) + k) * 2 ^ p0 := x_cd_le.mp (by omega)
        have gk2 : ((x_cd tp p0) + k) * 2 ^ p0 < tp + hh := x_cd_lt.mpr (by omega)
        refine xg_aload_n X (pc := 46) d_R_column_46 rfl ?_
        refine xf_R_16 X (pc := 47) rfl d_R_column_47 ?_
        refine xg_iload X (pc := 50) d_R_column_50 rfl ?_
        refine xg_aload_n X (pc := 52) d_R_column_52 rfl ?_
        refine xf_R_57 X (pc := 53) rfl d_R_column_53 ?_
        refine xg_isub X (pc := 56) d_R_column_56 ?_
        refine xg_aload_n X (pc := 57) d_R_column_57 rfl ?_
        refine xg_iload_n X (pc := 58) d_R_column_58 rfl ?_
        refine xg_iload_n X (pc := 59) d_R_column_59 rfl ?_
        refine xg_iload X (pc := 60) d_R_column_60 rfl ?_
        refine xg_iload_n X (pc := 62) d_R_column_62 rfl ?_
        refine xg_imul X (pc := 63) d_R_column_63 ?_
        refine xg_crV3 X (pc := 64) d_R_column_64 (c_R_atN hd hc1 hq (by omega) (by omega) gk gk2 rfl (pk_mul _ _)) s_R_99 ⟨_, rfl⟩ rfl ⟨by decide, by decide⟩ (Nat.le_of_ble_eq_true rfl) ?_
        refine xa_st10 X (pc := 67) d_R_column_67 (by show vp_in (nI ((x_cd tp p0) + k) - nI (x_cd tp p0)) 16; rw [(show nI ((x_cd tp p0) + k) - nI (x_cd tp p0) = nI k by rw [pk_sub (by omega)]; congr 1; omega)]; exact vp_in_nI (by omega) (by decide)) ?_
        refine xg_iinc X (pc := 68) d_R_column_68 rfl (x_inc (by decide : Int32.ofInt (1) = 1) _) (by decide) rfl ?_
        refine xg_goto X (pc := 71) (tgt := 37) d_R_column_71 rfl ?_
        refine xg_weak [some (.ref (ad 7)), some (.int (nI q)), some (.int (nI xx)), some (.int (nI (2 ^ p0))), some (.int w), some (.int (nI ((x_cd tp p0) + (k + 1))))] ⟨rfl, rfl, rfl, rfl, rfl, by rw [x_k1] <;> rfl, trivial⟩ ?_
        refine xg_eq rfl (ar' := (x_ua ar 5 (x_fg (ar 5) (fun i => ar 4 ((q * 256 + (x_cd tp p0 * 2 ^ p0 - tp) * 16 + (xx - lf)) + i * (16 * 2 ^ p0))) (k + 1)))) ?_ rfl (ih (k + 1) (by omega) (by omega))
        rw [x_ua_ua, x_ua_at]
        refine congrArg _ (Eq.trans ?_ x_fgs)
        rw [show (nI ((x_cd tp p0) + k) - (upd (upd sc 15 (nI (x_cd tp p0))) 16 (nI (x_cd (tp + hh) p0 - 1))) 15).toNatClampNeg = k from by show (nI ((x_cd tp p0) + k) - nI (x_cd tp p0)).toNatClampNeg = k; rw [(show nI ((x_cd tp p0) + k) - nI (x_cd tp p0) = nI k by rw [pk_sub (by omega)]; congr 1; omega), nI_clamp (by omega)]]
        refine congrArg _ ?_
        show ar 4 _ = ar 4 _
        rw [x_ixc hp ga]
  have cont : x_G p l e (x_rm 5 108) s m args below meth c M_R_column ad D cI (x_A ad) 0 0 (x_Q below args s ad D cI (x_RP sc ar (x_ln fwd (sc 17) (ar 4) (q * 256 + (x_cd tp p0 * 2 ^ p0 - tp) * 16 + (xx - lf)) (16 * 2 ^ p0) ((x_cd tp p0) : Int) (x_cd (tp + hh) p0 - x_cd tp p0)))) 74 [some (.ref (ad 7)), some (.int (nI q)), some (.int (nI xx)), some (.int (nI (2 ^ p0))), some (.int w), some (.int (nI ((x_cd tp p0) + (x_cd (tp + hh) p0 - x_cd tp p0))))] [] (upd (upd sc 15 (nI (x_cd tp p0))) 16 (nI (x_cd (tp + hh) p0 - 1))) (x_ua ar 5 (x_fg (ar 5) (fun i => ar 4 ((q * 256 + (x_cd tp p0 * 2 ^ p0 - tp) * 16 + (xx - lf)) + i * (16 * 2 ^ p0))) (x_cd (tp + hh) p0 - x_cd tp p0))) := by
    refine xg_aload_n X (pc := 74) d_R_column_74 rfl ?_
    refine xg_iload X (pc := 75) d_R_column_75 rfl ?_
    refine xg_cvV1 X (pc := 77) d_R_column_77 (c_R_work hd (zI_nI _).symm (by show nI (x_cd (tp + hh) p0 - 1) = _; rw [← zI_nI]; congr 1; omega) (by omega) (by omega) hN) s_R_102 ⟨_, rfl⟩ rfl ⟨by decide, by decide⟩ (Nat.le_of_ble_eq_true rfl) ?_
    refine xg_aload_n X (pc := 80) d_R_column_80 rfl ?_
    refine xf_R_57 X (pc := 81) rfl d_R_column_81 ?_
    refine xg_istore X (pc := 84) d_R_column_84 (by decide) rfl ?_
    refine xg_weak [some (.ref (ad 7)), some (.int (nI q)), some (.int (nI xx)), some (.int (nI (2 ^ p0))), some (.int w), some (.int (nI ((x_cd tp p0) + 0)))] ⟨rfl, rfl, rfl, rfl, rfl, rfl, trivial⟩ ?_
    refine xg_eq rfl (ar' := (x_ua (x_ua (x_ua ar 5 (x_fg (ar 5) (fun i => ar 4 ((q * 256 + (x_cd tp p0 * 2 ^ p0 - tp) * 16 + (xx - lf)) + i * (16 * 2 ^ p0))) (x_cd (tp + hh) p0 - x_cd tp p0))) 6 (x_fg (ar 6) (x_LF fwd (sc 17) (x_fg (ar 5) (fun i => ar 4 ((q * 256 + (x_cd tp p0 * 2 ^ p0 - tp) * 16 + (xx - lf)) + i * (16 * 2 ^ p0))) (x_cd (tp + hh) p0 - x_cd tp p0)) ((x_cd tp p0) : Int) (((x_cd tp p0) : Int) + ((x_cd (tp + hh) p0 - x_cd tp p0) : Nat) - 1)) (x_cd (tp + hh) p0 - x_cd tp p0))) 4 (x_wr (ar 4) (x_fg (ar 6) (x_LF fwd (sc 17) (x_fg (ar 5) (fun i => ar 4 ((q * 256 + (x_cd tp p0 * 2 ^ p0 - tp) * 16 + (xx - lf)) + i * (16 * 2 ^ p0))) (x_cd (tp + hh) p0 - x_cd tp p0)) ((x_cd tp p0) : Int) (((x_cd tp p0) : Int) + ((x_cd (tp + hh) p0 - x_cd tp p0) : Nat) - 1)) (x_cd (tp + hh) p0 - x_cd tp p0)) (q * 256 + (x_cd tp p0 * 2 ^ p0 - tp) * 16 + (xx - lf)) (16 * 2 ^ p0) 0))) ?_ rfl (loop2 _ 0 (Nat.lt_succ_self _) (by omega))
    have e8 : (if w = 0 then x_fw (sc 17) (x_fg (ar 5) (fun i => ar 4 ((q * 256 + (x_cd tp p0 * 2 ^ p0 - tp) * 16 + (xx - lf)) + i * (16 * 2 ^ p0))) (x_cd (tp + hh) p0 - x_cd tp p0)) ((x_cd tp p0) : Int) (((x_cd tp p0) : Int) + ((x_cd (tp + hh) p0 - x_cd tp p0) : Nat) - 1) else x_bw (sc 17) (x_fg (ar 5) (fun i => ar 4 ((q * 256 + (x_cd tp p0 * 2 ^ p0 - tp) * 16 + (xx - lf)) + i * (16 * 2 ^ p0))) (x_cd (tp + hh) p0 - x_cd tp p0)) ((x_cd tp p0) : Int) (((x_cd tp p0) : Int) + ((x_cd (tp + hh) p0 - x_cd tp p0) : Nat) - 1)) = (x_LF fwd (sc 17) (x_fg (ar 5) (fun i => ar 4 ((q * 256 + (x_cd tp p0 * 2 ^ p0 - tp) * 16 + (xx - lf)) + i * (16 * 2 ^ p0))) (x_cd (tp + hh) p0 - x_cd tp p0)) ((x_cd tp p0) : Int) (((x_cd tp p0) : Int) + ((x_cd (tp + hh) p0 - x_cd tp p0) : Nat) - 1)) := by
      unfold x_LF
      rcases hw with ⟨e5, e6⟩ | ⟨e5, e6⟩
      · rw [if_pos e5, e6, if_pos rfl]
      · rw [if_neg e5, e6, if_neg (by decide)]
    show x_ua (x_ua ar 5 (x_fg (ar 5) (fun i => ar 4 ((q * 256 + (x_cd tp p0 * 2 ^ p0 - tp) * 16 + (xx - lf)) + i * (16 * 2 ^ p0))) (x_cd (tp + hh) p0 - x_cd tp p0))) 6 (x_fg (ar 6) (if w = 0 then x_fw (sc 17) (x_fg (ar 5) (fun i => ar 4 ((q * 256 + (x_cd tp p0 * 2 ^ p0 - tp) * 16 + (xx - lf)) + i * (16 * 2 ^ p0))) (x_cd (tp + hh) p0 - x_cd tp p0)) ((x_cd tp p0) : Int) (((x_cd tp p0) : Int) + ((x_cd (tp + hh) p0 - x_cd tp p0) : Nat) - 1) else x_bw (sc 17) (x_fg (ar 5) (fun i => ar 4 ((q * 256 + (x_cd tp p0 * 2 ^ p0 - tp) * 16 + (xx - lf)) + i * (16 * 2 ^ p0))) (x_cd (tp + hh) p0 - x_cd tp p0)) ((x_cd tp p0) : Int) (((x_cd tp p0) : Int) + ((x_cd (tp + hh) p0 - x_cd tp p0) : Nat) - 1)) (x_cd (tp + hh) p0 - x_cd tp p0)) = x_ua (x_ua (x_ua ar 5 (x_fg (ar 5) (fun i => ar 4 ((q * 256 + (x_cd tp p0 * 2 ^ p0 - tp) * 16 + (xx - lf)) + i * (16 * 2 ^ p0))) (x_cd (tp + hh) p0 - x_cd tp p0))) 6 (x_fg (ar 6) (x_LF fwd (sc 17) (x_fg (ar 5) (fun i => ar 4 ((q * 256 + (x_cd tp p0 * 2 ^ p0 - tp) * 16 + (xx - lf)) + i * (16 * 2 ^ p0))) (x_cd (tp + hh) p0 - x_cd tp p0)) ((x_cd tp p0) : Int) (((x_cd tp p0) : Int) + ((x_cd (tp + hh) p0 - x_cd tp p0) : Nat) - 1)) (x_cd (tp + hh) p0 - x_cd tp p0))) 4 (ar 4)
    rw [e8]
    exact (x_ua_id (ar := (x_ua (x_ua ar 5 (x_fg (ar 5) (fun i => ar 4 ((q * 256 + (x_cd tp p0 * 2 ^ p0 - tp) * 16 + (xx - lf)) + i * (16 * 2 ^ p0))) (x_cd (tp + hh) p0 - x_cd tp p0))) 6 (x_fg (ar 6) (x_LF fwd (sc 17) (x_fg (ar 5) (fun i => ar 4 ((q * 256 + (x_cd tp p0 * 2 ^ p0 - tp) * 16 + (xx - lf)) + i * (16 * 2 ^ p0))) (x_cd (tp + hh) p0 - x_cd tp p0)) ((x_cd tp p0) : Int) (((x_cd tp p0) : Int) + ((x_cd (tp + hh) p0 - x_cd tp p0) : Nat) - 1)) (x_cd (tp + hh) p0 - x_cd tp p0)))) (j := 4)).symm
  refine xg_aload_n X (pc := 0) d_R_column_0 rfl ?_
  refine xg_aload_n X (pc := 1) d_R_column_1 rfl ?_
  refine xf_R_33 X (pc := 2) rfl d_R_column_2 ?_
  refine xg_iload_n X (pc := 5) d_R_column_5 rfl ?_
  refine xg_crS2 X (pc := 6) d_R_column_6 (c_R_fromN hd h10 rfl (by omega) (by omega)) s_R_96 ⟨by decide, by decide⟩ (Nat.le_of_ble_eq_true rfl) ?_
  refine xp_R_57 X (pc := 9) rfl d_R_column_9 ?_
  refine xg_aload_n X (pc := 12) d_R_column_12 rfl ?_
  refine xg_aload_n X (pc := 13) d_R_column_13 rfl ?_
  refine xf_R_33 X (pc := 14) rfl d_R_column_14 ?_
  refine xg_aload_n X (pc := 17) d_R_column_17 rfl ?_
  refine xf_R_36 X (pc := 18) rfl d_R_column_18 ?_
  refine xg_iadd X (pc := 21) d_R_column_21 ?_
  refine xg_iload_n X (pc := 22) d_R_column_22 rfl ?_
  refine xg_crS2 X (pc := 23) d_R_column_23 (c_R_fromN hd (by show sc _ + sc _ = _; rw [h10, h12, nI_add]) rfl (by omega) (by omega)) s_R_96 ⟨by decide, by decide⟩ (Nat.le_of_ble_eq_true rfl) ?_
  refine xg_iconst X (pc := 26) (v := 1) d_R_column_26 (by decide) ?_
  refine xg_isub X (pc := 27) d_R_column_27 ?_
  refine xg_eq rfl rfl (st := [.int (nI (x_cd (tp + hh) p0 - 1)), .ref (ad 7)]) (by show [Value.int (nI _ - nI 1), _] = _; rw [pk_sub hB1]) ?_
  refine xp_R_60 X (pc := 28) rfl d_R_column_28 ?_
  refine xg_aload_n X (pc := 31) d_R_column_31 rfl ?_
  refine xf_R_57 X (pc := 32) rfl d_R_column_32 ?_
  refine xg_istore X (pc := 35) d_R_column_35 (by decide) rfl ?_
  refine xg_weak [some (.ref (ad 7)), some (.int (nI q)), some (.int (nI xx)), some (.int (nI (2 ^ p0))), some (.int w), some (.int (nI ((x_cd tp p0) + 0)))] ⟨rfl, rfl, rfl, rfl, rfl, rfl, trivial⟩ ?_
  exact xg_eq rfl (by rw [x_fg0, x_ua_id]) rfl (loop1 cont _ 0 (Nat.lt_succ_self _) (by omega))
set_option maxRecDepth 100000 in
set_option maxHeartbeats 800000 in
theorem c_R_row (hd : x_dis ad) {q p0 xx lf tp ww hh : Nat} {fwd : Bool} {w : Int32} (hc : x_RC sc lf tp ww hh) (hq : q < 3) (hp : p0 ≤ 3) (hx1 : tp ≤ xx) (hx2 : xx < tp + hh) (hpos : 0 < ww) (hw : w = 0 ∧ fwd = true ∨ ¬ w = 0 ∧ fwd = false) : x_Con l M_R_row 5 108 ad D cI [.ref (ad 7), .int (nI q), .int (nI xx), .int (nI (2 ^ p0)), .int w] sc ar (x_RP sc ar (x_ln fwd (sc 17) (ar 4) (q * 256 + (x_cd lf p0 * 2 ^ p0 - lf) * 1 + (xx - tp) * 16) (1 * 2 ^ p0) ((x_cd lf p0) : Int) (x_cd (lf + ww) p0 - x_cd lf p0))) := by
  obtain ⟨h8, h9, h10, h11, h12, b1, b2, b3, b4⟩ := id hc
  have hA := x_cdb (x := lf) (p := p0)
  have hE := x_cdb (x := lf + ww) (p := p0)
  have hN := x_cdn (x := lf) (n := ww) (p := p0) (by omega)
  have hM := x_cd_mono (x := lf) (y := lf + ww) (p := p0) (by omega)
  have hB1 := x_cdpos (x := lf) (p := p0) hpos
  have ga : lf ≤ x_cd lf p0 * 2 ^ p0 := x_cd_le.mp (Nat.le_refl _)
  have h16 : 2 ^ p0 ≤ 2 ^ 3 := Nat.pow_le_pow_right (by decide) hp
  have hc1 : x_RC (upd (upd sc 15 (nI (x_cd lf p0))) 16 (nI (x_cd (lf + ww) p0 - 1))) lf tp ww hh := ⟨h8, h9, h10, h11, h12, b1, b2, b3, b4⟩
  refine x_intro hd [some (.ref (ad 7)), some (.int (nI q)), some (.int (nI xx)), some (.int (nI (2 ^ p0))), some (.int w), none] (by decide) (Nat.le_of_ble_eq_true rfl) rfl ?_
  intro p e s m args below meth c X
  have hlt : ∀ k, k < (x_cd (lf + ww) p0 - x_cd lf p0) → (q * 256 + (x_cd lf p0 * 2 ^ p0 - lf) * 1 + (xx - tp) * 16) + k * (1 * 2 ^ p0) < 768 := by
    intro k hk3
    have gk : lf ≤ ((x_cd lf p0) + k) * 2 ^ p0 := x_cd_le.mp (by omega)
    have gk2 : ((x_cd lf p0) + k) * 2 ^ p0 < lf + ww := x_cd_lt.mpr (by omega)
    rw [← x_ixr (k := k) hp ga]
    unfold x_ix
    omega
  have hfin : x_wr (ar 4) (x_LF fwd (sc 17) (x_fg (ar 5) (fun i => ar 4 ((q * 256 + (x_cd lf p0 * 2 ^ p0 - lf) * 1 + (xx - tp) * 16) + i * (1 * 2 ^ p0))) (x_cd (lf + ww) p0 - x_cd lf p0)) ((x_cd lf p0) : Int) (((x_cd lf p0) : Int) + ((x_cd (lf + ww) p0 - x_cd lf p0) : Nat) - 1)) (q * 256 + (x_cd lf p0 * 2 ^ p0 - lf) * 1 + (xx - tp) * 16) (1 * 2 ^ p0) (x_cd (lf + ww) p0 - x_cd lf p0) = (x_ln fwd (sc 17) (ar 4) (q * 256 + (x_cd lf p0 * 2 ^ p0 - lf) * 1 + (xx - tp) * 16) (1 * 2 ^ p0) ((x_cd lf p0) : Int) (x_cd (lf + ww) p0 - x_cd lf p0)) := x_ln_eq0
  have loop2 : ∀ n k : Nat, (x_cd (lf + ww) p0 - x_cd lf p0) - k < n → k ≤ (x_cd (lf + ww) p0 - x_cd lf p0) → x_G p l e (x_rm 5 108) s m args below meth c M_R_row ad D cI (x_A ad) 0 0 (x_Q below args s ad D cI (x_RP sc ar (x_ln fwd (sc 17) (ar 4) (q * 256 + (x_cd lf p0 * 2 ^ p0 - lf) * 1 + (xx - tp) * 16) (1 * 2 ^ p0) ((x_cd lf p0) : Int) (x_cd (lf + ww) p0 - x_cd lf p0)))) 86 [some (.ref (ad 7)), some (.int (nI q)), some (.int (nI xx)), some (.int (nI (2 ^ p0))), some (.int w), some (.int (nI ((x_cd lf p0) + k)))] [] (upd (upd sc 15 (nI (x_cd lf p0))) 16 (nI (x_cd (lf + ww) p0 - 1))) (x_ua (x_ua (x_ua ar 5 (x_fg (ar 5) (fun i => ar 4 ((q * 256 + (x_cd lf p0 * 2 ^ p0 - lf) * 1 + (xx - tp) * 16) + i * (1 * 2 ^ p0))) (x_cd (lf + ww) p0 - x_cd lf p0))) 6 (x_fg (ar 6) (x_LF fwd (sc 17) (x_fg (ar 5) (fun i => ar 4 ((q * 256 + (x_cd lf p0 * 2 ^ p0 - lf) * 1 + (xx - tp) * 16) + i * (1 * 2 ^ p0))) (x_cd (lf + ww) p0 - x_cd lf p0)) ((x_cd lf p0) : Int) (((x_cd lf p0) : Int) + ((x_cd (lf + ww) p0 - x_cd lf p0) : Nat) - 1)) (x_cd (lf + ww) p0 - x_cd lf p0))) 4 (x_wr (ar 4) (x_fg (ar 6) (x_LF fwd (sc 17) (x_fg (ar 5) (fun i => ar 4 ((q * 256 + (x_cd lf p0 * 2 ^ p0 - lf) * 1 + (xx - tp) * 16) + i * (1 * 2 ^ p0))) (x_cd (lf + ww) p0 - x_cd lf p0)) ((x_cd lf p0) : Int) (((x_cd lf p0) : Int) + ((x_cd (lf + ww) p0 - x_cd lf p0) : Nat) - 1)) (x_cd (lf + ww) p0 - x_cd lf p0)) (q * 256 + (x_cd lf p0 * 2 ^ p0 - lf) * 1 + (xx - tp) * 16) (1 * 2 ^ p0) k)) := by
    intro n
    induction n with
    | zero => intro k h _; exact absurd h (Nat.not_lt_zero _)
    | succ n ih =>
      intro k hn hk
      refine xg_iload X (pc := 86) d_R_row_86 rfl ?_
      refine xg_aload_n X (pc := 88) d_R_row_88 rfl ?_
      refine xf_R_60 X (pc := 89) rfl d_R_row_89 ?_
      refine xg_icmp_gt X (pc := 92) (tgt := 128) d_R_row_92 rfl (fun h92 => ?_) (fun h92 => ?_)
      · have hk2 : k = (x_cd (lf + ww) p0 - x_cd lf p0) := by
          have q9 : nI (x_cd (lf + ww) p0 - 1) < nI ((x_cd lf p0) + k) := h92
          rw [nI_ltI (by omega) (by omega)] at q9
          omega
        subst hk2
        exact xg_vret X (pc := 128) d_R_row_128 rfl (⟨rfl, fun z z1 z2 => by rw [pk_un z2, pk_un z1], fun z z1 z2 z3 => by rw [x_ua_ne z1, x_ua_ne z3, x_ua_ne z2], (x_wr_ext (fun i hi => x_fg_lt hi)).trans (hfin)⟩)
      · have hk3 : k < (x_cd (lf + ww) p0 - x_cd lf p0) := by
          have q9 : ¬ nI (x_cd (lf + ww) p0 - 1) < nI ((x_cd lf p0) + k) := h92
          rw [nI_ltI (by omega) (by omega)] at q9
          omega
        have gk : lf ≤ ((x_cd lf p0) + k) * 2 ^ p0 := x_cd_le.mp (by omega)
        have gk2 : ((x_cd lf p0) + k) * 2 ^ p0 < lf + ww := x_cd_lt.mpr (by omega)
        refine xg_aload_n X (pc := 95) d_R_row_95 rfl ?_
        refine xf_R_13 X (pc := 96) rfl d_R_row_96 ?_
        refine xg_aload_n X (pc := 99) d_R_row_99 rfl ?_
        refine xg_iload_n X (pc := 100) d_R_row_100 rfl ?_
        refine xg_iload X (pc := 101) d_R_row_101 rfl ?_
        refine xg_iload_n X (pc := 103) d_R_row_103 rfl ?_
        refine xg_imul X (pc := 104) d_R_row_104 ?_
        refine xg_iload_n X (pc := 105) d_R_row_105 rfl ?_
        refine xg_crV3 X (pc := 106) d_R_row_106 (c_R_cellN hd hc1.2.1 hc1.2.2.1 gk (by omega) (pk_mul _ _) rfl) s_R_53 ⟨_, rfl⟩ rfl ⟨by decide, by decide⟩ (Nat.le_of_ble_eq_true rfl) ?_
        refine xg_aload_n X (pc := 109) d_R_row_109 rfl ?_
        refine xf_R_19 X (pc := 110) rfl d_R_row_110 ?_
        refine xg_iload X (pc := 113) d_R_row_113 rfl ?_
        refine xg_aload_n X (pc := 115) d_R_row_115 rfl ?_
        refine xf_R_57 X (pc := 116) rfl d_R_row_116 ?_
        refine xg_isub X (pc := 119) d_R_row_119 ?_
        refine xa_ld11 X (pc := 120) d_R_row_120 (by show vp_in (nI ((x_cd lf p0) + k) - nI (x_cd lf p0)) 16; rw [(show nI ((x_cd lf p0) + k) - nI (x_cd lf p0) = nI k by rw [pk_sub (by omega)]; congr 1; omega)]; exact vp_in_nI (by omega) (by decide)) ?_
        refine xa_st9 X (pc := 121) d_R_row_121 (by rw [x_ixr hp ga]; exact vp_in_nI (hlt k hk3) (by decide)) ?_
        refine xg_iinc X (pc := 122) d_R_row_122 rfl (x_inc (by decide : Int32.ofInt (1) = 1) _) (by decide) rfl ?_
        refine xg_goto X (pc := 125) (tgt := 86) d_R_row_125 rfl ?_
        refine xg_weak [some (.ref (ad 7)), some (.int (nI q)), some (.int (nI xx)), some (.int (nI (2 ^ p0))), some (.int w), some (.int (nI ((x_cd lf p0) + (k + 1))))] ⟨rfl, rfl, rfl, rfl, rfl, by rw [x_k1] <;> rfl, trivial⟩ ?_
        refine xg_eq rfl (ar' := (x_ua (x_ua (x_ua ar 5 (x_fg (ar 5) (fun i => ar 4 ((q * 256 + (x_cd lf p0 * 2 ^ p0 - lf) * 1 + (xx - tp) * 16) + i * (1 * 2 ^ p0))) (x_cd (lf + ww) p0 - x_cd lf p0))) 6 (x_fg (ar 6) (x_LF fwd (sc 17) (x_fg (ar 5) (fun i => ar 4 ((q * 256 + (x_cd lf p0 * 2 ^ p0 - lf) * 1 + (xx - tp) * 16) + i * (1 * 2 ^ p0))) (x_cd (lf + ww) p0 - x_cd lf p0)) ((x_cd lf p0) : Int) (((x_cd lf p0) : Int) + ((x_cd (lf + ww) p0 - x_cd lf p0) : Nat) - 1)) (x_cd (lf + ww) p0 - x_cd lf p0))) 4 (x_wr (ar 4) (x_fg (ar 6) (x_LF fwd (sc 17) (x_fg (ar 5) (fun i => ar 4 ((q * 256 + (x_cd lf p0 * 2 ^ p0 - lf) * 1 + (xx - tp) * 16) + i * (1 * 2 ^ p0))) (x_cd (lf + ww) p0 - x_cd lf p0)) ((x_cd lf p0) : Int) (((x_cd lf p0) : Int) + ((x_cd (lf + ww) p0 - x_cd lf p0) : Nat) - 1)) (x_cd (lf + ww) p0 - x_cd lf p0)) (q * 256 + (x_cd lf p0 * 2 ^ p0 - lf) * 1 + (xx - tp) * 16) (1 * 2 ^ p0) (k + 1)))) ?_ rfl (ih (k + 1) (by omega) (by omega))
        rw [x_ua_ua, x_ua_at]
        refine congrArg _ ?_
        rw [show (nI ((x_cd lf p0) + k) - (upd (upd sc 15 (nI (x_cd lf p0))) 16 (nI (x_cd (lf + ww) p0 - 1))) 15).toNatClampNeg = k from by show (nI ((x_cd lf p0) + k) - nI (x_cd lf p0)).toNatClampNeg = k; rw [(show nI ((x_cd lf p0) + k) - nI (x_cd lf p0) = nI k by rw [pk_sub (by omega)]; congr 1; omega), nI_clamp (by omega)], x_ixr hp ga, nI_clamp (by have := hlt k hk3; omega)]
        rfl
  have loop1 : x_G p l e (x_rm 5 108) s m args below meth c M_R_row ad D cI (x_A ad) 0 0 (x_Q below args s ad D cI (x_RP sc ar (x_ln fwd (sc 17) (ar 4) (q * 256 + (x_cd lf p0 * 2 ^ p0 - lf) * 1 + (xx - tp) * 16) (1 * 2 ^ p0) ((x_cd lf p0) : Int) (x_cd (lf + ww) p0 - x_cd lf p0)))) 74 [some (.ref (ad 7)), some (.int (nI q)), some (.int (nI xx)), some (.int (nI (2 ^ p0))), some (.int w), some (.int (nI ((x_cd lf p0) + (x_cd (lf + ww) p0 - x_cd lf p0))))] [] (upd (upd sc 15 (nI (x_cd lf p0))) 16 (nI (x_cd (lf + ww) p0 - 1))) (x_ua ar 5 (x_fg (ar 5) (fun i => ar 4 ((q * 256 + (x_cd lf p0 * 2 ^ p0 - lf) * 1 + (xx - tp) * 16) + i * (1 * 2 ^ p0))) (x_cd (lf + ww) p0 - x_cd lf p0))) → ∀ n k : Nat, (x_cd (lf + ww) p0 - x_cd lf p0) - k < n → k ≤ (x_cd (lf + ww) p0 - x_cd lf p0) → x_G p l e (x_rm 5 108) s m args below meth c M_R_row ad D cI (x_A ad) 0 0 (x_Q below args s ad D cI (x_RP sc ar (x_ln fwd (sc 17) (ar 4) (q * 256 + (x_cd lf p0 * 2 ^ p0 - lf) * 1 + (xx - tp) * 16) (1 * 2 ^ p0) ((x_cd lf p0) : Int) (x_cd (lf + ww) p0 - x_cd lf p0)))) 37 [some (.ref (ad 7)), some (.int (nI q)), some (.int (nI xx)), some (.int (nI (2 ^ p0))), some (.int w), some (.int (nI ((x_cd lf p0) + k)))] [] (upd (upd sc 15 (nI (x_cd lf p0))) 16 (nI (x_cd (lf + ww) p0 - 1))) (x_ua ar 5 (x_fg (ar 5) (fun i => ar 4 ((q * 256 + (x_cd lf p0 * 2 ^ p0 - lf) * 1 + (xx - tp) * 16) + i * (1 * 2 ^ p0))) k)) := by
    intro cont n
    induction n with
    | zero => intro k h _; exact absurd h (Nat.not_lt_zero _)
    | succ n ih =>
      intro k hn hk
      refine xg_iload X (pc := 37) d_R_row_37 rfl ?_
      refine xg_aload_n X (pc := 39) d_R_row_39 rfl ?_
      refine xf_R_60 X (pc := 40) rfl d_R_row_40 ?_
      refine xg_icmp_gt X (pc := 43) (tgt := 74) d_R_row_43 rfl (fun h43 => ?_) (fun h43 => ?_)
      · have hk2 : k = (x_cd (lf + ww) p0 - x_cd lf p0) := by
          have q9 : nI (x_cd (lf + ww) p0 - 1) < nI ((x_cd lf p0) + k) := h43
          rw [nI_ltI (by omega) (by omega)] at q9
          omega
        subst hk2
        exact cont
      · have hk3 : k < (x_cd (lf + ww) p0 - x_cd lf p0) := by
          have q9 : ¬ nI (x_cd (lf + ww) p0 - 1) < nI ((x_cd lf p0) + k) := h43
          rw [nI_ltI (by omega) (by omega)] at q9
          omega
        have gk : lf ≤ ((x_cd lf p0) + k) * 2 ^ p0 := x_cd_le.mp (by omega)
        have gk2 : ((x_cd lf p0) + k) * 2 ^ p0 < lf + ww := x_cd_lt.mpr (by omega)
        refine xg_aload_n X (pc := 46) d_R_row_46 rfl ?_
        refine xf_R_16 X (pc := 47) rfl d_R_row_47 ?_
        refine xg_iload X (pc := 50) d_R_row_50 rfl ?_
        refine xg_aload_n X (pc := 52) d_R_row_52 rfl ?_
        refine xf_R_57 X (pc := 53) rfl d_R_row_53 ?_
        refine xg_isub X (pc := 56) d_R_row_56 ?_
        refine xg_aload_n X (pc := 57) d_R_row_57 rfl ?_
        refine xg_iload_n X (pc := 58) d_R_row_58 rfl ?_
        refine xg_iload X (pc := 59) d_R_row_59 rfl ?_
        refine xg_iload_n X (pc := 61) d_R_row_61 rfl ?_
        refine xg_imul X (pc := 62) d_R_row_62 ?_
        refine xg_iload_n X (pc := 63) d_R_row_63 rfl ?_
        refine xg_crV3 X (pc := 64) d_R_row_64 (c_R_atN hd hc1 hq gk gk2 (by omega) (by omega) (pk_mul _ _) rfl) s_R_99 ⟨_, rfl⟩ rfl ⟨by decide, by decide⟩ (Nat.le_of_ble_eq_true rfl) ?_
        refine xa_st10 X (pc := 67) d_R_row_67 (by show vp_in (nI ((x_cd lf p0) + k) - nI (x_cd lf p0)) 16; rw [(show nI ((x_cd lf p0) + k) - nI (x_cd lf p0) = nI k by rw [pk_sub (by omega)]; congr 1; omega)]; exact vp_in_nI (by omega) (by decide)) ?_
        refine xg_iinc X (pc := 68) d_R_row_68 rfl (x_inc (by decide : Int32.ofInt (1) = 1) _) (by decide) rfl ?_
        refine xg_goto X (pc := 71) (tgt := 37) d_R_row_71 rfl ?_
        refine xg_weak [some (.ref (ad 7)), some (.int (nI q)), some (.int (nI xx)), some (.int (nI (2 ^ p0))), some (.int w), some (.int (nI ((x_cd lf p0) + (k + 1))))] ⟨rfl, rfl, rfl, rfl, rfl, by rw [x_k1] <;> rfl, trivial⟩ ?_
        refine xg_eq rfl (ar' := (x_ua ar 5 (x_fg (ar 5) (fun i => ar 4 ((q * 256 + (x_cd lf p0 * 2 ^ p0 - lf) * 1 + (xx - tp) * 16) + i * (1 * 2 ^ p0))) (k + 1)))) ?_ rfl (ih (k + 1) (by omega) (by omega))
        rw [x_ua_ua, x_ua_at]
        refine congrArg _ (Eq.trans ?_ x_fgs)
        rw [show (nI ((x_cd lf p0) + k) - (upd (upd sc 15 (nI (x_cd lf p0))) 16 (nI (x_cd (lf + ww) p0 - 1))) 15).toNatClampNeg = k from by show (nI ((x_cd lf p0) + k) - nI (x_cd lf p0)).toNatClampNeg = k; rw [(show nI ((x_cd lf p0) + k) - nI (x_cd lf p0) = nI k by rw [pk_sub (by omega)]; congr 1; omega), nI_clamp (by omega)]]
        refine congrArg _ ?_
        show ar 4 _ = ar 4 _
        rw [x_ixr hp ga]
  have cont : x_G p l e (x_rm 5 108) s m args below meth c M_R_row ad D cI (x_A ad) 0 0 (x_Q below args s ad D cI (x_RP sc ar (x_ln fwd (sc 17) (ar 4) (q * 256 + (x_cd lf p0 * 2 ^ p0 - lf) * 1 + (xx - tp) * 16) (1 * 2 ^ p0) ((x_cd lf p0) : Int) (x_cd (lf + ww) p0 - x_cd lf p0)))) 74 [some (.ref (ad 7)), some (.int (nI q)), some (.int (nI xx)), some (.int (nI (2 ^ p0))), some (.int w), some (.int (nI ((x_cd lf p0) + (x_cd (lf + ww) p0 - x_cd lf p0))))] [] (upd (upd sc 15 (nI (x_cd lf p0))) 16 (nI (x_cd (lf + ww) p0 - 1))) (x_ua ar 5 (x_fg (ar 5) (fun i => ar 4 ((q * 256 + (x_cd lf p0 * 2 ^ p0 - lf) * 1 + (xx - tp) * 16) + i * (1 * 2 ^ p0))) (x_cd (lf + ww) p0 - x_cd lf p0))) := by
    refine xg_aload_n X (pc := 74) d_R_row_74 rfl ?_
    refine xg_iload X (pc := 75) d_R_row_75 rfl ?_
    refine xg_cvV1 X (pc := 77) d_R_row_77 (c_R_work hd (zI_nI _).symm (by show nI (x_cd (lf + ww) p0 - 1) = _; rw [← zI_nI]; congr 1; omega) (by omega) (by omega) hN) s_R_102 ⟨_, rfl⟩ rfl ⟨by decide, by decide⟩ (Nat.le_of_ble_eq_true rfl) ?_
    refine xg_aload_n X (pc := 80) d_R_row_80 rfl ?_
    refine xf_R_57 X (pc := 81) rfl d_R_row_81 ?_
    refine xg_istore X (pc := 84) d_R_row_84 (by decide) rfl ?_
    refine xg_weak [some (.ref (ad 7)), some (.int (nI q)), some (.int (nI xx)), some (.int (nI (2 ^ p0))), some (.int w), some (.int (nI ((x_cd lf p0) + 0)))] ⟨rfl, rfl, rfl, rfl, rfl, rfl, trivial⟩ ?_
    refine xg_eq rfl (ar' := (x_ua (x_ua (x_ua ar 5 (x_fg (ar 5) (fun i => ar 4 ((q * 256 + (x_cd lf p0 * 2 ^ p0 - lf) * 1 + (xx - tp) * 16) + i * (1 * 2 ^ p0))) (x_cd (lf + ww) p0 - x_cd lf p0))) 6 (x_fg (ar 6) (x_LF fwd (sc 17) (x_fg (ar 5) (fun i => ar 4 ((q * 256 + (x_cd lf p0 * 2 ^ p0 - lf) * 1 + (xx - tp) * 16) + i * (1 * 2 ^ p0))) (x_cd (lf + ww) p0 - x_cd lf p0)) ((x_cd lf p0) : Int) (((x_cd lf p0) : Int) + ((x_cd (lf + ww) p0 - x_cd lf p0) : Nat) - 1)) (x_cd (lf + ww) p0 - x_cd lf p0))) 4 (x_wr (ar 4) (x_fg (ar 6) (x_LF fwd (sc 17) (x_fg (ar 5) (fun i => ar 4 ((q * 256 + (x_cd lf p0 * 2 ^ p0 - lf) * 1 + (xx - tp) * 16) + i * (1 * 2 ^ p0))) (x_cd (lf + ww) p0 - x_cd lf p0)) ((x_cd lf p0) : Int) (((x_cd lf p0) : Int) + ((x_cd (lf + ww) p0 - x_cd lf p0) : Nat) - 1)) (x_cd (lf + ww) p0 - x_cd lf p0)) (q * 256 + (x_cd lf p0 * 2 ^ p0 - lf) * 1 + (xx - tp) * 16) (1 * 2 ^ p0) 0))) ?_ rfl (loop2 _ 0 (Nat.lt_succ_self _) (by omega))
    have e8 : (if w = 0 then x_fw (sc 17) (x_fg (ar 5) (fun i => ar 4 ((q * 256 + (x_cd lf p0 * 2 ^ p0 - lf) * 1 + (xx - tp) * 16) + i * (1 * 2 ^ p0))) (x_cd (lf + ww) p0 - x_cd lf p0)) ((x_cd lf p0) : Int) (((x_cd lf p0) : Int) + ((x_cd (lf + ww) p0 - x_cd lf p0) : Nat) - 1) else x_bw (sc 17) (x_fg (ar 5) (fun i => ar 4 ((q * 256 + (x_cd lf p0 * 2 ^ p0 - lf) * 1 + (xx - tp) * 16) + i * (1 * 2 ^ p0))) (x_cd (lf + ww) p0 - x_cd lf p0)) ((x_cd lf p0) : Int) (((x_cd lf p0) : Int) + ((x_cd (lf + ww) p0 - x_cd lf p0) : Nat) - 1)) = (x_LF fwd (sc 17) (x_fg (ar 5) (fun i => ar 4 ((q * 256 + (x_cd lf p0 * 2 ^ p0 - lf) * 1 + (xx - tp) * 16) + i * (1 * 2 ^ p0))) (x_cd (lf + ww) p0 - x_cd lf p0)) ((x_cd lf p0) : Int) (((x_cd lf p0) : Int) + ((x_cd (lf + ww) p0 - x_cd lf p0) : Nat) - 1)) := by
      unfold x_LF
      rcases hw with ⟨e5, e6⟩ | ⟨e5, e6⟩
      · rw [if_pos e5, e6, if_pos rfl]
      · rw [if_neg e5, e6, if_neg (by decide)]
    show x_ua (x_ua ar 5 (x_fg (ar 5) (fun i => ar 4 ((q * 256 + (x_cd lf p0 * 2 ^ p0 - lf) * 1 + (xx - tp) * 16) + i * (1 * 2 ^ p0))) (x_cd (lf + ww) p0 - x_cd lf p0))) 6 (x_fg (ar 6) (if w = 0 then x_fw (sc 17) (x_fg (ar 5) (fun i => ar 4 ((q * 256 + (x_cd lf p0 * 2 ^ p0 - lf) * 1 + (xx - tp) * 16) + i * (1 * 2 ^ p0))) (x_cd (lf + ww) p0 - x_cd lf p0)) ((x_cd lf p0) : Int) (((x_cd lf p0) : Int) + ((x_cd (lf + ww) p0 - x_cd lf p0) : Nat) - 1) else x_bw (sc 17) (x_fg (ar 5) (fun i => ar 4 ((q * 256 + (x_cd lf p0 * 2 ^ p0 - lf) * 1 + (xx - tp) * 16) + i * (1 * 2 ^ p0))) (x_cd (lf + ww) p0 - x_cd lf p0)) ((x_cd lf p0) : Int) (((x_cd lf p0) : Int) + ((x_cd (lf + ww) p0 - x_cd lf p0) : Nat) - 1)) (x_cd (lf + ww) p0 - x_cd lf p0)) = x_ua (x_ua (x_ua ar 5 (x_fg (ar 5) (fun i => ar 4 ((q * 256 + (x_cd lf p0 * 2 ^ p0 - lf) * 1 + (xx - tp) * 16) + i * (1 * 2 ^ p0))) (x_cd (lf + ww) p0 - x_cd lf p0))) 6 (x_fg (ar 6) (x_LF fwd (sc 17) (x_fg (ar 5) (fun i => ar 4 ((q * 256 + (x_cd lf p0 * 2 ^ p0 - lf) * 1 + (xx - tp) * 16) + i * (1 * 2 ^ p0))) (x_cd (lf + ww) p0 - x_cd lf p0)) ((x_cd lf p0) : Int) (((x_cd lf p0) : Int) + ((x_cd (lf + ww) p0 - x_cd lf p0) : Nat) - 1)) (x_cd (lf + ww) p0 - x_cd lf p0))) 4 (ar 4)
    rw [e8]
    exact (x_ua_id (ar := (x_ua (x_ua ar 5 (x_fg (ar 5) (fun i => ar 4 ((q * 256 + (x_cd lf p0 * 2 ^ p0 - lf) * 1 + (xx - tp) * 16) + i * (1 * 2 ^ p0))) (x_cd (lf + ww) p0 - x_cd lf p0))) 6 (x_fg (ar 6) (x_LF fwd (sc 17) (x_fg (ar 5) (fun i => ar 4 ((q * 256 + (x_cd lf p0 * 2 ^ p0 - lf) * 1 + (xx - tp) * 16) + i * (1 * 2 ^ p0))) (x_cd (lf + ww) p0 - x_cd lf p0)) ((x_cd lf p0) : Int) (((x_cd lf p0) : Int) + ((x_cd (lf + ww) p0 - x_cd lf p0) : Nat) - 1)) (x_cd (lf + ww) p0 - x_cd lf p0)))) (j := 4)).symm
  refine xg_aload_n X (pc := 0) d_R_row_0 rfl ?_
  refine xg_aload_n X (pc := 1) d_R_row_1 rfl ?_
  refine xf_R_26 X (pc := 2) rfl d_R_row_2 ?_
  refine xg_iload_n X (pc := 5) d_R_row_5 rfl ?_
  refine xg_crS2 X (pc := 6) d_R_row_6 (c_R_fromN hd h9 rfl (by omega) (by omega)) s_R_96 ⟨by decide, by decide⟩ (Nat.le_of_ble_eq_true rfl) ?_
  refine xp_R_57 X (pc := 9) rfl d_R_row_9 ?_
  refine xg_aload_n X (pc := 12) d_R_row_12 rfl ?_
  refine xg_aload_n X (pc := 13) d_R_row_13 rfl ?_
  refine xf_R_26 X (pc := 14) rfl d_R_row_14 ?_
  refine xg_aload_n X (pc := 17) d_R_row_17 rfl ?_
  refine xf_R_30 X (pc := 18) rfl d_R_row_18 ?_
  refine xg_iadd X (pc := 21) d_R_row_21 ?_
  refine xg_iload_n X (pc := 22) d_R_row_22 rfl ?_
  refine xg_crS2 X (pc := 23) d_R_row_23 (c_R_fromN hd (by show sc _ + sc _ = _; rw [h9, h11, nI_add]) rfl (by omega) (by omega)) s_R_96 ⟨by decide, by decide⟩ (Nat.le_of_ble_eq_true rfl) ?_
  refine xg_iconst X (pc := 26) (v := 1) d_R_row_26 (by decide) ?_
  refine xg_isub X (pc := 27) d_R_row_27 ?_
  refine xg_eq rfl rfl (st := [.int (nI (x_cd (lf + ww) p0 - 1)), .ref (ad 7)]) (by show [Value.int (nI _ - nI 1), _] = _; rw [pk_sub hB1]) ?_
  refine xp_R_60 X (pc := 28) rfl d_R_row_28 ?_
  refine xg_aload_n X (pc := 31) d_R_row_31 rfl ?_
  refine xf_R_57 X (pc := 32) rfl d_R_row_32 ?_
  refine xg_istore X (pc := 35) d_R_row_35 (by decide) rfl ?_
  refine xg_weak [some (.ref (ad 7)), some (.int (nI q)), some (.int (nI xx)), some (.int (nI (2 ^ p0))), some (.int w), some (.int (nI ((x_cd lf p0) + 0)))] ⟨rfl, rfl, rfl, rfl, rfl, rfl, trivial⟩ ?_
  exact xg_eq rfl (by rw [x_fg0, x_ua_id]) rfl (loop1 cont _ 0 (Nat.lt_succ_self _) (by omega))
end C12
