theorem x_stepN {d : Int32} {dd : Nat} (ed : d = nI dd) (h1 : 1 ≤ dd) (h4 : dd ≤ 4) : 2 * (1 : Int32) <<< ((d - 1) &&& 31) = nI (2 ^ dd) := by
  match dd, h1, h4 with
  | e + 1, _, h4 =>
    rw [x_scN (p := e) (by omega) (by rw [ed, nI_pred])]
    have : (2 : Int32) * nI (2 ^ e) = nI (2 * 2 ^ e) := pk_mul 2 (2 ^ e)
    rw [this, Nat.pow_succ, Nat.mul_comm]
theorem x_p24 {dd : Nat} (h4 : dd ≤ 4) : 2 ^ dd ≤ 16 := Nat.pow_le_pow_right (n := 2) (by decide) h4
theorem x_iremz {z : Int} {dd : Nat} (h4 : dd ≤ 4) (h1 : -100000 ≤ z) (h2 : z ≤ 100000) : zI z - zI z / nI (2 ^ dd) * nI (2 ^ dd) = 0 ↔ z % (2 ^ dd : Nat) = 0 := by
  have h16 := x_p24 h4
  rw [← Int32.toInt_inj, rem_toInt, zI_toInt z, nI_toInt (by omega)]
  show z.tmod _ = 0 ↔ _
  constructor
  · intro h
    exact Int.emod_eq_zero_of_dvd (Int.dvd_of_tmod_eq_zero h)
  · intro h
    exact Int.tmod_eq_zero_of_dvd (Int.dvd_of_emod_eq_zero h)
def x_cs (x t p : Nat) : Nat := x_cd (x - t) p
theorem x_cs_s0 {x t p : Nat} (ht : t < 2 ^ p) (h : ((x : Int) - t) % (2 ^ p : Nat) = 0) : x_cs (x + 1) t p = x_cs x t p + 1 := by
  unfold x_cs
  by_cases hx : t ≤ x
  · rw [Nat.sub_add_comm hx]
    refine (x_cd_s0 ?_).2
    have e : ((x - t : Nat) : Int) = (x : Int) - t := by omega
    rw [← e] at h
    have := Int.natCast_emod (x - t) (2 ^ p)
    omega
  · exfalso
    have h3 : ((x : Int) - t + (2 ^ p : Nat)) % (2 ^ p : Nat) = 0 := by rw [Int.add_emod_right]; exact h
    rw [Int.emod_eq_of_lt (by omega) (by omega)] at h3
    omega
theorem x_cs_s1 {x t p : Nat} (h : ¬ ((x : Int) - t) % (2 ^ p : Nat) = 0) : x_cs (x + 1) t p = x_cs x t p := by
  unfold x_cs
  by_cases hx : t ≤ x
  · rw [Nat.sub_add_comm hx]
    refine x_cd_s1 ?_
    intro h2
    apply h
    have e : ((x - t : Nat) : Int) = (x : Int) - t := by omega
    rw [← e]
    have := Int.natCast_emod (x - t) (2 ^ p)
    omega
  · rw [show x + 1 - t = 0 by omega, show x - t = 0 by omega]
theorem x_cs_mono {x y t p : Nat} (h : x ≤ y) : x_cs x t p ≤ x_cs y t p := x_cd_mono (by omega)
theorem x_cs_b {x t p : Nat} : x_cs x t p ≤ x := Nat.le_trans x_cdb (Nat.sub_le _ _)
abbrev x_bd (sc : Nat → Int32) (d o : Int32) : Prop := ¬ sc 8 = 0 ∧ ¬ d < 1 ∧ ¬ 4 < d ∧ (¬ o < 0 ∧ ¬ 3 < o)
abbrev x_DN (d o w : Int32) (dd t : Nat) : Prop := d = nI dd ∧ 1 ≤ dd ∧ dd ≤ 4 ∧ x_sh d o w = nI t ∧ t < 2 ^ dd
section C16
variable {l : Launch} {ad : Nat → Nat} {D : va_G} {cI : ClassId} {sc : Nat → Int32} {ar : Nat → Nat → Int32}
set_option maxRecDepth 100000 in
set_option maxHeartbeats 800000 in
theorem c_R_least (hd : x_dis ad) {d o w x3 : Int32} {dd t n0 : Nat} (hD : x_DN d o w dd t) (e3 : x3 = nI n0) (hn : n0 ≤ 2000) : x_Con l M_R_least 2 43 ad D cI [.int d, .int o, .int w, .int x3] sc ar (x_E (some (.int (nI (x_cs n0 t dd)))) sc ar) := by
  subst e3
  have h16 := x_p24 hD.2.2.1
  have ht := hD.2.2.2.2
  have hcb : x_cs n0 t dd ≤ n0 := x_cs_b
  have hsm : ∀ k, k ≤ x_cs n0 t dd → 2 ^ dd * k ≤ 16 * 3000 := by
    intro k hk
    exact Nat.mul_le_mul h16 (by omega)
  refine x_intro hd [some (.int d), some (.int o), some (.int w), some (.int (nI n0)), none, none] (by decide) (Nat.le_of_ble_eq_true rfl) rfl ?_
  intro p e s m args below meth c X
  have loop : ∀ n k : Nat, (x_cs n0 t dd) - k < n → k ≤ (x_cs n0 t dd) → x_G p l e (x_rm 2 43) s m args below meth c M_R_least ad D cI (x_A ad) 0 0 (x_Q below args s ad D cI (x_E (some (.int (nI (x_cs n0 t dd)))) sc ar)) 11 [some (.int d), some (.int o), some (.int w), some (.int (nI n0)), some (.int (nI (2 ^ dd))), some (.int (nI k))] [] sc ar := by
    intro n
    induction n with
    | zero => intro k h _; exact absurd h (Nat.not_lt_zero _)
    | succ n ih =>
      intro k hn hk
      refine xg_iload X (pc := 11) d_R_least_11 rfl ?_
      refine xg_iload X (pc := 13) d_R_least_13 rfl ?_
      refine xg_imul X (pc := 15) d_R_least_15 ?_
      refine xg_iload_n X (pc := 16) d_R_least_16 rfl ?_
      refine xg_iload_n X (pc := 17) d_R_least_17 rfl ?_
      refine xg_iload_n X (pc := 18) d_R_least_18 rfl ?_
      refine xg_crS3 X (pc := 19) d_R_least_19 (c_R_shift hd) s_R_126 ⟨by decide, by decide⟩ (Nat.le_of_ble_eq_true rfl) ?_
      refine xg_iadd X (pc := 22) d_R_least_22 ?_
      refine xg_iload_n X (pc := 23) d_R_least_23 rfl ?_
      refine xg_icmp_ge X (pc := 24) (tgt := 33) d_R_least_24 rfl (fun h24 => ?_) (fun h24 => ?_)
      · rw [hD.2.2.2.1, pk_mul, nI_add, nI_leI (by omega) (by have := hsm k hk; omega)] at h24
        have hk2 : k = x_cs n0 t dd := by
          have : x_cs n0 t dd ≤ k := x_cd_le.mpr (by rw [Nat.mul_comm]; omega)
          omega
        subst hk2
        refine xg_iload X (pc := 33) d_R_least_33 rfl ?_
        exact xg_iret X (pc := 35) d_R_least_35 rfl (rfl) (⟨rfl, rfl, rfl⟩)
      · rw [hD.2.2.2.1, pk_mul, nI_add, nI_leI (by omega) (by have := hsm k hk; omega)] at h24
        have hk3 : k < x_cs n0 t dd := x_cd_lt.mp (by rw [Nat.mul_comm]; omega)
        refine xg_iinc X (pc := 27) d_R_least_27 rfl (x_inc (by decide : Int32.ofInt (1) = 1) _) (by decide) rfl ?_
        refine xg_goto X (pc := 30) (tgt := 11) d_R_least_30 rfl ?_
        refine xg_weak [some (.int d), some (.int o), some (.int w), some (.int (nI n0)), some (.int (nI (2 ^ dd))), some (.int (nI (k + 1)))] ⟨rfl, rfl, rfl, rfl, rfl, by rw [← x_k1], trivial⟩ ?_
        exact ih (k + 1) (by omega) (by omega)
  refine xg_iconst X (pc := 0) (v := 2) d_R_least_0 (by decide) ?_
  refine xg_iload_n X (pc := 1) d_R_least_1 rfl ?_
  refine xg_crS1 X (pc := 2) d_R_least_2 (c_R_scale hd) s_R_113 ⟨by decide, by decide⟩ (Nat.le_of_ble_eq_true rfl) ?_
  refine xg_imul X (pc := 5) d_R_least_5 ?_
  refine xg_istore X (pc := 6) d_R_least_6 (by decide) rfl ?_
  refine xg_iconst X (pc := 8) (v := 0) d_R_least_8 (by decide) ?_
  refine xg_istore X (pc := 9) d_R_least_9 (by decide) rfl ?_
  refine xg_weak [some (.int d), some (.int o), some (.int w), some (.int (nI n0)), some (.int (nI (2 ^ dd))), some (.int (nI 0))] ⟨rfl, rfl, rfl, rfl, by rw [x_stepN hD.1 hD.2.1 hD.2.2.1], rfl, trivial⟩ ?_
  exact loop (x_cs n0 t dd + 1) 0 (by omega) (by omega)
set_option maxRecDepth 100000 in
set_option maxHeartbeats 800000 in
theorem c_R_start (hd : x_dis ad) {d o w : Int32} {dd t lf tp : Nat} (hc : x_bd sc d o → x_DN d o w dd t ∧ sc 9 = nI lf ∧ sc 10 = nI tp ∧ lf ≤ 1000 ∧ tp ≤ 1000) : x_Con l M_R_start 3 68 ad D cI [.ref (ad 7), .int d, .int o, .int w] sc ar (x_E (some (.int (if x_bd sc d o then (if w = 0 then nI (x_cs lf t dd) else nI (x_cs tp t dd)) else -1))) sc ar) := by
  refine x_intro hd [some (.ref (ad 7)), some (.int d), some (.int o), some (.int w)] (by decide) (Nat.le_of_ble_eq_true rfl) rfl ?_
  intro p e s m args below meth c X
  refine xg_aload_n X (pc := 0) d_R_start_0 rfl ?_
  refine xf_R_22 X (pc := 1) rfl d_R_start_1 ?_
  refine xg_if_eq X (pc := 4) (tgt := 24) d_R_start_4 rfl (fun h4 => ?_) (fun h4 => ?_)
  · clear hc
    refine xg_iconst X (pc := 24) (v := -1) d_R_start_24 (by decide) ?_
    refine xg_goto X (pc := 25) (tgt := 49) d_R_start_25 rfl ?_
    exact xg_iret X (pc := 49) d_R_start_49 rfl (rfl) (⟨by (try clear hc); (try clear hD); (try clear h9x); (try clear h10x); (repeat' split) <;> first | rfl | (exfalso; simp_all [x_bd]), rfl, rfl⟩)
  · refine xg_iload_n X (pc := 7) d_R_start_7 rfl ?_
    refine xg_iconst X (pc := 8) (v := 1) d_R_start_8 (by decide) ?_
    refine xg_icmp_lt X (pc := 9) (tgt := 24) d_R_start_9 rfl (fun h9 => ?_) (fun h9 => ?_)
    · clear hc
      refine xg_iconst X (pc := 24) (v := -1) d_R_start_24 (by decide) ?_
      refine xg_goto X (pc := 25) (tgt := 49) d_R_start_25 rfl ?_
      exact xg_iret X (pc := 49) d_R_start_49 rfl (rfl) (⟨by (try clear hc); (try clear hD); (try clear h9x); (try clear h10x); (repeat' split) <;> first | rfl | (exfalso; simp_all [x_bd]), rfl, rfl⟩)
    · refine xg_iload_n X (pc := 12) d_R_start_12 rfl ?_
      refine xg_iconst X (pc := 13) (v := 4) d_R_start_13 (by decide) ?_
      refine xg_icmp_gt X (pc := 14) (tgt := 24) d_R_start_14 rfl (fun h14 => ?_) (fun h14 => ?_)
      · clear hc
        refine xg_iconst X (pc := 24) (v := -1) d_R_start_24 (by decide) ?_
        refine xg_goto X (pc := 25) (tgt := 49) d_R_start_25 rfl ?_
        exact xg_iret X (pc := 49) d_R_start_49 rfl (rfl) (⟨by (try clear hc); (try clear hD); (try clear h9x); (try clear h10x); (repeat' split) <;> first | rfl | (exfalso; simp_all [x_bd]), rfl, rfl⟩)
      · refine xg_iload_n X (pc := 17) d_R_start_17 rfl ?_
        refine xg_crS1 X (pc := 18) d_R_start_18 (c_R_isBand hd) s_R_130 ⟨by decide, by decide⟩ (Nat.le_of_ble_eq_true rfl) ?_
        refine xg_if_ne X (pc := 21) (tgt := 28) d_R_start_21 rfl (fun h21 => ?_) (fun h21 => ?_)
        · replace h21 := x_bn h21
          refine xg_iload_n X (pc := 28) d_R_start_28 rfl ?_
          refine xg_iload_n X (pc := 29) d_R_start_29 rfl ?_
          refine xg_iload_n X (pc := 30) d_R_start_30 rfl ?_
          refine xg_iload_n X (pc := 31) d_R_start_31 rfl ?_
          refine xg_if_eq X (pc := 32) (tgt := 42) d_R_start_32 rfl (fun h32 => ?_) (fun h32 => ?_)
          · obtain ⟨hD, h9x, h10x, b1, b2⟩ := hc ⟨h4, h9, h14, h21⟩
            refine xg_aload_n X (pc := 42) d_R_start_42 rfl ?_
            refine xf_R_26 X (pc := 43) rfl d_R_start_43 ?_
            refine xg_crS4 X (pc := 46) d_R_start_46 (c_R_least hd hD (by first | exact h9x | exact h10x) (by omega)) s_R_133 ⟨by decide, by decide⟩ (Nat.le_of_ble_eq_true rfl) ?_
            exact xg_iret X (pc := 49) d_R_start_49 rfl (rfl) (⟨by (try clear hc); (try clear hD); (try clear h9x); (try clear h10x); (repeat' split) <;> first | rfl | (exfalso; simp_all [x_bd]), rfl, rfl⟩)
          · obtain ⟨hD, h9x, h10x, b1, b2⟩ := hc ⟨h4, h9, h14, h21⟩
            refine xg_aload_n X (pc := 35) d_R_start_35 rfl ?_
            refine xf_R_33 X (pc := 36) rfl d_R_start_36 ?_
            refine xg_goto X (pc := 39) (tgt := 46) d_R_start_39 rfl ?_
            refine xg_crS4 X (pc := 46) d_R_start_46 (c_R_least hd hD (by first | exact h9x | exact h10x) (by omega)) s_R_133 ⟨by decide, by decide⟩ (Nat.le_of_ble_eq_true rfl) ?_
            exact xg_iret X (pc := 49) d_R_start_49 rfl (rfl) (⟨by (try clear hc); (try clear hD); (try clear h9x); (try clear h10x); (repeat' split) <;> first | rfl | (exfalso; simp_all [x_bd]), rfl, rfl⟩)
        · replace h21 := x_b0 h21
          clear hc
          refine xg_iconst X (pc := 24) (v := -1) d_R_start_24 (by decide) ?_
          refine xg_goto X (pc := 25) (tgt := 49) d_R_start_25 rfl ?_
          exact xg_iret X (pc := 49) d_R_start_49 rfl (rfl) (⟨by (try clear hc); (try clear hD); (try clear h9x); (try clear h10x); (repeat' split) <;> first | rfl | (exfalso; simp_all [x_bd]), rfl, rfl⟩)
set_option maxRecDepth 100000 in
set_option maxHeartbeats 800000 in
theorem c_R_size (hd : x_dis ad) {d o w : Int32} {dd t lf tp ww hh : Nat} (hc : x_bd sc d o → x_DN d o w dd t ∧ sc 9 = nI lf ∧ sc 10 = nI tp ∧ sc 11 = nI ww ∧ sc 12 = nI hh ∧ lf ≤ 1000 ∧ tp ≤ 1000 ∧ ww ≤ 16 ∧ hh ≤ 16) : x_Con l M_R_size 2 43 ad D cI [.ref (ad 7), .int d, .int o, .int w] sc ar (x_E (some (.int (if x_bd sc d o then (if w = 0 then nI (x_cs (lf + ww) t dd - x_cs lf t dd) else nI (x_cs (tp + hh) t dd - x_cs tp t dd)) else -1))) sc ar) := by
  refine x_intro hd [some (.ref (ad 7)), some (.int d), some (.int o), some (.int w), none, none, none] (by decide) (Nat.le_of_ble_eq_true rfl) rfl ?_
  intro p e s m args below meth c X
  have loop0 : w = 0 → x_bd sc d o → ∀ n k : Nat, ww - k < n → k ≤ ww → x_G p l e (x_rm 2 43) s m args below meth c M_R_size ad D cI (x_A ad) 0 0 (x_Q below args s ad D cI (x_E (some (.int (if x_bd sc d o then (if w = 0 then nI (x_cs (lf + ww) t dd - x_cs lf t dd) else nI (x_cs (tp + hh) t dd - x_cs tp t dd)) else -1))) sc ar)) 32 [some (.ref (ad 7)), some (.int d), some (.int o), some (.int w), some (.int (nI (x_cs (lf + k) t dd - x_cs lf t dd))), some (.int (nI k)), none] [] sc ar := by
    intro hw hbd n
    obtain ⟨hD, g9, g10, g11, g12, b1, b2, b3, b4⟩ := hc hbd
    have ht := hD.2.2.2.2
    have h16 := x_p24 hD.2.2.1
    induction n with
    | zero => intro k h _; exact absurd h (Nat.not_lt_zero _)
    | succ n ih =>
      intro k hn hk
      refine xg_iload X (pc := 32) d_R_size_32 rfl ?_
      refine xg_iload_n X (pc := 34) d_R_size_34 rfl ?_
      refine xg_if_eq X (pc := 35) (tgt := 45) d_R_size_35 rfl (fun h35 => ?_) (fun h35 => ?_)
      · refine xg_aload_n X (pc := 45) d_R_size_45 rfl ?_
        refine xf_R_30 X (pc := 46) rfl d_R_size_46 ?_
        refine xg_icmp_ge X (pc := 49) (tgt := 108) d_R_size_49 rfl (fun h49 => ?_) (fun h49 => ?_)
        · rw [g11, nI_leI (by omega) (by omega)] at h49
          have hk2 : k = ww := by omega
          subst hk2
          refine xg_iload X (pc := 108) d_R_size_108 rfl ?_
          exact xg_iret X (pc := 110) d_R_size_110 rfl (rfl) (⟨by rw [if_pos hbd, if_pos hw], rfl, rfl⟩)
        · rw [g11, nI_leI (by omega) (by omega)] at h49
          refine xg_iload_n X (pc := 52) d_R_size_52 rfl ?_
          refine xg_if_eq X (pc := 53) (tgt := 63) d_R_size_53 rfl (fun h53 => ?_) (fun h53 => ?_)
          · refine xg_aload_n X (pc := 63) d_R_size_63 rfl ?_
            refine xf_R_26 X (pc := 64) rfl d_R_size_64 ?_
            refine xg_iload X (pc := 67) d_R_size_67 rfl ?_
            refine xg_iadd X (pc := 69) d_R_size_69 ?_
            refine xg_iload_n X (pc := 70) d_R_size_70 rfl ?_
            refine xg_iload_n X (pc := 71) d_R_size_71 rfl ?_
            refine xg_iload_n X (pc := 72) d_R_size_72 rfl ?_
            refine xg_crS3 X (pc := 73) d_R_size_73 (c_R_shift hd) s_R_126 ⟨by decide, by decide⟩ (Nat.le_of_ble_eq_true rfl) ?_
            refine xg_isub X (pc := 76) d_R_size_76 ?_
            refine xg_istore X (pc := 77) d_R_size_77 (by decide) rfl ?_
            refine xg_iload X (pc := 79) d_R_size_79 rfl ?_
            refine xg_iconst X (pc := 81) (v := 2) d_R_size_81 (by decide) ?_
            refine xg_iload_n X (pc := 82) d_R_size_82 rfl ?_
            refine xg_crS1 X (pc := 83) d_R_size_83 (c_R_scale hd) s_R_113 ⟨by decide, by decide⟩ (Nat.le_of_ble_eq_true rfl) ?_
            refine xg_imul X (pc := 86) d_R_size_86 ?_
            refine xg_irem X (pc := 87) d_R_size_87 (by rw [x_stepN hD.1 hD.2.1 hD.2.2.1]; exact x_pne hD.2.2.1) ?_
            refine xg_if_ne X (pc := 88) (tgt := 98) d_R_size_88 rfl (fun h88 => ?_) (fun h88 => ?_)
            · rw [g9, hD.2.2.2.1, nI_add, x_stepN hD.1 hD.2.1 hD.2.2.1, ← zI_nI, ← zI_nI, zI_sub, x_iremz hD.2.2.1 (by omega) (by omega)] at h88
              have hm9 := x_cs_mono (x := lf) (y := lf + k) (t := t) (p := dd) (by omega)
              refine xg_iload X (pc := 98) d_R_size_98 rfl ?_
              refine xg_istore X (pc := 100) d_R_size_100 (by decide) rfl ?_
              refine xg_weak [some (.ref (ad 7)), some (.int d), some (.int o), some (.int w), some (.int (nI (x_cs (lf + (k + 1)) t dd - x_cs lf t dd))), some (.int (nI k)), none] ⟨rfl, rfl, rfl, rfl, congrArg (fun v => some (Value.int v)) (by rw [← Nat.add_assoc, x_cs_s1 (by push_cast; exact h88)]), rfl, trivial⟩ ?_
              refine xg_iinc X (pc := 102) d_R_size_102 rfl (x_inc (by decide : Int32.ofInt (1) = 1) _) (by decide) rfl ?_
              refine xg_goto X (pc := 105) (tgt := 32) d_R_size_105 rfl ?_
              refine xg_weak [some (.ref (ad 7)), some (.int d), some (.int o), some (.int w), some (.int (nI (x_cs (lf + (k + 1)) t dd - x_cs lf t dd))), some (.int (nI (k + 1))), none] ⟨rfl, rfl, rfl, rfl, rfl, by rw [← x_k1], trivial⟩ ?_
              exact ih (k + 1) (by omega) (by omega)
            · rw [g9, hD.2.2.2.1, nI_add, x_stepN hD.1 hD.2.1 hD.2.2.1, ← zI_nI, ← zI_nI, zI_sub, x_iremz hD.2.2.1 (by omega) (by omega)] at h88
              have hm9 := x_cs_mono (x := lf) (y := lf + k) (t := t) (p := dd) (by omega)
              refine xg_iload X (pc := 91) d_R_size_91 rfl ?_
              refine xg_iconst X (pc := 93) (v := 1) d_R_size_93 (by decide) ?_
              refine xg_iadd X (pc := 94) d_R_size_94 ?_
              refine xg_goto X (pc := 95) (tgt := 100) d_R_size_95 rfl ?_
              refine xg_istore X (pc := 100) d_R_size_100 (by decide) rfl ?_
              refine xg_weak [some (.ref (ad 7)), some (.int d), some (.int o), some (.int w), some (.int (nI (x_cs (lf + (k + 1)) t dd - x_cs lf t dd))), some (.int (nI k)), none] ⟨rfl, rfl, rfl, rfl, congrArg (fun v => some (Value.int v)) (by rw [← Nat.add_assoc, x_cs_s0 hD.2.2.2.2 (by push_cast; exact h88), show x_cs (lf + k) t dd + 1 - x_cs lf t dd = (x_cs (lf + k) t dd - x_cs lf t dd) + 1 by omega, x_k1]), rfl, trivial⟩ ?_
              refine xg_iinc X (pc := 102) d_R_size_102 rfl (x_inc (by decide : Int32.ofInt (1) = 1) _) (by decide) rfl ?_
              refine xg_goto X (pc := 105) (tgt := 32) d_R_size_105 rfl ?_
              refine xg_weak [some (.ref (ad 7)), some (.int d), some (.int o), some (.int w), some (.int (nI (x_cs (lf + (k + 1)) t dd - x_cs lf t dd))), some (.int (nI (k + 1))), none] ⟨rfl, rfl, rfl, rfl, rfl, by rw [← x_k1], trivial⟩ ?_
              exact ih (k + 1) (by omega) (by omega)
          · exact absurd hw h53
      · exact absurd hw h35
  have loop1 : ¬ w = 0 → x_bd sc d o → ∀ n k : Nat, hh - k < n → k ≤ hh → x_G p l e (x_rm 2 43) s m args below meth c M_R_size ad D cI (x_A ad) 0 0 (x_Q below args s ad D cI (x_E (some (.int (if x_bd sc d o then (if w = 0 then nI (x_cs (lf + ww) t dd - x_cs lf t dd) else nI (x_cs (tp + hh) t dd - x_cs tp t dd)) else -1))) sc ar)) 32 [some (.ref (ad 7)), some (.int d), some (.int o), some (.int w), some (.int (nI (x_cs (tp + k) t dd - x_cs tp t dd))), some (.int (nI k)), none] [] sc ar := by
    intro hw hbd n
    obtain ⟨hD, g9, g10, g11, g12, b1, b2, b3, b4⟩ := hc hbd
    have ht := hD.2.2.2.2
    have h16 := x_p24 hD.2.2.1
    induction n with
    | zero => intro k h _; exact absurd h (Nat.not_lt_zero _)
    | succ n ih =>
      intro k hn hk
      refine xg_iload X (pc := 32) d_R_size_32 rfl ?_
      refine xg_iload_n X (pc := 34) d_R_size_34 rfl ?_
      refine xg_if_eq X (pc := 35) (tgt := 45) d_R_size_35 rfl (fun h35 => ?_) (fun h35 => ?_)
      · exact absurd h35 hw
      · refine xg_aload_n X (pc := 38) d_R_size_38 rfl ?_
        refine xf_R_36 X (pc := 39) rfl d_R_size_39 ?_
        refine xg_goto X (pc := 42) (tgt := 49) d_R_size_42 rfl ?_
        refine xg_icmp_ge X (pc := 49) (tgt := 108) d_R_size_49 rfl (fun h49 => ?_) (fun h49 => ?_)
        · rw [g12, nI_leI (by omega) (by omega)] at h49
          have hk2 : k = hh := by omega
          subst hk2
          refine xg_iload X (pc := 108) d_R_size_108 rfl ?_
          exact xg_iret X (pc := 110) d_R_size_110 rfl (rfl) (⟨by rw [if_pos hbd, if_neg hw], rfl, rfl⟩)
        · rw [g12, nI_leI (by omega) (by omega)] at h49
          refine xg_iload_n X (pc := 52) d_R_size_52 rfl ?_
          refine xg_if_eq X (pc := 53) (tgt := 63) d_R_size_53 rfl (fun h53 => ?_) (fun h53 => ?_)
          · exact absurd h53 hw
          · refine xg_aload_n X (pc := 56) d_R_size_56 rfl ?_
            refine xf_R_33 X (pc := 57) rfl d_R_size_57 ?_
            refine xg_goto X (pc := 60) (tgt := 67) d_R_size_60 rfl ?_
            refine xg_iload X (pc := 67) d_R_size_67 rfl ?_
            refine xg_iadd X (pc := 69) d_R_size_69 ?_
            refine xg_iload_n X (pc := 70) d_R_size_70 rfl ?_
            refine xg_iload_n X (pc := 71) d_R_size_71 rfl ?_
            refine xg_iload_n X (pc := 72) d_R_size_72 rfl ?_
            refine xg_crS3 X (pc := 73) d_R_size_73 (c_R_shift hd) s_R_126 ⟨by decide, by decide⟩ (Nat.le_of_ble_eq_true rfl) ?_
            refine xg_isub X (pc := 76) d_R_size_76 ?_
            refine xg_istore X (pc := 77) d_R_size_77 (by decide) rfl ?_
            refine xg_iload X (pc := 79) d_R_size_79 rfl ?_
            refine xg_iconst X (pc := 81) (v := 2) d_R_size_81 (by decide) ?_
            refine xg_iload_n X (pc := 82) d_R_size_82 rfl ?_
            refine xg_crS1 X (pc := 83) d_R_size_83 (c_R_scale hd) s_R_113 ⟨by decide, by decide⟩ (Nat.le_of_ble_eq_true rfl) ?_
            refine xg_imul X (pc := 86) d_R_size_86 ?_
            refine xg_irem X (pc := 87) d_R_size_87 (by rw [x_stepN hD.1 hD.2.1 hD.2.2.1]; exact x_pne hD.2.2.1) ?_
            refine xg_if_ne X (pc := 88) (tgt := 98) d_R_size_88 rfl (fun h88 => ?_) (fun h88 => ?_)
            · rw [g10, hD.2.2.2.1, nI_add, x_stepN hD.1 hD.2.1 hD.2.2.1, ← zI_nI, ← zI_nI, zI_sub, x_iremz hD.2.2.1 (by omega) (by omega)] at h88
              have hm9 := x_cs_mono (x := tp) (y := tp + k) (t := t) (p := dd) (by omega)
              refine xg_iload X (pc := 98) d_R_size_98 rfl ?_
              refine xg_istore X (pc := 100) d_R_size_100 (by decide) rfl ?_
              refine xg_weak [some (.ref (ad 7)), some (.int d), some (.int o), some (.int w), some (.int (nI (x_cs (tp + (k + 1)) t dd - x_cs tp t dd))), some (.int (nI k)), none] ⟨rfl, rfl, rfl, rfl, congrArg (fun v => some (Value.int v)) (by rw [← Nat.add_assoc, x_cs_s1 (by push_cast; exact h88)]), rfl, trivial⟩ ?_
              refine xg_iinc X (pc := 102) d_R_size_102 rfl (x_inc (by decide : Int32.ofInt (1) = 1) _) (by decide) rfl ?_
              refine xg_goto X (pc := 105) (tgt := 32) d_R_size_105 rfl ?_
              refine xg_weak [some (.ref (ad 7)), some (.int d), some (.int o), some (.int w), some (.int (nI (x_cs (tp + (k + 1)) t dd - x_cs tp t dd))), some (.int (nI (k + 1))), none] ⟨rfl, rfl, rfl, rfl, rfl, by rw [← x_k1], trivial⟩ ?_
              exact ih (k + 1) (by omega) (by omega)
            · rw [g10, hD.2.2.2.1, nI_add, x_stepN hD.1 hD.2.1 hD.2.2.1, ← zI_nI, ← zI_nI, zI_sub, x_iremz hD.2.2.1 (by omega) (by omega)] at h88
              have hm9 := x_cs_mono (x := tp) (y := tp + k) (t := t) (p := dd) (by omega)
              refine xg_iload X (pc := 91) d_R_size_91 rfl ?_
              refine xg_iconst X (pc := 93) (v := 1) d_R_size_93 (by decide) ?_
              refine xg_iadd X (pc := 94) d_R_size_94 ?_
              refine xg_goto X (pc := 95) (tgt := 100) d_R_size_95 rfl ?_
              refine xg_istore X (pc := 100) d_R_size_100 (by decide) rfl ?_
              refine xg_weak [some (.ref (ad 7)), some (.int d), some (.int o), some (.int w), some (.int (nI (x_cs (tp + (k + 1)) t dd - x_cs tp t dd))), some (.int (nI k)), none] ⟨rfl, rfl, rfl, rfl, congrArg (fun v => some (Value.int v)) (by rw [← Nat.add_assoc, x_cs_s0 hD.2.2.2.2 (by push_cast; exact h88), show x_cs (tp + k) t dd + 1 - x_cs tp t dd = (x_cs (tp + k) t dd - x_cs tp t dd) + 1 by omega, x_k1]), rfl, trivial⟩ ?_
              refine xg_iinc X (pc := 102) d_R_size_102 rfl (x_inc (by decide : Int32.ofInt (1) = 1) _) (by decide) rfl ?_
              refine xg_goto X (pc := 105) (tgt := 32) d_R_size_105 rfl ?_
              refine xg_weak [some (.ref (ad 7)), some (.int d), some (.int o), some (.int w), some (.int (nI (x_cs (tp + (k + 1)) t dd - x_cs tp t dd))), some (.int (nI (k + 1))), none] ⟨rfl, rfl, rfl, rfl, rfl, by rw [← x_k1], trivial⟩ ?_
              exact ih (k + 1) (by omega) (by omega)
  refine xg_aload_n X (pc := 0) d_R_size_0 rfl ?_
  refine xf_R_22 X (pc := 1) rfl d_R_size_1 ?_
  refine xg_if_eq X (pc := 4) (tgt := 24) d_R_size_4 rfl (fun h4 => ?_) (fun h4 => ?_)
  · refine xg_iconst X (pc := 24) (v := -1) d_R_size_24 (by decide) ?_
    exact xg_iret X (pc := 25) d_R_size_25 rfl (rfl) (⟨by rw [if_neg (by clear hc loop0 loop1; simp_all [x_bd])], rfl, rfl⟩)
  · refine xg_iload_n X (pc := 7) d_R_size_7 rfl ?_
    refine xg_iconst X (pc := 8) (v := 1) d_R_size_8 (by decide) ?_
    refine xg_icmp_lt X (pc := 9) (tgt := 24) d_R_size_9 rfl (fun h9 => ?_) (fun h9 => ?_)
    · refine xg_iconst X (pc := 24) (v := -1) d_R_size_24 (by decide) ?_
      exact xg_iret X (pc := 25) d_R_size_25 rfl (rfl) (⟨by rw [if_neg (by clear hc loop0 loop1; simp_all [x_bd])], rfl, rfl⟩)
    · refine xg_iload_n X (pc := 12) d_R_size_12 rfl ?_
      refine xg_iconst X (pc := 13) (v := 4) d_R_size_13 (by decide) ?_
      refine xg_icmp_gt X (pc := 14) (tgt := 24) d_R_size_14 rfl (fun h14 => ?_) (fun h14 => ?_)
      · refine xg_iconst X (pc := 24) (v := -1) d_R_size_24 (by decide) ?_
        exact xg_iret X (pc := 25) d_R_size_25 rfl (rfl) (⟨by rw [if_neg (by clear hc loop0 loop1; simp_all [x_bd])], rfl, rfl⟩)
      · refine xg_iload_n X (pc := 17) d_R_size_17 rfl ?_
        refine xg_crS1 X (pc := 18) d_R_size_18 (c_R_isBand hd) s_R_130 ⟨by decide, by decide⟩ (Nat.le_of_ble_eq_true rfl) ?_
        refine xg_if_ne X (pc := 21) (tgt := 26) d_R_size_21 rfl (fun h21 => ?_) (fun h21 => ?_)
        · replace h21 := x_bn h21
          refine xg_iconst X (pc := 26) (v := 0) d_R_size_26 (by decide) ?_
          refine xg_istore X (pc := 27) d_R_size_27 (by decide) rfl ?_
          refine xg_iconst X (pc := 29) (v := 0) d_R_size_29 (by decide) ?_
          refine xg_istore X (pc := 30) d_R_size_30 (by decide) rfl ?_
          by_cases hw : w = 0
          · refine xg_weak [some (.ref (ad 7)), some (.int d), some (.int o), some (.int w), some (.int (nI (x_cs (lf + 0) t dd - x_cs lf t dd))), some (.int (nI 0)), none] ⟨rfl, rfl, rfl, rfl, by rw [Nat.add_zero, Nat.sub_self]; rfl, rfl, trivial⟩ ?_
            exact loop0 hw ⟨h4, h9, h14, h21⟩ _ 0 (Nat.lt_succ_self _) (by omega)
          · refine xg_weak [some (.ref (ad 7)), some (.int d), some (.int o), some (.int w), some (.int (nI (x_cs (tp + 0) t dd - x_cs tp t dd))), some (.int (nI 0)), none] ⟨rfl, rfl, rfl, rfl, by rw [Nat.add_zero, Nat.sub_self]; rfl, rfl, trivial⟩ ?_
            exact loop1 hw ⟨h4, h9, h14, h21⟩ _ 0 (Nat.lt_succ_self _) (by omega)
        · replace h21 := x_b0 h21
          refine xg_iconst X (pc := 24) (v := -1) d_R_size_24 (by decide) ?_
          exact xg_iret X (pc := 25) d_R_size_25 rfl (rfl) (⟨by rw [if_neg (by clear hc loop0 loop1; simp_all [x_bd])], rfl, rfl⟩)
abbrev x_rX (d o u : Int32) : Int64 := (2 * ((1 : Int32) <<< ((d - 1) &&& 31)).toInt64 * u.toInt64 + (x_sh d o 0).toInt64)
abbrev x_rY (d o v : Int32) : Int64 := (2 * ((1 : Int32) <<< ((d - 1) &&& 31)).toInt64 * v.toInt64 + (x_sh d o 1).toInt64)
set_option maxRecDepth 100000 in
set_option maxHeartbeats 800000 in
theorem c_R_coefficient (hd : x_dis ad) {pl d o u v : Int32} (hx : ∀ u v : Int32, (¬ pl < 0 ∧ ¬ 2 < pl) ∧ x_rp sc u v → vp_in (x_rc sc pl u v) 768) : x_Con l M_R_coefficient 2 46 ad D cI [.ref (ad 7), .int pl, .int d, .int o, .int u, .int v] sc ar (x_E (some (.int (if (¬ d < 1 ∧ ¬ sc 14 < d) ∧ (¬ o < 0 ∧ ¬ 3 < o) ∧ (¬ pl < 0 ∧ ¬ 2 < pl) then (if ¬ lg_cmp (x_rX d o u) 0 < 0 ∧ ¬ 0 < lg_cmp (x_rX d o u) 2000 ∧ ¬ lg_cmp (x_rY d o v) 0 < 0 ∧ lg_cmp (x_rY d o v) 2000 ≤ 0 then (if (¬ pl < 0 ∧ ¬ 2 < pl) ∧ x_rp sc (x_rX d o u).toInt32 (x_rY d o v).toInt32 then ar 4 (x_rc sc pl (x_rX d o u).toInt32 (x_rY d o v).toInt32).toNatClampNeg else 0) else 0) else 0))) sc ar) := by
  refine x_intro hd [some (.ref (ad 7)), some (.int pl), some (.int d), some (.int o), some (.int u), some (.int v), none, none, none, none, none] (by decide) (Nat.le_of_ble_eq_true rfl) rfl ?_
  intro p e s m args below meth c X
  refine xg_aload_n X (pc := 0) d_R_coefficient_0 rfl ?_
  refine xg_iload_n X (pc := 1) d_R_coefficient_1 rfl ?_
  refine xg_crV1 X (pc := 2) d_R_coefficient_2 (c_R_isLevel hd) s_R_123 ⟨_, rfl⟩ rfl ⟨by decide, by decide⟩ (Nat.le_of_ble_eq_true rfl) ?_
  refine xg_if_eq X (pc := 5) (tgt := 22) d_R_coefficient_5 rfl (fun h5 => ?_) (fun h5 => ?_)
  · replace h5 := x_b0 h5
    refine xg_iconst X (pc := 22) (v := 0) d_R_coefficient_22 (by decide) ?_
    exact xg_iret X (pc := 23) d_R_coefficient_23 rfl (rfl) (⟨congrArg (fun v => some (Value.int v)) (if_neg (fun q => h5 q.1)).symm, rfl, rfl⟩)
  · replace h5 := x_bn h5
    refine xg_iload_n X (pc := 8) d_R_coefficient_8 rfl ?_
    refine xg_crS1 X (pc := 9) d_R_coefficient_9 (c_R_isBand hd) s_R_130 ⟨by decide, by decide⟩ (Nat.le_of_ble_eq_true rfl) ?_
    refine xg_if_eq X (pc := 12) (tgt := 22) d_R_coefficient_12 rfl (fun h12 => ?_) (fun h12 => ?_)
    · replace h12 := x_b0 h12
      refine xg_iconst X (pc := 22) (v := 0) d_R_coefficient_22 (by decide) ?_
      exact xg_iret X (pc := 23) d_R_coefficient_23 rfl (rfl) (⟨congrArg (fun v => some (Value.int v)) (if_neg (fun q => h12 q.2.1)).symm, rfl, rfl⟩)
    · replace h12 := x_bn h12
      refine xg_iload_n X (pc := 15) d_R_coefficient_15 rfl ?_
      refine xg_crS1 X (pc := 16) d_R_coefficient_16 (c_R_isPlane hd) s_R_45 ⟨by decide, by decide⟩ (Nat.le_of_ble_eq_true rfl) ?_
      refine xg_if_ne X (pc := 19) (tgt := 24) d_R_coefficient_19 rfl (fun h19 => ?_) (fun h19 => ?_)
      · replace h19 := x_bn h19
        refine xg_ldc2 X (pc := 24) (v := 2) d_R_coefficient_24 (by decide +kernel) ?_
        refine xg_iload_n X (pc := 27) d_R_coefficient_27 rfl ?_
        refine xg_crS1 X (pc := 28) d_R_coefficient_28 (c_R_scale hd) s_R_113 ⟨by decide, by decide⟩ (Nat.le_of_ble_eq_true rfl) ?_
        refine xg_i2l X (pc := 31) d_R_coefficient_31 ?_
        refine xg_lmul X (pc := 32) d_R_coefficient_32 ?_
        refine xg_iload X (pc := 33) d_R_coefficient_33 rfl ?_
        refine xg_i2l X (pc := 35) d_R_coefficient_35 ?_
        refine xg_lmul X (pc := 36) d_R_coefficient_36 ?_
        refine xg_iload_n X (pc := 37) d_R_coefficient_37 rfl ?_
        refine xg_iload_n X (pc := 38) d_R_coefficient_38 rfl ?_
        refine xg_iconst X (pc := 39) (v := 0) d_R_coefficient_39 (by decide) ?_
        refine xg_crS3 X (pc := 40) d_R_coefficient_40 (c_R_shift hd) s_R_126 ⟨by decide, by decide⟩ (Nat.le_of_ble_eq_true rfl) ?_
        refine xg_i2l X (pc := 43) d_R_coefficient_43 ?_
        refine xg_ladd X (pc := 44) d_R_coefficient_44 ?_
        refine xg_lstore X (pc := 45) d_R_coefficient_45 (by decide) rfl ?_
        refine xg_ldc2 X (pc := 47) (v := 2) d_R_coefficient_47 (by decide +kernel) ?_
        refine xg_iload_n X (pc := 50) d_R_coefficient_50 rfl ?_
        refine xg_crS1 X (pc := 51) d_R_coefficient_51 (c_R_scale hd) s_R_113 ⟨by decide, by decide⟩ (Nat.le_of_ble_eq_true rfl) ?_
        refine xg_i2l X (pc := 54) d_R_coefficient_54 ?_
        refine xg_lmul X (pc := 55) d_R_coefficient_55 ?_
        refine xg_iload X (pc := 56) d_R_coefficient_56 rfl ?_
        refine xg_i2l X (pc := 58) d_R_coefficient_58 ?_
        refine xg_lmul X (pc := 59) d_R_coefficient_59 ?_
        refine xg_iload_n X (pc := 60) d_R_coefficient_60 rfl ?_
        refine xg_iload_n X (pc := 61) d_R_coefficient_61 rfl ?_
        refine xg_iconst X (pc := 62) (v := 1) d_R_coefficient_62 (by decide) ?_
        refine xg_crS3 X (pc := 63) d_R_coefficient_63 (c_R_shift hd) s_R_126 ⟨by decide, by decide⟩ (Nat.le_of_ble_eq_true rfl) ?_
        refine xg_i2l X (pc := 66) d_R_coefficient_66 ?_
        refine xg_ladd X (pc := 67) d_R_coefficient_67 ?_
        refine xg_lstore X (pc := 68) d_R_coefficient_68 (by decide) rfl ?_
        refine xg_lload X (pc := 70) d_R_coefficient_70 rfl ?_
        refine xg_lconst X (pc := 72) (v := 0) d_R_coefficient_72 (by decide) ?_
        refine xg_lcmp X (pc := 73) d_R_coefficient_73 ?_
        refine xg_if_lt X (pc := 74) (tgt := 102) d_R_coefficient_74 rfl (fun h74 => ?_) (fun h74 => ?_)
        · refine xg_iconst X (pc := 102) (v := 1) d_R_coefficient_102 (by decide) ?_
          refine xg_goto X (pc := 103) (tgt := 107) d_R_coefficient_103 rfl ?_
          refine xg_istore X (pc := 107) d_R_coefficient_107 (by decide) rfl ?_
          refine xg_iload X (pc := 109) d_R_coefficient_109 rfl ?_
          refine xg_if_eq X (pc := 111) (tgt := 118) d_R_coefficient_111 rfl (fun h111 => ?_) (fun h111 => ?_)
          · exact absurd h111 (by decide)
          · refine xg_iconst X (pc := 114) (v := 0) d_R_coefficient_114 (by decide) ?_
            refine xg_goto X (pc := 115) (tgt := 129) d_R_coefficient_115 rfl ?_
            exact xg_iret X (pc := 129) d_R_coefficient_129 rfl (rfl) (⟨congrArg (fun v => some (Value.int v)) ((if_pos ⟨h5, h12, h19⟩).trans (if_neg (fun q => q.1 h74))).symm, rfl, rfl⟩)
        · refine xg_lload X (pc := 77) d_R_coefficient_77 rfl ?_
          refine xg_ldc2 X (pc := 79) (v := 2000) d_R_coefficient_79 (by decide +kernel) ?_
          refine xg_lcmp X (pc := 82) d_R_coefficient_82 ?_
          refine xg_if_gt X (pc := 83) (tgt := 102) d_R_coefficient_83 rfl (fun h83 => ?_) (fun h83 => ?_)
          · refine xg_iconst X (pc := 102) (v := 1) d_R_coefficient_102 (by decide) ?_
            refine xg_goto X (pc := 103) (tgt := 107) d_R_coefficient_103 rfl ?_
            refine xg_istore X (pc := 107) d_R_coefficient_107 (by decide) rfl ?_
            refine xg_iload X (pc := 109) d_R_coefficient_109 rfl ?_
            refine xg_if_eq X (pc := 111) (tgt := 118) d_R_coefficient_111 rfl (fun h111 => ?_) (fun h111 => ?_)
            · exact absurd h111 (by decide)
            · refine xg_iconst X (pc := 114) (v := 0) d_R_coefficient_114 (by decide) ?_
              refine xg_goto X (pc := 115) (tgt := 129) d_R_coefficient_115 rfl ?_
              exact xg_iret X (pc := 129) d_R_coefficient_129 rfl (rfl) (⟨congrArg (fun v => some (Value.int v)) ((if_pos ⟨h5, h12, h19⟩).trans (if_neg (fun q => q.2.1 h83))).symm, rfl, rfl⟩)
          · refine xg_lload X (pc := 86) d_R_coefficient_86 rfl ?_
            refine xg_lconst X (pc := 88) (v := 0) d_R_coefficient_88 (by decide) ?_
            refine xg_lcmp X (pc := 89) d_R_coefficient_89 ?_
            refine xg_if_lt X (pc := 90) (tgt := 102) d_R_coefficient_90 rfl (fun h90 => ?_) (fun h90 => ?_)
            · refine xg_iconst X (pc := 102) (v := 1) d_R_coefficient_102 (by decide) ?_
              refine xg_goto X (pc := 103) (tgt := 107) d_R_coefficient_103 rfl ?_
              refine xg_istore X (pc := 107) d_R_coefficient_107 (by decide) rfl ?_
              refine xg_iload X (pc := 109) d_R_coefficient_109 rfl ?_
              refine xg_if_eq X (pc := 111) (tgt := 118) d_R_coefficient_111 rfl (fun h111 => ?_) (fun h111 => ?_)
              · exact absurd h111 (by decide)
              · refine xg_iconst X (pc := 114) (v := 0) d_R_coefficient_114 (by decide) ?_
                refine xg_goto X (pc := 115) (tgt := 129) d_R_coefficient_115 rfl ?_
                exact xg_iret X (pc := 129) d_R_coefficient_129 rfl (rfl) (⟨congrArg (fun v => some (Value.int v)) ((if_pos ⟨h5, h12, h19⟩).trans (if_neg (fun q => q.2.2.1 h90))).symm, rfl, rfl⟩)
            · refine xg_lload X (pc := 93) d_R_coefficient_93 rfl ?_
              refine xg_ldc2 X (pc := 95) (v := 2000) d_R_coefficient_95 (by decide +kernel) ?_
              refine xg_lcmp X (pc := 98) d_R_coefficient_98 ?_
              refine xg_if_le X (pc := 99) (tgt := 106) d_R_coefficient_99 rfl (fun h99 => ?_) (fun h99 => ?_)
              · refine xg_iconst X (pc := 106) (v := 0) d_R_coefficient_106 (by decide) ?_
                refine xg_istore X (pc := 107) d_R_coefficient_107 (by decide) rfl ?_
                refine xg_iload X (pc := 109) d_R_coefficient_109 rfl ?_
                refine xg_if_eq X (pc := 111) (tgt := 118) d_R_coefficient_111 rfl (fun h111 => ?_) (fun h111 => ?_)
                · refine xg_aload_n X (pc := 118) d_R_coefficient_118 rfl ?_
                  refine xg_iload_n X (pc := 119) d_R_coefficient_119 rfl ?_
                  refine xg_lload X (pc := 120) d_R_coefficient_120 rfl ?_
                  refine xg_l2i X (pc := 122) d_R_coefficient_122 ?_
                  refine xg_lload X (pc := 123) d_R_coefficient_123 rfl ?_
                  refine xg_l2i X (pc := 125) d_R_coefficient_125 ?_
                  refine xg_crV3 X (pc := 126) d_R_coefficient_126 (c_R_at hd (hx _ _)) s_R_99 ⟨_, rfl⟩ rfl ⟨by decide, by decide⟩ (Nat.le_of_ble_eq_true rfl) ?_
                  exact xg_iret X (pc := 129) d_R_coefficient_129 rfl (rfl) (⟨congrArg (fun v => some (Value.int v)) ((if_pos ⟨h5, h12, h19⟩).trans (if_pos ⟨h74, h83, h90, h99⟩)).symm, rfl, rfl⟩)
                · exact absurd h111 (by decide)
              · refine xg_iconst X (pc := 102) (v := 1) d_R_coefficient_102 (by decide) ?_
                refine xg_goto X (pc := 103) (tgt := 107) d_R_coefficient_103 rfl ?_
                refine xg_istore X (pc := 107) d_R_coefficient_107 (by decide) rfl ?_
                refine xg_iload X (pc := 109) d_R_coefficient_109 rfl ?_
                refine xg_if_eq X (pc := 111) (tgt := 118) d_R_coefficient_111 rfl (fun h111 => ?_) (fun h111 => ?_)
                · exact absurd h111 (by decide)
                · refine xg_iconst X (pc := 114) (v := 0) d_R_coefficient_114 (by decide) ?_
                  refine xg_goto X (pc := 115) (tgt := 129) d_R_coefficient_115 rfl ?_
                  exact xg_iret X (pc := 129) d_R_coefficient_129 rfl (rfl) (⟨congrArg (fun v => some (Value.int v)) ((if_pos ⟨h5, h12, h19⟩).trans (if_neg (fun q => h99 q.2.2.2))).symm, rfl, rfl⟩)
      · replace h19 := x_b0 h19
        refine xg_iconst X (pc := 22) (v := 0) d_R_coefficient_22 (by decide) ?_
        exact xg_iret X (pc := 23) d_R_coefficient_23 rfl (rfl) (⟨congrArg (fun v => some (Value.int v)) (if_neg (fun q => h19 q.2.2)).symm, rfl, rfl⟩)
end C16
