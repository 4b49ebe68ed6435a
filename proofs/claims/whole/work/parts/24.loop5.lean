section C5
variable {l : Launch} {ad : Nat → Nat} {D : va_G} {cI : ClassId} {sc : Nat → Int32} {ar : Nat → Nat → Int32}
set_option maxRecDepth 100000 in
set_option maxHeartbeats 4000000 in
theorem c_T_open (hd : x_dis ad) {l0 t0 w0 h0 : Int32} : x_Con l M_T_open 1 23 ad D cI [.ref (ad 0), .int l0, .int t0, .int w0, .int h0] sc ar (fun r sc2 ar2 => if x_op l0 t0 w0 h0 then x_E (some (.int 1)) (upd (upd (upd (upd (upd (upd sc 2 l0) 3 w0) 4 t0) 5 h0) 0 0) 1 0) (x_ua ar 0 (x_fl (ar 0) 0 768)) r sc2 ar2 else x_E (some (.int 0)) sc ar r sc2 ar2) := by
  refine x_intro hd [some (.ref (ad 0)), some (.int l0), some (.int t0), some (.int w0), some (.int h0)] (by decide) (Nat.le_of_ble_eq_true rfl) rfl ?_
  intro p e s m args below meth c X
  refine xg_iload_n X (pc := 0) d_T_open_0 rfl ?_
  refine xg_crS1 X (pc := 1) d_T_open_1 (c_T_isCorner hd) s_T_43 ⟨by decide, by decide⟩ (Nat.le_of_ble_eq_true rfl) ?_
  refine xg_if_eq X (pc := 4) (tgt := 29) d_T_open_4 rfl (fun h4 => ?_) (fun h4 => ?_)
  · replace h4 := x_b0 h4
    refine xg_iconst X (pc := 29) (v := 0) d_T_open_29 (by decide) ?_
    exact xg_iret X (pc := 30) d_T_open_30 rfl (rfl) (by show ite _ _ _; rw [if_neg (by first | (simp_all [x_hol, x_pl, x_rp, x_be, x_op, x_os]; done) | ((try simp only [x_op, x_rp, x_pl, x_hol] at *); grind))]; exact ⟨rfl, rfl, rfl⟩)
  · replace h4 := x_bn h4
    refine xg_iload_n X (pc := 7) d_T_open_7 rfl ?_
    refine xg_crS1 X (pc := 8) d_T_open_8 (c_T_isCorner hd) s_T_43 ⟨by decide, by decide⟩ (Nat.le_of_ble_eq_true rfl) ?_
    refine xg_if_eq X (pc := 11) (tgt := 29) d_T_open_11 rfl (fun h11 => ?_) (fun h11 => ?_)
    · replace h11 := x_b0 h11
      refine xg_iconst X (pc := 29) (v := 0) d_T_open_29 (by decide) ?_
      exact xg_iret X (pc := 30) d_T_open_30 rfl (rfl) (by show ite _ _ _; rw [if_neg (by first | (simp_all [x_hol, x_pl, x_rp, x_be, x_op, x_os]; done) | ((try simp only [x_op, x_rp, x_pl, x_hol] at *); grind))]; exact ⟨rfl, rfl, rfl⟩)
    · replace h11 := x_bn h11
      refine xg_iload_n X (pc := 14) d_T_open_14 rfl ?_
      refine xg_crS1 X (pc := 15) d_T_open_15 (c_T_isSide hd) s_T_47 ⟨by decide, by decide⟩ (Nat.le_of_ble_eq_true rfl) ?_
      refine xg_if_eq X (pc := 18) (tgt := 29) d_T_open_18 rfl (fun h18 => ?_) (fun h18 => ?_)
      · replace h18 := x_b0 h18
        refine xg_iconst X (pc := 29) (v := 0) d_T_open_29 (by decide) ?_
        exact xg_iret X (pc := 30) d_T_open_30 rfl (rfl) (by show ite _ _ _; rw [if_neg (by first | (simp_all [x_hol, x_pl, x_rp, x_be, x_op, x_os]; done) | ((try simp only [x_op, x_rp, x_pl, x_hol] at *); grind))]; exact ⟨rfl, rfl, rfl⟩)
      · replace h18 := x_bn h18
        refine xg_iload X (pc := 21) d_T_open_21 rfl ?_
        refine xg_crS1 X (pc := 23) d_T_open_23 (c_T_isSide hd) s_T_47 ⟨by decide, by decide⟩ (Nat.le_of_ble_eq_true rfl) ?_
        refine xg_if_ne X (pc := 26) (tgt := 31) d_T_open_26 rfl (fun h26 => ?_) (fun h26 => ?_)
        · replace h26 := x_bn h26
          refine xg_aload_n X (pc := 31) d_T_open_31 rfl ?_
          refine xf_T_18 X (pc := 32) rfl d_T_open_32 ?_
          refine xg_iload_n X (pc := 35) d_T_open_35 rfl ?_
          refine xg_iload_n X (pc := 36) d_T_open_36 rfl ?_
          refine xg_cvV2 X (pc := 37) d_T_open_37 (c_S_cover hd (j := 0) (by decide)) s_T_50 ⟨_, rfl⟩ rfl ⟨by decide, by decide⟩ (Nat.le_of_ble_eq_true rfl) ?_
          refine xg_aload_n X (pc := 40) d_T_open_40 rfl ?_
          refine xf_T_22 X (pc := 41) rfl d_T_open_41 ?_
          refine xg_iload_n X (pc := 44) d_T_open_44 rfl ?_
          refine xg_iload X (pc := 45) d_T_open_45 rfl ?_
          refine xg_cvV2 X (pc := 47) d_T_open_47 (c_S_cover hd (j := 1) (by decide)) s_T_50 ⟨_, rfl⟩ rfl ⟨by decide, by decide⟩ (Nat.le_of_ble_eq_true rfl) ?_
          refine xg_aload_n X (pc := 50) d_T_open_50 rfl ?_
          refine xf_T_9 X (pc := 51) rfl d_T_open_51 ?_
          refine xg_iconst X (pc := 54) (v := 0) d_T_open_54 (by decide) ?_
          refine xg_cvS2 X (pc := 55) d_T_open_55 (c_J_fill hd) s_T_54 ⟨by decide, by decide⟩ (Nat.le_of_ble_eq_true rfl) ?_
          refine xg_aload_n X (pc := 58) d_T_open_58 rfl ?_
          refine xg_iconst X (pc := 59) (v := 0) d_T_open_59 (by decide) ?_
          refine xp_T_35 X (pc := 60) rfl d_T_open_60 ?_
          refine xg_aload_n X (pc := 63) d_T_open_63 rfl ?_
          refine xg_iconst X (pc := 64) (v := 0) d_T_open_64 (by decide) ?_
          refine xp_T_39 X (pc := 65) rfl d_T_open_65 (by decide) ?_
          refine xg_iconst X (pc := 68) (v := 1) d_T_open_68 (by decide) ?_
          exact xg_iret X (pc := 69) d_T_open_69 rfl (rfl) (by show ite _ _ _; rw [if_pos ⟨h4, h11, h18, h26⟩]; exact ⟨rfl, rfl, rfl⟩)
        · replace h26 := x_b0 h26
          refine xg_iconst X (pc := 29) (v := 0) d_T_open_29 (by decide) ?_
          exact xg_iret X (pc := 30) d_T_open_30 rfl (rfl) (by show ite _ _ _; rw [if_neg (by first | (simp_all [x_hol, x_pl, x_rp, x_be, x_op, x_os]; done) | ((try simp only [x_op, x_rp, x_pl, x_hol] at *); grind))]; exact ⟨rfl, rfl, rfl⟩)
set_option maxRecDepth 100000 in
set_option maxHeartbeats 4000000 in
theorem c_T_put (hd : x_dis ad) {pl u v z : Int32} (hx : ¬ x_cp sc pl u.toInt64 v.toInt64 = -1 → vp_in (x_cp sc pl u.toInt64 v.toInt64) 768) : x_Con l M_T_put 2 47 ad D cI [.ref (ad 0), .int pl, .int u, .int v, .int z] sc ar (fun r sc2 ar2 => if ¬ x_cp sc pl u.toInt64 v.toInt64 = -1 ∧ ¬ z < -32768 ∧ z ≤ 32767 ∧ ¬ 0 < sc 0 ∧ sc 1 = 0 then x_E (some (.int 1)) sc (x_ua ar 0 (upd (ar 0) (x_cp sc pl u.toInt64 v.toInt64).toNatClampNeg z)) r sc2 ar2 else x_E (some (.int 0)) sc ar r sc2 ar2) := by
  refine x_intro hd [some (.ref (ad 0)), some (.int pl), some (.int u), some (.int v), some (.int z), none] (by decide) (Nat.le_of_ble_eq_true rfl) rfl ?_
  intro p e s m args below meth c X
  refine xg_aload_n X (pc := 0) d_T_put_0 rfl ?_
  refine xg_iload_n X (pc := 1) d_T_put_1 rfl ?_
  refine xg_iload_n X (pc := 2) d_T_put_2 rfl ?_
  refine xg_i2l X (pc := 3) d_T_put_3 ?_
  refine xg_iload_n X (pc := 4) d_T_put_4 rfl ?_
  refine xg_i2l X (pc := 5) d_T_put_5 ?_
  refine xg_crV3 X (pc := 6) d_T_put_6 (c_T_cellOfPlace hd) s_T_60 ⟨_, rfl⟩ rfl ⟨by decide, by decide⟩ (Nat.le_of_ble_eq_true rfl) ?_
  refine xg_istore X (pc := 9) d_T_put_9 (by decide) rfl ?_
  refine xg_iload X (pc := 11) d_T_put_11 rfl ?_
  refine xg_iconst X (pc := 13) (v := -1) d_T_put_13 (by decide) ?_
  refine xg_icmp_eq X (pc := 14) (tgt := 33) d_T_put_14 rfl (fun h14 => ?_) (fun h14 => ?_)
  · refine xg_iconst X (pc := 33) (v := 0) d_T_put_33 (by decide) ?_
    exact xg_iret X (pc := 34) d_T_put_34 rfl (rfl) (by show ite _ _ _; rw [if_neg (by first | (simp_all [x_hol, x_pl, x_rp, x_be, x_op, x_os]; done) | ((try simp only [x_op, x_rp, x_pl, x_hol] at *); grind))]; exact ⟨rfl, rfl, rfl⟩)
  · refine xg_iload X (pc := 17) d_T_put_17 rfl ?_
    refine xg_sipush X (pc := 19) (v := -32768) d_T_put_19 (by decide) ?_
    refine xg_icmp_lt X (pc := 22) (tgt := 33) d_T_put_22 rfl (fun h22 => ?_) (fun h22 => ?_)
    · refine xg_iconst X (pc := 33) (v := 0) d_T_put_33 (by decide) ?_
      exact xg_iret X (pc := 34) d_T_put_34 rfl (rfl) (by show ite _ _ _; rw [if_neg (by first | (simp_all [x_hol, x_pl, x_rp, x_be, x_op, x_os]; done) | ((try simp only [x_op, x_rp, x_pl, x_hol] at *); grind))]; exact ⟨rfl, rfl, rfl⟩)
    · refine xg_iload X (pc := 25) d_T_put_25 rfl ?_
      refine xg_sipush X (pc := 27) (v := 32767) d_T_put_27 (by decide) ?_
      refine xg_icmp_le X (pc := 30) (tgt := 35) d_T_put_30 rfl (fun h30 => ?_) (fun h30 => ?_)
      · refine xg_aload_n X (pc := 35) d_T_put_35 rfl ?_
        refine xf_T_35 X (pc := 36) rfl d_T_put_36 ?_
        refine xg_if_gt X (pc := 39) (tgt := 49) d_T_put_39 rfl (fun h39 => ?_) (fun h39 => ?_)
        · refine xg_iconst X (pc := 49) (v := 0) d_T_put_49 (by decide) ?_
          exact xg_iret X (pc := 50) d_T_put_50 rfl (rfl) (by show ite _ _ _; rw [if_neg (by first | (simp_all [x_hol, x_pl, x_rp, x_be, x_op, x_os]; done) | ((try simp only [x_op, x_rp, x_pl, x_hol] at *); grind))]; exact ⟨rfl, rfl, rfl⟩)
        · refine xg_aload_n X (pc := 42) d_T_put_42 rfl ?_
          refine xf_T_39 X (pc := 43) rfl d_T_put_43 ?_
          refine xg_if_eq X (pc := 46) (tgt := 51) d_T_put_46 rfl (fun h46 => ?_) (fun h46 => ?_)
          · refine xg_aload_n X (pc := 51) d_T_put_51 rfl ?_
            refine xf_T_9 X (pc := 52) rfl d_T_put_52 ?_
            refine xg_iload X (pc := 55) d_T_put_55 rfl ?_
            refine xg_iload X (pc := 57) d_T_put_57 rfl ?_
            refine xa_st1 X (pc := 59) d_T_put_59 (hx h14) ?_
            refine xg_iconst X (pc := 60) (v := 1) d_T_put_60 (by decide) ?_
            exact xg_iret X (pc := 61) d_T_put_61 rfl (rfl) (by show ite _ _ _; rw [if_pos ⟨h14, h22, h30, h39, h46⟩]; exact ⟨rfl, rfl, rfl⟩)
          · refine xg_iconst X (pc := 49) (v := 0) d_T_put_49 (by decide) ?_
            exact xg_iret X (pc := 50) d_T_put_50 rfl (rfl) (by show ite _ _ _; rw [if_neg (by first | (simp_all [x_hol, x_pl, x_rp, x_be, x_op, x_os]; done) | ((try simp only [x_op, x_rp, x_pl, x_hol] at *); grind))]; exact ⟨rfl, rfl, rfl⟩)
      · refine xg_iconst X (pc := 33) (v := 0) d_T_put_33 (by decide) ?_
        exact xg_iret X (pc := 34) d_T_put_34 rfl (rfl) (by show ite _ _ _; rw [if_neg (by first | (simp_all [x_hol, x_pl, x_rp, x_be, x_op, x_os]; done) | ((try simp only [x_op, x_rp, x_pl, x_hol] at *); grind))]; exact ⟨rfl, rfl, rfl⟩)
set_option maxRecDepth 100000 in
set_option maxHeartbeats 4000000 in
theorem c_R_open (hd : x_dis ad) {l0 t0 w0 h0 : Int32} : x_Con l M_R_open 0 0 ad D cI [.ref (ad 7), .int l0, .int t0, .int w0, .int h0] sc ar (fun r sc2 ar2 => if x_op l0 t0 w0 h0 then x_E (some (.int 1)) (upd (upd (upd (upd (upd (upd (upd sc 8 1) 9 l0) 10 t0) 11 w0) 12 h0) 13 0) 14 0) (x_ua ar 4 (x_fl (ar 4) 0 768)) r sc2 ar2 else x_E (some (.int 0)) sc ar r sc2 ar2) := by
  refine x_intro hd [some (.ref (ad 7)), some (.int l0), some (.int t0), some (.int w0), some (.int h0), none] (by decide) (Nat.le_of_ble_eq_true rfl) rfl ?_
  intro p e s m args below meth c X
  have loop : x_op l0 t0 w0 h0 → ∀ n k : Nat, 768 - k < n → k ≤ 768 → x_G p l e (x_rm 0 0) s m args below meth c M_R_open ad D cI (x_A ad) 0 0 (x_Q below args s ad D cI (fun r sc2 ar2 => if x_op l0 t0 w0 h0 then x_E (some (.int 1)) (upd (upd (upd (upd (upd (upd (upd sc 8 1) 9 l0) 10 t0) 11 w0) 12 h0) 13 0) 14 0) (x_ua ar 4 (x_fl (ar 4) 0 768)) r sc2 ar2 else x_E (some (.int 0)) sc ar r sc2 ar2)) 87 [some (.ref (ad 7)), some (.int l0), some (.int t0), some (.int w0), some (.int h0), some (.int (nI k))] [] (upd (upd (upd (upd (upd (upd (upd sc 8 1) 9 l0) 10 t0) 11 w0) 12 h0) 13 0) 14 0) (x_ua ar 4 (x_fl (ar 4) 0 k)) := by
    intro hc n
    induction n with
    | zero => intro k h _; exact absurd h (Nat.not_lt_zero _)
    | succ n ih =>
      intro k hn hk
      refine xg_iload X (pc := 87) d_R_open_87 rfl ?_
      refine xg_sipush X (pc := 89) (v := 768) d_R_open_89 (by decide) ?_
      refine xg_icmp_ge X (pc := 92) (tgt := 109) d_R_open_92 rfl (fun h92 => ?_) (fun h92 => ?_)
      · have hk2 : k = 768 := Nat.le_antisymm hk (x_ge (n := 768) rfl (by decide) (by omega) h92)
        subst hk2
        refine xg_iconst X (pc := 109) (v := 1) d_R_open_109 (by decide) ?_
        exact xg_iret X (pc := 110) d_R_open_110 rfl (rfl) (by show ite _ _ _; rw [if_pos hc]; exact ⟨rfl, rfl, rfl⟩)
      · have hk3 : k < 768 := x_nge (n := 768) rfl (by decide) (by omega) h92
        refine xg_aload_n X (pc := 95) d_R_open_95 rfl ?_
        refine xf_R_13 X (pc := 96) rfl d_R_open_96 ?_
        refine xg_iload X (pc := 99) d_R_open_99 rfl ?_
        refine xg_iconst X (pc := 101) (v := 0) d_R_open_101 (by decide) ?_
        refine xa_st9 X (pc := 102) d_R_open_102 (vp_in_nI (by omega) (by decide)) ?_
        refine xg_iinc X (pc := 103) d_R_open_103 rfl (x_inc (by decide : Int32.ofInt (1) = 1) _) (by decide) rfl ?_
        refine xg_goto X (pc := 106) (tgt := 87) d_R_open_106 rfl ?_
        refine xg_weak [some (.ref (ad 7)), some (.int l0), some (.int t0), some (.int w0), some (.int h0), some (.int (nI (k + 1)))] ⟨rfl, rfl, rfl, rfl, rfl, by rw [← x_k1], trivial⟩ ?_
        exact xg_eq rfl (by rw [x_ua_ua, x_ua_at, nI_clamp (by omega), x_fls]) rfl (ih (k + 1) (by omega) (by omega))
  refine xg_iload_n X (pc := 0) d_R_open_0 rfl ?_
  refine xg_if_lt X (pc := 1) (tgt := 46) d_R_open_1 rfl (fun h1 => ?_) (fun h1 => ?_)
  · refine xg_iconst X (pc := 46) (v := 0) d_R_open_46 (by decide) ?_
    exact xg_iret X (pc := 47) d_R_open_47 rfl (rfl) (by show ite _ _ _; rw [if_neg (by first | (simp_all [x_hol, x_pl, x_rp, x_be, x_op, x_os]; done) | ((try simp only [x_op, x_rp, x_pl, x_hol] at *); grind))]; exact ⟨rfl, rfl, rfl⟩)
  · refine xg_iload_n X (pc := 4) d_R_open_4 rfl ?_
    refine xg_sipush X (pc := 5) (v := 1000) d_R_open_5 (by decide) ?_
    refine xg_icmp_gt X (pc := 8) (tgt := 46) d_R_open_8 rfl (fun h8 => ?_) (fun h8 => ?_)
    · refine xg_iconst X (pc := 46) (v := 0) d_R_open_46 (by decide) ?_
      exact xg_iret X (pc := 47) d_R_open_47 rfl (rfl) (by show ite _ _ _; rw [if_neg (by first | (simp_all [x_hol, x_pl, x_rp, x_be, x_op, x_os]; done) | ((try simp only [x_op, x_rp, x_pl, x_hol] at *); grind))]; exact ⟨rfl, rfl, rfl⟩)
    · refine xg_iload_n X (pc := 11) d_R_open_11 rfl ?_
      refine xg_if_lt X (pc := 12) (tgt := 46) d_R_open_12 rfl (fun h12 => ?_) (fun h12 => ?_)
      · refine xg_iconst X (pc := 46) (v := 0) d_R_open_46 (by decide) ?_
        exact xg_iret X (pc := 47) d_R_open_47 rfl (rfl) (by show ite _ _ _; rw [if_neg (by first | (simp_all [x_hol, x_pl, x_rp, x_be, x_op, x_os]; done) | ((try simp only [x_op, x_rp, x_pl, x_hol] at *); grind))]; exact ⟨rfl, rfl, rfl⟩)
      · refine xg_iload_n X (pc := 15) d_R_open_15 rfl ?_
        refine xg_sipush X (pc := 16) (v := 1000) d_R_open_16 (by decide) ?_
        refine xg_icmp_gt X (pc := 19) (tgt := 46) d_R_open_19 rfl (fun h19 => ?_) (fun h19 => ?_)
        · refine xg_iconst X (pc := 46) (v := 0) d_R_open_46 (by decide) ?_
          exact xg_iret X (pc := 47) d_R_open_47 rfl (rfl) (by show ite _ _ _; rw [if_neg (by first | (simp_all [x_hol, x_pl, x_rp, x_be, x_op, x_os]; done) | ((try simp only [x_op, x_rp, x_pl, x_hol] at *); grind))]; exact ⟨rfl, rfl, rfl⟩)
        · refine xg_iload_n X (pc := 22) d_R_open_22 rfl ?_
          refine xg_iconst X (pc := 23) (v := 1) d_R_open_23 (by decide) ?_
          refine xg_icmp_lt X (pc := 24) (tgt := 46) d_R_open_24 rfl (fun h24 => ?_) (fun h24 => ?_)
          · refine xg_iconst X (pc := 46) (v := 0) d_R_open_46 (by decide) ?_
            exact xg_iret X (pc := 47) d_R_open_47 rfl (rfl) (by show ite _ _ _; rw [if_neg (by first | (simp_all [x_hol, x_pl, x_rp, x_be, x_op, x_os]; done) | ((try simp only [x_op, x_rp, x_pl, x_hol] at *); grind))]; exact ⟨rfl, rfl, rfl⟩)
          · refine xg_iload_n X (pc := 27) d_R_open_27 rfl ?_
            refine xg_bipush X (pc := 28) (v := 16) d_R_open_28 (by decide) ?_
            refine xg_icmp_gt X (pc := 30) (tgt := 46) d_R_open_30 rfl (fun h30 => ?_) (fun h30 => ?_)
            · refine xg_iconst X (pc := 46) (v := 0) d_R_open_46 (by decide) ?_
              exact xg_iret X (pc := 47) d_R_open_47 rfl (rfl) (by show ite _ _ _; rw [if_neg (by first | (simp_all [x_hol, x_pl, x_rp, x_be, x_op, x_os]; done) | ((try simp only [x_op, x_rp, x_pl, x_hol] at *); grind))]; exact ⟨rfl, rfl, rfl⟩)
            · refine xg_iload X (pc := 33) d_R_open_33 rfl ?_
              refine xg_iconst X (pc := 35) (v := 1) d_R_open_35 (by decide) ?_
              refine xg_icmp_lt X (pc := 36) (tgt := 46) d_R_open_36 rfl (fun h36 => ?_) (fun h36 => ?_)
              · refine xg_iconst X (pc := 46) (v := 0) d_R_open_46 (by decide) ?_
                exact xg_iret X (pc := 47) d_R_open_47 rfl (rfl) (by show ite _ _ _; rw [if_neg (by first | (simp_all [x_hol, x_pl, x_rp, x_be, x_op, x_os]; done) | ((try simp only [x_op, x_rp, x_pl, x_hol] at *); grind))]; exact ⟨rfl, rfl, rfl⟩)
              · refine xg_iload X (pc := 39) d_R_open_39 rfl ?_
                refine xg_bipush X (pc := 41) (v := 16) d_R_open_41 (by decide) ?_
                refine xg_icmp_le X (pc := 43) (tgt := 48) d_R_open_43 rfl (fun h43 => ?_) (fun h43 => ?_)
                · refine xg_aload_n X (pc := 48) d_R_open_48 rfl ?_
                  refine xg_iconst X (pc := 49) (v := 1) d_R_open_49 (by decide) ?_
                  refine xp_R_22 X (pc := 50) rfl d_R_open_50 (by decide) ?_
                  refine xg_aload_n X (pc := 53) d_R_open_53 rfl ?_
                  refine xg_iload_n X (pc := 54) d_R_open_54 rfl ?_
                  refine xp_R_26 X (pc := 55) rfl d_R_open_55 ?_
                  refine xg_aload_n X (pc := 58) d_R_open_58 rfl ?_
                  refine xg_iload_n X (pc := 59) d_R_open_59 rfl ?_
                  refine xp_R_33 X (pc := 60) rfl d_R_open_60 ?_
                  refine xg_aload_n X (pc := 63) d_R_open_63 rfl ?_
                  refine xg_iload_n X (pc := 64) d_R_open_64 rfl ?_
                  refine xp_R_30 X (pc := 65) rfl d_R_open_65 ?_
                  refine xg_aload_n X (pc := 68) d_R_open_68 rfl ?_
                  refine xg_iload X (pc := 69) d_R_open_69 rfl ?_
                  refine xp_R_36 X (pc := 71) rfl d_R_open_71 ?_
                  refine xg_aload_n X (pc := 74) d_R_open_74 rfl ?_
                  refine xg_iconst X (pc := 75) (v := 0) d_R_open_75 (by decide) ?_
                  refine xp_R_39 X (pc := 76) rfl d_R_open_76 (by decide) ?_
                  refine xg_aload_n X (pc := 79) d_R_open_79 rfl ?_
                  refine xg_iconst X (pc := 80) (v := 0) d_R_open_80 (by decide) ?_
                  refine xp_R_42 X (pc := 81) rfl d_R_open_81 ?_
                  refine xg_iconst X (pc := 84) (v := 0) d_R_open_84 (by decide) ?_
                  refine xg_istore X (pc := 85) d_R_open_85 (by decide) rfl ?_
                  refine xg_weak [some (.ref (ad 7)), some (.int l0), some (.int t0), some (.int w0), some (.int h0), some (.int (nI 0))] ⟨rfl, rfl, rfl, rfl, rfl, rfl, trivial⟩ ?_
                  exact xg_eq rfl (by rw [x_fl0, x_ua_id]) rfl (loop (by simp_all [x_op]) 769 0 (by omega) (by omega))
                · refine xg_iconst X (pc := 46) (v := 0) d_R_open_46 (by decide) ?_
                  exact xg_iret X (pc := 47) d_R_open_47 rfl (rfl) (by show ite _ _ _; rw [if_neg (by first | (simp_all [x_hol, x_pl, x_rp, x_be, x_op, x_os]; done) | ((try simp only [x_op, x_rp, x_pl, x_hol] at *); grind))]; exact ⟨rfl, rfl, rfl⟩)
set_option maxRecDepth 100000 in
set_option maxHeartbeats 4000000 in
theorem c_R_put (hd : x_dis ad) {pl u v z : Int32} (hx : (¬ pl < 0 ∧ ¬ 2 < pl) ∧ x_rp sc u v → vp_in (x_rc sc pl u v) 768) : x_Con l M_R_put 1 23 ad D cI [.ref (ad 7), .int pl, .int u, .int v, .int z] sc ar (fun r sc2 ar2 => if (¬ pl < 0 ∧ ¬ 2 < pl) ∧ x_rp sc u v ∧ ¬ z < -32768 ∧ ¬ 32767 < z ∧ ¬ 0 < sc 14 ∧ sc 13 = 0 then x_E (some (.int 1)) sc (x_ua ar 4 (upd (ar 4) (x_rc sc pl u v).toNatClampNeg z)) r sc2 ar2 else x_E (some (.int 0)) sc ar r sc2 ar2) := by
  refine x_intro hd [some (.ref (ad 7)), some (.int pl), some (.int u), some (.int v), some (.int z)] (by decide) (Nat.le_of_ble_eq_true rfl) rfl ?_
  intro p e s m args below meth c X
  refine xg_iload_n X (pc := 0) d_R_put_0 rfl ?_
  refine xg_crS1 X (pc := 1) d_R_put_1 (c_R_isPlane hd) s_R_45 ⟨by decide, by decide⟩ (Nat.le_of_ble_eq_true rfl) ?_
  refine xg_if_eq X (pc := 4) (tgt := 46) d_R_put_4 rfl (fun h4 => ?_) (fun h4 => ?_)
  · replace h4 := x_b0 h4
    refine xg_iconst X (pc := 46) (v := 0) d_R_put_46 (by decide) ?_
    exact xg_iret X (pc := 47) d_R_put_47 rfl (rfl) (by show ite _ _ _; rw [if_neg (by first | (simp_all [x_hol, x_pl, x_rp, x_be, x_op, x_os]; done) | ((try simp only [x_op, x_rp, x_pl, x_hol] at *); grind))]; exact ⟨rfl, rfl, rfl⟩)
  · replace h4 := x_bn h4
    refine xg_aload_n X (pc := 7) d_R_put_7 rfl ?_
    refine xg_iload_n X (pc := 8) d_R_put_8 rfl ?_
    refine xg_iload_n X (pc := 9) d_R_put_9 rfl ?_
    refine xg_crV2 X (pc := 10) d_R_put_10 (c_R_isPlace hd) s_R_49 ⟨_, rfl⟩ rfl ⟨by decide, by decide⟩ (Nat.le_of_ble_eq_true rfl) ?_
    refine xg_if_eq X (pc := 13) (tgt := 46) d_R_put_13 rfl (fun h13 => ?_) (fun h13 => ?_)
    · replace h13 := x_b0 h13
      refine xg_iconst X (pc := 46) (v := 0) d_R_put_46 (by decide) ?_
      exact xg_iret X (pc := 47) d_R_put_47 rfl (rfl) (by show ite _ _ _; rw [if_neg (by first | (simp_all [x_hol, x_pl, x_rp, x_be, x_op, x_os]; done) | ((try simp only [x_op, x_rp, x_pl, x_hol] at *); grind))]; exact ⟨rfl, rfl, rfl⟩)
    · replace h13 := x_bn h13
      refine xg_iload X (pc := 16) d_R_put_16 rfl ?_
      refine xg_sipush X (pc := 18) (v := -32768) d_R_put_18 (by decide) ?_
      refine xg_icmp_lt X (pc := 21) (tgt := 46) d_R_put_21 rfl (fun h21 => ?_) (fun h21 => ?_)
      · refine xg_iconst X (pc := 46) (v := 0) d_R_put_46 (by decide) ?_
        exact xg_iret X (pc := 47) d_R_put_47 rfl (rfl) (by show ite _ _ _; rw [if_neg (by first | (simp_all [x_hol, x_pl, x_rp, x_be, x_op, x_os]; done) | ((try simp only [x_op, x_rp, x_pl, x_hol] at *); grind))]; exact ⟨rfl, rfl, rfl⟩)
      · refine xg_iload X (pc := 24) d_R_put_24 rfl ?_
        refine xg_sipush X (pc := 26) (v := 32767) d_R_put_26 (by decide) ?_
        refine xg_icmp_gt X (pc := 29) (tgt := 46) d_R_put_29 rfl (fun h29 => ?_) (fun h29 => ?_)
        · refine xg_iconst X (pc := 46) (v := 0) d_R_put_46 (by decide) ?_
          exact xg_iret X (pc := 47) d_R_put_47 rfl (rfl) (by show ite _ _ _; rw [if_neg (by first | (simp_all [x_hol, x_pl, x_rp, x_be, x_op, x_os]; done) | ((try simp only [x_op, x_rp, x_pl, x_hol] at *); grind))]; exact ⟨rfl, rfl, rfl⟩)
        · refine xg_aload_n X (pc := 32) d_R_put_32 rfl ?_
          refine xf_R_42 X (pc := 33) rfl d_R_put_33 ?_
          refine xg_if_gt X (pc := 36) (tgt := 46) d_R_put_36 rfl (fun h36 => ?_) (fun h36 => ?_)
          · refine xg_iconst X (pc := 46) (v := 0) d_R_put_46 (by decide) ?_
            exact xg_iret X (pc := 47) d_R_put_47 rfl (rfl) (by show ite _ _ _; rw [if_neg (by first | (simp_all [x_hol, x_pl, x_rp, x_be, x_op, x_os]; done) | ((try simp only [x_op, x_rp, x_pl, x_hol] at *); grind))]; exact ⟨rfl, rfl, rfl⟩)
          · refine xg_aload_n X (pc := 39) d_R_put_39 rfl ?_
            refine xf_R_39 X (pc := 40) rfl d_R_put_40 ?_
            refine xg_if_eq X (pc := 43) (tgt := 48) d_R_put_43 rfl (fun h43 => ?_) (fun h43 => ?_)
            · refine xg_aload_n X (pc := 48) d_R_put_48 rfl ?_
              refine xf_R_13 X (pc := 49) rfl d_R_put_49 ?_
              refine xg_aload_n X (pc := 52) d_R_put_52 rfl ?_
              refine xg_iload_n X (pc := 53) d_R_put_53 rfl ?_
              refine xg_iload_n X (pc := 54) d_R_put_54 rfl ?_
              refine xg_iload_n X (pc := 55) d_R_put_55 rfl ?_
              refine xg_crV3 X (pc := 56) d_R_put_56 (c_R_cell hd) s_R_53 ⟨_, rfl⟩ rfl ⟨by decide, by decide⟩ (Nat.le_of_ble_eq_true rfl) ?_
              refine xg_iload X (pc := 59) d_R_put_59 rfl ?_
              refine xa_st9 X (pc := 61) d_R_put_61 (hx ⟨h4, h13⟩) ?_
              refine xg_iconst X (pc := 62) (v := 1) d_R_put_62 (by decide) ?_
              exact xg_iret X (pc := 63) d_R_put_63 rfl (rfl) (by show ite _ _ _; rw [if_pos ⟨h4, h13, h21, h29, h36, h43⟩]; exact ⟨rfl, rfl, rfl⟩)
            · refine xg_iconst X (pc := 46) (v := 0) d_R_put_46 (by decide) ?_
              exact xg_iret X (pc := 47) d_R_put_47 rfl (rfl) (by show ite _ _ _; rw [if_neg (by first | (simp_all [x_hol, x_pl, x_rp, x_be, x_op, x_os]; done) | ((try simp only [x_op, x_rp, x_pl, x_hol] at *); grind))]; exact ⟨rfl, rfl, rfl⟩)
set_option maxRecDepth 100000 in
set_option maxHeartbeats 4000000 in
theorem c_R_mix (hd : x_dis ad) : x_Con l M_R_mix 0 0 ad D cI [.ref (ad 7)] sc ar (fun r sc2 ar2 => if ¬ sc 8 = 0 ∧ ¬ 0 < sc 14 ∧ sc 13 = 0 then x_E (some (.int 1)) (upd sc 13 1) (x_ua ar 4 (x_mxs (ar 4) 256)) r sc2 ar2 else x_E (some (.int 0)) sc ar r sc2 ar2) := by
  refine x_intro hd [some (.ref (ad 7)), none, none, none, none] (by decide) (Nat.le_of_ble_eq_true rfl) rfl ?_
  intro p e s m args below meth c X
  have loop : ¬ sc 8 = 0 ∧ ¬ 0 < sc 14 ∧ sc 13 = 0 → ∀ n k : Nat, 256 - k < n → k ≤ 256 → x_G p l e (x_rm 0 0) s m args below meth c M_R_mix ad D cI (x_A ad) 0 0 (x_Q below args s ad D cI (fun r sc2 ar2 => if ¬ sc 8 = 0 ∧ ¬ 0 < sc 14 ∧ sc 13 = 0 then x_E (some (.int 1)) (upd sc 13 1) (x_ua ar 4 (x_mxs (ar 4) 256)) r sc2 ar2 else x_E (some (.int 0)) sc ar r sc2 ar2)) 25 [some (.ref (ad 7)), some (.int (nI k)), none, none, none] [] sc (x_ua ar 4 (x_mxs (ar 4) k)) := by
    intro hc n
    induction n with
    | zero => intro k h _; exact absurd h (Nat.not_lt_zero _)
    | succ n ih =>
      intro k hn hk
      refine xg_iload_n X (pc := 25) d_R_mix_25 rfl ?_
      refine xg_sipush X (pc := 26) (v := 256) d_R_mix_26 (by decide) ?_
      refine xg_icmp_ge X (pc := 29) (tgt := 111) d_R_mix_29 rfl (fun h29 => ?_) (fun h29 => ?_)
      · have hk2 : k = 256 := Nat.le_antisymm hk (x_ge (n := 256) rfl (by decide) (by omega) h29)
        subst hk2
        refine xg_aload_n X (pc := 111) d_R_mix_111 rfl ?_
        refine xg_iconst X (pc := 112) (v := 1) d_R_mix_112 (by decide) ?_
        refine xp_R_39 X (pc := 113) rfl d_R_mix_113 (by decide) ?_
        refine xg_iconst X (pc := 116) (v := 1) d_R_mix_116 (by decide) ?_
        exact xg_iret X (pc := 117) d_R_mix_117 rfl (rfl) (by show ite _ _ _; rw [if_pos hc]; exact ⟨rfl, rfl, rfl⟩)
      · have hk3 : k < 256 := x_nge (n := 256) rfl (by decide) (by omega) h29
        refine xg_aload_n X (pc := 32) d_R_mix_32 rfl ?_
        refine xf_R_13 X (pc := 33) rfl d_R_mix_33 ?_
        refine xg_iload_n X (pc := 36) d_R_mix_36 rfl ?_
        refine xa_ld9 X (pc := 37) d_R_mix_37 (vp_in_nI (by omega) (by decide)) ?_
        refine xg_istore_n X (pc := 38) d_R_mix_38 (by decide) rfl ?_
        refine xg_aload_n X (pc := 39) d_R_mix_39 rfl ?_
        refine xf_R_13 X (pc := 40) rfl d_R_mix_40 ?_
        refine xg_sipush X (pc := 43) (v := 256) d_R_mix_43 (by decide) ?_
        refine xg_iload_n X (pc := 46) d_R_mix_46 rfl ?_
        refine xg_iadd X (pc := 47) d_R_mix_47 ?_
        refine xa_ld9 X (pc := 48) d_R_mix_48 (x_in256' hk3) ?_
        refine xg_istore_n X (pc := 49) d_R_mix_49 (by decide) rfl ?_
        refine xg_aload_n X (pc := 50) d_R_mix_50 rfl ?_
        refine xf_R_13 X (pc := 51) rfl d_R_mix_51 ?_
        refine xg_sipush X (pc := 54) (v := 512) d_R_mix_54 (by decide) ?_
        refine xg_iload_n X (pc := 57) d_R_mix_57 rfl ?_
        refine xg_iadd X (pc := 58) d_R_mix_58 ?_
        refine xa_ld9 X (pc := 59) d_R_mix_59 (x_in512' hk3) ?_
        refine xg_istore X (pc := 60) d_R_mix_60 (by decide) rfl ?_
        refine xg_aload_n X (pc := 62) d_R_mix_62 rfl ?_
        refine xf_R_13 X (pc := 63) rfl d_R_mix_63 ?_
        refine xg_iload_n X (pc := 66) d_R_mix_66 rfl ?_
        refine xg_iload_n X (pc := 67) d_R_mix_67 rfl ?_
        refine xg_iconst X (pc := 68) (v := 2) d_R_mix_68 (by decide) ?_
        refine xg_iload_n X (pc := 69) d_R_mix_69 rfl ?_
        refine xg_imul X (pc := 70) d_R_mix_70 ?_
        refine xg_iadd X (pc := 71) d_R_mix_71 ?_
        refine xg_iload X (pc := 72) d_R_mix_72 rfl ?_
        refine xg_iadd X (pc := 74) d_R_mix_74 ?_
        refine xg_iconst X (pc := 75) (v := 2) d_R_mix_75 (by decide) ?_
        refine xg_ishr X (pc := 76) d_R_mix_76 ?_
        refine xa_st9 X (pc := 77) d_R_mix_77 (vp_in_nI (by omega) (by decide)) ?_
        refine xg_aload_n X (pc := 78) d_R_mix_78 rfl ?_
        refine xf_R_13 X (pc := 79) rfl d_R_mix_79 ?_
        refine xg_sipush X (pc := 82) (v := 256) d_R_mix_82 (by decide) ?_
        refine xg_iload_n X (pc := 85) d_R_mix_85 rfl ?_
        refine xg_iadd X (pc := 86) d_R_mix_86 ?_
        refine xg_iload X (pc := 87) d_R_mix_87 rfl ?_
        refine xg_iload_n X (pc := 89) d_R_mix_89 rfl ?_
        refine xg_isub X (pc := 90) d_R_mix_90 ?_
        refine xa_st9 X (pc := 91) d_R_mix_91 (x_in256' hk3) ?_
        refine xg_aload_n X (pc := 92) d_R_mix_92 rfl ?_
        refine xf_R_13 X (pc := 93) rfl d_R_mix_93 ?_
        refine xg_sipush X (pc := 96) (v := 512) d_R_mix_96 (by decide) ?_
        refine xg_iload_n X (pc := 99) d_R_mix_99 rfl ?_
        refine xg_iadd X (pc := 100) d_R_mix_100 ?_
        refine xg_iload_n X (pc := 101) d_R_mix_101 rfl ?_
        refine xg_iload_n X (pc := 102) d_R_mix_102 rfl ?_
        refine xg_isub X (pc := 103) d_R_mix_103 ?_
        refine xa_st9 X (pc := 104) d_R_mix_104 (x_in512' hk3) ?_
        refine xg_iinc X (pc := 105) d_R_mix_105 rfl (x_inc (by decide : Int32.ofInt (1) = 1) _) (by decide) rfl ?_
        refine xg_goto X (pc := 108) (tgt := 25) d_R_mix_108 rfl ?_
        refine xg_weak [some (.ref (ad 7)), some (.int (nI (k + 1))), none, none, none] ⟨rfl, by rw [← x_k1], trivial⟩ ?_
        exact xg_eq rfl (by simp only [x_ua_ua, x_ua_at, x_cl0 hk3, x_cl256' hk3, x_cl512' hk3]; rfl) rfl (ih (k + 1) (by omega) (by omega))
  refine xg_aload_n X (pc := 0) d_R_mix_0 rfl ?_
  refine xf_R_22 X (pc := 1) rfl d_R_mix_1 ?_
  refine xg_if_eq X (pc := 4) (tgt := 21) d_R_mix_4 rfl (fun h4 => ?_) (fun h4 => ?_)
  · refine xg_iconst X (pc := 21) (v := 0) d_R_mix_21 (by decide) ?_
    exact xg_iret X (pc := 22) d_R_mix_22 rfl (rfl) (by show ite _ _ _; rw [if_neg (by first | (simp_all [x_hol, x_pl, x_rp, x_be, x_op, x_os]; done) | ((try simp only [x_op, x_rp, x_pl, x_hol] at *); grind))]; exact ⟨rfl, rfl, rfl⟩)
  · refine xg_aload_n X (pc := 7) d_R_mix_7 rfl ?_
    refine xf_R_42 X (pc := 8) rfl d_R_mix_8 ?_
    refine xg_if_gt X (pc := 11) (tgt := 21) d_R_mix_11 rfl (fun h11 => ?_) (fun h11 => ?_)
    · refine xg_iconst X (pc := 21) (v := 0) d_R_mix_21 (by decide) ?_
      exact xg_iret X (pc := 22) d_R_mix_22 rfl (rfl) (by show ite _ _ _; rw [if_neg (by first | (simp_all [x_hol, x_pl, x_rp, x_be, x_op, x_os]; done) | ((try simp only [x_op, x_rp, x_pl, x_hol] at *); grind))]; exact ⟨rfl, rfl, rfl⟩)
    · refine xg_aload_n X (pc := 14) d_R_mix_14 rfl ?_
      refine xf_R_39 X (pc := 15) rfl d_R_mix_15 ?_
      refine xg_if_eq X (pc := 18) (tgt := 23) d_R_mix_18 rfl (fun h18 => ?_) (fun h18 => ?_)
      · refine xg_iconst X (pc := 23) (v := 0) d_R_mix_23 (by decide) ?_
        refine xg_istore_n X (pc := 24) d_R_mix_24 (by decide) rfl ?_
        refine xg_weak [some (.ref (ad 7)), some (.int (nI 0)), none, none, none] ⟨rfl, rfl, trivial⟩ ?_
        exact xg_eq rfl (x_ua_id).symm rfl (loop ⟨h4, h11, h18⟩ 257 0 (by omega) (by omega))
      · refine xg_iconst X (pc := 21) (v := 0) d_R_mix_21 (by decide) ?_
        exact xg_iret X (pc := 22) d_R_mix_22 rfl (rfl) (by show ite _ _ _; rw [if_neg (by first | (simp_all [x_hol, x_pl, x_rp, x_be, x_op, x_os]; done) | ((try simp only [x_op, x_rp, x_pl, x_hol] at *); grind))]; exact ⟨rfl, rfl, rfl⟩)
set_option maxRecDepth 100000 in
set_option maxHeartbeats 4000000 in
theorem c_R_unmix (hd : x_dis ad) : x_Con l M_R_unmix 0 0 ad D cI [.ref (ad 7)] sc ar (fun r sc2 ar2 => if ¬ 0 < sc 14 ∧ ¬ sc 13 = 0 then x_E (some (.int 1)) (upd sc 13 0) (x_ua ar 4 (x_ums (ar 4) 256)) r sc2 ar2 else x_E (some (.int 0)) sc ar r sc2 ar2) := by
  refine x_intro hd [some (.ref (ad 7)), none, none, none, none, none] (by decide) (Nat.le_of_ble_eq_true rfl) rfl ?_
  intro p e s m args below meth c X
  have loop : ¬ 0 < sc 14 ∧ ¬ sc 13 = 0 → ∀ n k : Nat, 256 - k < n → k ≤ 256 → x_G p l e (x_rm 0 0) s m args below meth c M_R_unmix ad D cI (x_A ad) 0 0 (x_Q below args s ad D cI (fun r sc2 ar2 => if ¬ 0 < sc 14 ∧ ¬ sc 13 = 0 then x_E (some (.int 1)) (upd sc 13 0) (x_ua ar 4 (x_ums (ar 4) 256)) r sc2 ar2 else x_E (some (.int 0)) sc ar r sc2 ar2)) 18 [some (.ref (ad 7)), some (.int (nI k)), none, none, none, none] [] sc (x_ua ar 4 (x_ums (ar 4) k)) := by
    intro hc n
    induction n with
    | zero => intro k h _; exact absurd h (Nat.not_lt_zero _)
    | succ n ih =>
      intro k hn hk
      refine xg_iload_n X (pc := 18) d_R_unmix_18 rfl ?_
      refine xg_sipush X (pc := 19) (v := 256) d_R_unmix_19 (by decide) ?_
      refine xg_icmp_ge X (pc := 22) (tgt := 108) d_R_unmix_22 rfl (fun h22 => ?_) (fun h22 => ?_)
      · have hk2 : k = 256 := Nat.le_antisymm hk (x_ge (n := 256) rfl (by decide) (by omega) h22)
        subst hk2
        refine xg_aload_n X (pc := 108) d_R_unmix_108 rfl ?_
        refine xg_iconst X (pc := 109) (v := 0) d_R_unmix_109 (by decide) ?_
        refine xp_R_39 X (pc := 110) rfl d_R_unmix_110 (by decide) ?_
        refine xg_iconst X (pc := 113) (v := 1) d_R_unmix_113 (by decide) ?_
        exact xg_iret X (pc := 114) d_R_unmix_114 rfl (rfl) (by show ite _ _ _; rw [if_pos hc]; exact ⟨rfl, rfl, rfl⟩)
      · have hk3 : k < 256 := x_nge (n := 256) rfl (by decide) (by omega) h22
        refine xg_aload_n X (pc := 25) d_R_unmix_25 rfl ?_
        refine xf_R_13 X (pc := 26) rfl d_R_unmix_26 ?_
        refine xg_iload_n X (pc := 29) d_R_unmix_29 rfl ?_
        refine xa_ld9 X (pc := 30) d_R_unmix_30 (vp_in_nI (by omega) (by decide)) ?_
        refine xg_istore_n X (pc := 31) d_R_unmix_31 (by decide) rfl ?_
        refine xg_aload_n X (pc := 32) d_R_unmix_32 rfl ?_
        refine xf_R_13 X (pc := 33) rfl d_R_unmix_33 ?_
        refine xg_sipush X (pc := 36) (v := 256) d_R_unmix_36 (by decide) ?_
        refine xg_iload_n X (pc := 39) d_R_unmix_39 rfl ?_
        refine xg_iadd X (pc := 40) d_R_unmix_40 ?_
        refine xa_ld9 X (pc := 41) d_R_unmix_41 (x_in256' hk3) ?_
        refine xg_istore_n X (pc := 42) d_R_unmix_42 (by decide) rfl ?_
        refine xg_aload_n X (pc := 43) d_R_unmix_43 rfl ?_
        refine xf_R_13 X (pc := 44) rfl d_R_unmix_44 ?_
        refine xg_sipush X (pc := 47) (v := 512) d_R_unmix_47 (by decide) ?_
        refine xg_iload_n X (pc := 50) d_R_unmix_50 rfl ?_
        refine xg_iadd X (pc := 51) d_R_unmix_51 ?_
        refine xa_ld9 X (pc := 52) d_R_unmix_52 (x_in512' hk3) ?_
        refine xg_istore X (pc := 53) d_R_unmix_53 (by decide) rfl ?_
        refine xg_iload_n X (pc := 55) d_R_unmix_55 rfl ?_
        refine xg_iload_n X (pc := 56) d_R_unmix_56 rfl ?_
        refine xg_iload X (pc := 57) d_R_unmix_57 rfl ?_
        refine xg_iadd X (pc := 59) d_R_unmix_59 ?_
        refine xg_iconst X (pc := 60) (v := 2) d_R_unmix_60 (by decide) ?_
        refine xg_ishr X (pc := 61) d_R_unmix_61 ?_
        refine xg_isub X (pc := 62) d_R_unmix_62 ?_
        refine xg_istore X (pc := 63) d_R_unmix_63 (by decide) rfl ?_
        refine xg_aload_n X (pc := 65) d_R_unmix_65 rfl ?_
        refine xf_R_13 X (pc := 66) rfl d_R_unmix_66 ?_
        refine xg_iload_n X (pc := 69) d_R_unmix_69 rfl ?_
        refine xg_iload X (pc := 70) d_R_unmix_70 rfl ?_
        refine xg_iload X (pc := 72) d_R_unmix_72 rfl ?_
        refine xg_iadd X (pc := 74) d_R_unmix_74 ?_
        refine xa_st9 X (pc := 75) d_R_unmix_75 (vp_in_nI (by omega) (by decide)) ?_
        refine xg_aload_n X (pc := 76) d_R_unmix_76 rfl ?_
        refine xf_R_13 X (pc := 77) rfl d_R_unmix_77 ?_
        refine xg_sipush X (pc := 80) (v := 256) d_R_unmix_80 (by decide) ?_
        refine xg_iload_n X (pc := 83) d_R_unmix_83 rfl ?_
        refine xg_iadd X (pc := 84) d_R_unmix_84 ?_
        refine xg_iload X (pc := 85) d_R_unmix_85 rfl ?_
        refine xa_st9 X (pc := 87) d_R_unmix_87 (x_in256' hk3) ?_
        refine xg_aload_n X (pc := 88) d_R_unmix_88 rfl ?_
        refine xf_R_13 X (pc := 89) rfl d_R_unmix_89 ?_
        refine xg_sipush X (pc := 92) (v := 512) d_R_unmix_92 (by decide) ?_
        refine xg_iload_n X (pc := 95) d_R_unmix_95 rfl ?_
        refine xg_iadd X (pc := 96) d_R_unmix_96 ?_
        refine xg_iload_n X (pc := 97) d_R_unmix_97 rfl ?_
        refine xg_iload X (pc := 98) d_R_unmix_98 rfl ?_
        refine xg_iadd X (pc := 100) d_R_unmix_100 ?_
        refine xa_st9 X (pc := 101) d_R_unmix_101 (x_in512' hk3) ?_
        refine xg_iinc X (pc := 102) d_R_unmix_102 rfl (x_inc (by decide : Int32.ofInt (1) = 1) _) (by decide) rfl ?_
        refine xg_goto X (pc := 105) (tgt := 18) d_R_unmix_105 rfl ?_
        refine xg_weak [some (.ref (ad 7)), some (.int (nI (k + 1))), none, none, none, none] ⟨rfl, by rw [← x_k1], trivial⟩ ?_
        exact xg_eq rfl (by simp only [x_ua_ua, x_ua_at, x_cl0 hk3, x_cl256' hk3, x_cl512' hk3]; rfl) rfl (ih (k + 1) (by omega) (by omega))
  refine xg_aload_n X (pc := 0) d_R_unmix_0 rfl ?_
  refine xf_R_42 X (pc := 1) rfl d_R_unmix_1 ?_
  refine xg_if_gt X (pc := 4) (tgt := 14) d_R_unmix_4 rfl (fun h4 => ?_) (fun h4 => ?_)
  · refine xg_iconst X (pc := 14) (v := 0) d_R_unmix_14 (by decide) ?_
    exact xg_iret X (pc := 15) d_R_unmix_15 rfl (rfl) (by show ite _ _ _; rw [if_neg (by first | (simp_all [x_hol, x_pl, x_rp, x_be, x_op, x_os]; done) | ((try simp only [x_op, x_rp, x_pl, x_hol] at *); grind))]; exact ⟨rfl, rfl, rfl⟩)
  · refine xg_aload_n X (pc := 7) d_R_unmix_7 rfl ?_
    refine xf_R_39 X (pc := 8) rfl d_R_unmix_8 ?_
    refine xg_if_ne X (pc := 11) (tgt := 16) d_R_unmix_11 rfl (fun h11 => ?_) (fun h11 => ?_)
    · refine xg_iconst X (pc := 16) (v := 0) d_R_unmix_16 (by decide) ?_
      refine xg_istore_n X (pc := 17) d_R_unmix_17 (by decide) rfl ?_
      refine xg_weak [some (.ref (ad 7)), some (.int (nI 0)), none, none, none, none] ⟨rfl, rfl, trivial⟩ ?_
      exact xg_eq rfl (x_ua_id).symm rfl (loop ⟨h4, h11⟩ 257 0 (by omega) (by omega))
    · refine xg_iconst X (pc := 14) (v := 0) d_R_unmix_14 (by decide) ?_
      exact xg_iret X (pc := 15) d_R_unmix_15 rfl (rfl) (by show ite _ _ _; rw [if_neg (by first | (simp_all [x_hol, x_pl, x_rp, x_be, x_op, x_os]; done) | ((try simp only [x_op, x_rp, x_pl, x_hol] at *); grind))]; exact ⟨rfl, rfl, rfl⟩)
end C5
