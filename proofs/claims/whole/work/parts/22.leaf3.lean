section C3
variable {l : Launch} {ad : Nat → Nat} {D : va_G} {cI : ClassId} {sc : Nat → Int32} {ar : Nat → Nat → Int32}
set_option maxRecDepth 100000 in
set_option maxHeartbeats 4000000 in
theorem c_R_isPlane (hd : x_dis ad) {x : Int32} : x_Con l M_R_isPlane 0 0 ad D cI [.int x] sc ar (x_E (some (.int (x_b (¬ x < 0 ∧ ¬ 2 < x)))) sc ar) := by
  refine x_intro hd [some (.int x)] (by decide) (Nat.le_of_ble_eq_true rfl) rfl ?_
  intro p e s m args below meth c X
  refine xg_iload_n X (pc := 0) d_R_isPlane_0 rfl ?_
  refine xg_if_lt X (pc := 1) (tgt := 13) d_R_isPlane_1 rfl (fun h1 => ?_) (fun h1 => ?_)
  · refine xg_iconst X (pc := 13) (v := 0) d_R_isPlane_13 (by decide) ?_
    exact xg_iret X (pc := 14) d_R_isPlane_14 rfl (rfl) (by first | exact x_ret1 (by simp_all [x_hol, x_pl, x_rp, x_be, x_op, x_os]) | exact x_ret0 (by simp_all [x_hol, x_pl, x_rp, x_be, x_op, x_os]))
  · refine xg_iload_n X (pc := 4) d_R_isPlane_4 rfl ?_
    refine xg_iconst X (pc := 5) (v := 2) d_R_isPlane_5 (by decide) ?_
    refine xg_icmp_gt X (pc := 6) (tgt := 13) d_R_isPlane_6 rfl (fun h6 => ?_) (fun h6 => ?_)
    · refine xg_iconst X (pc := 13) (v := 0) d_R_isPlane_13 (by decide) ?_
      exact xg_iret X (pc := 14) d_R_isPlane_14 rfl (rfl) (by first | exact x_ret1 (by simp_all [x_hol, x_pl, x_rp, x_be, x_op, x_os]) | exact x_ret0 (by simp_all [x_hol, x_pl, x_rp, x_be, x_op, x_os]))
    · refine xg_iconst X (pc := 9) (v := 1) d_R_isPlane_9 (by decide) ?_
      refine xg_goto X (pc := 10) (tgt := 14) d_R_isPlane_10 rfl ?_
      exact xg_iret X (pc := 14) d_R_isPlane_14 rfl (rfl) (by first | exact x_ret1 (by simp_all [x_hol, x_pl, x_rp, x_be, x_op, x_os]) | exact x_ret0 (by simp_all [x_hol, x_pl, x_rp, x_be, x_op, x_os]))
set_option maxRecDepth 100000 in
set_option maxHeartbeats 4000000 in
theorem c_R_isPlace (hd : x_dis ad) {u v : Int32} : x_Con l M_R_isPlace 0 0 ad D cI [.ref (ad 7), .int u, .int v] sc ar (x_E (some (.int (x_b (x_rp sc u v)))) sc ar) := by
  refine x_intro hd [some (.ref (ad 7)), some (.int u), some (.int v)] (by decide) (Nat.le_of_ble_eq_true rfl) rfl ?_
  intro p e s m args below meth c X
  refine xg_aload_n X (pc := 0) d_R_isPlace_0 rfl ?_
  refine xf_R_22 X (pc := 1) rfl d_R_isPlace_1 ?_
  refine xg_if_eq X (pc := 4) (tgt := 53) d_R_isPlace_4 rfl (fun h4 => ?_) (fun h4 => ?_)
  · refine xg_iconst X (pc := 53) (v := 0) d_R_isPlace_53 (by decide) ?_
    exact xg_iret X (pc := 54) d_R_isPlace_54 rfl (rfl) (by first | exact x_ret1 (by simp_all [x_hol, x_pl, x_rp, x_be, x_op, x_os]) | exact x_ret0 (by simp_all [x_hol, x_pl, x_rp, x_be, x_op, x_os]))
  · refine xg_iload_n X (pc := 7) d_R_isPlace_7 rfl ?_
    refine xg_aload_n X (pc := 8) d_R_isPlace_8 rfl ?_
    refine xf_R_26 X (pc := 9) rfl d_R_isPlace_9 ?_
    refine xg_icmp_lt X (pc := 12) (tgt := 53) d_R_isPlace_12 rfl (fun h12 => ?_) (fun h12 => ?_)
    · refine xg_iconst X (pc := 53) (v := 0) d_R_isPlace_53 (by decide) ?_
      exact xg_iret X (pc := 54) d_R_isPlace_54 rfl (rfl) (by first | exact x_ret1 (by simp_all [x_hol, x_pl, x_rp, x_be, x_op, x_os]) | exact x_ret0 (by simp_all [x_hol, x_pl, x_rp, x_be, x_op, x_os]))
    · refine xg_iload_n X (pc := 15) d_R_isPlace_15 rfl ?_
      refine xg_aload_n X (pc := 16) d_R_isPlace_16 rfl ?_
      refine xf_R_26 X (pc := 17) rfl d_R_isPlace_17 ?_
      refine xg_aload_n X (pc := 20) d_R_isPlace_20 rfl ?_
      refine xf_R_30 X (pc := 21) rfl d_R_isPlace_21 ?_
      refine xg_iadd X (pc := 24) d_R_isPlace_24 ?_
      refine xg_icmp_ge X (pc := 25) (tgt := 53) d_R_isPlace_25 rfl (fun h25 => ?_) (fun h25 => ?_)
      · refine xg_iconst X (pc := 53) (v := 0) d_R_isPlace_53 (by decide) ?_
        exact xg_iret X (pc := 54) d_R_isPlace_54 rfl (rfl) (by first | exact x_ret1 (by simp_all [x_hol, x_pl, x_rp, x_be, x_op, x_os]) | exact x_ret0 (by simp_all [x_hol, x_pl, x_rp, x_be, x_op, x_os]))
      · refine xg_iload_n X (pc := 28) d_R_isPlace_28 rfl ?_
        refine xg_aload_n X (pc := 29) d_R_isPlace_29 rfl ?_
        refine xf_R_33 X (pc := 30) rfl d_R_isPlace_30 ?_
        refine xg_icmp_lt X (pc := 33) (tgt := 53) d_R_isPlace_33 rfl (fun h33 => ?_) (fun h33 => ?_)
        · refine xg_iconst X (pc := 53) (v := 0) d_R_isPlace_53 (by decide) ?_
          exact xg_iret X (pc := 54) d_R_isPlace_54 rfl (rfl) (by first | exact x_ret1 (by simp_all [x_hol, x_pl, x_rp, x_be, x_op, x_os]) | exact x_ret0 (by simp_all [x_hol, x_pl, x_rp, x_be, x_op, x_os]))
        · refine xg_iload_n X (pc := 36) d_R_isPlace_36 rfl ?_
          refine xg_aload_n X (pc := 37) d_R_isPlace_37 rfl ?_
          refine xf_R_33 X (pc := 38) rfl d_R_isPlace_38 ?_
          refine xg_aload_n X (pc := 41) d_R_isPlace_41 rfl ?_
          refine xf_R_36 X (pc := 42) rfl d_R_isPlace_42 ?_
          refine xg_iadd X (pc := 45) d_R_isPlace_45 ?_
          refine xg_icmp_ge X (pc := 46) (tgt := 53) d_R_isPlace_46 rfl (fun h46 => ?_) (fun h46 => ?_)
          · refine xg_iconst X (pc := 53) (v := 0) d_R_isPlace_53 (by decide) ?_
            exact xg_iret X (pc := 54) d_R_isPlace_54 rfl (rfl) (by first | exact x_ret1 (by simp_all [x_hol, x_pl, x_rp, x_be, x_op, x_os]) | exact x_ret0 (by simp_all [x_hol, x_pl, x_rp, x_be, x_op, x_os]))
          · refine xg_iconst X (pc := 49) (v := 1) d_R_isPlace_49 (by decide) ?_
            refine xg_goto X (pc := 50) (tgt := 54) d_R_isPlace_50 rfl ?_
            exact xg_iret X (pc := 54) d_R_isPlace_54 rfl (rfl) (by first | exact x_ret1 (by simp_all [x_hol, x_pl, x_rp, x_be, x_op, x_os]) | exact x_ret0 (by simp_all [x_hol, x_pl, x_rp, x_be, x_op, x_os]))
abbrev x_rc (sc : Nat → Int32) (pl u v : Int32) : Int32 := 256 * pl + 16 * (v - sc 10) + u - sc 9
set_option maxRecDepth 100000 in
set_option maxHeartbeats 4000000 in
theorem c_R_cell (hd : x_dis ad) {pl u v : Int32} : x_Con l M_R_cell 0 0 ad D cI [.ref (ad 7), .int pl, .int u, .int v] sc ar (x_E (some (.int (x_rc sc pl u v))) sc ar) := by
  refine x_intro hd [some (.ref (ad 7)), some (.int pl), some (.int u), some (.int v)] (by decide) (Nat.le_of_ble_eq_true rfl) rfl ?_
  intro p e s m args below meth c X
  refine xg_sipush X (pc := 0) (v := 256) d_R_cell_0 (by decide) ?_
  refine xg_iload_n X (pc := 3) d_R_cell_3 rfl ?_
  refine xg_imul X (pc := 4) d_R_cell_4 ?_
  refine xg_bipush X (pc := 5) (v := 16) d_R_cell_5 (by decide) ?_
  refine xg_iload_n X (pc := 7) d_R_cell_7 rfl ?_
  refine xg_aload_n X (pc := 8) d_R_cell_8 rfl ?_
  refine xf_R_33 X (pc := 9) rfl d_R_cell_9 ?_
  refine xg_isub X (pc := 12) d_R_cell_12 ?_
  refine xg_imul X (pc := 13) d_R_cell_13 ?_
  refine xg_iadd X (pc := 14) d_R_cell_14 ?_
  refine xg_iload_n X (pc := 15) d_R_cell_15 rfl ?_
  refine xg_iadd X (pc := 16) d_R_cell_16 ?_
  refine xg_aload_n X (pc := 17) d_R_cell_17 rfl ?_
  refine xf_R_26 X (pc := 18) rfl d_R_cell_18 ?_
  refine xg_isub X (pc := 21) d_R_cell_21 ?_
  exact xg_iret X (pc := 22) d_R_cell_22 rfl (rfl) (⟨rfl, rfl, rfl⟩)
set_option maxRecDepth 100000 in
set_option maxHeartbeats 4000000 in
theorem c_R_at (hd : x_dis ad) {pl u v : Int32} (hx : (¬ pl < 0 ∧ ¬ 2 < pl) ∧ x_rp sc u v → vp_in (x_rc sc pl u v) 768) : x_Con l M_R_at 1 23 ad D cI [.ref (ad 7), .int pl, .int u, .int v] sc ar (x_E (some (.int (if (¬ pl < 0 ∧ ¬ 2 < pl) ∧ x_rp sc u v then ar 4 (x_rc sc pl u v).toNatClampNeg else 0))) sc ar) := by
  refine x_intro hd [some (.ref (ad 7)), some (.int pl), some (.int u), some (.int v)] (by decide) (Nat.le_of_ble_eq_true rfl) rfl ?_
  intro p e s m args below meth c X
  refine xg_iload_n X (pc := 0) d_R_at_0 rfl ?_
  refine xg_crS1 X (pc := 1) d_R_at_1 (c_R_isPlane hd) s_R_45 ⟨by decide, by decide⟩ (Nat.le_of_ble_eq_true rfl) ?_
  refine xg_if_eq X (pc := 4) (tgt := 31) d_R_at_4 rfl (fun h4 => ?_) (fun h4 => ?_)
  · replace h4 := x_b0 h4
    refine xg_iconst X (pc := 31) (v := 0) d_R_at_31 (by decide) ?_
    exact xg_iret X (pc := 32) d_R_at_32 rfl (rfl) (⟨by (repeat' split) <;> first | rfl | (exfalso; simp_all [x_hol, x_pl, x_rp, x_be, x_op, x_os]), rfl, rfl⟩)
  · replace h4 := x_bn h4
    refine xg_aload_n X (pc := 7) d_R_at_7 rfl ?_
    refine xg_iload_n X (pc := 8) d_R_at_8 rfl ?_
    refine xg_iload_n X (pc := 9) d_R_at_9 rfl ?_
    refine xg_crV2 X (pc := 10) d_R_at_10 (c_R_isPlace hd) s_R_49 ⟨_, rfl⟩ rfl ⟨by decide, by decide⟩ (Nat.le_of_ble_eq_true rfl) ?_
    refine xg_if_eq X (pc := 13) (tgt := 31) d_R_at_13 rfl (fun h13 => ?_) (fun h13 => ?_)
    · replace h13 := x_b0 h13
      refine xg_iconst X (pc := 31) (v := 0) d_R_at_31 (by decide) ?_
      exact xg_iret X (pc := 32) d_R_at_32 rfl (rfl) (⟨by (repeat' split) <;> first | rfl | (exfalso; simp_all [x_hol, x_pl, x_rp, x_be, x_op, x_os]), rfl, rfl⟩)
    · replace h13 := x_bn h13
      refine xg_aload_n X (pc := 16) d_R_at_16 rfl ?_
      refine xf_R_13 X (pc := 17) rfl d_R_at_17 ?_
      refine xg_aload_n X (pc := 20) d_R_at_20 rfl ?_
      refine xg_iload_n X (pc := 21) d_R_at_21 rfl ?_
      refine xg_iload_n X (pc := 22) d_R_at_22 rfl ?_
      refine xg_iload_n X (pc := 23) d_R_at_23 rfl ?_
      refine xg_crV3 X (pc := 24) d_R_at_24 (c_R_cell hd) s_R_53 ⟨_, rfl⟩ rfl ⟨by decide, by decide⟩ (Nat.le_of_ble_eq_true rfl) ?_
      refine xa_ld9 X (pc := 27) d_R_at_27 (hx ⟨h4, h13⟩) ?_
      refine xg_goto X (pc := 28) (tgt := 32) d_R_at_28 rfl ?_
      exact xg_iret X (pc := 32) d_R_at_32 rfl (rfl) (⟨by (repeat' split) <;> first | rfl | (exfalso; simp_all [x_hol, x_pl, x_rp, x_be, x_op, x_os]), rfl, rfl⟩)
set_option maxRecDepth 100000 in
set_option maxHeartbeats 4000000 in
theorem c_R_mixed (hd : x_dis ad) (hb : sc 13 = 0 ∨ sc 13 = 1) : x_Con l M_R_mixed 0 0 ad D cI [.ref (ad 7)] sc ar (x_E (some (.int (sc 13))) sc ar) := by
  refine x_intro hd [some (.ref (ad 7))] (by decide) (Nat.le_of_ble_eq_true rfl) rfl ?_
  intro p e s m args below meth c X
  refine xg_aload_n X (pc := 0) d_R_mixed_0 rfl ?_
  refine xf_R_39 X (pc := 1) rfl d_R_mixed_1 ?_
  exact xg_iret X (pc := 4) d_R_mixed_4 rfl (by rcases hb with h | h <;> rw [h] <;> rfl) (⟨rfl, rfl, rfl⟩)
set_option maxRecDepth 100000 in
set_option maxHeartbeats 4000000 in
theorem c_R_levels (hd : x_dis ad) : x_Con l M_R_levels 0 0 ad D cI [.ref (ad 7)] sc ar (x_E (some (.int (sc 14))) sc ar) := by
  refine x_intro hd [some (.ref (ad 7))] (by decide) (Nat.le_of_ble_eq_true rfl) rfl ?_
  intro p e s m args below meth c X
  refine xg_aload_n X (pc := 0) d_R_levels_0 rfl ?_
  refine xf_R_42 X (pc := 1) rfl d_R_levels_1 ?_
  exact xg_iret X (pc := 4) d_R_levels_4 rfl (rfl) (⟨rfl, rfl, rfl⟩)
set_option maxRecDepth 100000 in
set_option maxHeartbeats 4000000 in
theorem c_R_odd (hd : x_dis ad) {n : Int32} : x_Con l M_R_odd 0 0 ad D cI [.int n] sc ar (x_E (some (.int (x_b (¬ n - n / 2 * 2 = 0)))) sc ar) := by
  refine x_intro hd [some (.int n)] (by decide) (Nat.le_of_ble_eq_true rfl) rfl ?_
  intro p e s m args below meth c X
  refine xg_iload_n X (pc := 0) d_R_odd_0 rfl ?_
  refine xg_iconst X (pc := 1) (v := 2) d_R_odd_1 (by decide) ?_
  refine xg_irem X (pc := 2) d_R_odd_2 (by decide) ?_
  refine xg_if_eq X (pc := 3) (tgt := 10) d_R_odd_3 rfl (fun h3 => ?_) (fun h3 => ?_)
  · refine xg_iconst X (pc := 10) (v := 0) d_R_odd_10 (by decide) ?_
    exact xg_iret X (pc := 11) d_R_odd_11 rfl (rfl) (by first | exact x_ret1 (by simp_all [x_hol, x_pl, x_rp, x_be, x_op, x_os]) | exact x_ret0 (by simp_all [x_hol, x_pl, x_rp, x_be, x_op, x_os]))
  · refine xg_iconst X (pc := 6) (v := 1) d_R_odd_6 (by decide) ?_
    refine xg_goto X (pc := 7) (tgt := 11) d_R_odd_7 rfl ?_
    exact xg_iret X (pc := 11) d_R_odd_11 rfl (rfl) (by first | exact x_ret1 (by simp_all [x_hol, x_pl, x_rp, x_be, x_op, x_os]) | exact x_ret0 (by simp_all [x_hol, x_pl, x_rp, x_be, x_op, x_os]))
abbrev x_pd (k n0 n1 f0 f1 : Int32) : Int32 := if k = 0 then (n0 + n1) >>> (1 &&& 31) else if k = 1 then n0 else (9 * (n0 + n1) - f0 - f1 + 8) >>> (4 &&& 31)
set_option maxRecDepth 100000 in
set_option maxHeartbeats 4000000 in
theorem c_R_predicted (hd : x_dis ad) {n0 n1 f0 f1 : Int32} : x_Con l M_R_predicted 0 0 ad D cI [.ref (ad 7), .int n0, .int n1, .int f0, .int f1] sc ar (x_E (some (.int (x_pd (sc 17) n0 n1 f0 f1))) sc ar) := by
  refine x_intro hd [some (.ref (ad 7)), some (.int n0), some (.int n1), some (.int f0), some (.int f1)] (by decide) (Nat.le_of_ble_eq_true rfl) rfl ?_
  intro p e s m args below meth c X
  refine xg_aload_n X (pc := 0) d_R_predicted_0 rfl ?_
  refine xf_R_67 X (pc := 1) rfl d_R_predicted_1 ?_
  refine xg_if_ne X (pc := 4) (tgt := 13) d_R_predicted_4 rfl (fun h4 => ?_) (fun h4 => ?_)
  · refine xg_aload_n X (pc := 13) d_R_predicted_13 rfl ?_
    refine xf_R_67 X (pc := 14) rfl d_R_predicted_14 ?_
    refine xg_iconst X (pc := 17) (v := 1) d_R_predicted_17 (by decide) ?_
    refine xg_icmp_ne X (pc := 18) (tgt := 25) d_R_predicted_18 rfl (fun h18 => ?_) (fun h18 => ?_)
    · refine xg_bipush X (pc := 25) (v := 9) d_R_predicted_25 (by decide) ?_
      refine xg_iload_n X (pc := 27) d_R_predicted_27 rfl ?_
      refine xg_iload_n X (pc := 28) d_R_predicted_28 rfl ?_
      refine xg_iadd X (pc := 29) d_R_predicted_29 ?_
      refine xg_imul X (pc := 30) d_R_predicted_30 ?_
      refine xg_iload_n X (pc := 31) d_R_predicted_31 rfl ?_
      refine xg_isub X (pc := 32) d_R_predicted_32 ?_
      refine xg_iload X (pc := 33) d_R_predicted_33 rfl ?_
      refine xg_isub X (pc := 35) d_R_predicted_35 ?_
      refine xg_bipush X (pc := 36) (v := 8) d_R_predicted_36 (by decide) ?_
      refine xg_iadd X (pc := 38) d_R_predicted_38 ?_
      refine xg_iconst X (pc := 39) (v := 4) d_R_predicted_39 (by decide) ?_
      refine xg_ishr X (pc := 40) d_R_predicted_40 ?_
      exact xg_iret X (pc := 41) d_R_predicted_41 rfl (rfl) (⟨by unfold x_pd; (repeat' split) <;> first | rfl | (exfalso; simp_all [x_hol, x_pl, x_rp, x_be, x_op, x_os]), rfl, rfl⟩)
    · refine xg_iload_n X (pc := 21) d_R_predicted_21 rfl ?_
      refine xg_goto X (pc := 22) (tgt := 41) d_R_predicted_22 rfl ?_
      exact xg_iret X (pc := 41) d_R_predicted_41 rfl (rfl) (⟨by unfold x_pd; (repeat' split) <;> first | rfl | (exfalso; simp_all [x_hol, x_pl, x_rp, x_be, x_op, x_os]), rfl, rfl⟩)
  · refine xg_iload_n X (pc := 7) d_R_predicted_7 rfl ?_
    refine xg_iload_n X (pc := 8) d_R_predicted_8 rfl ?_
    refine xg_iadd X (pc := 9) d_R_predicted_9 ?_
    refine xg_iconst X (pc := 10) (v := 1) d_R_predicted_10 (by decide) ?_
    refine xg_ishr X (pc := 11) d_R_predicted_11 ?_
    exact xg_iret X (pc := 12) d_R_predicted_12 rfl (rfl) (⟨by unfold x_pd; (repeat' split) <;> first | rfl | (exfalso; simp_all [x_hol, x_pl, x_rp, x_be, x_op, x_os]), rfl, rfl⟩)
abbrev x_up (k n0 n1 : Int32) : Int32 := if k = 1 then n1 >>> (1 &&& 31) else (n0 + n1 + 2) >>> (2 &&& 31)
set_option maxRecDepth 100000 in
set_option maxHeartbeats 4000000 in
theorem c_R_updated (hd : x_dis ad) {n0 n1 : Int32} : x_Con l M_R_updated 0 0 ad D cI [.ref (ad 7), .int n0, .int n1] sc ar (x_E (some (.int (x_up (sc 17) n0 n1))) sc ar) := by
  refine x_intro hd [some (.ref (ad 7)), some (.int n0), some (.int n1)] (by decide) (Nat.le_of_ble_eq_true rfl) rfl ?_
  intro p e s m args below meth c X
  refine xg_aload_n X (pc := 0) d_R_updated_0 rfl ?_
  refine xf_R_67 X (pc := 1) rfl d_R_updated_1 ?_
  refine xg_iconst X (pc := 4) (v := 1) d_R_updated_4 (by decide) ?_
  refine xg_icmp_ne X (pc := 5) (tgt := 14) d_R_updated_5 rfl (fun h5 => ?_) (fun h5 => ?_)
  · refine xg_iload_n X (pc := 14) d_R_updated_14 rfl ?_
    refine xg_iload_n X (pc := 15) d_R_updated_15 rfl ?_
    refine xg_iadd X (pc := 16) d_R_updated_16 ?_
    refine xg_iconst X (pc := 17) (v := 2) d_R_updated_17 (by decide) ?_
    refine xg_iadd X (pc := 18) d_R_updated_18 ?_
    refine xg_iconst X (pc := 19) (v := 2) d_R_updated_19 (by decide) ?_
    refine xg_ishr X (pc := 20) d_R_updated_20 ?_
    exact xg_iret X (pc := 21) d_R_updated_21 rfl (rfl) (⟨by unfold x_up; (repeat' split) <;> first | rfl | (exfalso; simp_all [x_hol, x_pl, x_rp, x_be, x_op, x_os]), rfl, rfl⟩)
  · refine xg_iload_n X (pc := 8) d_R_updated_8 rfl ?_
    refine xg_iconst X (pc := 9) (v := 1) d_R_updated_9 (by decide) ?_
    refine xg_ishr X (pc := 10) d_R_updated_10 ?_
    refine xg_goto X (pc := 11) (tgt := 21) d_R_updated_11 rfl ?_
    exact xg_iret X (pc := 21) d_R_updated_21 rfl (rfl) (⟨by unfold x_up; (repeat' split) <;> first | rfl | (exfalso; simp_all [x_hol, x_pl, x_rp, x_be, x_op, x_os]), rfl, rfl⟩)
set_option maxRecDepth 100000 in
set_option maxHeartbeats 4000000 in
theorem c_R_scale (hd : x_dis ad) {d : Int32} : x_Con l M_R_scale 0 0 ad D cI [.int d] sc ar (x_E (some (.int (1 <<< ((d - 1) &&& 31)))) sc ar) := by
  refine x_intro hd [some (.int d)] (by decide) (Nat.le_of_ble_eq_true rfl) rfl ?_
  intro p e s m args below meth c X
  refine xg_iconst X (pc := 0) (v := 1) d_R_scale_0 (by decide) ?_
  refine xg_iload_n X (pc := 1) d_R_scale_1 rfl ?_
  refine xg_iconst X (pc := 2) (v := 1) d_R_scale_2 (by decide) ?_
  refine xg_isub X (pc := 3) d_R_scale_3 ?_
  refine xg_ishl X (pc := 4) d_R_scale_4 ?_
  exact xg_iret X (pc := 5) d_R_scale_5 rfl (rfl) (⟨rfl, rfl, rfl⟩)
set_option maxRecDepth 100000 in
set_option maxHeartbeats 4000000 in
theorem c_R_isLevel (hd : x_dis ad) {d : Int32} : x_Con l M_R_isLevel 0 0 ad D cI [.ref (ad 7), .int d] sc ar (x_E (some (.int (x_b (¬ d < 1 ∧ ¬ sc 14 < d)))) sc ar) := by
  refine x_intro hd [some (.ref (ad 7)), some (.int d)] (by decide) (Nat.le_of_ble_eq_true rfl) rfl ?_
  intro p e s m args below meth c X
  refine xg_iload_n X (pc := 0) d_R_isLevel_0 rfl ?_
  refine xg_iconst X (pc := 1) (v := 1) d_R_isLevel_1 (by decide) ?_
  refine xg_icmp_lt X (pc := 2) (tgt := 17) d_R_isLevel_2 rfl (fun h2 => ?_) (fun h2 => ?_)
  · refine xg_iconst X (pc := 17) (v := 0) d_R_isLevel_17 (by decide) ?_
    exact xg_iret X (pc := 18) d_R_isLevel_18 rfl (rfl) (by first | exact x_ret1 (by simp_all [x_hol, x_pl, x_rp, x_be, x_op, x_os]) | exact x_ret0 (by simp_all [x_hol, x_pl, x_rp, x_be, x_op, x_os]))
  · refine xg_iload_n X (pc := 5) d_R_isLevel_5 rfl ?_
    refine xg_aload_n X (pc := 6) d_R_isLevel_6 rfl ?_
    refine xf_R_42 X (pc := 7) rfl d_R_isLevel_7 ?_
    refine xg_icmp_gt X (pc := 10) (tgt := 17) d_R_isLevel_10 rfl (fun h10 => ?_) (fun h10 => ?_)
    · refine xg_iconst X (pc := 17) (v := 0) d_R_isLevel_17 (by decide) ?_
      exact xg_iret X (pc := 18) d_R_isLevel_18 rfl (rfl) (by first | exact x_ret1 (by simp_all [x_hol, x_pl, x_rp, x_be, x_op, x_os]) | exact x_ret0 (by simp_all [x_hol, x_pl, x_rp, x_be, x_op, x_os]))
    · refine xg_iconst X (pc := 13) (v := 1) d_R_isLevel_13 (by decide) ?_
      refine xg_goto X (pc := 14) (tgt := 18) d_R_isLevel_14 rfl ?_
      exact xg_iret X (pc := 18) d_R_isLevel_18 rfl (rfl) (by first | exact x_ret1 (by simp_all [x_hol, x_pl, x_rp, x_be, x_op, x_os]) | exact x_ret0 (by simp_all [x_hol, x_pl, x_rp, x_be, x_op, x_os]))
set_option maxRecDepth 100000 in
set_option maxHeartbeats 4000000 in
theorem c_R_isBand (hd : x_dis ad) {o : Int32} : x_Con l M_R_isBand 0 0 ad D cI [.int o] sc ar (x_E (some (.int (x_b (¬ o < 0 ∧ ¬ 3 < o)))) sc ar) := by
  refine x_intro hd [some (.int o)] (by decide) (Nat.le_of_ble_eq_true rfl) rfl ?_
  intro p e s m args below meth c X
  refine xg_iload_n X (pc := 0) d_R_isBand_0 rfl ?_
  refine xg_if_lt X (pc := 1) (tgt := 13) d_R_isBand_1 rfl (fun h1 => ?_) (fun h1 => ?_)
  · refine xg_iconst X (pc := 13) (v := 0) d_R_isBand_13 (by decide) ?_
    exact xg_iret X (pc := 14) d_R_isBand_14 rfl (rfl) (by first | exact x_ret1 (by simp_all [x_hol, x_pl, x_rp, x_be, x_op, x_os]) | exact x_ret0 (by simp_all [x_hol, x_pl, x_rp, x_be, x_op, x_os]))
  · refine xg_iload_n X (pc := 4) d_R_isBand_4 rfl ?_
    refine xg_iconst X (pc := 5) (v := 3) d_R_isBand_5 (by decide) ?_
    refine xg_icmp_gt X (pc := 6) (tgt := 13) d_R_isBand_6 rfl (fun h6 => ?_) (fun h6 => ?_)
    · refine xg_iconst X (pc := 13) (v := 0) d_R_isBand_13 (by decide) ?_
      exact xg_iret X (pc := 14) d_R_isBand_14 rfl (rfl) (by first | exact x_ret1 (by simp_all [x_hol, x_pl, x_rp, x_be, x_op, x_os]) | exact x_ret0 (by simp_all [x_hol, x_pl, x_rp, x_be, x_op, x_os]))
    · refine xg_iconst X (pc := 9) (v := 1) d_R_isBand_9 (by decide) ?_
      refine xg_goto X (pc := 10) (tgt := 14) d_R_isBand_10 rfl ?_
      exact xg_iret X (pc := 14) d_R_isBand_14 rfl (rfl) (by first | exact x_ret1 (by simp_all [x_hol, x_pl, x_rp, x_be, x_op, x_os]) | exact x_ret0 (by simp_all [x_hol, x_pl, x_rp, x_be, x_op, x_os]))
set_option maxRecDepth 100000 in
set_option maxHeartbeats 4000000 in
theorem c_R_shift (hd : x_dis ad) {d o w : Int32} : x_Con l M_R_shift 1 20 ad D cI [.int d, .int o, .int w] sc ar (x_E (some (.int (x_sh d o w))) sc ar) := by
  refine x_intro hd [some (.int d), some (.int o), some (.int w), none] (by decide) (Nat.le_of_ble_eq_true rfl) rfl ?_
  intro p e s m args below meth c X
  refine xg_iload_n X (pc := 0) d_R_shift_0 rfl ?_
  refine xg_if_eq X (pc := 1) (tgt := 10) d_R_shift_1 rfl (fun h1 => ?_) (fun h1 => ?_)
  · refine xg_iload_n X (pc := 10) d_R_shift_10 rfl ?_
    refine xg_iconst X (pc := 11) (v := 1) d_R_shift_11 (by decide) ?_
    refine xg_iand X (pc := 12) d_R_shift_12 ?_
    refine xg_istore_n X (pc := 13) d_R_shift_13 (by decide) rfl ?_
    refine xg_iload_n X (pc := 14) d_R_shift_14 rfl ?_
    refine xg_crS1 X (pc := 15) d_R_shift_15 (c_R_scale hd) s_R_113 ⟨by decide, by decide⟩ (Nat.le_of_ble_eq_true rfl) ?_
    refine xg_iload_n X (pc := 18) d_R_shift_18 rfl ?_
    refine xg_imul X (pc := 19) d_R_shift_19 ?_
    exact xg_iret X (pc := 20) d_R_shift_20 rfl (rfl) (⟨by unfold x_sh; (repeat' split) <;> first | rfl | (exfalso; simp_all [x_hol, x_pl, x_rp, x_be, x_op, x_os]), rfl, rfl⟩)
  · refine xg_iload_n X (pc := 4) d_R_shift_4 rfl ?_
    refine xg_iconst X (pc := 5) (v := 1) d_R_shift_5 (by decide) ?_
    refine xg_ishr X (pc := 6) d_R_shift_6 ?_
    refine xg_goto X (pc := 7) (tgt := 13) d_R_shift_7 rfl ?_
    refine xg_istore_n X (pc := 13) d_R_shift_13 (by decide) rfl ?_
    refine xg_iload_n X (pc := 14) d_R_shift_14 rfl ?_
    refine xg_crS1 X (pc := 15) d_R_shift_15 (c_R_scale hd) s_R_113 ⟨by decide, by decide⟩ (Nat.le_of_ble_eq_true rfl) ?_
    refine xg_iload_n X (pc := 18) d_R_shift_18 rfl ?_
    refine xg_imul X (pc := 19) d_R_shift_19 ?_
    exact xg_iret X (pc := 20) d_R_shift_20 rfl (rfl) (⟨by unfold x_sh; (repeat' split) <;> first | rfl | (exfalso; simp_all [x_hol, x_pl, x_rp, x_be, x_op, x_os]), rfl, rfl⟩)
set_option maxRecDepth 100000 in
set_option maxHeartbeats 4000000 in
theorem c_R_belongs (hd : x_dis ad) {d o u v : Int32} (hz : ¬ 2 * (1 : Int32) <<< ((d - 1) &&& 31) = 0) : x_Con l M_R_belongs 2 43 ad D cI [.int d, .int o, .int u, .int v] sc ar (x_E (some (.int (x_b (x_be d o u v)))) sc ar) := by
  refine x_intro hd [some (.int d), some (.int o), some (.int u), some (.int v), none] (by decide) (Nat.le_of_ble_eq_true rfl) rfl ?_
  intro p e s m args below meth c X
  refine xg_iconst X (pc := 0) (v := 2) d_R_belongs_0 (by decide) ?_
  refine xg_iload_n X (pc := 1) d_R_belongs_1 rfl ?_
  refine xg_crS1 X (pc := 2) d_R_belongs_2 (c_R_scale hd) s_R_113 ⟨by decide, by decide⟩ (Nat.le_of_ble_eq_true rfl) ?_
  refine xg_imul X (pc := 5) d_R_belongs_5 ?_
  refine xg_istore X (pc := 6) d_R_belongs_6 (by decide) rfl ?_
  refine xg_iload_n X (pc := 8) d_R_belongs_8 rfl ?_
  refine xg_iload_n X (pc := 9) d_R_belongs_9 rfl ?_
  refine xg_iload_n X (pc := 10) d_R_belongs_10 rfl ?_
  refine xg_iconst X (pc := 11) (v := 0) d_R_belongs_11 (by decide) ?_
  refine xg_crS3 X (pc := 12) d_R_belongs_12 (c_R_shift hd) s_R_126 ⟨by decide, by decide⟩ (Nat.le_of_ble_eq_true rfl) ?_
  refine xg_isub X (pc := 15) d_R_belongs_15 ?_
  refine xg_iload X (pc := 16) d_R_belongs_16 rfl ?_
  refine xg_irem X (pc := 18) d_R_belongs_18 (hz) ?_
  refine xg_if_ne X (pc := 19) (tgt := 40) d_R_belongs_19 rfl (fun h19 => ?_) (fun h19 => ?_)
  · refine xg_iconst X (pc := 40) (v := 0) d_R_belongs_40 (by decide) ?_
    exact xg_iret X (pc := 41) d_R_belongs_41 rfl (rfl) (by first | exact x_ret1 (by simp_all [x_hol, x_pl, x_rp, x_be, x_op, x_os]) | exact x_ret0 (by simp_all [x_hol, x_pl, x_rp, x_be, x_op, x_os]))
  · refine xg_iload_n X (pc := 22) d_R_belongs_22 rfl ?_
    refine xg_iload_n X (pc := 23) d_R_belongs_23 rfl ?_
    refine xg_iload_n X (pc := 24) d_R_belongs_24 rfl ?_
    refine xg_iconst X (pc := 25) (v := 1) d_R_belongs_25 (by decide) ?_
    refine xg_crS3 X (pc := 26) d_R_belongs_26 (c_R_shift hd) s_R_126 ⟨by decide, by decide⟩ (Nat.le_of_ble_eq_true rfl) ?_
    refine xg_isub X (pc := 29) d_R_belongs_29 ?_
    refine xg_iload X (pc := 30) d_R_belongs_30 rfl ?_
    refine xg_irem X (pc := 32) d_R_belongs_32 (hz) ?_
    refine xg_if_ne X (pc := 33) (tgt := 40) d_R_belongs_33 rfl (fun h33 => ?_) (fun h33 => ?_)
    · refine xg_iconst X (pc := 40) (v := 0) d_R_belongs_40 (by decide) ?_
      exact xg_iret X (pc := 41) d_R_belongs_41 rfl (rfl) (by first | exact x_ret1 (by simp_all [x_hol, x_pl, x_rp, x_be, x_op, x_os]) | exact x_ret0 (by simp_all [x_hol, x_pl, x_rp, x_be, x_op, x_os]))
    · refine xg_iconst X (pc := 36) (v := 1) d_R_belongs_36 (by decide) ?_
      refine xg_goto X (pc := 37) (tgt := 41) d_R_belongs_37 rfl ?_
      exact xg_iret X (pc := 41) d_R_belongs_41 rfl (rfl) (by first | exact x_ret1 (by simp_all [x_hol, x_pl, x_rp, x_be, x_op, x_os]) | exact x_ret0 (by simp_all [x_hol, x_pl, x_rp, x_be, x_op, x_os]))
def x_ram (v : Int32) : Int64 := if 0 ≤ v then v.toInt64 else -v.toInt64
set_option maxRecDepth 100000 in
set_option maxHeartbeats 4000000 in
theorem c_R_amount (hd : x_dis ad) {v : Int32} : x_Con l M_R_amount 0 0 ad D cI [.int v] sc ar (x_E (some (.long (x_ram v))) sc ar) := by
  refine x_intro hd [some (.int v)] (by decide) (Nat.le_of_ble_eq_true rfl) rfl ?_
  intro p e s m args below meth c X
  refine xg_iload_n X (pc := 0) d_R_amount_0 rfl ?_
  refine xg_if_ge X (pc := 1) (tgt := 10) d_R_amount_1 rfl (fun h1 => ?_) (fun h1 => ?_)
  · refine xg_iload_n X (pc := 10) d_R_amount_10 rfl ?_
    refine xg_i2l X (pc := 11) d_R_amount_11 ?_
    exact xg_lret X (pc := 12) d_R_amount_12 rfl (⟨by unfold x_ram; (repeat' split) <;> first | rfl | (exfalso; simp_all [x_hol, x_pl, x_rp, x_be, x_op, x_os]), rfl, rfl⟩)
  · refine xg_iload_n X (pc := 4) d_R_amount_4 rfl ?_
    refine xg_i2l X (pc := 5) d_R_amount_5 ?_
    refine xg_lneg X (pc := 6) d_R_amount_6 ?_
    refine xg_goto X (pc := 7) (tgt := 12) d_R_amount_7 rfl ?_
    exact xg_lret X (pc := 12) d_R_amount_12 rfl (⟨by unfold x_ram; (repeat' split) <;> first | rfl | (exfalso; simp_all [x_hol, x_pl, x_rp, x_be, x_op, x_os]), rfl, rfl⟩)
abbrev x_rth (v t : Int32) : Int32 := (if 0 ≤ v then (if lg_cmp (x_ram v / t.toInt64) 0 = 0 then 0 else x_ram v / t.toInt64 * t.toInt64 + (t / 2).toInt64) else -(if lg_cmp (x_ram v / t.toInt64) 0 = 0 then 0 else x_ram v / t.toInt64 * t.toInt64 + (t / 2).toInt64)).toInt32
set_option maxRecDepth 100000 in
set_option maxHeartbeats 4000000 in
theorem c_R_thinned (hd : x_dis ad) {v t : Int32} (ht : ¬ t.toInt64 = 0) : x_Con l M_R_thinned 1 20 ad D cI [.int v, .int t] sc ar (x_E (some (.int (x_rth v t))) sc ar) := by
  refine x_intro hd [some (.int v), some (.int t), none, none, none, none] (by decide) (Nat.le_of_ble_eq_true rfl) rfl ?_
  intro p e s m args below meth c X
  refine xg_iload_n X (pc := 0) d_R_thinned_0 rfl ?_
  refine xg_crS1 X (pc := 1) d_R_thinned_1 (c_R_amount hd) s_R_141 ⟨by decide, by decide⟩ (Nat.le_of_ble_eq_true rfl) ?_
  refine xg_iload_n X (pc := 4) d_R_thinned_4 rfl ?_
  refine xg_i2l X (pc := 5) d_R_thinned_5 ?_
  refine xg_ldiv X (pc := 6) d_R_thinned_6 (ht) ?_
  refine xg_lstore_n X (pc := 7) d_R_thinned_7 (by decide) rfl ?_
  refine xg_lload_n X (pc := 8) d_R_thinned_8 rfl ?_
  refine xg_lconst X (pc := 9) (v := 0) d_R_thinned_9 (by decide) ?_
  refine xg_lcmp X (pc := 10) d_R_thinned_10 ?_
  refine xg_if_ne X (pc := 11) (tgt := 18) d_R_thinned_11 rfl (fun h11 => ?_) (fun h11 => ?_)
  · refine xg_lload_n X (pc := 18) d_R_thinned_18 rfl ?_
    refine xg_iload_n X (pc := 19) d_R_thinned_19 rfl ?_
    refine xg_i2l X (pc := 20) d_R_thinned_20 ?_
    refine xg_lmul X (pc := 21) d_R_thinned_21 ?_
    refine xg_iload_n X (pc := 22) d_R_thinned_22 rfl ?_
    refine xg_iconst X (pc := 23) (v := 2) d_R_thinned_23 (by decide) ?_
    refine xg_idiv X (pc := 24) d_R_thinned_24 (by decide) ?_
    refine xg_i2l X (pc := 25) d_R_thinned_25 ?_
    refine xg_ladd X (pc := 26) d_R_thinned_26 ?_
    refine xg_lstore X (pc := 27) d_R_thinned_27 (by decide) rfl ?_
    refine xg_iload_n X (pc := 29) d_R_thinned_29 rfl ?_
    refine xg_if_ge X (pc := 30) (tgt := 39) d_R_thinned_30 rfl (fun h30 => ?_) (fun h30 => ?_)
    · refine xg_lload X (pc := 39) d_R_thinned_39 rfl ?_
      refine xg_l2i X (pc := 41) d_R_thinned_41 ?_
      exact xg_iret X (pc := 42) d_R_thinned_42 rfl (rfl) (⟨by unfold x_rth; (repeat' split) <;> first | rfl | (exfalso; simp_all [x_hol, x_pl, x_rp, x_be, x_op, x_os]), rfl, rfl⟩)
    · refine xg_lload X (pc := 33) d_R_thinned_33 rfl ?_
      refine xg_lneg X (pc := 35) d_R_thinned_35 ?_
      refine xg_goto X (pc := 36) (tgt := 41) d_R_thinned_36 rfl ?_
      refine xg_l2i X (pc := 41) d_R_thinned_41 ?_
      exact xg_iret X (pc := 42) d_R_thinned_42 rfl (rfl) (⟨by unfold x_rth; (repeat' split) <;> first | rfl | (exfalso; simp_all [x_hol, x_pl, x_rp, x_be, x_op, x_os]), rfl, rfl⟩)
  · refine xg_lconst X (pc := 14) (v := 0) d_R_thinned_14 (by decide) ?_
    refine xg_goto X (pc := 15) (tgt := 27) d_R_thinned_15 rfl ?_
    refine xg_lstore X (pc := 27) d_R_thinned_27 (by decide) rfl ?_
    refine xg_iload_n X (pc := 29) d_R_thinned_29 rfl ?_
    refine xg_if_ge X (pc := 30) (tgt := 39) d_R_thinned_30 rfl (fun h30 => ?_) (fun h30 => ?_)
    · refine xg_lload X (pc := 39) d_R_thinned_39 rfl ?_
      refine xg_l2i X (pc := 41) d_R_thinned_41 ?_
      exact xg_iret X (pc := 42) d_R_thinned_42 rfl (rfl) (⟨by unfold x_rth; (repeat' split) <;> first | rfl | (exfalso; simp_all [x_hol, x_pl, x_rp, x_be, x_op, x_os]), rfl, rfl⟩)
    · refine xg_lload X (pc := 33) d_R_thinned_33 rfl ?_
      refine xg_lneg X (pc := 35) d_R_thinned_35 ?_
      refine xg_goto X (pc := 36) (tgt := 41) d_R_thinned_36 rfl ?_
      refine xg_l2i X (pc := 41) d_R_thinned_41 ?_
      exact xg_iret X (pc := 42) d_R_thinned_42 rfl (rfl) (⟨by unfold x_rth; (repeat' split) <;> first | rfl | (exfalso; simp_all [x_hol, x_pl, x_rp, x_be, x_op, x_os]), rfl, rfl⟩)
set_option maxRecDepth 100000 in
set_option maxHeartbeats 4000000 in
theorem c_R_kernel (hd : x_dis ad) {d : Int32} (hx : ¬ d < 1 ∧ ¬ sc 14 < d → vp_in (d - 1) 4) : x_Con l M_R_kernel 1 21 ad D cI [.ref (ad 7), .int d] sc ar (x_E (some (.int (if ¬ d < 1 ∧ ¬ sc 14 < d then ar 3 (d - 1).toNatClampNeg else -1))) sc ar) := by
  refine x_intro hd [some (.ref (ad 7)), some (.int d)] (by decide) (Nat.le_of_ble_eq_true rfl) rfl ?_
  intro p e s m args below meth c X
  refine xg_aload_n X (pc := 0) d_R_kernel_0 rfl ?_
  refine xg_iload_n X (pc := 1) d_R_kernel_1 rfl ?_
  refine xg_crV1 X (pc := 2) d_R_kernel_2 (c_R_isLevel hd) s_R_123 ⟨_, rfl⟩ rfl ⟨by decide, by decide⟩ (Nat.le_of_ble_eq_true rfl) ?_
  refine xg_if_eq X (pc := 5) (tgt := 19) d_R_kernel_5 rfl (fun h5 => ?_) (fun h5 => ?_)
  · replace h5 := x_b0 h5
    refine xg_iconst X (pc := 19) (v := -1) d_R_kernel_19 (by decide) ?_
    exact xg_iret X (pc := 20) d_R_kernel_20 rfl (rfl) (⟨by (repeat' split) <;> first | rfl | (exfalso; simp_all [x_hol, x_pl, x_rp, x_be, x_op, x_os]), rfl, rfl⟩)
  · replace h5 := x_bn h5
    refine xg_aload_n X (pc := 8) d_R_kernel_8 rfl ?_
    refine xf_R_7 X (pc := 9) rfl d_R_kernel_9 ?_
    refine xg_iload_n X (pc := 12) d_R_kernel_12 rfl ?_
    refine xg_iconst X (pc := 13) (v := 1) d_R_kernel_13 (by decide) ?_
    refine xg_isub X (pc := 14) d_R_kernel_14 ?_
    refine xa_ld8 X (pc := 15) d_R_kernel_15 (hx h5) ?_
    refine xg_goto X (pc := 16) (tgt := 20) d_R_kernel_16 rfl ?_
    exact xg_iret X (pc := 20) d_R_kernel_20 rfl (rfl) (⟨by (repeat' split) <;> first | rfl | (exfalso; simp_all [x_hol, x_pl, x_rp, x_be, x_op, x_os]), rfl, rfl⟩)
end C3
