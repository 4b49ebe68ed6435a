section C2
variable {l : Launch} {ad : Nat → Nat} {D : va_G} {cI : ClassId} {sc : Nat → Int32} {ar : Nat → Nat → Int32}
set_option maxRecDepth 100000 in
set_option maxHeartbeats 4000000 in
theorem c_S_holds (hd : x_dis ad) {z : Int64} {j : Nat} (hj : j < 2) : x_Con l M_S_holds 0 0 ad D cI [.ref (ad (j + 2)), .long z] sc ar (x_E (some (.int (x_b (x_hol sc j z)))) sc ar) := by
  refine x_intro hd [some (.ref (ad (j + 2))), some (.long z), none] (by decide) (Nat.le_of_ble_eq_true rfl) rfl ?_
  intro p e s m args below meth c X
  refine xg_lload_n X (pc := 0) d_S_holds_0 rfl ?_
  refine xg_aload_n X (pc := 1) d_S_holds_1 rfl ?_
  refine xf_S_13_j X (pc := 2) hj rfl d_S_holds_2 ?_
  refine xg_i2l X (pc := 5) d_S_holds_5 ?_
  refine xg_lcmp X (pc := 6) d_S_holds_6 ?_
  refine xg_if_lt X (pc := 7) (tgt := 29) d_S_holds_7 rfl (fun h7 => ?_) (fun h7 => ?_)
  · refine xg_iconst X (pc := 29) (v := 0) d_S_holds_29 (by decide) ?_
    exact xg_iret X (pc := 30) d_S_holds_30 rfl (rfl) (by first | exact x_ret1 (by simp_all [x_hol, x_pl, x_rp, x_be, x_op, x_os]) | exact x_ret0 (by simp_all [x_hol, x_pl, x_rp, x_be, x_op, x_os]))
  · refine xg_lload_n X (pc := 10) d_S_holds_10 rfl ?_
    refine xg_aload_n X (pc := 11) d_S_holds_11 rfl ?_
    refine xf_S_13_j X (pc := 12) hj rfl d_S_holds_12 ?_
    refine xg_aload_n X (pc := 15) d_S_holds_15 rfl ?_
    refine xf_S_16_j X (pc := 16) hj rfl d_S_holds_16 ?_
    refine xg_iadd X (pc := 19) d_S_holds_19 ?_
    refine xg_i2l X (pc := 20) d_S_holds_20 ?_
    refine xg_lcmp X (pc := 21) d_S_holds_21 ?_
    refine xg_if_ge X (pc := 22) (tgt := 29) d_S_holds_22 rfl (fun h22 => ?_) (fun h22 => ?_)
    · refine xg_iconst X (pc := 29) (v := 0) d_S_holds_29 (by decide) ?_
      exact xg_iret X (pc := 30) d_S_holds_30 rfl (rfl) (by first | exact x_ret1 (by simp_all [x_hol, x_pl, x_rp, x_be, x_op, x_os]) | exact x_ret0 (by simp_all [x_hol, x_pl, x_rp, x_be, x_op, x_os]))
    · refine xg_iconst X (pc := 25) (v := 1) d_S_holds_25 (by decide) ?_
      refine xg_goto X (pc := 26) (tgt := 30) d_S_holds_26 rfl ?_
      exact xg_iret X (pc := 30) d_S_holds_30 rfl (rfl) (by first | exact x_ret1 (by simp_all [x_hol, x_pl, x_rp, x_be, x_op, x_os]) | exact x_ret0 (by simp_all [x_hol, x_pl, x_rp, x_be, x_op, x_os]))
abbrev x_cp (sc : Nat → Int32) (pl : Int32) (u v : Int64) : Int32 := if x_pl pl ∧ x_hol sc 0 u ∧ x_hol sc 1 v then pl * 256 + x_off sc 0 u + x_off sc 1 v else -1
set_option maxRecDepth 100000 in
set_option maxHeartbeats 4000000 in
theorem c_T_cellOfPlace (hd : x_dis ad) {pl : Int32} {u v : Int64} : x_Con l M_T_cellOfPlace 1 22 ad D cI [.ref (ad 0), .int pl, .long u, .long v] sc ar (x_E (some (.int (x_cp sc pl u v))) sc ar) := by
  refine x_intro hd [some (.ref (ad 0)), some (.int pl), some (.long u), none, some (.long v), none] (by decide) (Nat.le_of_ble_eq_true rfl) rfl ?_
  intro p e s m args below meth c X
  refine xg_iload_n X (pc := 0) d_T_cellOfPlace_0 rfl ?_
  refine xg_crS1 X (pc := 1) d_T_cellOfPlace_1 (c_T_isPlane hd) s_T_115 ⟨by decide, by decide⟩ (Nat.le_of_ble_eq_true rfl) ?_
  refine xg_if_eq X (pc := 4) (tgt := 30) d_T_cellOfPlace_4 rfl (fun h4 => ?_) (fun h4 => ?_)
  · replace h4 := x_b0 h4
    refine xg_iconst X (pc := 30) (v := -1) d_T_cellOfPlace_30 (by decide) ?_
    exact xg_iret X (pc := 31) d_T_cellOfPlace_31 rfl (rfl) (⟨by unfold x_cp; (repeat' split) <;> first | rfl | (exfalso; simp_all [x_hol, x_pl, x_rp, x_be, x_op, x_os]), rfl, rfl⟩)
  · replace h4 := x_bn h4
    refine xg_aload_n X (pc := 7) d_T_cellOfPlace_7 rfl ?_
    refine xf_T_18 X (pc := 8) rfl d_T_cellOfPlace_8 ?_
    refine xg_lload_n X (pc := 11) d_T_cellOfPlace_11 rfl ?_
    refine xg_crV1 X (pc := 12) d_T_cellOfPlace_12 (c_S_holds hd (j := 0) (by decide)) s_T_127 ⟨_, rfl⟩ rfl ⟨by decide, by decide⟩ (Nat.le_of_ble_eq_true rfl) ?_
    refine xg_if_eq X (pc := 15) (tgt := 30) d_T_cellOfPlace_15 rfl (fun h15 => ?_) (fun h15 => ?_)
    · replace h15 := x_b0 h15
      refine xg_iconst X (pc := 30) (v := -1) d_T_cellOfPlace_30 (by decide) ?_
      exact xg_iret X (pc := 31) d_T_cellOfPlace_31 rfl (rfl) (⟨by unfold x_cp; (repeat' split) <;> first | rfl | (exfalso; simp_all [x_hol, x_pl, x_rp, x_be, x_op, x_os]), rfl, rfl⟩)
    · replace h15 := x_bn h15
      refine xg_aload_n X (pc := 18) d_T_cellOfPlace_18 rfl ?_
      refine xf_T_22 X (pc := 19) rfl d_T_cellOfPlace_19 ?_
      refine xg_lload X (pc := 22) d_T_cellOfPlace_22 rfl ?_
      refine xg_crV1 X (pc := 24) d_T_cellOfPlace_24 (c_S_holds hd (j := 1) (by decide)) s_T_127 ⟨_, rfl⟩ rfl ⟨by decide, by decide⟩ (Nat.le_of_ble_eq_true rfl) ?_
      refine xg_if_ne X (pc := 27) (tgt := 32) d_T_cellOfPlace_27 rfl (fun h27 => ?_) (fun h27 => ?_)
      · replace h27 := x_bn h27
        refine xg_iload_n X (pc := 32) d_T_cellOfPlace_32 rfl ?_
        refine xg_sipush X (pc := 33) (v := 256) d_T_cellOfPlace_33 (by decide) ?_
        refine xg_imul X (pc := 36) d_T_cellOfPlace_36 ?_
        refine xg_aload_n X (pc := 37) d_T_cellOfPlace_37 rfl ?_
        refine xf_T_18 X (pc := 38) rfl d_T_cellOfPlace_38 ?_
        refine xg_lload_n X (pc := 41) d_T_cellOfPlace_41 rfl ?_
        refine xg_crV1 X (pc := 42) d_T_cellOfPlace_42 (c_S_offsetOf hd (j := 0) (by decide)) s_T_131 ⟨_, rfl⟩ rfl ⟨by decide, by decide⟩ (Nat.le_of_ble_eq_true rfl) ?_
        refine xg_iadd X (pc := 45) d_T_cellOfPlace_45 ?_
        refine xg_aload_n X (pc := 46) d_T_cellOfPlace_46 rfl ?_
        refine xf_T_22 X (pc := 47) rfl d_T_cellOfPlace_47 ?_
        refine xg_lload X (pc := 50) d_T_cellOfPlace_50 rfl ?_
        refine xg_crV1 X (pc := 52) d_T_cellOfPlace_52 (c_S_offsetOf hd (j := 1) (by decide)) s_T_131 ⟨_, rfl⟩ rfl ⟨by decide, by decide⟩ (Nat.le_of_ble_eq_true rfl) ?_
        refine xg_iadd X (pc := 55) d_T_cellOfPlace_55 ?_
        exact xg_iret X (pc := 56) d_T_cellOfPlace_56 rfl (rfl) (⟨by unfold x_cp; (repeat' split) <;> first | rfl | (exfalso; simp_all [x_hol, x_pl, x_rp, x_be, x_op, x_os]), rfl, rfl⟩)
      · replace h27 := x_b0 h27
        refine xg_iconst X (pc := 30) (v := -1) d_T_cellOfPlace_30 (by decide) ?_
        exact xg_iret X (pc := 31) d_T_cellOfPlace_31 rfl (rfl) (⟨by unfold x_cp; (repeat' split) <;> first | rfl | (exfalso; simp_all [x_hol, x_pl, x_rp, x_be, x_op, x_os]), rfl, rfl⟩)
abbrev x_cc (sc : Nat → Int32) (pl d o u v : Int32) : Int32 := x_cp sc pl (u.toInt64 <<< (d.toInt64 &&& 63) + (x_sR d o).toInt64) (v.toInt64 <<< (d.toInt64 &&& 63) + (x_sD d o).toInt64)
set_option maxRecDepth 100000 in
set_option maxHeartbeats 4000000 in
theorem c_T_cellOfCoordinates (hd : x_dis ad) {pl d o u v : Int32} : x_Con l M_T_cellOfCoordinates 2 47 ad D cI [.ref (ad 0), .int pl, .int d, .int o, .int u, .int v] sc ar (x_E (some (.int (x_cc sc pl d o u v))) sc ar) := by
  refine x_intro hd [some (.ref (ad 0)), some (.int pl), some (.int d), some (.int o), some (.int u), some (.int v), none, none, none, none] (by decide) (Nat.le_of_ble_eq_true rfl) rfl ?_
  intro p e s m args below meth c X
  refine xg_iload X (pc := 0) d_T_cellOfCoordinates_0 rfl ?_
  refine xg_i2l X (pc := 2) d_T_cellOfCoordinates_2 ?_
  refine xg_iload_n X (pc := 3) d_T_cellOfCoordinates_3 rfl ?_
  refine xg_lshl X (pc := 4) d_T_cellOfCoordinates_4 ?_
  refine xg_iload_n X (pc := 5) d_T_cellOfCoordinates_5 rfl ?_
  refine xg_iload_n X (pc := 6) d_T_cellOfCoordinates_6 rfl ?_
  refine xg_crS2 X (pc := 7) d_T_cellOfCoordinates_7 (c_T_shiftRight hd) s_T_98 ⟨by decide, by decide⟩ (Nat.le_of_ble_eq_true rfl) ?_
  refine xg_i2l X (pc := 10) d_T_cellOfCoordinates_10 ?_
  refine xg_ladd X (pc := 11) d_T_cellOfCoordinates_11 ?_
  refine xg_lstore X (pc := 12) d_T_cellOfCoordinates_12 (by decide) rfl ?_
  refine xg_iload X (pc := 14) d_T_cellOfCoordinates_14 rfl ?_
  refine xg_i2l X (pc := 16) d_T_cellOfCoordinates_16 ?_
  refine xg_iload_n X (pc := 17) d_T_cellOfCoordinates_17 rfl ?_
  refine xg_lshl X (pc := 18) d_T_cellOfCoordinates_18 ?_
  refine xg_iload_n X (pc := 19) d_T_cellOfCoordinates_19 rfl ?_
  refine xg_iload_n X (pc := 20) d_T_cellOfCoordinates_20 rfl ?_
  refine xg_crS2 X (pc := 21) d_T_cellOfCoordinates_21 (c_T_shiftDown hd) s_T_91 ⟨by decide, by decide⟩ (Nat.le_of_ble_eq_true rfl) ?_
  refine xg_i2l X (pc := 24) d_T_cellOfCoordinates_24 ?_
  refine xg_ladd X (pc := 25) d_T_cellOfCoordinates_25 ?_
  refine xg_lstore X (pc := 26) d_T_cellOfCoordinates_26 (by decide) rfl ?_
  refine xg_aload_n X (pc := 28) d_T_cellOfCoordinates_28 rfl ?_
  refine xg_iload_n X (pc := 29) d_T_cellOfCoordinates_29 rfl ?_
  refine xg_lload X (pc := 30) d_T_cellOfCoordinates_30 rfl ?_
  refine xg_lload X (pc := 32) d_T_cellOfCoordinates_32 rfl ?_
  refine xg_crV3 X (pc := 34) d_T_cellOfCoordinates_34 (c_T_cellOfPlace hd) s_T_60 ⟨_, rfl⟩ rfl ⟨by decide, by decide⟩ (Nat.le_of_ble_eq_true rfl) ?_
  exact xg_iret X (pc := 37) d_T_cellOfCoordinates_37 rfl (rfl) (⟨rfl, rfl, rfl⟩)
set_option maxRecDepth 100000 in
set_option maxHeartbeats 4000000 in
theorem c_T_valueIn (hd : x_dis ad) {x : Int32} (hx : ¬ x = -1 → vp_in x 768) : x_Con l M_T_valueIn 0 0 ad D cI [.ref (ad 0), .int x] sc ar (x_E (some (.int (if x = -1 then 0 else ar 0 x.toNatClampNeg))) sc ar) := by
  refine x_intro hd [some (.ref (ad 0)), some (.int x)] (by decide) (Nat.le_of_ble_eq_true rfl) rfl ?_
  intro p e s m args below meth c X
  refine xg_iload_n X (pc := 0) d_T_valueIn_0 rfl ?_
  refine xg_iconst X (pc := 1) (v := -1) d_T_valueIn_1 (by decide) ?_
  refine xg_icmp_ne X (pc := 2) (tgt := 9) d_T_valueIn_2 rfl (fun h2 => ?_) (fun h2 => ?_)
  · refine xg_aload_n X (pc := 9) d_T_valueIn_9 rfl ?_
    refine xf_T_9 X (pc := 10) rfl d_T_valueIn_10 ?_
    refine xg_iload_n X (pc := 13) d_T_valueIn_13 rfl ?_
    refine xa_ld1 X (pc := 14) d_T_valueIn_14 (hx h2) ?_
    exact xg_iret X (pc := 15) d_T_valueIn_15 rfl (rfl) (⟨by (repeat' split) <;> first | rfl | (exfalso; simp_all [x_hol, x_pl, x_rp, x_be, x_op, x_os]), rfl, rfl⟩)
  · refine xg_iconst X (pc := 5) (v := 0) d_T_valueIn_5 (by decide) ?_
    refine xg_goto X (pc := 6) (tgt := 15) d_T_valueIn_6 rfl ?_
    exact xg_iret X (pc := 15) d_T_valueIn_15 rfl (rfl) (⟨by (repeat' split) <;> first | rfl | (exfalso; simp_all [x_hol, x_pl, x_rp, x_be, x_op, x_os]), rfl, rfl⟩)
set_option maxRecDepth 100000 in
set_option maxHeartbeats 4000000 in
theorem c_T_isOfSubband (hd : x_dis ad) {i d o : Int32} : x_Con l M_T_isOfSubband 1 21 ad D cI [.ref (ad 0), .int i, .int d, .int o] sc ar (x_E (some (.int (x_b (x_os sc i d o)))) sc ar) := by
  refine x_intro hd [some (.ref (ad 0)), some (.int i), some (.int d), some (.int o), none, none, none] (by decide) (Nat.le_of_ble_eq_true rfl) rfl ?_
  intro p e s m args below meth c X
  refine xg_aload_n X (pc := 0) d_T_isOfSubband_0 rfl ?_
  refine xf_T_18 X (pc := 1) rfl d_T_isOfSubband_1 ?_
  refine xf_T_135_2 X (pc := 4) rfl d_T_isOfSubband_4 ?_
  refine xg_iload_n X (pc := 7) d_T_isOfSubband_7 rfl ?_
  refine xg_bipush X (pc := 8) (v := 16) d_T_isOfSubband_8 (by decide) ?_
  refine xg_irem X (pc := 10) d_T_isOfSubband_10 (by decide) ?_
  refine xg_iadd X (pc := 11) d_T_isOfSubband_11 ?_
  refine xg_istore X (pc := 12) d_T_isOfSubband_12 (by decide) rfl ?_
  refine xg_aload_n X (pc := 14) d_T_isOfSubband_14 rfl ?_
  refine xf_T_22 X (pc := 15) rfl d_T_isOfSubband_15 ?_
  refine xf_T_135_3 X (pc := 18) rfl d_T_isOfSubband_18 ?_
  refine xg_iload_n X (pc := 21) d_T_isOfSubband_21 rfl ?_
  refine xg_bipush X (pc := 22) (v := 16) d_T_isOfSubband_22 (by decide) ?_
  refine xg_idiv X (pc := 24) d_T_isOfSubband_24 (by decide) ?_
  refine xg_bipush X (pc := 25) (v := 16) d_T_isOfSubband_25 (by decide) ?_
  refine xg_irem X (pc := 27) d_T_isOfSubband_27 (by decide) ?_
  refine xg_iadd X (pc := 28) d_T_isOfSubband_28 ?_
  refine xg_istore X (pc := 29) d_T_isOfSubband_29 (by decide) rfl ?_
  refine xg_iconst X (pc := 31) (v := 1) d_T_isOfSubband_31 (by decide) ?_
  refine xg_iload_n X (pc := 32) d_T_isOfSubband_32 rfl ?_
  refine xg_ishl X (pc := 33) d_T_isOfSubband_33 ?_
  refine xg_iconst X (pc := 34) (v := 1) d_T_isOfSubband_34 (by decide) ?_
  refine xg_isub X (pc := 35) d_T_isOfSubband_35 ?_
  refine xg_istore X (pc := 36) d_T_isOfSubband_36 (by decide) rfl ?_
  refine xg_iload X (pc := 38) d_T_isOfSubband_38 rfl ?_
  refine xg_iload X (pc := 40) d_T_isOfSubband_40 rfl ?_
  refine xg_iand X (pc := 42) d_T_isOfSubband_42 ?_
  refine xg_iload_n X (pc := 43) d_T_isOfSubband_43 rfl ?_
  refine xg_iload_n X (pc := 44) d_T_isOfSubband_44 rfl ?_
  refine xg_crS2 X (pc := 45) d_T_isOfSubband_45 (c_T_shiftRight hd) s_T_98 ⟨by decide, by decide⟩ (Nat.le_of_ble_eq_true rfl) ?_
  refine xg_icmp_ne X (pc := 48) (tgt := 68) d_T_isOfSubband_48 rfl (fun h48 => ?_) (fun h48 => ?_)
  · refine xg_iconst X (pc := 68) (v := 0) d_T_isOfSubband_68 (by decide) ?_
    exact xg_iret X (pc := 69) d_T_isOfSubband_69 rfl (rfl) (by first | exact x_ret1 (by simp_all [x_hol, x_pl, x_rp, x_be, x_op, x_os]) | exact x_ret0 (by simp_all [x_hol, x_pl, x_rp, x_be, x_op, x_os]))
  · refine xg_iload X (pc := 51) d_T_isOfSubband_51 rfl ?_
    refine xg_iload X (pc := 53) d_T_isOfSubband_53 rfl ?_
    refine xg_iand X (pc := 55) d_T_isOfSubband_55 ?_
    refine xg_iload_n X (pc := 56) d_T_isOfSubband_56 rfl ?_
    refine xg_iload_n X (pc := 57) d_T_isOfSubband_57 rfl ?_
    refine xg_crS2 X (pc := 58) d_T_isOfSubband_58 (c_T_shiftDown hd) s_T_91 ⟨by decide, by decide⟩ (Nat.le_of_ble_eq_true rfl) ?_
    refine xg_icmp_ne X (pc := 61) (tgt := 68) d_T_isOfSubband_61 rfl (fun h61 => ?_) (fun h61 => ?_)
    · refine xg_iconst X (pc := 68) (v := 0) d_T_isOfSubband_68 (by decide) ?_
      exact xg_iret X (pc := 69) d_T_isOfSubband_69 rfl (rfl) (by first | exact x_ret1 (by simp_all [x_hol, x_pl, x_rp, x_be, x_op, x_os]) | exact x_ret0 (by simp_all [x_hol, x_pl, x_rp, x_be, x_op, x_os]))
    · refine xg_iconst X (pc := 64) (v := 1) d_T_isOfSubband_64 (by decide) ?_
      refine xg_goto X (pc := 65) (tgt := 69) d_T_isOfSubband_65 rfl ?_
      exact xg_iret X (pc := 69) d_T_isOfSubband_69 rfl (rfl) (by first | exact x_ret1 (by simp_all [x_hol, x_pl, x_rp, x_be, x_op, x_os]) | exact x_ret0 (by simp_all [x_hol, x_pl, x_rp, x_be, x_op, x_os]))
def x_am (v : Int32) : Int64 := if 0 < v.toInt64 then v.toInt64 else -v.toInt64
set_option maxRecDepth 100000 in
set_option maxHeartbeats 4000000 in
theorem c_T_amountOf (hd : x_dis ad) {v : Int32} : x_Con l M_T_amountOf 1 21 ad D cI [.int v] sc ar (x_E (some (.long (x_am v))) sc ar) := by
  refine x_intro hd [some (.int v)] (by decide) (Nat.le_of_ble_eq_true rfl) rfl ?_
  intro p e s m args below meth c X
  refine xg_iload_n X (pc := 0) d_T_amountOf_0 rfl ?_
  refine xg_i2l X (pc := 1) d_T_amountOf_1 ?_
  refine xg_labs X (pc := 2) d_T_amountOf_2 (by decide +kernel) ⟨by decide, by decide⟩ ?_
  exact xg_lret X (pc := 5) d_T_amountOf_5 rfl (⟨rfl, rfl, rfl⟩)
abbrev x_th (v t : Int32) : Int32 := if lg_cmp (x_am v / t.toInt64) 0 = 0 then 0 else (if 0 ≤ v then x_am v / t.toInt64 * t.toInt64 + (t / 2).toInt64 else -(x_am v / t.toInt64 * t.toInt64 + (t / 2).toInt64)).toInt32
set_option maxRecDepth 100000 in
set_option maxHeartbeats 4000000 in
theorem c_T_thinned (hd : x_dis ad) {v t : Int32} (ht : ¬ t.toInt64 = 0) : x_Con l M_T_thinned 2 41 ad D cI [.int v, .int t] sc ar (x_E (some (.int (x_th v t))) sc ar) := by
  refine x_intro hd [some (.int v), some (.int t), none, none, none, none] (by decide) (Nat.le_of_ble_eq_true rfl) rfl ?_
  intro p e s m args below meth c X
  refine xg_iload_n X (pc := 0) d_T_thinned_0 rfl ?_
  refine xg_crS1 X (pc := 1) d_T_thinned_1 (c_T_amountOf hd) s_T_120 ⟨by decide, by decide⟩ (Nat.le_of_ble_eq_true rfl) ?_
  refine xg_iload_n X (pc := 4) d_T_thinned_4 rfl ?_
  refine xg_i2l X (pc := 5) d_T_thinned_5 ?_
  refine xg_ldiv X (pc := 6) d_T_thinned_6 (ht) ?_
  refine xg_lstore_n X (pc := 7) d_T_thinned_7 (by decide) rfl ?_
  refine xg_lload_n X (pc := 8) d_T_thinned_8 rfl ?_
  refine xg_lconst X (pc := 9) (v := 0) d_T_thinned_9 (by decide) ?_
  refine xg_lcmp X (pc := 10) d_T_thinned_10 ?_
  refine xg_if_ne X (pc := 11) (tgt := 16) d_T_thinned_11 rfl (fun h11 => ?_) (fun h11 => ?_)
  · refine xg_lload_n X (pc := 16) d_T_thinned_16 rfl ?_
    refine xg_iload_n X (pc := 17) d_T_thinned_17 rfl ?_
    refine xg_i2l X (pc := 18) d_T_thinned_18 ?_
    refine xg_lmul X (pc := 19) d_T_thinned_19 ?_
    refine xg_iload_n X (pc := 20) d_T_thinned_20 rfl ?_
    refine xg_iconst X (pc := 21) (v := 2) d_T_thinned_21 (by decide) ?_
    refine xg_idiv X (pc := 22) d_T_thinned_22 (by decide) ?_
    refine xg_i2l X (pc := 23) d_T_thinned_23 ?_
    refine xg_ladd X (pc := 24) d_T_thinned_24 ?_
    refine xg_lstore X (pc := 25) d_T_thinned_25 (by decide) rfl ?_
    refine xg_iload_n X (pc := 27) d_T_thinned_27 rfl ?_
    refine xg_if_ge X (pc := 28) (tgt := 37) d_T_thinned_28 rfl (fun h28 => ?_) (fun h28 => ?_)
    · refine xg_lload X (pc := 37) d_T_thinned_37 rfl ?_
      refine xg_l2i X (pc := 39) d_T_thinned_39 ?_
      exact xg_iret X (pc := 40) d_T_thinned_40 rfl (rfl) (⟨by unfold x_th; (repeat' split) <;> first | rfl | (exfalso; simp_all [x_hol, x_pl, x_rp, x_be, x_op, x_os]), rfl, rfl⟩)
    · refine xg_lload X (pc := 31) d_T_thinned_31 rfl ?_
      refine xg_lneg X (pc := 33) d_T_thinned_33 ?_
      refine xg_goto X (pc := 34) (tgt := 39) d_T_thinned_34 rfl ?_
      refine xg_l2i X (pc := 39) d_T_thinned_39 ?_
      exact xg_iret X (pc := 40) d_T_thinned_40 rfl (rfl) (⟨by unfold x_th; (repeat' split) <;> first | rfl | (exfalso; simp_all [x_hol, x_pl, x_rp, x_be, x_op, x_os]), rfl, rfl⟩)
  · refine xg_iconst X (pc := 14) (v := 0) d_T_thinned_14 (by decide) ?_
    exact xg_iret X (pc := 15) d_T_thinned_15 rfl (rfl) (⟨by unfold x_th; (repeat' split) <;> first | rfl | (exfalso; simp_all [x_hol, x_pl, x_rp, x_be, x_op, x_os]), rfl, rfl⟩)
set_option maxRecDepth 100000 in
set_option maxHeartbeats 4000000 in
theorem c_T_mixed (hd : x_dis ad) (hb : sc 1 = 0 ∨ sc 1 = 1) : x_Con l M_T_mixed 0 0 ad D cI [.ref (ad 0)] sc ar (x_E (some (.int (sc 1))) sc ar) := by
  refine x_intro hd [some (.ref (ad 0))] (by decide) (Nat.le_of_ble_eq_true rfl) rfl ?_
  intro p e s m args below meth c X
  refine xg_aload_n X (pc := 0) d_T_mixed_0 rfl ?_
  refine xf_T_39 X (pc := 1) rfl d_T_mixed_1 ?_
  exact xg_iret X (pc := 4) d_T_mixed_4 rfl (by rcases hb with h | h <;> rw [h] <;> rfl) (⟨rfl, rfl, rfl⟩)
set_option maxRecDepth 100000 in
set_option maxHeartbeats 4000000 in
theorem c_T_levels (hd : x_dis ad) : x_Con l M_T_levels 0 0 ad D cI [.ref (ad 0)] sc ar (x_E (some (.int (sc 0))) sc ar) := by
  refine x_intro hd [some (.ref (ad 0))] (by decide) (Nat.le_of_ble_eq_true rfl) rfl ?_
  intro p e s m args below meth c X
  refine xg_aload_n X (pc := 0) d_T_levels_0 rfl ?_
  refine xf_T_35 X (pc := 1) rfl d_T_levels_1 ?_
  exact xg_iret X (pc := 4) d_T_levels_4 rfl (rfl) (⟨rfl, rfl, rfl⟩)
set_option maxRecDepth 100000 in
set_option maxHeartbeats 4000000 in
theorem c_T_at (hd : x_dis ad) {pl u v : Int32} (hx : ¬ x_cp sc pl u.toInt64 v.toInt64 = -1 → vp_in (x_cp sc pl u.toInt64 v.toInt64) 768) : x_Con l M_T_at 2 47 ad D cI [.ref (ad 0), .int pl, .int u, .int v] sc ar (x_E (some (.int (if x_cp sc pl u.toInt64 v.toInt64 = -1 then 0 else ar 0 (x_cp sc pl u.toInt64 v.toInt64).toNatClampNeg))) sc ar) := by
  refine x_intro hd [some (.ref (ad 0)), some (.int pl), some (.int u), some (.int v)] (by decide) (Nat.le_of_ble_eq_true rfl) rfl ?_
  intro p e s m args below meth c X
  refine xg_aload_n X (pc := 0) d_T_at_0 rfl ?_
  refine xg_aload_n X (pc := 1) d_T_at_1 rfl ?_
  refine xg_iload_n X (pc := 2) d_T_at_2 rfl ?_
  refine xg_iload_n X (pc := 3) d_T_at_3 rfl ?_
  refine xg_i2l X (pc := 4) d_T_at_4 ?_
  refine xg_iload_n X (pc := 5) d_T_at_5 rfl ?_
  refine xg_i2l X (pc := 6) d_T_at_6 ?_
  refine xg_crV3 X (pc := 7) d_T_at_7 (c_T_cellOfPlace hd) s_T_60 ⟨_, rfl⟩ rfl ⟨by decide, by decide⟩ (Nat.le_of_ble_eq_true rfl) ?_
  refine xg_crV1 X (pc := 10) d_T_at_10 (c_T_valueIn hd hx) s_T_64 ⟨_, rfl⟩ rfl ⟨by decide, by decide⟩ (Nat.le_of_ble_eq_true rfl) ?_
  exact xg_iret X (pc := 13) d_T_at_13 rfl (rfl) (⟨rfl, rfl, rfl⟩)
set_option maxRecDepth 100000 in
set_option maxHeartbeats 4000000 in
theorem c_T_coefficient (hd : x_dis ad) {pl d o u v : Int32} (hx : ¬ x_cc sc pl d o u v = -1 → vp_in (x_cc sc pl d o u v) 768) : x_Con l M_T_coefficient 3 76 ad D cI [.ref (ad 0), .int pl, .int d, .int o, .int u, .int v] sc ar (x_E (some (.int (if (¬ d < 1 ∧ ¬ sc 0 < d) ∧ (¬ o < 0 ∧ ¬ 4 ≤ o) then (if x_cc sc pl d o u v = -1 then 0 else ar 0 (x_cc sc pl d o u v).toNatClampNeg) else 0))) sc ar) := by
  refine x_intro hd [some (.ref (ad 0)), some (.int pl), some (.int d), some (.int o), some (.int u), some (.int v)] (by decide) (Nat.le_of_ble_eq_true rfl) rfl ?_
  intro p e s m args below meth c X
  refine xg_aload_n X (pc := 0) d_T_coefficient_0 rfl ?_
  refine xg_iload_n X (pc := 1) d_T_coefficient_1 rfl ?_
  refine xg_crV1 X (pc := 2) d_T_coefficient_2 (c_T_hasLevel hd) s_T_82 ⟨_, rfl⟩ rfl ⟨by decide, by decide⟩ (Nat.le_of_ble_eq_true rfl) ?_
  refine xg_if_eq X (pc := 5) (tgt := 15) d_T_coefficient_5 rfl (fun h5 => ?_) (fun h5 => ?_)
  · replace h5 := x_b0 h5
    refine xg_iconst X (pc := 15) (v := 0) d_T_coefficient_15 (by decide) ?_
    exact xg_iret X (pc := 16) d_T_coefficient_16 rfl (rfl) (⟨by (repeat' split) <;> first | rfl | (exfalso; simp_all [x_hol, x_pl, x_rp, x_be, x_op, x_os]), rfl, rfl⟩)
  · replace h5 := x_bn h5
    refine xg_iload_n X (pc := 8) d_T_coefficient_8 rfl ?_
    refine xg_crS1 X (pc := 9) d_T_coefficient_9 (c_T_isSubband hd) s_T_88 ⟨by decide, by decide⟩ (Nat.le_of_ble_eq_true rfl) ?_
    refine xg_if_ne X (pc := 12) (tgt := 17) d_T_coefficient_12 rfl (fun h12 => ?_) (fun h12 => ?_)
    · replace h12 := x_bn h12
      refine xg_aload_n X (pc := 17) d_T_coefficient_17 rfl ?_
      refine xg_aload_n X (pc := 18) d_T_coefficient_18 rfl ?_
      refine xg_iload_n X (pc := 19) d_T_coefficient_19 rfl ?_
      refine xg_iload_n X (pc := 20) d_T_coefficient_20 rfl ?_
      refine xg_iload_n X (pc := 21) d_T_coefficient_21 rfl ?_
      refine xg_iload X (pc := 22) d_T_coefficient_22 rfl ?_
      refine xg_iload X (pc := 24) d_T_coefficient_24 rfl ?_
      refine xg_crV5 X (pc := 26) d_T_coefficient_26 (c_T_cellOfCoordinates hd) s_T_104 ⟨_, rfl⟩ rfl ⟨by decide, by decide⟩ (Nat.le_of_ble_eq_true rfl) ?_
      refine xg_crV1 X (pc := 29) d_T_coefficient_29 (c_T_valueIn hd hx) s_T_64 ⟨_, rfl⟩ rfl ⟨by decide, by decide⟩ (Nat.le_of_ble_eq_true rfl) ?_
      exact xg_iret X (pc := 32) d_T_coefficient_32 rfl (rfl) (⟨by (repeat' split) <;> first | rfl | (exfalso; simp_all [x_hol, x_pl, x_rp, x_be, x_op, x_os]), rfl, rfl⟩)
    · replace h12 := x_b0 h12
      refine xg_iconst X (pc := 15) (v := 0) d_T_coefficient_15 (by decide) ?_
      exact xg_iret X (pc := 16) d_T_coefficient_16 rfl (rfl) (⟨by (repeat' split) <;> first | rfl | (exfalso; simp_all [x_hol, x_pl, x_rp, x_be, x_op, x_os]), rfl, rfl⟩)
set_option maxRecDepth 100000 in
set_option maxHeartbeats 4000000 in
theorem c_T_kernel (hd : x_dis ad) {d : Int32} (hx : ¬ d < 1 ∧ ¬ sc 0 < d → vp_in (d - 1) 4) : x_Con l M_T_kernel 1 21 ad D cI [.ref (ad 0), .int d] sc ar (x_E (some (.int (if ¬ d < 1 ∧ ¬ sc 0 < d then ar 1 (d - 1).toNatClampNeg else -1))) sc ar) := by
  refine x_intro hd [some (.ref (ad 0)), some (.int d)] (by decide) (Nat.le_of_ble_eq_true rfl) rfl ?_
  intro p e s m args below meth c X
  refine xg_aload_n X (pc := 0) d_T_kernel_0 rfl ?_
  refine xg_iload_n X (pc := 1) d_T_kernel_1 rfl ?_
  refine xg_crV1 X (pc := 2) d_T_kernel_2 (c_T_hasLevel hd) s_T_82 ⟨_, rfl⟩ rfl ⟨by decide, by decide⟩ (Nat.le_of_ble_eq_true rfl) ?_
  refine xg_if_eq X (pc := 5) (tgt := 19) d_T_kernel_5 rfl (fun h5 => ?_) (fun h5 => ?_)
  · replace h5 := x_b0 h5
    refine xg_iconst X (pc := 19) (v := -1) d_T_kernel_19 (by decide) ?_
    exact xg_iret X (pc := 20) d_T_kernel_20 rfl (rfl) (⟨by (repeat' split) <;> first | rfl | (exfalso; simp_all [x_hol, x_pl, x_rp, x_be, x_op, x_os]), rfl, rfl⟩)
  · replace h5 := x_bn h5
    refine xg_aload_n X (pc := 8) d_T_kernel_8 rfl ?_
    refine xf_T_32 X (pc := 9) rfl d_T_kernel_9 ?_
    refine xg_iload_n X (pc := 12) d_T_kernel_12 rfl ?_
    refine xg_iconst X (pc := 13) (v := 1) d_T_kernel_13 (by decide) ?_
    refine xg_isub X (pc := 14) d_T_kernel_14 ?_
    refine xa_ld5 X (pc := 15) d_T_kernel_15 (hx h5) ?_
    refine xg_goto X (pc := 16) (tgt := 20) d_T_kernel_16 rfl ?_
    exact xg_iret X (pc := 20) d_T_kernel_20 rfl (rfl) (⟨by (repeat' split) <;> first | rfl | (exfalso; simp_all [x_hol, x_pl, x_rp, x_be, x_op, x_os]), rfl, rfl⟩)
set_option maxRecDepth 100000 in
set_option maxHeartbeats 4000000 in
theorem c_T_start (hd : x_dis ad) {d o w : Int32} : x_Con l M_T_start 2 44 ad D cI [.ref (ad 0), .int d, .int o, .int w] sc ar (x_E (some (.int (if ¬ sc 3 ≤ 0 ∧ (¬ d < 1 ∧ ¬ 4 < d) ∧ (¬ o < 0 ∧ ¬ 4 ≤ o) then (if w = 0 then x_lf (sc 2) d (x_sR d o) else x_lf (sc 4) d (x_sD d o)) else -1))) sc ar) := by
  refine x_intro hd [some (.ref (ad 0)), some (.int d), some (.int o), some (.int w)] (by decide) (Nat.le_of_ble_eq_true rfl) rfl ?_
  intro p e s m args below meth c X
  refine xg_aload_n X (pc := 0) d_T_start_0 rfl ?_
  refine xg_crV0 X (pc := 1) d_T_start_1 (c_T_hasTile hd) s_T_68 ⟨_, rfl⟩ rfl ⟨by decide, by decide⟩ (Nat.le_of_ble_eq_true rfl) ?_
  refine xg_if_eq X (pc := 4) (tgt := 21) d_T_start_4 rfl (fun h4 => ?_) (fun h4 => ?_)
  · replace h4 := x_b0 h4
    refine xg_iconst X (pc := 21) (v := -1) d_T_start_21 (by decide) ?_
    exact xg_iret X (pc := 22) d_T_start_22 rfl (rfl) (⟨by (repeat' split) <;> first | rfl | (exfalso; simp_all [x_hol, x_pl, x_rp, x_be, x_op, x_os]), rfl, rfl⟩)
  · replace h4 := x_bn h4
    refine xg_iload_n X (pc := 7) d_T_start_7 rfl ?_
    refine xg_crS1 X (pc := 8) d_T_start_8 (c_T_isLevel hd) s_T_85 ⟨by decide, by decide⟩ (Nat.le_of_ble_eq_true rfl) ?_
    refine xg_if_eq X (pc := 11) (tgt := 21) d_T_start_11 rfl (fun h11 => ?_) (fun h11 => ?_)
    · replace h11 := x_b0 h11
      refine xg_iconst X (pc := 21) (v := -1) d_T_start_21 (by decide) ?_
      exact xg_iret X (pc := 22) d_T_start_22 rfl (rfl) (⟨by (repeat' split) <;> first | rfl | (exfalso; simp_all [x_hol, x_pl, x_rp, x_be, x_op, x_os]), rfl, rfl⟩)
    · replace h11 := x_bn h11
      refine xg_iload_n X (pc := 14) d_T_start_14 rfl ?_
      refine xg_crS1 X (pc := 15) d_T_start_15 (c_T_isSubband hd) s_T_88 ⟨by decide, by decide⟩ (Nat.le_of_ble_eq_true rfl) ?_
      refine xg_if_ne X (pc := 18) (tgt := 23) d_T_start_18 rfl (fun h18 => ?_) (fun h18 => ?_)
      · replace h18 := x_bn h18
        refine xg_iload_n X (pc := 23) d_T_start_23 rfl ?_
        refine xg_if_eq X (pc := 24) (tgt := 43) d_T_start_24 rfl (fun h24 => ?_) (fun h24 => ?_)
        · refine xg_aload_n X (pc := 43) d_T_start_43 rfl ?_
          refine xf_T_18 X (pc := 44) rfl d_T_start_44 ?_
          refine xg_iload_n X (pc := 47) d_T_start_47 rfl ?_
          refine xg_iload_n X (pc := 48) d_T_start_48 rfl ?_
          refine xg_iload_n X (pc := 49) d_T_start_49 rfl ?_
          refine xg_crS2 X (pc := 50) d_T_start_50 (c_T_shiftRight hd) s_T_98 ⟨by decide, by decide⟩ (Nat.le_of_ble_eq_true rfl) ?_
          refine xg_crV2 X (pc := 53) d_T_start_53 (c_S_firstOf hd (j := 0) (by decide)) s_T_95 ⟨_, rfl⟩ rfl ⟨by decide, by decide⟩ (Nat.le_of_ble_eq_true rfl) ?_
          exact xg_iret X (pc := 56) d_T_start_56 rfl (rfl) (⟨by (repeat' split) <;> first | rfl | (exfalso; simp_all [x_hol, x_pl, x_rp, x_be, x_op, x_os]), rfl, rfl⟩)
        · refine xg_aload_n X (pc := 27) d_T_start_27 rfl ?_
          refine xf_T_22 X (pc := 28) rfl d_T_start_28 ?_
          refine xg_iload_n X (pc := 31) d_T_start_31 rfl ?_
          refine xg_iload_n X (pc := 32) d_T_start_32 rfl ?_
          refine xg_iload_n X (pc := 33) d_T_start_33 rfl ?_
          refine xg_crS2 X (pc := 34) d_T_start_34 (c_T_shiftDown hd) s_T_91 ⟨by decide, by decide⟩ (Nat.le_of_ble_eq_true rfl) ?_
          refine xg_crV2 X (pc := 37) d_T_start_37 (c_S_firstOf hd (j := 1) (by decide)) s_T_95 ⟨_, rfl⟩ rfl ⟨by decide, by decide⟩ (Nat.le_of_ble_eq_true rfl) ?_
          refine xg_goto X (pc := 40) (tgt := 56) d_T_start_40 rfl ?_
          exact xg_iret X (pc := 56) d_T_start_56 rfl (rfl) (⟨by (repeat' split) <;> first | rfl | (exfalso; simp_all [x_hol, x_pl, x_rp, x_be, x_op, x_os]), rfl, rfl⟩)
      · replace h18 := x_b0 h18
        refine xg_iconst X (pc := 21) (v := -1) d_T_start_21 (by decide) ?_
        exact xg_iret X (pc := 22) d_T_start_22 rfl (rfl) (⟨by (repeat' split) <;> first | rfl | (exfalso; simp_all [x_hol, x_pl, x_rp, x_be, x_op, x_os]), rfl, rfl⟩)
set_option maxRecDepth 100000 in
set_option maxHeartbeats 4000000 in
theorem c_T_size (hd : x_dis ad) {d o w : Int32} : x_Con l M_T_size 2 44 ad D cI [.ref (ad 0), .int d, .int o, .int w] sc ar (x_E (some (.int (if ¬ sc 3 ≤ 0 ∧ (¬ d < 1 ∧ ¬ 4 < d) ∧ (¬ o < 0 ∧ ¬ 4 ≤ o) then (if w = 0 then x_lf (sc 2 + sc 3) d (x_sR d o) - x_lf (sc 2) d (x_sR d o) else x_lf (sc 4 + sc 5) d (x_sD d o) - x_lf (sc 4) d (x_sD d o)) else -1))) sc ar) := by
  refine x_intro hd [some (.ref (ad 0)), some (.int d), some (.int o), some (.int w)] (by decide) (Nat.le_of_ble_eq_true rfl) rfl ?_
  intro p e s m args below meth c X
  refine xg_aload_n X (pc := 0) d_T_size_0 rfl ?_
  refine xg_crV0 X (pc := 1) d_T_size_1 (c_T_hasTile hd) s_T_68 ⟨_, rfl⟩ rfl ⟨by decide, by decide⟩ (Nat.le_of_ble_eq_true rfl) ?_
  refine xg_if_eq X (pc := 4) (tgt := 21) d_T_size_4 rfl (fun h4 => ?_) (fun h4 => ?_)
  · replace h4 := x_b0 h4
    refine xg_iconst X (pc := 21) (v := -1) d_T_size_21 (by decide) ?_
    exact xg_iret X (pc := 22) d_T_size_22 rfl (rfl) (⟨by (repeat' split) <;> first | rfl | (exfalso; simp_all [x_hol, x_pl, x_rp, x_be, x_op, x_os]), rfl, rfl⟩)
  · replace h4 := x_bn h4
    refine xg_iload_n X (pc := 7) d_T_size_7 rfl ?_
    refine xg_crS1 X (pc := 8) d_T_size_8 (c_T_isLevel hd) s_T_85 ⟨by decide, by decide⟩ (Nat.le_of_ble_eq_true rfl) ?_
    refine xg_if_eq X (pc := 11) (tgt := 21) d_T_size_11 rfl (fun h11 => ?_) (fun h11 => ?_)
    · replace h11 := x_b0 h11
      refine xg_iconst X (pc := 21) (v := -1) d_T_size_21 (by decide) ?_
      exact xg_iret X (pc := 22) d_T_size_22 rfl (rfl) (⟨by (repeat' split) <;> first | rfl | (exfalso; simp_all [x_hol, x_pl, x_rp, x_be, x_op, x_os]), rfl, rfl⟩)
    · replace h11 := x_bn h11
      refine xg_iload_n X (pc := 14) d_T_size_14 rfl ?_
      refine xg_crS1 X (pc := 15) d_T_size_15 (c_T_isSubband hd) s_T_88 ⟨by decide, by decide⟩ (Nat.le_of_ble_eq_true rfl) ?_
      refine xg_if_ne X (pc := 18) (tgt := 23) d_T_size_18 rfl (fun h18 => ?_) (fun h18 => ?_)
      · replace h18 := x_bn h18
        refine xg_iload_n X (pc := 23) d_T_size_23 rfl ?_
        refine xg_if_eq X (pc := 24) (tgt := 43) d_T_size_24 rfl (fun h24 => ?_) (fun h24 => ?_)
        · refine xg_aload_n X (pc := 43) d_T_size_43 rfl ?_
          refine xf_T_18 X (pc := 44) rfl d_T_size_44 ?_
          refine xg_iload_n X (pc := 47) d_T_size_47 rfl ?_
          refine xg_iload_n X (pc := 48) d_T_size_48 rfl ?_
          refine xg_iload_n X (pc := 49) d_T_size_49 rfl ?_
          refine xg_crS2 X (pc := 50) d_T_size_50 (c_T_shiftRight hd) s_T_98 ⟨by decide, by decide⟩ (Nat.le_of_ble_eq_true rfl) ?_
          refine xg_crV2 X (pc := 53) d_T_size_53 (c_S_countOf hd (j := 0) (by decide)) s_T_101 ⟨_, rfl⟩ rfl ⟨by decide, by decide⟩ (Nat.le_of_ble_eq_true rfl) ?_
          exact xg_iret X (pc := 56) d_T_size_56 rfl (rfl) (⟨by (repeat' split) <;> first | rfl | (exfalso; simp_all [x_hol, x_pl, x_rp, x_be, x_op, x_os]), rfl, rfl⟩)
        · refine xg_aload_n X (pc := 27) d_T_size_27 rfl ?_
          refine xf_T_22 X (pc := 28) rfl d_T_size_28 ?_
          refine xg_iload_n X (pc := 31) d_T_size_31 rfl ?_
          refine xg_iload_n X (pc := 32) d_T_size_32 rfl ?_
          refine xg_iload_n X (pc := 33) d_T_size_33 rfl ?_
          refine xg_crS2 X (pc := 34) d_T_size_34 (c_T_shiftDown hd) s_T_91 ⟨by decide, by decide⟩ (Nat.le_of_ble_eq_true rfl) ?_
          refine xg_crV2 X (pc := 37) d_T_size_37 (c_S_countOf hd (j := 1) (by decide)) s_T_101 ⟨_, rfl⟩ rfl ⟨by decide, by decide⟩ (Nat.le_of_ble_eq_true rfl) ?_
          refine xg_goto X (pc := 40) (tgt := 56) d_T_size_40 rfl ?_
          exact xg_iret X (pc := 56) d_T_size_56 rfl (rfl) (⟨by (repeat' split) <;> first | rfl | (exfalso; simp_all [x_hol, x_pl, x_rp, x_be, x_op, x_os]), rfl, rfl⟩)
      · replace h18 := x_b0 h18
        refine xg_iconst X (pc := 21) (v := -1) d_T_size_21 (by decide) ?_
        exact xg_iret X (pc := 22) d_T_size_22 rfl (rfl) (⟨by (repeat' split) <;> first | rfl | (exfalso; simp_all [x_hol, x_pl, x_rp, x_be, x_op, x_os]), rfl, rfl⟩)
set_option maxRecDepth 100000 in
set_option maxHeartbeats 4000000 in
theorem c_L_firstOdd (hd : x_dis ad) : x_Con l M_L_firstOdd 1 20 ad D cI [.ref (ad 4)] sc ar (x_E (some (.int (if sc 6 &&& 1 = 1 then sc 6 else sc 6 + 1))) sc ar) := by
  refine x_intro hd [some (.ref (ad 4))] (by decide) (Nat.le_of_ble_eq_true rfl) rfl ?_
  intro p e s m args below meth c X
  refine xg_aload_n X (pc := 0) d_L_firstOdd_0 rfl ?_
  refine xf_L_15 X (pc := 1) rfl d_L_firstOdd_1 ?_
  refine xg_crS1 X (pc := 4) d_L_firstOdd_4 (c_L_isOdd hd) s_L_22 ⟨by decide, by decide⟩ (Nat.le_of_ble_eq_true rfl) ?_
  refine xg_if_eq X (pc := 7) (tgt := 17) d_L_firstOdd_7 rfl (fun h7 => ?_) (fun h7 => ?_)
  · replace h7 := x_b0 h7
    refine xg_aload_n X (pc := 17) d_L_firstOdd_17 rfl ?_
    refine xf_L_15 X (pc := 18) rfl d_L_firstOdd_18 ?_
    refine xg_iconst X (pc := 21) (v := 1) d_L_firstOdd_21 (by decide) ?_
    refine xg_iadd X (pc := 22) d_L_firstOdd_22 ?_
    exact xg_iret X (pc := 23) d_L_firstOdd_23 rfl (rfl) (⟨by (repeat' split) <;> first | rfl | (exfalso; simp_all [x_hol, x_pl, x_rp, x_be, x_op, x_os]), rfl, rfl⟩)
  · replace h7 := x_bn h7
    refine xg_aload_n X (pc := 10) d_L_firstOdd_10 rfl ?_
    refine xf_L_15 X (pc := 11) rfl d_L_firstOdd_11 ?_
    refine xg_goto X (pc := 14) (tgt := 23) d_L_firstOdd_14 rfl ?_
    exact xg_iret X (pc := 23) d_L_firstOdd_23 rfl (rfl) (⟨by (repeat' split) <;> first | rfl | (exfalso; simp_all [x_hol, x_pl, x_rp, x_be, x_op, x_os]), rfl, rfl⟩)
set_option maxRecDepth 100000 in
set_option maxHeartbeats 4000000 in
theorem c_L_firstEven (hd : x_dis ad) : x_Con l M_L_firstEven 1 20 ad D cI [.ref (ad 4)] sc ar (x_E (some (.int (if sc 6 &&& 1 = 1 then sc 6 + 1 else sc 6))) sc ar) := by
  refine x_intro hd [some (.ref (ad 4))] (by decide) (Nat.le_of_ble_eq_true rfl) rfl ?_
  intro p e s m args below meth c X
  refine xg_aload_n X (pc := 0) d_L_firstEven_0 rfl ?_
  refine xf_L_15 X (pc := 1) rfl d_L_firstEven_1 ?_
  refine xg_crS1 X (pc := 4) d_L_firstEven_4 (c_L_isOdd hd) s_L_22 ⟨by decide, by decide⟩ (Nat.le_of_ble_eq_true rfl) ?_
  refine xg_if_eq X (pc := 7) (tgt := 19) d_L_firstEven_7 rfl (fun h7 => ?_) (fun h7 => ?_)
  · replace h7 := x_b0 h7
    refine xg_aload_n X (pc := 19) d_L_firstEven_19 rfl ?_
    refine xf_L_15 X (pc := 20) rfl d_L_firstEven_20 ?_
    exact xg_iret X (pc := 23) d_L_firstEven_23 rfl (rfl) (⟨by (repeat' split) <;> first | rfl | (exfalso; simp_all [x_hol, x_pl, x_rp, x_be, x_op, x_os]), rfl, rfl⟩)
  · replace h7 := x_bn h7
    refine xg_aload_n X (pc := 10) d_L_firstEven_10 rfl ?_
    refine xf_L_15 X (pc := 11) rfl d_L_firstEven_11 ?_
    refine xg_iconst X (pc := 14) (v := 1) d_L_firstEven_14 (by decide) ?_
    refine xg_iadd X (pc := 15) d_L_firstEven_15 ?_
    refine xg_goto X (pc := 16) (tgt := 23) d_L_firstEven_16 rfl ?_
    exact xg_iret X (pc := 23) d_L_firstEven_23 rfl (rfl) (⟨by (repeat' split) <;> first | rfl | (exfalso; simp_all [x_hol, x_pl, x_rp, x_be, x_op, x_os]), rfl, rfl⟩)
end C2
