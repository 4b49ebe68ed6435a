abbrev x_sR (d o : Int32) : Int32 := (o &&& 1) <<< ((d - 1) &&& 31)
abbrev x_sD (d o : Int32) : Int32 := (o >>> (1 &&& 31)) <<< ((d - 1) &&& 31)
abbrev x_sh (d o w : Int32) : Int32 := 1 <<< ((d - 1) &&& 31) * (if w = 0 then o &&& 1 else o >>> (1 &&& 31))
abbrev x_hol (sc : Nat → Int32) (j : Nat) (z : Int64) : Prop := ¬ lg_cmp z (sc (2 * j + 2)).toInt64 < 0 ∧ ¬ 0 ≤ lg_cmp z (sc (2 * j + 2) + sc (2 * j + 3)).toInt64
abbrev x_off (sc : Nat → Int32) (j : Nat) (z : Int64) : Int32 := (z - (sc (2 * j + 2)).toInt64).toInt32 * x_st j
abbrev x_pl (x : Int32) : Prop := ¬ x < 0 ∧ ¬ 3 ≤ x
abbrev x_os (sc : Nat → Int32) (i d o : Int32) : Prop := (sc 2 + (i - i / (16 : Int32) * (16 : Int32))) &&& ((1 : Int32) <<< (d &&& 31) - 1) = x_sR d o ∧ (sc 4 + (i / (16 : Int32) - i / (16 : Int32) / (16 : Int32) * (16 : Int32))) &&& ((1 : Int32) <<< (d &&& 31) - 1) = x_sD d o
abbrev x_rp (sc : Nat → Int32) (u v : Int32) : Prop := ¬ sc 8 = 0 ∧ ¬ u < sc 9 ∧ ¬ sc 9 + sc 11 ≤ u ∧ ¬ v < sc 10 ∧ ¬ sc 10 + sc 12 ≤ v
abbrev x_be (d o u v : Int32) : Prop := (u - x_sh d o 0) - (u - x_sh d o 0) / ((2 : Int32) * (1 : Int32) <<< ((d - 1) &&& 31)) * ((2 : Int32) * (1 : Int32) <<< ((d - 1) &&& 31)) = 0 ∧ (v - x_sh d o 1) - (v - x_sh d o 1) / ((2 : Int32) * (1 : Int32) <<< ((d - 1) &&& 31)) * ((2 : Int32) * (1 : Int32) <<< ((d - 1) &&& 31)) = 0
abbrev x_op (l0 t0 w0 h0 : Int32) : Prop := (¬ l0 < 0 ∧ ¬ 1000 < l0) ∧ (¬ t0 < 0 ∧ ¬ 1000 < t0) ∧ (¬ w0 < 1 ∧ ¬ 16 < w0) ∧ (¬ h0 < 1 ∧ ¬ 16 < h0)
section C1
variable {l : Launch} {ad : Nat → Nat} {D : va_G} {cI : ClassId} {sc : Nat → Int32} {ar : Nat → Nat → Int32}
set_option maxRecDepth 100000 in
set_option maxHeartbeats 4000000 in
theorem c_T_isCorner (hd : x_dis ad) {x : Int32} : x_Con l M_T_isCorner 0 0 ad D cI [.int x] sc ar (x_E (some (.int (x_b (¬ x < 0 ∧ ¬ 1000 < x)))) sc ar) := by
  refine x_intro hd [some (.int x)] (by decide) (Nat.le_of_ble_eq_true rfl) rfl ?_
  intro p e s m args below meth c X
  refine xg_iload_n X (pc := 0) d_T_isCorner_0 rfl ?_
  refine xg_if_lt X (pc := 1) (tgt := 15) d_T_isCorner_1 rfl (fun h1 => ?_) (fun h1 => ?_)
  · refine xg_iconst X (pc := 15) (v := 0) d_T_isCorner_15 (by decide) ?_
    exact xg_iret X (pc := 16) d_T_isCorner_16 rfl (rfl) (by first | exact x_ret1 (by simp_all [x_hol, x_pl, x_rp, x_be, x_op, x_os]) | exact x_ret0 (by simp_all [x_hol, x_pl, x_rp, x_be, x_op, x_os]))
  · refine xg_iload_n X (pc := 4) d_T_isCorner_4 rfl ?_
    refine xg_sipush X (pc := 5) (v := 1000) d_T_isCorner_5 (by decide) ?_
    refine xg_icmp_gt X (pc := 8) (tgt := 15) d_T_isCorner_8 rfl (fun h8 => ?_) (fun h8 => ?_)
    · refine xg_iconst X (pc := 15) (v := 0) d_T_isCorner_15 (by decide) ?_
      exact xg_iret X (pc := 16) d_T_isCorner_16 rfl (rfl) (by first | exact x_ret1 (by simp_all [x_hol, x_pl, x_rp, x_be, x_op, x_os]) | exact x_ret0 (by simp_all [x_hol, x_pl, x_rp, x_be, x_op, x_os]))
    · refine xg_iconst X (pc := 11) (v := 1) d_T_isCorner_11 (by decide) ?_
      refine xg_goto X (pc := 12) (tgt := 16) d_T_isCorner_12 rfl ?_
      exact xg_iret X (pc := 16) d_T_isCorner_16 rfl (rfl) (by first | exact x_ret1 (by simp_all [x_hol, x_pl, x_rp, x_be, x_op, x_os]) | exact x_ret0 (by simp_all [x_hol, x_pl, x_rp, x_be, x_op, x_os]))
set_option maxRecDepth 100000 in
set_option maxHeartbeats 4000000 in
theorem c_T_isSide (hd : x_dis ad) {x : Int32} : x_Con l M_T_isSide 0 0 ad D cI [.int x] sc ar (x_E (some (.int (x_b (¬ x < 1 ∧ ¬ 16 < x)))) sc ar) := by
  refine x_intro hd [some (.int x)] (by decide) (Nat.le_of_ble_eq_true rfl) rfl ?_
  intro p e s m args below meth c X
  refine xg_iload_n X (pc := 0) d_T_isSide_0 rfl ?_
  refine xg_iconst X (pc := 1) (v := 1) d_T_isSide_1 (by decide) ?_
  refine xg_icmp_lt X (pc := 2) (tgt := 15) d_T_isSide_2 rfl (fun h2 => ?_) (fun h2 => ?_)
  · refine xg_iconst X (pc := 15) (v := 0) d_T_isSide_15 (by decide) ?_
    exact xg_iret X (pc := 16) d_T_isSide_16 rfl (rfl) (by first | exact x_ret1 (by simp_all [x_hol, x_pl, x_rp, x_be, x_op, x_os]) | exact x_ret0 (by simp_all [x_hol, x_pl, x_rp, x_be, x_op, x_os]))
  · refine xg_iload_n X (pc := 5) d_T_isSide_5 rfl ?_
    refine xg_bipush X (pc := 6) (v := 16) d_T_isSide_6 (by decide) ?_
    refine xg_icmp_gt X (pc := 8) (tgt := 15) d_T_isSide_8 rfl (fun h8 => ?_) (fun h8 => ?_)
    · refine xg_iconst X (pc := 15) (v := 0) d_T_isSide_15 (by decide) ?_
      exact xg_iret X (pc := 16) d_T_isSide_16 rfl (rfl) (by first | exact x_ret1 (by simp_all [x_hol, x_pl, x_rp, x_be, x_op, x_os]) | exact x_ret0 (by simp_all [x_hol, x_pl, x_rp, x_be, x_op, x_os]))
    · refine xg_iconst X (pc := 11) (v := 1) d_T_isSide_11 (by decide) ?_
      refine xg_goto X (pc := 12) (tgt := 16) d_T_isSide_12 rfl ?_
      exact xg_iret X (pc := 16) d_T_isSide_16 rfl (rfl) (by first | exact x_ret1 (by simp_all [x_hol, x_pl, x_rp, x_be, x_op, x_os]) | exact x_ret0 (by simp_all [x_hol, x_pl, x_rp, x_be, x_op, x_os]))
set_option maxRecDepth 100000 in
set_option maxHeartbeats 4000000 in
theorem c_T_isPlane (hd : x_dis ad) {x : Int32} : x_Con l M_T_isPlane 0 0 ad D cI [.int x] sc ar (x_E (some (.int (x_b (¬ x < 0 ∧ ¬ 3 ≤ x)))) sc ar) := by
  refine x_intro hd [some (.int x)] (by decide) (Nat.le_of_ble_eq_true rfl) rfl ?_
  intro p e s m args below meth c X
  refine xg_iload_n X (pc := 0) d_T_isPlane_0 rfl ?_
  refine xg_if_lt X (pc := 1) (tgt := 13) d_T_isPlane_1 rfl (fun h1 => ?_) (fun h1 => ?_)
  · refine xg_iconst X (pc := 13) (v := 0) d_T_isPlane_13 (by decide) ?_
    exact xg_iret X (pc := 14) d_T_isPlane_14 rfl (rfl) (by first | exact x_ret1 (by simp_all [x_hol, x_pl, x_rp, x_be, x_op, x_os]) | exact x_ret0 (by simp_all [x_hol, x_pl, x_rp, x_be, x_op, x_os]))
  · refine xg_iload_n X (pc := 4) d_T_isPlane_4 rfl ?_
    refine xg_iconst X (pc := 5) (v := 3) d_T_isPlane_5 (by decide) ?_
    refine xg_icmp_ge X (pc := 6) (tgt := 13) d_T_isPlane_6 rfl (fun h6 => ?_) (fun h6 => ?_)
    · refine xg_iconst X (pc := 13) (v := 0) d_T_isPlane_13 (by decide) ?_
      exact xg_iret X (pc := 14) d_T_isPlane_14 rfl (rfl) (by first | exact x_ret1 (by simp_all [x_hol, x_pl, x_rp, x_be, x_op, x_os]) | exact x_ret0 (by simp_all [x_hol, x_pl, x_rp, x_be, x_op, x_os]))
    · refine xg_iconst X (pc := 9) (v := 1) d_T_isPlane_9 (by decide) ?_
      refine xg_goto X (pc := 10) (tgt := 14) d_T_isPlane_10 rfl ?_
      exact xg_iret X (pc := 14) d_T_isPlane_14 rfl (rfl) (by first | exact x_ret1 (by simp_all [x_hol, x_pl, x_rp, x_be, x_op, x_os]) | exact x_ret0 (by simp_all [x_hol, x_pl, x_rp, x_be, x_op, x_os]))
set_option maxRecDepth 100000 in
set_option maxHeartbeats 4000000 in
theorem c_T_isLevel (hd : x_dis ad) {x : Int32} : x_Con l M_T_isLevel 0 0 ad D cI [.int x] sc ar (x_E (some (.int (x_b (¬ x < 1 ∧ ¬ 4 < x)))) sc ar) := by
  refine x_intro hd [some (.int x)] (by decide) (Nat.le_of_ble_eq_true rfl) rfl ?_
  intro p e s m args below meth c X
  refine xg_iload_n X (pc := 0) d_T_isLevel_0 rfl ?_
  refine xg_iconst X (pc := 1) (v := 1) d_T_isLevel_1 (by decide) ?_
  refine xg_icmp_lt X (pc := 2) (tgt := 14) d_T_isLevel_2 rfl (fun h2 => ?_) (fun h2 => ?_)
  · refine xg_iconst X (pc := 14) (v := 0) d_T_isLevel_14 (by decide) ?_
    exact xg_iret X (pc := 15) d_T_isLevel_15 rfl (rfl) (by first | exact x_ret1 (by simp_all [x_hol, x_pl, x_rp, x_be, x_op, x_os]) | exact x_ret0 (by simp_all [x_hol, x_pl, x_rp, x_be, x_op, x_os]))
  · refine xg_iload_n X (pc := 5) d_T_isLevel_5 rfl ?_
    refine xg_iconst X (pc := 6) (v := 4) d_T_isLevel_6 (by decide) ?_
    refine xg_icmp_gt X (pc := 7) (tgt := 14) d_T_isLevel_7 rfl (fun h7 => ?_) (fun h7 => ?_)
    · refine xg_iconst X (pc := 14) (v := 0) d_T_isLevel_14 (by decide) ?_
      exact xg_iret X (pc := 15) d_T_isLevel_15 rfl (rfl) (by first | exact x_ret1 (by simp_all [x_hol, x_pl, x_rp, x_be, x_op, x_os]) | exact x_ret0 (by simp_all [x_hol, x_pl, x_rp, x_be, x_op, x_os]))
    · refine xg_iconst X (pc := 10) (v := 1) d_T_isLevel_10 (by decide) ?_
      refine xg_goto X (pc := 11) (tgt := 15) d_T_isLevel_11 rfl ?_
      exact xg_iret X (pc := 15) d_T_isLevel_15 rfl (rfl) (by first | exact x_ret1 (by simp_all [x_hol, x_pl, x_rp, x_be, x_op, x_os]) | exact x_ret0 (by simp_all [x_hol, x_pl, x_rp, x_be, x_op, x_os]))
set_option maxRecDepth 100000 in
set_option maxHeartbeats 4000000 in
theorem c_T_isSubband (hd : x_dis ad) {x : Int32} : x_Con l M_T_isSubband 0 0 ad D cI [.int x] sc ar (x_E (some (.int (x_b (¬ x < 0 ∧ ¬ 4 ≤ x)))) sc ar) := by
  refine x_intro hd [some (.int x)] (by decide) (Nat.le_of_ble_eq_true rfl) rfl ?_
  intro p e s m args below meth c X
  refine xg_iload_n X (pc := 0) d_T_isSubband_0 rfl ?_
  refine xg_if_lt X (pc := 1) (tgt := 13) d_T_isSubband_1 rfl (fun h1 => ?_) (fun h1 => ?_)
  · refine xg_iconst X (pc := 13) (v := 0) d_T_isSubband_13 (by decide) ?_
    exact xg_iret X (pc := 14) d_T_isSubband_14 rfl (rfl) (by first | exact x_ret1 (by simp_all [x_hol, x_pl, x_rp, x_be, x_op, x_os]) | exact x_ret0 (by simp_all [x_hol, x_pl, x_rp, x_be, x_op, x_os]))
  · refine xg_iload_n X (pc := 4) d_T_isSubband_4 rfl ?_
    refine xg_iconst X (pc := 5) (v := 4) d_T_isSubband_5 (by decide) ?_
    refine xg_icmp_ge X (pc := 6) (tgt := 13) d_T_isSubband_6 rfl (fun h6 => ?_) (fun h6 => ?_)
    · refine xg_iconst X (pc := 13) (v := 0) d_T_isSubband_13 (by decide) ?_
      exact xg_iret X (pc := 14) d_T_isSubband_14 rfl (rfl) (by first | exact x_ret1 (by simp_all [x_hol, x_pl, x_rp, x_be, x_op, x_os]) | exact x_ret0 (by simp_all [x_hol, x_pl, x_rp, x_be, x_op, x_os]))
    · refine xg_iconst X (pc := 9) (v := 1) d_T_isSubband_9 (by decide) ?_
      refine xg_goto X (pc := 10) (tgt := 14) d_T_isSubband_10 rfl ?_
      exact xg_iret X (pc := 14) d_T_isSubband_14 rfl (rfl) (by first | exact x_ret1 (by simp_all [x_hol, x_pl, x_rp, x_be, x_op, x_os]) | exact x_ret0 (by simp_all [x_hol, x_pl, x_rp, x_be, x_op, x_os]))
set_option maxRecDepth 100000 in
set_option maxHeartbeats 4000000 in
theorem c_T_hasTile (hd : x_dis ad) : x_Con l M_T_hasTile 0 0 ad D cI [.ref (ad 0)] sc ar (x_E (some (.int (x_b (¬ sc 3 ≤ 0)))) sc ar) := by
  refine x_intro hd [some (.ref (ad 0))] (by decide) (Nat.le_of_ble_eq_true rfl) rfl ?_
  intro p e s m args below meth c X
  refine xg_aload_n X (pc := 0) d_T_hasTile_0 rfl ?_
  refine xf_T_18 X (pc := 1) rfl d_T_hasTile_1 ?_
  refine xf_T_124_2 X (pc := 4) rfl d_T_hasTile_4 ?_
  refine xg_if_le X (pc := 7) (tgt := 14) d_T_hasTile_7 rfl (fun h7 => ?_) (fun h7 => ?_)
  · refine xg_iconst X (pc := 14) (v := 0) d_T_hasTile_14 (by decide) ?_
    exact xg_iret X (pc := 15) d_T_hasTile_15 rfl (rfl) (by first | exact x_ret1 (by simp_all [x_hol, x_pl, x_rp, x_be, x_op, x_os]) | exact x_ret0 (by simp_all [x_hol, x_pl, x_rp, x_be, x_op, x_os]))
  · refine xg_iconst X (pc := 10) (v := 1) d_T_hasTile_10 (by decide) ?_
    refine xg_goto X (pc := 11) (tgt := 15) d_T_hasTile_11 rfl ?_
    exact xg_iret X (pc := 15) d_T_hasTile_15 rfl (rfl) (by first | exact x_ret1 (by simp_all [x_hol, x_pl, x_rp, x_be, x_op, x_os]) | exact x_ret0 (by simp_all [x_hol, x_pl, x_rp, x_be, x_op, x_os]))
set_option maxRecDepth 100000 in
set_option maxHeartbeats 4000000 in
theorem c_T_hasLevel (hd : x_dis ad) {d : Int32} : x_Con l M_T_hasLevel 0 0 ad D cI [.ref (ad 0), .int d] sc ar (x_E (some (.int (x_b (¬ d < 1 ∧ ¬ sc 0 < d)))) sc ar) := by
  refine x_intro hd [some (.ref (ad 0)), some (.int d)] (by decide) (Nat.le_of_ble_eq_true rfl) rfl ?_
  intro p e s m args below meth c X
  refine xg_iload_n X (pc := 0) d_T_hasLevel_0 rfl ?_
  refine xg_iconst X (pc := 1) (v := 1) d_T_hasLevel_1 (by decide) ?_
  refine xg_icmp_lt X (pc := 2) (tgt := 17) d_T_hasLevel_2 rfl (fun h2 => ?_) (fun h2 => ?_)
  · refine xg_iconst X (pc := 17) (v := 0) d_T_hasLevel_17 (by decide) ?_
    exact xg_iret X (pc := 18) d_T_hasLevel_18 rfl (rfl) (by first | exact x_ret1 (by simp_all [x_hol, x_pl, x_rp, x_be, x_op, x_os]) | exact x_ret0 (by simp_all [x_hol, x_pl, x_rp, x_be, x_op, x_os]))
  · refine xg_iload_n X (pc := 5) d_T_hasLevel_5 rfl ?_
    refine xg_aload_n X (pc := 6) d_T_hasLevel_6 rfl ?_
    refine xf_T_35 X (pc := 7) rfl d_T_hasLevel_7 ?_
    refine xg_icmp_gt X (pc := 10) (tgt := 17) d_T_hasLevel_10 rfl (fun h10 => ?_) (fun h10 => ?_)
    · refine xg_iconst X (pc := 17) (v := 0) d_T_hasLevel_17 (by decide) ?_
      exact xg_iret X (pc := 18) d_T_hasLevel_18 rfl (rfl) (by first | exact x_ret1 (by simp_all [x_hol, x_pl, x_rp, x_be, x_op, x_os]) | exact x_ret0 (by simp_all [x_hol, x_pl, x_rp, x_be, x_op, x_os]))
    · refine xg_iconst X (pc := 13) (v := 1) d_T_hasLevel_13 (by decide) ?_
      refine xg_goto X (pc := 14) (tgt := 18) d_T_hasLevel_14 rfl ?_
      exact xg_iret X (pc := 18) d_T_hasLevel_18 rfl (rfl) (by first | exact x_ret1 (by simp_all [x_hol, x_pl, x_rp, x_be, x_op, x_os]) | exact x_ret0 (by simp_all [x_hol, x_pl, x_rp, x_be, x_op, x_os]))
set_option maxRecDepth 100000 in
set_option maxHeartbeats 4000000 in
theorem c_T_shiftRight (hd : x_dis ad) {d o : Int32} : x_Con l M_T_shiftRight 0 0 ad D cI [.int d, .int o] sc ar (x_E (some (.int ((o &&& 1) <<< ((d - 1) &&& 31)))) sc ar) := by
  refine x_intro hd [some (.int d), some (.int o)] (by decide) (Nat.le_of_ble_eq_true rfl) rfl ?_
  intro p e s m args below meth c X
  refine xg_iload_n X (pc := 0) d_T_shiftRight_0 rfl ?_
  refine xg_iconst X (pc := 1) (v := 1) d_T_shiftRight_1 (by decide) ?_
  refine xg_iand X (pc := 2) d_T_shiftRight_2 ?_
  refine xg_iload_n X (pc := 3) d_T_shiftRight_3 rfl ?_
  refine xg_iconst X (pc := 4) (v := 1) d_T_shiftRight_4 (by decide) ?_
  refine xg_isub X (pc := 5) d_T_shiftRight_5 ?_
  refine xg_ishl X (pc := 6) d_T_shiftRight_6 ?_
  exact xg_iret X (pc := 7) d_T_shiftRight_7 rfl (rfl) (⟨rfl, rfl, rfl⟩)
set_option maxRecDepth 100000 in
set_option maxHeartbeats 4000000 in
theorem c_T_shiftDown (hd : x_dis ad) {d o : Int32} : x_Con l M_T_shiftDown 0 0 ad D cI [.int d, .int o] sc ar (x_E (some (.int ((o >>> (1 &&& 31)) <<< ((d - 1) &&& 31)))) sc ar) := by
  refine x_intro hd [some (.int d), some (.int o)] (by decide) (Nat.le_of_ble_eq_true rfl) rfl ?_
  intro p e s m args below meth c X
  refine xg_iload_n X (pc := 0) d_T_shiftDown_0 rfl ?_
  refine xg_iconst X (pc := 1) (v := 1) d_T_shiftDown_1 (by decide) ?_
  refine xg_ishr X (pc := 2) d_T_shiftDown_2 ?_
  refine xg_iload_n X (pc := 3) d_T_shiftDown_3 rfl ?_
  refine xg_iconst X (pc := 4) (v := 1) d_T_shiftDown_4 (by decide) ?_
  refine xg_isub X (pc := 5) d_T_shiftDown_5 ?_
  refine xg_ishl X (pc := 6) d_T_shiftDown_6 ?_
  exact xg_iret X (pc := 7) d_T_shiftDown_7 rfl (rfl) (⟨rfl, rfl, rfl⟩)
def x_lf (b p t : Int32) : Int32 := (b - t + 1 <<< (p &&& 31) - 1) >>> (p &&& 31)
set_option maxRecDepth 100000 in
set_option maxHeartbeats 4000000 in
theorem c_S_leastFrom (hd : x_dis ad) {b p t : Int32} : x_Con l M_S_leastFrom 0 0 ad D cI [.int b, .int p, .int t] sc ar (x_E (some (.int (x_lf b p t))) sc ar) := by
  refine x_intro hd [some (.int b), some (.int p), some (.int t)] (by decide) (Nat.le_of_ble_eq_true rfl) rfl ?_
  intro p e s m args below meth c X
  refine xg_iload_n X (pc := 0) d_S_leastFrom_0 rfl ?_
  refine xg_iload_n X (pc := 1) d_S_leastFrom_1 rfl ?_
  refine xg_isub X (pc := 2) d_S_leastFrom_2 ?_
  refine xg_iconst X (pc := 3) (v := 1) d_S_leastFrom_3 (by decide) ?_
  refine xg_iload_n X (pc := 4) d_S_leastFrom_4 rfl ?_
  refine xg_ishl X (pc := 5) d_S_leastFrom_5 ?_
  refine xg_iadd X (pc := 6) d_S_leastFrom_6 ?_
  refine xg_iconst X (pc := 7) (v := 1) d_S_leastFrom_7 (by decide) ?_
  refine xg_isub X (pc := 8) d_S_leastFrom_8 ?_
  refine xg_iload_n X (pc := 9) d_S_leastFrom_9 rfl ?_
  refine xg_ishr X (pc := 10) d_S_leastFrom_10 ?_
  exact xg_iret X (pc := 11) d_S_leastFrom_11 rfl (rfl) (⟨rfl, rfl, rfl⟩)
set_option maxRecDepth 100000 in
set_option maxHeartbeats 4000000 in
theorem c_S_firstOf (hd : x_dis ad) {p t : Int32} {j : Nat} (hj : j < 2) : x_Con l M_S_firstOf 1 22 ad D cI [.ref (ad (j + 2)), .int p, .int t] sc ar (x_E (some (.int (x_lf (sc (2 * j + 2)) p t))) sc ar) := by
  refine x_intro hd [some (.ref (ad (j + 2))), some (.int p), some (.int t)] (by decide) (Nat.le_of_ble_eq_true rfl) rfl ?_
  intro p e s m args below meth c X
  refine xg_aload_n X (pc := 0) d_S_firstOf_0 rfl ?_
  refine xf_S_13_j X (pc := 1) hj rfl d_S_firstOf_1 ?_
  refine xg_iload_n X (pc := 4) d_S_firstOf_4 rfl ?_
  refine xg_iload_n X (pc := 5) d_S_firstOf_5 rfl ?_
  refine xg_crS3 X (pc := 6) d_S_firstOf_6 (c_S_leastFrom hd) s_S_19 ⟨by decide, by decide⟩ (Nat.le_of_ble_eq_true rfl) ?_
  exact xg_iret X (pc := 9) d_S_firstOf_9 rfl (rfl) (⟨rfl, rfl, rfl⟩)
set_option maxRecDepth 100000 in
set_option maxHeartbeats 4000000 in
theorem c_S_countOf (hd : x_dis ad) {p t : Int32} {j : Nat} (hj : j < 2) : x_Con l M_S_countOf 1 22 ad D cI [.ref (ad (j + 2)), .int p, .int t] sc ar (x_E (some (.int (x_lf (sc (2 * j + 2) + sc (2 * j + 3)) p t - x_lf (sc (2 * j + 2)) p t))) sc ar) := by
  refine x_intro hd [some (.ref (ad (j + 2))), some (.int p), some (.int t)] (by decide) (Nat.le_of_ble_eq_true rfl) rfl ?_
  intro p e s m args below meth c X
  refine xg_aload_n X (pc := 0) d_S_countOf_0 rfl ?_
  refine xf_S_13_j X (pc := 1) hj rfl d_S_countOf_1 ?_
  refine xg_aload_n X (pc := 4) d_S_countOf_4 rfl ?_
  refine xf_S_16_j X (pc := 5) hj rfl d_S_countOf_5 ?_
  refine xg_iadd X (pc := 8) d_S_countOf_8 ?_
  refine xg_iload_n X (pc := 9) d_S_countOf_9 rfl ?_
  refine xg_iload_n X (pc := 10) d_S_countOf_10 rfl ?_
  refine xg_crS3 X (pc := 11) d_S_countOf_11 (c_S_leastFrom hd) s_S_19 ⟨by decide, by decide⟩ (Nat.le_of_ble_eq_true rfl) ?_
  refine xg_aload_n X (pc := 14) d_S_countOf_14 rfl ?_
  refine xf_S_13_j X (pc := 15) hj rfl d_S_countOf_15 ?_
  refine xg_iload_n X (pc := 18) d_S_countOf_18 rfl ?_
  refine xg_iload_n X (pc := 19) d_S_countOf_19 rfl ?_
  refine xg_crS3 X (pc := 20) d_S_countOf_20 (c_S_leastFrom hd) s_S_19 ⟨by decide, by decide⟩ (Nat.le_of_ble_eq_true rfl) ?_
  refine xg_isub X (pc := 23) d_S_countOf_23 ?_
  exact xg_iret X (pc := 24) d_S_countOf_24 rfl (rfl) (⟨rfl, rfl, rfl⟩)
set_option maxRecDepth 100000 in
set_option maxHeartbeats 4000000 in
theorem c_S_offsetOf (hd : x_dis ad) {z : Int64} {j : Nat} (hj : j < 2) : x_Con l M_S_offsetOf 0 0 ad D cI [.ref (ad (j + 2)), .long z] sc ar (x_E (some (.int ((z - (sc (2 * j + 2)).toInt64).toInt32 * x_st j))) sc ar) := by
  refine x_intro hd [some (.ref (ad (j + 2))), some (.long z), none] (by decide) (Nat.le_of_ble_eq_true rfl) rfl ?_
  intro p e s m args below meth c X
  refine xg_lload_n X (pc := 0) d_S_offsetOf_0 rfl ?_
  refine xg_aload_n X (pc := 1) d_S_offsetOf_1 rfl ?_
  refine xf_S_13_j X (pc := 2) hj rfl d_S_offsetOf_2 ?_
  refine xg_i2l X (pc := 5) d_S_offsetOf_5 ?_
  refine xg_lsub X (pc := 6) d_S_offsetOf_6 ?_
  refine xg_l2i X (pc := 7) d_S_offsetOf_7 ?_
  refine xg_aload_n X (pc := 8) d_S_offsetOf_8 rfl ?_
  refine xf_S_7_j X (pc := 9) hj rfl d_S_offsetOf_9 ?_
  refine xg_imul X (pc := 12) d_S_offsetOf_12 ?_
  exact xg_iret X (pc := 13) d_S_offsetOf_13 rfl (rfl) (⟨rfl, rfl, rfl⟩)
set_option maxRecDepth 100000 in
set_option maxHeartbeats 4000000 in
theorem c_S_cover (hd : x_dis ad) {b n : Int32} {j : Nat} (hj : j < 2) : x_Con l M_S_cover 0 0 ad D cI [.ref (ad (j + 2)), .int b, .int n] sc ar (x_E none (upd (upd sc (2 * j + 2) b) (2 * j + 3) n) ar) := by
  refine x_intro hd [some (.ref (ad (j + 2))), some (.int b), some (.int n)] (by decide) (Nat.le_of_ble_eq_true rfl) rfl ?_
  intro p e s m args below meth c X
  refine xg_aload_n X (pc := 0) d_S_cover_0 rfl ?_
  refine xg_iload_n X (pc := 1) d_S_cover_1 rfl ?_
  refine xp_S_13_j X (pc := 2) hj rfl d_S_cover_2 ?_
  refine xg_aload_n X (pc := 5) d_S_cover_5 rfl ?_
  refine xg_iload_n X (pc := 6) d_S_cover_6 rfl ?_
  refine xp_S_16_j X (pc := 7) hj rfl d_S_cover_7 ?_
  exact xg_vret X (pc := 10) d_S_cover_10 rfl (⟨rfl, rfl, rfl⟩)
set_option maxRecDepth 100000 in
set_option maxHeartbeats 4000000 in
theorem c_L_isOdd (hd : x_dis ad) {n : Int32} : x_Con l M_L_isOdd 0 0 ad D cI [.int n] sc ar (x_E (some (.int (x_b (n &&& 1 = 1)))) sc ar) := by
  refine x_intro hd [some (.int n)] (by decide) (Nat.le_of_ble_eq_true rfl) rfl ?_
  intro p e s m args below meth c X
  refine xg_iload_n X (pc := 0) d_L_isOdd_0 rfl ?_
  refine xg_iconst X (pc := 1) (v := 1) d_L_isOdd_1 (by decide) ?_
  refine xg_iand X (pc := 2) d_L_isOdd_2 ?_
  refine xg_iconst X (pc := 3) (v := 1) d_L_isOdd_3 (by decide) ?_
  refine xg_icmp_ne X (pc := 4) (tgt := 11) d_L_isOdd_4 rfl (fun h4 => ?_) (fun h4 => ?_)
  · refine xg_iconst X (pc := 11) (v := 0) d_L_isOdd_11 (by decide) ?_
    exact xg_iret X (pc := 12) d_L_isOdd_12 rfl (rfl) (by first | exact x_ret1 (by simp_all [x_hol, x_pl, x_rp, x_be, x_op, x_os]) | exact x_ret0 (by simp_all [x_hol, x_pl, x_rp, x_be, x_op, x_os]))
  · refine xg_iconst X (pc := 7) (v := 1) d_L_isOdd_7 (by decide) ?_
    refine xg_goto X (pc := 8) (tgt := 12) d_L_isOdd_8 rfl ?_
    exact xg_iret X (pc := 12) d_L_isOdd_12 rfl (rfl) (by first | exact x_ret1 (by simp_all [x_hol, x_pl, x_rp, x_be, x_op, x_os]) | exact x_ret0 (by simp_all [x_hol, x_pl, x_rp, x_be, x_op, x_os]))
end C1
