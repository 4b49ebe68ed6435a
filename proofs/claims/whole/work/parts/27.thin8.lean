def x_tf (cb : Nat → Bool) (g : Int32 → Int32) (f : Nat → Int32) (k : Nat) : Nat → Int32 := fun i => if i < k ∧ cb i = true then g (f i) else f i
def x_tc (cb : Nat → Bool) (g : Int32 → Int32) (f : Nat → Int32) : Nat → Int32
  | 0 => 0
  | k + 1 => x_tc cb g f k + (if cb k = true ∧ ¬ f k = 0 ∧ g (f k) = 0 then 1 else 0)
section TN
variable {cb : Nat → Bool} {g : Int32 → Int32} {f : Nat → Int32} {k : Nat}
theorem x_tf0 : x_tf cb g f 0 = f := by
  funext i
  unfold x_tf
  rw [if_neg (fun h => absurd h.1 (Nat.not_lt_zero i))]
theorem x_tf_at : x_tf cb g f k k = f k := if_neg (fun h => absurd h.1 (Nat.lt_irrefl k))
theorem x_tf_n (h : ¬ cb k = true) : x_tf cb g f k = x_tf cb g f (k + 1) := by
  funext i
  unfold x_tf
  by_cases h2 : i < k ∧ cb i = true
  · rw [if_pos h2, if_pos ⟨by omega, h2.2⟩]
  · rw [if_neg h2, if_neg]
    rintro ⟨h3, h4⟩
    by_cases h5 : i = k
    · rw [h5] at h4; exact h h4
    · exact h2 ⟨by omega, h4⟩
theorem x_tf_y (h : cb k = true) : upd (x_tf cb g f k) k (g (f k)) = x_tf cb g f (k + 1) := by
  funext i
  unfold upd
  by_cases h5 : i = k
  · rw [if_pos h5, h5]
    unfold x_tf
    rw [if_pos ⟨Nat.lt_succ_self k, h⟩]
  · rw [if_neg h5]
    unfold x_tf
    by_cases h2 : i < k ∧ cb i = true
    · rw [if_pos h2, if_pos ⟨by omega, h2.2⟩]
    · rw [if_neg h2, if_neg]
      rintro ⟨h3, h4⟩
      exact h2 ⟨by omega, h4⟩
theorem x_tc_n (h : ¬ cb k = true) : x_tc cb g f (k + 1) = x_tc cb g f k := by
  show _ + (if _ then _ else _) = _
  rw [if_neg (fun q => h q.1), Int32.add_zero]
theorem x_tc_z (h : f k = 0) : x_tc cb g f (k + 1) = x_tc cb g f k + 0 := by
  show _ + (if _ then _ else _) = _
  rw [if_neg (fun q => q.2.1 h)]
theorem x_tc_k (h : ¬ g (f k) = 0) : x_tc cb g f (k + 1) = x_tc cb g f k + 0 := by
  show _ + (if _ then _ else _) = _
  rw [if_neg (fun q => h q.2.2)]
theorem x_tc_v (h1 : cb k = true) (h2 : ¬ f k = 0) (h3 : g (f k) = 0) : x_tc cb g f (k + 1) = x_tc cb g f k + 1 := by
  show _ + (if _ then _ else _) = _
  rw [if_pos ⟨h1, h2, h3⟩]
end TN
def x_ws (cb : Nat → Bool) (f : Nat → Int32) (b : Nat) : Nat → Int64
  | 0 => 0
  | k + 1 => x_ws cb f b k + (if cb (b + k) = true then x_am (f (b + k)) else 0)
theorem x_ws_y {cb : Nat → Bool} {f : Nat → Int32} {b k : Nat} (h : cb (b + k) = true) : x_ws cb f b (k + 1) = x_ws cb f b k + x_am (f (b + k)) := by
  show _ + (if _ then _ else _) = _
  rw [if_pos h]
theorem x_ws_n {cb : Nat → Bool} {f : Nat → Int32} {b k : Nat} (h : ¬ cb (b + k) = true) : x_ws cb f b (k + 1) = x_ws cb f b k := by
  show _ + (if _ then _ else _) = _
  rw [if_neg h, Int64.add_zero]
theorem x_t0 {t : Int32} (h1 : ¬ t < 1) : ¬ t.toInt64 = 0 := by
  intro h
  have e : t.toInt64.toInt = 0 := by rw [h]; rfl
  rw [Int32.toInt_toInt64] at e
  apply h1
  rw [Int32.lt_iff_toInt_lt, e]
  decide
theorem x_plq {x : Int32} (h : x_pl x) : ∃ q : Nat, q < 3 ∧ x = nI q := by
  obtain ⟨j, h1, h2⟩ := nI_of h.1
  refine ⟨j, ?_, h2⟩
  have := h.2
  rw [h2] at this
  exact Nat.lt_of_not_le fun q => this ((nI_leI (a := 3) (by decide) h1).mpr q)
section C8
variable {l : Launch} {ad : Nat → Nat} {D : va_G} {cI : ClassId} {sc : Nat → Int32} {ar : Nat → Nat → Int32}
set_option maxRecDepth 100000 in
set_option maxHeartbeats 4000000 in
theorem c_T_thin (hd : x_dis ad) {d o t : Int32} : x_Con l M_T_thin 3 66 ad D cI [.ref (ad 0), .int d, .int o, .int t] sc ar (fun r sc2 ar2 => if (¬ d < 1 ∧ ¬ sc 0 < d) ∧ (¬ o < 0 ∧ ¬ 4 ≤ o) ∧ ¬ t < 1 ∧ t ≤ 32767 ∧ (¬ o = 0 ∨ d = sc 0) then x_E (some (.int (x_tc (fun i => decide (x_os sc (nI i) d o)) (fun x => x_th x t) (ar 0) 768))) sc (x_ua ar 0 (x_tf (fun i => decide (x_os sc (nI i) d o)) (fun x => x_th x t) (ar 0) 768)) r sc2 ar2 else x_E (some (.int (-1))) sc ar r sc2 ar2) := by
  refine x_intro hd [some (.ref (ad 0)), some (.int d), some (.int o), some (.int t), none, none, none] (by decide) (Nat.le_of_ble_eq_true rfl) rfl ?_
  intro p e s m args below meth c X
  have loop : (¬ d < 1 ∧ ¬ sc 0 < d) ∧ (¬ o < 0 ∧ ¬ 4 ≤ o) ∧ ¬ t < 1 ∧ t ≤ 32767 ∧ (¬ o = 0 ∨ d = sc 0) → ∀ n k : Nat, 768 - k < n → k ≤ 768 → x_G p l e (x_rm 3 66) s m args below meth c M_T_thin ad D cI (x_A ad) 0 0 (x_Q below args s ad D cI (fun r sc2 ar2 => if (¬ d < 1 ∧ ¬ sc 0 < d) ∧ (¬ o < 0 ∧ ¬ 4 ≤ o) ∧ ¬ t < 1 ∧ t ≤ 32767 ∧ (¬ o = 0 ∨ d = sc 0) then x_E (some (.int (x_tc (fun i => decide (x_os sc (nI i) d o)) (fun x => x_th x t) (ar 0) 768))) sc (x_ua ar 0 (x_tf (fun i => decide (x_os sc (nI i) d o)) (fun x => x_th x t) (ar 0) 768)) r sc2 ar2 else x_E (some (.int (-1))) sc ar r sc2 ar2)) 49 [some (.ref (ad 0)), some (.int d), some (.int o), some (.int t), some (.int (x_tc (fun i => decide (x_os sc (nI i) d o)) (fun x => x_th x t) (ar 0) k)), some (.int (nI k)), none] [] sc (x_ua ar 0 (x_tf (fun i => decide (x_os sc (nI i) d o)) (fun x => x_th x t) (ar 0) k)) := by
    intro hc n
    induction n with
    | zero => intro k h _; exact absurd h (Nat.not_lt_zero _)
    | succ n ih =>
      intro k hn hk
      refine xg_iload X (pc := 49) d_T_thin_49 rfl ?_
      refine xg_aload_n X (pc := 51) d_T_thin_51 rfl ?_
      refine xf_T_9 X (pc := 52) rfl d_T_thin_52 ?_
      refine xa_len1 X (pc := 55) d_T_thin_55 ?_
      refine xg_icmp_ge X (pc := 56) (tgt := 123) d_T_thin_56 rfl (fun h56 => ?_) (fun h56 => ?_)
      · have hk2 : k = 768 := Nat.le_antisymm hk (x_ge (n := 768) rfl (by decide) (by omega) h56)
        subst hk2
        refine xg_iload X (pc := 123) d_T_thin_123 rfl ?_
        exact xg_iret X (pc := 125) d_T_thin_125 rfl (rfl) (by show ite _ _ _; rw [if_pos hc]; exact ⟨rfl, rfl, rfl⟩)
      · have hk3 : k < 768 := x_nge (n := 768) rfl (by decide) (by omega) h56
        have hk4 : k < 2 ^ 31 := by omega
        refine xg_aload_n X (pc := 59) d_T_thin_59 rfl ?_
        refine xg_iload X (pc := 60) d_T_thin_60 rfl ?_
        refine xg_iload_n X (pc := 62) d_T_thin_62 rfl ?_
        refine xg_iload_n X (pc := 63) d_T_thin_63 rfl ?_
        refine xg_crV3 X (pc := 64) d_T_thin_64 (c_T_isOfSubband hd) s_T_108 ⟨_, rfl⟩ rfl ⟨by decide, by decide⟩ (Nat.le_of_ble_eq_true rfl) ?_
        refine xg_if_eq X (pc := 67) (tgt := 117) d_T_thin_67 rfl (fun h67 => ?_) (fun h67 => ?_)
        · replace h67 := x_b0 h67
          refine xg_weak [some (.ref (ad 0)), some (.int d), some (.int o), some (.int t), some (.int (x_tc (fun i => decide (x_os sc (nI i) d o)) (fun x => x_th x t) (ar 0) (k + 1))), some (.int (nI k)), none] ⟨rfl, rfl, rfl, rfl, congrArg (fun v => some (Value.int v)) (by first | exact (x_tc_n (by simpa using h67)).symm | exact (x_tc_v (by simpa using h67) h96 h106).symm | exact (x_tc_k h106).symm | exact (x_tc_z h96).symm), rfl, trivial⟩ ?_
          refine xg_eq rfl (ar' := x_ua ar 0 (x_tf (fun i => decide (x_os sc (nI i) d o)) (fun x => x_th x t) (ar 0) (k + 1))) (by first | (simp only [x_ua_ua, x_ua_at, nI_clamp hk4, x_tf_at]; exact congrArg _ (x_tf_y (by simpa using h67))) | exact congrArg _ (x_tf_n (by simpa using h67))) rfl ?_
          refine xg_iinc X (pc := 117) d_T_thin_117 rfl (x_inc (by decide : Int32.ofInt (1) = 1) _) (by decide) rfl ?_
          refine xg_goto X (pc := 120) (tgt := 49) d_T_thin_120 rfl ?_
          refine xg_weak [some (.ref (ad 0)), some (.int d), some (.int o), some (.int t), some (.int (x_tc (fun i => decide (x_os sc (nI i) d o)) (fun x => x_th x t) (ar 0) (k + 1))), some (.int (nI (k + 1))), none] ⟨rfl, rfl, rfl, rfl, rfl, by rw [← x_k1], trivial⟩ ?_
          exact ih (k + 1) (by omega) (by omega)
        · replace h67 := x_bn h67
          refine xg_aload_n X (pc := 70) d_T_thin_70 rfl ?_
          refine xf_T_9 X (pc := 71) rfl d_T_thin_71 ?_
          refine xg_iload X (pc := 74) d_T_thin_74 rfl ?_
          refine xa_ld1 X (pc := 76) d_T_thin_76 (vp_in_nI (by omega) (by decide)) ?_
          refine xg_istore X (pc := 77) d_T_thin_77 (by decide) rfl ?_
          refine xg_aload_n X (pc := 79) d_T_thin_79 rfl ?_
          refine xf_T_9 X (pc := 80) rfl d_T_thin_80 ?_
          refine xg_iload X (pc := 83) d_T_thin_83 rfl ?_
          refine xg_iload X (pc := 85) d_T_thin_85 rfl ?_
          refine xg_iload_n X (pc := 87) d_T_thin_87 rfl ?_
          refine xg_crS2 X (pc := 88) d_T_thin_88 (c_T_thinned hd (x_t0 hc.2.2.1)) s_T_112 ⟨by decide, by decide⟩ (Nat.le_of_ble_eq_true rfl) ?_
          refine xa_st1 X (pc := 91) d_T_thin_91 (vp_in_nI (by omega) (by decide)) ?_
          refine xg_iload X (pc := 92) d_T_thin_92 rfl ?_
          refine xg_iload X (pc := 94) d_T_thin_94 rfl ?_
          refine xg_if_eq X (pc := 96) (tgt := 113) d_T_thin_96 rfl (fun h96 => ?_) (fun h96 => ?_)
          · try simp only [x_ua_at, nI_clamp hk4, pk_us, x_tf_at] at h96
            try simp only [x_ua_at, nI_clamp hk4, pk_us, x_tf_at] at h106
            refine xg_iconst X (pc := 113) (v := 0) d_T_thin_113 (by decide) ?_
            refine xg_iadd X (pc := 114) d_T_thin_114 ?_
            refine xg_istore X (pc := 115) d_T_thin_115 (by decide) rfl ?_
            refine xg_weak [some (.ref (ad 0)), some (.int d), some (.int o), some (.int t), some (.int (x_tc (fun i => decide (x_os sc (nI i) d o)) (fun x => x_th x t) (ar 0) (k + 1))), some (.int (nI k)), none] ⟨rfl, rfl, rfl, rfl, congrArg (fun v => some (Value.int v)) (by first | exact (x_tc_n (by simpa using h67)).symm | exact (x_tc_v (by simpa using h67) h96 h106).symm | exact (x_tc_k h106).symm | exact (x_tc_z h96).symm), rfl, trivial⟩ ?_
            refine xg_eq rfl (ar' := x_ua ar 0 (x_tf (fun i => decide (x_os sc (nI i) d o)) (fun x => x_th x t) (ar 0) (k + 1))) (by first | (simp only [x_ua_ua, x_ua_at, nI_clamp hk4, x_tf_at]; exact congrArg _ (x_tf_y (by simpa using h67))) | exact congrArg _ (x_tf_n (by simpa using h67))) rfl ?_
            refine xg_iinc X (pc := 117) d_T_thin_117 rfl (x_inc (by decide : Int32.ofInt (1) = 1) _) (by decide) rfl ?_
            refine xg_goto X (pc := 120) (tgt := 49) d_T_thin_120 rfl ?_
            refine xg_weak [some (.ref (ad 0)), some (.int d), some (.int o), some (.int t), some (.int (x_tc (fun i => decide (x_os sc (nI i) d o)) (fun x => x_th x t) (ar 0) (k + 1))), some (.int (nI (k + 1))), none] ⟨rfl, rfl, rfl, rfl, rfl, by rw [← x_k1], trivial⟩ ?_
            exact ih (k + 1) (by omega) (by omega)
          · simp only [x_ua_at, nI_clamp hk4, pk_us, x_tf_at] at h96
            refine xg_aload_n X (pc := 99) d_T_thin_99 rfl ?_
            refine xf_T_9 X (pc := 100) rfl d_T_thin_100 ?_
            refine xg_iload X (pc := 103) d_T_thin_103 rfl ?_
            refine xa_ld1 X (pc := 105) d_T_thin_105 (vp_in_nI (by omega) (by decide)) ?_
            refine xg_if_ne X (pc := 106) (tgt := 113) d_T_thin_106 rfl (fun h106 => ?_) (fun h106 => ?_)
            · try simp only [x_ua_at, nI_clamp hk4, pk_us, x_tf_at] at h96
              try simp only [x_ua_at, nI_clamp hk4, pk_us, x_tf_at] at h106
              refine xg_iconst X (pc := 113) (v := 0) d_T_thin_113 (by decide) ?_
              refine xg_iadd X (pc := 114) d_T_thin_114 ?_
              refine xg_istore X (pc := 115) d_T_thin_115 (by decide) rfl ?_
              refine xg_weak [some (.ref (ad 0)), some (.int d), some (.int o), some (.int t), some (.int (x_tc (fun i => decide (x_os sc (nI i) d o)) (fun x => x_th x t) (ar 0) (k + 1))), some (.int (nI k)), none] ⟨rfl, rfl, rfl, rfl, congrArg (fun v => some (Value.int v)) (by first | exact (x_tc_n (by simpa using h67)).symm | exact (x_tc_v (by simpa using h67) h96 h106).symm | exact (x_tc_k h106).symm | exact (x_tc_z h96).symm), rfl, trivial⟩ ?_
              refine xg_eq rfl (ar' := x_ua ar 0 (x_tf (fun i => decide (x_os sc (nI i) d o)) (fun x => x_th x t) (ar 0) (k + 1))) (by first | (simp only [x_ua_ua, x_ua_at, nI_clamp hk4, x_tf_at]; exact congrArg _ (x_tf_y (by simpa using h67))) | exact congrArg _ (x_tf_n (by simpa using h67))) rfl ?_
              refine xg_iinc X (pc := 117) d_T_thin_117 rfl (x_inc (by decide : Int32.ofInt (1) = 1) _) (by decide) rfl ?_
              refine xg_goto X (pc := 120) (tgt := 49) d_T_thin_120 rfl ?_
              refine xg_weak [some (.ref (ad 0)), some (.int d), some (.int o), some (.int t), some (.int (x_tc (fun i => decide (x_os sc (nI i) d o)) (fun x => x_th x t) (ar 0) (k + 1))), some (.int (nI (k + 1))), none] ⟨rfl, rfl, rfl, rfl, rfl, by rw [← x_k1], trivial⟩ ?_
              exact ih (k + 1) (by omega) (by omega)
            · simp only [x_ua_at, nI_clamp hk4, pk_us, x_tf_at] at h106
              refine xg_iconst X (pc := 109) (v := 1) d_T_thin_109 (by decide) ?_
              refine xg_goto X (pc := 110) (tgt := 114) d_T_thin_110 rfl ?_
              refine xg_iadd X (pc := 114) d_T_thin_114 ?_
              refine xg_istore X (pc := 115) d_T_thin_115 (by decide) rfl ?_
              refine xg_weak [some (.ref (ad 0)), some (.int d), some (.int o), some (.int t), some (.int (x_tc (fun i => decide (x_os sc (nI i) d o)) (fun x => x_th x t) (ar 0) (k + 1))), some (.int (nI k)), none] ⟨rfl, rfl, rfl, rfl, congrArg (fun v => some (Value.int v)) (by first | exact (x_tc_n (by simpa using h67)).symm | exact (x_tc_v (by simpa using h67) h96 h106).symm | exact (x_tc_k h106).symm | exact (x_tc_z h96).symm), rfl, trivial⟩ ?_
              refine xg_eq rfl (ar' := x_ua ar 0 (x_tf (fun i => decide (x_os sc (nI i) d o)) (fun x => x_th x t) (ar 0) (k + 1))) (by first | (simp only [x_ua_ua, x_ua_at, nI_clamp hk4, x_tf_at]; exact congrArg _ (x_tf_y (by simpa using h67))) | exact congrArg _ (x_tf_n (by simpa using h67))) rfl ?_
              refine xg_iinc X (pc := 117) d_T_thin_117 rfl (x_inc (by decide : Int32.ofInt (1) = 1) _) (by decide) rfl ?_
              refine xg_goto X (pc := 120) (tgt := 49) d_T_thin_120 rfl ?_
              refine xg_weak [some (.ref (ad 0)), some (.int d), some (.int o), some (.int t), some (.int (x_tc (fun i => decide (x_os sc (nI i) d o)) (fun x => x_th x t) (ar 0) (k + 1))), some (.int (nI (k + 1))), none] ⟨rfl, rfl, rfl, rfl, rfl, by rw [← x_k1], trivial⟩ ?_
              exact ih (k + 1) (by omega) (by omega)
  refine xg_aload_n X (pc := 0) d_T_thin_0 rfl ?_
  refine xg_iload_n X (pc := 1) d_T_thin_1 rfl ?_
  refine xg_crV1 X (pc := 2) d_T_thin_2 (c_T_hasLevel hd) s_T_82 ⟨_, rfl⟩ rfl ⟨by decide, by decide⟩ (Nat.le_of_ble_eq_true rfl) ?_
  refine xg_if_eq X (pc := 5) (tgt := 27) d_T_thin_5 rfl (fun h5 => ?_) (fun h5 => ?_)
  · replace h5 := x_b0 h5
    refine xg_iconst X (pc := 27) (v := -1) d_T_thin_27 (by decide) ?_
    exact xg_iret X (pc := 28) d_T_thin_28 rfl (rfl) (by show ite _ _ _; rw [if_neg (by first | (simp_all [x_hol, x_pl, x_rp, x_be, x_op, x_os]; done) | ((try simp only [x_op, x_rp, x_pl, x_hol] at *); grind))]; exact ⟨rfl, rfl, rfl⟩)
  · replace h5 := x_bn h5
    refine xg_iload_n X (pc := 8) d_T_thin_8 rfl ?_
    refine xg_crS1 X (pc := 9) d_T_thin_9 (c_T_isSubband hd) s_T_88 ⟨by decide, by decide⟩ (Nat.le_of_ble_eq_true rfl) ?_
    refine xg_if_eq X (pc := 12) (tgt := 27) d_T_thin_12 rfl (fun h12 => ?_) (fun h12 => ?_)
    · replace h12 := x_b0 h12
      refine xg_iconst X (pc := 27) (v := -1) d_T_thin_27 (by decide) ?_
      exact xg_iret X (pc := 28) d_T_thin_28 rfl (rfl) (by show ite _ _ _; rw [if_neg (by first | (simp_all [x_hol, x_pl, x_rp, x_be, x_op, x_os]; done) | ((try simp only [x_op, x_rp, x_pl, x_hol] at *); grind))]; exact ⟨rfl, rfl, rfl⟩)
    · replace h12 := x_bn h12
      refine xg_iload_n X (pc := 15) d_T_thin_15 rfl ?_
      refine xg_iconst X (pc := 16) (v := 1) d_T_thin_16 (by decide) ?_
      refine xg_icmp_lt X (pc := 17) (tgt := 27) d_T_thin_17 rfl (fun h17 => ?_) (fun h17 => ?_)
      · refine xg_iconst X (pc := 27) (v := -1) d_T_thin_27 (by decide) ?_
        exact xg_iret X (pc := 28) d_T_thin_28 rfl (rfl) (by show ite _ _ _; rw [if_neg (by first | (simp_all [x_hol, x_pl, x_rp, x_be, x_op, x_os]; done) | ((try simp only [x_op, x_rp, x_pl, x_hol] at *); grind))]; exact ⟨rfl, rfl, rfl⟩)
      · refine xg_iload_n X (pc := 20) d_T_thin_20 rfl ?_
        refine xg_sipush X (pc := 21) (v := 32767) d_T_thin_21 (by decide) ?_
        refine xg_icmp_le X (pc := 24) (tgt := 29) d_T_thin_24 rfl (fun h24 => ?_) (fun h24 => ?_)
        · refine xg_iload_n X (pc := 29) d_T_thin_29 rfl ?_
          refine xg_if_ne X (pc := 30) (tgt := 43) d_T_thin_30 rfl (fun h30 => ?_) (fun h30 => ?_)
          · have hc : (¬ d < 1 ∧ ¬ sc 0 < d) ∧ (¬ o < 0 ∧ ¬ 4 ≤ o) ∧ ¬ t < 1 ∧ t ≤ 32767 ∧ (¬ o = 0 ∨ d = sc 0) := ⟨h5, h12, h17, h24, by first | exact Or.inl h30 | exact Or.inr h38⟩
            refine xg_iconst X (pc := 43) (v := 0) d_T_thin_43 (by decide) ?_
            refine xg_istore X (pc := 44) d_T_thin_44 (by decide) rfl ?_
            refine xg_iconst X (pc := 46) (v := 0) d_T_thin_46 (by decide) ?_
            refine xg_istore X (pc := 47) d_T_thin_47 (by decide) rfl ?_
            refine xg_weak [some (.ref (ad 0)), some (.int d), some (.int o), some (.int t), some (.int (x_tc (fun i => decide (x_os sc (nI i) d o)) (fun x => x_th x t) (ar 0) 0)), some (.int (nI 0)), none] ⟨rfl, rfl, rfl, rfl, rfl, rfl, trivial⟩ ?_
            exact xg_eq rfl (by rw [x_tf0, x_ua_id]) rfl (loop hc 769 0 (by omega) (by omega))
          · refine xg_iload_n X (pc := 33) d_T_thin_33 rfl ?_
            refine xg_aload_n X (pc := 34) d_T_thin_34 rfl ?_
            refine xf_T_35 X (pc := 35) rfl d_T_thin_35 ?_
            refine xg_icmp_eq X (pc := 38) (tgt := 43) d_T_thin_38 rfl (fun h38 => ?_) (fun h38 => ?_)
            · have hc : (¬ d < 1 ∧ ¬ sc 0 < d) ∧ (¬ o < 0 ∧ ¬ 4 ≤ o) ∧ ¬ t < 1 ∧ t ≤ 32767 ∧ (¬ o = 0 ∨ d = sc 0) := ⟨h5, h12, h17, h24, by first | exact Or.inl h30 | exact Or.inr h38⟩
              refine xg_iconst X (pc := 43) (v := 0) d_T_thin_43 (by decide) ?_
              refine xg_istore X (pc := 44) d_T_thin_44 (by decide) rfl ?_
              refine xg_iconst X (pc := 46) (v := 0) d_T_thin_46 (by decide) ?_
              refine xg_istore X (pc := 47) d_T_thin_47 (by decide) rfl ?_
              refine xg_weak [some (.ref (ad 0)), some (.int d), some (.int o), some (.int t), some (.int (x_tc (fun i => decide (x_os sc (nI i) d o)) (fun x => x_th x t) (ar 0) 0)), some (.int (nI 0)), none] ⟨rfl, rfl, rfl, rfl, rfl, rfl, trivial⟩ ?_
              exact xg_eq rfl (by rw [x_tf0, x_ua_id]) rfl (loop hc 769 0 (by omega) (by omega))
            · refine xg_iconst X (pc := 41) (v := -1) d_T_thin_41 (by decide) ?_
              exact xg_iret X (pc := 42) d_T_thin_42 rfl (rfl) (by show ite _ _ _; rw [if_neg (by first | (simp_all [x_hol, x_pl, x_rp, x_be, x_op, x_os]; done) | ((try simp only [x_op, x_rp, x_pl, x_hol] at *); grind))]; exact ⟨rfl, rfl, rfl⟩)
        · refine xg_iconst X (pc := 27) (v := -1) d_T_thin_27 (by decide) ?_
          exact xg_iret X (pc := 28) d_T_thin_28 rfl (rfl) (by show ite _ _ _; rw [if_neg (by first | (simp_all [x_hol, x_pl, x_rp, x_be, x_op, x_os]; done) | ((try simp only [x_op, x_rp, x_pl, x_hol] at *); grind))]; exact ⟨rfl, rfl, rfl⟩)
set_option maxRecDepth 100000 in
set_option maxHeartbeats 4000000 in
theorem c_T_weight (hd : x_dis ad) {pl d o : Int32} : x_Con l M_T_weight 2 47 ad D cI [.ref (ad 0), .int pl, .int d, .int o] sc ar (fun r sc2 ar2 => if (¬ d < 1 ∧ ¬ sc 0 < d) ∧ (¬ o < 0 ∧ ¬ 4 ≤ o) ∧ x_pl pl then x_E (some (.long (x_ws (fun i => decide (x_os sc (nI i) d o)) (ar 0) (pl.toNatClampNeg * 256) 256))) sc ar r sc2 ar2 else x_E (some (.long (-1))) sc ar r sc2 ar2) := by
  refine x_intro hd [some (.ref (ad 0)), some (.int pl), some (.int d), some (.int o), none, none, none, none] (by decide) (Nat.le_of_ble_eq_true rfl) rfl ?_
  intro p e s m args below meth c X
  have loop : ∀ q : Nat, q < 3 → (¬ d < 1 ∧ ¬ sc 0 < d) ∧ (¬ o < 0 ∧ ¬ 4 ≤ o) ∧ x_pl (nI q) → ∀ n k : Nat, 256 - k < n → k ≤ 256 → x_G p l e (x_rm 2 47) s m args below meth c M_T_weight ad D cI (x_A ad) 0 0 (x_Q below args s ad D cI (fun r sc2 ar2 => if (¬ d < 1 ∧ ¬ sc 0 < d) ∧ (¬ o < 0 ∧ ¬ 4 ≤ o) ∧ x_pl (nI q) then x_E (some (.long (x_ws (fun i => decide (x_os sc (nI i) d o)) (ar 0) ((nI q).toNatClampNeg * 256) 256))) sc ar r sc2 ar2 else x_E (some (.long (-1))) sc ar r sc2 ar2)) 40 [some (.ref (ad 0)), some (.int (nI q)), some (.int d), some (.int o), some (.long (x_ws (fun i => decide (x_os sc (nI i) d o)) (ar 0) (q * 256) k)), none, some (.int (nI (q * 256))), some (.int (nI (q * 256 + k)))] [] sc ar := by
    intro q hq hc n
    induction n with
    | zero => intro k h _; exact absurd h (Nat.not_lt_zero _)
    | succ n ih =>
      intro k hn hk
      refine xg_iload X (pc := 40) d_T_weight_40 rfl ?_
      refine xg_iload X (pc := 42) d_T_weight_42 rfl ?_
      refine xg_sipush X (pc := 44) (v := 256) d_T_weight_44 (by decide) ?_
      refine xg_iadd X (pc := 47) d_T_weight_47 ?_
      refine xg_icmp_ge X (pc := 48) (tgt := 83) d_T_weight_48 rfl (fun h48 => ?_) (fun h48 => ?_)
      · have e9 : nI (q * 256) + (256 : Int32) = nI (q * 256 + 256) := nI_add (q * 256) 256
        rw [e9] at h48
        have hk2 : k = 256 := by have := x_ge rfl (by omega) (by omega) h48; omega
        subst hk2
        refine xg_lload X (pc := 83) d_T_weight_83 rfl ?_
        exact xg_lret X (pc := 85) d_T_weight_85 rfl (by show ite _ _ _; rw [if_pos hc, nI_clamp (by omega)]; exact ⟨rfl, rfl, rfl⟩)
      · have e9 : nI (q * 256) + (256 : Int32) = nI (q * 256 + 256) := nI_add (q * 256) 256
        rw [e9] at h48
        have hk3 : k < 256 := by have := x_nge rfl (by omega) (by omega) h48; omega
        refine xg_aload_n X (pc := 51) d_T_weight_51 rfl ?_
        refine xg_iload X (pc := 52) d_T_weight_52 rfl ?_
        refine xg_iload_n X (pc := 54) d_T_weight_54 rfl ?_
        refine xg_iload_n X (pc := 55) d_T_weight_55 rfl ?_
        refine xg_crV3 X (pc := 56) d_T_weight_56 (c_T_isOfSubband hd) s_T_108 ⟨_, rfl⟩ rfl ⟨by decide, by decide⟩ (Nat.le_of_ble_eq_true rfl) ?_
        refine xg_if_eq X (pc := 59) (tgt := 77) d_T_weight_59 rfl (fun h59 => ?_) (fun h59 => ?_)
        · replace h59 := x_b0 h59
          refine xg_weak [some (.ref (ad 0)), some (.int (nI q)), some (.int d), some (.int o), some (.long (x_ws (fun i => decide (x_os sc (nI i) d o)) (ar 0) (q * 256) (k + 1))), none, some (.int (nI (q * 256))), some (.int (nI (q * 256 + k)))] ⟨rfl, rfl, rfl, rfl, congrArg (fun v => some (Value.long v)) (by first | exact (x_ws_n (by simpa using h59)).symm | (rw [nI_clamp (by omega)]; exact (x_ws_y (by simpa using h59)).symm)), rfl, rfl, trivial⟩ ?_
          refine xg_iinc X (pc := 77) d_T_weight_77 rfl (x_inc (by decide : Int32.ofInt (1) = 1) _) (by decide) rfl ?_
          refine xg_goto X (pc := 80) (tgt := 40) d_T_weight_80 rfl ?_
          refine xg_weak [some (.ref (ad 0)), some (.int (nI q)), some (.int d), some (.int o), some (.long (x_ws (fun i => decide (x_os sc (nI i) d o)) (ar 0) (q * 256) (k + 1))), none, some (.int (nI (q * 256))), some (.int (nI (q * 256 + (k + 1))))] ⟨rfl, rfl, rfl, rfl, rfl, rfl, by rw [x_k1] <;> rfl, trivial⟩ ?_
          exact ih (k + 1) (by omega) (by omega)
        · replace h59 := x_bn h59
          refine xg_lload X (pc := 62) d_T_weight_62 rfl ?_
          refine xg_aload_n X (pc := 64) d_T_weight_64 rfl ?_
          refine xf_T_9 X (pc := 65) rfl d_T_weight_65 ?_
          refine xg_iload X (pc := 68) d_T_weight_68 rfl ?_
          refine xa_ld1 X (pc := 70) d_T_weight_70 (vp_in_nI (by omega) (by decide)) ?_
          refine xg_crS1 X (pc := 71) d_T_weight_71 (c_T_amountOf hd) s_T_120 ⟨by decide, by decide⟩ (Nat.le_of_ble_eq_true rfl) ?_
          refine xg_ladd X (pc := 74) d_T_weight_74 ?_
          refine xg_lstore X (pc := 75) d_T_weight_75 (by decide) rfl ?_
          refine xg_weak [some (.ref (ad 0)), some (.int (nI q)), some (.int d), some (.int o), some (.long (x_ws (fun i => decide (x_os sc (nI i) d o)) (ar 0) (q * 256) (k + 1))), none, some (.int (nI (q * 256))), some (.int (nI (q * 256 + k)))] ⟨rfl, rfl, rfl, rfl, congrArg (fun v => some (Value.long v)) (by first | exact (x_ws_n (by simpa using h59)).symm | (rw [nI_clamp (by omega)]; exact (x_ws_y (by simpa using h59)).symm)), rfl, rfl, trivial⟩ ?_
          refine xg_iinc X (pc := 77) d_T_weight_77 rfl (x_inc (by decide : Int32.ofInt (1) = 1) _) (by decide) rfl ?_
          refine xg_goto X (pc := 80) (tgt := 40) d_T_weight_80 rfl ?_
          refine xg_weak [some (.ref (ad 0)), some (.int (nI q)), some (.int d), some (.int o), some (.long (x_ws (fun i => decide (x_os sc (nI i) d o)) (ar 0) (q * 256) (k + 1))), none, some (.int (nI (q * 256))), some (.int (nI (q * 256 + (k + 1))))] ⟨rfl, rfl, rfl, rfl, rfl, rfl, by rw [x_k1] <;> rfl, trivial⟩ ?_
          exact ih (k + 1) (by omega) (by omega)
  refine xg_aload_n X (pc := 0) d_T_weight_0 rfl ?_
  refine xg_iload_n X (pc := 1) d_T_weight_1 rfl ?_
  refine xg_crV1 X (pc := 2) d_T_weight_2 (c_T_hasLevel hd) s_T_82 ⟨_, rfl⟩ rfl ⟨by decide, by decide⟩ (Nat.le_of_ble_eq_true rfl) ?_
  refine xg_if_eq X (pc := 5) (tgt := 22) d_T_weight_5 rfl (fun h5 => ?_) (fun h5 => ?_)
  · replace h5 := x_b0 h5
    refine xg_ldc2 X (pc := 22) (v := -1) d_T_weight_22 (by decide +kernel) ?_
    exact xg_lret X (pc := 25) d_T_weight_25 rfl (by show ite _ _ _; rw [if_neg (by first | (simp_all [x_hol, x_pl, x_rp, x_be, x_op, x_os]; done) | ((try simp only [x_op, x_rp, x_pl, x_hol] at *); grind))]; exact ⟨rfl, rfl, rfl⟩)
  · replace h5 := x_bn h5
    refine xg_iload_n X (pc := 8) d_T_weight_8 rfl ?_
    refine xg_crS1 X (pc := 9) d_T_weight_9 (c_T_isSubband hd) s_T_88 ⟨by decide, by decide⟩ (Nat.le_of_ble_eq_true rfl) ?_
    refine xg_if_eq X (pc := 12) (tgt := 22) d_T_weight_12 rfl (fun h12 => ?_) (fun h12 => ?_)
    · replace h12 := x_b0 h12
      refine xg_ldc2 X (pc := 22) (v := -1) d_T_weight_22 (by decide +kernel) ?_
      exact xg_lret X (pc := 25) d_T_weight_25 rfl (by show ite _ _ _; rw [if_neg (by first | (simp_all [x_hol, x_pl, x_rp, x_be, x_op, x_os]; done) | ((try simp only [x_op, x_rp, x_pl, x_hol] at *); grind))]; exact ⟨rfl, rfl, rfl⟩)
    · replace h12 := x_bn h12
      refine xg_iload_n X (pc := 15) d_T_weight_15 rfl ?_
      refine xg_crS1 X (pc := 16) d_T_weight_16 (c_T_isPlane hd) s_T_115 ⟨by decide, by decide⟩ (Nat.le_of_ble_eq_true rfl) ?_
      refine xg_if_ne X (pc := 19) (tgt := 26) d_T_weight_19 rfl (fun h19 => ?_) (fun h19 => ?_)
      · replace h19 := x_bn h19
        obtain ⟨q, hq, rfl⟩ := x_plq h19
        refine xg_lconst X (pc := 26) (v := 0) d_T_weight_26 (by decide) ?_
        refine xg_lstore X (pc := 27) d_T_weight_27 (by decide) rfl ?_
        refine xg_iload_n X (pc := 29) d_T_weight_29 rfl ?_
        refine xg_sipush X (pc := 30) (v := 256) d_T_weight_30 (by decide) ?_
        refine xg_imul X (pc := 33) d_T_weight_33 ?_
        refine xg_istore X (pc := 34) d_T_weight_34 (by decide) rfl ?_
        refine xg_iload X (pc := 36) d_T_weight_36 rfl ?_
        refine xg_istore X (pc := 38) d_T_weight_38 (by decide) rfl ?_
        have e9 : nI q * (256 : Int32) = nI (q * 256) := pk_mul q 256
        refine xg_weak [some (.ref (ad 0)), some (.int (nI q)), some (.int d), some (.int o), some (.long (x_ws (fun i => decide (x_os sc (nI i) d o)) (ar 0) (q * 256) 0)), none, some (.int (nI (q * 256))), some (.int (nI (q * 256 + 0)))] ⟨rfl, rfl, rfl, rfl, rfl, by rw [← e9], by rw [Nat.add_zero, ← e9], trivial⟩ ?_
        exact loop q hq ⟨h5, h12, h19⟩ 257 0 (by omega) (by omega)
      · replace h19 := x_b0 h19
        refine xg_ldc2 X (pc := 22) (v := -1) d_T_weight_22 (by decide +kernel) ?_
        exact xg_lret X (pc := 25) d_T_weight_25 rfl (by show ite _ _ _; rw [if_neg (by first | (simp_all [x_hol, x_pl, x_rp, x_be, x_op, x_os]; done) | ((try simp only [x_op, x_rp, x_pl, x_hol] at *); grind))]; exact ⟨rfl, rfl, rfl⟩)
end C8
