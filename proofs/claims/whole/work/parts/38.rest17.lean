theorem x_tc_z0 {cb : Nat → Bool} {g : Int32 → Int32} {f : Nat → Int32} {k : Nat} (h : f k = 0) : x_tc cb g f (k + 1) = x_tc cb g f k := by
  rw [x_tc_z h, Int32.add_zero]
theorem x_tc_k0 {cb : Nat → Bool} {g : Int32 → Int32} {f : Nat → Int32} {k : Nat} (h : ¬ g (f k) = 0) : x_tc cb g f (k + 1) = x_tc cb g f k := by
  rw [x_tc_k h, Int32.add_zero]
abbrev x_ux (sc : Nat → Int32) (i : Nat) : Int32 := sc 9 + (nI i - nI i / (16 : Int32) * (16 : Int32))
abbrev x_vx (sc : Nat → Int32) (i : Nat) : Int32 := sc 10 + (nI i / (16 : Int32) - nI i / (16 : Int32) / (16 : Int32) * (16 : Int32))
def x_wi (G : Nat → Int64) (a : Int64) : Nat → Int64
  | 0 => a
  | m + 1 => x_wi G a m + G m
def x_wo (G : Nat → Nat → Int64) (w : Nat) : Nat → Int64
  | 0 => 0
  | k + 1 => x_wi (G k) (x_wo G w k) w
section C17
variable {l : Launch} {ad : Nat → Nat} {D : va_G} {cI : ClassId} {sc : Nat → Int32} {ar : Nat → Nat → Int32}
set_option maxRecDepth 100000 in
set_option maxHeartbeats 800000 in
theorem c_R_thin (hd : x_dis ad) {d o t : Int32} (hz : ¬ d < 1 ∧ ¬ sc 14 < d → ¬ 2 * (1 : Int32) <<< ((d - 1) &&& 31) = 0) : x_Con l M_R_thin 3 67 ad D cI [.ref (ad 7), .int d, .int o, .int t] sc ar (fun r sc2 ar2 => if (¬ d < 1 ∧ ¬ sc 14 < d) ∧ (¬ o < 0 ∧ ¬ 3 < o) ∧ (¬ o = 0 ∨ d = sc 14) ∧ ¬ t < 1 ∧ t ≤ 32767 then x_E (some (.int (x_tc (fun i => decide (x_rp sc (x_ux sc i) (x_vx sc i) ∧ x_be d o (x_ux sc i) (x_vx sc i))) (fun x => x_rth x t) (ar 4) 768))) sc (x_ua ar 4 (x_tf (fun i => decide (x_rp sc (x_ux sc i) (x_vx sc i) ∧ x_be d o (x_ux sc i) (x_vx sc i))) (fun x => x_rth x t) (ar 4) 768)) r sc2 ar2 else x_E (some (.int (-1))) sc ar r sc2 ar2) := by
  refine x_intro hd [some (.ref (ad 7)), some (.int d), some (.int o), some (.int t), none, none, none, none, none] (by decide) (Nat.le_of_ble_eq_true rfl) rfl ?_
  intro p e s m args below meth c X
  have loop : (¬ d < 1 ∧ ¬ sc 14 < d) ∧ (¬ o < 0 ∧ ¬ 3 < o) ∧ (¬ o = 0 ∨ d = sc 14) ∧ ¬ t < 1 ∧ t ≤ 32767 → ∀ n k : Nat, 768 - k < n → k ≤ 768 → x_G p l e (x_rm 3 67) s m args below meth c M_R_thin ad D cI (x_A ad) 0 0 (x_Q below args s ad D cI (fun r sc2 ar2 => if (¬ d < 1 ∧ ¬ sc 14 < d) ∧ (¬ o < 0 ∧ ¬ 3 < o) ∧ (¬ o = 0 ∨ d = sc 14) ∧ ¬ t < 1 ∧ t ≤ 32767 then x_E (some (.int (x_tc (fun i => decide (x_rp sc (x_ux sc i) (x_vx sc i) ∧ x_be d o (x_ux sc i) (x_vx sc i))) (fun x => x_rth x t) (ar 4) 768))) sc (x_ua ar 4 (x_tf (fun i => decide (x_rp sc (x_ux sc i) (x_vx sc i) ∧ x_be d o (x_ux sc i) (x_vx sc i))) (fun x => x_rth x t) (ar 4) 768)) r sc2 ar2 else x_E (some (.int (-1))) sc ar r sc2 ar2)) 47 [some (.ref (ad 7)), some (.int d), some (.int o), some (.int t), some (.int (x_tc (fun i => decide (x_rp sc (x_ux sc i) (x_vx sc i) ∧ x_be d o (x_ux sc i) (x_vx sc i))) (fun x => x_rth x t) (ar 4) k)), some (.int (nI k)), none, none, none] [] sc (x_ua ar 4 (x_tf (fun i => decide (x_rp sc (x_ux sc i) (x_vx sc i) ∧ x_be d o (x_ux sc i) (x_vx sc i))) (fun x => x_rth x t) (ar 4) k)) := by
    intro hc n
    induction n with
    | zero => intro k h _; exact absurd h (Nat.not_lt_zero _)
    | succ n ih =>
      intro k hn hk
      refine xg_iload X (pc := 47) d_R_thin_47 rfl ?_
      refine xg_sipush X (pc := 49) (v := 768) d_R_thin_49 (by decide) ?_
      refine xg_icmp_ge X (pc := 52) (tgt := 159) d_R_thin_52 rfl (fun h52 => ?_) (fun h52 => ?_)
      · have hk2 : k = 768 := Nat.le_antisymm hk (x_ge (n := 768) rfl (by decide) (by omega) h52)
        subst hk2
        refine xg_iload X (pc := 159) d_R_thin_159 rfl ?_
        exact xg_iret X (pc := 161) d_R_thin_161 rfl (rfl) (by show ite _ _ _; rw [if_pos hc]; exact ⟨rfl, rfl, rfl⟩)
      · have hk3 : k < 768 := x_nge (n := 768) rfl (by decide) (by omega) h52
        have hk4 : k < 2 ^ 31 := by omega
        refine xg_aload_n X (pc := 55) d_R_thin_55 rfl ?_
        refine xf_R_26 X (pc := 56) rfl d_R_thin_56 ?_
        refine xg_iload X (pc := 59) d_R_thin_59 rfl ?_
        refine xg_bipush X (pc := 61) (v := 16) d_R_thin_61 (by decide) ?_
        refine xg_irem X (pc := 63) d_R_thin_63 (by decide) ?_
        refine xg_iadd X (pc := 64) d_R_thin_64 ?_
        refine xg_istore X (pc := 65) d_R_thin_65 (by decide) rfl ?_
        refine xg_aload_n X (pc := 67) d_R_thin_67 rfl ?_
        refine xf_R_33 X (pc := 68) rfl d_R_thin_68 ?_
        refine xg_iload X (pc := 71) d_R_thin_71 rfl ?_
        refine xg_bipush X (pc := 73) (v := 16) d_R_thin_73 (by decide) ?_
        refine xg_idiv X (pc := 75) d_R_thin_75 (by decide) ?_
        refine xg_bipush X (pc := 76) (v := 16) d_R_thin_76 (by decide) ?_
        refine xg_irem X (pc := 78) d_R_thin_78 (by decide) ?_
        refine xg_iadd X (pc := 79) d_R_thin_79 ?_
        refine xg_istore X (pc := 80) d_R_thin_80 (by decide) rfl ?_
        refine xg_aload_n X (pc := 82) d_R_thin_82 rfl ?_
        refine xg_iload X (pc := 83) d_R_thin_83 rfl ?_
        refine xg_iload X (pc := 85) d_R_thin_85 rfl ?_
        refine xg_crV2 X (pc := 87) d_R_thin_87 (c_R_isPlace hd) s_R_49 ⟨_, rfl⟩ rfl ⟨by decide, by decide⟩ (Nat.le_of_ble_eq_true rfl) ?_
        refine xg_if_eq X (pc := 90) (tgt := 153) d_R_thin_90 rfl (fun h90 => ?_) (fun h90 => ?_)
        · replace h90 := x_b0 h90
          refine xg_weak [some (.ref (ad 7)), some (.int d), some (.int o), some (.int t), some (.int (x_tc (fun i => decide (x_rp sc (x_ux sc i) (x_vx sc i) ∧ x_be d o (x_ux sc i) (x_vx sc i))) (fun x => x_rth x t) (ar 4) (k + 1))), some (.int (nI k)), none, none, none] ⟨rfl, rfl, rfl, rfl, congrArg (fun v => some (Value.int v)) (x_tc_n (by simp only [decide_eq_true_eq]; exact fun q => h90 q.1)).symm, rfl, trivial⟩ ?_
          refine xg_eq rfl (ar' := x_ua ar 4 (x_tf (fun i => decide (x_rp sc (x_ux sc i) (x_vx sc i) ∧ x_be d o (x_ux sc i) (x_vx sc i))) (fun x => x_rth x t) (ar 4) (k + 1))) (congrArg _ (x_tf_n (by simp only [decide_eq_true_eq]; exact fun q => h90 q.1))) rfl ?_
          refine xg_iinc X (pc := 153) d_R_thin_153 rfl (x_inc (by decide : Int32.ofInt (1) = 1) _) (by decide) rfl ?_
          refine xg_goto X (pc := 156) (tgt := 47) d_R_thin_156 rfl ?_
          refine xg_weak [some (.ref (ad 7)), some (.int d), some (.int o), some (.int t), some (.int (x_tc (fun i => decide (x_rp sc (x_ux sc i) (x_vx sc i) ∧ x_be d o (x_ux sc i) (x_vx sc i))) (fun x => x_rth x t) (ar 4) (k + 1))), some (.int (nI (k + 1))), none, none, none] ⟨rfl, rfl, rfl, rfl, rfl, by rw [← x_k1], trivial⟩ ?_
          exact ih (k + 1) (by omega) (by omega)
        · replace h90 := x_bn h90
          refine xg_iload_n X (pc := 93) d_R_thin_93 rfl ?_
          refine xg_iload_n X (pc := 94) d_R_thin_94 rfl ?_
          refine xg_iload X (pc := 95) d_R_thin_95 rfl ?_
          refine xg_iload X (pc := 97) d_R_thin_97 rfl ?_
          refine xg_crS4 X (pc := 99) d_R_thin_99 (c_R_belongs hd (hz hc.1)) s_R_145 ⟨by decide, by decide⟩ (Nat.le_of_ble_eq_true rfl) ?_
          refine xg_if_eq X (pc := 102) (tgt := 153) d_R_thin_102 rfl (fun h102 => ?_) (fun h102 => ?_)
          · replace h102 := x_b0 h102
            refine xg_weak [some (.ref (ad 7)), some (.int d), some (.int o), some (.int t), some (.int (x_tc (fun i => decide (x_rp sc (x_ux sc i) (x_vx sc i) ∧ x_be d o (x_ux sc i) (x_vx sc i))) (fun x => x_rth x t) (ar 4) (k + 1))), some (.int (nI k)), none, none, none] ⟨rfl, rfl, rfl, rfl, congrArg (fun v => some (Value.int v)) (x_tc_n (by simp only [decide_eq_true_eq]; exact fun q => h102 q.2)).symm, rfl, trivial⟩ ?_
            refine xg_eq rfl (ar' := x_ua ar 4 (x_tf (fun i => decide (x_rp sc (x_ux sc i) (x_vx sc i) ∧ x_be d o (x_ux sc i) (x_vx sc i))) (fun x => x_rth x t) (ar 4) (k + 1))) (congrArg _ (x_tf_n (by simp only [decide_eq_true_eq]; exact fun q => h102 q.2))) rfl ?_
            refine xg_iinc X (pc := 153) d_R_thin_153 rfl (x_inc (by decide : Int32.ofInt (1) = 1) _) (by decide) rfl ?_
            refine xg_goto X (pc := 156) (tgt := 47) d_R_thin_156 rfl ?_
            refine xg_weak [some (.ref (ad 7)), some (.int d), some (.int o), some (.int t), some (.int (x_tc (fun i => decide (x_rp sc (x_ux sc i) (x_vx sc i) ∧ x_be d o (x_ux sc i) (x_vx sc i))) (fun x => x_rth x t) (ar 4) (k + 1))), some (.int (nI (k + 1))), none, none, none] ⟨rfl, rfl, rfl, rfl, rfl, by rw [← x_k1], trivial⟩ ?_
            exact ih (k + 1) (by omega) (by omega)
          · replace h102 := x_bn h102
            refine xg_aload_n X (pc := 105) d_R_thin_105 rfl ?_
            refine xf_R_13 X (pc := 106) rfl d_R_thin_106 ?_
            refine xg_iload X (pc := 109) d_R_thin_109 rfl ?_
            refine xa_ld9 X (pc := 111) d_R_thin_111 (vp_in_nI (by omega) (by decide)) ?_
            refine xg_istore X (pc := 112) d_R_thin_112 (by decide) rfl ?_
            refine xg_aload_n X (pc := 114) d_R_thin_114 rfl ?_
            refine xf_R_13 X (pc := 115) rfl d_R_thin_115 ?_
            refine xg_iload X (pc := 118) d_R_thin_118 rfl ?_
            refine xg_iload X (pc := 120) d_R_thin_120 rfl ?_
            refine xg_iload_n X (pc := 122) d_R_thin_122 rfl ?_
            refine xg_crS2 X (pc := 123) d_R_thin_123 (c_R_thinned hd (x_t0 hc.2.2.2.1)) s_R_149 ⟨by decide, by decide⟩ (Nat.le_of_ble_eq_true rfl) ?_
            refine xa_st9 X (pc := 126) d_R_thin_126 (vp_in_nI (by omega) (by decide)) ?_
            refine xg_iload X (pc := 127) d_R_thin_127 rfl ?_
            refine xg_if_eq X (pc := 129) (tgt := 149) d_R_thin_129 rfl (fun h129 => ?_) (fun h129 => ?_)
            · try simp only [x_ua_at, nI_clamp hk4, pk_us, x_tf_at] at h129
              try simp only [x_ua_at, nI_clamp hk4, pk_us, x_tf_at] at h139
              refine xg_iload X (pc := 149) d_R_thin_149 rfl ?_
              refine xg_istore X (pc := 151) d_R_thin_151 (by decide) rfl ?_
              refine xg_weak [some (.ref (ad 7)), some (.int d), some (.int o), some (.int t), some (.int (x_tc (fun i => decide (x_rp sc (x_ux sc i) (x_vx sc i) ∧ x_be d o (x_ux sc i) (x_vx sc i))) (fun x => x_rth x t) (ar 4) (k + 1))), some (.int (nI k)), none, none, none] ⟨rfl, rfl, rfl, rfl, congrArg (fun v => some (Value.int v)) (x_tc_z0 h129).symm, rfl, trivial⟩ ?_
              refine xg_eq rfl (ar' := x_ua ar 4 (x_tf (fun i => decide (x_rp sc (x_ux sc i) (x_vx sc i) ∧ x_be d o (x_ux sc i) (x_vx sc i))) (fun x => x_rth x t) (ar 4) (k + 1))) ((by simp only [x_ua_ua, x_ua_at, nI_clamp hk4, x_tf_at]; exact congrArg _ (x_tf_y (by simp only [decide_eq_true_eq]; exact ⟨h90, h102⟩)))) rfl ?_
              refine xg_iinc X (pc := 153) d_R_thin_153 rfl (x_inc (by decide : Int32.ofInt (1) = 1) _) (by decide) rfl ?_
              refine xg_goto X (pc := 156) (tgt := 47) d_R_thin_156 rfl ?_
              refine xg_weak [some (.ref (ad 7)), some (.int d), some (.int o), some (.int t), some (.int (x_tc (fun i => decide (x_rp sc (x_ux sc i) (x_vx sc i) ∧ x_be d o (x_ux sc i) (x_vx sc i))) (fun x => x_rth x t) (ar 4) (k + 1))), some (.int (nI (k + 1))), none, none, none] ⟨rfl, rfl, rfl, rfl, rfl, by rw [← x_k1], trivial⟩ ?_
              exact ih (k + 1) (by omega) (by omega)
            · simp only [x_ua_at, nI_clamp hk4, pk_us, x_tf_at] at h129
              refine xg_aload_n X (pc := 132) d_R_thin_132 rfl ?_
              refine xf_R_13 X (pc := 133) rfl d_R_thin_133 ?_
              refine xg_iload X (pc := 136) d_R_thin_136 rfl ?_
              refine xa_ld9 X (pc := 138) d_R_thin_138 (vp_in_nI (by omega) (by decide)) ?_
              refine xg_if_ne X (pc := 139) (tgt := 149) d_R_thin_139 rfl (fun h139 => ?_) (fun h139 => ?_)
              · try simp only [x_ua_at, nI_clamp hk4, pk_us, x_tf_at] at h129
                try simp only [x_ua_at, nI_clamp hk4, pk_us, x_tf_at] at h139
                refine xg_iload X (pc := 149) d_R_thin_149 rfl ?_
                refine xg_istore X (pc := 151) d_R_thin_151 (by decide) rfl ?_
                refine xg_weak [some (.ref (ad 7)), some (.int d), some (.int o), some (.int t), some (.int (x_tc (fun i => decide (x_rp sc (x_ux sc i) (x_vx sc i) ∧ x_be d o (x_ux sc i) (x_vx sc i))) (fun x => x_rth x t) (ar 4) (k + 1))), some (.int (nI k)), none, none, none] ⟨rfl, rfl, rfl, rfl, congrArg (fun v => some (Value.int v)) (x_tc_k0 h139).symm, rfl, trivial⟩ ?_
                refine xg_eq rfl (ar' := x_ua ar 4 (x_tf (fun i => decide (x_rp sc (x_ux sc i) (x_vx sc i) ∧ x_be d o (x_ux sc i) (x_vx sc i))) (fun x => x_rth x t) (ar 4) (k + 1))) ((by simp only [x_ua_ua, x_ua_at, nI_clamp hk4, x_tf_at]; exact congrArg _ (x_tf_y (by simp only [decide_eq_true_eq]; exact ⟨h90, h102⟩)))) rfl ?_
                refine xg_iinc X (pc := 153) d_R_thin_153 rfl (x_inc (by decide : Int32.ofInt (1) = 1) _) (by decide) rfl ?_
                refine xg_goto X (pc := 156) (tgt := 47) d_R_thin_156 rfl ?_
                refine xg_weak [some (.ref (ad 7)), some (.int d), some (.int o), some (.int t), some (.int (x_tc (fun i => decide (x_rp sc (x_ux sc i) (x_vx sc i) ∧ x_be d o (x_ux sc i) (x_vx sc i))) (fun x => x_rth x t) (ar 4) (k + 1))), some (.int (nI (k + 1))), none, none, none] ⟨rfl, rfl, rfl, rfl, rfl, by rw [← x_k1], trivial⟩ ?_
                exact ih (k + 1) (by omega) (by omega)
              · simp only [x_ua_at, nI_clamp hk4, pk_us, x_tf_at] at h139
                refine xg_iload X (pc := 142) d_R_thin_142 rfl ?_
                refine xg_iconst X (pc := 144) (v := 1) d_R_thin_144 (by decide) ?_
                refine xg_iadd X (pc := 145) d_R_thin_145 ?_
                refine xg_goto X (pc := 146) (tgt := 151) d_R_thin_146 rfl ?_
                refine xg_istore X (pc := 151) d_R_thin_151 (by decide) rfl ?_
                refine xg_weak [some (.ref (ad 7)), some (.int d), some (.int o), some (.int t), some (.int (x_tc (fun i => decide (x_rp sc (x_ux sc i) (x_vx sc i) ∧ x_be d o (x_ux sc i) (x_vx sc i))) (fun x => x_rth x t) (ar 4) (k + 1))), some (.int (nI k)), none, none, none] ⟨rfl, rfl, rfl, rfl, congrArg (fun v => some (Value.int v)) (x_tc_v (by simp only [decide_eq_true_eq]; exact ⟨h90, h102⟩) h129 h139).symm, rfl, trivial⟩ ?_
                refine xg_eq rfl (ar' := x_ua ar 4 (x_tf (fun i => decide (x_rp sc (x_ux sc i) (x_vx sc i) ∧ x_be d o (x_ux sc i) (x_vx sc i))) (fun x => x_rth x t) (ar 4) (k + 1))) ((by simp only [x_ua_ua, x_ua_at, nI_clamp hk4, x_tf_at]; exact congrArg _ (x_tf_y (by simp only [decide_eq_true_eq]; exact ⟨h90, h102⟩)))) rfl ?_
                refine xg_iinc X (pc := 153) d_R_thin_153 rfl (x_inc (by decide : Int32.ofInt (1) = 1) _) (by decide) rfl ?_
                refine xg_goto X (pc := 156) (tgt := 47) d_R_thin_156 rfl ?_
                refine xg_weak [some (.ref (ad 7)), some (.int d), some (.int o), some (.int t), some (.int (x_tc (fun i => decide (x_rp sc (x_ux sc i) (x_vx sc i) ∧ x_be d o (x_ux sc i) (x_vx sc i))) (fun x => x_rth x t) (ar 4) (k + 1))), some (.int (nI (k + 1))), none, none, none] ⟨rfl, rfl, rfl, rfl, rfl, by rw [← x_k1], trivial⟩ ?_
                exact ih (k + 1) (by omega) (by omega)
  refine xg_aload_n X (pc := 0) d_R_thin_0 rfl ?_
  refine xg_iload_n X (pc := 1) d_R_thin_1 rfl ?_
  refine xg_crV1 X (pc := 2) d_R_thin_2 (c_R_isLevel hd) s_R_123 ⟨_, rfl⟩ rfl ⟨by decide, by decide⟩ (Nat.le_of_ble_eq_true rfl) ?_
  refine xg_if_eq X (pc := 5) (tgt := 39) d_R_thin_5 rfl (fun h5 => ?_) (fun h5 => ?_)
  · replace h5 := x_b0 h5
    refine xg_iconst X (pc := 39) (v := -1) d_R_thin_39 (by decide) ?_
    exact xg_iret X (pc := 40) d_R_thin_40 rfl (rfl) (by clear loop hz; show ite _ _ _; rw [if_neg (by first | (simp_all; done) | grind)]; exact ⟨rfl, rfl, rfl⟩)
  · replace h5 := x_bn h5
    refine xg_iload_n X (pc := 8) d_R_thin_8 rfl ?_
    refine xg_crS1 X (pc := 9) d_R_thin_9 (c_R_isBand hd) s_R_130 ⟨by decide, by decide⟩ (Nat.le_of_ble_eq_true rfl) ?_
    refine xg_if_eq X (pc := 12) (tgt := 39) d_R_thin_12 rfl (fun h12 => ?_) (fun h12 => ?_)
    · replace h12 := x_b0 h12
      refine xg_iconst X (pc := 39) (v := -1) d_R_thin_39 (by decide) ?_
      exact xg_iret X (pc := 40) d_R_thin_40 rfl (rfl) (by clear loop hz; show ite _ _ _; rw [if_neg (by first | (simp_all; done) | grind)]; exact ⟨rfl, rfl, rfl⟩)
    · replace h12 := x_bn h12
      refine xg_iload_n X (pc := 15) d_R_thin_15 rfl ?_
      refine xg_if_ne X (pc := 16) (tgt := 27) d_R_thin_16 rfl (fun h16 => ?_) (fun h16 => ?_)
      · refine xg_iload_n X (pc := 27) d_R_thin_27 rfl ?_
        refine xg_iconst X (pc := 28) (v := 1) d_R_thin_28 (by decide) ?_
        refine xg_icmp_lt X (pc := 29) (tgt := 39) d_R_thin_29 rfl (fun h29 => ?_) (fun h29 => ?_)
        · refine xg_iconst X (pc := 39) (v := -1) d_R_thin_39 (by decide) ?_
          exact xg_iret X (pc := 40) d_R_thin_40 rfl (rfl) (by clear loop hz; show ite _ _ _; rw [if_neg (by first | (simp_all; done) | grind)]; exact ⟨rfl, rfl, rfl⟩)
        · refine xg_iload_n X (pc := 32) d_R_thin_32 rfl ?_
          refine xg_sipush X (pc := 33) (v := 32767) d_R_thin_33 (by decide) ?_
          refine xg_icmp_le X (pc := 36) (tgt := 41) d_R_thin_36 rfl (fun h36 => ?_) (fun h36 => ?_)
          · have hc : (¬ d < 1 ∧ ¬ sc 14 < d) ∧ (¬ o < 0 ∧ ¬ 3 < o) ∧ (¬ o = 0 ∨ d = sc 14) ∧ ¬ t < 1 ∧ t ≤ 32767 := ⟨h5, h12, by first | exact Or.inl h16 | exact Or.inr h24, h29, h36⟩
            refine xg_iconst X (pc := 41) (v := 0) d_R_thin_41 (by decide) ?_
            refine xg_istore X (pc := 42) d_R_thin_42 (by decide) rfl ?_
            refine xg_iconst X (pc := 44) (v := 0) d_R_thin_44 (by decide) ?_
            refine xg_istore X (pc := 45) d_R_thin_45 (by decide) rfl ?_
            refine xg_weak [some (.ref (ad 7)), some (.int d), some (.int o), some (.int t), some (.int (x_tc (fun i => decide (x_rp sc (x_ux sc i) (x_vx sc i) ∧ x_be d o (x_ux sc i) (x_vx sc i))) (fun x => x_rth x t) (ar 4) 0)), some (.int (nI 0)), none, none, none] ⟨rfl, rfl, rfl, rfl, rfl, rfl, trivial⟩ ?_
            exact xg_eq rfl (by rw [x_tf0, x_ua_id]) rfl (loop hc 769 0 (by omega) (by omega))
          · refine xg_iconst X (pc := 39) (v := -1) d_R_thin_39 (by decide) ?_
            exact xg_iret X (pc := 40) d_R_thin_40 rfl (rfl) (by clear loop hz; show ite _ _ _; rw [if_neg (by first | (simp_all; done) | grind)]; exact ⟨rfl, rfl, rfl⟩)
      · refine xg_iload_n X (pc := 19) d_R_thin_19 rfl ?_
        refine xg_aload_n X (pc := 20) d_R_thin_20 rfl ?_
        refine xf_R_42 X (pc := 21) rfl d_R_thin_21 ?_
        refine xg_icmp_ne X (pc := 24) (tgt := 39) d_R_thin_24 rfl (fun h24 => ?_) (fun h24 => ?_)
        · refine xg_iconst X (pc := 39) (v := -1) d_R_thin_39 (by decide) ?_
          exact xg_iret X (pc := 40) d_R_thin_40 rfl (rfl) (by clear loop hz; show ite _ _ _; rw [if_neg (by first | (simp_all; done) | grind)]; exact ⟨rfl, rfl, rfl⟩)
        · refine xg_iload_n X (pc := 27) d_R_thin_27 rfl ?_
          refine xg_iconst X (pc := 28) (v := 1) d_R_thin_28 (by decide) ?_
          refine xg_icmp_lt X (pc := 29) (tgt := 39) d_R_thin_29 rfl (fun h29 => ?_) (fun h29 => ?_)
          · refine xg_iconst X (pc := 39) (v := -1) d_R_thin_39 (by decide) ?_
            exact xg_iret X (pc := 40) d_R_thin_40 rfl (rfl) (by clear loop hz; show ite _ _ _; rw [if_neg (by first | (simp_all; done) | grind)]; exact ⟨rfl, rfl, rfl⟩)
          · refine xg_iload_n X (pc := 32) d_R_thin_32 rfl ?_
            refine xg_sipush X (pc := 33) (v := 32767) d_R_thin_33 (by decide) ?_
            refine xg_icmp_le X (pc := 36) (tgt := 41) d_R_thin_36 rfl (fun h36 => ?_) (fun h36 => ?_)
            · have hc : (¬ d < 1 ∧ ¬ sc 14 < d) ∧ (¬ o < 0 ∧ ¬ 3 < o) ∧ (¬ o = 0 ∨ d = sc 14) ∧ ¬ t < 1 ∧ t ≤ 32767 := ⟨h5, h12, by first | exact Or.inl h16 | exact Or.inr h24, h29, h36⟩
              refine xg_iconst X (pc := 41) (v := 0) d_R_thin_41 (by decide) ?_
              refine xg_istore X (pc := 42) d_R_thin_42 (by decide) rfl ?_
              refine xg_iconst X (pc := 44) (v := 0) d_R_thin_44 (by decide) ?_
              refine xg_istore X (pc := 45) d_R_thin_45 (by decide) rfl ?_
              refine xg_weak [some (.ref (ad 7)), some (.int d), some (.int o), some (.int t), some (.int (x_tc (fun i => decide (x_rp sc (x_ux sc i) (x_vx sc i) ∧ x_be d o (x_ux sc i) (x_vx sc i))) (fun x => x_rth x t) (ar 4) 0)), some (.int (nI 0)), none, none, none] ⟨rfl, rfl, rfl, rfl, rfl, rfl, trivial⟩ ?_
              exact xg_eq rfl (by rw [x_tf0, x_ua_id]) rfl (loop hc 769 0 (by omega) (by omega))
            · refine xg_iconst X (pc := 39) (v := -1) d_R_thin_39 (by decide) ?_
              exact xg_iret X (pc := 40) d_R_thin_40 rfl (rfl) (by clear loop hz; show ite _ _ _; rw [if_neg (by first | (simp_all; done) | grind)]; exact ⟨rfl, rfl, rfl⟩)
set_option maxRecDepth 100000 in
set_option maxHeartbeats 800000 in
theorem c_R_weight (hd : x_dis ad) {pl d o : Int32} {lf tp ww hh : Nat} (hc0 : ¬ d < 1 ∧ ¬ sc 14 < d → x_RC sc lf tp ww hh) (hz : ¬ d < 1 ∧ ¬ sc 14 < d → ¬ 2 * (1 : Int32) <<< ((d - 1) &&& 31) = 0) : x_Con l M_R_weight 3 67 ad D cI [.ref (ad 7), .int pl, .int d, .int o] sc ar (fun r sc2 ar2 => if (¬ d < 1 ∧ ¬ sc 14 < d) ∧ (¬ o < 0 ∧ ¬ 3 < o) ∧ (¬ pl < 0 ∧ ¬ 2 < pl) then x_E (some (.long (x_wo (fun y x => if x_be d o (nI (lf + x)) (nI (tp + y)) then x_ram (ar 4 (x_ix pl.toNatClampNeg lf tp (lf + x) (tp + y))) else 0) ww hh))) sc ar r sc2 ar2 else x_E (some (.long (-1))) sc ar r sc2 ar2) := by
  refine x_intro hd [some (.ref (ad 7)), some (.int pl), some (.int d), some (.int o), none, none, none, none] (by decide) (Nat.le_of_ble_eq_true rfl) rfl ?_
  intro p e s m args below meth c X
  have loop : ∀ q : Nat, q < 3 → (¬ d < 1 ∧ ¬ sc 14 < d) ∧ (¬ o < 0 ∧ ¬ 3 < o) ∧ (¬ (nI q) < 0 ∧ ¬ 2 < (nI q)) → ∀ n k : Nat, hh - k < n → k ≤ hh → x_G p l e (x_rm 3 67) s m args below meth c M_R_weight ad D cI (x_A ad) 0 0 (x_Q below args s ad D cI (fun r sc2 ar2 => if (¬ d < 1 ∧ ¬ sc 14 < d) ∧ (¬ o < 0 ∧ ¬ 3 < o) ∧ (¬ nI q < 0 ∧ ¬ 2 < nI q) then x_E (some (.long (x_wo (fun y x => if x_be d o (nI (lf + x)) (nI (tp + y)) then x_ram (ar 4 (x_ix (nI q).toNatClampNeg lf tp (lf + x) (tp + y))) else 0) ww hh))) sc ar r sc2 ar2 else x_E (some (.long (-1))) sc ar r sc2 ar2)) 35 [some (.ref (ad 7)), some (.int (nI q)), some (.int d), some (.int o), some (.long (x_wo (fun y x => if x_be d o (nI (lf + x)) (nI (tp + y)) then x_ram (ar 4 (x_ix q lf tp (lf + x) (tp + y))) else 0) ww k)), none, some (.int (nI (tp + k))), none] [] sc ar := by
    intro q hq hcd n
    have hc := hc0 hcd.1
    obtain ⟨g8, g9, g10, g11, g12, b1, b2, b3, b4⟩ := id hc
    induction n with
    | zero => intro k h _; exact absurd h (Nat.not_lt_zero _)
    | succ n ih =>
      intro k hn hk
      refine xg_iload X (pc := 35) d_R_weight_35 rfl ?_
      refine xg_aload_n X (pc := 37) d_R_weight_37 rfl ?_
      refine xf_R_33 X (pc := 38) rfl d_R_weight_38 ?_
      refine xg_aload_n X (pc := 41) d_R_weight_41 rfl ?_
      refine xf_R_36 X (pc := 42) rfl d_R_weight_42 ?_
      refine xg_iadd X (pc := 45) d_R_weight_45 ?_
      refine xg_icmp_ge X (pc := 46) (tgt := 114) d_R_weight_46 rfl (fun h46 => ?_) (fun h46 => ?_)
      · rw [g10, g12, nI_add, nI_leI (by omega) (by omega)] at h46
        have hk2 : k = hh := by omega
        subst hk2
        refine xg_lload X (pc := 114) d_R_weight_114 rfl ?_
        exact xg_lret X (pc := 116) d_R_weight_116 rfl (by show ite _ _ _; rw [if_pos hcd, nI_clamp (by omega)]; exact ⟨rfl, rfl, rfl⟩)
      · rw [g10, g12, nI_add, nI_leI (by omega) (by omega)] at h46
        have inner : x_G p l e (x_rm 3 67) s m args below meth c M_R_weight ad D cI (x_A ad) 0 0 (x_Q below args s ad D cI (fun r sc2 ar2 => if (¬ d < 1 ∧ ¬ sc 14 < d) ∧ (¬ o < 0 ∧ ¬ 3 < o) ∧ (¬ nI q < 0 ∧ ¬ 2 < nI q) then x_E (some (.long (x_wo (fun y x => if x_be d o (nI (lf + x)) (nI (tp + y)) then x_ram (ar 4 (x_ix (nI q).toNatClampNeg lf tp (lf + x) (tp + y))) else 0) ww hh))) sc ar r sc2 ar2 else x_E (some (.long (-1))) sc ar r sc2 ar2)) 108 [some (.ref (ad 7)), some (.int (nI q)), some (.int d), some (.int o), some (.long (x_wi ((fun y x => if x_be d o (nI (lf + x)) (nI (tp + y)) then x_ram (ar 4 (x_ix q lf tp (lf + x) (tp + y))) else 0) k) (x_wo (fun y x => if x_be d o (nI (lf + x)) (nI (tp + y)) then x_ram (ar 4 (x_ix q lf tp (lf + x) (tp + y))) else 0) ww k) ww)), none, some (.int (nI (tp + k))), some (.int (nI (lf + ww)))] [] sc ar → ∀ n i : Nat, ww - i < n → i ≤ ww → x_G p l e (x_rm 3 67) s m args below meth c M_R_weight ad D cI (x_A ad) 0 0 (x_Q below args s ad D cI (fun r sc2 ar2 => if (¬ d < 1 ∧ ¬ sc 14 < d) ∧ (¬ o < 0 ∧ ¬ 3 < o) ∧ (¬ nI q < 0 ∧ ¬ 2 < nI q) then x_E (some (.long (x_wo (fun y x => if x_be d o (nI (lf + x)) (nI (tp + y)) then x_ram (ar 4 (x_ix (nI q).toNatClampNeg lf tp (lf + x) (tp + y))) else 0) ww hh))) sc ar r sc2 ar2 else x_E (some (.long (-1))) sc ar r sc2 ar2)) 55 [some (.ref (ad 7)), some (.int (nI q)), some (.int d), some (.int o), some (.long (x_wi ((fun y x => if x_be d o (nI (lf + x)) (nI (tp + y)) then x_ram (ar 4 (x_ix q lf tp (lf + x) (tp + y))) else 0) k) (x_wo (fun y x => if x_be d o (nI (lf + x)) (nI (tp + y)) then x_ram (ar 4 (x_ix q lf tp (lf + x) (tp + y))) else 0) ww k) i)), none, some (.int (nI (tp + k))), some (.int (nI (lf + i)))] [] sc ar := by
          intro cont n
          induction n with
          | zero => intro i h _; exact absurd h (Nat.not_lt_zero _)
          | succ n ih =>
            intro i hn hi
            refine xg_iload X (pc := 55) d_R_weight_55 rfl ?_
            refine xg_aload_n X (pc := 57) d_R_weight_57 rfl ?_
            refine xf_R_26 X (pc := 58) rfl d_R_weight_58 ?_
            refine xg_aload_n X (pc := 61) d_R_weight_61 rfl ?_
            refine xf_R_30 X (pc := 62) rfl d_R_weight_62 ?_
            refine xg_iadd X (pc := 65) d_R_weight_65 ?_
            refine xg_icmp_ge X (pc := 66) (tgt := 108) d_R_weight_66 rfl (fun h66 => ?_) (fun h66 => ?_)
            · rw [g9, g11, nI_add, nI_leI (by omega) (by omega)] at h66
              have hi2 : i = ww := by omega
              subst hi2
              exact cont
            · rw [g9, g11, nI_add, nI_leI (by omega) (by omega)] at h66
              refine xg_lload X (pc := 69) d_R_weight_69 rfl ?_
              refine xg_iload_n X (pc := 71) d_R_weight_71 rfl ?_
              refine xg_iload_n X (pc := 72) d_R_weight_72 rfl ?_
              refine xg_iload X (pc := 73) d_R_weight_73 rfl ?_
              refine xg_iload X (pc := 75) d_R_weight_75 rfl ?_
              refine xg_crS4 X (pc := 77) d_R_weight_77 (c_R_belongs hd (hz hcd.1)) s_R_145 ⟨by decide, by decide⟩ (Nat.le_of_ble_eq_true rfl) ?_
              refine xg_if_eq X (pc := 80) (tgt := 98) d_R_weight_80 rfl (fun h80 => ?_) (fun h80 => ?_)
              · replace h80 := x_b0 h80
                refine xg_lconst X (pc := 98) (v := 0) d_R_weight_98 (by decide) ?_
                refine xg_ladd X (pc := 99) d_R_weight_99 ?_
                refine xg_lstore X (pc := 100) d_R_weight_100 (by decide) rfl ?_
                refine xg_iinc X (pc := 102) d_R_weight_102 rfl (x_inc (by decide : Int32.ofInt (1) = 1) _) (by decide) rfl ?_
                refine xg_goto X (pc := 105) (tgt := 55) d_R_weight_105 rfl ?_
                refine xg_weak [some (.ref (ad 7)), some (.int (nI q)), some (.int d), some (.int o), some (.long (x_wi ((fun y x => if x_be d o (nI (lf + x)) (nI (tp + y)) then x_ram (ar 4 (x_ix q lf tp (lf + x) (tp + y))) else 0) k) (x_wo (fun y x => if x_be d o (nI (lf + x)) (nI (tp + y)) then x_ram (ar 4 (x_ix q lf tp (lf + x) (tp + y))) else 0) ww k) (i + 1))), none, some (.int (nI (tp + k))), some (.int (nI (lf + (i + 1))))] ⟨rfl, rfl, rfl, rfl, congrArg (fun v => some (Value.long v)) (congrArg (x_wi ((fun y x => if x_be d o (nI (lf + x)) (nI (tp + y)) then x_ram (ar 4 (x_ix q lf tp (lf + x) (tp + y))) else 0) k) (x_wo (fun y x => if x_be d o (nI (lf + x)) (nI (tp + y)) then x_ram (ar 4 (x_ix q lf tp (lf + x) (tp + y))) else 0) ww k) i + ·) (if_neg h80).symm), rfl, by rw [x_k1] <;> rfl, trivial⟩ ?_
                exact ih (i + 1) (by omega) (by omega)
              · replace h80 := x_bn h80
                refine xg_aload_n X (pc := 83) d_R_weight_83 rfl ?_
                refine xg_iload_n X (pc := 84) d_R_weight_84 rfl ?_
                refine xg_iload X (pc := 85) d_R_weight_85 rfl ?_
                refine xg_iload X (pc := 87) d_R_weight_87 rfl ?_
                refine xg_crV3 X (pc := 89) d_R_weight_89 (c_R_atN hd hc hq (by omega) (by omega) (by omega) (by omega) rfl rfl) s_R_99 ⟨_, rfl⟩ rfl ⟨by decide, by decide⟩ (Nat.le_of_ble_eq_true rfl) ?_
                refine xg_crS1 X (pc := 92) d_R_weight_92 (c_R_amount hd) s_R_141 ⟨by decide, by decide⟩ (Nat.le_of_ble_eq_true rfl) ?_
                refine xg_goto X (pc := 95) (tgt := 99) d_R_weight_95 rfl ?_
                refine xg_ladd X (pc := 99) d_R_weight_99 ?_
                refine xg_lstore X (pc := 100) d_R_weight_100 (by decide) rfl ?_
                refine xg_iinc X (pc := 102) d_R_weight_102 rfl (x_inc (by decide : Int32.ofInt (1) = 1) _) (by decide) rfl ?_
                refine xg_goto X (pc := 105) (tgt := 55) d_R_weight_105 rfl ?_
                refine xg_weak [some (.ref (ad 7)), some (.int (nI q)), some (.int d), some (.int o), some (.long (x_wi ((fun y x => if x_be d o (nI (lf + x)) (nI (tp + y)) then x_ram (ar 4 (x_ix q lf tp (lf + x) (tp + y))) else 0) k) (x_wo (fun y x => if x_be d o (nI (lf + x)) (nI (tp + y)) then x_ram (ar 4 (x_ix q lf tp (lf + x) (tp + y))) else 0) ww k) (i + 1))), none, some (.int (nI (tp + k))), some (.int (nI (lf + (i + 1))))] ⟨rfl, rfl, rfl, rfl, congrArg (fun v => some (Value.long v)) (congrArg (x_wi ((fun y x => if x_be d o (nI (lf + x)) (nI (tp + y)) then x_ram (ar 4 (x_ix q lf tp (lf + x) (tp + y))) else 0) k) (x_wo (fun y x => if x_be d o (nI (lf + x)) (nI (tp + y)) then x_ram (ar 4 (x_ix q lf tp (lf + x) (tp + y))) else 0) ww k) i + ·) (if_pos h80).symm), rfl, by rw [x_k1] <;> rfl, trivial⟩ ?_
                exact ih (i + 1) (by omega) (by omega)
        refine xg_aload_n X (pc := 49) d_R_weight_49 rfl ?_
        refine xf_R_26 X (pc := 50) rfl d_R_weight_50 ?_
        refine xg_istore X (pc := 53) d_R_weight_53 (by decide) rfl ?_
        refine xg_weak [some (.ref (ad 7)), some (.int (nI q)), some (.int d), some (.int o), some (.long (x_wi ((fun y x => if x_be d o (nI (lf + x)) (nI (tp + y)) then x_ram (ar 4 (x_ix q lf tp (lf + x) (tp + y))) else 0) k) (x_wo (fun y x => if x_be d o (nI (lf + x)) (nI (tp + y)) then x_ram (ar 4 (x_ix q lf tp (lf + x) (tp + y))) else 0) ww k) 0)), none, some (.int (nI (tp + k))), some (.int (nI (lf + 0)))] ⟨rfl, rfl, rfl, rfl, rfl, rfl, by rw [g9] <;> rfl, trivial⟩ ?_
        refine inner ?_ _ 0 (Nat.lt_succ_self _) (by omega)
        refine xg_iinc X (pc := 108) d_R_weight_108 rfl (x_inc (by decide : Int32.ofInt (1) = 1) _) (by decide) rfl ?_
        refine xg_goto X (pc := 111) (tgt := 35) d_R_weight_111 rfl ?_
        refine xg_weak [some (.ref (ad 7)), some (.int (nI q)), some (.int d), some (.int o), some (.long (x_wo (fun y x => if x_be d o (nI (lf + x)) (nI (tp + y)) then x_ram (ar 4 (x_ix q lf tp (lf + x) (tp + y))) else 0) ww (k + 1))), none, some (.int (nI (tp + (k + 1)))), none] ⟨rfl, rfl, rfl, rfl, rfl, by rw [x_k1] <;> rfl, trivial⟩ ?_
        exact ih (k + 1) (by omega) (by omega)
  refine xg_aload_n X (pc := 0) d_R_weight_0 rfl ?_
  refine xg_iload_n X (pc := 1) d_R_weight_1 rfl ?_
  refine xg_crV1 X (pc := 2) d_R_weight_2 (c_R_isLevel hd) s_R_123 ⟨_, rfl⟩ rfl ⟨by decide, by decide⟩ (Nat.le_of_ble_eq_true rfl) ?_
  refine xg_if_eq X (pc := 5) (tgt := 22) d_R_weight_5 rfl (fun h5 => ?_) (fun h5 => ?_)
  · replace h5 := x_b0 h5
    refine xg_ldc2 X (pc := 22) (v := -1) d_R_weight_22 (by decide +kernel) ?_
    exact xg_lret X (pc := 25) d_R_weight_25 rfl (by clear loop hc0 hz; show ite _ _ _; rw [if_neg (by first | (simp_all; done) | grind)]; exact ⟨rfl, rfl, rfl⟩)
  · replace h5 := x_bn h5
    refine xg_iload_n X (pc := 8) d_R_weight_8 rfl ?_
    refine xg_crS1 X (pc := 9) d_R_weight_9 (c_R_isBand hd) s_R_130 ⟨by decide, by decide⟩ (Nat.le_of_ble_eq_true rfl) ?_
    refine xg_if_eq X (pc := 12) (tgt := 22) d_R_weight_12 rfl (fun h12 => ?_) (fun h12 => ?_)
    · replace h12 := x_b0 h12
      refine xg_ldc2 X (pc := 22) (v := -1) d_R_weight_22 (by decide +kernel) ?_
      exact xg_lret X (pc := 25) d_R_weight_25 rfl (by clear loop hc0 hz; show ite _ _ _; rw [if_neg (by first | (simp_all; done) | grind)]; exact ⟨rfl, rfl, rfl⟩)
    · replace h12 := x_bn h12
      refine xg_iload_n X (pc := 15) d_R_weight_15 rfl ?_
      refine xg_crS1 X (pc := 16) d_R_weight_16 (c_R_isPlane hd) s_R_45 ⟨by decide, by decide⟩ (Nat.le_of_ble_eq_true rfl) ?_
      refine xg_if_ne X (pc := 19) (tgt := 26) d_R_weight_19 rfl (fun h19 => ?_) (fun h19 => ?_)
      · replace h19 := x_bn h19
        obtain ⟨q, hq, rfl⟩ : ∃ q : Nat, q < 3 ∧ pl = nI q := by
          obtain ⟨j, j1, j2⟩ := nI_of h19.1
          refine ⟨j, ?_, j2⟩
          have j3 := h19.2
          rw [j2] at j3
          exact Nat.lt_of_not_le fun q9 => j3 ((nI_ltI (a := 2) (by decide) j1).mpr (by omega))
        refine xg_lconst X (pc := 26) (v := 0) d_R_weight_26 (by decide) ?_
        refine xg_lstore X (pc := 27) d_R_weight_27 (by decide) rfl ?_
        refine xg_aload_n X (pc := 29) d_R_weight_29 rfl ?_
        refine xf_R_33 X (pc := 30) rfl d_R_weight_30 ?_
        refine xg_istore X (pc := 33) d_R_weight_33 (by decide) rfl ?_
        refine xg_weak [some (.ref (ad 7)), some (.int (nI q)), some (.int d), some (.int o), some (.long (x_wo (fun y x => if x_be d o (nI (lf + x)) (nI (tp + y)) then x_ram (ar 4 (x_ix q lf tp (lf + x) (tp + y))) else 0) ww 0)), none, some (.int (nI (tp + 0))), none] ⟨rfl, rfl, rfl, rfl, rfl, by rw [(hc0 h5).2.2.1] <;> rfl, trivial⟩ ?_
        exact loop q hq ⟨h5, h12, h19⟩ _ 0 (Nat.lt_succ_self _) (by omega)
      · replace h19 := x_b0 h19
        refine xg_ldc2 X (pc := 22) (v := -1) d_R_weight_22 (by decide +kernel) ?_
        exact xg_lret X (pc := 25) d_R_weight_25 rfl (by clear loop hc0 hz; show ite _ _ _; rw [if_neg (by first | (simp_all; done) | grind)]; exact ⟨rfl, rfl, rfl⟩)
end C17
