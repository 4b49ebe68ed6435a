section C14
variable {l : Launch} {ad : Nat → Nat} {D : va_G} {cI : ClassId} {sc : Nat → Int32} {ar : Nat → Nat → Int32}
abbrev x_TC (sc : Nat → Int32) (lf tp ww hh p0 : Nat) : Prop := sc 2 = nI lf ∧ sc 3 = nI ww ∧ sc 4 = nI tp ∧ sc 5 = nI hh ∧ sc 0 = nI p0 ∧ lf ≤ 1000 ∧ tp ≤ 1000 ∧ ww ≤ 16 ∧ hh ≤ 16
set_option maxRecDepth 100000 in
set_option maxHeartbeats 800000 in
theorem c_T_forward (hd : x_dis ad) {lf tp ww hh p0 : Nat} (hc : x_TC sc lf tp ww hh p0) (hpb : p0 < 2 ^ 31) {kn : Int32} : x_Con l M_T_forward 5 121 ad D cI [.ref (ad 0), .int kn] sc ar (fun r sc2 ar2 => if ¬ sc 3 ≤ 0 ∧ ¬ kn < 0 ∧ ¬ 3 ≤ kn ∧ sc 0 < 4 then (r = some (.int 1) ∧ sc2 0 = sc 0 + 1 ∧ (∀ z, z ≠ 0 → z ≠ 6 → z ≠ 7 → sc2 z = sc z) ∧ (∀ z, z ≠ 0 → z ≠ 1 → z ≠ 2 → ar2 z = ar z) ∧ ar2 0 = x_FW kn p0 lf tp ww hh (ar 0) 3 ∧ ar2 1 = upd (ar 1) p0 kn) else x_E (some (.int 0)) sc ar r sc2 ar2) := by
  refine x_intro hd [some (.ref (ad 0)), some (.int kn), none] (by decide) (Nat.le_of_ble_eq_true rfl) rfl ?_
  intro p e s m args below meth c X
  have loop : ¬ sc 3 ≤ 0 ∧ ¬ kn < 0 ∧ ¬ 3 ≤ kn ∧ sc 0 < 4 → ∀ (n k : Nat) (sc' : Nat → Int32) (ar' : Nat → Nat → Int32), 3 - k < n → k ≤ 3 → (∀ z, z ≠ 6 → z ≠ 7 → sc' z = sc z) → (∀ z, z ≠ 0 → z ≠ 2 → ar' z = ar z) → ar' 0 = x_FW kn p0 lf tp ww hh (ar 0) k → x_G p l e (x_rm 5 121) s m args below meth c M_T_forward ad D cI (x_A ad) 0 0 (x_Q below args s ad D cI (fun r sc2 ar2 => if ¬ sc 3 ≤ 0 ∧ ¬ kn < 0 ∧ ¬ 3 ≤ kn ∧ sc 0 < 4 then (r = some (.int 1) ∧ sc2 0 = sc 0 + 1 ∧ (∀ z, z ≠ 0 → z ≠ 6 → z ≠ 7 → sc2 z = sc z) ∧ (∀ z, z ≠ 0 → z ≠ 1 → z ≠ 2 → ar2 z = ar z) ∧ ar2 0 = x_FW kn p0 lf tp ww hh (ar 0) 3 ∧ ar2 1 = upd (ar 1) p0 kn) else x_E (some (.int 0)) sc ar r sc2 ar2)) 28 [some (.ref (ad 0)), some (.int kn), some (.int (nI k))] [] sc' ar' := by
    intro hcd n
    induction n with
    | zero => intro k sc' ar' h; exact absurd h (Nat.not_lt_zero _)
    | succ n ih =>
      intro k sc' ar' hn hk hsc har hf
      have hc1 : x_TC sc' lf tp ww hh p0 := by
        obtain ⟨h2, h3, h4, h5, h0, b⟩ := hc
        refine ⟨?_, ?_, ?_, ?_, ?_, b⟩
        · rw [hsc 2 (by decide) (by decide)]; exact h2
        · rw [hsc 3 (by decide) (by decide)]; exact h3
        · rw [hsc 4 (by decide) (by decide)]; exact h4
        · rw [hsc 5 (by decide) (by decide)]; exact h5
        · rw [hsc 0 (by decide) (by decide)]; exact h0
      have hp3 : p0 ≤ 3 := by
        have h9 := hcd.2.2.2
        rw [hc.2.2.2.2.1] at h9
        exact Nat.le_of_lt_succ ((nI_ltI (b := 4) hpb (by decide)).mp h9)
      obtain ⟨g2, g3, g4, g5, g0, b1, b2, b3, b4⟩ := id hc1
      refine xg_iload_n X (pc := 28) d_T_forward_28 rfl ?_
      refine xg_iconst X (pc := 29) (v := 3) d_T_forward_29 (by decide) ?_
      refine xg_icmp_ge X (pc := 30) (tgt := 69) d_T_forward_30 rfl (fun h30 => ?_) (fun h30 => ?_)
      · have hk2 : k = 3 := Nat.le_antisymm hk (x_ge (n := 3) rfl (by decide) (by omega) h30)
        subst hk2
        refine xg_aload_n X (pc := 69) d_T_forward_69 rfl ?_
        refine xf_T_32 X (pc := 70) rfl d_T_forward_70 ?_
        refine xg_aload_n X (pc := 73) d_T_forward_73 rfl ?_
        refine xf_T_35 X (pc := 74) rfl d_T_forward_74 ?_
        refine xg_iload_n X (pc := 77) d_T_forward_77 rfl ?_
        refine xa_st5 X (pc := 78) d_T_forward_78 (by rw [g0]; exact vp_in_nI (by omega) (by decide)) ?_
        refine xg_aload_n X (pc := 79) d_T_forward_79 rfl ?_
        refine xg_dup X (pc := 80) d_T_forward_80 rfl ?_
        refine xf_T_35 X (pc := 81) rfl d_T_forward_81 ?_
        refine xg_iconst X (pc := 84) (v := 1) d_T_forward_84 (by decide) ?_
        refine xg_iadd X (pc := 85) d_T_forward_85 ?_
        refine xp_T_35 X (pc := 86) rfl d_T_forward_86 ?_
        refine xg_iconst X (pc := 89) (v := 1) d_T_forward_89 (by decide) ?_
        exact xg_iret X (pc := 90) d_T_forward_90 rfl (rfl) (by
            show ite _ _ _
            rw [if_pos hcd]
            refine ⟨rfl, ?_, ?_, ?_, ?_, ?_⟩
            · show sc' 0 + 1 = _
              rw [hsc 0 (by decide) (by decide)]
            · intro z z0 z6 z7
              rw [pk_un z0]; exact hsc z z6 z7
            · intro z z0 z1 z2
              rw [x_ua_ne z1]; exact har z z0 z2
            · exact hf
            · show upd (ar' 1) (sc' 0).toNatClampNeg kn = _
              rw [har 1 (by decide) (by decide), g0, nI_clamp (by omega)])
      · have hk3 : k < 3 := x_nge (n := 3) rfl (by decide) (by omega) h30
        refine xg_aload_n X (pc := 33) d_T_forward_33 rfl ?_
        refine xg_iload_n X (pc := 34) d_T_forward_34 rfl ?_
        refine xg_aload_n X (pc := 35) d_T_forward_35 rfl ?_
        refine xf_T_22 X (pc := 36) rfl d_T_forward_36 ?_
        refine xg_aload_n X (pc := 39) d_T_forward_39 rfl ?_
        refine xf_T_18 X (pc := 40) rfl d_T_forward_40 ?_
        refine xg_iload_n X (pc := 43) d_T_forward_43 rfl ?_
        refine xg_iconst X (pc := 44) (v := 1) d_T_forward_44 (by decide) ?_
        refine xg_cV5 X (pc := 45) d_T_forward_45 (c_T_liftLines hd (j := 1) (i := 0) (q := k) (p0 := p0) (fwd := true) (by decide) (by decide) (by decide) hk3 hp3 g0 g4 g5 g2 g3 b2 b4 b1 b3 (Or.inr ⟨rfl, rfl⟩)) s_T_78 ⟨_, rfl⟩ rfl ⟨by decide, by decide⟩ (Nat.le_of_ble_eq_true rfl) ?_
        rintro _ sc1 ar1 ⟨rfl, hs1, ha1, hf1⟩
        refine xg_aload_n X (pc := 48) d_T_forward_48 rfl ?_
        refine xg_iload_n X (pc := 49) d_T_forward_49 rfl ?_
        refine xg_aload_n X (pc := 50) d_T_forward_50 rfl ?_
        refine xf_T_18 X (pc := 51) rfl d_T_forward_51 ?_
        refine xg_aload_n X (pc := 54) d_T_forward_54 rfl ?_
        refine xf_T_22 X (pc := 55) rfl d_T_forward_55 ?_
        refine xg_iload_n X (pc := 58) d_T_forward_58 rfl ?_
        refine xg_iconst X (pc := 59) (v := 1) d_T_forward_59 (by decide) ?_
        refine xg_cV5 X (pc := 60) d_T_forward_60 (c_T_liftLines hd (j := 0) (i := 1) (q := k) (p0 := p0) (fwd := true) (by decide) (by decide) (by decide) hk3 hp3 (by rw [hs1 0 (by decide) (by decide)]; exact g0) (by rw [hs1 2 (by decide) (by decide)]; exact g2) (by rw [hs1 3 (by decide) (by decide)]; exact g3) (by rw [hs1 4 (by decide) (by decide)]; exact g4) (by rw [hs1 5 (by decide) (by decide)]; exact g5) b1 b3 b2 b4 (Or.inr ⟨rfl, rfl⟩)) s_T_78 ⟨_, rfl⟩ rfl ⟨by decide, by decide⟩ (Nat.le_of_ble_eq_true rfl) ?_
        rintro _ sc2 ar2 ⟨rfl, hs2, ha2, hf2⟩
        refine xg_iinc X (pc := 63) d_T_forward_63 rfl (x_inc (by decide : Int32.ofInt (1) = 1) _) (by decide) rfl ?_
        refine xg_goto X (pc := 66) (tgt := 28) d_T_forward_66 rfl ?_
        refine xg_weak [some (.ref (ad 0)), some (.int kn), some (.int (nI (k + 1)))] ⟨rfl, rfl, by rw [x_k1] <;> rfl, trivial⟩ ?_
        refine ih (k + 1) _ _ (by omega) (by omega) (fun z z1 z2 => (hs2 z z1 z2).trans ((hs1 z z1 z2).trans (hsc z z1 z2))) (fun z z1 z2 => (ha2 z z1 z2).trans ((ha1 z z1 z2).trans (har z z1 z2))) ?_
        rw [hf2, hf1, hf]
        rfl
  refine xg_aload_n X (pc := 0) d_T_forward_0 rfl ?_
  refine xg_crV0 X (pc := 1) d_T_forward_1 (c_T_hasTile hd) s_T_68 ⟨_, rfl⟩ rfl ⟨by decide, by decide⟩ (Nat.le_of_ble_eq_true rfl) ?_
  refine xg_if_eq X (pc := 4) (tgt := 24) d_T_forward_4 rfl (fun h4 => ?_) (fun h4 => ?_)
  · replace h4 := x_b0 h4
    refine xg_iconst X (pc := 24) (v := 0) d_T_forward_24 (by decide) ?_
    exact xg_iret X (pc := 25) d_T_forward_25 rfl (rfl) (by show ite _ _ _; rw [if_neg (by clear loop; (try clear hc); (try clear h00); (try clear hp3); (try clear hc0); (try clear hp0); first | (simp_all; done) | grind)]; exact ⟨rfl, rfl, rfl⟩)
  · replace h4 := x_bn h4
    refine xg_iload_n X (pc := 7) d_T_forward_7 rfl ?_
    refine xg_if_lt X (pc := 8) (tgt := 24) d_T_forward_8 rfl (fun h8 => ?_) (fun h8 => ?_)
    · refine xg_iconst X (pc := 24) (v := 0) d_T_forward_24 (by decide) ?_
      exact xg_iret X (pc := 25) d_T_forward_25 rfl (rfl) (by show ite _ _ _; rw [if_neg (by clear loop; (try clear hc); (try clear h00); (try clear hp3); (try clear hc0); (try clear hp0); first | (simp_all; done) | grind)]; exact ⟨rfl, rfl, rfl⟩)
    · refine xg_iload_n X (pc := 11) d_T_forward_11 rfl ?_
      refine xg_iconst X (pc := 12) (v := 3) d_T_forward_12 (by decide) ?_
      refine xg_icmp_ge X (pc := 13) (tgt := 24) d_T_forward_13 rfl (fun h13 => ?_) (fun h13 => ?_)
      · refine xg_iconst X (pc := 24) (v := 0) d_T_forward_24 (by decide) ?_
        exact xg_iret X (pc := 25) d_T_forward_25 rfl (rfl) (by show ite _ _ _; rw [if_neg (by clear loop; (try clear hc); (try clear h00); (try clear hp3); (try clear hc0); (try clear hp0); first | (simp_all; done) | grind)]; exact ⟨rfl, rfl, rfl⟩)
      · refine xg_aload_n X (pc := 16) d_T_forward_16 rfl ?_
        refine xf_T_35 X (pc := 17) rfl d_T_forward_17 ?_
        refine xg_iconst X (pc := 20) (v := 4) d_T_forward_20 (by decide) ?_
        refine xg_icmp_lt X (pc := 21) (tgt := 26) d_T_forward_21 rfl (fun h21 => ?_) (fun h21 => ?_)
        · refine xg_iconst X (pc := 26) (v := 0) d_T_forward_26 (by decide) ?_
          refine xg_istore_n X (pc := 27) d_T_forward_27 (by decide) rfl ?_
          refine xg_weak [some (.ref (ad 0)), some (.int kn), some (.int (nI 0))] ⟨rfl, rfl, rfl, trivial⟩ ?_
          exact loop ⟨h4, h8, h13, h21⟩ _ 0 sc ar (Nat.lt_succ_self _) (by omega) (fun _ _ _ => rfl) (fun _ _ _ => rfl) rfl
        · refine xg_iconst X (pc := 24) (v := 0) d_T_forward_24 (by decide) ?_
          exact xg_iret X (pc := 25) d_T_forward_25 rfl (rfl) (by show ite _ _ _; rw [if_neg (by clear loop; (try clear hc); (try clear h00); (try clear hp3); (try clear hc0); (try clear hp0); first | (simp_all; done) | grind)]; exact ⟨rfl, rfl, rfl⟩)
set_option maxRecDepth 100000 in
set_option maxHeartbeats 800000 in
theorem c_T_back (hd : x_dis ad) {lf tp ww hh p0 : Nat} (hc : x_TC (upd sc 0 (nI p0)) lf tp ww hh p0) (hp3 : p0 ≤ 3) (h00 : ¬ sc 0 = 0 → sc 0 - 1 = nI p0) : x_Con l M_T_back 5 121 ad D cI [.ref (ad 0)] sc ar (fun r sc2 ar2 => if ¬ sc 0 = 0 then (r = some (.int 1) ∧ sc2 0 = sc 0 - 1 ∧ (∀ z, z ≠ 0 → z ≠ 6 → z ≠ 7 → sc2 z = sc z) ∧ (∀ z, z ≠ 0 → z ≠ 2 → ar2 z = ar z) ∧ ar2 0 = x_BK (ar 1 p0) p0 lf tp ww hh (ar 0) 3) else x_E (some (.int 0)) sc ar r sc2 ar2) := by
  refine x_intro hd [some (.ref (ad 0)), none, none] (by decide) (Nat.le_of_ble_eq_true rfl) rfl ?_
  intro p e s m args below meth c X
  have loop : ¬ sc 0 = 0 → sc 0 - 1 = nI p0 → ∀ (n k : Nat) (sc' : Nat → Int32) (ar' : Nat → Nat → Int32), 3 - k < n → k ≤ 3 → (∀ z, z ≠ 6 → z ≠ 7 → sc' z = (upd sc 0 (nI p0)) z) → (∀ z, z ≠ 0 → z ≠ 2 → ar' z = ar z) → ar' 0 = x_BK (ar 1 p0) p0 lf tp ww hh (ar 0) k → x_G p l e (x_rm 5 121) s m args below meth c M_T_back ad D cI (x_A ad) 0 0 (x_Q below args s ad D cI (fun r sc2 ar2 => if ¬ sc 0 = 0 then (r = some (.int 1) ∧ sc2 0 = sc 0 - 1 ∧ (∀ z, z ≠ 0 → z ≠ 6 → z ≠ 7 → sc2 z = sc z) ∧ (∀ z, z ≠ 0 → z ≠ 2 → ar2 z = ar z) ∧ ar2 0 = x_BK (ar 1 p0) p0 lf tp ww hh (ar 0) 3) else x_E (some (.int 0)) sc ar r sc2 ar2)) 31 [some (.ref (ad 0)), some (.int (ar 1 p0)), some (.int (nI k))] [] sc' ar' := by
    intro hcd h0' n
    induction n with
    | zero => intro k sc' ar' h; exact absurd h (Nat.not_lt_zero _)
    | succ n ih =>
      intro k sc' ar' hn hk hsc har hf
      have hc1 : x_TC sc' lf tp ww hh p0 := by
        obtain ⟨h2, h3, h4, h5, h0, b⟩ := id hc
        refine ⟨?_, ?_, ?_, ?_, ?_, b⟩
        · rw [hsc 2 (by decide) (by decide)]; exact h2
        · rw [hsc 3 (by decide) (by decide)]; exact h3
        · rw [hsc 4 (by decide) (by decide)]; exact h4
        · rw [hsc 5 (by decide) (by decide)]; exact h5
        · rw [hsc 0 (by decide) (by decide)]; rfl
      obtain ⟨g2, g3, g4, g5, g0, b1, b2, b3, b4⟩ := id hc1
      refine xg_iload_n X (pc := 31) d_T_back_31 rfl ?_
      refine xg_iconst X (pc := 32) (v := 3) d_T_back_32 (by decide) ?_
      refine xg_icmp_ge X (pc := 33) (tgt := 72) d_T_back_33 rfl (fun h33 => ?_) (fun h33 => ?_)
      · have hk2 : k = 3 := Nat.le_antisymm hk (x_ge (n := 3) rfl (by decide) (by omega) h33)
        subst hk2
        refine xg_iconst X (pc := 72) (v := 1) d_T_back_72 (by decide) ?_
        exact xg_iret X (pc := 73) d_T_back_73 rfl (rfl) (by
            show ite _ _ _
            rw [if_pos hcd]
            refine ⟨rfl, ?_, ?_, har, hf⟩
            · rw [hsc 0 (by decide) (by decide)]; exact h0'.symm
            · intro z z0 z6 z7
              rw [hsc z z6 z7]; exact pk_un z0)
      · have hk3 : k < 3 := x_nge (n := 3) rfl (by decide) (by omega) h33
        refine xg_aload_n X (pc := 36) d_T_back_36 rfl ?_
        refine xg_iload_n X (pc := 37) d_T_back_37 rfl ?_
        refine xg_aload_n X (pc := 38) d_T_back_38 rfl ?_
        refine xf_T_18 X (pc := 39) rfl d_T_back_39 ?_
        refine xg_aload_n X (pc := 42) d_T_back_42 rfl ?_
        refine xf_T_22 X (pc := 43) rfl d_T_back_43 ?_
        refine xg_iload_n X (pc := 46) d_T_back_46 rfl ?_
        refine xg_iconst X (pc := 47) (v := 0) d_T_back_47 (by decide) ?_
        refine xg_cV5 X (pc := 48) d_T_back_48 (c_T_liftLines hd (j := 0) (i := 1) (q := k) (p0 := p0) (fwd := false) (by decide) (by decide) (by decide) hk3 hp3 g0 g2 g3 g4 g5 b1 b3 b2 b4 (Or.inl ⟨rfl, rfl⟩)) s_T_78 ⟨_, rfl⟩ rfl ⟨by decide, by decide⟩ (Nat.le_of_ble_eq_true rfl) ?_
        rintro _ sc1 ar1 ⟨rfl, hs1, ha1, hf1⟩
        refine xg_aload_n X (pc := 51) d_T_back_51 rfl ?_
        refine xg_iload_n X (pc := 52) d_T_back_52 rfl ?_
        refine xg_aload_n X (pc := 53) d_T_back_53 rfl ?_
        refine xf_T_22 X (pc := 54) rfl d_T_back_54 ?_
        refine xg_aload_n X (pc := 57) d_T_back_57 rfl ?_
        refine xf_T_18 X (pc := 58) rfl d_T_back_58 ?_
        refine xg_iload_n X (pc := 61) d_T_back_61 rfl ?_
        refine xg_iconst X (pc := 62) (v := 0) d_T_back_62 (by decide) ?_
        refine xg_cV5 X (pc := 63) d_T_back_63 (c_T_liftLines hd (j := 1) (i := 0) (q := k) (p0 := p0) (fwd := false) (by decide) (by decide) (by decide) hk3 hp3 (by rw [hs1 0 (by decide) (by decide)]; exact g0) (by rw [hs1 4 (by decide) (by decide)]; exact g4) (by rw [hs1 5 (by decide) (by decide)]; exact g5) (by rw [hs1 2 (by decide) (by decide)]; exact g2) (by rw [hs1 3 (by decide) (by decide)]; exact g3) b2 b4 b1 b3 (Or.inl ⟨rfl, rfl⟩)) s_T_78 ⟨_, rfl⟩ rfl ⟨by decide, by decide⟩ (Nat.le_of_ble_eq_true rfl) ?_
        rintro _ sc2 ar2 ⟨rfl, hs2, ha2, hf2⟩
        refine xg_iinc X (pc := 66) d_T_back_66 rfl (x_inc (by decide : Int32.ofInt (1) = 1) _) (by decide) rfl ?_
        refine xg_goto X (pc := 69) (tgt := 31) d_T_back_69 rfl ?_
        refine xg_weak [some (.ref (ad 0)), some (.int (ar 1 p0)), some (.int (nI (k + 1)))] ⟨rfl, rfl, by rw [x_k1] <;> rfl, trivial⟩ ?_
        refine ih (k + 1) _ _ (by omega) (by omega) (fun z z1 z2 => (hs2 z z1 z2).trans ((hs1 z z1 z2).trans (hsc z z1 z2))) (fun z z1 z2 => (ha2 z z1 z2).trans ((ha1 z z1 z2).trans (har z z1 z2))) ?_
        rw [hf2, hf1, hf]
        rfl
  refine xg_aload_n X (pc := 0) d_T_back_0 rfl ?_
  refine xf_T_35 X (pc := 1) rfl d_T_back_1 ?_
  refine xg_if_ne X (pc := 4) (tgt := 9) d_T_back_4 rfl (fun h4 => ?_) (fun h4 => ?_)
  · refine xg_aload_n X (pc := 9) d_T_back_9 rfl ?_
    refine xg_dup X (pc := 10) d_T_back_10 rfl ?_
    refine xf_T_35 X (pc := 11) rfl d_T_back_11 ?_
    refine xg_iconst X (pc := 14) (v := 1) d_T_back_14 (by decide) ?_
    refine xg_isub X (pc := 15) d_T_back_15 ?_
    refine xp_T_35 X (pc := 16) rfl d_T_back_16 ?_
    refine xg_aload_n X (pc := 19) d_T_back_19 rfl ?_
    refine xf_T_32 X (pc := 20) rfl d_T_back_20 ?_
    refine xg_aload_n X (pc := 23) d_T_back_23 rfl ?_
    refine xf_T_35 X (pc := 24) rfl d_T_back_24 ?_
    refine xa_ld5 X (pc := 27) d_T_back_27 (by show vp_in (sc 0 - 1) 4; rw [h00 h4]; exact vp_in_nI (by omega) (by decide)) ?_
    refine xg_istore_n X (pc := 28) d_T_back_28 (by decide) rfl ?_
    refine xg_iconst X (pc := 29) (v := 0) d_T_back_29 (by decide) ?_
    refine xg_istore_n X (pc := 30) d_T_back_30 (by decide) rfl ?_
    refine xg_weak [some (.ref (ad 0)), some (.int (ar 1 p0)), some (.int (nI 0))] ⟨rfl, by show some (Value.int (ar 1 (sc 0 - 1).toNatClampNeg)) = _; rw [h00 h4, nI_clamp (by omega)], rfl, trivial⟩ ?_
    exact xg_eq (by show upd sc 0 (sc 0 - 1) = _; rw [h00 h4]) rfl rfl (loop h4 (h00 h4) _ 0 (upd sc 0 (nI p0)) ar (Nat.lt_succ_self _) (by omega) (fun _ _ _ => rfl) (fun _ _ _ => rfl) rfl)
  · refine xg_iconst X (pc := 7) (v := 0) d_T_back_7 (by decide) ?_
    exact xg_iret X (pc := 8) d_T_back_8 rfl (rfl) (by show ite _ _ _; rw [if_neg (by clear loop; (try clear hc); (try clear h00); (try clear hp3); (try clear hc0); (try clear hp0); first | (simp_all; done) | grind)]; exact ⟨rfl, rfl, rfl⟩)
end C14
