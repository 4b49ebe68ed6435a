theorem x_scN {x : Int32} {p : Nat} (hp : p ≤ 4) (h : x - 1 = nI p) : 1 <<< ((x - 1) &&& 31) = nI (2 ^ p) := by
  rw [h]
  have := x_shl (x := 1) hp (by decide)
  rw [Nat.one_mul] at this
  exact this
section C15
variable {l : Launch} {ad : Nat → Nat} {D : va_G} {cI : ClassId} {sc : Nat → Int32} {ar : Nat → Nat → Int32}
set_option maxRecDepth 100000 in
set_option maxHeartbeats 800000 in
theorem c_R_forward (hd : x_dis ad) {lf tp ww hh p0 : Nat} {kn : Int32} (hc0 : ¬ sc 8 = 0 → x_RC sc lf tp ww hh ∧ 0 < ww ∧ 0 < hh) (hp0 : sc 14 = nI p0) (hp3 : sc 14 < 4 → p0 ≤ 3) : x_Con l M_R_forward 7 157 ad D cI [.ref (ad 7), .int kn] sc ar (fun r sc2 ar2 => if ¬ sc 8 = 0 ∧ ¬ kn < 0 ∧ ¬ 2 < kn ∧ sc 14 < 4 then (r = some (.int 1) ∧ sc2 14 = sc 14 + 1 ∧ (∀ z, z ≠ 14 → z ≠ 15 → z ≠ 16 → z ≠ 17 → sc2 z = sc z) ∧ (∀ z, z ≠ 3 → z ≠ 4 → z ≠ 5 → z ≠ 6 → ar2 z = ar z) ∧ ar2 4 = x_FW kn p0 lf tp ww hh (ar 4) 3 ∧ ar2 3 = upd (ar 3) p0 kn) else x_E (some (.int 0)) sc ar r sc2 ar2) := by
  refine x_intro hd [some (.ref (ad 7)), some (.int kn), none, none] (by decide) (Nat.le_of_ble_eq_true rfl) rfl ?_
  intro p e s m args below meth c X
  have loop : ¬ sc 8 = 0 ∧ ¬ kn < 0 ∧ ¬ 2 < kn ∧ sc 14 < 4 → (x_RC sc lf tp ww hh ∧ 0 < ww ∧ 0 < hh) → p0 ≤ 3 → ∀ (n k : Nat) (sc' : Nat → Int32) (ar' : Nat → Nat → Int32), 3 - k < n → k ≤ 3 → (∀ z, z ≠ 15 → z ≠ 16 → sc' z = (upd (upd sc 14 (sc 14 + 1)) 17 kn) z) → (∀ z, z ≠ 4 → z ≠ 5 → z ≠ 6 → ar' z = (x_ua ar 3 (upd (ar 3) p0 kn)) z) → ar' 4 = x_FW kn p0 lf tp ww hh (ar 4) k → x_G p l e (x_rm 7 157) s m args below meth c M_R_forward ad D cI (x_A ad) 0 0 (x_Q below args s ad D cI (fun r sc2 ar2 => if ¬ sc 8 = 0 ∧ ¬ kn < 0 ∧ ¬ 2 < kn ∧ sc 14 < 4 then (r = some (.int 1) ∧ sc2 14 = sc 14 + 1 ∧ (∀ z, z ≠ 14 → z ≠ 15 → z ≠ 16 → z ≠ 17 → sc2 z = sc z) ∧ (∀ z, z ≠ 3 → z ≠ 4 → z ≠ 5 → z ≠ 6 → ar2 z = ar z) ∧ ar2 4 = x_FW kn p0 lf tp ww hh (ar 4) 3 ∧ ar2 3 = upd (ar 3) p0 kn) else x_E (some (.int 0)) sc ar r sc2 ar2)) 61 [some (.ref (ad 7)), some (.int kn), some (.int (nI (2 ^ p0))), some (.int (nI k))] [] sc' ar' := by
    intro hcd hcR hp9 n
    induction n with
    | zero => intro k sc' ar' h; exact absurd h (Nat.not_lt_zero _)
    | succ n ih =>
      intro k sc' ar' hn hk hsc har hf
      refine xg_iload_n X (pc := 61) d_R_forward_61 rfl ?_
      refine xg_iconst X (pc := 62) (v := 3) d_R_forward_62 (by decide) ?_
      refine xg_icmp_ge X (pc := 63) (tgt := 86) d_R_forward_63 rfl (fun h63 => ?_) (fun h63 => ?_)
      · have hk2 : k = 3 := Nat.le_antisymm hk (x_ge (n := 3) rfl (by decide) (by omega) h63)
        subst hk2
        refine xg_iconst X (pc := 86) (v := 1) d_R_forward_86 (by decide) ?_
        exact xg_iret X (pc := 87) d_R_forward_87 rfl (rfl) (by
            show ite _ _ _
            rw [if_pos hcd]
            refine ⟨rfl, ?_, ?_, ?_, hf, ?_⟩
            · rw [hsc 14 (by decide) (by decide)]; rfl
            · intro z z0 z1 z2 z3
              rw [hsc z z1 z2, pk_un z3, pk_un z0]
            · intro z z0 z1 z2 z3
              rw [har z z1 z2 z3, x_ua_ne z0]
            · rw [har 3 (by decide) (by decide) (by decide), x_ua_at])
      · have hk3 : k < 3 := x_nge (n := 3) rfl (by decide) (by omega) h63
        have hc1 : x_RC sc' lf tp ww hh := by
          obtain ⟨h8, h9, h10, h11, h12, b⟩ := hcR.1
          refine ⟨?_, ?_, ?_, ?_, ?_, b⟩
          · rw [hsc 8 (by decide) (by decide)]; exact h8
          · rw [hsc 9 (by decide) (by decide)]; exact h9
          · rw [hsc 10 (by decide) (by decide)]; exact h10
          · rw [hsc 11 (by decide) (by decide)]; exact h11
          · rw [hsc 12 (by decide) (by decide)]; exact h12
        refine xg_aload_n X (pc := 66) d_R_forward_66 rfl ?_
        refine xg_iload_n X (pc := 67) d_R_forward_67 rfl ?_
        refine xg_iload_n X (pc := 68) d_R_forward_68 rfl ?_
        refine xg_iconst X (pc := 69) (v := 0) d_R_forward_69 (by decide) ?_
        refine xg_cV3 X (pc := 70) d_R_forward_70 (c_R_columns hd hc1 hk3 hp9 hcR.2 (fwd := true) (Or.inl ⟨rfl, rfl⟩)) s_R_116 ⟨_, rfl⟩ rfl ⟨by decide, by decide⟩ (Nat.le_of_ble_eq_true rfl) ?_
        rintro _ sc1 ar1 ⟨rfl, hs1, ha1, hf1⟩
        have hc2 : x_RC sc1 lf tp ww hh := by
          obtain ⟨h8, h9, h10, h11, h12, b⟩ := hc1
          refine ⟨?_, ?_, ?_, ?_, ?_, b⟩
          · rw [hs1 8 (by decide) (by decide)]; exact h8
          · rw [hs1 9 (by decide) (by decide)]; exact h9
          · rw [hs1 10 (by decide) (by decide)]; exact h10
          · rw [hs1 11 (by decide) (by decide)]; exact h11
          · rw [hs1 12 (by decide) (by decide)]; exact h12
        refine xg_aload_n X (pc := 73) d_R_forward_73 rfl ?_
        refine xg_iload_n X (pc := 74) d_R_forward_74 rfl ?_
        refine xg_iload_n X (pc := 75) d_R_forward_75 rfl ?_
        refine xg_iconst X (pc := 76) (v := 0) d_R_forward_76 (by decide) ?_
        refine xg_cV3 X (pc := 77) d_R_forward_77 (c_R_rows hd hc2 hk3 hp9 hcR.2 (fwd := true) (Or.inl ⟨rfl, rfl⟩)) s_R_120 ⟨_, rfl⟩ rfl ⟨by decide, by decide⟩ (Nat.le_of_ble_eq_true rfl) ?_
        rintro _ sc2 ar2 ⟨rfl, hs2, ha2, hf2⟩
        refine xg_iinc X (pc := 80) d_R_forward_80 rfl (x_inc (by decide : Int32.ofInt (1) = 1) _) (by decide) rfl ?_
        refine xg_goto X (pc := 83) (tgt := 61) d_R_forward_83 rfl ?_
        refine xg_weak [some (.ref (ad 7)), some (.int kn), some (.int (nI (2 ^ p0))), some (.int (nI (k + 1)))] ⟨rfl, rfl, rfl, by rw [x_k1] <;> rfl, trivial⟩ ?_
        refine ih (k + 1) _ _ (by omega) (by omega) (fun z z1 z2 => (hs2 z z1 z2).trans ((hs1 z z1 z2).trans (hsc z z1 z2))) (fun z z1 z2 z3 => (ha2 z z1 z2 z3).trans ((ha1 z z1 z2 z3).trans (har z z1 z2 z3))) ?_
        rw [hf2, hf1, hf, hs1 17 (by decide) (by decide), hsc 17 (by decide) (by decide)]
        rfl
  refine xg_aload_n X (pc := 0) d_R_forward_0 rfl ?_
  refine xf_R_22 X (pc := 1) rfl d_R_forward_1 ?_
  refine xg_if_eq X (pc := 4) (tgt := 24) d_R_forward_4 rfl (fun h4 => ?_) (fun h4 => ?_)
  · refine xg_iconst X (pc := 24) (v := 0) d_R_forward_24 (by decide) ?_
    exact xg_iret X (pc := 25) d_R_forward_25 rfl (rfl) (by show ite _ _ _; rw [if_neg (by clear loop; (try clear hc); (try clear h00); (try clear hp3); (try clear hc0); (try clear hp0); first | (simp_all; done) | grind)]; exact ⟨rfl, rfl, rfl⟩)
  · refine xg_iload_n X (pc := 7) d_R_forward_7 rfl ?_
    refine xg_if_lt X (pc := 8) (tgt := 24) d_R_forward_8 rfl (fun h8 => ?_) (fun h8 => ?_)
    · refine xg_iconst X (pc := 24) (v := 0) d_R_forward_24 (by decide) ?_
      exact xg_iret X (pc := 25) d_R_forward_25 rfl (rfl) (by show ite _ _ _; rw [if_neg (by clear loop; (try clear hc); (try clear h00); (try clear hp3); (try clear hc0); (try clear hp0); first | (simp_all; done) | grind)]; exact ⟨rfl, rfl, rfl⟩)
    · refine xg_iload_n X (pc := 11) d_R_forward_11 rfl ?_
      refine xg_iconst X (pc := 12) (v := 2) d_R_forward_12 (by decide) ?_
      refine xg_icmp_gt X (pc := 13) (tgt := 24) d_R_forward_13 rfl (fun h13 => ?_) (fun h13 => ?_)
      · refine xg_iconst X (pc := 24) (v := 0) d_R_forward_24 (by decide) ?_
        exact xg_iret X (pc := 25) d_R_forward_25 rfl (rfl) (by show ite _ _ _; rw [if_neg (by clear loop; (try clear hc); (try clear h00); (try clear hp3); (try clear hc0); (try clear hp0); first | (simp_all; done) | grind)]; exact ⟨rfl, rfl, rfl⟩)
      · refine xg_aload_n X (pc := 16) d_R_forward_16 rfl ?_
        refine xf_R_42 X (pc := 17) rfl d_R_forward_17 ?_
        refine xg_iconst X (pc := 20) (v := 4) d_R_forward_20 (by decide) ?_
        refine xg_icmp_lt X (pc := 21) (tgt := 26) d_R_forward_21 rfl (fun h21 => ?_) (fun h21 => ?_)
        · refine xg_aload_n X (pc := 26) d_R_forward_26 rfl ?_
          refine xf_R_7 X (pc := 27) rfl d_R_forward_27 ?_
          refine xg_aload_n X (pc := 30) d_R_forward_30 rfl ?_
          refine xf_R_42 X (pc := 31) rfl d_R_forward_31 ?_
          refine xg_iload_n X (pc := 34) d_R_forward_34 rfl ?_
          refine xa_st8 X (pc := 35) d_R_forward_35 (by rw [hp0]; exact vp_in_nI (by have := hp3 h21; omega) (by decide)) ?_
          refine xg_aload_n X (pc := 36) d_R_forward_36 rfl ?_
          refine xg_dup X (pc := 37) d_R_forward_37 rfl ?_
          refine xf_R_42 X (pc := 38) rfl d_R_forward_38 ?_
          refine xg_iconst X (pc := 41) (v := 1) d_R_forward_41 (by decide) ?_
          refine xg_iadd X (pc := 42) d_R_forward_42 ?_
          refine xp_R_42 X (pc := 43) rfl d_R_forward_43 ?_
          refine xg_aload_n X (pc := 46) d_R_forward_46 rfl ?_
          refine xg_iload_n X (pc := 47) d_R_forward_47 rfl ?_
          refine xp_R_67 X (pc := 48) rfl d_R_forward_48 ?_
          refine xg_aload_n X (pc := 51) d_R_forward_51 rfl ?_
          refine xf_R_42 X (pc := 52) rfl d_R_forward_52 ?_
          refine xg_crS1 X (pc := 55) d_R_forward_55 (c_R_scale hd) s_R_113 ⟨by decide, by decide⟩ (Nat.le_of_ble_eq_true rfl) ?_
          refine xg_istore_n X (pc := 58) d_R_forward_58 (by decide) rfl ?_
          refine xg_iconst X (pc := 59) (v := 0) d_R_forward_59 (by decide) ?_
          refine xg_istore_n X (pc := 60) d_R_forward_60 (by decide) rfl ?_
          have hp9 := hp3 h21
          refine xg_weak [some (.ref (ad 7)), some (.int kn), some (.int (nI (2 ^ p0))), some (.int (nI 0))] ⟨rfl, rfl, by show some (Value.int (1 <<< ((sc 14 + 1 - 1) &&& 31))) = _; rw [x_scN (p := p0) (by omega) (by rw [hp0, x_k1, nI_pred])], rfl, trivial⟩ ?_
          exact xg_eq rfl (by rw [hp0, nI_clamp (by omega)]) rfl (loop ⟨h4, h8, h13, h21⟩ (hc0 h4) hp9 _ 0 (upd (upd sc 14 (sc 14 + 1)) 17 kn) (x_ua ar 3 (upd (ar 3) p0 kn)) (Nat.lt_succ_self _) (by omega) (fun _ _ _ => rfl) (fun _ _ _ _ => rfl) rfl)
        · refine xg_iconst X (pc := 24) (v := 0) d_R_forward_24 (by decide) ?_
          exact xg_iret X (pc := 25) d_R_forward_25 rfl (rfl) (by show ite _ _ _; rw [if_neg (by clear loop; (try clear hc); (try clear h00); (try clear hp3); (try clear hc0); (try clear hp0); first | (simp_all; done) | grind)]; exact ⟨rfl, rfl, rfl⟩)
set_option maxRecDepth 100000 in
set_option maxHeartbeats 800000 in
theorem c_R_back (hd : x_dis ad) {lf tp ww hh p0 : Nat} (hc0 : ¬ sc 14 = 0 → (x_RC sc lf tp ww hh ∧ 0 < ww ∧ 0 < hh) ∧ sc 14 - 1 = nI p0 ∧ p0 ≤ 3) : x_Con l M_R_back 7 157 ad D cI [.ref (ad 7)] sc ar (fun r sc2 ar2 => if ¬ sc 14 = 0 then (r = some (.int 1) ∧ sc2 14 = sc 14 - 1 ∧ (∀ z, z ≠ 14 → z ≠ 15 → z ≠ 16 → z ≠ 17 → sc2 z = sc z) ∧ (∀ z, z ≠ 4 → z ≠ 5 → z ≠ 6 → ar2 z = ar z) ∧ ar2 4 = x_BK (ar 3 p0) p0 lf tp ww hh (ar 4) 3) else x_E (some (.int 0)) sc ar r sc2 ar2) := by
  refine x_intro hd [some (.ref (ad 7)), none, none] (by decide) (Nat.le_of_ble_eq_true rfl) rfl ?_
  intro p e s m args below meth c X
  have loop : ¬ sc 14 = 0 → (x_RC sc lf tp ww hh ∧ 0 < ww ∧ 0 < hh) → p0 ≤ 3 → ∀ (n k : Nat) (sc' : Nat → Int32) (ar' : Nat → Nat → Int32), 3 - k < n → k ≤ 3 → (∀ z, z ≠ 15 → z ≠ 16 → sc' z = (upd sc 17 (ar 3 p0)) z) → (∀ z, z ≠ 4 → z ≠ 5 → z ≠ 6 → ar' z = ar z) → ar' 4 = x_BK (ar 3 p0) p0 lf tp ww hh (ar 4) k → x_G p l e (x_rm 7 157) s m args below meth c M_R_back ad D cI (x_A ad) 0 0 (x_Q below args s ad D cI (fun r sc2 ar2 => if ¬ sc 14 = 0 then (r = some (.int 1) ∧ sc2 14 = sc 14 - 1 ∧ (∀ z, z ≠ 14 → z ≠ 15 → z ≠ 16 → z ≠ 17 → sc2 z = sc z) ∧ (∀ z, z ≠ 4 → z ≠ 5 → z ≠ 6 → ar2 z = ar z) ∧ ar2 4 = x_BK (ar 3 p0) p0 lf tp ww hh (ar 4) 3) else x_E (some (.int 0)) sc ar r sc2 ar2)) 34 [some (.ref (ad 7)), some (.int (nI (2 ^ p0))), some (.int (nI k))] [] sc' ar' := by
    intro hcd hcR hp9 n
    induction n with
    | zero => intro k sc' ar' h; exact absurd h (Nat.not_lt_zero _)
    | succ n ih =>
      intro k sc' ar' hn hk hsc har hf
      refine xg_iload_n X (pc := 34) d_R_back_34 rfl ?_
      refine xg_iconst X (pc := 35) (v := 3) d_R_back_35 (by decide) ?_
      refine xg_icmp_ge X (pc := 36) (tgt := 59) d_R_back_36 rfl (fun h36 => ?_) (fun h36 => ?_)
      · have hk2 : k = 3 := Nat.le_antisymm hk (x_ge (n := 3) rfl (by decide) (by omega) h36)
        subst hk2
        refine xg_aload_n X (pc := 59) d_R_back_59 rfl ?_
        refine xg_dup X (pc := 60) d_R_back_60 rfl ?_
        refine xf_R_42 X (pc := 61) rfl d_R_back_61 ?_
        refine xg_iconst X (pc := 64) (v := 1) d_R_back_64 (by decide) ?_
        refine xg_isub X (pc := 65) d_R_back_65 ?_
        refine xp_R_42 X (pc := 66) rfl d_R_back_66 ?_
        refine xg_iconst X (pc := 69) (v := 1) d_R_back_69 (by decide) ?_
        exact xg_iret X (pc := 70) d_R_back_70 rfl (rfl) (by
            show ite _ _ _
            rw [if_pos hcd]
            refine ⟨rfl, ?_, ?_, har, hf⟩
            · show sc' 14 - 1 = _
              rw [hsc 14 (by decide) (by decide)]; rfl
            · intro z z0 z1 z2 z3
              rw [pk_un z0, hsc z z1 z2, pk_un z3])
      · have hk3 : k < 3 := x_nge (n := 3) rfl (by decide) (by omega) h36
        have hc1 : x_RC sc' lf tp ww hh := by
          obtain ⟨h8, h9, h10, h11, h12, b⟩ := hcR.1
          refine ⟨?_, ?_, ?_, ?_, ?_, b⟩
          · rw [hsc 8 (by decide) (by decide)]; exact h8
          · rw [hsc 9 (by decide) (by decide)]; exact h9
          · rw [hsc 10 (by decide) (by decide)]; exact h10
          · rw [hsc 11 (by decide) (by decide)]; exact h11
          · rw [hsc 12 (by decide) (by decide)]; exact h12
        refine xg_aload_n X (pc := 39) d_R_back_39 rfl ?_
        refine xg_iload_n X (pc := 40) d_R_back_40 rfl ?_
        refine xg_iload_n X (pc := 41) d_R_back_41 rfl ?_
        refine xg_iconst X (pc := 42) (v := 1) d_R_back_42 (by decide) ?_
        refine xg_cV3 X (pc := 43) d_R_back_43 (c_R_rows hd hc1 hk3 hp9 hcR.2 (fwd := false) (Or.inr ⟨by decide, rfl⟩)) s_R_120 ⟨_, rfl⟩ rfl ⟨by decide, by decide⟩ (Nat.le_of_ble_eq_true rfl) ?_
        rintro _ sc1 ar1 ⟨rfl, hs1, ha1, hf1⟩
        have hc2 : x_RC sc1 lf tp ww hh := by
          obtain ⟨h8, h9, h10, h11, h12, b⟩ := hc1
          refine ⟨?_, ?_, ?_, ?_, ?_, b⟩
          · rw [hs1 8 (by decide) (by decide)]; exact h8
          · rw [hs1 9 (by decide) (by decide)]; exact h9
          · rw [hs1 10 (by decide) (by decide)]; exact h10
          · rw [hs1 11 (by decide) (by decide)]; exact h11
          · rw [hs1 12 (by decide) (by decide)]; exact h12
        refine xg_aload_n X (pc := 46) d_R_back_46 rfl ?_
        refine xg_iload_n X (pc := 47) d_R_back_47 rfl ?_
        refine xg_iload_n X (pc := 48) d_R_back_48 rfl ?_
        refine xg_iconst X (pc := 49) (v := 1) d_R_back_49 (by decide) ?_
        refine xg_cV3 X (pc := 50) d_R_back_50 (c_R_columns hd hc2 hk3 hp9 hcR.2 (fwd := false) (Or.inr ⟨by decide, rfl⟩)) s_R_116 ⟨_, rfl⟩ rfl ⟨by decide, by decide⟩ (Nat.le_of_ble_eq_true rfl) ?_
        rintro _ sc2 ar2 ⟨rfl, hs2, ha2, hf2⟩
        refine xg_iinc X (pc := 53) d_R_back_53 rfl (x_inc (by decide : Int32.ofInt (1) = 1) _) (by decide) rfl ?_
        refine xg_goto X (pc := 56) (tgt := 34) d_R_back_56 rfl ?_
        refine xg_weak [some (.ref (ad 7)), some (.int (nI (2 ^ p0))), some (.int (nI (k + 1)))] ⟨rfl, rfl, by rw [x_k1] <;> rfl, trivial⟩ ?_
        refine ih (k + 1) _ _ (by omega) (by omega) (fun z z1 z2 => (hs2 z z1 z2).trans ((hs1 z z1 z2).trans (hsc z z1 z2))) (fun z z1 z2 z3 => (ha2 z z1 z2 z3).trans ((ha1 z z1 z2 z3).trans (har z z1 z2 z3))) ?_
        rw [hf2, hf1, hf, hs1 17 (by decide) (by decide), hsc 17 (by decide) (by decide)]
        rfl
  refine xg_aload_n X (pc := 0) d_R_back_0 rfl ?_
  refine xf_R_42 X (pc := 1) rfl d_R_back_1 ?_
  refine xg_if_ne X (pc := 4) (tgt := 9) d_R_back_4 rfl (fun h4 => ?_) (fun h4 => ?_)
  · refine xg_aload_n X (pc := 9) d_R_back_9 rfl ?_
    refine xg_aload_n X (pc := 10) d_R_back_10 rfl ?_
    refine xf_R_7 X (pc := 11) rfl d_R_back_11 ?_
    refine xg_aload_n X (pc := 14) d_R_back_14 rfl ?_
    refine xf_R_42 X (pc := 15) rfl d_R_back_15 ?_
    refine xg_iconst X (pc := 18) (v := 1) d_R_back_18 (by decide) ?_
    refine xg_isub X (pc := 19) d_R_back_19 ?_
    refine xa_ld8 X (pc := 20) d_R_back_20 (by obtain ⟨-, h9, hp9⟩ := hc0 h4; rw [h9]; exact vp_in_nI (by omega) (by decide)) ?_
    refine xp_R_67 X (pc := 21) rfl d_R_back_21 ?_
    refine xg_aload_n X (pc := 24) d_R_back_24 rfl ?_
    refine xf_R_42 X (pc := 25) rfl d_R_back_25 ?_
    refine xg_crS1 X (pc := 28) d_R_back_28 (c_R_scale hd) s_R_113 ⟨by decide, by decide⟩ (Nat.le_of_ble_eq_true rfl) ?_
    refine xg_istore_n X (pc := 31) d_R_back_31 (by decide) rfl ?_
    refine xg_iconst X (pc := 32) (v := 0) d_R_back_32 (by decide) ?_
    refine xg_istore_n X (pc := 33) d_R_back_33 (by decide) rfl ?_
    obtain ⟨hcR, h9, hp9⟩ := hc0 h4
    refine xg_weak [some (.ref (ad 7)), some (.int (nI (2 ^ p0))), some (.int (nI 0))] ⟨rfl, by show some (Value.int (1 <<< ((sc 14 - 1) &&& 31))) = _; rw [x_scN (by omega) h9], rfl, trivial⟩ ?_
    exact xg_eq (by show upd sc 17 (ar 3 (sc 14 - 1).toNatClampNeg) = _; rw [h9, nI_clamp (by omega)]) rfl rfl (loop h4 hcR hp9 _ 0 (upd sc 17 (ar 3 p0)) ar (Nat.lt_succ_self _) (by omega) (fun _ _ _ => rfl) (fun _ _ _ _ => rfl) rfl)
  · refine xg_iconst X (pc := 7) (v := 0) d_R_back_7 (by decide) ?_
    exact xg_iret X (pc := 8) d_R_back_8 rfl (rfl) (by show ite _ _ _; rw [if_neg (by clear loop; (try clear hc); (try clear h00); (try clear hp3); (try clear hc0); (try clear hp0); first | (simp_all; done) | grind)]; exact ⟨rfl, rfl, rfl⟩)
end C15
