theorem x_wl_in {sc : Nat → Int32} {a m : Int} (ha : sc 15 = zI a) (h1 : a ≤ m) (h2 : m ≤ a + 15) : vp_in (zI m - sc 15) 16 := by
  rw [ha, zI_sub]
  exact zI_in (by omega) (by omega) (by decide)
theorem x_wl_cl {sc : Nat → Int32} {a m : Int} (ha : sc 15 = zI a) (h1 : a ≤ m) (h2 : m ≤ a + 15) : (zI m - sc 15).toNatClampNeg = (m - a).toNat := by
  rw [ha, zI_sub]
  exact zI_clamp (by omega) (by omega)
theorem x_pdP {k : Int32} {v : Nat → Int32} {a b n : Int} : x_pd k (x_vl v a b (n - 1)) (x_vl v a b (n + 1)) (x_vl v a b (n - 3)) (x_vl v a b (n + 3)) = x_P k v a b n := by
  unfold x_P x_pd
  by_cases h0 : k = 0
  · rw [if_pos h0, if_pos h0]
  · rw [if_neg h0, if_neg h0]
    by_cases h1 : k = 1
    · rw [if_pos h1, if_pos h1]
    · rw [if_neg h1, if_neg h1, Int32.sub_sub]
theorem x_upU {k : Int32} {v : Nat → Int32} {a b n : Int} : x_up k (x_vl v a b (n - 1)) (x_vl v a b (n + 1)) = x_U k v a b n := rfl
def x_hi (k : Int32) (v : Nat → Int32) (a b m : Int) : Int32 := x_vl v a b (x_in a b m) - x_P k v a b (x_in a b m)
def x_lo (k : Int32) (v : Nat → Int32) (a b m : Int) : Int32 := x_vl v a b (x_in a b m) - x_U k v a b (x_in a b m)
theorem x_in_id {a b m : Int} (h1 : a ≤ m) (h2 : m ≤ b) : x_in a b m = m := x_rn_in h1 h2 3
theorem x_vl_id {v : Nat → Int32} {a b m : Int} (h1 : a ≤ m) (h2 : m ≤ b) : x_vl v a b m = v (m - a).toNat := by
  unfold x_vl
  rw [x_in_id h1 h2]
theorem x_f1_vl {k : Int32} {v : Nat → Int32} {a b m : Int} (h : a < b) (h1 : a - 3 ≤ m) (h2 : m ≤ b + 3) (hq : m % 2 = 1) : x_vl (x_f1 k v a b) a b m = x_hi k v a b m := by
  have e1 := x_in_ok h h1 h2
  have e2 := x_in_par a b m
  have e3 : a + (((x_in a b m - a).toNat : Nat) : Int) = x_in a b m := by omega
  unfold x_hi
  rw [x_vl_id e1.1 e1.2]
  unfold x_f1 x_vl x_lp
  rw [if_pos (by omega), e3]
theorem x_g1_vl {k : Int32} {v : Nat → Int32} {a b m : Int} (h : a < b) (h1 : a - 3 ≤ m) (h2 : m ≤ b + 3) (hq : m % 2 = 0) : x_vl (x_g1 k v a b) a b m = x_lo k v a b m := by
  have e1 := x_in_ok h h1 h2
  have e2 := x_in_par a b m
  have e3 : a + (((x_in a b m - a).toNat : Nat) : Int) = x_in a b m := by omega
  unfold x_lo
  rw [x_vl_id e1.1 e1.2]
  unfold x_g1 x_vl x_lp
  rw [if_pos (by omega), e3]
theorem x_f2_o {k : Int32} {v : Nat → Int32} {a b n : Int} (h : a < b) (h1 : a ≤ n) (h2 : n ≤ b) (hq : n % 2 = 1) : x_f2 k v a b (n - a).toNat = x_hi k v a b n := by
  have e3 : a + (((n - a).toNat : Nat) : Int) = n := by omega
  unfold x_f2 x_lp
  rw [if_neg (by omega), ← x_f1_vl h (by omega) (by omega) hq, x_vl_id h1 h2]
theorem x_f2_e {k : Int32} {v : Nat → Int32} {a b n : Int} (h : a < b) (h1 : a ≤ n) (h2 : n ≤ b) (hq : n % 2 = 0) : x_f2 k v a b (n - a).toNat = x_vl v a b n + x_up k (x_hi k v a b (n - 1)) (x_hi k v a b (n + 1)) := by
  have e3 : a + (((n - a).toNat : Nat) : Int) = n := by omega
  have e4 : x_f1 k v a b (n - a).toNat = v (n - a).toNat := by
    unfold x_f1 x_lp
    rw [if_neg (by omega)]
  unfold x_f2 x_lp
  rw [if_pos (by omega), e3, e4, x_vl_id h1 h2, ← x_f1_vl h (by omega) (by omega) (by omega), ← x_f1_vl h (by omega) (by omega) (by omega), x_upU]
theorem x_g2_e {k : Int32} {v : Nat → Int32} {a b n : Int} (h : a < b) (h1 : a ≤ n) (h2 : n ≤ b) (hq : n % 2 = 0) : x_g2 k v a b (n - a).toNat = x_lo k v a b n := by
  have e3 : a + (((n - a).toNat : Nat) : Int) = n := by omega
  unfold x_g2 x_lp
  rw [if_neg (by omega), ← x_g1_vl h (by omega) (by omega) hq, x_vl_id h1 h2]
theorem x_g2_o {k : Int32} {v : Nat → Int32} {a b n : Int} (h : a < b) (h1 : a ≤ n) (h2 : n ≤ b) (hq : n % 2 = 1) : x_g2 k v a b (n - a).toNat = x_vl v a b n + x_pd k (x_lo k v a b (n - 1)) (x_lo k v a b (n + 1)) (x_lo k v a b (n - 3)) (x_lo k v a b (n + 3)) := by
  have e3 : a + (((n - a).toNat : Nat) : Int) = n := by omega
  have e4 : x_g1 k v a b (n - a).toNat = v (n - a).toNat := by
    unfold x_g1 x_lp
    rw [if_neg (by omega)]
  unfold x_g2 x_lp
  rw [if_pos (by omega), e3, e4, x_vl_id h1 h2, ← x_g1_vl h (by omega) (by omega) (by omega), ← x_g1_vl h (by omega) (by omega) (by omega), ← x_g1_vl h (by omega) (by omega) (by omega), ← x_g1_vl h (by omega) (by omega) (by omega), x_pdP]
theorem x_rodd {n : Int} (h0 : 0 ≤ n) (h1 : n < 1000000) : ¬ zI n - zI n / 2 * 2 = 0 ↔ n % 2 = 1 := by
  have e : zI n = nI n.toNat := by rw [← zI_nI, Int.toNat_of_nonneg h0]
  have e2 : zI n - zI n / 2 * 2 = nI (n.toNat % 2) := by
    rw [e]; exact pk_rem (d := 2) (by omega) (by decide) (by decide)
  rw [e2, show (0 : Int32) = nI 0 from rfl, nI_eq (by omega) (by decide)]
  omega
section C9
variable {l : Launch} {ad : Nat → Nat} {D : va_G} {cI : ClassId} {sc : Nat → Int32} {ar : Nat → Nat → Int32}
set_option maxRecDepth 100000 in
set_option maxHeartbeats 4000000 in
theorem c_R_inside (hd : x_dis ad) {a b : Int} (ha : sc 15 = zI a) (hb : sc 16 = zI b) (h0 : 0 ≤ a) (h1 : a ≤ b) (h2 : b ≤ a + 15) (h3 : b ≤ 2000) {x0 : Int32} {m0 : Int} (hx : x0 = zI m0) (h4 : a - 3 ≤ m0) (h5 : m0 ≤ b + 3) (h6 : a < b ∨ (a ≤ m0 ∧ m0 ≤ b)) : x_Con l M_R_inside 0 0 ad D cI [.ref (ad 7), .int x0] sc ar (x_E (some (.int (zI (x_in a b m0)))) sc ar) := by
  subst hx
  refine x_intro hd [some (.ref (ad 7)), some (.int (zI m0)), none] (by decide) (Nat.le_of_ble_eq_true rfl) rfl ?_
  intro p e s m args below meth c X
  have hok : a ≤ x_in a b m0 ∧ x_in a b m0 ≤ b := by
    rcases h6 with h6 | h6
    · exact x_in_ok h6 h4 h5
    · rw [x_in_id h6.1 h6.2]; exact h6
  have loop : ∀ (n : Nat) (mm : Int), a - 20 ≤ mm → mm ≤ b + 20 → x_rn a b n mm = x_in a b m0 → x_G p l e (x_rm 0 0) s m args below meth c M_R_inside ad D cI (x_A ad) 0 0 (x_Q below args s ad D cI (x_E (some (.int (zI (x_in a b m0)))) sc ar)) 2 [some (.ref (ad 7)), some (.int (zI m0)), some (.int (zI mm))] [] sc ar := by
    intro n
    induction n with
    | zero =>
      intro mm hm1 hm2 he
      refine xg_iload_n X (pc := 2) d_R_inside_2 rfl ?_
      refine xg_aload_n X (pc := 3) d_R_inside_3 rfl ?_
      refine xf_R_57 X (pc := 4) rfl d_R_inside_4 ?_
      refine xg_icmp_lt X (pc := 7) (tgt := 18) d_R_inside_7 rfl (fun h7 => ?_) (fun h7 => ?_)
      · rw [ha, zI_lt mm a] at h7
        exfalso
        have hm : a ≤ mm ∧ mm ≤ b := by have := hok; rw [← he] at this; exact this
        omega
      rw [ha, zI_lt mm a] at h7
      refine xg_iload_n X (pc := 10) d_R_inside_10 rfl ?_
      refine xg_aload_n X (pc := 11) d_R_inside_11 rfl ?_
      refine xf_R_60 X (pc := 12) rfl d_R_inside_12 ?_
      refine xg_icmp_le X (pc := 15) (tgt := 49) d_R_inside_15 rfl (fun h15 => ?_) (fun h15 => ?_)
      · rw [hb, zI_le mm b] at h15
        have e0 : x_in a b m0 = mm := by rw [← he]; exact rfl
        refine xg_iload_n X (pc := 49) d_R_inside_49 rfl ?_
        exact xg_iret X (pc := 50) d_R_inside_50 rfl (rfl) (⟨by rw [e0], rfl, rfl⟩)
      rw [hb, zI_le mm b] at h15
      exfalso
      have hm : a ≤ mm ∧ mm ≤ b := by have := hok; rw [← he] at this; exact this
      omega
    | succ n ih =>
      intro mm hm1 hm2 he
      refine xg_iload_n X (pc := 2) d_R_inside_2 rfl ?_
      refine xg_aload_n X (pc := 3) d_R_inside_3 rfl ?_
      refine xf_R_57 X (pc := 4) rfl d_R_inside_4 ?_
      refine xg_icmp_lt X (pc := 7) (tgt := 18) d_R_inside_7 rfl (fun h7 => ?_) (fun h7 => ?_)
      · rw [ha, zI_lt mm a] at h7
        refine xg_iload_n X (pc := 18) d_R_inside_18 rfl ?_
        refine xg_aload_n X (pc := 19) d_R_inside_19 rfl ?_
        refine xf_R_57 X (pc := 20) rfl d_R_inside_20 ?_
        refine xg_icmp_ge X (pc := 23) (tgt := 37) d_R_inside_23 rfl (fun h23 => ?_) (fun h23 => ?_)
        · rw [ha, zI_le a mm] at h23
          refine xg_iconst X (pc := 37) (v := 2) d_R_inside_37 (by decide) ?_
          refine xg_aload_n X (pc := 38) d_R_inside_38 rfl ?_
          refine xf_R_60 X (pc := 39) rfl d_R_inside_39 ?_
          refine xg_imul X (pc := 42) d_R_inside_42 ?_
          refine xg_iload_n X (pc := 43) d_R_inside_43 rfl ?_
          refine xg_isub X (pc := 44) d_R_inside_44 ?_
          refine xg_istore_n X (pc := 45) d_R_inside_45 (by decide) rfl ?_
          refine xg_goto X (pc := 46) (tgt := 2) d_R_inside_46 rfl ?_
          refine xg_weak [some (.ref (ad 7)), some (.int (zI m0)), some (.int (zI (x_r1 a b mm)))] ⟨rfl, rfl, by rw [x_refl hb]; unfold x_r1; rw [if_neg (by omega), if_pos (by omega)], trivial⟩ ?_
          exact ih (x_r1 a b mm) (by unfold x_r1; repeat' split; all_goals omega) (by unfold x_r1; repeat' split; all_goals omega) he
        rw [ha, zI_le a mm] at h23
        refine xg_iconst X (pc := 26) (v := 2) d_R_inside_26 (by decide) ?_
        refine xg_aload_n X (pc := 27) d_R_inside_27 rfl ?_
        refine xf_R_57 X (pc := 28) rfl d_R_inside_28 ?_
        refine xg_imul X (pc := 31) d_R_inside_31 ?_
        refine xg_iload_n X (pc := 32) d_R_inside_32 rfl ?_
        refine xg_isub X (pc := 33) d_R_inside_33 ?_
        refine xg_goto X (pc := 34) (tgt := 45) d_R_inside_34 rfl ?_
        refine xg_istore_n X (pc := 45) d_R_inside_45 (by decide) rfl ?_
        refine xg_goto X (pc := 46) (tgt := 2) d_R_inside_46 rfl ?_
        refine xg_weak [some (.ref (ad 7)), some (.int (zI m0)), some (.int (zI (x_r1 a b mm)))] ⟨rfl, rfl, by rw [x_refl ha]; unfold x_r1; rw [if_pos (by omega)], trivial⟩ ?_
        exact ih (x_r1 a b mm) (by unfold x_r1; repeat' split; all_goals omega) (by unfold x_r1; repeat' split; all_goals omega) he
      rw [ha, zI_lt mm a] at h7
      refine xg_iload_n X (pc := 10) d_R_inside_10 rfl ?_
      refine xg_aload_n X (pc := 11) d_R_inside_11 rfl ?_
      refine xf_R_60 X (pc := 12) rfl d_R_inside_12 ?_
      refine xg_icmp_le X (pc := 15) (tgt := 49) d_R_inside_15 rfl (fun h15 => ?_) (fun h15 => ?_)
      · rw [hb, zI_le mm b] at h15
        have e0 : x_in a b m0 = mm := by rw [← he]; exact x_rn_in (by omega) (by omega) _
        refine xg_iload_n X (pc := 49) d_R_inside_49 rfl ?_
        exact xg_iret X (pc := 50) d_R_inside_50 rfl (rfl) (⟨by rw [e0], rfl, rfl⟩)
      rw [hb, zI_le mm b] at h15
      refine xg_iload_n X (pc := 18) d_R_inside_18 rfl ?_
      refine xg_aload_n X (pc := 19) d_R_inside_19 rfl ?_
      refine xf_R_57 X (pc := 20) rfl d_R_inside_20 ?_
      refine xg_icmp_ge X (pc := 23) (tgt := 37) d_R_inside_23 rfl (fun h23 => ?_) (fun h23 => ?_)
      · rw [ha, zI_le a mm] at h23
        refine xg_iconst X (pc := 37) (v := 2) d_R_inside_37 (by decide) ?_
        refine xg_aload_n X (pc := 38) d_R_inside_38 rfl ?_
        refine xf_R_60 X (pc := 39) rfl d_R_inside_39 ?_
        refine xg_imul X (pc := 42) d_R_inside_42 ?_
        refine xg_iload_n X (pc := 43) d_R_inside_43 rfl ?_
        refine xg_isub X (pc := 44) d_R_inside_44 ?_
        refine xg_istore_n X (pc := 45) d_R_inside_45 (by decide) rfl ?_
        refine xg_goto X (pc := 46) (tgt := 2) d_R_inside_46 rfl ?_
        refine xg_weak [some (.ref (ad 7)), some (.int (zI m0)), some (.int (zI (x_r1 a b mm)))] ⟨rfl, rfl, by rw [x_refl hb]; unfold x_r1; rw [if_neg (by omega), if_pos (by omega)], trivial⟩ ?_
        exact ih (x_r1 a b mm) (by unfold x_r1; repeat' split; all_goals omega) (by unfold x_r1; repeat' split; all_goals omega) he
      rw [ha, zI_le a mm] at h23
      refine xg_iconst X (pc := 26) (v := 2) d_R_inside_26 (by decide) ?_
      refine xg_aload_n X (pc := 27) d_R_inside_27 rfl ?_
      refine xf_R_57 X (pc := 28) rfl d_R_inside_28 ?_
      refine xg_imul X (pc := 31) d_R_inside_31 ?_
      refine xg_iload_n X (pc := 32) d_R_inside_32 rfl ?_
      refine xg_isub X (pc := 33) d_R_inside_33 ?_
      refine xg_goto X (pc := 34) (tgt := 45) d_R_inside_34 rfl ?_
      refine xg_istore_n X (pc := 45) d_R_inside_45 (by decide) rfl ?_
      refine xg_goto X (pc := 46) (tgt := 2) d_R_inside_46 rfl ?_
      refine xg_weak [some (.ref (ad 7)), some (.int (zI m0)), some (.int (zI (x_r1 a b mm)))] ⟨rfl, rfl, by rw [x_refl ha]; unfold x_r1; rw [if_pos (by omega)], trivial⟩ ?_
      exact ih (x_r1 a b mm) (by unfold x_r1; repeat' split; all_goals omega) (by unfold x_r1; repeat' split; all_goals omega) he
  refine xg_iload_n X (pc := 0) d_R_inside_0 rfl ?_
  refine xg_istore_n X (pc := 1) d_R_inside_1 (by decide) rfl ?_
  refine xg_weak [some (.ref (ad 7)), some (.int (zI m0)), some (.int (zI m0))] ⟨rfl, rfl, rfl, trivial⟩ ?_
  exact loop 3 m0 (by omega) (by omega) rfl
set_option maxRecDepth 100000 in
set_option maxHeartbeats 4000000 in
theorem c_R_old (hd : x_dis ad) {a b : Int} (ha : sc 15 = zI a) (hb : sc 16 = zI b) (h0 : 0 ≤ a) (h1 : a ≤ b) (h2 : b ≤ a + 15) (h3 : b ≤ 2000) {x0 : Int32} {m0 : Int} (hx : x0 = zI m0) (h4 : a - 3 ≤ m0) (h5 : m0 ≤ b + 3) (h6 : a < b ∨ (a ≤ m0 ∧ m0 ≤ b)) : x_Con l M_R_old 1 22 ad D cI [.ref (ad 7), .int x0] sc ar (x_E (some (.int (x_vl (ar 5) a b m0))) sc ar) := by
  subst hx
  have hok : a ≤ x_in a b m0 ∧ x_in a b m0 ≤ b := by
    rcases h6 with h6 | h6
    · exact x_in_ok h6 h4 h5
    · rw [x_in_id h6.1 h6.2]; exact h6
  refine x_intro hd [some (.ref (ad 7)), some (.int (zI m0))] (by decide) (Nat.le_of_ble_eq_true rfl) rfl ?_
  intro p e s m args below meth c X
  refine xg_aload_n X (pc := 0) d_R_old_0 rfl ?_
  refine xf_R_16 X (pc := 1) rfl d_R_old_1 ?_
  refine xg_aload_n X (pc := 4) d_R_old_4 rfl ?_
  refine xg_iload_n X (pc := 5) d_R_old_5 rfl ?_
  refine xg_crV1 X (pc := 6) d_R_old_6 (c_R_inside hd ha hb h0 h1 h2 h3 rfl h4 h5 h6) s_R_63 ⟨_, rfl⟩ rfl ⟨by decide, by decide⟩ (Nat.le_of_ble_eq_true rfl) ?_
  refine xg_aload_n X (pc := 9) d_R_old_9 rfl ?_
  refine xf_R_57 X (pc := 10) rfl d_R_old_10 ?_
  refine xg_isub X (pc := 13) d_R_old_13 ?_
  refine xa_ld10 X (pc := 14) d_R_old_14 (x_wl_in ha (by omega) (by omega)) ?_
  exact xg_iret X (pc := 15) d_R_old_15 rfl (rfl) (⟨by rw [x_wl_cl ha (by omega) (by omega)]; rfl, rfl, rfl⟩)
set_option maxRecDepth 100000 in
set_option maxHeartbeats 4000000 in
theorem c_R_high (hd : x_dis ad) {a b : Int} (ha : sc 15 = zI a) (hb : sc 16 = zI b) (h0 : 0 ≤ a) (h1 : a < b) (h2 : b ≤ a + 15) (h3 : b ≤ 2000) {x0 : Int32} {m0 : Int} (hx : x0 = zI m0) (h4 : a - 3 ≤ m0) (h5 : m0 ≤ b + 3) : x_Con l M_R_high 2 43 ad D cI [.ref (ad 7), .int x0] sc ar (x_E (some (.int (x_hi (sc 17) (ar 5) a b m0))) sc ar) := by
  subst hx
  have hw := x_in_ok h1 h4 h5
  refine x_intro hd [some (.ref (ad 7)), some (.int (zI m0)), none] (by decide) (Nat.le_of_ble_eq_true rfl) rfl ?_
  intro p e s m args below meth c X
  refine xg_aload_n X (pc := 0) d_R_high_0 rfl ?_
  refine xg_iload_n X (pc := 1) d_R_high_1 rfl ?_
  refine xg_crV1 X (pc := 2) d_R_high_2 (c_R_inside hd ha hb h0 (by omega) h2 h3 rfl h4 h5 (Or.inl h1)) s_R_63 ⟨_, rfl⟩ rfl ⟨by decide, by decide⟩ (Nat.le_of_ble_eq_true rfl) ?_
  refine xg_istore_n X (pc := 5) d_R_high_5 (by decide) rfl ?_
  refine xg_aload_n X (pc := 6) d_R_high_6 rfl ?_
  refine xg_iload_n X (pc := 7) d_R_high_7 rfl ?_
  refine xg_crV1 X (pc := 8) d_R_high_8 (c_R_old hd ha hb h0 (by omega) h2 h3 rfl (by omega) (by omega) (Or.inl h1)) s_R_70 ⟨_, rfl⟩ rfl ⟨by decide, by decide⟩ (Nat.le_of_ble_eq_true rfl) ?_
  refine xg_aload_n X (pc := 11) d_R_high_11 rfl ?_
  refine xg_aload_n X (pc := 12) d_R_high_12 rfl ?_
  refine xg_iload_n X (pc := 13) d_R_high_13 rfl ?_
  refine xg_iconst X (pc := 14) (v := 1) d_R_high_14 (by decide) ?_
  refine xg_isub X (pc := 15) d_R_high_15 ?_
  refine xg_crV1 X (pc := 16) d_R_high_16 (c_R_old hd ha hb h0 (by omega) h2 h3 (z_s1 _) (by omega) (by omega) (Or.inl h1)) s_R_70 ⟨_, rfl⟩ rfl ⟨by decide, by decide⟩ (Nat.le_of_ble_eq_true rfl) ?_
  refine xg_aload_n X (pc := 19) d_R_high_19 rfl ?_
  refine xg_iload_n X (pc := 20) d_R_high_20 rfl ?_
  refine xg_iconst X (pc := 21) (v := 1) d_R_high_21 (by decide) ?_
  refine xg_iadd X (pc := 22) d_R_high_22 ?_
  refine xg_crV1 X (pc := 23) d_R_high_23 (c_R_old hd ha hb h0 (by omega) h2 h3 (z_a1 _) (by omega) (by omega) (Or.inl h1)) s_R_70 ⟨_, rfl⟩ rfl ⟨by decide, by decide⟩ (Nat.le_of_ble_eq_true rfl) ?_
  refine xg_aload_n X (pc := 26) d_R_high_26 rfl ?_
  refine xg_iload_n X (pc := 27) d_R_high_27 rfl ?_
  refine xg_iconst X (pc := 28) (v := 3) d_R_high_28 (by decide) ?_
  refine xg_isub X (pc := 29) d_R_high_29 ?_
  refine xg_crV1 X (pc := 30) d_R_high_30 (c_R_old hd ha hb h0 (by omega) h2 h3 (z_s3 _) (by omega) (by omega) (Or.inl h1)) s_R_70 ⟨_, rfl⟩ rfl ⟨by decide, by decide⟩ (Nat.le_of_ble_eq_true rfl) ?_
  refine xg_aload_n X (pc := 33) d_R_high_33 rfl ?_
  refine xg_iload_n X (pc := 34) d_R_high_34 rfl ?_
  refine xg_iconst X (pc := 35) (v := 3) d_R_high_35 (by decide) ?_
  refine xg_iadd X (pc := 36) d_R_high_36 ?_
  refine xg_crV1 X (pc := 37) d_R_high_37 (c_R_old hd ha hb h0 (by omega) h2 h3 (z_a3 _) (by omega) (by omega) (Or.inl h1)) s_R_70 ⟨_, rfl⟩ rfl ⟨by decide, by decide⟩ (Nat.le_of_ble_eq_true rfl) ?_
  refine xg_crV4 X (pc := 40) d_R_high_40 (c_R_predicted hd) s_R_73 ⟨_, rfl⟩ rfl ⟨by decide, by decide⟩ (Nat.le_of_ble_eq_true rfl) ?_
  refine xg_isub X (pc := 43) d_R_high_43 ?_
  exact xg_iret X (pc := 44) d_R_high_44 rfl (rfl) (⟨by rw [x_pdP]; rfl, rfl, rfl⟩)
set_option maxRecDepth 100000 in
set_option maxHeartbeats 4000000 in
theorem c_R_low (hd : x_dis ad) {a b : Int} (ha : sc 15 = zI a) (hb : sc 16 = zI b) (h0 : 0 ≤ a) (h1 : a < b) (h2 : b ≤ a + 15) (h3 : b ≤ 2000) {x0 : Int32} {m0 : Int} (hx : x0 = zI m0) (h4 : a - 3 ≤ m0) (h5 : m0 ≤ b + 3) : x_Con l M_R_low 2 43 ad D cI [.ref (ad 7), .int x0] sc ar (x_E (some (.int (x_lo (sc 17) (ar 5) a b m0))) sc ar) := by
  subst hx
  have hw := x_in_ok h1 h4 h5
  refine x_intro hd [some (.ref (ad 7)), some (.int (zI m0)), none] (by decide) (Nat.le_of_ble_eq_true rfl) rfl ?_
  intro p e s m args below meth c X
  refine xg_aload_n X (pc := 0) d_R_low_0 rfl ?_
  refine xg_iload_n X (pc := 1) d_R_low_1 rfl ?_
  refine xg_crV1 X (pc := 2) d_R_low_2 (c_R_inside hd ha hb h0 (by omega) h2 h3 rfl h4 h5 (Or.inl h1)) s_R_63 ⟨_, rfl⟩ rfl ⟨by decide, by decide⟩ (Nat.le_of_ble_eq_true rfl) ?_
  refine xg_istore_n X (pc := 5) d_R_low_5 (by decide) rfl ?_
  refine xg_aload_n X (pc := 6) d_R_low_6 rfl ?_
  refine xg_iload_n X (pc := 7) d_R_low_7 rfl ?_
  refine xg_crV1 X (pc := 8) d_R_low_8 (c_R_old hd ha hb h0 (by omega) h2 h3 rfl (by omega) (by omega) (Or.inl h1)) s_R_70 ⟨_, rfl⟩ rfl ⟨by decide, by decide⟩ (Nat.le_of_ble_eq_true rfl) ?_
  refine xg_aload_n X (pc := 11) d_R_low_11 rfl ?_
  refine xg_aload_n X (pc := 12) d_R_low_12 rfl ?_
  refine xg_iload_n X (pc := 13) d_R_low_13 rfl ?_
  refine xg_iconst X (pc := 14) (v := 1) d_R_low_14 (by decide) ?_
  refine xg_isub X (pc := 15) d_R_low_15 ?_
  refine xg_crV1 X (pc := 16) d_R_low_16 (c_R_old hd ha hb h0 (by omega) h2 h3 (z_s1 _) (by omega) (by omega) (Or.inl h1)) s_R_70 ⟨_, rfl⟩ rfl ⟨by decide, by decide⟩ (Nat.le_of_ble_eq_true rfl) ?_
  refine xg_aload_n X (pc := 19) d_R_low_19 rfl ?_
  refine xg_iload_n X (pc := 20) d_R_low_20 rfl ?_
  refine xg_iconst X (pc := 21) (v := 1) d_R_low_21 (by decide) ?_
  refine xg_iadd X (pc := 22) d_R_low_22 ?_
  refine xg_crV1 X (pc := 23) d_R_low_23 (c_R_old hd ha hb h0 (by omega) h2 h3 (z_a1 _) (by omega) (by omega) (Or.inl h1)) s_R_70 ⟨_, rfl⟩ rfl ⟨by decide, by decide⟩ (Nat.le_of_ble_eq_true rfl) ?_
  refine xg_crV2 X (pc := 26) d_R_low_26 (c_R_updated hd) s_R_77 ⟨_, rfl⟩ rfl ⟨by decide, by decide⟩ (Nat.le_of_ble_eq_true rfl) ?_
  refine xg_isub X (pc := 29) d_R_low_29 ?_
  exact xg_iret X (pc := 30) d_R_low_30 rfl (rfl) (⟨by rw [x_upU]; rfl, rfl, rfl⟩)
set_option maxRecDepth 100000 in
set_option maxHeartbeats 4000000 in
theorem c_R_lifted (hd : x_dis ad) {a b : Int} (ha : sc 15 = zI a) (hb : sc 16 = zI b) (h0 : 0 ≤ a) (h1 : a ≤ b) (h2 : b ≤ a + 15) (h3 : b ≤ 2000) {x0 : Int32} {n : Int} (hx : x0 = zI n) (h4 : a ≤ n) (h5 : n ≤ b) : x_Con l M_R_lifted 3 65 ad D cI [.ref (ad 7), .int x0] sc ar (x_E (some (.int (x_fw (sc 17) (ar 5) a b (n - a).toNat))) sc ar) := by
  subst hx
  refine x_intro hd [some (.ref (ad 7)), some (.int (zI n))] (by decide) (Nat.le_of_ble_eq_true rfl) rfl ?_
  intro p e s m args below meth c X
  refine xg_aload_n X (pc := 0) d_R_lifted_0 rfl ?_
  refine xf_R_57 X (pc := 1) rfl d_R_lifted_1 ?_
  refine xg_aload_n X (pc := 4) d_R_lifted_4 rfl ?_
  refine xf_R_60 X (pc := 5) rfl d_R_lifted_5 ?_
  refine xg_icmp_ne X (pc := 8) (tgt := 34) d_R_lifted_8 rfl (fun h8 => ?_) (fun h8 => ?_)
  · rw [ha, hb, zI_eq a b] at h8
    have h9 : a < b := by omega
    refine xg_iload_n X (pc := 34) d_R_lifted_34 rfl ?_
    refine xg_crS1 X (pc := 35) d_R_lifted_35 (c_R_odd hd) s_R_81 ⟨by decide, by decide⟩ (Nat.le_of_ble_eq_true rfl) ?_
    refine xg_if_eq X (pc := 38) (tgt := 49) d_R_lifted_38 rfl (fun h38 => ?_) (fun h38 => ?_)
    · replace h38 := x_b0 h38
      rw [x_rodd (by omega) (by omega)] at h38
      refine xg_aload_n X (pc := 49) d_R_lifted_49 rfl ?_
      refine xg_iload_n X (pc := 50) d_R_lifted_50 rfl ?_
      refine xg_crV1 X (pc := 51) d_R_lifted_51 (c_R_old hd ha hb h0 h1 h2 h3 rfl (by omega) (by omega) (Or.inr ⟨h4, h5⟩)) s_R_70 ⟨_, rfl⟩ rfl ⟨by decide, by decide⟩ (Nat.le_of_ble_eq_true rfl) ?_
      refine xg_aload_n X (pc := 54) d_R_lifted_54 rfl ?_
      refine xg_aload_n X (pc := 55) d_R_lifted_55 rfl ?_
      refine xg_iload_n X (pc := 56) d_R_lifted_56 rfl ?_
      refine xg_iconst X (pc := 57) (v := 1) d_R_lifted_57 (by decide) ?_
      refine xg_isub X (pc := 58) d_R_lifted_58 ?_
      refine xg_crV1 X (pc := 59) d_R_lifted_59 (c_R_high hd ha hb h0 h9 h2 h3 (z_s1 _) (by omega) (by omega)) s_R_84 ⟨_, rfl⟩ rfl ⟨by decide, by decide⟩ (Nat.le_of_ble_eq_true rfl) ?_
      refine xg_aload_n X (pc := 62) d_R_lifted_62 rfl ?_
      refine xg_iload_n X (pc := 63) d_R_lifted_63 rfl ?_
      refine xg_iconst X (pc := 64) (v := 1) d_R_lifted_64 (by decide) ?_
      refine xg_iadd X (pc := 65) d_R_lifted_65 ?_
      refine xg_crV1 X (pc := 66) d_R_lifted_66 (c_R_high hd ha hb h0 h9 h2 h3 (z_a1 _) (by omega) (by omega)) s_R_84 ⟨_, rfl⟩ rfl ⟨by decide, by decide⟩ (Nat.le_of_ble_eq_true rfl) ?_
      refine xg_crV2 X (pc := 69) d_R_lifted_69 (c_R_updated hd) s_R_77 ⟨_, rfl⟩ rfl ⟨by decide, by decide⟩ (Nat.le_of_ble_eq_true rfl) ?_
      refine xg_iadd X (pc := 72) d_R_lifted_72 ?_
      exact xg_iret X (pc := 73) d_R_lifted_73 rfl (rfl) (⟨by unfold x_fw; rw [if_neg h8]; first | rw [x_f2_o h9 h4 h5 (by omega)] | rw [x_f2_e h9 h4 h5 (by omega)], rfl, rfl⟩)
    · replace h38 := x_bn h38
      rw [x_rodd (by omega) (by omega)] at h38
      refine xg_aload_n X (pc := 41) d_R_lifted_41 rfl ?_
      refine xg_iload_n X (pc := 42) d_R_lifted_42 rfl ?_
      refine xg_crV1 X (pc := 43) d_R_lifted_43 (c_R_high hd ha hb h0 h9 h2 h3 rfl (by omega) (by omega)) s_R_84 ⟨_, rfl⟩ rfl ⟨by decide, by decide⟩ (Nat.le_of_ble_eq_true rfl) ?_
      refine xg_goto X (pc := 46) (tgt := 73) d_R_lifted_46 rfl ?_
      exact xg_iret X (pc := 73) d_R_lifted_73 rfl (rfl) (⟨by unfold x_fw; rw [if_neg h8]; first | rw [x_f2_o h9 h4 h5 (by omega)] | rw [x_f2_e h9 h4 h5 (by omega)], rfl, rfl⟩)
  · rw [ha, hb, zI_eq a b] at h8
    refine xg_iload_n X (pc := 11) d_R_lifted_11 rfl ?_
    refine xg_crS1 X (pc := 12) d_R_lifted_12 (c_R_odd hd) s_R_81 ⟨by decide, by decide⟩ (Nat.le_of_ble_eq_true rfl) ?_
    refine xg_if_eq X (pc := 15) (tgt := 28) d_R_lifted_15 rfl (fun h15 => ?_) (fun h15 => ?_)
    · replace h15 := x_b0 h15
      rw [x_rodd (by omega) (by omega)] at h15
      refine xg_aload_n X (pc := 28) d_R_lifted_28 rfl ?_
      refine xg_iload_n X (pc := 29) d_R_lifted_29 rfl ?_
      refine xg_crV1 X (pc := 30) d_R_lifted_30 (c_R_old hd ha hb h0 h1 h2 h3 rfl (by omega) (by omega) (Or.inr ⟨h4, h5⟩)) s_R_70 ⟨_, rfl⟩ rfl ⟨by decide, by decide⟩ (Nat.le_of_ble_eq_true rfl) ?_
      exact xg_iret X (pc := 33) d_R_lifted_33 rfl (rfl) (⟨by unfold x_fw; rw [if_pos h8, x_vl_id h4 h5, show (n - a).toNat = 0 by omega]; unfold upd; rw [if_pos rfl]; first | rw [if_pos (by omega), Int32.mul_comm] | rw [if_neg (by omega)], rfl, rfl⟩)
    · replace h15 := x_bn h15
      rw [x_rodd (by omega) (by omega)] at h15
      refine xg_iconst X (pc := 18) (v := 2) d_R_lifted_18 (by decide) ?_
      refine xg_aload_n X (pc := 19) d_R_lifted_19 rfl ?_
      refine xg_iload_n X (pc := 20) d_R_lifted_20 rfl ?_
      refine xg_crV1 X (pc := 21) d_R_lifted_21 (c_R_old hd ha hb h0 h1 h2 h3 rfl (by omega) (by omega) (Or.inr ⟨h4, h5⟩)) s_R_70 ⟨_, rfl⟩ rfl ⟨by decide, by decide⟩ (Nat.le_of_ble_eq_true rfl) ?_
      refine xg_imul X (pc := 24) d_R_lifted_24 ?_
      refine xg_goto X (pc := 25) (tgt := 33) d_R_lifted_25 rfl ?_
      exact xg_iret X (pc := 33) d_R_lifted_33 rfl (rfl) (⟨by unfold x_fw; rw [if_pos h8, x_vl_id h4 h5, show (n - a).toNat = 0 by omega]; unfold upd; rw [if_pos rfl]; first | rw [if_pos (by omega), Int32.mul_comm] | rw [if_neg (by omega)], rfl, rfl⟩)
set_option maxRecDepth 100000 in
set_option maxHeartbeats 4000000 in
theorem c_R_liftedBack (hd : x_dis ad) {a b : Int} (ha : sc 15 = zI a) (hb : sc 16 = zI b) (h0 : 0 ≤ a) (h1 : a ≤ b) (h2 : b ≤ a + 15) (h3 : b ≤ 2000) {x0 : Int32} {n : Int} (hx : x0 = zI n) (h4 : a ≤ n) (h5 : n ≤ b) : x_Con l M_R_liftedBack 3 65 ad D cI [.ref (ad 7), .int x0] sc ar (x_E (some (.int (x_bw (sc 17) (ar 5) a b (n - a).toNat))) sc ar) := by
  subst hx
  refine x_intro hd [some (.ref (ad 7)), some (.int (zI n))] (by decide) (Nat.le_of_ble_eq_true rfl) rfl ?_
  intro p e s m args below meth c X
  refine xg_aload_n X (pc := 0) d_R_liftedBack_0 rfl ?_
  refine xf_R_57 X (pc := 1) rfl d_R_liftedBack_1 ?_
  refine xg_aload_n X (pc := 4) d_R_liftedBack_4 rfl ?_
  refine xf_R_60 X (pc := 5) rfl d_R_liftedBack_5 ?_
  refine xg_icmp_ne X (pc := 8) (tgt := 34) d_R_liftedBack_8 rfl (fun h8 => ?_) (fun h8 => ?_)
  · rw [ha, hb, zI_eq a b] at h8
    have h9 : a < b := by omega
    refine xg_iload_n X (pc := 34) d_R_liftedBack_34 rfl ?_
    refine xg_crS1 X (pc := 35) d_R_liftedBack_35 (c_R_odd hd) s_R_81 ⟨by decide, by decide⟩ (Nat.le_of_ble_eq_true rfl) ?_
    refine xg_if_eq X (pc := 38) (tgt := 82) d_R_liftedBack_38 rfl (fun h38 => ?_) (fun h38 => ?_)
    · replace h38 := x_b0 h38
      rw [x_rodd (by omega) (by omega)] at h38
      refine xg_aload_n X (pc := 82) d_R_liftedBack_82 rfl ?_
      refine xg_iload_n X (pc := 83) d_R_liftedBack_83 rfl ?_
      refine xg_crV1 X (pc := 84) d_R_liftedBack_84 (c_R_low hd ha hb h0 h9 h2 h3 rfl (by omega) (by omega)) s_R_87 ⟨_, rfl⟩ rfl ⟨by decide, by decide⟩ (Nat.le_of_ble_eq_true rfl) ?_
      exact xg_iret X (pc := 87) d_R_liftedBack_87 rfl (rfl) (⟨by unfold x_bw; rw [if_neg h8]; first | rw [x_g2_o h9 h4 h5 (by omega)] | rw [x_g2_e h9 h4 h5 (by omega)], rfl, rfl⟩)
    · replace h38 := x_bn h38
      rw [x_rodd (by omega) (by omega)] at h38
      refine xg_aload_n X (pc := 41) d_R_liftedBack_41 rfl ?_
      refine xg_iload_n X (pc := 42) d_R_liftedBack_42 rfl ?_
      refine xg_crV1 X (pc := 43) d_R_liftedBack_43 (c_R_old hd ha hb h0 h1 h2 h3 rfl (by omega) (by omega) (Or.inr ⟨h4, h5⟩)) s_R_70 ⟨_, rfl⟩ rfl ⟨by decide, by decide⟩ (Nat.le_of_ble_eq_true rfl) ?_
      refine xg_aload_n X (pc := 46) d_R_liftedBack_46 rfl ?_
      refine xg_aload_n X (pc := 47) d_R_liftedBack_47 rfl ?_
      refine xg_iload_n X (pc := 48) d_R_liftedBack_48 rfl ?_
      refine xg_iconst X (pc := 49) (v := 1) d_R_liftedBack_49 (by decide) ?_
      refine xg_isub X (pc := 50) d_R_liftedBack_50 ?_
      refine xg_crV1 X (pc := 51) d_R_liftedBack_51 (c_R_low hd ha hb h0 h9 h2 h3 (z_s1 _) (by omega) (by omega)) s_R_87 ⟨_, rfl⟩ rfl ⟨by decide, by decide⟩ (Nat.le_of_ble_eq_true rfl) ?_
      refine xg_aload_n X (pc := 54) d_R_liftedBack_54 rfl ?_
      refine xg_iload_n X (pc := 55) d_R_liftedBack_55 rfl ?_
      refine xg_iconst X (pc := 56) (v := 1) d_R_liftedBack_56 (by decide) ?_
      refine xg_iadd X (pc := 57) d_R_liftedBack_57 ?_
      refine xg_crV1 X (pc := 58) d_R_liftedBack_58 (c_R_low hd ha hb h0 h9 h2 h3 (z_a1 _) (by omega) (by omega)) s_R_87 ⟨_, rfl⟩ rfl ⟨by decide, by decide⟩ (Nat.le_of_ble_eq_true rfl) ?_
      refine xg_aload_n X (pc := 61) d_R_liftedBack_61 rfl ?_
      refine xg_iload_n X (pc := 62) d_R_liftedBack_62 rfl ?_
      refine xg_iconst X (pc := 63) (v := 3) d_R_liftedBack_63 (by decide) ?_
      refine xg_isub X (pc := 64) d_R_liftedBack_64 ?_
      refine xg_crV1 X (pc := 65) d_R_liftedBack_65 (c_R_low hd ha hb h0 h9 h2 h3 (z_s3 _) (by omega) (by omega)) s_R_87 ⟨_, rfl⟩ rfl ⟨by decide, by decide⟩ (Nat.le_of_ble_eq_true rfl) ?_
      refine xg_aload_n X (pc := 68) d_R_liftedBack_68 rfl ?_
      refine xg_iload_n X (pc := 69) d_R_liftedBack_69 rfl ?_
      refine xg_iconst X (pc := 70) (v := 3) d_R_liftedBack_70 (by decide) ?_
      refine xg_iadd X (pc := 71) d_R_liftedBack_71 ?_
      refine xg_crV1 X (pc := 72) d_R_liftedBack_72 (c_R_low hd ha hb h0 h9 h2 h3 (z_a3 _) (by omega) (by omega)) s_R_87 ⟨_, rfl⟩ rfl ⟨by decide, by decide⟩ (Nat.le_of_ble_eq_true rfl) ?_
      refine xg_crV4 X (pc := 75) d_R_liftedBack_75 (c_R_predicted hd) s_R_73 ⟨_, rfl⟩ rfl ⟨by decide, by decide⟩ (Nat.le_of_ble_eq_true rfl) ?_
      refine xg_iadd X (pc := 78) d_R_liftedBack_78 ?_
      refine xg_goto X (pc := 79) (tgt := 87) d_R_liftedBack_79 rfl ?_
      exact xg_iret X (pc := 87) d_R_liftedBack_87 rfl (rfl) (⟨by unfold x_bw; rw [if_neg h8]; first | rw [x_g2_o h9 h4 h5 (by omega)] | rw [x_g2_e h9 h4 h5 (by omega)], rfl, rfl⟩)
  · rw [ha, hb, zI_eq a b] at h8
    refine xg_iload_n X (pc := 11) d_R_liftedBack_11 rfl ?_
    refine xg_crS1 X (pc := 12) d_R_liftedBack_12 (c_R_odd hd) s_R_81 ⟨by decide, by decide⟩ (Nat.le_of_ble_eq_true rfl) ?_
    refine xg_if_eq X (pc := 15) (tgt := 28) d_R_liftedBack_15 rfl (fun h15 => ?_) (fun h15 => ?_)
    · replace h15 := x_b0 h15
      rw [x_rodd (by omega) (by omega)] at h15
      refine xg_aload_n X (pc := 28) d_R_liftedBack_28 rfl ?_
      refine xg_iload_n X (pc := 29) d_R_liftedBack_29 rfl ?_
      refine xg_crV1 X (pc := 30) d_R_liftedBack_30 (c_R_old hd ha hb h0 h1 h2 h3 rfl (by omega) (by omega) (Or.inr ⟨h4, h5⟩)) s_R_70 ⟨_, rfl⟩ rfl ⟨by decide, by decide⟩ (Nat.le_of_ble_eq_true rfl) ?_
      exact xg_iret X (pc := 33) d_R_liftedBack_33 rfl (rfl) (⟨by unfold x_bw; rw [if_pos h8, x_vl_id h4 h5, show (n - a).toNat = 0 by omega]; unfold upd; rw [if_pos rfl]; first | rw [if_pos (by omega)] | rw [if_neg (by omega)], rfl, rfl⟩)
    · replace h15 := x_bn h15
      rw [x_rodd (by omega) (by omega)] at h15
      refine xg_aload_n X (pc := 18) d_R_liftedBack_18 rfl ?_
      refine xg_iload_n X (pc := 19) d_R_liftedBack_19 rfl ?_
      refine xg_crV1 X (pc := 20) d_R_liftedBack_20 (c_R_old hd ha hb h0 h1 h2 h3 rfl (by omega) (by omega) (Or.inr ⟨h4, h5⟩)) s_R_70 ⟨_, rfl⟩ rfl ⟨by decide, by decide⟩ (Nat.le_of_ble_eq_true rfl) ?_
      refine xg_iconst X (pc := 23) (v := 1) d_R_liftedBack_23 (by decide) ?_
      refine xg_ishr X (pc := 24) d_R_liftedBack_24 ?_
      refine xg_goto X (pc := 25) (tgt := 33) d_R_liftedBack_25 rfl ?_
      exact xg_iret X (pc := 33) d_R_liftedBack_33 rfl (rfl) (⟨by unfold x_bw; rw [if_pos h8, x_vl_id h4 h5, show (n - a).toNat = 0 by omega]; unfold upd; rw [if_pos rfl]; first | rw [if_pos (by omega)] | rw [if_neg (by omega)], rfl, rfl⟩)
end C9
