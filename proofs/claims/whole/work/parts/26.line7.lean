theorem x_and1 {a : Int} (h0 : 0 ≤ a) (h1 : a < 1000000) : zI a &&& 1 = zI (a % 2) := by
  have e : zI a = nI a.toNat := by rw [← zI_nI, Int.toNat_of_nonneg h0]
  rw [e, pk_andN (by omega) 1 (by decide), ← zI_nI]
  congr 1
  omega
theorem x_odd {x : Int32} {a : Int} (ha : x = zI a) (h0 : 0 ≤ a) (h1 : a < 1000000) : x &&& 1 = 1 ↔ a % 2 = 1 := by
  rw [ha, x_and1 h0 h1]
  exact zI_eq (a % 2) 1
def x_fo (a : Int) : Int := if a % 2 = 1 then a else a + 1
def x_fe (a : Int) : Int := if a % 2 = 1 then a + 1 else a
theorem x_fo_eq {x : Int32} {a : Int} (ha : x = zI a) (h0 : 0 ≤ a) (h1 : a < 1000000) : (if x &&& 1 = 1 then x else x + 1) = zI (x_fo a) := by
  unfold x_fo
  by_cases h : a % 2 = 1
  · rw [if_pos ((x_odd ha h0 h1).mpr h), if_pos h, ha]
  · rw [if_neg (fun q => h ((x_odd ha h0 h1).mp q)), if_neg h, ha]
    exact z_a1 a
theorem x_fe_eq {x : Int32} {a : Int} (ha : x = zI a) (h0 : 0 ≤ a) (h1 : a < 1000000) : (if x &&& 1 = 1 then x + 1 else x) = zI (x_fe a) := by
  unfold x_fe
  by_cases h : a % 2 = 1
  · rw [if_pos ((x_odd ha h0 h1).mpr h), if_pos h, ha]
    exact z_a1 a
  · rw [if_neg (fun q => h ((x_odd ha h0 h1).mp q)), if_neg h, ha]
def x_lp (q : Int) (F : Int → Int32 → Int32) (v : Nat → Int32) (a n : Int) : Nat → Int32 := fun i => if (a + (i : Int)) % 2 = q ∧ a + (i : Int) < n then F (a + (i : Int)) (v i) else v i
theorem x_lp0 {q : Int} {F : Int → Int32 → Int32} {v : Nat → Int32} {a n : Int} (h : n ≤ a + 1) (hq : (a % 2 = q → n ≤ a)) : x_lp q F v a n = v := by
  funext i
  unfold x_lp
  rw [if_neg]
  rintro ⟨h1, h2⟩
  have h3 : (i : Int) = 0 := by omega
  rw [h3] at h1 h2
  have := hq (by simpa using h1)
  omega
theorem x_lp_end {q : Int} {F : Int → Int32 → Int32} {v : Nat → Int32} {a b n : Int} (h1 : b < n) (h2 : n ≤ b + 2) (h3 : n % 2 = q) : x_lp q F v a n = x_lp q F v a (b + 1) := by
  funext i
  unfold x_lp
  by_cases h : (a + (i : Int)) % 2 = q ∧ a + (i : Int) < n
  · rw [if_pos h, if_pos (by omega)]
  · rw [if_neg h, if_neg (by omega)]
theorem x_lp_vl {q : Int} {F : Int → Int32 → Int32} {v : Nat → Int32} {a b n z : Int} (h1 : a < b) (h2 : a - 3 ≤ z) (h3 : z ≤ b + 3) (hq : ¬ z % 2 = q) : x_vl (x_lp q F v a n) a b z = x_vl v a b z := by
  have e1 := x_in_ok h1 h2 h3
  have e2 := x_in_par a b z
  unfold x_vl x_lp
  rw [if_neg]
  rintro ⟨h4, -⟩
  omega
theorem x_lp_P {k : Int32} {F : Int → Int32 → Int32} {v : Nat → Int32} {a b n z : Int} (h1 : a < b) (h2 : a ≤ z) (h3 : z ≤ b) (hq : z % 2 = 1) : x_P k (x_lp 1 F v a n) a b z = x_P k v a b z := by
  unfold x_P
  rw [x_lp_vl h1 (by omega) (by omega) (by omega), x_lp_vl h1 (by omega) (by omega) (by omega), x_lp_vl h1 (by omega) (by omega) (by omega), x_lp_vl h1 (by omega) (by omega) (by omega)]
theorem x_lp_U {k : Int32} {F : Int → Int32 → Int32} {v : Nat → Int32} {a b n z : Int} (h1 : a < b) (h2 : a ≤ z) (h3 : z ≤ b) (hq : z % 2 = 0) : x_U k (x_lp 0 F v a n) a b z = x_U k v a b z := by
  unfold x_U
  rw [x_lp_vl h1 (by omega) (by omega) (by omega), x_lp_vl h1 (by omega) (by omega) (by omega)]
theorem x_lp_s {q : Int} {F : Int → Int32 → Int32} {v : Nat → Int32} {a n : Int} {y : Int32} (h1 : a ≤ n) (hq : n % 2 = q) (hy : F n (x_lp q F v a n (n - a).toNat) = y) : upd (x_lp q F v a n) (n - a).toNat y = x_lp q F v a (n + 2) := by
  have e0 : a + (((n - a).toNat : Nat) : Int) = n := by omega
  have e1 : x_lp q F v a n (n - a).toNat = v (n - a).toNat := by
    unfold x_lp
    rw [if_neg (by omega)]
  rw [e1] at hy
  funext i
  unfold upd
  by_cases h : i = (n - a).toNat
  · rw [if_pos h, h]
    unfold x_lp
    rw [if_pos (by omega), e0, hy]
  · rw [if_neg h]
    unfold x_lp
    by_cases h2 : (a + (i : Int)) % 2 = q ∧ a + (i : Int) < n
    · rw [if_pos h2, if_pos (by omega)]
    · rw [if_neg h2, if_neg (by omega)]
def x_f1 (k : Int32) (v : Nat → Int32) (a b : Int) : Nat → Int32 := x_lp 1 (fun n x => x - x_P k v a b n) v a (b + 1)
def x_f2 (k : Int32) (v : Nat → Int32) (a b : Int) : Nat → Int32 := x_lp 0 (fun n x => x + x_U k (x_f1 k v a b) a b n) (x_f1 k v a b) a (b + 1)
def x_g1 (k : Int32) (v : Nat → Int32) (a b : Int) : Nat → Int32 := x_lp 0 (fun n x => x - x_U k v a b n) v a (b + 1)
def x_g2 (k : Int32) (v : Nat → Int32) (a b : Int) : Nat → Int32 := x_lp 1 (fun n x => x + x_P k (x_g1 k v a b) a b n) (x_g1 k v a b) a (b + 1)
def x_fw (k : Int32) (v : Nat → Int32) (a b : Int) : Nat → Int32 := if a = b then upd v 0 (if a % 2 = 1 then v 0 * 2 else v 0) else x_f2 k v a b
def x_bw (k : Int32) (v : Nat → Int32) (a b : Int) : Nat → Int32 := if a = b then upd v 0 (if a % 2 = 1 then v 0 >>> (1 &&& 31) else v 0) else x_g2 k v a b
section C7
variable {l : Launch} {ad : Nat → Nat} {D : va_G} {cI : ClassId} {sc : Nat → Int32} {ar : Nat → Nat → Int32}
set_option maxRecDepth 100000 in
set_option maxHeartbeats 4000000 in
theorem c_L_prediction (hd : x_dis ad) {a b : Int} (ha : sc 6 = zI a) (hb : sc 7 = zI b) (h0 : 0 ≤ a) (h1 : a < b) (h2 : b ≤ a + 15) (h3 : b ≤ 2000) {n : Int} {k x0 : Int32} (hx : x0 = zI n) (h4 : a ≤ n) (h5 : n ≤ b) : x_Con l M_L_prediction 2 45 ad D cI [.ref (ad 4), .int k, .int x0] sc ar (x_E (some (.int (x_P k (ar 2) a b n))) sc ar) := by
  subst hx
  refine x_intro hd [some (.ref (ad 4)), some (.int k), some (.int (zI n))] (by decide) (Nat.le_of_ble_eq_true rfl) rfl ?_
  intro p e s m args below meth c X
  refine xg_iload_n X (pc := 0) d_L_prediction_0 rfl ?_
  by_cases hk0 : k = 0
  · refine xg_lookup X (pc := 1) (off := 27) (tgt := 28) d_L_prediction_1 rfl (by rw [hk0]; rfl) rfl ?_
    refine xg_aload_n X (pc := 28) d_L_prediction_28 rfl ?_
    refine xg_iload_n X (pc := 29) d_L_prediction_29 rfl ?_
    refine xg_iconst X (pc := 30) (v := 1) d_L_prediction_30 (by decide) ?_
    refine xg_crV2 X (pc := 31) d_L_prediction_31 (c_L_neighbours hd ha hb h0 h1 h2 h3 rfl z_1 h4 h5 (by omega) (by omega)) s_L_40 ⟨_, rfl⟩ rfl ⟨by decide, by decide⟩ (Nat.le_of_ble_eq_true rfl) ?_
    refine xg_iconst X (pc := 34) (v := 1) d_L_prediction_34 (by decide) ?_
    refine xg_ishr X (pc := 35) d_L_prediction_35 ?_
    exact xg_iret X (pc := 36) d_L_prediction_36 rfl (rfl) (⟨by unfold x_P; rw [if_pos hk0], rfl, rfl⟩)
  by_cases hk1 : k = 1
  · refine xg_lookup X (pc := 1) (off := 36) (tgt := 37) d_L_prediction_1 rfl (by rw [hk1]; rfl) rfl ?_
    refine xg_aload_n X (pc := 37) d_L_prediction_37 rfl ?_
    refine xg_iload_n X (pc := 38) d_L_prediction_38 rfl ?_
    refine xg_iconst X (pc := 39) (v := 1) d_L_prediction_39 (by decide) ?_
    refine xg_isub X (pc := 40) d_L_prediction_40 ?_
    refine xg_crV1 X (pc := 41) d_L_prediction_41 (c_L_value hd ha hb h0 h1 h2 h3 (z_s1 n) (by omega) (by omega)) s_L_43 ⟨_, rfl⟩ rfl ⟨by decide, by decide⟩ (Nat.le_of_ble_eq_true rfl) ?_
    exact xg_iret X (pc := 44) d_L_prediction_44 rfl (rfl) (⟨by unfold x_P; rw [if_neg hk0, if_pos hk1], rfl, rfl⟩)
  · refine xg_lookup X (pc := 1) (off := 44) (tgt := 45) d_L_prediction_1 rfl ((lv_osw hk0 rfl).trans (lv_osw hk1 rfl)) rfl ?_
    refine xg_bipush X (pc := 45) (v := 9) d_L_prediction_45 (by decide) ?_
    refine xg_aload_n X (pc := 47) d_L_prediction_47 rfl ?_
    refine xg_iload_n X (pc := 48) d_L_prediction_48 rfl ?_
    refine xg_iconst X (pc := 49) (v := 1) d_L_prediction_49 (by decide) ?_
    refine xg_crV2 X (pc := 50) d_L_prediction_50 (c_L_neighbours hd ha hb h0 h1 h2 h3 rfl z_1 h4 h5 (by omega) (by omega)) s_L_40 ⟨_, rfl⟩ rfl ⟨by decide, by decide⟩ (Nat.le_of_ble_eq_true rfl) ?_
    refine xg_imul X (pc := 53) d_L_prediction_53 ?_
    refine xg_aload_n X (pc := 54) d_L_prediction_54 rfl ?_
    refine xg_iload_n X (pc := 55) d_L_prediction_55 rfl ?_
    refine xg_iconst X (pc := 56) (v := 3) d_L_prediction_56 (by decide) ?_
    refine xg_crV2 X (pc := 57) d_L_prediction_57 (c_L_neighbours hd ha hb h0 h1 h2 h3 rfl z_3 h4 h5 (by omega) (by omega)) s_L_40 ⟨_, rfl⟩ rfl ⟨by decide, by decide⟩ (Nat.le_of_ble_eq_true rfl) ?_
    refine xg_isub X (pc := 60) d_L_prediction_60 ?_
    refine xg_bipush X (pc := 61) (v := 8) d_L_prediction_61 (by decide) ?_
    refine xg_iadd X (pc := 63) d_L_prediction_63 ?_
    refine xg_iconst X (pc := 64) (v := 4) d_L_prediction_64 (by decide) ?_
    refine xg_ishr X (pc := 65) d_L_prediction_65 ?_
    exact xg_iret X (pc := 66) d_L_prediction_66 rfl (rfl) (⟨by unfold x_P; rw [if_neg hk0, if_neg hk1], rfl, rfl⟩)
set_option maxRecDepth 100000 in
set_option maxHeartbeats 4000000 in
theorem c_L_liftForth (hd : x_dis ad) {a b : Int} (ha : sc 6 = zI a) (hb : sc 7 = zI b) (h0 : 0 ≤ a) (h1 : a ≤ b) (h2 : b ≤ a + 15) (h3 : b ≤ 2000) {k : Int32} : x_Con l M_L_liftForth 3 67 ad D cI [.ref (ad 4), .int k] sc ar (x_E none sc (x_ua ar 2 (x_fw k (ar 2) a b))) := by
  refine x_intro hd [some (.ref (ad 4)), some (.int k), none] (by decide) (Nat.le_of_ble_eq_true rfl) rfl ?_
  intro p e s m args below meth c X
  have loop1 : a < b → ∀ (n : Nat) (z : Int), (b + 3 - z).toNat < n → a ≤ z → z ≤ b + 2 → z % 2 = 0 → x_G p l e (x_rm 3 67) s m args below meth c M_L_liftForth ad D cI (x_A ad) 0 0 (x_Q below args s ad D cI (x_E none sc (x_ua ar 2 (x_fw k (ar 2) a b)))) 89 [some (.ref (ad 4)), some (.int k), some (.int (zI z))] [] sc (x_ua ar 2 (x_lp 0 (fun n x => x + x_U k (x_f1 k (ar 2) a b) a b n) (x_f1 k (ar 2) a b) a z)) := by
    intro h1 n
    induction n with
    | zero => intro z h; exact absurd h (Nat.not_lt_zero _)
    | succ n ih =>
      intro z hn hz1 hz2 hzq
      refine xg_iload_n X (pc := 89) d_L_liftForth_89 rfl ?_
      refine xg_aload_n X (pc := 90) d_L_liftForth_90 rfl ?_
      refine xf_L_19 X (pc := 91) rfl d_L_liftForth_91 ?_
      refine xg_icmp_gt X (pc := 94) (tgt := 123) d_L_liftForth_94 rfl (fun h94 => ?_) (fun h94 => ?_)
      · rw [hb, zI_lt b z] at h94
        refine xg_eq rfl (ar' := x_ua ar 2 (x_f2 k (ar 2) a b)) (by unfold x_f2; rw [x_lp_end (b := b) (by omega) (by omega) hzq]) rfl ?_
        exact xg_vret X (pc := 123) d_L_liftForth_123 rfl (⟨rfl, rfl, by unfold x_fw; rw [if_neg (by omega)]⟩)
      · rw [hb, zI_lt b z] at h94
        refine xg_aload_n X (pc := 97) d_L_liftForth_97 rfl ?_
        refine xf_L_9 X (pc := 98) rfl d_L_liftForth_98 ?_
        refine xg_iload_n X (pc := 101) d_L_liftForth_101 rfl ?_
        refine xg_aload_n X (pc := 102) d_L_liftForth_102 rfl ?_
        refine xf_L_15 X (pc := 103) rfl d_L_liftForth_103 ?_
        refine xg_isub X (pc := 106) d_L_liftForth_106 ?_
        refine xg_dup2 X (pc := 107) d_L_liftForth_107 rfl rfl ?_
        refine xa_ld6 X (pc := 108) d_L_liftForth_108 (x_vl_in ha (by omega) (by omega)) ?_
        refine xg_aload_n X (pc := 109) d_L_liftForth_109 rfl ?_
        refine xg_iload_n X (pc := 110) d_L_liftForth_110 rfl ?_
        refine xg_iload_n X (pc := 111) d_L_liftForth_111 rfl ?_
        refine xg_crV2 X (pc := 112) d_L_liftForth_112 (c_L_update hd ha hb h0 h1 h2 h3 rfl (by omega) (by omega)) s_L_37 ⟨_, rfl⟩ rfl ⟨by decide, by decide⟩ (Nat.le_of_ble_eq_true rfl) ?_
        refine xg_iadd X (pc := 115) d_L_liftForth_115 ?_
        refine xa_st6 X (pc := 116) d_L_liftForth_116 (x_vl_in ha (by omega) (by omega)) ?_
        refine xg_iinc X (pc := 117) d_L_liftForth_117 rfl (x_inc (by decide : Int32.ofInt (2) = 2) _) (by decide) rfl ?_
        refine xg_goto X (pc := 120) (tgt := 89) d_L_liftForth_120 rfl ?_
        refine xg_weak [some (.ref (ad 4)), some (.int k), some (.int (zI (z + 2)))] ⟨rfl, rfl, by rw [← z_a2], trivial⟩ ?_
        refine xg_eq rfl (ar' := x_ua ar 2 (x_lp 0 (fun n x => x + x_U k (x_f1 k (ar 2) a b) a b n) (x_f1 k (ar 2) a b) a (z + 2))) ?_ rfl (ih (z + 2) (by omega) (by omega) (by omega) (by omega))
        rw [x_ua_ua, x_ua_at, x_vl_cl ha (by omega) (by omega), x_lp_U h1 (by omega) (by omega) hzq]
        exact congrArg _ (x_lp_s (by omega) hzq rfl)
  have loop0 : a < b → x_G p l e (x_rm 3 67) s m args below meth c M_L_liftForth ad D cI (x_A ad) 0 0 (x_Q below args s ad D cI (x_E none sc (x_ua ar 2 (x_fw k (ar 2) a b)))) 84 [some (.ref (ad 4)), some (.int k), none] [] sc (x_ua ar 2 (x_f1 k (ar 2) a b)) → ∀ (n : Nat) (z : Int), (b + 3 - z).toNat < n → a ≤ z → z ≤ b + 2 → z % 2 = 1 → x_G p l e (x_rm 3 67) s m args below meth c M_L_liftForth ad D cI (x_A ad) 0 0 (x_Q below args s ad D cI (x_E none sc (x_ua ar 2 (x_fw k (ar 2) a b)))) 50 [some (.ref (ad 4)), some (.int k), some (.int (zI z))] [] sc (x_ua ar 2 (x_lp 1 (fun n x => x - x_P k (ar 2) a b n) (ar 2) a z)) := by
    intro h1 cont n
    induction n with
    | zero => intro z h; exact absurd h (Nat.not_lt_zero _)
    | succ n ih =>
      intro z hn hz1 hz2 hzq
      refine xg_iload_n X (pc := 50) d_L_liftForth_50 rfl ?_
      refine xg_aload_n X (pc := 51) d_L_liftForth_51 rfl ?_
      refine xf_L_19 X (pc := 52) rfl d_L_liftForth_52 ?_
      refine xg_icmp_gt X (pc := 55) (tgt := 84) d_L_liftForth_55 rfl (fun h55 => ?_) (fun h55 => ?_)
      · rw [hb, zI_lt b z] at h55
        refine xg_eq rfl (ar' := x_ua ar 2 (x_f1 k (ar 2) a b)) (by unfold x_f1; rw [x_lp_end (b := b) (by omega) (by omega) hzq]) rfl ?_
        exact xg_weak [some (.ref (ad 4)), some (.int k), none] ⟨rfl, rfl, trivial⟩ cont
      · rw [hb, zI_lt b z] at h55
        refine xg_aload_n X (pc := 58) d_L_liftForth_58 rfl ?_
        refine xf_L_9 X (pc := 59) rfl d_L_liftForth_59 ?_
        refine xg_iload_n X (pc := 62) d_L_liftForth_62 rfl ?_
        refine xg_aload_n X (pc := 63) d_L_liftForth_63 rfl ?_
        refine xf_L_15 X (pc := 64) rfl d_L_liftForth_64 ?_
        refine xg_isub X (pc := 67) d_L_liftForth_67 ?_
        refine xg_dup2 X (pc := 68) d_L_liftForth_68 rfl rfl ?_
        refine xa_ld6 X (pc := 69) d_L_liftForth_69 (x_vl_in ha (by omega) (by omega)) ?_
        refine xg_aload_n X (pc := 70) d_L_liftForth_70 rfl ?_
        refine xg_iload_n X (pc := 71) d_L_liftForth_71 rfl ?_
        refine xg_iload_n X (pc := 72) d_L_liftForth_72 rfl ?_
        refine xg_crV2 X (pc := 73) d_L_liftForth_73 (c_L_prediction hd ha hb h0 h1 h2 h3 rfl (by omega) (by omega)) s_L_30 ⟨_, rfl⟩ rfl ⟨by decide, by decide⟩ (Nat.le_of_ble_eq_true rfl) ?_
        refine xg_isub X (pc := 76) d_L_liftForth_76 ?_
        refine xa_st6 X (pc := 77) d_L_liftForth_77 (x_vl_in ha (by omega) (by omega)) ?_
        refine xg_iinc X (pc := 78) d_L_liftForth_78 rfl (x_inc (by decide : Int32.ofInt (2) = 2) _) (by decide) rfl ?_
        refine xg_goto X (pc := 81) (tgt := 50) d_L_liftForth_81 rfl ?_
        refine xg_weak [some (.ref (ad 4)), some (.int k), some (.int (zI (z + 2)))] ⟨rfl, rfl, by rw [← z_a2], trivial⟩ ?_
        refine xg_eq rfl (ar' := x_ua ar 2 (x_lp 1 (fun n x => x - x_P k (ar 2) a b n) (ar 2) a (z + 2))) ?_ rfl (ih (z + 2) (by omega) (by omega) (by omega) (by omega))
        rw [x_ua_ua, x_ua_at, x_vl_cl ha (by omega) (by omega), x_lp_P h1 (by omega) (by omega) hzq]
        exact congrArg _ (x_lp_s (by omega) hzq rfl)
  have cont : a < b → x_G p l e (x_rm 3 67) s m args below meth c M_L_liftForth ad D cI (x_A ad) 0 0 (x_Q below args s ad D cI (x_E none sc (x_ua ar 2 (x_fw k (ar 2) a b)))) 84 [some (.ref (ad 4)), some (.int k), none] [] sc (x_ua ar 2 (x_f1 k (ar 2) a b)) := by
    intro h1
    refine xg_aload_n X (pc := 84) d_L_liftForth_84 rfl ?_
    refine xg_crV0 X (pc := 85) d_L_liftForth_85 (c_L_firstEven hd) s_L_34 ⟨_, rfl⟩ rfl ⟨by decide, by decide⟩ (Nat.le_of_ble_eq_true rfl) ?_
    refine xg_istore_n X (pc := 88) d_L_liftForth_88 (by decide) rfl ?_
    refine xg_weak [some (.ref (ad 4)), some (.int k), some (.int (zI (x_fe a)))] ⟨rfl, rfl, by rw [x_fe_eq ha h0 (by omega)], trivial⟩ ?_
    refine xg_eq rfl (ar' := x_ua ar 2 (x_lp 0 (fun n x => x + x_U k (x_f1 k (ar 2) a b) a b n) (x_f1 k (ar 2) a b) a (x_fe a))) ?_ rfl (loop1 h1 _ (x_fe a) (Nat.lt_succ_self _) (by unfold x_fe; split <;> omega) (by unfold x_fe; split <;> omega) (by unfold x_fe; split <;> omega))
    rw [x_lp0 (by unfold x_fe; split <;> omega) (by unfold x_fe; split <;> omega)]
  refine xg_aload_n X (pc := 0) d_L_liftForth_0 rfl ?_
  refine xf_L_15 X (pc := 1) rfl d_L_liftForth_1 ?_
  refine xg_aload_n X (pc := 4) d_L_liftForth_4 rfl ?_
  refine xf_L_19 X (pc := 5) rfl d_L_liftForth_5 ?_
  refine xg_icmp_ne X (pc := 8) (tgt := 45) d_L_liftForth_8 rfl (fun h8 => ?_) (fun h8 => ?_)
  · rw [ha, hb, zI_eq a b] at h8
    have h1 : a < b := by omega
    refine xg_aload_n X (pc := 45) d_L_liftForth_45 rfl ?_
    refine xg_crV0 X (pc := 46) d_L_liftForth_46 (c_L_firstOdd hd) s_L_26 ⟨_, rfl⟩ rfl ⟨by decide, by decide⟩ (Nat.le_of_ble_eq_true rfl) ?_
    refine xg_istore_n X (pc := 49) d_L_liftForth_49 (by decide) rfl ?_
    have cont := cont h1
    refine xg_weak [some (.ref (ad 4)), some (.int k), some (.int (zI (x_fo a)))] ⟨rfl, rfl, by rw [x_fo_eq ha h0 (by omega)], trivial⟩ ?_
    refine xg_eq rfl (ar' := x_ua ar 2 (x_lp 1 (fun n x => x - x_P k (ar 2) a b n) (ar 2) a (x_fo a))) ?_ rfl (loop0 h1 cont _ (x_fo a) (Nat.lt_succ_self _) (by unfold x_fo; split <;> omega) (by unfold x_fo; split <;> omega) (by unfold x_fo; split <;> omega))
    rw [x_lp0 (by unfold x_fo; split <;> omega) (by unfold x_fo; split <;> omega), x_ua_id]
  · rw [ha, hb, zI_eq a b] at h8
    refine xg_aload_n X (pc := 11) d_L_liftForth_11 rfl ?_
    refine xf_L_9 X (pc := 12) rfl d_L_liftForth_12 ?_
    refine xg_iconst X (pc := 15) (v := 0) d_L_liftForth_15 (by decide) ?_
    refine xg_aload_n X (pc := 16) d_L_liftForth_16 rfl ?_
    refine xf_L_15 X (pc := 17) rfl d_L_liftForth_17 ?_
    refine xg_crS1 X (pc := 20) d_L_liftForth_20 (c_L_isOdd hd) s_L_22 ⟨by decide, by decide⟩ (Nat.le_of_ble_eq_true rfl) ?_
    refine xg_if_eq X (pc := 23) (tgt := 37) d_L_liftForth_23 rfl (fun h23 => ?_) (fun h23 => ?_)
    · replace h23 := x_b0 h23
      rw [x_odd ha h0 (by omega)] at h23
      refine xg_aload_n X (pc := 37) d_L_liftForth_37 rfl ?_
      refine xf_L_9 X (pc := 38) rfl d_L_liftForth_38 ?_
      refine xg_iconst X (pc := 41) (v := 0) d_L_liftForth_41 (by decide) ?_
      refine xa_ld6 X (pc := 42) d_L_liftForth_42 ((show vp_in (zI 0) 16 from zI_in (by omega) (by omega) (by decide))) ?_
      refine xa_st6 X (pc := 43) d_L_liftForth_43 ((show vp_in (zI 0) 16 from zI_in (by omega) (by omega) (by decide))) ?_
      exact xg_vret X (pc := 44) d_L_liftForth_44 rfl (⟨rfl, rfl, by unfold x_fw; rw [if_pos h8]; (first | rw [if_pos h23] | rw [if_neg h23]) <;> rfl⟩)
    · replace h23 := x_bn h23
      rw [x_odd ha h0 (by omega)] at h23
      refine xg_aload_n X (pc := 26) d_L_liftForth_26 rfl ?_
      refine xf_L_9 X (pc := 27) rfl d_L_liftForth_27 ?_
      refine xg_iconst X (pc := 30) (v := 0) d_L_liftForth_30 (by decide) ?_
      refine xa_ld6 X (pc := 31) d_L_liftForth_31 ((show vp_in (zI 0) 16 from zI_in (by omega) (by omega) (by decide))) ?_
      refine xg_iconst X (pc := 32) (v := 2) d_L_liftForth_32 (by decide) ?_
      refine xg_imul X (pc := 33) d_L_liftForth_33 ?_
      refine xg_goto X (pc := 34) (tgt := 43) d_L_liftForth_34 rfl ?_
      refine xa_st6 X (pc := 43) d_L_liftForth_43 ((show vp_in (zI 0) 16 from zI_in (by omega) (by omega) (by decide))) ?_
      exact xg_vret X (pc := 44) d_L_liftForth_44 rfl (⟨rfl, rfl, by unfold x_fw; rw [if_pos h8]; (first | rw [if_pos h23] | rw [if_neg h23]) <;> rfl⟩)
set_option maxRecDepth 100000 in
set_option maxHeartbeats 4000000 in
theorem c_L_liftBack (hd : x_dis ad) {a b : Int} (ha : sc 6 = zI a) (hb : sc 7 = zI b) (h0 : 0 ≤ a) (h1 : a ≤ b) (h2 : b ≤ a + 15) (h3 : b ≤ 2000) {k : Int32} : x_Con l M_L_liftBack 3 67 ad D cI [.ref (ad 4), .int k] sc ar (x_E none sc (x_ua ar 2 (x_bw k (ar 2) a b))) := by
  refine x_intro hd [some (.ref (ad 4)), some (.int k), none] (by decide) (Nat.le_of_ble_eq_true rfl) rfl ?_
  intro p e s m args below meth c X
  have loop1 : a < b → ∀ (n : Nat) (z : Int), (b + 3 - z).toNat < n → a ≤ z → z ≤ b + 2 → z % 2 = 1 → x_G p l e (x_rm 3 67) s m args below meth c M_L_liftBack ad D cI (x_A ad) 0 0 (x_Q below args s ad D cI (x_E none sc (x_ua ar 2 (x_bw k (ar 2) a b)))) 89 [some (.ref (ad 4)), some (.int k), some (.int (zI z))] [] sc (x_ua ar 2 (x_lp 1 (fun n x => x + x_P k (x_g1 k (ar 2) a b) a b n) (x_g1 k (ar 2) a b) a z)) := by
    intro h1 n
    induction n with
    | zero => intro z h; exact absurd h (Nat.not_lt_zero _)
    | succ n ih =>
      intro z hn hz1 hz2 hzq
      refine xg_iload_n X (pc := 89) d_L_liftBack_89 rfl ?_
      refine xg_aload_n X (pc := 90) d_L_liftBack_90 rfl ?_
      refine xf_L_19 X (pc := 91) rfl d_L_liftBack_91 ?_
      refine xg_icmp_gt X (pc := 94) (tgt := 123) d_L_liftBack_94 rfl (fun h94 => ?_) (fun h94 => ?_)
      · rw [hb, zI_lt b z] at h94
        refine xg_eq rfl (ar' := x_ua ar 2 (x_g2 k (ar 2) a b)) (by unfold x_g2; rw [x_lp_end (b := b) (by omega) (by omega) hzq]) rfl ?_
        exact xg_vret X (pc := 123) d_L_liftBack_123 rfl (⟨rfl, rfl, by unfold x_bw; rw [if_neg (by omega)]⟩)
      · rw [hb, zI_lt b z] at h94
        refine xg_aload_n X (pc := 97) d_L_liftBack_97 rfl ?_
        refine xf_L_9 X (pc := 98) rfl d_L_liftBack_98 ?_
        refine xg_iload_n X (pc := 101) d_L_liftBack_101 rfl ?_
        refine xg_aload_n X (pc := 102) d_L_liftBack_102 rfl ?_
        refine xf_L_15 X (pc := 103) rfl d_L_liftBack_103 ?_
        refine xg_isub X (pc := 106) d_L_liftBack_106 ?_
        refine xg_dup2 X (pc := 107) d_L_liftBack_107 rfl rfl ?_
        refine xa_ld6 X (pc := 108) d_L_liftBack_108 (x_vl_in ha (by omega) (by omega)) ?_
        refine xg_aload_n X (pc := 109) d_L_liftBack_109 rfl ?_
        refine xg_iload_n X (pc := 110) d_L_liftBack_110 rfl ?_
        refine xg_iload_n X (pc := 111) d_L_liftBack_111 rfl ?_
        refine xg_crV2 X (pc := 112) d_L_liftBack_112 (c_L_prediction hd ha hb h0 h1 h2 h3 rfl (by omega) (by omega)) s_L_30 ⟨_, rfl⟩ rfl ⟨by decide, by decide⟩ (Nat.le_of_ble_eq_true rfl) ?_
        refine xg_iadd X (pc := 115) d_L_liftBack_115 ?_
        refine xa_st6 X (pc := 116) d_L_liftBack_116 (x_vl_in ha (by omega) (by omega)) ?_
        refine xg_iinc X (pc := 117) d_L_liftBack_117 rfl (x_inc (by decide : Int32.ofInt (2) = 2) _) (by decide) rfl ?_
        refine xg_goto X (pc := 120) (tgt := 89) d_L_liftBack_120 rfl ?_
        refine xg_weak [some (.ref (ad 4)), some (.int k), some (.int (zI (z + 2)))] ⟨rfl, rfl, by rw [← z_a2], trivial⟩ ?_
        refine xg_eq rfl (ar' := x_ua ar 2 (x_lp 1 (fun n x => x + x_P k (x_g1 k (ar 2) a b) a b n) (x_g1 k (ar 2) a b) a (z + 2))) ?_ rfl (ih (z + 2) (by omega) (by omega) (by omega) (by omega))
        rw [x_ua_ua, x_ua_at, x_vl_cl ha (by omega) (by omega), x_lp_P h1 (by omega) (by omega) hzq]
        exact congrArg _ (x_lp_s (by omega) hzq rfl)
  have loop0 : a < b → x_G p l e (x_rm 3 67) s m args below meth c M_L_liftBack ad D cI (x_A ad) 0 0 (x_Q below args s ad D cI (x_E none sc (x_ua ar 2 (x_bw k (ar 2) a b)))) 84 [some (.ref (ad 4)), some (.int k), none] [] sc (x_ua ar 2 (x_g1 k (ar 2) a b)) → ∀ (n : Nat) (z : Int), (b + 3 - z).toNat < n → a ≤ z → z ≤ b + 2 → z % 2 = 0 → x_G p l e (x_rm 3 67) s m args below meth c M_L_liftBack ad D cI (x_A ad) 0 0 (x_Q below args s ad D cI (x_E none sc (x_ua ar 2 (x_bw k (ar 2) a b)))) 50 [some (.ref (ad 4)), some (.int k), some (.int (zI z))] [] sc (x_ua ar 2 (x_lp 0 (fun n x => x - x_U k (ar 2) a b n) (ar 2) a z)) := by
    intro h1 cont n
    induction n with
    | zero => intro z h; exact absurd h (Nat.not_lt_zero _)
    | succ n ih =>
      intro z hn hz1 hz2 hzq
      refine xg_iload_n X (pc := 50) d_L_liftBack_50 rfl ?_
      refine xg_aload_n X (pc := 51) d_L_liftBack_51 rfl ?_
      refine xf_L_19 X (pc := 52) rfl d_L_liftBack_52 ?_
      refine xg_icmp_gt X (pc := 55) (tgt := 84) d_L_liftBack_55 rfl (fun h55 => ?_) (fun h55 => ?_)
      · rw [hb, zI_lt b z] at h55
        refine xg_eq rfl (ar' := x_ua ar 2 (x_g1 k (ar 2) a b)) (by unfold x_g1; rw [x_lp_end (b := b) (by omega) (by omega) hzq]) rfl ?_
        exact xg_weak [some (.ref (ad 4)), some (.int k), none] ⟨rfl, rfl, trivial⟩ cont
      · rw [hb, zI_lt b z] at h55
        refine xg_aload_n X (pc := 58) d_L_liftBack_58 rfl ?_
        refine xf_L_9 X (pc := 59) rfl d_L_liftBack_59 ?_
        refine xg_iload_n X (pc := 62) d_L_liftBack_62 rfl ?_
        refine xg_aload_n X (pc := 63) d_L_liftBack_63 rfl ?_
        refine xf_L_15 X (pc := 64) rfl d_L_liftBack_64 ?_
        refine xg_isub X (pc := 67) d_L_liftBack_67 ?_
        refine xg_dup2 X (pc := 68) d_L_liftBack_68 rfl rfl ?_
        refine xa_ld6 X (pc := 69) d_L_liftBack_69 (x_vl_in ha (by omega) (by omega)) ?_
        refine xg_aload_n X (pc := 70) d_L_liftBack_70 rfl ?_
        refine xg_iload_n X (pc := 71) d_L_liftBack_71 rfl ?_
        refine xg_iload_n X (pc := 72) d_L_liftBack_72 rfl ?_
        refine xg_crV2 X (pc := 73) d_L_liftBack_73 (c_L_update hd ha hb h0 h1 h2 h3 rfl (by omega) (by omega)) s_L_37 ⟨_, rfl⟩ rfl ⟨by decide, by decide⟩ (Nat.le_of_ble_eq_true rfl) ?_
        refine xg_isub X (pc := 76) d_L_liftBack_76 ?_
        refine xa_st6 X (pc := 77) d_L_liftBack_77 (x_vl_in ha (by omega) (by omega)) ?_
        refine xg_iinc X (pc := 78) d_L_liftBack_78 rfl (x_inc (by decide : Int32.ofInt (2) = 2) _) (by decide) rfl ?_
        refine xg_goto X (pc := 81) (tgt := 50) d_L_liftBack_81 rfl ?_
        refine xg_weak [some (.ref (ad 4)), some (.int k), some (.int (zI (z + 2)))] ⟨rfl, rfl, by rw [← z_a2], trivial⟩ ?_
        refine xg_eq rfl (ar' := x_ua ar 2 (x_lp 0 (fun n x => x - x_U k (ar 2) a b n) (ar 2) a (z + 2))) ?_ rfl (ih (z + 2) (by omega) (by omega) (by omega) (by omega))
        rw [x_ua_ua, x_ua_at, x_vl_cl ha (by omega) (by omega), x_lp_U h1 (by omega) (by omega) hzq]
        exact congrArg _ (x_lp_s (by omega) hzq rfl)
  have cont : a < b → x_G p l e (x_rm 3 67) s m args below meth c M_L_liftBack ad D cI (x_A ad) 0 0 (x_Q below args s ad D cI (x_E none sc (x_ua ar 2 (x_bw k (ar 2) a b)))) 84 [some (.ref (ad 4)), some (.int k), none] [] sc (x_ua ar 2 (x_g1 k (ar 2) a b)) := by
    intro h1
    refine xg_aload_n X (pc := 84) d_L_liftBack_84 rfl ?_
    refine xg_crV0 X (pc := 85) d_L_liftBack_85 (c_L_firstOdd hd) s_L_26 ⟨_, rfl⟩ rfl ⟨by decide, by decide⟩ (Nat.le_of_ble_eq_true rfl) ?_
    refine xg_istore_n X (pc := 88) d_L_liftBack_88 (by decide) rfl ?_
    refine xg_weak [some (.ref (ad 4)), some (.int k), some (.int (zI (x_fo a)))] ⟨rfl, rfl, by rw [x_fo_eq ha h0 (by omega)], trivial⟩ ?_
    refine xg_eq rfl (ar' := x_ua ar 2 (x_lp 1 (fun n x => x + x_P k (x_g1 k (ar 2) a b) a b n) (x_g1 k (ar 2) a b) a (x_fo a))) ?_ rfl (loop1 h1 _ (x_fo a) (Nat.lt_succ_self _) (by unfold x_fo; split <;> omega) (by unfold x_fo; split <;> omega) (by unfold x_fo; split <;> omega))
    rw [x_lp0 (by unfold x_fo; split <;> omega) (by unfold x_fo; split <;> omega)]
  refine xg_aload_n X (pc := 0) d_L_liftBack_0 rfl ?_
  refine xf_L_15 X (pc := 1) rfl d_L_liftBack_1 ?_
  refine xg_aload_n X (pc := 4) d_L_liftBack_4 rfl ?_
  refine xf_L_19 X (pc := 5) rfl d_L_liftBack_5 ?_
  refine xg_icmp_ne X (pc := 8) (tgt := 45) d_L_liftBack_8 rfl (fun h8 => ?_) (fun h8 => ?_)
  · rw [ha, hb, zI_eq a b] at h8
    have h1 : a < b := by omega
    refine xg_aload_n X (pc := 45) d_L_liftBack_45 rfl ?_
    refine xg_crV0 X (pc := 46) d_L_liftBack_46 (c_L_firstEven hd) s_L_34 ⟨_, rfl⟩ rfl ⟨by decide, by decide⟩ (Nat.le_of_ble_eq_true rfl) ?_
    refine xg_istore_n X (pc := 49) d_L_liftBack_49 (by decide) rfl ?_
    have cont := cont h1
    refine xg_weak [some (.ref (ad 4)), some (.int k), some (.int (zI (x_fe a)))] ⟨rfl, rfl, by rw [x_fe_eq ha h0 (by omega)], trivial⟩ ?_
    refine xg_eq rfl (ar' := x_ua ar 2 (x_lp 0 (fun n x => x - x_U k (ar 2) a b n) (ar 2) a (x_fe a))) ?_ rfl (loop0 h1 cont _ (x_fe a) (Nat.lt_succ_self _) (by unfold x_fe; split <;> omega) (by unfold x_fe; split <;> omega) (by unfold x_fe; split <;> omega))
    rw [x_lp0 (by unfold x_fe; split <;> omega) (by unfold x_fe; split <;> omega), x_ua_id]
  · rw [ha, hb, zI_eq a b] at h8
    refine xg_aload_n X (pc := 11) d_L_liftBack_11 rfl ?_
    refine xf_L_9 X (pc := 12) rfl d_L_liftBack_12 ?_
    refine xg_iconst X (pc := 15) (v := 0) d_L_liftBack_15 (by decide) ?_
    refine xg_aload_n X (pc := 16) d_L_liftBack_16 rfl ?_
    refine xf_L_15 X (pc := 17) rfl d_L_liftBack_17 ?_
    refine xg_crS1 X (pc := 20) d_L_liftBack_20 (c_L_isOdd hd) s_L_22 ⟨by decide, by decide⟩ (Nat.le_of_ble_eq_true rfl) ?_
    refine xg_if_eq X (pc := 23) (tgt := 37) d_L_liftBack_23 rfl (fun h23 => ?_) (fun h23 => ?_)
    · replace h23 := x_b0 h23
      rw [x_odd ha h0 (by omega)] at h23
      refine xg_aload_n X (pc := 37) d_L_liftBack_37 rfl ?_
      refine xf_L_9 X (pc := 38) rfl d_L_liftBack_38 ?_
      refine xg_iconst X (pc := 41) (v := 0) d_L_liftBack_41 (by decide) ?_
      refine xa_ld6 X (pc := 42) d_L_liftBack_42 ((show vp_in (zI 0) 16 from zI_in (by omega) (by omega) (by decide))) ?_
      refine xa_st6 X (pc := 43) d_L_liftBack_43 ((show vp_in (zI 0) 16 from zI_in (by omega) (by omega) (by decide))) ?_
      exact xg_vret X (pc := 44) d_L_liftBack_44 rfl (⟨rfl, rfl, by unfold x_bw; rw [if_pos h8]; (first | rw [if_pos h23] | rw [if_neg h23]) <;> rfl⟩)
    · replace h23 := x_bn h23
      rw [x_odd ha h0 (by omega)] at h23
      refine xg_aload_n X (pc := 26) d_L_liftBack_26 rfl ?_
      refine xf_L_9 X (pc := 27) rfl d_L_liftBack_27 ?_
      refine xg_iconst X (pc := 30) (v := 0) d_L_liftBack_30 (by decide) ?_
      refine xa_ld6 X (pc := 31) d_L_liftBack_31 ((show vp_in (zI 0) 16 from zI_in (by omega) (by omega) (by decide))) ?_
      refine xg_iconst X (pc := 32) (v := 1) d_L_liftBack_32 (by decide) ?_
      refine xg_ishr X (pc := 33) d_L_liftBack_33 ?_
      refine xg_goto X (pc := 34) (tgt := 43) d_L_liftBack_34 rfl ?_
      refine xa_st6 X (pc := 43) d_L_liftBack_43 ((show vp_in (zI 0) 16 from zI_in (by omega) (by omega) (by decide))) ?_
      exact xg_vret X (pc := 44) d_L_liftBack_44 rfl (⟨rfl, rfl, by unfold x_bw; rw [if_pos h8]; (first | rw [if_pos h23] | rw [if_neg h23]) <;> rfl⟩)
end C7
