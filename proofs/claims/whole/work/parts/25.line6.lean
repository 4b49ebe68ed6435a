def zI (z : Int) : Int32 := Int32.ofInt z
theorem zI_toInt (z : Int) (h1 : -2147483648 ≤ z := by omega) (h2 : z < 2147483648 := by omega) : (zI z).toInt = z := Int32.toInt_ofInt_of_le (by omega) (by omega)
theorem zI_add (a b : Int) : zI a + zI b = zI (a + b) := (Int32.ofInt_add a b).symm
theorem zI_sub (a b : Int) : zI a - zI b = zI (a - b) := (Int32.ofInt_sub a b).symm
theorem zI_mul (a b : Int) : zI a * zI b = zI (a * b) := (Int32.ofInt_mul a b).symm
theorem zI_lt (a b : Int) (h1 : -2147483648 ≤ a := by omega) (h2 : a < 2147483648 := by omega) (h3 : -2147483648 ≤ b := by omega) (h4 : b < 2147483648 := by omega) : zI a < zI b ↔ a < b := by
  rw [Int32.lt_iff_toInt_lt, zI_toInt a h1 h2, zI_toInt b h3 h4]
theorem zI_le (a b : Int) (h1 : -2147483648 ≤ a := by omega) (h2 : a < 2147483648 := by omega) (h3 : -2147483648 ≤ b := by omega) (h4 : b < 2147483648 := by omega) : zI a ≤ zI b ↔ a ≤ b := by
  rw [Int32.le_iff_toInt_le, zI_toInt a h1 h2, zI_toInt b h3 h4]
theorem zI_eq (a b : Int) (h1 : -2147483648 ≤ a := by omega) (h2 : a < 2147483648 := by omega) (h3 : -2147483648 ≤ b := by omega) (h4 : b < 2147483648 := by omega) : zI a = zI b ↔ a = b := by
  rw [← Int32.toInt_inj, zI_toInt a h1 h2, zI_toInt b h3 h4]
theorem zI_nI (n : Nat) : zI n = nI n := Int32.ofInt_eq_ofNat
theorem zI_in {z : Int} {n : Nat} (h1 : 0 ≤ z) (h2 : z < n) (h3 : n ≤ 1000000) : vp_in (zI z) n := by
  rw [vp_in_iff, zI_toInt z]
  exact ⟨h1, h2⟩
theorem zI_clamp {z : Int} (h1 : 0 ≤ z) (h2 : z < 1000000) : (zI z).toNatClampNeg = z.toNat := by
  have e : zI z = nI z.toNat := by
    rw [← zI_nI, Int.toNat_of_nonneg h1]
  rw [e]
  exact nI_clamp (by omega)
theorem z_1 : (1 : Int32) = zI 1 := by decide
theorem z_2 : (2 : Int32) = zI 2 := by decide
theorem z_3 : (3 : Int32) = zI 3 := by decide
theorem z_a1 (z : Int) : zI z + 1 = zI (z + 1) := by rw [z_1, zI_add]
theorem z_s1 (z : Int) : zI z - 1 = zI (z - 1) := by rw [z_1, zI_sub]
theorem z_a2 (z : Int) : zI z + 2 = zI (z + 2) := by rw [z_2, zI_add]
theorem z_a3 (z : Int) : zI z + 3 = zI (z + 3) := by rw [z_3, zI_add]
theorem z_s3 (z : Int) : zI z - 3 = zI (z - 3) := by rw [z_3, zI_sub]
def x_r1 (a b m : Int) : Int := if m < a then 2 * a - m else if b < m then 2 * b - m else m
def x_rn (a b : Int) : Nat → Int → Int
  | 0, m => m
  | n + 1, m => x_rn a b n (x_r1 a b m)
def x_in (a b m : Int) : Int := x_rn a b 3 m
theorem x_r1_in {a b m : Int} (h1 : a ≤ m) (h2 : m ≤ b) : x_r1 a b m = m := by
  unfold x_r1
  rw [if_neg (by omega), if_neg (by omega)]
theorem x_rn_in {a b m : Int} (h1 : a ≤ m) (h2 : m ≤ b) : ∀ n, x_rn a b n m = m
  | 0 => rfl
  | n + 1 => by
    show x_rn a b n (x_r1 a b m) = m
    rw [x_r1_in h1 h2]
    exact x_rn_in h1 h2 n
theorem x_in_ok {a b m : Int} (h : a < b) (h1 : a - 3 ≤ m) (h2 : m ≤ b + 3) : a ≤ x_in a b m ∧ x_in a b m ≤ b := by
  unfold x_in x_rn x_rn x_rn x_rn x_r1
  repeat' split
  all_goals omega
theorem x_r1_par (a b m : Int) : (x_r1 a b m - m) % 2 = 0 := by
  unfold x_r1
  repeat' split
  all_goals omega
theorem x_in_par (a b m : Int) : (x_in a b m - m) % 2 = 0 := by
  have h1 := x_r1_par a b m
  have h2 := x_r1_par a b (x_r1 a b m)
  have h3 := x_r1_par a b (x_r1 a b (x_r1 a b m))
  show (x_r1 a b (x_r1 a b (x_r1 a b m)) - m) % 2 = 0
  omega
def x_vl (v : Nat → Int32) (a b m : Int) : Int32 := v (x_in a b m - a).toNat
def x_P (k : Int32) (v : Nat → Int32) (a b n : Int) : Int32 := if k = 0 then (x_vl v a b (n - 1) + x_vl v a b (n + 1)) >>> (1 &&& 31) else if k = 1 then x_vl v a b (n - 1) else (9 * (x_vl v a b (n - 1) + x_vl v a b (n + 1)) - (x_vl v a b (n - 3) + x_vl v a b (n + 3)) + 8) >>> (4 &&& 31)
def x_U (k : Int32) (v : Nat → Int32) (a b n : Int) : Int32 := if k = 1 then x_vl v a b (n + 1) >>> (1 &&& 31) else (x_vl v a b (n - 1) + x_vl v a b (n + 1) + 2) >>> (2 &&& 31)
theorem x_vl_in {sc : Nat → Int32} {a m : Int} (ha : sc 6 = zI a) (h1 : a ≤ m) (h2 : m ≤ a + 15) : vp_in (zI m - sc 6) 16 := by
  rw [ha, zI_sub]
  exact zI_in (by omega) (by omega) (by decide)
theorem x_vl_cl {sc : Nat → Int32} {a m : Int} (ha : sc 6 = zI a) (h1 : a ≤ m) (h2 : m ≤ a + 15) : (zI m - sc 6).toNatClampNeg = (m - a).toNat := by
  rw [ha, zI_sub]
  exact zI_clamp (by omega) (by omega)
theorem x_refl {x : Int32} {a m : Int} (ha : x = zI a) : 2 * x - zI m = zI (2 * a - m) := by
  rw [ha, z_2, zI_mul, zI_sub]
section C6
variable {l : Launch} {ad : Nat → Nat} {D : va_G} {cI : ClassId} {sc : Nat → Int32} {ar : Nat → Nat → Int32}
set_option maxRecDepth 100000 in
set_option maxHeartbeats 4000000 in
theorem c_L_value (hd : x_dis ad) {a b : Int} (ha : sc 6 = zI a) (hb : sc 7 = zI b) (h0 : 0 ≤ a) (h1 : a < b) (h2 : b ≤ a + 15) (h3 : b ≤ 2000) {x0 : Int32} {m0 : Int} (hx : x0 = zI m0) (h4 : a - 3 ≤ m0) (h5 : m0 ≤ b + 3) : x_Con l M_L_value 0 0 ad D cI [.ref (ad 4), .int x0] sc ar (x_E (some (.int (x_vl (ar 2) a b m0))) sc ar) := by
  subst hx
  refine x_intro hd [some (.ref (ad 4)), some (.int (zI m0)), none, none] (by decide) (Nat.le_of_ble_eq_true rfl) rfl ?_
  intro p e s m args below meth c X
  have loop : ∀ (n j : Nat) (mm : Int), j + n ≤ 7 → a - 20 ≤ mm → mm ≤ b + 20 → x_rn a b n mm = x_in a b m0 → x_G p l e (x_rm 0 0) s m args below meth c M_L_value ad D cI (x_A ad) 0 0 (x_Q below args s ad D cI (x_E (some (.int (x_vl (ar 2) a b m0))) sc ar)) 4 [some (.ref (ad 4)), some (.int (zI m0)), some (.int (zI mm)), some (.int (nI j))] [] sc ar := by
    intro n
    induction n with
    | zero =>
      intro j mm hj hm1 hm2 he
      refine xg_iload_n X (pc := 4) d_L_value_4 rfl ?_
      refine xg_bipush X (pc := 5) (v := 8) d_L_value_5 (by decide) ?_
      refine xg_icmp_ge X (pc := 7) (tgt := 60) d_L_value_7 rfl (fun h7 => ?_) (fun h7 => ?_)
      · exact absurd (x_ge (n := 8) rfl (by decide) (by omega) h7) (by omega)
      refine xg_iload_n X (pc := 10) d_L_value_10 rfl ?_
      refine xg_aload_n X (pc := 11) d_L_value_11 rfl ?_
      refine xf_L_15 X (pc := 12) rfl d_L_value_12 ?_
      refine xg_icmp_lt X (pc := 15) (tgt := 26) d_L_value_15 rfl (fun h15 => ?_) (fun h15 => ?_)
      · rw [ha, zI_lt mm a] at h15
        exfalso
        have hm : a ≤ mm ∧ mm ≤ b := by have := x_in_ok h1 h4 h5; rw [← he] at this; exact this
        omega
      rw [ha, zI_lt mm a] at h15
      refine xg_iload_n X (pc := 18) d_L_value_18 rfl ?_
      refine xg_aload_n X (pc := 19) d_L_value_19 rfl ?_
      refine xf_L_19 X (pc := 20) rfl d_L_value_20 ?_
      refine xg_icmp_le X (pc := 23) (tgt := 60) d_L_value_23 rfl (fun h23 => ?_) (fun h23 => ?_)
      · rw [hb, zI_le mm b] at h23
        have e0 : x_in a b m0 = mm := by rw [← he]; exact rfl
        refine xg_aload_n X (pc := 60) d_L_value_60 rfl ?_
        refine xf_L_9 X (pc := 61) rfl d_L_value_61 ?_
        refine xg_iload_n X (pc := 64) d_L_value_64 rfl ?_
        refine xg_aload_n X (pc := 65) d_L_value_65 rfl ?_
        refine xf_L_15 X (pc := 66) rfl d_L_value_66 ?_
        refine xg_isub X (pc := 69) d_L_value_69 ?_
        refine xa_ld6 X (pc := 70) d_L_value_70 (x_vl_in ha (by omega) (by omega)) ?_
        exact xg_iret X (pc := 71) d_L_value_71 rfl (rfl) (by rw [x_vl_cl ha (by omega) (by omega)]; exact ⟨by unfold x_vl; rw [e0], rfl, rfl⟩)
      rw [hb, zI_le mm b] at h23
      exfalso
      have hm : a ≤ mm ∧ mm ≤ b := by have := x_in_ok h1 h4 h5; rw [← he] at this; exact this
      omega
    | succ n ih =>
      intro j mm hj hm1 hm2 he
      refine xg_iload_n X (pc := 4) d_L_value_4 rfl ?_
      refine xg_bipush X (pc := 5) (v := 8) d_L_value_5 (by decide) ?_
      refine xg_icmp_ge X (pc := 7) (tgt := 60) d_L_value_7 rfl (fun h7 => ?_) (fun h7 => ?_)
      · exact absurd (x_ge (n := 8) rfl (by decide) (by omega) h7) (by omega)
      refine xg_iload_n X (pc := 10) d_L_value_10 rfl ?_
      refine xg_aload_n X (pc := 11) d_L_value_11 rfl ?_
      refine xf_L_15 X (pc := 12) rfl d_L_value_12 ?_
      refine xg_icmp_lt X (pc := 15) (tgt := 26) d_L_value_15 rfl (fun h15 => ?_) (fun h15 => ?_)
      · rw [ha, zI_lt mm a] at h15
        refine xg_iload_n X (pc := 26) d_L_value_26 rfl ?_
        refine xg_aload_n X (pc := 27) d_L_value_27 rfl ?_
        refine xf_L_15 X (pc := 28) rfl d_L_value_28 ?_
        refine xg_icmp_ge X (pc := 31) (tgt := 45) d_L_value_31 rfl (fun h31 => ?_) (fun h31 => ?_)
        · rw [ha, zI_le a mm] at h31
          refine xg_iconst X (pc := 45) (v := 2) d_L_value_45 (by decide) ?_
          refine xg_aload_n X (pc := 46) d_L_value_46 rfl ?_
          refine xf_L_19 X (pc := 47) rfl d_L_value_47 ?_
          refine xg_imul X (pc := 50) d_L_value_50 ?_
          refine xg_iload_n X (pc := 51) d_L_value_51 rfl ?_
          refine xg_isub X (pc := 52) d_L_value_52 ?_
          refine xg_istore_n X (pc := 53) d_L_value_53 (by decide) rfl ?_
          refine xg_iinc X (pc := 54) d_L_value_54 rfl (x_inc (by decide : Int32.ofInt (1) = 1) _) (by decide) rfl ?_
          refine xg_goto X (pc := 57) (tgt := 4) d_L_value_57 rfl ?_
          refine xg_weak [some (.ref (ad 4)), some (.int (zI m0)), some (.int (zI (x_r1 a b mm))), some (.int (nI (j + 1)))] ⟨rfl, rfl, by rw [x_refl hb]; unfold x_r1; rw [if_neg (by omega), if_pos (by omega)], by rw [← x_k1], trivial⟩ ?_
          exact ih (j + 1) (x_r1 a b mm) (by omega) (by unfold x_r1; repeat' split; all_goals omega) (by unfold x_r1; repeat' split; all_goals omega) he
        rw [ha, zI_le a mm] at h31
        refine xg_iconst X (pc := 34) (v := 2) d_L_value_34 (by decide) ?_
        refine xg_aload_n X (pc := 35) d_L_value_35 rfl ?_
        refine xf_L_15 X (pc := 36) rfl d_L_value_36 ?_
        refine xg_imul X (pc := 39) d_L_value_39 ?_
        refine xg_iload_n X (pc := 40) d_L_value_40 rfl ?_
        refine xg_isub X (pc := 41) d_L_value_41 ?_
        refine xg_goto X (pc := 42) (tgt := 53) d_L_value_42 rfl ?_
        refine xg_istore_n X (pc := 53) d_L_value_53 (by decide) rfl ?_
        refine xg_iinc X (pc := 54) d_L_value_54 rfl (x_inc (by decide : Int32.ofInt (1) = 1) _) (by decide) rfl ?_
        refine xg_goto X (pc := 57) (tgt := 4) d_L_value_57 rfl ?_
        refine xg_weak [some (.ref (ad 4)), some (.int (zI m0)), some (.int (zI (x_r1 a b mm))), some (.int (nI (j + 1)))] ⟨rfl, rfl, by rw [x_refl ha]; unfold x_r1; rw [if_pos (by omega)], by rw [← x_k1], trivial⟩ ?_
        exact ih (j + 1) (x_r1 a b mm) (by omega) (by unfold x_r1; repeat' split; all_goals omega) (by unfold x_r1; repeat' split; all_goals omega) he
      rw [ha, zI_lt mm a] at h15
      refine xg_iload_n X (pc := 18) d_L_value_18 rfl ?_
      refine xg_aload_n X (pc := 19) d_L_value_19 rfl ?_
      refine xf_L_19 X (pc := 20) rfl d_L_value_20 ?_
      refine xg_icmp_le X (pc := 23) (tgt := 60) d_L_value_23 rfl (fun h23 => ?_) (fun h23 => ?_)
      · rw [hb, zI_le mm b] at h23
        have e0 : x_in a b m0 = mm := by rw [← he]; exact x_rn_in (by omega) (by omega) _
        refine xg_aload_n X (pc := 60) d_L_value_60 rfl ?_
        refine xf_L_9 X (pc := 61) rfl d_L_value_61 ?_
        refine xg_iload_n X (pc := 64) d_L_value_64 rfl ?_
        refine xg_aload_n X (pc := 65) d_L_value_65 rfl ?_
        refine xf_L_15 X (pc := 66) rfl d_L_value_66 ?_
        refine xg_isub X (pc := 69) d_L_value_69 ?_
        refine xa_ld6 X (pc := 70) d_L_value_70 (x_vl_in ha (by omega) (by omega)) ?_
        exact xg_iret X (pc := 71) d_L_value_71 rfl (rfl) (by rw [x_vl_cl ha (by omega) (by omega)]; exact ⟨by unfold x_vl; rw [e0], rfl, rfl⟩)
      rw [hb, zI_le mm b] at h23
      refine xg_iload_n X (pc := 26) d_L_value_26 rfl ?_
      refine xg_aload_n X (pc := 27) d_L_value_27 rfl ?_
      refine xf_L_15 X (pc := 28) rfl d_L_value_28 ?_
      refine xg_icmp_ge X (pc := 31) (tgt := 45) d_L_value_31 rfl (fun h31 => ?_) (fun h31 => ?_)
      · rw [ha, zI_le a mm] at h31
        refine xg_iconst X (pc := 45) (v := 2) d_L_value_45 (by decide) ?_
        refine xg_aload_n X (pc := 46) d_L_value_46 rfl ?_
        refine xf_L_19 X (pc := 47) rfl d_L_value_47 ?_
        refine xg_imul X (pc := 50) d_L_value_50 ?_
        refine xg_iload_n X (pc := 51) d_L_value_51 rfl ?_
        refine xg_isub X (pc := 52) d_L_value_52 ?_
        refine xg_istore_n X (pc := 53) d_L_value_53 (by decide) rfl ?_
        refine xg_iinc X (pc := 54) d_L_value_54 rfl (x_inc (by decide : Int32.ofInt (1) = 1) _) (by decide) rfl ?_
        refine xg_goto X (pc := 57) (tgt := 4) d_L_value_57 rfl ?_
        refine xg_weak [some (.ref (ad 4)), some (.int (zI m0)), some (.int (zI (x_r1 a b mm))), some (.int (nI (j + 1)))] ⟨rfl, rfl, by rw [x_refl hb]; unfold x_r1; rw [if_neg (by omega), if_pos (by omega)], by rw [← x_k1], trivial⟩ ?_
        exact ih (j + 1) (x_r1 a b mm) (by omega) (by unfold x_r1; repeat' split; all_goals omega) (by unfold x_r1; repeat' split; all_goals omega) he
      rw [ha, zI_le a mm] at h31
      refine xg_iconst X (pc := 34) (v := 2) d_L_value_34 (by decide) ?_
      refine xg_aload_n X (pc := 35) d_L_value_35 rfl ?_
      refine xf_L_15 X (pc := 36) rfl d_L_value_36 ?_
      refine xg_imul X (pc := 39) d_L_value_39 ?_
      refine xg_iload_n X (pc := 40) d_L_value_40 rfl ?_
      refine xg_isub X (pc := 41) d_L_value_41 ?_
      refine xg_goto X (pc := 42) (tgt := 53) d_L_value_42 rfl ?_
      refine xg_istore_n X (pc := 53) d_L_value_53 (by decide) rfl ?_
      refine xg_iinc X (pc := 54) d_L_value_54 rfl (x_inc (by decide : Int32.ofInt (1) = 1) _) (by decide) rfl ?_
      refine xg_goto X (pc := 57) (tgt := 4) d_L_value_57 rfl ?_
      refine xg_weak [some (.ref (ad 4)), some (.int (zI m0)), some (.int (zI (x_r1 a b mm))), some (.int (nI (j + 1)))] ⟨rfl, rfl, by rw [x_refl ha]; unfold x_r1; rw [if_pos (by omega)], by rw [← x_k1], trivial⟩ ?_
      exact ih (j + 1) (x_r1 a b mm) (by omega) (by unfold x_r1; repeat' split; all_goals omega) (by unfold x_r1; repeat' split; all_goals omega) he
  refine xg_iload_n X (pc := 0) d_L_value_0 rfl ?_
  refine xg_istore_n X (pc := 1) d_L_value_1 (by decide) rfl ?_
  refine xg_iconst X (pc := 2) (v := 0) d_L_value_2 (by decide) ?_
  refine xg_istore_n X (pc := 3) d_L_value_3 (by decide) rfl ?_
  refine xg_weak [some (.ref (ad 4)), some (.int (zI m0)), some (.int (zI m0)), some (.int (nI 0))] ⟨rfl, rfl, rfl, rfl, trivial⟩ ?_
  exact loop 3 0 m0 (by omega) (by omega) (by omega) rfl
set_option maxRecDepth 100000 in
set_option maxHeartbeats 4000000 in
theorem c_L_neighbours (hd : x_dis ad) {a b : Int} (ha : sc 6 = zI a) (hb : sc 7 = zI b) (h0 : 0 ≤ a) (h1 : a < b) (h2 : b ≤ a + 15) (h3 : b ≤ 2000) {n r : Int} {x0 y0 : Int32} (hx : x0 = zI n) (hy : y0 = zI r) (h4 : a ≤ n) (h5 : n ≤ b) (h6 : 0 ≤ r) (h7 : r ≤ 3) : x_Con l M_L_neighbours 1 23 ad D cI [.ref (ad 4), .int x0, .int y0] sc ar (x_E (some (.int (x_vl (ar 2) a b (n - r) + x_vl (ar 2) a b (n + r)))) sc ar) := by
  subst hx
  subst hy
  refine x_intro hd [some (.ref (ad 4)), some (.int (zI n)), some (.int (zI r))] (by decide) (Nat.le_of_ble_eq_true rfl) rfl ?_
  intro p e s m args below meth c X
  refine xg_aload_n X (pc := 0) d_L_neighbours_0 rfl ?_
  refine xg_iload_n X (pc := 1) d_L_neighbours_1 rfl ?_
  refine xg_iload_n X (pc := 2) d_L_neighbours_2 rfl ?_
  refine xg_isub X (pc := 3) d_L_neighbours_3 ?_
  refine xg_crV1 X (pc := 4) d_L_neighbours_4 (c_L_value hd ha hb h0 h1 h2 h3 (zI_sub n r) (by omega) (by omega)) s_L_43 ⟨_, rfl⟩ rfl ⟨by decide, by decide⟩ (Nat.le_of_ble_eq_true rfl) ?_
  refine xg_aload_n X (pc := 7) d_L_neighbours_7 rfl ?_
  refine xg_iload_n X (pc := 8) d_L_neighbours_8 rfl ?_
  refine xg_iload_n X (pc := 9) d_L_neighbours_9 rfl ?_
  refine xg_iadd X (pc := 10) d_L_neighbours_10 ?_
  refine xg_crV1 X (pc := 11) d_L_neighbours_11 (c_L_value hd ha hb h0 h1 h2 h3 (zI_add n r) (by omega) (by omega)) s_L_43 ⟨_, rfl⟩ rfl ⟨by decide, by decide⟩ (Nat.le_of_ble_eq_true rfl) ?_
  refine xg_iadd X (pc := 14) d_L_neighbours_14 ?_
  exact xg_iret X (pc := 15) d_L_neighbours_15 rfl (rfl) (⟨rfl, rfl, rfl⟩)
set_option maxRecDepth 100000 in
set_option maxHeartbeats 4000000 in
theorem c_L_update (hd : x_dis ad) {a b : Int} (ha : sc 6 = zI a) (hb : sc 7 = zI b) (h0 : 0 ≤ a) (h1 : a < b) (h2 : b ≤ a + 15) (h3 : b ≤ 2000) {n : Int} {k x0 : Int32} (hx : x0 = zI n) (h4 : a ≤ n) (h5 : n ≤ b) : x_Con l M_L_update 2 45 ad D cI [.ref (ad 4), .int k, .int x0] sc ar (x_E (some (.int (x_U k (ar 2) a b n))) sc ar) := by
  subst hx
  refine x_intro hd [some (.ref (ad 4)), some (.int k), some (.int (zI n))] (by decide) (Nat.le_of_ble_eq_true rfl) rfl ?_
  intro p e s m args below meth c X
  refine xg_iload_n X (pc := 0) d_L_update_0 rfl ?_
  refine xg_iconst X (pc := 1) (v := 1) d_L_update_1 (by decide) ?_
  refine xg_icmp_ne X (pc := 2) (tgt := 17) d_L_update_2 rfl (fun i2 => ?_) (fun i2 => ?_)
  · refine xg_aload_n X (pc := 17) d_L_update_17 rfl ?_
    refine xg_iload_n X (pc := 18) d_L_update_18 rfl ?_
    refine xg_iconst X (pc := 19) (v := 1) d_L_update_19 (by decide) ?_
    refine xg_crV2 X (pc := 20) d_L_update_20 (c_L_neighbours hd ha hb h0 h1 h2 h3 rfl z_1 h4 h5 (by omega) (by omega)) s_L_40 ⟨_, rfl⟩ rfl ⟨by decide, by decide⟩ (Nat.le_of_ble_eq_true rfl) ?_
    refine xg_iconst X (pc := 23) (v := 2) d_L_update_23 (by decide) ?_
    refine xg_iadd X (pc := 24) d_L_update_24 ?_
    refine xg_iconst X (pc := 25) (v := 2) d_L_update_25 (by decide) ?_
    refine xg_ishr X (pc := 26) d_L_update_26 ?_
    exact xg_iret X (pc := 27) d_L_update_27 rfl (rfl) (⟨by unfold x_U; (repeat' split) <;> first | rfl | (exfalso; simp_all), rfl, rfl⟩)
  · refine xg_aload_n X (pc := 5) d_L_update_5 rfl ?_
    refine xg_iload_n X (pc := 6) d_L_update_6 rfl ?_
    refine xg_iconst X (pc := 7) (v := 1) d_L_update_7 (by decide) ?_
    refine xg_iadd X (pc := 8) d_L_update_8 ?_
    refine xg_crV1 X (pc := 9) d_L_update_9 (c_L_value hd ha hb h0 h1 h2 h3 (z_a1 n) (by omega) (by omega)) s_L_43 ⟨_, rfl⟩ rfl ⟨by decide, by decide⟩ (Nat.le_of_ble_eq_true rfl) ?_
    refine xg_iconst X (pc := 12) (v := 1) d_L_update_12 (by decide) ?_
    refine xg_ishr X (pc := 13) d_L_update_13 ?_
    refine xg_goto X (pc := 14) (tgt := 27) d_L_update_14 rfl ?_
    exact xg_iret X (pc := 27) d_L_update_27 rfl (rfl) (⟨by unfold x_U; (repeat' split) <;> first | rfl | (exfalso; simp_all), rfl, rfl⟩)
end C6
