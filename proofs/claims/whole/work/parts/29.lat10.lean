def x_cd (x p : Nat) : Nat := (x + 2 ^ p - 1) / 2 ^ p
theorem x_cd_lt {x p k : Nat} : k * 2 ^ p < x ↔ k < x_cd x p := by
  have hs : 0 < 2 ^ p := Nat.two_pow_pos p
  unfold x_cd
  generalize 2 ^ p = t at hs
  rw [Nat.lt_iff_add_one_le (m := k), Nat.le_div_iff_mul_le hs, Nat.succ_mul]
  omega
theorem x_cd_le {x p k : Nat} : x_cd x p ≤ k ↔ x ≤ k * 2 ^ p := by
  have := @x_cd_lt x p k
  omega
theorem x_cd_mono {x y p : Nat} (h : x ≤ y) : x_cd x p ≤ x_cd y p := Nat.div_le_div_right (by omega)
def x_fg (f g : Nat → Int32) (n : Nat) : Nat → Int32 := fun i => if i < n then g i else f i
theorem x_fg0 {f g : Nat → Int32} : x_fg f g 0 = f := by
  funext i
  unfold x_fg
  rw [if_neg (Nat.not_lt_zero i)]
theorem x_fgs {f g : Nat → Int32} {k : Nat} : upd (x_fg f g k) k (g k) = x_fg f g (k + 1) := by
  funext i
  unfold upd x_fg
  by_cases h : i = k
  · rw [if_pos h, if_pos (by omega), h]
  · rw [if_neg h]
    by_cases h2 : i < k
    · rw [if_pos h2, if_pos (by omega)]
    · rw [if_neg h2, if_neg (by omega)]
theorem x_fg_lt {f g : Nat → Int32} {n i : Nat} (h : i < n) : x_fg f g n i = g i := if_pos h
def x_wr (f v : Nat → Int32) (c st : Nat) : Nat → Nat → Int32
  | 0 => f
  | k + 1 => upd (x_wr f v c st k) (c + k * st) (v k)
theorem x_ixI {c st k : Nat} : nI c + nI k * nI st = nI (c + k * st) := by rw [pk_mul, nI_add]
section C10
variable {l : Launch} {ad : Nat → Nat} {D : va_G} {cI : ClassId} {sc : Nat → Int32} {ar : Nat → Nat → Int32}
set_option maxRecDepth 100000 in
set_option maxHeartbeats 4000000 in
theorem c_L_readFrom (hd : x_dis ad) {a : Int} {cc0 st n0 : Nat} {y1 y2 y3 y4 : Int32} (e1 : y1 = nI cc0) (e2 : y2 = nI st) (e3 : y3 = zI a) (e4 : y4 = nI n0) (hn0 : n0 ≤ 16) (hin : ∀ k, k < n0 → cc0 + k * st < 768) : x_Con l M_L_readFrom 0 0 ad D cI [.ref (ad 4), .ref (ad 1), .int y1, .int y2, .int y3, .int y4] sc ar (x_E none (upd (upd sc 6 (zI a)) 7 (zI (a + (n0 : Int) - 1))) (x_ua ar 2 (x_fg (ar 2) (fun i => ar 0 (cc0 + i * st)) n0))) := by
  subst e1
  subst e2
  subst e3
  subst e4
  refine x_intro hd [some (.ref (ad 4)), some (.ref (ad 1)), some (.int (nI cc0)), some (.int (nI st)), some (.int (zI a)), some (.int (nI n0)), none] (by decide) (Nat.le_of_ble_eq_true rfl) rfl ?_
  intro p e s m args below meth c X
  have loop : ∀ n k : Nat, n0 - k < n → k ≤ n0 → x_G p l e (x_rm 0 0) s m args below meth c M_L_readFrom ad D cI (x_A ad) 0 0 (x_Q below args s ad D cI (x_E none (upd (upd sc 6 (zI a)) 7 (zI (a + (n0 : Int) - 1))) (x_ua ar 2 (x_fg (ar 2) (fun i => ar 0 (cc0 + i * st)) n0)))) 20 [some (.ref (ad 4)), some (.ref (ad 1)), some (.int (nI cc0)), some (.int (nI st)), some (.int (zI a)), some (.int (nI n0)), some (.int (nI k))] [] (upd (upd sc 6 (zI a)) 7 (zI (a + (n0 : Int) - 1))) (x_ua ar 2 (x_fg (ar 2) (fun i => ar 0 (cc0 + i * st)) k)) := by
    intro n
    induction n with
    | zero => intro k h _; exact absurd h (Nat.not_lt_zero _)
    | succ n ih =>
      intro k hn hk
      refine xg_iload X (pc := 20) d_L_readFrom_20 rfl ?_
      refine xg_iload X (pc := 22) d_L_readFrom_22 rfl ?_
      refine xg_icmp_ge X (pc := 24) (tgt := 48) d_L_readFrom_24 rfl (fun h24 => ?_) (fun h24 => ?_)
      · have hk2 : k = n0 := Nat.le_antisymm hk (x_ge rfl (by omega) (by omega) h24)
        subst hk2
        exact xg_vret X (pc := 48) d_L_readFrom_48 rfl (⟨rfl, rfl, rfl⟩)
      · have hk3 : k < n0 := x_nge rfl (by omega) (by omega) h24
        refine xg_aload_n X (pc := 27) d_L_readFrom_27 rfl ?_
        refine xf_L_9 X (pc := 28) rfl d_L_readFrom_28 ?_
        refine xg_iload X (pc := 31) d_L_readFrom_31 rfl ?_
        refine xg_aload_n X (pc := 33) d_L_readFrom_33 rfl ?_
        refine xg_iload_n X (pc := 34) d_L_readFrom_34 rfl ?_
        refine xg_iload X (pc := 35) d_L_readFrom_35 rfl ?_
        refine xg_iload_n X (pc := 37) d_L_readFrom_37 rfl ?_
        refine xg_imul X (pc := 38) d_L_readFrom_38 ?_
        refine xg_iadd X (pc := 39) d_L_readFrom_39 ?_
        refine xa_ld1 X (pc := 40) d_L_readFrom_40 (by rw [x_ixI]; exact vp_in_nI (hin k hk3) (by decide)) ?_
        refine xa_st6 X (pc := 41) d_L_readFrom_41 (vp_in_nI (by omega) (by decide)) ?_
        refine xg_iinc X (pc := 42) d_L_readFrom_42 rfl (x_inc (by decide : Int32.ofInt (1) = 1) _) (by decide) rfl ?_
        refine xg_goto X (pc := 45) (tgt := 20) d_L_readFrom_45 rfl ?_
        refine xg_weak [some (.ref (ad 4)), some (.ref (ad 1)), some (.int (nI cc0)), some (.int (nI st)), some (.int (zI a)), some (.int (nI n0)), some (.int (nI (k + 1)))] ⟨rfl, rfl, rfl, rfl, rfl, rfl, by rw [← x_k1], trivial⟩ ?_
        refine xg_eq rfl (ar' := x_ua ar 2 (x_fg (ar 2) (fun i => ar 0 (cc0 + i * st)) (k + 1))) ?_ rfl (ih (k + 1) (by omega) (by omega))
        rw [x_ua_ua, x_ua_at, x_ixI, nI_clamp (by omega), nI_clamp (by have := hin k hk3; omega)]
        exact congrArg _ x_fgs
  refine xg_aload_n X (pc := 0) d_L_readFrom_0 rfl ?_
  refine xg_iload X (pc := 1) d_L_readFrom_1 rfl ?_
  refine xp_L_15 X (pc := 3) rfl d_L_readFrom_3 ?_
  refine xg_aload_n X (pc := 6) d_L_readFrom_6 rfl ?_
  refine xg_iload X (pc := 7) d_L_readFrom_7 rfl ?_
  refine xg_iload X (pc := 9) d_L_readFrom_9 rfl ?_
  refine xg_iadd X (pc := 11) d_L_readFrom_11 ?_
  refine xg_iconst X (pc := 12) (v := 1) d_L_readFrom_12 (by decide) ?_
  refine xg_isub X (pc := 13) d_L_readFrom_13 ?_
  refine xp_L_19 X (pc := 14) rfl d_L_readFrom_14 ?_
  refine xg_iconst X (pc := 17) (v := 0) d_L_readFrom_17 (by decide) ?_
  refine xg_istore X (pc := 18) d_L_readFrom_18 (by decide) rfl ?_
  refine xg_weak [some (.ref (ad 4)), some (.ref (ad 1)), some (.int (nI cc0)), some (.int (nI st)), some (.int (zI a)), some (.int (nI n0)), some (.int (nI 0))] ⟨rfl, rfl, rfl, rfl, rfl, rfl, rfl, trivial⟩ ?_
  exact xg_eq (by rw [← zI_nI, zI_add, z_s1]) (by rw [x_fg0, x_ua_id]) rfl (loop (n0 + 1) 0 (by omega) (by omega))
set_option maxRecDepth 100000 in
set_option maxHeartbeats 4000000 in
theorem c_L_writeTo (hd : x_dis ad) {a : Int} {cc0 st n0 : Nat} {y1 y2 : Int32} (e1 : y1 = nI cc0) (e2 : y2 = nI st) (ha : sc 6 = zI a) (hb : sc 7 = zI (a + (n0 : Int) - 1)) (h0 : 0 ≤ a) (h3 : a ≤ 2000) (hn0 : n0 ≤ 16) (hin : ∀ k, k < n0 → cc0 + k * st < 768) : x_Con l M_L_writeTo 0 0 ad D cI [.ref (ad 4), .ref (ad 1), .int y1, .int y2] sc ar (x_E none sc (x_ua ar 0 (x_wr (ar 0) (ar 2) cc0 st n0))) := by
  subst e1
  subst e2
  refine x_intro hd [some (.ref (ad 4)), some (.ref (ad 1)), some (.int (nI cc0)), some (.int (nI st)), none] (by decide) (Nat.le_of_ble_eq_true rfl) rfl ?_
  intro p e s m args below meth c X
  have loop : ∀ n k : Nat, n0 - k < n → k ≤ n0 → x_G p l e (x_rm 0 0) s m args below meth c M_L_writeTo ad D cI (x_A ad) 0 0 (x_Q below args s ad D cI (x_E none sc (x_ua ar 0 (x_wr (ar 0) (ar 2) cc0 st n0)))) 3 [some (.ref (ad 4)), some (.ref (ad 1)), some (.int (nI cc0)), some (.int (nI st)), some (.int (nI k))] [] sc (x_ua ar 0 (x_wr (ar 0) (ar 2) cc0 st k)) := by
    intro n
    induction n with
    | zero => intro k h _; exact absurd h (Nat.not_lt_zero _)
    | succ n ih =>
      intro k hn hk
      refine xg_iload X (pc := 3) d_L_writeTo_3 rfl ?_
      refine xg_aload_n X (pc := 5) d_L_writeTo_5 rfl ?_
      refine xf_L_19 X (pc := 6) rfl d_L_writeTo_6 ?_
      refine xg_aload_n X (pc := 9) d_L_writeTo_9 rfl ?_
      refine xf_L_15 X (pc := 10) rfl d_L_writeTo_10 ?_
      refine xg_isub X (pc := 13) d_L_writeTo_13 ?_
      refine xg_icmp_gt X (pc := 14) (tgt := 38) d_L_writeTo_14 rfl (fun h14 => ?_) (fun h14 => ?_)
      · have e9 : sc 7 - sc 6 = zI ((n0 : Int) - 1) := by rw [ha, hb, zI_sub]; congr 1; omega
        rw [e9, ← zI_nI, zI_lt _ _] at h14
        have hk2 : k = n0 := by omega
        subst hk2
        exact xg_vret X (pc := 38) d_L_writeTo_38 rfl (⟨rfl, rfl, rfl⟩)
      · have e9 : sc 7 - sc 6 = zI ((n0 : Int) - 1) := by rw [ha, hb, zI_sub]; congr 1; omega
        rw [e9, ← zI_nI, zI_lt _ _] at h14
        have hk3 : k < n0 := by omega
        refine xg_aload_n X (pc := 17) d_L_writeTo_17 rfl ?_
        refine xg_iload_n X (pc := 18) d_L_writeTo_18 rfl ?_
        refine xg_iload X (pc := 19) d_L_writeTo_19 rfl ?_
        refine xg_iload_n X (pc := 21) d_L_writeTo_21 rfl ?_
        refine xg_imul X (pc := 22) d_L_writeTo_22 ?_
        refine xg_iadd X (pc := 23) d_L_writeTo_23 ?_
        refine xg_aload_n X (pc := 24) d_L_writeTo_24 rfl ?_
        refine xf_L_9 X (pc := 25) rfl d_L_writeTo_25 ?_
        refine xg_iload X (pc := 28) d_L_writeTo_28 rfl ?_
        refine xa_ld6 X (pc := 30) d_L_writeTo_30 (vp_in_nI (by omega) (by decide)) ?_
        refine xa_st1 X (pc := 31) d_L_writeTo_31 (by rw [x_ixI]; exact vp_in_nI (hin k hk3) (by decide)) ?_
        refine xg_iinc X (pc := 32) d_L_writeTo_32 rfl (x_inc (by decide : Int32.ofInt (1) = 1) _) (by decide) rfl ?_
        refine xg_goto X (pc := 35) (tgt := 3) d_L_writeTo_35 rfl ?_
        refine xg_weak [some (.ref (ad 4)), some (.ref (ad 1)), some (.int (nI cc0)), some (.int (nI st)), some (.int (nI (k + 1)))] ⟨rfl, rfl, rfl, rfl, by rw [← x_k1], trivial⟩ ?_
        refine xg_eq rfl (ar' := x_ua ar 0 (x_wr (ar 0) (ar 2) cc0 st (k + 1))) ?_ rfl (ih (k + 1) (by omega) (by omega))
        rw [x_ua_ua, x_ua_at, x_ixI, nI_clamp (n := cc0 + k * st) (by have := hin k hk3; omega), nI_clamp (n := k) (by omega)]
        rfl
  refine xg_iconst X (pc := 0) (v := 0) d_L_writeTo_0 (by decide) ?_
  refine xg_istore X (pc := 1) d_L_writeTo_1 (by decide) rfl ?_
  refine xg_weak [some (.ref (ad 4)), some (.ref (ad 1)), some (.int (nI cc0)), some (.int (nI st)), some (.int (nI 0))] ⟨rfl, rfl, rfl, rfl, rfl, trivial⟩ ?_
  exact xg_eq rfl (x_ua_id).symm rfl (loop (n0 + 1) 0 (by omega) (by omega))
set_option maxRecDepth 100000 in
set_option maxHeartbeats 4000000 in
theorem c_R_from (hd : x_dis ad) {n0 q : Nat} (hn : n0 ≤ 3000) (hq : q ≤ 4) : x_Con l M_R_from 0 0 ad D cI [.int (nI n0), .int (nI (2 ^ q))] sc ar (x_E (some (.int (nI (x_cd n0 q)))) sc ar) := by
  have hsm : ∀ k, k ≤ x_cd n0 q → k * 2 ^ q < 2 ^ 31 := by
    intro k hk
    have h9 : k ≤ 3000 := by
      have : x_cd n0 q ≤ n0 := x_cd_le.mpr (by have := Nat.mul_le_mul_left n0 (Nat.one_le_two_pow (n := q)); omega)
      omega
    have h8 : 2 ^ q ≤ 2 ^ 4 := Nat.pow_le_pow_right (by decide) hq
    have := Nat.mul_le_mul h9 h8
    omega
  refine x_intro hd [some (.int (nI n0)), some (.int (nI (2 ^ q))), none] (by decide) (Nat.le_of_ble_eq_true rfl) rfl ?_
  intro p e s m args below meth c X
  have loop : ∀ n k : Nat, (x_cd n0 q) - k < n → k ≤ (x_cd n0 q) → x_G p l e (x_rm 0 0) s m args below meth c M_R_from ad D cI (x_A ad) 0 0 (x_Q below args s ad D cI (x_E (some (.int (nI (x_cd n0 q)))) sc ar)) 2 [some (.int (nI n0)), some (.int (nI (2 ^ q))), some (.int (nI k))] [] sc ar := by
    intro n
    induction n with
    | zero => intro k h _; exact absurd h (Nat.not_lt_zero _)
    | succ n ih =>
      intro k hn hk
      refine xg_iload_n X (pc := 2) d_R_from_2 rfl ?_
      refine xg_iload_n X (pc := 3) d_R_from_3 rfl ?_
      refine xg_imul X (pc := 4) d_R_from_4 ?_
      refine xg_iload_n X (pc := 5) d_R_from_5 rfl ?_
      refine xg_icmp_ge X (pc := 6) (tgt := 15) d_R_from_6 rfl (fun h6 => ?_) (fun h6 => ?_)
      · rw [pk_mul] at h6
        have hk2 : k = x_cd n0 q := by
          have h9 := x_cd_le.mpr ((nI_leI (by omega) (hsm k hk)).mp h6)
          omega
        subst hk2
        refine xg_iload_n X (pc := 15) d_R_from_15 rfl ?_
        exact xg_iret X (pc := 16) d_R_from_16 rfl (rfl) (⟨rfl, rfl, rfl⟩)
      · rw [pk_mul] at h6
        have hk3 : k < x_cd n0 q := x_cd_lt.mp (Nat.lt_of_not_le fun q9 => h6 ((nI_leI (by omega) (hsm k hk)).mpr q9))
        refine xg_iinc X (pc := 9) d_R_from_9 rfl (x_inc (by decide : Int32.ofInt (1) = 1) _) (by decide) rfl ?_
        refine xg_goto X (pc := 12) (tgt := 2) d_R_from_12 rfl ?_
        refine xg_weak [some (.int (nI n0)), some (.int (nI (2 ^ q))), some (.int (nI (k + 1)))] ⟨rfl, rfl, by rw [← x_k1], trivial⟩ ?_
        exact ih (k + 1) (by omega) (by omega)
  refine xg_iconst X (pc := 0) (v := 0) d_R_from_0 (by decide) ?_
  refine xg_istore_n X (pc := 1) d_R_from_1 (by decide) rfl ?_
  refine xg_weak [some (.int (nI n0)), some (.int (nI (2 ^ q))), some (.int (nI 0))] ⟨rfl, rfl, rfl, trivial⟩ ?_
  exact loop (x_cd n0 q + 1) 0 (by omega) (by omega)
set_option maxRecDepth 100000 in
set_option maxHeartbeats 4000000 in
theorem c_R_work (hd : x_dis ad) {a : Int} {n0 : Nat} {w : Int32} (ha : sc 15 = zI a) (hb : sc 16 = zI (a + (n0 : Int) - 1)) (h0 : 0 ≤ a) (h3 : a + (n0 : Int) - 1 ≤ 2000) (hn0 : n0 ≤ 16) : x_Con l M_R_work 4 86 ad D cI [.ref (ad 7), .int w] sc ar (x_E none sc (x_ua ar 6 (x_fg (ar 6) (if w = 0 then x_fw (sc 17) (ar 5) a (a + (n0 : Int) - 1) else x_bw (sc 17) (ar 5) a (a + (n0 : Int) - 1)) n0))) := by
  refine x_intro hd [some (.ref (ad 7)), some (.int w), none] (by decide) (Nat.le_of_ble_eq_true rfl) rfl ?_
  intro p e s m args below meth c X
  have loop : ∀ n k : Nat, n0 - k < n → k ≤ n0 → x_G p l e (x_rm 4 86) s m args below meth c M_R_work ad D cI (x_A ad) 0 0 (x_Q below args s ad D cI (x_E none sc (x_ua ar 6 (x_fg (ar 6) (if w = 0 then x_fw (sc 17) (ar 5) a (a + (n0 : Int) - 1) else x_bw (sc 17) (ar 5) a (a + (n0 : Int) - 1)) n0)))) 5 [some (.ref (ad 7)), some (.int w), some (.int (zI (a + (k : Int))))] [] sc (x_ua ar 6 (x_fg (ar 6) (if w = 0 then x_fw (sc 17) (ar 5) a (a + (n0 : Int) - 1) else x_bw (sc 17) (ar 5) a (a + (n0 : Int) - 1)) k)) := by
    intro n
    induction n with
    | zero => intro k h _; exact absurd h (Nat.not_lt_zero _)
    | succ n ih =>
      intro k hn hk
      refine xg_iload_n X (pc := 5) d_R_work_5 rfl ?_
      refine xg_aload_n X (pc := 6) d_R_work_6 rfl ?_
      refine xf_R_60 X (pc := 7) rfl d_R_work_7 ?_
      refine xg_icmp_gt X (pc := 10) (tgt := 47) d_R_work_10 rfl (fun h10 => ?_) (fun h10 => ?_)
      · rw [hb, zI_lt _ _] at h10
        have hk2 : k = n0 := by omega
        subst hk2
        exact xg_vret X (pc := 47) d_R_work_47 rfl (⟨rfl, rfl, rfl⟩)
      · rw [hb, zI_lt _ _] at h10
        have hk3 : k < n0 := by omega
        refine xg_aload_n X (pc := 13) d_R_work_13 rfl ?_
        refine xf_R_19 X (pc := 14) rfl d_R_work_14 ?_
        refine xg_iload_n X (pc := 17) d_R_work_17 rfl ?_
        refine xg_aload_n X (pc := 18) d_R_work_18 rfl ?_
        refine xf_R_57 X (pc := 19) rfl d_R_work_19 ?_
        refine xg_isub X (pc := 22) d_R_work_22 ?_
        refine xg_iload_n X (pc := 23) d_R_work_23 rfl ?_
        refine xg_if_eq X (pc := 24) (tgt := 35) d_R_work_24 rfl (fun h24 => ?_) (fun h24 => ?_)
        · refine xg_aload_n X (pc := 35) d_R_work_35 rfl ?_
          refine xg_iload_n X (pc := 36) d_R_work_36 rfl ?_
          refine xg_crV1 X (pc := 37) d_R_work_37 (c_R_lifted hd ha hb h0 (by omega) (by omega) h3 rfl (by omega) (by omega)) s_R_93 ⟨_, rfl⟩ rfl ⟨by decide, by decide⟩ (Nat.le_of_ble_eq_true rfl) ?_
          refine xa_st11 X (pc := 40) d_R_work_40 (x_wl_in ha (by omega) (by omega)) ?_
          refine xg_iinc X (pc := 41) d_R_work_41 rfl (x_inc (by decide : Int32.ofInt (1) = 1) _) (by decide) rfl ?_
          refine xg_goto X (pc := 44) (tgt := 5) d_R_work_44 rfl ?_
          refine xg_weak [some (.ref (ad 7)), some (.int w), some (.int (zI (a + ((k + 1 : Nat) : Int))))] ⟨rfl, rfl, by rw [z_a1]; congr 3; omega, trivial⟩ ?_
          refine xg_eq rfl (ar' := x_ua ar 6 (x_fg (ar 6) (if w = 0 then x_fw (sc 17) (ar 5) a (a + (n0 : Int) - 1) else x_bw (sc 17) (ar 5) a (a + (n0 : Int) - 1)) (k + 1))) ?_ rfl (ih (k + 1) (by omega) (by omega))
          rw [x_ua_ua, x_ua_at, x_wl_cl ha (by omega) (by omega), show (a + (k : Int) - a).toNat = k by omega]
          refine congrArg _ (Eq.trans (congrArg _ ?_) x_fgs)
          first | (rw [if_pos h24]; rfl) | (rw [if_neg h24]; rfl)
        · refine xg_aload_n X (pc := 27) d_R_work_27 rfl ?_
          refine xg_iload_n X (pc := 28) d_R_work_28 rfl ?_
          refine xg_crV1 X (pc := 29) d_R_work_29 (c_R_liftedBack hd ha hb h0 (by omega) (by omega) h3 rfl (by omega) (by omega)) s_R_90 ⟨_, rfl⟩ rfl ⟨by decide, by decide⟩ (Nat.le_of_ble_eq_true rfl) ?_
          refine xg_goto X (pc := 32) (tgt := 40) d_R_work_32 rfl ?_
          refine xa_st11 X (pc := 40) d_R_work_40 (x_wl_in ha (by omega) (by omega)) ?_
          refine xg_iinc X (pc := 41) d_R_work_41 rfl (x_inc (by decide : Int32.ofInt (1) = 1) _) (by decide) rfl ?_
          refine xg_goto X (pc := 44) (tgt := 5) d_R_work_44 rfl ?_
          refine xg_weak [some (.ref (ad 7)), some (.int w), some (.int (zI (a + ((k + 1 : Nat) : Int))))] ⟨rfl, rfl, by rw [z_a1]; congr 3; omega, trivial⟩ ?_
          refine xg_eq rfl (ar' := x_ua ar 6 (x_fg (ar 6) (if w = 0 then x_fw (sc 17) (ar 5) a (a + (n0 : Int) - 1) else x_bw (sc 17) (ar 5) a (a + (n0 : Int) - 1)) (k + 1))) ?_ rfl (ih (k + 1) (by omega) (by omega))
          rw [x_ua_ua, x_ua_at, x_wl_cl ha (by omega) (by omega), show (a + (k : Int) - a).toNat = k by omega]
          refine congrArg _ (Eq.trans (congrArg _ ?_) x_fgs)
          first | (rw [if_pos h24]; rfl) | (rw [if_neg h24]; rfl)
  refine xg_aload_n X (pc := 0) d_R_work_0 rfl ?_
  refine xf_R_57 X (pc := 1) rfl d_R_work_1 ?_
  refine xg_istore_n X (pc := 4) d_R_work_4 (by decide) rfl ?_
  refine xg_weak [some (.ref (ad 7)), some (.int w), some (.int (zI (a + ((0 : Nat) : Int))))] ⟨rfl, rfl, by rw [ha]; congr 3; omega, trivial⟩ ?_
  exact xg_eq rfl (by rw [x_fg0, x_ua_id]) rfl (loop (n0 + 1) 0 (by omega) (by omega))
end C10
