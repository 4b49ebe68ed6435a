theorem x_ua_ua {ar : Nat → Nat → Int32} {j : Nat} {f g : Nat → Int32} : x_ua (x_ua ar j f) j g = x_ua ar j g := by
  funext i
  unfold x_ua
  by_cases h : i = j
  · rw [if_pos h, if_pos h]
  · rw [if_neg h, if_neg h, if_neg h]
theorem x_ua_at {ar : Nat → Nat → Int32} {j : Nat} {f : Nat → Int32} : x_ua ar j f j = f := if_pos rfl
theorem x_ua_ne {ar : Nat → Nat → Int32} {i j : Nat} {f : Nat → Int32} (h : i ≠ j) : x_ua ar j f i = ar i := if_neg h
theorem x_ua_id {ar : Nat → Nat → Int32} {j : Nat} : x_ua ar j (ar j) = ar := by
  funext i
  unfold x_ua
  by_cases h : i = j
  · rw [if_pos h, h]
  · rw [if_neg h]
theorem x_ge {k n : Nat} {c : Int32} (hc : c = nI n) (hn : n < 2 ^ 31) (hk : k < 2 ^ 31) (h : c ≤ nI k) : n ≤ k := by
  rw [hc] at h
  exact (nI_leI hn hk).mp h
theorem x_nge {k n : Nat} {c : Int32} (hc : c = nI n) (hn : n < 2 ^ 31) (hk : k < 2 ^ 31) (h : ¬ c ≤ nI k) : k < n := by
  rw [hc] at h
  exact Nat.lt_of_not_le fun q => h ((nI_leI hn hk).mpr q)
theorem x_k1 (k : Nat) : nI k + 1 = nI (k + 1) := nI_1 k
theorem x_kc (k c : Nat) : nI k + nI c = nI (k + c) := nI_add k c
theorem x_in256 {k : Nat} (hk : k < 256) : vp_in (nI k + 256) 768 := by
  have e : nI k + (256 : Int32) = nI (k + 256) := nI_add k 256
  rw [e]; exact vp_in_nI (by omega) (by decide)
theorem x_in512 {k : Nat} (hk : k < 256) : vp_in (nI k + 512) 768 := by
  have e : nI k + (512 : Int32) = nI (k + 512) := nI_add k 512
  rw [e]; exact vp_in_nI (by omega) (by decide)
theorem x_in256' {k : Nat} (hk : k < 256) : vp_in (256 + nI k) 768 := by rw [Int32.add_comm]; exact x_in256 hk
theorem x_in512' {k : Nat} (hk : k < 256) : vp_in (512 + nI k) 768 := by rw [Int32.add_comm]; exact x_in512 hk
theorem x_cl0 {k : Nat} (hk : k < 256) : (nI k).toNatClampNeg = k := nI_clamp (by omega)
theorem x_cl256 {k : Nat} (hk : k < 256) : (nI k + 256).toNatClampNeg = k + 256 := by
  have e : nI k + (256 : Int32) = nI (k + 256) := nI_add k 256
  rw [e]; exact nI_clamp (by omega)
theorem x_cl512 {k : Nat} (hk : k < 256) : (nI k + 512).toNatClampNeg = k + 512 := by
  have e : nI k + (512 : Int32) = nI (k + 512) := nI_add k 512
  rw [e]; exact nI_clamp (by omega)
theorem x_cl256' {k : Nat} (hk : k < 256) : (256 + nI k).toNatClampNeg = k + 256 := by rw [Int32.add_comm]; exact x_cl256 hk
theorem x_cl512' {k : Nat} (hk : k < 256) : (512 + nI k).toNatClampNeg = k + 512 := by rw [Int32.add_comm]; exact x_cl512 hk
def x_mx (f : Nat → Int32) (k : Nat) : Nat → Int32 := upd (upd (upd f k ((f k + 2 * f (k + 256) + f (k + 512)) >>> (2 &&& 31))) (k + 256) (f (k + 512) - f (k + 256))) (k + 512) (f k - f (k + 256))
def x_um (f : Nat → Int32) (k : Nat) : Nat → Int32 := upd (upd (upd f k (f (k + 512) + (f k - (f (k + 256) + f (k + 512)) >>> (2 &&& 31)))) (k + 256) (f k - (f (k + 256) + f (k + 512)) >>> (2 &&& 31))) (k + 512) (f (k + 256) + (f k - (f (k + 256) + f (k + 512)) >>> (2 &&& 31)))
def x_mxs (f : Nat → Int32) : Nat → Nat → Int32
  | 0 => f
  | k + 1 => x_mx (x_mxs f k) k
def x_ums (f : Nat → Int32) : Nat → Nat → Int32
  | 0 => f
  | k + 1 => x_um (x_ums f k) k
def x_fl (f : Nat → Int32) (v : Int32) (k : Nat) : Nat → Int32 := fun i => if i < k then v else f i
theorem x_fl0 {f : Nat → Int32} {v : Int32} : x_fl f v 0 = f := by
  funext i
  unfold x_fl
  rw [if_neg (Nat.not_lt_zero i)]
theorem x_fls {f : Nat → Int32} {v : Int32} {k : Nat} : upd (x_fl f v k) k v = x_fl f v (k + 1) := by
  funext i
  unfold upd x_fl
  by_cases h : i = k
  · rw [if_pos h, if_pos (by omega)]
  · rw [if_neg h]
    by_cases h2 : i < k
    · rw [if_pos h2, if_pos (by omega)]
    · rw [if_neg h2, if_neg (by omega)]
section C4
variable {l : Launch} {ad : Nat → Nat} {D : va_G} {cI : ClassId} {sc : Nat → Int32} {ar : Nat → Nat → Int32}
set_option maxRecDepth 100000 in
set_option maxHeartbeats 4000000 in
theorem c_T_mixCell (hd : x_dis ad) {k : Nat} (hk : k < 256) : x_Con l M_T_mixCell 0 0 ad D cI [.ref (ad 0), .int (nI k)] sc ar (x_E none sc (x_ua ar 0 (x_mx (ar 0) k))) := by
  refine x_intro hd [some (.ref (ad 0)), some (.int (nI k)), none, none, none] (by decide) (Nat.le_of_ble_eq_true rfl) rfl ?_
  intro p e s m args below meth c X
  refine xg_aload_n X (pc := 0) d_T_mixCell_0 rfl ?_
  refine xf_T_9 X (pc := 1) rfl d_T_mixCell_1 ?_
  refine xg_iload_n X (pc := 4) d_T_mixCell_4 rfl ?_
  refine xa_ld1 X (pc := 5) d_T_mixCell_5 (vp_in_nI (by omega) (by decide)) ?_
  refine xg_istore_n X (pc := 6) d_T_mixCell_6 (by decide) rfl ?_
  refine xg_aload_n X (pc := 7) d_T_mixCell_7 rfl ?_
  refine xf_T_9 X (pc := 8) rfl d_T_mixCell_8 ?_
  refine xg_iload_n X (pc := 11) d_T_mixCell_11 rfl ?_
  refine xg_sipush X (pc := 12) (v := 256) d_T_mixCell_12 (by decide) ?_
  refine xg_iadd X (pc := 15) d_T_mixCell_15 ?_
  refine xa_ld1 X (pc := 16) d_T_mixCell_16 (x_in256 hk) ?_
  refine xg_istore_n X (pc := 17) d_T_mixCell_17 (by decide) rfl ?_
  refine xg_aload_n X (pc := 18) d_T_mixCell_18 rfl ?_
  refine xf_T_9 X (pc := 19) rfl d_T_mixCell_19 ?_
  refine xg_iload_n X (pc := 22) d_T_mixCell_22 rfl ?_
  refine xg_sipush X (pc := 23) (v := 512) d_T_mixCell_23 (by decide) ?_
  refine xg_iadd X (pc := 26) d_T_mixCell_26 ?_
  refine xa_ld1 X (pc := 27) d_T_mixCell_27 (x_in512 hk) ?_
  refine xg_istore X (pc := 28) d_T_mixCell_28 (by decide) rfl ?_
  refine xg_aload_n X (pc := 30) d_T_mixCell_30 rfl ?_
  refine xf_T_9 X (pc := 31) rfl d_T_mixCell_31 ?_
  refine xg_iload_n X (pc := 34) d_T_mixCell_34 rfl ?_
  refine xg_iload_n X (pc := 35) d_T_mixCell_35 rfl ?_
  refine xg_iconst X (pc := 36) (v := 2) d_T_mixCell_36 (by decide) ?_
  refine xg_iload_n X (pc := 37) d_T_mixCell_37 rfl ?_
  refine xg_imul X (pc := 38) d_T_mixCell_38 ?_
  refine xg_iadd X (pc := 39) d_T_mixCell_39 ?_
  refine xg_iload X (pc := 40) d_T_mixCell_40 rfl ?_
  refine xg_iadd X (pc := 42) d_T_mixCell_42 ?_
  refine xg_iconst X (pc := 43) (v := 2) d_T_mixCell_43 (by decide) ?_
  refine xg_ishr X (pc := 44) d_T_mixCell_44 ?_
  refine xa_st1 X (pc := 45) d_T_mixCell_45 (vp_in_nI (by omega) (by decide)) ?_
  refine xg_aload_n X (pc := 46) d_T_mixCell_46 rfl ?_
  refine xf_T_9 X (pc := 47) rfl d_T_mixCell_47 ?_
  refine xg_iload_n X (pc := 50) d_T_mixCell_50 rfl ?_
  refine xg_sipush X (pc := 51) (v := 256) d_T_mixCell_51 (by decide) ?_
  refine xg_iadd X (pc := 54) d_T_mixCell_54 ?_
  refine xg_iload X (pc := 55) d_T_mixCell_55 rfl ?_
  refine xg_iload_n X (pc := 57) d_T_mixCell_57 rfl ?_
  refine xg_isub X (pc := 58) d_T_mixCell_58 ?_
  refine xa_st1 X (pc := 59) d_T_mixCell_59 (x_in256 hk) ?_
  refine xg_aload_n X (pc := 60) d_T_mixCell_60 rfl ?_
  refine xf_T_9 X (pc := 61) rfl d_T_mixCell_61 ?_
  refine xg_iload_n X (pc := 64) d_T_mixCell_64 rfl ?_
  refine xg_sipush X (pc := 65) (v := 512) d_T_mixCell_65 (by decide) ?_
  refine xg_iadd X (pc := 68) d_T_mixCell_68 ?_
  refine xg_iload_n X (pc := 69) d_T_mixCell_69 rfl ?_
  refine xg_iload_n X (pc := 70) d_T_mixCell_70 rfl ?_
  refine xg_isub X (pc := 71) d_T_mixCell_71 ?_
  refine xa_st1 X (pc := 72) d_T_mixCell_72 (x_in512 hk) ?_
  exact xg_vret X (pc := 73) d_T_mixCell_73 rfl (⟨rfl, rfl, by simp only [x_ua_ua, x_ua_at, x_cl0 hk, x_cl256 hk, x_cl512 hk]; rfl⟩)
set_option maxRecDepth 100000 in
set_option maxHeartbeats 4000000 in
theorem c_T_unmixCell (hd : x_dis ad) {k : Nat} (hk : k < 256) : x_Con l M_T_unmixCell 0 0 ad D cI [.ref (ad 0), .int (nI k)] sc ar (x_E none sc (x_ua ar 0 (x_um (ar 0) k))) := by
  refine x_intro hd [some (.ref (ad 0)), some (.int (nI k)), none, none, none, none] (by decide) (Nat.le_of_ble_eq_true rfl) rfl ?_
  intro p e s m args below meth c X
  refine xg_aload_n X (pc := 0) d_T_unmixCell_0 rfl ?_
  refine xf_T_9 X (pc := 1) rfl d_T_unmixCell_1 ?_
  refine xg_iload_n X (pc := 4) d_T_unmixCell_4 rfl ?_
  refine xa_ld1 X (pc := 5) d_T_unmixCell_5 (vp_in_nI (by omega) (by decide)) ?_
  refine xg_istore_n X (pc := 6) d_T_unmixCell_6 (by decide) rfl ?_
  refine xg_aload_n X (pc := 7) d_T_unmixCell_7 rfl ?_
  refine xf_T_9 X (pc := 8) rfl d_T_unmixCell_8 ?_
  refine xg_iload_n X (pc := 11) d_T_unmixCell_11 rfl ?_
  refine xg_sipush X (pc := 12) (v := 256) d_T_unmixCell_12 (by decide) ?_
  refine xg_iadd X (pc := 15) d_T_unmixCell_15 ?_
  refine xa_ld1 X (pc := 16) d_T_unmixCell_16 (x_in256 hk) ?_
  refine xg_istore_n X (pc := 17) d_T_unmixCell_17 (by decide) rfl ?_
  refine xg_aload_n X (pc := 18) d_T_unmixCell_18 rfl ?_
  refine xf_T_9 X (pc := 19) rfl d_T_unmixCell_19 ?_
  refine xg_iload_n X (pc := 22) d_T_unmixCell_22 rfl ?_
  refine xg_sipush X (pc := 23) (v := 512) d_T_unmixCell_23 (by decide) ?_
  refine xg_iadd X (pc := 26) d_T_unmixCell_26 ?_
  refine xa_ld1 X (pc := 27) d_T_unmixCell_27 (x_in512 hk) ?_
  refine xg_istore X (pc := 28) d_T_unmixCell_28 (by decide) rfl ?_
  refine xg_iload_n X (pc := 30) d_T_unmixCell_30 rfl ?_
  refine xg_iload_n X (pc := 31) d_T_unmixCell_31 rfl ?_
  refine xg_iload X (pc := 32) d_T_unmixCell_32 rfl ?_
  refine xg_iadd X (pc := 34) d_T_unmixCell_34 ?_
  refine xg_iconst X (pc := 35) (v := 2) d_T_unmixCell_35 (by decide) ?_
  refine xg_ishr X (pc := 36) d_T_unmixCell_36 ?_
  refine xg_isub X (pc := 37) d_T_unmixCell_37 ?_
  refine xg_istore X (pc := 38) d_T_unmixCell_38 (by decide) rfl ?_
  refine xg_aload_n X (pc := 40) d_T_unmixCell_40 rfl ?_
  refine xf_T_9 X (pc := 41) rfl d_T_unmixCell_41 ?_
  refine xg_iload_n X (pc := 44) d_T_unmixCell_44 rfl ?_
  refine xg_iload X (pc := 45) d_T_unmixCell_45 rfl ?_
  refine xg_iload X (pc := 47) d_T_unmixCell_47 rfl ?_
  refine xg_iadd X (pc := 49) d_T_unmixCell_49 ?_
  refine xa_st1 X (pc := 50) d_T_unmixCell_50 (vp_in_nI (by omega) (by decide)) ?_
  refine xg_aload_n X (pc := 51) d_T_unmixCell_51 rfl ?_
  refine xf_T_9 X (pc := 52) rfl d_T_unmixCell_52 ?_
  refine xg_iload_n X (pc := 55) d_T_unmixCell_55 rfl ?_
  refine xg_sipush X (pc := 56) (v := 256) d_T_unmixCell_56 (by decide) ?_
  refine xg_iadd X (pc := 59) d_T_unmixCell_59 ?_
  refine xg_iload X (pc := 60) d_T_unmixCell_60 rfl ?_
  refine xa_st1 X (pc := 62) d_T_unmixCell_62 (x_in256 hk) ?_
  refine xg_aload_n X (pc := 63) d_T_unmixCell_63 rfl ?_
  refine xf_T_9 X (pc := 64) rfl d_T_unmixCell_64 ?_
  refine xg_iload_n X (pc := 67) d_T_unmixCell_67 rfl ?_
  refine xg_sipush X (pc := 68) (v := 512) d_T_unmixCell_68 (by decide) ?_
  refine xg_iadd X (pc := 71) d_T_unmixCell_71 ?_
  refine xg_iload_n X (pc := 72) d_T_unmixCell_72 rfl ?_
  refine xg_iload X (pc := 73) d_T_unmixCell_73 rfl ?_
  refine xg_iadd X (pc := 75) d_T_unmixCell_75 ?_
  refine xa_st1 X (pc := 76) d_T_unmixCell_76 (x_in512 hk) ?_
  exact xg_vret X (pc := 77) d_T_unmixCell_77 rfl (⟨rfl, rfl, by simp only [x_ua_ua, x_ua_at, x_cl0 hk, x_cl256 hk, x_cl512 hk]; rfl⟩)
set_option maxRecDepth 100000 in
set_option maxHeartbeats 4000000 in
theorem c_J_fill (hd : x_dis ad) {v : Int32} : x_Con l M_J_fill 0 0 ad D cI [.ref (ad 1), .int v] sc ar (x_E none sc (x_ua ar 0 (x_fl (ar 0) v 768))) := by
  refine x_intro hd [some (.ref (ad 1)), some (.int v), none, none] (by decide) (Nat.le_of_ble_eq_true rfl) rfl ?_
  intro p e s m args below meth c X
  have loop : ∀ n k : Nat, 768 - k < n → k ≤ 768 → x_G p l e (x_rm 0 0) s m args below meth c M_J_fill ad D cI (x_A ad) 0 0 (x_Q below args s ad D cI (x_E none sc (x_ua ar 0 (x_fl (ar 0) v 768)))) 5 [some (.ref (ad 1)), some (.int v), some (.int (nI k)), some (.int 768)] [] sc (x_ua ar 0 (x_fl (ar 0) v k)) := by
    intro n
    induction n with
    | zero => intro k h _; exact absurd h (Nat.not_lt_zero _)
    | succ n ih =>
      intro k hn hk
      refine xg_iload_n X (pc := 5) d_J_fill_5 rfl ?_
      refine xg_iload_n X (pc := 6) d_J_fill_6 rfl ?_
      refine xg_icmp_ge X (pc := 7) (tgt := 20) d_J_fill_7 rfl (fun h7 => ?_) (fun h7 => ?_)
      · have hk2 : k = 768 := Nat.le_antisymm hk (x_ge (n := 768) rfl (by decide) (by omega) h7)
        subst hk2
        exact xg_vret X (pc := 20) d_J_fill_20 rfl (⟨rfl, rfl, rfl⟩)
      · have hk3 : k < 768 := x_nge (n := 768) rfl (by decide) (by omega) h7
        refine xg_aload_n X (pc := 10) d_J_fill_10 rfl ?_
        refine xg_iload_n X (pc := 11) d_J_fill_11 rfl ?_
        refine xg_iload_n X (pc := 12) d_J_fill_12 rfl ?_
        refine xa_st1 X (pc := 13) d_J_fill_13 (vp_in_nI (by omega) (by decide)) ?_
        refine xg_iinc X (pc := 14) d_J_fill_14 rfl (x_inc (by decide : Int32.ofInt (1) = 1) _) (by decide) rfl ?_
        refine xg_goto X (pc := 17) (tgt := 5) d_J_fill_17 rfl ?_
        refine xg_weak [some (.ref (ad 1)), some (.int v), some (.int (nI (k + 1))), some (.int 768)] ⟨rfl, rfl, by rw [← x_k1], rfl, trivial⟩ ?_
        refine xg_eq rfl (by rw [x_ua_ua, x_ua_at, nI_clamp (by omega), x_fls]) rfl (ih (k + 1) (by omega) (by omega))
  refine xg_iconst X (pc := 0) (v := 0) d_J_fill_0 (by decide) ?_
  refine xg_istore_n X (pc := 1) d_J_fill_1 (by decide) rfl ?_
  refine xg_aload_n X (pc := 2) d_J_fill_2 rfl ?_
  refine xa_len1 X (pc := 3) d_J_fill_3 ?_
  refine xg_istore_n X (pc := 4) d_J_fill_4 (by decide) rfl ?_
  refine xg_weak [some (.ref (ad 1)), some (.int v), some (.int (nI 0)), some (.int 768)] ⟨rfl, rfl, rfl, rfl, trivial⟩ ?_
  exact xg_eq rfl (by rw [x_fl0, x_ua_id]) rfl (loop 769 0 (by omega) (by omega))
set_option maxRecDepth 100000 in
set_option maxHeartbeats 4000000 in
theorem c_T_mix (hd : x_dis ad) : x_Con l M_T_mix 1 24 ad D cI [.ref (ad 0)] sc ar (fun r sc2 ar2 => if ¬ sc 3 ≤ 0 ∧ ¬ 0 < sc 0 ∧ sc 1 = 0 then x_E (some (.int 1)) (upd sc 1 1) (x_ua ar 0 (x_mxs (ar 0) 256)) r sc2 ar2 else x_E (some (.int 0)) sc ar r sc2 ar2) := by
  refine x_intro hd [some (.ref (ad 0)), none] (by decide) (Nat.le_of_ble_eq_true rfl) rfl ?_
  intro p e s m args below meth c X
  have loop : ¬ sc 3 ≤ 0 ∧ ¬ 0 < sc 0 ∧ sc 1 = 0 → ∀ n k : Nat, 256 - k < n → k ≤ 256 → x_G p l e (x_rm 1 24) s m args below meth c M_T_mix ad D cI (x_A ad) 0 0 (x_Q below args s ad D cI (fun r sc2 ar2 => if ¬ sc 3 ≤ 0 ∧ ¬ 0 < sc 0 ∧ sc 1 = 0 then x_E (some (.int 1)) (upd sc 1 1) (x_ua ar 0 (x_mxs (ar 0) 256)) r sc2 ar2 else x_E (some (.int 0)) sc ar r sc2 ar2)) 25 [some (.ref (ad 0)), some (.int (nI k))] [] sc (x_ua ar 0 (x_mxs (ar 0) k)) := by
    intro hc n
    induction n with
    | zero => intro k h _; exact absurd h (Nat.not_lt_zero _)
    | succ n ih =>
      intro k hn hk
      refine xg_iload_n X (pc := 25) d_T_mix_25 rfl ?_
      refine xg_sipush X (pc := 26) (v := 256) d_T_mix_26 (by decide) ?_
      refine xg_icmp_ge X (pc := 29) (tgt := 43) d_T_mix_29 rfl (fun h29 => ?_) (fun h29 => ?_)
      · have hk2 : k = 256 := Nat.le_antisymm hk (x_ge (n := 256) rfl (by decide) (by omega) h29)
        subst hk2
        refine xg_aload_n X (pc := 43) d_T_mix_43 rfl ?_
        refine xg_iconst X (pc := 44) (v := 1) d_T_mix_44 (by decide) ?_
        refine xp_T_39 X (pc := 45) rfl d_T_mix_45 (by decide) ?_
        refine xg_iconst X (pc := 48) (v := 1) d_T_mix_48 (by decide) ?_
        exact xg_iret X (pc := 49) d_T_mix_49 rfl (rfl) (by show ite _ _ _; rw [if_pos hc]; exact ⟨rfl, rfl, rfl⟩)
      · have hk3 : k < 256 := x_nge (n := 256) rfl (by decide) (by omega) h29
        refine xg_aload_n X (pc := 32) d_T_mix_32 rfl ?_
        refine xg_iload_n X (pc := 33) d_T_mix_33 rfl ?_
        refine xg_cvV1 X (pc := 34) d_T_mix_34 (c_T_mixCell hd hk3) s_T_72 ⟨_, rfl⟩ rfl ⟨by decide, by decide⟩ (Nat.le_of_ble_eq_true rfl) ?_
        refine xg_iinc X (pc := 37) d_T_mix_37 rfl (x_inc (by decide : Int32.ofInt (1) = 1) _) (by decide) rfl ?_
        refine xg_goto X (pc := 40) (tgt := 25) d_T_mix_40 rfl ?_
        refine xg_weak [some (.ref (ad 0)), some (.int (nI (k + 1)))] ⟨rfl, by rw [← x_k1], trivial⟩ ?_
        exact xg_eq rfl (by rw [x_ua_ua, x_ua_at]; rfl) rfl (ih (k + 1) (by omega) (by omega))
  refine xg_aload_n X (pc := 0) d_T_mix_0 rfl ?_
  refine xg_crV0 X (pc := 1) d_T_mix_1 (c_T_hasTile hd) s_T_68 ⟨_, rfl⟩ rfl ⟨by decide, by decide⟩ (Nat.le_of_ble_eq_true rfl) ?_
  refine xg_if_eq X (pc := 4) (tgt := 21) d_T_mix_4 rfl (fun h4 => ?_) (fun h4 => ?_)
  · replace h4 := x_b0 h4
    refine xg_iconst X (pc := 21) (v := 0) d_T_mix_21 (by decide) ?_
    exact xg_iret X (pc := 22) d_T_mix_22 rfl (rfl) (by show ite _ _ _; rw [if_neg (by simp_all [x_hol, x_pl, x_rp, x_be, x_op, x_os])]; exact ⟨rfl, rfl, rfl⟩)
  · replace h4 := x_bn h4
    refine xg_aload_n X (pc := 7) d_T_mix_7 rfl ?_
    refine xf_T_35 X (pc := 8) rfl d_T_mix_8 ?_
    refine xg_if_gt X (pc := 11) (tgt := 21) d_T_mix_11 rfl (fun h11 => ?_) (fun h11 => ?_)
    · refine xg_iconst X (pc := 21) (v := 0) d_T_mix_21 (by decide) ?_
      exact xg_iret X (pc := 22) d_T_mix_22 rfl (rfl) (by show ite _ _ _; rw [if_neg (by simp_all [x_hol, x_pl, x_rp, x_be, x_op, x_os])]; exact ⟨rfl, rfl, rfl⟩)
    · refine xg_aload_n X (pc := 14) d_T_mix_14 rfl ?_
      refine xf_T_39 X (pc := 15) rfl d_T_mix_15 ?_
      refine xg_if_eq X (pc := 18) (tgt := 23) d_T_mix_18 rfl (fun h18 => ?_) (fun h18 => ?_)
      · refine xg_iconst X (pc := 23) (v := 0) d_T_mix_23 (by decide) ?_
        refine xg_istore_n X (pc := 24) d_T_mix_24 (by decide) rfl ?_
        refine xg_weak [some (.ref (ad 0)), some (.int (nI 0))] ⟨rfl, rfl, trivial⟩ ?_
        exact xg_eq rfl (x_ua_id).symm rfl (loop ⟨h4, h11, h18⟩ 257 0 (by omega) (by omega))
      · refine xg_iconst X (pc := 21) (v := 0) d_T_mix_21 (by decide) ?_
        exact xg_iret X (pc := 22) d_T_mix_22 rfl (rfl) (by show ite _ _ _; rw [if_neg (by simp_all [x_hol, x_pl, x_rp, x_be, x_op, x_os])]; exact ⟨rfl, rfl, rfl⟩)
set_option maxRecDepth 100000 in
set_option maxHeartbeats 4000000 in
theorem c_T_unmix (hd : x_dis ad) : x_Con l M_T_unmix 1 25 ad D cI [.ref (ad 0)] sc ar (fun r sc2 ar2 => if ¬ 0 < sc 0 ∧ ¬ sc 1 = 0 then x_E (some (.int 1)) (upd sc 1 0) (x_ua ar 0 (x_ums (ar 0) 256)) r sc2 ar2 else x_E (some (.int 0)) sc ar r sc2 ar2) := by
  refine x_intro hd [some (.ref (ad 0)), none] (by decide) (Nat.le_of_ble_eq_true rfl) rfl ?_
  intro p e s m args below meth c X
  have loop : ¬ 0 < sc 0 ∧ ¬ sc 1 = 0 → ∀ n k : Nat, 256 - k < n → k ≤ 256 → x_G p l e (x_rm 1 25) s m args below meth c M_T_unmix ad D cI (x_A ad) 0 0 (x_Q below args s ad D cI (fun r sc2 ar2 => if ¬ 0 < sc 0 ∧ ¬ sc 1 = 0 then x_E (some (.int 1)) (upd sc 1 0) (x_ua ar 0 (x_ums (ar 0) 256)) r sc2 ar2 else x_E (some (.int 0)) sc ar r sc2 ar2)) 18 [some (.ref (ad 0)), some (.int (nI k))] [] sc (x_ua ar 0 (x_ums (ar 0) k)) := by
    intro hc n
    induction n with
    | zero => intro k h _; exact absurd h (Nat.not_lt_zero _)
    | succ n ih =>
      intro k hn hk
      refine xg_iload_n X (pc := 18) d_T_unmix_18 rfl ?_
      refine xg_sipush X (pc := 19) (v := 256) d_T_unmix_19 (by decide) ?_
      refine xg_icmp_ge X (pc := 22) (tgt := 36) d_T_unmix_22 rfl (fun h22 => ?_) (fun h22 => ?_)
      · have hk2 : k = 256 := Nat.le_antisymm hk (x_ge (n := 256) rfl (by decide) (by omega) h22)
        subst hk2
        refine xg_aload_n X (pc := 36) d_T_unmix_36 rfl ?_
        refine xg_iconst X (pc := 37) (v := 0) d_T_unmix_37 (by decide) ?_
        refine xp_T_39 X (pc := 38) rfl d_T_unmix_38 (by decide) ?_
        refine xg_iconst X (pc := 41) (v := 1) d_T_unmix_41 (by decide) ?_
        exact xg_iret X (pc := 42) d_T_unmix_42 rfl (rfl) (by show ite _ _ _; rw [if_pos hc]; exact ⟨rfl, rfl, rfl⟩)
      · have hk3 : k < 256 := x_nge (n := 256) rfl (by decide) (by omega) h22
        refine xg_aload_n X (pc := 25) d_T_unmix_25 rfl ?_
        refine xg_iload_n X (pc := 26) d_T_unmix_26 rfl ?_
        refine xg_cvV1 X (pc := 27) d_T_unmix_27 (c_T_unmixCell hd hk3) s_T_75 ⟨_, rfl⟩ rfl ⟨by decide, by decide⟩ (Nat.le_of_ble_eq_true rfl) ?_
        refine xg_iinc X (pc := 30) d_T_unmix_30 rfl (x_inc (by decide : Int32.ofInt (1) = 1) _) (by decide) rfl ?_
        refine xg_goto X (pc := 33) (tgt := 18) d_T_unmix_33 rfl ?_
        refine xg_weak [some (.ref (ad 0)), some (.int (nI (k + 1)))] ⟨rfl, by rw [← x_k1], trivial⟩ ?_
        exact xg_eq rfl (by rw [x_ua_ua, x_ua_at]; rfl) rfl (ih (k + 1) (by omega) (by omega))
  refine xg_aload_n X (pc := 0) d_T_unmix_0 rfl ?_
  refine xf_T_35 X (pc := 1) rfl d_T_unmix_1 ?_
  refine xg_if_gt X (pc := 4) (tgt := 14) d_T_unmix_4 rfl (fun h4 => ?_) (fun h4 => ?_)
  · refine xg_iconst X (pc := 14) (v := 0) d_T_unmix_14 (by decide) ?_
    exact xg_iret X (pc := 15) d_T_unmix_15 rfl (rfl) (by show ite _ _ _; rw [if_neg (by simp_all [x_hol, x_pl, x_rp, x_be, x_op, x_os])]; exact ⟨rfl, rfl, rfl⟩)
  · refine xg_aload_n X (pc := 7) d_T_unmix_7 rfl ?_
    refine xf_T_39 X (pc := 8) rfl d_T_unmix_8 ?_
    refine xg_if_ne X (pc := 11) (tgt := 16) d_T_unmix_11 rfl (fun h11 => ?_) (fun h11 => ?_)
    · refine xg_iconst X (pc := 16) (v := 0) d_T_unmix_16 (by decide) ?_
      refine xg_istore_n X (pc := 17) d_T_unmix_17 (by decide) rfl ?_
      refine xg_weak [some (.ref (ad 0)), some (.int (nI 0))] ⟨rfl, rfl, trivial⟩ ?_
      exact xg_eq rfl (x_ua_id).symm rfl (loop ⟨h4, h11⟩ 257 0 (by omega) (by omega))
    · refine xg_iconst X (pc := 14) (v := 0) d_T_unmix_14 (by decide) ?_
      exact xg_iret X (pc := 15) d_T_unmix_15 rfl (rfl) (by show ite _ _ _; rw [if_neg (by simp_all [x_hol, x_pl, x_rp, x_be, x_op, x_os])]; exact ⟨rfl, rfl, rfl⟩)
end C4
