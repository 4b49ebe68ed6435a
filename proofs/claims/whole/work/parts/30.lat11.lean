def x_sN (j : Nat) : Nat := if j = 0 then 1 else 16
theorem x_st_N {j : Nat} (hj : j < 2) : x_st j = nI (x_sN j) := by
  match j, hj with
  | 0, _ => rfl
  | 1, _ => rfl
theorem x_p31 {p : Nat} (hp : p ≤ 4) : nI p &&& 31 = nI p := by
  match p, hp with
  | 0, _ => decide
  | 1, _ => decide
  | 2, _ => decide
  | 3, _ => decide
  | 4, _ => decide
theorem x_psm {p : Nat} (hp : p ≤ 4) : ((nI p).toBitVec.smod 32).toNat = p := by
  match p, hp with
  | 0, _ => decide
  | 1, _ => decide
  | 2, _ => decide
  | 3, _ => decide
  | 4, _ => decide
theorem x_shl {x p : Nat} (hp : p ≤ 4) (hx : x ≤ 3000) : nI x <<< (nI p &&& 31) = nI (x * 2 ^ p) := by
  rw [x_p31 hp]
  refine pk_shlN (nI p) p (x_psm hp) ?_
  have h8 : 2 ^ p ≤ 2 ^ 4 := Nat.pow_le_pow_right (by decide) hp
  have := Nat.mul_le_mul hx h8
  omega
theorem x_shr {x p : Nat} (hp : p ≤ 4) (hx : x < 2 ^ 31) : nI x >>> (nI p &&& 31) = nI (x / 2 ^ p) := by
  rw [x_p31 hp]
  exact pk_shrN hx (nI p) p (x_psm hp)
theorem x_lfN {x p t : Nat} (hp : p ≤ 4) (hx : x ≤ 3000) (ht : t < 2 ^ p) : x_lf (nI x) (nI p) (nI t) = nI ((x + 2 ^ p - 1 - t) / 2 ^ p) := by
  have h8 : 2 ^ p ≤ 2 ^ 4 := Nat.pow_le_pow_right (by decide) hp
  have e1 : (1 : Int32) <<< (nI p &&& 31) = nI (2 ^ p) := by
    have := x_shl (x := 1) hp (by decide)
    rw [Nat.one_mul] at this
    exact this
  have e2 : nI x - nI t + nI (2 ^ p) - 1 = nI (x + 2 ^ p - 1 - t) := by
    show nI x - nI t + nI (2 ^ p) - nI 1 = _
    rw [← zI_nI, ← zI_nI, ← zI_nI, ← zI_nI, ← zI_nI, zI_sub, zI_add, zI_sub]
    congr 1
    omega
  unfold x_lf
  rw [e1, e2]
  exact x_shr hp (by omega)
theorem x_lf0 {x p : Nat} (hp : p ≤ 4) (hx : x ≤ 3000) : x_lf (nI x) (nI p) 0 = nI (x_cd x p) := by
  have := x_lfN (t := 0) hp hx (Nat.two_pow_pos p)
  rw [Nat.sub_zero] at this
  exact this
theorem x_offN {sc : Nat → Int32} {j b z : Nat} (hj : j < 2) (hb : sc (2 * j + 2) = nI b) (h : b ≤ z) (hz : z < 2 ^ 31) : (lN z - (sc (2 * j + 2)).toInt64).toInt32 * x_st j = nI ((z - b) * x_sN j) := by
  rw [hb, nI_l (by omega), lN_sub h, lN_i, x_st_N hj, pk_mul]
theorem x_m256 (q : Nat) : nI q * 256 = nI (q * 256) := pk_mul q 256
def x_LF (fwd : Bool) (kn : Int32) (v : Nat → Int32) (a b : Int) : Nat → Int32 := if fwd = true then x_fw kn v a b else x_bw kn v a b
def x_ln (fwd : Bool) (kn : Int32) (f : Nat → Int32) (c st : Nat) (a : Int) (n : Nat) : Nat → Int32 := x_wr f (x_LF fwd kn (fun i => f (c + i * st)) a (a + (n : Int) - 1)) c st n
def x_it (G : Nat → (Nat → Int32) → Nat → Int32) (f : Nat → Int32) : Nat → Nat → Int32
  | 0 => f
  | k + 1 => G k (x_it G f k)
theorem x_wr_ext {f v v' : Nat → Int32} {c st : Nat} : ∀ {n : Nat}, (∀ i, i < n → v i = v' i) → x_wr f v c st n = x_wr f v' c st n
  | 0, _ => rfl
  | n + 1, h => by
    show upd _ _ _ = upd _ _ _
    rw [x_wr_ext (n := n) (fun i hi => h i (by omega)), h n (by omega)]
section EXT
variable {v v' : Nat → Int32} {a b : Int} {k : Int32}
theorem x_vl_ext (h : a < b) (hv : ∀ i : Nat, (i : Int) ≤ b - a → v i = v' i) {z : Int} (h1 : a - 3 ≤ z) (h2 : z ≤ b + 3) : x_vl v a b z = x_vl v' a b z := by
  have := x_in_ok h h1 h2
  exact hv _ (by omega)
theorem x_P_ext (h : a < b) (hv : ∀ i : Nat, (i : Int) ≤ b - a → v i = v' i) {z : Int} (h1 : a ≤ z) (h2 : z ≤ b) : x_P k v a b z = x_P k v' a b z := by
  unfold x_P
  rw [x_vl_ext h hv (z := z - 1) (by omega) (by omega), x_vl_ext h hv (z := z + 1) (by omega) (by omega), x_vl_ext h hv (z := z - 3) (by omega) (by omega), x_vl_ext h hv (z := z + 3) (by omega) (by omega)]
theorem x_U_ext (h : a < b) (hv : ∀ i : Nat, (i : Int) ≤ b - a → v i = v' i) {z : Int} (h1 : a ≤ z) (h2 : z ≤ b) : x_U k v a b z = x_U k v' a b z := by
  unfold x_U
  rw [x_vl_ext h hv (z := z - 1) (by omega) (by omega), x_vl_ext h hv (z := z + 1) (by omega) (by omega)]
theorem x_lp_ext {q : Int} {F F' : Int → Int32 → Int32} (hv : ∀ i : Nat, (i : Int) ≤ b - a → v i = v' i) (hF : ∀ (z : Int) (x : Int32), a ≤ z → z ≤ b → F z x = F' z x) : ∀ i : Nat, (i : Int) ≤ b - a → x_lp q F v a (b + 1) i = x_lp q F' v' a (b + 1) i := by
  intro i hi
  unfold x_lp
  rw [hv i hi]
  by_cases h : (a + (i : Int)) % 2 = q ∧ a + (i : Int) < b + 1
  · rw [if_pos h, if_pos h, hF _ _ (by omega) (by omega)]
  · rw [if_neg h, if_neg h]
theorem x_LF_ext {fwd : Bool} (h : a ≤ b) (hv : ∀ i : Nat, (i : Int) ≤ b - a → v i = v' i) : ∀ i : Nat, (i : Int) ≤ b - a → x_LF fwd k v a b i = x_LF fwd k v' a b i := by
  intro i hi
  unfold x_LF x_fw x_bw
  by_cases e : a = b
  · have hi0 : i = 0 := by omega
    rw [if_pos e, if_pos e, if_pos e, if_pos e, hi0]
    have := hv 0 (by omega)
    cases fwd
    · have e0 : ∀ (P Q : Nat → Int32), (if false = true then P else Q) = Q := fun _ _ => rfl
      rw [e0, e0, pk_us, pk_us, this]
    · have e0 : ∀ (P Q : Nat → Int32), (if true = true then P else Q) = P := fun _ _ => rfl
      rw [e0, e0, pk_us, pk_us, this]
  · have hl : a < b := by omega
    rw [if_neg e, if_neg e, if_neg e, if_neg e]
    cases fwd
    · show x_g2 k v a b i = x_g2 k v' a b i
      have h1 : ∀ i : Nat, (i : Int) ≤ b - a → x_g1 k v a b i = x_g1 k v' a b i := x_lp_ext hv (fun z x h1 h2 => by rw [x_U_ext hl hv h1 h2])
      exact x_lp_ext h1 (fun z x h3 h4 => by rw [x_P_ext hl h1 h3 h4]) i hi
    · show x_f2 k v a b i = x_f2 k v' a b i
      have h1 : ∀ i : Nat, (i : Int) ≤ b - a → x_f1 k v a b i = x_f1 k v' a b i := x_lp_ext hv (fun z x h1 h2 => by rw [x_P_ext hl hv h1 h2])
      exact x_lp_ext h1 (fun z x h3 h4 => by rw [x_U_ext hl h1 h3 h4]) i hi
end EXT
theorem x_ln_eq {fwd : Bool} {kn : Int32} {f v : Nat → Int32} {c st n : Nat} {a : Int} (hn : 0 < n) : x_wr f (x_LF fwd kn (x_fg v (fun i => f (c + i * st)) n) a (a + (n : Int) - 1)) c st n = x_ln fwd kn f c st a n := by
  unfold x_ln
  exact x_wr_ext (fun i hi => x_LF_ext (by omega) (fun i hi => x_fg_lt (by omega)) i (by omega))
def x_lc (q p ba sa bc sb k : Nat) : Nat := q * 256 + (x_cd ba p * 2 ^ p - ba) * sa + ((x_cd bc p + k) * 2 ^ p - bc) * sb
def x_LL (fwd : Bool) (kn : Int32) (q p ba na sa bc sb : Nat) (f : Nat → Int32) (m : Nat) : Nat → Int32 := x_it (fun k g => x_ln fwd kn g (x_lc q p ba sa bc sb k) (sa * 2 ^ p) (x_cd ba p : Int) (x_cd (ba + na) p - x_cd ba p)) f m
theorem x_it_id {G : Nat → (Nat → Int32) → Nat → Int32} {f : Nat → Int32} (h : ∀ k g, G k g = g) : ∀ n, x_it G f n = f
  | 0 => rfl
  | n + 1 => by
    show G n _ = f
    rw [h, x_it_id h n]
theorem x_cin {q p ba na sa bc nc sb k i : Nat} (hp : p ≤ 3) (hq : q < 3) (hs : sa = 1 ∧ sb = 16 ∨ sa = 16 ∧ sb = 1) (hna : na ≤ 16) (hnc : nc ≤ 16) (hi : i < x_cd (ba + na) p - x_cd ba p) (hk : k < x_cd (bc + nc) p - x_cd bc p) : x_lc q p ba sa bc sb k + i * (sa * 2 ^ p) < 768 := by
  have h1 : (x_cd ba p + i) * 2 ^ p < ba + na := x_cd_lt.mpr (by omega)
  have h2 : (x_cd bc p + k) * 2 ^ p < bc + nc := x_cd_lt.mpr (by omega)
  have h3 : ba ≤ x_cd ba p * 2 ^ p := x_cd_le.mp (Nat.le_refl _)
  have h4 : bc ≤ x_cd bc p * 2 ^ p := x_cd_le.mp (Nat.le_refl _)
  unfold x_lc
  generalize x_cd ba p = A at *
  generalize x_cd bc p = B at *
  match p, hp with
  | 0, _ => rcases hs with ⟨rfl, rfl⟩ | ⟨rfl, rfl⟩ <;> omega
  | 1, _ => rcases hs with ⟨rfl, rfl⟩ | ⟨rfl, rfl⟩ <;> omega
  | 2, _ => rcases hs with ⟨rfl, rfl⟩ | ⟨rfl, rfl⟩ <;> omega
  | 3, _ => rcases hs with ⟨rfl, rfl⟩ | ⟨rfl, rfl⟩ <;> omega
theorem x_cdn {x n p : Nat} (hn : n ≤ 16) : x_cd (x + n) p - x_cd x p ≤ 16 := by
  by_cases h : x_cd (x + n) p ≤ x_cd x p
  · omega
  · have h1 : (x_cd (x + n) p - 1) * 2 ^ p < x + n := x_cd_lt.mpr (by omega)
    have h3 : x ≤ x_cd x p * 2 ^ p := x_cd_le.mp (Nat.le_refl _)
    have h4 : x_cd (x + n) p - 1 = x_cd x p + (x_cd (x + n) p - x_cd x p - 1) := by omega
    rw [h4, Nat.add_mul] at h1
    have h5 := Nat.mul_le_mul_left (x_cd (x + n) p - x_cd x p - 1) (Nat.one_le_two_pow (n := p))
    omega
theorem x_cdb {x p : Nat} : x_cd x p ≤ x := x_cd_le.mpr (by have := Nat.mul_le_mul_left x (Nat.one_le_two_pow (n := p)); omega)
theorem x_cds {x p n : Nat} (h : n < x) : x_cd n p * 2 ^ p ≤ n + 2 ^ p - 1 := by
  unfold x_cd
  exact Nat.div_mul_le_self _ _
abbrev x_LP (sc : Nat → Int32) (ar : Nat → Nat → Int32) (F : Nat → Int32) : Option Value → (Nat → Int32) → (Nat → Nat → Int32) → Prop := fun r sc' ar' => r = none ∧ (∀ i, i ≠ 6 → i ≠ 7 → sc' i = sc i) ∧ (∀ i, i ≠ 0 → i ≠ 2 → ar' i = ar i) ∧ ar' 0 = F
section SN
variable {l : Launch} {ad : Nat → Nat} {D : va_G} {cI : ClassId} {sc : Nat → Int32} {ar : Nat → Nat → Int32}
theorem c_S_countN (hd : x_dis ad) {j b n p : Nat} {p0 t0 : Int32} (hj : j < 2) (hb : sc (2 * j + 2) = nI b) (hn : sc (2 * j + 3) = nI n) (hp : p ≤ 4) (hbb : b ≤ 1000) (hnn : n ≤ 16) (ep : p0 = nI p) (et : t0 = 0) : x_Con l M_S_countOf 1 22 ad D cI [.ref (ad (j + 2)), .int p0, .int t0] sc ar (x_E (some (.int (nI (x_cd (b + n) p - x_cd b p)))) sc ar) := by
  subst ep
  subst et
  have e : x_lf (sc (2 * j + 2) + sc (2 * j + 3)) (nI p) 0 - x_lf (sc (2 * j + 2)) (nI p) 0 = nI (x_cd (b + n) p - x_cd b p) := by
    rw [hb, hn, nI_add, x_lf0 hp (by omega), x_lf0 hp (by omega), pk_sub (x_cd_mono (by omega))]
  rw [← e]
  exact c_S_countOf hd hj
theorem c_S_firstN (hd : x_dis ad) {j b p : Nat} {p0 t0 : Int32} (hj : j < 2) (hb : sc (2 * j + 2) = nI b) (hp : p ≤ 4) (hbb : b ≤ 1000) (ep : p0 = nI p) (et : t0 = 0) : x_Con l M_S_firstOf 1 22 ad D cI [.ref (ad (j + 2)), .int p0, .int t0] sc ar (x_E (some (.int (nI (x_cd b p)))) sc ar) := by
  subst ep
  subst et
  have e : x_lf (sc (2 * j + 2)) (nI p) 0 = nI (x_cd b p) := by rw [hb, x_lf0 hp (by omega)]
  rw [← e]
  exact c_S_firstOf hd hj
theorem c_S_offsetN (hd : x_dis ad) {j b z : Nat} {z0 : Int64} (hj : j < 2) (hb : sc (2 * j + 2) = nI b) (ez : z0 = lN z) (h : b ≤ z) (hz : z < 2 ^ 31) : x_Con l M_S_offsetOf 0 0 ad D cI [.ref (ad (j + 2)), .long z0] sc ar (x_E (some (.int (nI ((z - b) * x_sN j)))) sc ar) := by
  subst ez
  rw [← x_offN hj hb h hz]
  exact c_S_offsetOf hd hj
end SN
section C11
variable {l : Launch} {ad : Nat → Nat} {D : va_G} {cI : ClassId} {sc : Nat → Int32} {ar : Nat → Nat → Int32}
set_option maxRecDepth 100000 in
set_option maxHeartbeats 4000000 in
theorem c_T_liftLines (hd : x_dis ad) {j i q p0 ba na bc nc : Nat} {fwd : Bool} {kn w : Int32} (hj : j < 2) (hi : i < 2) (hij : i + j = 1) (hq : q < 3) (hp : p0 ≤ 3) (hp0 : sc 0 = nI p0) (hba : sc (2 * j + 2) = nI ba) (hna : sc (2 * j + 3) = nI na) (hbc : sc (2 * i + 2) = nI bc) (hnc : sc (2 * i + 3) = nI nc) (h1 : ba ≤ 1000) (h2 : na ≤ 16) (h3 : bc ≤ 1000) (h4 : nc ≤ 16) (hw : w = 0 ∧ fwd = false ∨ w = 1 ∧ fwd = true) : x_Con l M_T_liftLines 4 89 ad D cI [.ref (ad 0), .int (nI q), .ref (ad (j + 2)), .ref (ad (i + 2)), .int kn, .int w] sc ar (x_LP sc ar (x_LL fwd kn q p0 ba na (x_sN j) bc (x_sN i) (ar 0) (x_cd (bc + nc) p0 - x_cd bc p0))) := by
  have hs : x_sN j = 1 ∧ x_sN i = 16 ∨ x_sN j = 16 ∧ x_sN i = 1 := by
    match j, i, hj, hi, hij with
    | 0, 1, _, _, _ => exact Or.inl ⟨rfl, rfl⟩
    | 1, 0, _, _, _ => exact Or.inr ⟨rfl, rfl⟩
  have hA := x_cdb (x := ba) (p := p0)
  have hB := x_cdb (x := bc) (p := p0)
  have hE := x_cdb (x := bc + nc) (p := p0)
  have hN := x_cdn (x := ba) (p := p0) h2
  have hM := x_cd_mono (x := bc) (y := bc + nc) (p := p0) (by omega)
  have ga : ba ≤ x_cd ba p0 * 2 ^ p0 := x_cd_le.mp (Nat.le_refl _)
  have h16 : 2 ^ p0 ≤ 2 ^ 3 := Nat.pow_le_pow_right (by decide) hp
  refine x_intro hd [some (.ref (ad 0)), some (.int (nI q)), some (.ref (ad (j + 2))), some (.ref (ad (i + 2))), some (.int kn), some (.int w), none, none, none, none, none, none, none] (by decide) (Nat.le_of_ble_eq_true rfl) rfl ?_
  intro p e s m args below meth c X
  have loop : 0 < (x_cd (ba + na) p0 - x_cd ba p0) → ∀ (n k : Nat) (sc' : Nat → Int32) (ar' : Nat → Nat → Int32), (x_cd (bc + nc) p0 - x_cd bc p0) - k < n → k ≤ (x_cd (bc + nc) p0 - x_cd bc p0) → (∀ z, z ≠ 6 → z ≠ 7 → sc' z = sc z) → (∀ z, z ≠ 0 → z ≠ 2 → ar' z = ar z) → ar' 0 = x_LL fwd kn q p0 ba na (x_sN j) bc (x_sN i) (ar 0) k → x_G p l e (x_rm 4 89) s m args below meth c M_T_liftLines ad D cI (x_A ad) 0 0 (x_Q below args s ad D cI (x_LP sc ar (x_LL fwd kn q p0 ba na (x_sN j) bc (x_sN i) (ar 0) (x_cd (bc + nc) p0 - x_cd bc p0)))) 55 [some (.ref (ad 0)), some (.int (nI q)), some (.ref (ad (j + 2))), some (.ref (ad (i + 2))), some (.int kn), some (.int w), some (.int (nI p0)), some (.int (nI (x_cd (ba + na) p0 - x_cd ba p0))), some (.int (nI (x_cd ba p0))), some (.int (nI (x_cd bc p0))), some (.int (nI (x_cd (bc + nc) p0))), some (.int (nI (x_cd bc p0 + k))), none] [] sc' ar' := by
    intro hN0 n
    induction n with
    | zero => intro k sc' ar' h; exact absurd h (Nat.not_lt_zero _)
    | succ n ih =>
      intro k sc' ar' hn hk hsc har hf
      refine xg_iload X (pc := 55) d_T_liftLines_55 rfl ?_
      refine xg_iload X (pc := 57) d_T_liftLines_57 rfl ?_
      refine xg_icmp_ge X (pc := 59) (tgt := 167) d_T_liftLines_59 rfl (fun h59 => ?_) (fun h59 => ?_)
      · have hk2 : k = (x_cd (bc + nc) p0 - x_cd bc p0) := by
          have := x_ge rfl (by omega) (by omega) h59
          omega
        subst hk2
        exact xg_vret X (pc := 167) d_T_liftLines_167 rfl (⟨rfl, hsc, har, hf⟩)
      · have hk3 : k < (x_cd (bc + nc) p0 - x_cd bc p0) := by
          have := x_nge rfl (by omega) (by omega) h59
          omega
        have gk : bc ≤ (x_cd bc p0 + k) * 2 ^ p0 := x_cd_le.mp (by omega)
        have gk2 : (x_cd bc p0 + k) * 2 ^ p0 < bc + nc := x_cd_lt.mpr (by omega)
        have ga2 : x_cd ba p0 * 2 ^ p0 < ba + na := x_cd_lt.mpr (by omega)
        have hba' : sc' (2 * j + 2) = nI ba := by rw [hsc _ (by omega) (by omega)]; exact hba
        have hbc' : sc' (2 * i + 2) = nI bc := by rw [hsc _ (by omega) (by omega)]; exact hbc
        have est : x_st j <<< (nI p0 &&& 31) = nI (x_sN j * 2 ^ p0) := by rw [x_st_N hj, x_shl (by omega) (by omega)]
        refine xg_iload_n X (pc := 62) d_T_liftLines_62 rfl ?_
        refine xg_sipush X (pc := 63) (v := 256) d_T_liftLines_63 (by decide) ?_
        refine xg_imul X (pc := 66) d_T_liftLines_66 ?_
        refine xg_aload_n X (pc := 67) d_T_liftLines_67 rfl ?_
        refine xg_iload X (pc := 68) d_T_liftLines_68 rfl ?_
        refine xg_iload X (pc := 70) d_T_liftLines_70 rfl ?_
        refine xg_ishl X (pc := 72) d_T_liftLines_72 ?_
        refine xg_i2l X (pc := 73) d_T_liftLines_73 ?_
        refine xg_crV1 X (pc := 74) d_T_liftLines_74 (c_S_offsetN hd hj hba' (by rw [x_shl (by omega) (by omega), nI_l (by omega)]) ga (by omega)) s_T_131 (x_rcS hj) rfl ⟨by decide, by decide⟩ (Nat.le_of_ble_eq_true rfl) ?_
        refine xg_iadd X (pc := 77) d_T_liftLines_77 ?_
        refine xg_aload_n X (pc := 78) d_T_liftLines_78 rfl ?_
        refine xg_iload X (pc := 79) d_T_liftLines_79 rfl ?_
        refine xg_iload X (pc := 81) d_T_liftLines_81 rfl ?_
        refine xg_ishl X (pc := 83) d_T_liftLines_83 ?_
        refine xg_i2l X (pc := 84) d_T_liftLines_84 ?_
        refine xg_crV1 X (pc := 85) d_T_liftLines_85 (c_S_offsetN hd hi hbc' (by rw [x_shl (by omega) (by omega), nI_l (by omega)]) gk (by omega)) s_T_131 (x_rcS hi) rfl ⟨by decide, by decide⟩ (Nat.le_of_ble_eq_true rfl) ?_
        refine xg_iadd X (pc := 88) d_T_liftLines_88 ?_
        refine xg_istore X (pc := 89) d_T_liftLines_89 (by decide) rfl ?_
        refine xg_weak [some (.ref (ad 0)), some (.int (nI q)), some (.ref (ad (j + 2))), some (.ref (ad (i + 2))), some (.int kn), some (.int w), some (.int (nI p0)), some (.int (nI (x_cd (ba + na) p0 - x_cd ba p0))), some (.int (nI (x_cd ba p0))), some (.int (nI (x_cd bc p0))), some (.int (nI (x_cd (bc + nc) p0))), some (.int (nI (x_cd bc p0 + k))), some (.int (nI (x_lc q p0 ba (x_sN j) bc (x_sN i) k)))] ⟨rfl, rfl, rfl, rfl, rfl, rfl, rfl, rfl, rfl, rfl, rfl, rfl, by rw [x_m256, nI_add, nI_add]; rfl, trivial⟩ ?_
        refine xg_aload_n X (pc := 91) d_T_liftLines_91 rfl ?_
        refine xf_T_28 X (pc := 92) rfl d_T_liftLines_92 ?_
        refine xg_aload_n X (pc := 95) d_T_liftLines_95 rfl ?_
        refine xf_T_9 X (pc := 96) rfl d_T_liftLines_96 ?_
        refine xg_iload X (pc := 99) d_T_liftLines_99 rfl ?_
        refine xg_aload_n X (pc := 101) d_T_liftLines_101 rfl ?_
        refine xf_T_138_j X (pc := 102) hj rfl d_T_liftLines_102 ?_
        refine xg_iload X (pc := 105) d_T_liftLines_105 rfl ?_
        refine xg_ishl X (pc := 107) d_T_liftLines_107 ?_
        refine xg_iload X (pc := 108) d_T_liftLines_108 rfl ?_
        refine xg_iload X (pc := 110) d_T_liftLines_110 rfl ?_
        refine xg_cvV5 X (pc := 112) d_T_liftLines_112 (c_L_readFrom hd rfl est (zI_nI _).symm rfl hN (fun i hi9 => x_cin hp hq hs h2 h4 hi9 hk3)) s_T_141 ⟨_, rfl⟩ rfl ⟨by decide, by decide⟩ (Nat.le_of_ble_eq_true rfl) ?_
        refine xg_iload X (pc := 115) d_T_liftLines_115 rfl ?_
        refine xg_if_eq X (pc := 117) (tgt := 132) d_T_liftLines_117 rfl (fun h117 => ?_) (fun h117 => ?_)
        · have hfw0 : fwd = false := by
            rcases hw with ⟨-, h⟩ | ⟨h, -⟩
            · exact h
            · rw [h] at h117; exact absurd h117 (by decide)
          subst hfw0
          refine xg_aload_n X (pc := 132) d_T_liftLines_132 rfl ?_
          refine xf_T_28 X (pc := 133) rfl d_T_liftLines_133 ?_
          refine xg_iload X (pc := 136) d_T_liftLines_136 rfl ?_
          refine xg_cvV1 X (pc := 138) d_T_liftLines_138 (c_L_liftBack hd rfl rfl (by omega) (by omega) (by omega) (by omega)) s_T_148 ⟨_, rfl⟩ rfl ⟨by decide, by decide⟩ (Nat.le_of_ble_eq_true rfl) ?_
          refine xg_aload_n X (pc := 141) d_T_liftLines_141 rfl ?_
          refine xf_T_28 X (pc := 142) rfl d_T_liftLines_142 ?_
          refine xg_aload_n X (pc := 145) d_T_liftLines_145 rfl ?_
          refine xf_T_9 X (pc := 146) rfl d_T_liftLines_146 ?_
          refine xg_iload X (pc := 149) d_T_liftLines_149 rfl ?_
          refine xg_aload_n X (pc := 151) d_T_liftLines_151 rfl ?_
          refine xf_T_138_j X (pc := 152) hj rfl d_T_liftLines_152 ?_
          refine xg_iload X (pc := 155) d_T_liftLines_155 rfl ?_
          refine xg_ishl X (pc := 157) d_T_liftLines_157 ?_
          refine xg_cvV3 X (pc := 158) d_T_liftLines_158 (c_L_writeTo hd rfl est rfl rfl (by omega) (by omega) hN (fun i hi9 => x_cin hp hq hs h2 h4 hi9 hk3)) s_T_151 ⟨_, rfl⟩ rfl ⟨by decide, by decide⟩ (Nat.le_of_ble_eq_true rfl) ?_
          refine xg_iinc X (pc := 161) d_T_liftLines_161 rfl (x_inc (by decide : Int32.ofInt (1) = 1) _) (by decide) rfl ?_
          refine xg_goto X (pc := 164) (tgt := 55) d_T_liftLines_164 rfl ?_
          refine xg_weak [some (.ref (ad 0)), some (.int (nI q)), some (.ref (ad (j + 2))), some (.ref (ad (i + 2))), some (.int kn), some (.int w), some (.int (nI p0)), some (.int (nI (x_cd (ba + na) p0 - x_cd ba p0))), some (.int (nI (x_cd ba p0))), some (.int (nI (x_cd bc p0))), some (.int (nI (x_cd (bc + nc) p0))), some (.int (nI (x_cd bc p0 + (k + 1)))), none] ⟨rfl, rfl, rfl, rfl, rfl, rfl, rfl, rfl, rfl, rfl, rfl, by rw [x_k1] <;> rfl, trivial⟩ ?_
          refine ih (k + 1) _ _ (by omega) (by omega) ?_ ?_ ?_
          · intro z h6 h7
            rw [← hsc z h6 h7]
            show upd (upd sc' 6 _) 7 _ z = _
            rw [pk_un h7, pk_un h6]
          · intro z h6 h7
            rw [← har z h6 h7]
            rw [x_ua_ne h6, x_ua_ne h7, x_ua_ne h7]
          · show x_wr (ar' 0) _ _ _ _ = x_ln _ _ (x_LL _ kn q p0 ba na (x_sN j) bc (x_sN i) (ar 0) k) _ _ _ _
            rw [← hf, x_ua_at, x_ua_at]
            first
            | exact x_ln_eq (fwd := true) hN0
            | exact x_ln_eq (fwd := false) hN0
        · have hfw0 : fwd = true := by
            rcases hw with ⟨h, -⟩ | ⟨-, h⟩
            · exact absurd h h117
            · exact h
          subst hfw0
          refine xg_aload_n X (pc := 120) d_T_liftLines_120 rfl ?_
          refine xf_T_28 X (pc := 121) rfl d_T_liftLines_121 ?_
          refine xg_iload X (pc := 124) d_T_liftLines_124 rfl ?_
          refine xg_cvV1 X (pc := 126) d_T_liftLines_126 (c_L_liftForth hd rfl rfl (by omega) (by omega) (by omega) (by omega)) s_T_145 ⟨_, rfl⟩ rfl ⟨by decide, by decide⟩ (Nat.le_of_ble_eq_true rfl) ?_
          refine xg_goto X (pc := 129) (tgt := 141) d_T_liftLines_129 rfl ?_
          refine xg_aload_n X (pc := 141) d_T_liftLines_141 rfl ?_
          refine xf_T_28 X (pc := 142) rfl d_T_liftLines_142 ?_
          refine xg_aload_n X (pc := 145) d_T_liftLines_145 rfl ?_
          refine xf_T_9 X (pc := 146) rfl d_T_liftLines_146 ?_
          refine xg_iload X (pc := 149) d_T_liftLines_149 rfl ?_
          refine xg_aload_n X (pc := 151) d_T_liftLines_151 rfl ?_
          refine xf_T_138_j X (pc := 152) hj rfl d_T_liftLines_152 ?_
          refine xg_iload X (pc := 155) d_T_liftLines_155 rfl ?_
          refine xg_ishl X (pc := 157) d_T_liftLines_157 ?_
          refine xg_cvV3 X (pc := 158) d_T_liftLines_158 (c_L_writeTo hd rfl est rfl rfl (by omega) (by omega) hN (fun i hi9 => x_cin hp hq hs h2 h4 hi9 hk3)) s_T_151 ⟨_, rfl⟩ rfl ⟨by decide, by decide⟩ (Nat.le_of_ble_eq_true rfl) ?_
          refine xg_iinc X (pc := 161) d_T_liftLines_161 rfl (x_inc (by decide : Int32.ofInt (1) = 1) _) (by decide) rfl ?_
          refine xg_goto X (pc := 164) (tgt := 55) d_T_liftLines_164 rfl ?_
          refine xg_weak [some (.ref (ad 0)), some (.int (nI q)), some (.ref (ad (j + 2))), some (.ref (ad (i + 2))), some (.int kn), some (.int w), some (.int (nI p0)), some (.int (nI (x_cd (ba + na) p0 - x_cd ba p0))), some (.int (nI (x_cd ba p0))), some (.int (nI (x_cd bc p0))), some (.int (nI (x_cd (bc + nc) p0))), some (.int (nI (x_cd bc p0 + (k + 1)))), none] ⟨rfl, rfl, rfl, rfl, rfl, rfl, rfl, rfl, rfl, rfl, rfl, by rw [x_k1] <;> rfl, trivial⟩ ?_
          refine ih (k + 1) _ _ (by omega) (by omega) ?_ ?_ ?_
          · intro z h6 h7
            rw [← hsc z h6 h7]
            show upd (upd sc' 6 _) 7 _ z = _
            rw [pk_un h7, pk_un h6]
          · intro z h6 h7
            rw [← har z h6 h7]
            rw [x_ua_ne h6, x_ua_ne h7, x_ua_ne h7]
          · show x_wr (ar' 0) _ _ _ _ = x_ln _ _ (x_LL _ kn q p0 ba na (x_sN j) bc (x_sN i) (ar 0) k) _ _ _ _
            rw [← hf, x_ua_at, x_ua_at]
            first
            | exact x_ln_eq (fwd := true) hN0
            | exact x_ln_eq (fwd := false) hN0
  refine xg_aload_n X (pc := 0) d_T_liftLines_0 rfl ?_
  refine xf_T_35 X (pc := 1) rfl d_T_liftLines_1 ?_
  rw [hp0]
  refine xg_istore X (pc := 4) d_T_liftLines_4 (by decide) rfl ?_
  refine xg_aload_n X (pc := 6) d_T_liftLines_6 rfl ?_
  refine xg_iload X (pc := 7) d_T_liftLines_7 rfl ?_
  refine xg_iconst X (pc := 9) (v := 0) d_T_liftLines_9 (by decide) ?_
  refine xg_crV2 X (pc := 10) d_T_liftLines_10 (c_S_countN hd hj hba hna (by omega) h1 h2 rfl rfl) s_T_101 (x_rcS hj) rfl ⟨by decide, by decide⟩ (Nat.le_of_ble_eq_true rfl) ?_
  refine xg_istore X (pc := 13) d_T_liftLines_13 (by decide) rfl ?_
  refine xg_iload X (pc := 15) d_T_liftLines_15 rfl ?_
  refine xg_if_ne X (pc := 17) (tgt := 21) d_T_liftLines_17 rfl (fun h17 => ?_) (fun h17 => ?_)
  · have hN0 : 0 < (x_cd (ba + na) p0 - x_cd ba p0) := Nat.pos_of_ne_zero fun q9 => h17 (by rw [q9]; rfl)
    refine xg_aload_n X (pc := 21) d_T_liftLines_21 rfl ?_
    refine xg_iload X (pc := 22) d_T_liftLines_22 rfl ?_
    refine xg_iconst X (pc := 24) (v := 0) d_T_liftLines_24 (by decide) ?_
    refine xg_crV2 X (pc := 25) d_T_liftLines_25 (c_S_firstN hd hj hba (by omega) h1 rfl rfl) s_T_95 (x_rcS hj) rfl ⟨by decide, by decide⟩ (Nat.le_of_ble_eq_true rfl) ?_
    refine xg_istore X (pc := 28) d_T_liftLines_28 (by decide) rfl ?_
    refine xg_aload_n X (pc := 30) d_T_liftLines_30 rfl ?_
    refine xg_iload X (pc := 31) d_T_liftLines_31 rfl ?_
    refine xg_iconst X (pc := 33) (v := 0) d_T_liftLines_33 (by decide) ?_
    refine xg_crV2 X (pc := 34) d_T_liftLines_34 (c_S_firstN hd hi hbc (by omega) h3 rfl rfl) s_T_95 (x_rcS hi) rfl ⟨by decide, by decide⟩ (Nat.le_of_ble_eq_true rfl) ?_
    refine xg_istore X (pc := 37) d_T_liftLines_37 (by decide) rfl ?_
    refine xg_iload X (pc := 39) d_T_liftLines_39 rfl ?_
    refine xg_aload_n X (pc := 41) d_T_liftLines_41 rfl ?_
    refine xg_iload X (pc := 42) d_T_liftLines_42 rfl ?_
    refine xg_iconst X (pc := 44) (v := 0) d_T_liftLines_44 (by decide) ?_
    refine xg_crV2 X (pc := 45) d_T_liftLines_45 (c_S_countN hd hi hbc hnc (by omega) h3 h4 rfl rfl) s_T_101 (x_rcS hi) rfl ⟨by decide, by decide⟩ (Nat.le_of_ble_eq_true rfl) ?_
    refine xg_iadd X (pc := 48) d_T_liftLines_48 ?_
    refine xg_istore X (pc := 49) d_T_liftLines_49 (by decide) rfl ?_
    refine xg_iload X (pc := 51) d_T_liftLines_51 rfl ?_
    refine xg_istore X (pc := 53) d_T_liftLines_53 (by decide) rfl ?_
    refine xg_weak [some (.ref (ad 0)), some (.int (nI q)), some (.ref (ad (j + 2))), some (.ref (ad (i + 2))), some (.int kn), some (.int w), some (.int (nI p0)), some (.int (nI (x_cd (ba + na) p0 - x_cd ba p0))), some (.int (nI (x_cd ba p0))), some (.int (nI (x_cd bc p0))), some (.int (nI (x_cd (bc + nc) p0))), some (.int (nI (x_cd bc p0 + 0))), none] ⟨rfl, rfl, rfl, rfl, rfl, rfl, rfl, rfl, rfl, rfl, by rw [nI_add]; congr 3; omega, by rw [Nat.add_zero], trivial⟩ ?_
    exact loop hN0 _ 0 sc ar (Nat.lt_succ_self _) (by omega) (fun _ _ _ => rfl) (fun _ _ _ => rfl) rfl
  · have hN0 : (x_cd (ba + na) p0 - x_cd ba p0) = 0 := (nI_eq (by omega) (by decide)).mp h17
    exact xg_vret X (pc := 20) d_T_liftLines_20 rfl (⟨rfl, fun _ _ _ => rfl, fun _ _ _ => rfl, by unfold x_LL; rw [x_it_id]; intro k g; unfold x_ln; rw [hN0]; rfl⟩)
end C11
