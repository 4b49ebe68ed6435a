section XL
variable {p : Program} {l : Launch} {e : Env} {R : Room} {s : State} {m : MethodId} {args : Array Value} {below : List Frame} {meth : Method} {c : Code} {y : x_M} {ad : Nat → Nat} {D : va_G} {cI : ClassId} {A : Nat → Prop} {cells slots : Nat} {Q : State → Prop} {pc : Nat} {L : List (Option Value)} {rest : List Value} {sc : Nat → Int32} {ar : Nat → Nat → Int32}
theorem xg_sld (X : x_X p R s m args meth c y ad D cI A cells slots) {b n : Nat} {i : Int32} {xs : Nat → Int32} (hX : va_X b n xs s s.heap) (hbl : b < s.heap.size) (hbA : ¬ A b) (hdg : decode y.2.1 pc = .ok (.iaload, 1)) (hin : vp_in i n) (k : x_G p l e R s m args below meth c y ad D cI A cells slots Q (pc + 1) L (.int (xs i.toNatClampNeg) :: rest) sc ar) : x_G p l e R s m args below meth c y ad D cI A cells slots Q pc L (.int i :: .ref b :: rest) sc ar :=
  fun H locs ls hl hP hS => va_sld X.ex X.cd hX hbl hbA hS hin hdg (k H locs ls hl hP hS)
theorem xg_slen (X : x_X p R s m args meth c y ad D cI A cells slots) {b n : Nat} {xs : Nat → Int32} (hX : va_X b n xs s s.heap) (hbl : b < s.heap.size) (hbA : ¬ A b) (hdg : decode y.2.1 pc = .ok (.arraylength, 1)) (k : x_G p l e R s m args below meth c y ad D cI A cells slots Q (pc + 1) L (.int (Int32.ofNat n) :: rest) sc ar) : x_G p l e R s m args below meth c y ad D cI A cells slots Q pc L (.ref b :: rest) sc ar :=
  fun H locs ls hl hP hS => va_slen X.ex X.cd hX hbl hbA hS hdg (k H locs ls hl hP hS)
end XL
theorem x_sin {i c L : Nat} {z : Int32} (e : z = nI c) (hL : L ≤ 3072) (h : i + c < L) : vp_in (nI i + z) L := by
  rw [e, nI_add]
  exact vp_in_nI h (by omega)
theorem x_cmps (r : Int64) : lg_cmp r r = 0 := ((x_cmpc r r).2.2.2.2).mpr rfl
section CL
variable {p : Program} {l : Launch} {e : Env} {s : State} {m : MethodId} {below : List Frame} {meth : Method} {c : Code} {ad : Nat → Nat} {D : va_G} {cI : ClassId} {b L k : Nat} {xs : Nat → Int32} {sc : Nat → Int32} {ar : Nat → Nat → Int32}
set_option maxRecDepth 100000 in
set_option maxHeartbeats 800000 in
theorem law_0 (X : x_X p room_1 s m #[Value.ref b] meth c M_W_law ad D cI (fun q => s.heap.size ≤ q) 12 1622) (hX : va_X b L xs s s.heap) (hbl : b < s.heap.size) (hbA : ¬ s.heap.size ≤ b) (hL : L ≤ 3072) (hk : 6 * k + 6 ≤ L) (hN : x_IN sc ar) (cont : ∀ (sc2 : Nat → Int32) (ar2 : Nat → Nat → Int32), x_IN sc2 ar2 → x_G p l e room_1 s m #[Value.ref b] below meth c M_W_law ad D cI (fun q => s.heap.size ≤ q) 12 1622 (lw_Z below #[Value.ref b] s) 636 [some (.ref b), some (.ref (ad 0)), some (.ref (ad 7)), some (.int (nI (6 * k)))] [] sc2 ar2) : x_G p l e room_1 s m #[Value.ref b] below meth c M_W_law ad D cI (fun q => s.heap.size ≤ q) 12 1622 (lw_Z below #[Value.ref b] s) 108 [some (.ref b), some (.ref (ad 0)), some (.ref (ad 7)), some (.int (nI (6 * k)))] [] sc ar := by
  obtain ⟨r, hC⟩ := k_open (l := l) (D := D) (cI := cI) X.dis hN (xs (nI (6 * k) + 1).toNatClampNeg) (xs (nI (6 * k) + 2).toNatClampNeg) (xs (nI (6 * k) + 3).toNatClampNeg) (xs (nI (6 * k) + 4).toNatClampNeg)
  refine xg_aload_n X (pc := 108) d_W_law_108 rfl ?_
  refine xg_aload_n X (pc := 109) d_W_law_109 rfl ?_
  refine xg_iload_n X (pc := 110) d_W_law_110 rfl ?_
  refine xg_iconst X (pc := 111) (v := 1) d_W_law_111 (by decide) ?_
  refine xg_iadd X (pc := 112) d_W_law_112 ?_
  refine xg_sld X (pc := 113) hX hbl hbA d_W_law_113 (x_sin (c := 1) rfl hL (by omega)) ?_
  refine xg_aload_n X (pc := 114) d_W_law_114 rfl ?_
  refine xg_iload_n X (pc := 115) d_W_law_115 rfl ?_
  refine xg_iconst X (pc := 116) (v := 2) d_W_law_116 (by decide) ?_
  refine xg_iadd X (pc := 117) d_W_law_117 ?_
  refine xg_sld X (pc := 118) hX hbl hbA d_W_law_118 (x_sin (c := 2) rfl hL (by omega)) ?_
  refine xg_aload_n X (pc := 119) d_W_law_119 rfl ?_
  refine xg_iload_n X (pc := 120) d_W_law_120 rfl ?_
  refine xg_iconst X (pc := 121) (v := 3) d_W_law_121 (by decide) ?_
  refine xg_iadd X (pc := 122) d_W_law_122 ?_
  refine xg_sld X (pc := 123) hX hbl hbA d_W_law_123 (x_sin (c := 3) rfl hL (by omega)) ?_
  refine xg_aload_n X (pc := 124) d_W_law_124 rfl ?_
  refine xg_iload_n X (pc := 125) d_W_law_125 rfl ?_
  refine xg_iconst X (pc := 126) (v := 4) d_W_law_126 (by decide) ?_
  refine xg_iadd X (pc := 127) d_W_law_127 ?_
  refine xg_sld X (pc := 128) hX hbl hbA d_W_law_128 (x_sin (c := 4) rfl hL (by omega)) ?_
  refine xg_cV4 X (pc := 129) d_W_law_129 hC s_W_13 ⟨_, rfl⟩ rfl ⟨by decide, by decide⟩ (Nat.le_of_ble_eq_true rfl) ?_
  rintro _ sc1 ar1 ⟨rfl, hC2⟩
  refine xg_aload_n X (pc := 132) d_W_law_132 rfl ?_
  refine xg_aload_n X (pc := 133) d_W_law_133 rfl ?_
  refine xg_iload_n X (pc := 134) d_W_law_134 rfl ?_
  refine xg_iconst X (pc := 135) (v := 1) d_W_law_135 (by decide) ?_
  refine xg_iadd X (pc := 136) d_W_law_136 ?_
  refine xg_sld X (pc := 137) hX hbl hbA d_W_law_137 (x_sin (c := 1) rfl hL (by omega)) ?_
  refine xg_aload_n X (pc := 138) d_W_law_138 rfl ?_
  refine xg_iload_n X (pc := 139) d_W_law_139 rfl ?_
  refine xg_iconst X (pc := 140) (v := 2) d_W_law_140 (by decide) ?_
  refine xg_iadd X (pc := 141) d_W_law_141 ?_
  refine xg_sld X (pc := 142) hX hbl hbA d_W_law_142 (x_sin (c := 2) rfl hL (by omega)) ?_
  refine xg_aload_n X (pc := 143) d_W_law_143 rfl ?_
  refine xg_iload_n X (pc := 144) d_W_law_144 rfl ?_
  refine xg_iconst X (pc := 145) (v := 3) d_W_law_145 (by decide) ?_
  refine xg_iadd X (pc := 146) d_W_law_146 ?_
  refine xg_sld X (pc := 147) hX hbl hbA d_W_law_147 (x_sin (c := 3) rfl hL (by omega)) ?_
  refine xg_aload_n X (pc := 148) d_W_law_148 rfl ?_
  refine xg_iload_n X (pc := 149) d_W_law_149 rfl ?_
  refine xg_iconst X (pc := 150) (v := 4) d_W_law_150 (by decide) ?_
  refine xg_iadd X (pc := 151) d_W_law_151 ?_
  refine xg_sld X (pc := 152) hX hbl hbA d_W_law_152 (x_sin (c := 4) rfl hL (by omega)) ?_
  refine xg_cV4 X (pc := 153) d_W_law_153 hC2 s_W_17 ⟨_, rfl⟩ rfl ⟨by decide, by decide⟩ (Nat.le_of_ble_eq_true rfl) ?_
  rintro _ sc2 ar2 ⟨rfl, hN2⟩
  refine xg_icmp_eq X (pc := 156) (tgt := 636) d_W_law_156 rfl (fun _ => ?_) (fun h => absurd rfl h)
  exact cont sc2 ar2 hN2
set_option maxRecDepth 100000 in
set_option maxHeartbeats 800000 in
theorem law_1 (X : x_X p room_1 s m #[Value.ref b] meth c M_W_law ad D cI (fun q => s.heap.size ≤ q) 12 1622) (hX : va_X b L xs s s.heap) (hbl : b < s.heap.size) (hbA : ¬ s.heap.size ≤ b) (hL : L ≤ 3072) (hk : 6 * k + 6 ≤ L) (hN : x_IN sc ar) (cont : ∀ (sc2 : Nat → Int32) (ar2 : Nat → Nat → Int32), x_IN sc2 ar2 → x_G p l e room_1 s m #[Value.ref b] below meth c M_W_law ad D cI (fun q => s.heap.size ≤ q) 12 1622 (lw_Z below #[Value.ref b] s) 636 [some (.ref b), some (.ref (ad 0)), some (.ref (ad 7)), some (.int (nI (6 * k)))] [] sc2 ar2) : x_G p l e room_1 s m #[Value.ref b] below meth c M_W_law ad D cI (fun q => s.heap.size ≤ q) 12 1622 (lw_Z below #[Value.ref b] s) 161 [some (.ref b), some (.ref (ad 0)), some (.ref (ad 7)), some (.int (nI (6 * k)))] [] sc ar := by
  obtain ⟨r, hC⟩ := k_put (l := l) (D := D) (cI := cI) X.dis hN (xs (nI (6 * k) + 1).toNatClampNeg) (xs (nI (6 * k) + 2).toNatClampNeg) (xs (nI (6 * k) + 3).toNatClampNeg) (xs (nI (6 * k) + 4).toNatClampNeg)
  refine xg_aload_n X (pc := 161) d_W_law_161 rfl ?_
  refine xg_aload_n X (pc := 162) d_W_law_162 rfl ?_
  refine xg_iload_n X (pc := 163) d_W_law_163 rfl ?_
  refine xg_iconst X (pc := 164) (v := 1) d_W_law_164 (by decide) ?_
  refine xg_iadd X (pc := 165) d_W_law_165 ?_
  refine xg_sld X (pc := 166) hX hbl hbA d_W_law_166 (x_sin (c := 1) rfl hL (by omega)) ?_
  refine xg_aload_n X (pc := 167) d_W_law_167 rfl ?_
  refine xg_iload_n X (pc := 168) d_W_law_168 rfl ?_
  refine xg_iconst X (pc := 169) (v := 2) d_W_law_169 (by decide) ?_
  refine xg_iadd X (pc := 170) d_W_law_170 ?_
  refine xg_sld X (pc := 171) hX hbl hbA d_W_law_171 (x_sin (c := 2) rfl hL (by omega)) ?_
  refine xg_aload_n X (pc := 172) d_W_law_172 rfl ?_
  refine xg_iload_n X (pc := 173) d_W_law_173 rfl ?_
  refine xg_iconst X (pc := 174) (v := 3) d_W_law_174 (by decide) ?_
  refine xg_iadd X (pc := 175) d_W_law_175 ?_
  refine xg_sld X (pc := 176) hX hbl hbA d_W_law_176 (x_sin (c := 3) rfl hL (by omega)) ?_
  refine xg_aload_n X (pc := 177) d_W_law_177 rfl ?_
  refine xg_iload_n X (pc := 178) d_W_law_178 rfl ?_
  refine xg_iconst X (pc := 179) (v := 4) d_W_law_179 (by decide) ?_
  refine xg_iadd X (pc := 180) d_W_law_180 ?_
  refine xg_sld X (pc := 181) hX hbl hbA d_W_law_181 (x_sin (c := 4) rfl hL (by omega)) ?_
  refine xg_cV4 X (pc := 182) d_W_law_182 hC s_W_18 ⟨_, rfl⟩ rfl ⟨by decide, by decide⟩ (Nat.le_of_ble_eq_true rfl) ?_
  rintro _ sc1 ar1 ⟨rfl, hC2⟩
  refine xg_aload_n X (pc := 185) d_W_law_185 rfl ?_
  refine xg_aload_n X (pc := 186) d_W_law_186 rfl ?_
  refine xg_iload_n X (pc := 187) d_W_law_187 rfl ?_
  refine xg_iconst X (pc := 188) (v := 1) d_W_law_188 (by decide) ?_
  refine xg_iadd X (pc := 189) d_W_law_189 ?_
  refine xg_sld X (pc := 190) hX hbl hbA d_W_law_190 (x_sin (c := 1) rfl hL (by omega)) ?_
  refine xg_aload_n X (pc := 191) d_W_law_191 rfl ?_
  refine xg_iload_n X (pc := 192) d_W_law_192 rfl ?_
  refine xg_iconst X (pc := 193) (v := 2) d_W_law_193 (by decide) ?_
  refine xg_iadd X (pc := 194) d_W_law_194 ?_
  refine xg_sld X (pc := 195) hX hbl hbA d_W_law_195 (x_sin (c := 2) rfl hL (by omega)) ?_
  refine xg_aload_n X (pc := 196) d_W_law_196 rfl ?_
  refine xg_iload_n X (pc := 197) d_W_law_197 rfl ?_
  refine xg_iconst X (pc := 198) (v := 3) d_W_law_198 (by decide) ?_
  refine xg_iadd X (pc := 199) d_W_law_199 ?_
  refine xg_sld X (pc := 200) hX hbl hbA d_W_law_200 (x_sin (c := 3) rfl hL (by omega)) ?_
  refine xg_aload_n X (pc := 201) d_W_law_201 rfl ?_
  refine xg_iload_n X (pc := 202) d_W_law_202 rfl ?_
  refine xg_iconst X (pc := 203) (v := 4) d_W_law_203 (by decide) ?_
  refine xg_iadd X (pc := 204) d_W_law_204 ?_
  refine xg_sld X (pc := 205) hX hbl hbA d_W_law_205 (x_sin (c := 4) rfl hL (by omega)) ?_
  refine xg_cV4 X (pc := 206) d_W_law_206 hC2 s_W_21 ⟨_, rfl⟩ rfl ⟨by decide, by decide⟩ (Nat.le_of_ble_eq_true rfl) ?_
  rintro _ sc2 ar2 ⟨rfl, hN2⟩
  refine xg_icmp_eq X (pc := 209) (tgt := 636) d_W_law_209 rfl (fun _ => ?_) (fun h => absurd rfl h)
  exact cont sc2 ar2 hN2
set_option maxRecDepth 100000 in
set_option maxHeartbeats 800000 in
theorem law_2 (X : x_X p room_1 s m #[Value.ref b] meth c M_W_law ad D cI (fun q => s.heap.size ≤ q) 12 1622) (hX : va_X b L xs s s.heap) (hbl : b < s.heap.size) (hbA : ¬ s.heap.size ≤ b) (hL : L ≤ 3072) (hk : 6 * k + 6 ≤ L) (hN : x_IN sc ar) (cont : ∀ (sc2 : Nat → Int32) (ar2 : Nat → Nat → Int32), x_IN sc2 ar2 → x_G p l e room_1 s m #[Value.ref b] below meth c M_W_law ad D cI (fun q => s.heap.size ≤ q) 12 1622 (lw_Z below #[Value.ref b] s) 636 [some (.ref b), some (.ref (ad 0)), some (.ref (ad 7)), some (.int (nI (6 * k)))] [] sc2 ar2) : x_G p l e room_1 s m #[Value.ref b] below meth c M_W_law ad D cI (fun q => s.heap.size ≤ q) 12 1622 (lw_Z below #[Value.ref b] s) 214 [some (.ref b), some (.ref (ad 0)), some (.ref (ad 7)), some (.int (nI (6 * k)))] [] sc ar := by
  obtain ⟨r, hC⟩ := k_at (l := l) (D := D) (cI := cI) X.dis hN (xs (nI (6 * k) + 1).toNatClampNeg) (xs (nI (6 * k) + 2).toNatClampNeg) (xs (nI (6 * k) + 3).toNatClampNeg)
  refine xg_aload_n X (pc := 214) d_W_law_214 rfl ?_
  refine xg_aload_n X (pc := 215) d_W_law_215 rfl ?_
  refine xg_iload_n X (pc := 216) d_W_law_216 rfl ?_
  refine xg_iconst X (pc := 217) (v := 1) d_W_law_217 (by decide) ?_
  refine xg_iadd X (pc := 218) d_W_law_218 ?_
  refine xg_sld X (pc := 219) hX hbl hbA d_W_law_219 (x_sin (c := 1) rfl hL (by omega)) ?_
  refine xg_aload_n X (pc := 220) d_W_law_220 rfl ?_
  refine xg_iload_n X (pc := 221) d_W_law_221 rfl ?_
  refine xg_iconst X (pc := 222) (v := 2) d_W_law_222 (by decide) ?_
  refine xg_iadd X (pc := 223) d_W_law_223 ?_
  refine xg_sld X (pc := 224) hX hbl hbA d_W_law_224 (x_sin (c := 2) rfl hL (by omega)) ?_
  refine xg_aload_n X (pc := 225) d_W_law_225 rfl ?_
  refine xg_iload_n X (pc := 226) d_W_law_226 rfl ?_
  refine xg_iconst X (pc := 227) (v := 3) d_W_law_227 (by decide) ?_
  refine xg_iadd X (pc := 228) d_W_law_228 ?_
  refine xg_sld X (pc := 229) hX hbl hbA d_W_law_229 (x_sin (c := 3) rfl hL (by omega)) ?_
  refine xg_cV3 X (pc := 230) d_W_law_230 hC s_W_22 ⟨_, rfl⟩ rfl ⟨by decide, by decide⟩ (Nat.le_of_ble_eq_true rfl) ?_
  rintro _ sc1 ar1 ⟨rfl, hC2⟩
  refine xg_aload_n X (pc := 233) d_W_law_233 rfl ?_
  refine xg_aload_n X (pc := 234) d_W_law_234 rfl ?_
  refine xg_iload_n X (pc := 235) d_W_law_235 rfl ?_
  refine xg_iconst X (pc := 236) (v := 1) d_W_law_236 (by decide) ?_
  refine xg_iadd X (pc := 237) d_W_law_237 ?_
  refine xg_sld X (pc := 238) hX hbl hbA d_W_law_238 (x_sin (c := 1) rfl hL (by omega)) ?_
  refine xg_aload_n X (pc := 239) d_W_law_239 rfl ?_
  refine xg_iload_n X (pc := 240) d_W_law_240 rfl ?_
  refine xg_iconst X (pc := 241) (v := 2) d_W_law_241 (by decide) ?_
  refine xg_iadd X (pc := 242) d_W_law_242 ?_
  refine xg_sld X (pc := 243) hX hbl hbA d_W_law_243 (x_sin (c := 2) rfl hL (by omega)) ?_
  refine xg_aload_n X (pc := 244) d_W_law_244 rfl ?_
  refine xg_iload_n X (pc := 245) d_W_law_245 rfl ?_
  refine xg_iconst X (pc := 246) (v := 3) d_W_law_246 (by decide) ?_
  refine xg_iadd X (pc := 247) d_W_law_247 ?_
  refine xg_sld X (pc := 248) hX hbl hbA d_W_law_248 (x_sin (c := 3) rfl hL (by omega)) ?_
  refine xg_cV3 X (pc := 249) d_W_law_249 hC2 s_W_26 ⟨_, rfl⟩ rfl ⟨by decide, by decide⟩ (Nat.le_of_ble_eq_true rfl) ?_
  rintro _ sc2 ar2 ⟨rfl, hN2⟩
  refine xg_icmp_eq X (pc := 252) (tgt := 636) d_W_law_252 rfl (fun _ => ?_) (fun h => absurd rfl h)
  exact cont sc2 ar2 hN2
set_option maxRecDepth 100000 in
set_option maxHeartbeats 800000 in
theorem law_3 (X : x_X p room_1 s m #[Value.ref b] meth c M_W_law ad D cI (fun q => s.heap.size ≤ q) 12 1622) (hX : va_X b L xs s s.heap) (hbl : b < s.heap.size) (hbA : ¬ s.heap.size ≤ b) (hL : L ≤ 3072) (hk : 6 * k + 6 ≤ L) (hN : x_IN sc ar) (cont : ∀ (sc2 : Nat → Int32) (ar2 : Nat → Nat → Int32), x_IN sc2 ar2 → x_G p l e room_1 s m #[Value.ref b] below meth c M_W_law ad D cI (fun q => s.heap.size ≤ q) 12 1622 (lw_Z below #[Value.ref b] s) 636 [some (.ref b), some (.ref (ad 0)), some (.ref (ad 7)), some (.int (nI (6 * k)))] [] sc2 ar2) : x_G p l e room_1 s m #[Value.ref b] below meth c M_W_law ad D cI (fun q => s.heap.size ≤ q) 12 1622 (lw_Z below #[Value.ref b] s) 257 [some (.ref b), some (.ref (ad 0)), some (.ref (ad 7)), some (.int (nI (6 * k)))] [] sc ar := by
  obtain ⟨r, hC⟩ := k_mix (l := l) (D := D) (cI := cI) X.dis hN
  refine xg_aload_n X (pc := 257) d_W_law_257 rfl ?_
  refine xg_cV0 X (pc := 258) d_W_law_258 hC s_W_27 ⟨_, rfl⟩ rfl ⟨by decide, by decide⟩ (Nat.le_of_ble_eq_true rfl) ?_
  rintro _ sc1 ar1 ⟨rfl, hC2⟩
  refine xg_aload_n X (pc := 261) d_W_law_261 rfl ?_
  refine xg_cV0 X (pc := 262) d_W_law_262 hC2 s_W_31 ⟨_, rfl⟩ rfl ⟨by decide, by decide⟩ (Nat.le_of_ble_eq_true rfl) ?_
  rintro _ sc2 ar2 ⟨rfl, hN2⟩
  refine xg_icmp_eq X (pc := 265) (tgt := 636) d_W_law_265 rfl (fun _ => ?_) (fun h => absurd rfl h)
  exact cont sc2 ar2 hN2
set_option maxRecDepth 100000 in
set_option maxHeartbeats 800000 in
theorem law_4 (X : x_X p room_1 s m #[Value.ref b] meth c M_W_law ad D cI (fun q => s.heap.size ≤ q) 12 1622) (hX : va_X b L xs s s.heap) (hbl : b < s.heap.size) (hbA : ¬ s.heap.size ≤ b) (hL : L ≤ 3072) (hk : 6 * k + 6 ≤ L) (hN : x_IN sc ar) (cont : ∀ (sc2 : Nat → Int32) (ar2 : Nat → Nat → Int32), x_IN sc2 ar2 → x_G p l e room_1 s m #[Value.ref b] below meth c M_W_law ad D cI (fun q => s.heap.size ≤ q) 12 1622 (lw_Z below #[Value.ref b] s) 636 [some (.ref b), some (.ref (ad 0)), some (.ref (ad 7)), some (.int (nI (6 * k)))] [] sc2 ar2) : x_G p l e room_1 s m #[Value.ref b] below meth c M_W_law ad D cI (fun q => s.heap.size ≤ q) 12 1622 (lw_Z below #[Value.ref b] s) 270 [some (.ref b), some (.ref (ad 0)), some (.ref (ad 7)), some (.int (nI (6 * k)))] [] sc ar := by
  obtain ⟨r, hC⟩ := k_unmix (l := l) (D := D) (cI := cI) X.dis hN
  refine xg_aload_n X (pc := 270) d_W_law_270 rfl ?_
  refine xg_cV0 X (pc := 271) d_W_law_271 hC s_W_32 ⟨_, rfl⟩ rfl ⟨by decide, by decide⟩ (Nat.le_of_ble_eq_true rfl) ?_
  rintro _ sc1 ar1 ⟨rfl, hC2⟩
  refine xg_aload_n X (pc := 274) d_W_law_274 rfl ?_
  refine xg_cV0 X (pc := 275) d_W_law_275 hC2 s_W_35 ⟨_, rfl⟩ rfl ⟨by decide, by decide⟩ (Nat.le_of_ble_eq_true rfl) ?_
  rintro _ sc2 ar2 ⟨rfl, hN2⟩
  refine xg_icmp_eq X (pc := 278) (tgt := 636) d_W_law_278 rfl (fun _ => ?_) (fun h => absurd rfl h)
  exact cont sc2 ar2 hN2
set_option maxRecDepth 100000 in
set_option maxHeartbeats 800000 in
theorem law_5 (X : x_X p room_1 s m #[Value.ref b] meth c M_W_law ad D cI (fun q => s.heap.size ≤ q) 12 1622) (hX : va_X b L xs s s.heap) (hbl : b < s.heap.size) (hbA : ¬ s.heap.size ≤ b) (hL : L ≤ 3072) (hk : 6 * k + 6 ≤ L) (hN : x_IN sc ar) (cont : ∀ (sc2 : Nat → Int32) (ar2 : Nat → Nat → Int32), x_IN sc2 ar2 → x_G p l e room_1 s m #[Value.ref b] below meth c M_W_law ad D cI (fun q => s.heap.size ≤ q) 12 1622 (lw_Z below #[Value.ref b] s) 636 [some (.ref b), some (.ref (ad 0)), some (.ref (ad 7)), some (.int (nI (6 * k)))] [] sc2 ar2) : x_G p l e room_1 s m #[Value.ref b] below meth c M_W_law ad D cI (fun q => s.heap.size ≤ q) 12 1622 (lw_Z below #[Value.ref b] s) 283 [some (.ref b), some (.ref (ad 0)), some (.ref (ad 7)), some (.int (nI (6 * k)))] [] sc ar := by
  obtain ⟨r, hC⟩ := k_mixed (l := l) (D := D) (cI := cI) X.dis hN
  refine xg_aload_n X (pc := 283) d_W_law_283 rfl ?_
  refine xg_cV0 X (pc := 284) d_W_law_284 hC s_W_36 ⟨_, rfl⟩ rfl ⟨by decide, by decide⟩ (Nat.le_of_ble_eq_true rfl) ?_
  rintro _ sc1 ar1 ⟨rfl, hC2⟩
  refine xg_aload_n X (pc := 287) d_W_law_287 rfl ?_
  refine xg_cV0 X (pc := 288) d_W_law_288 hC2 s_W_39 ⟨_, rfl⟩ rfl ⟨by decide, by decide⟩ (Nat.le_of_ble_eq_true rfl) ?_
  rintro _ sc2 ar2 ⟨rfl, hN2⟩
  refine xg_icmp_eq X (pc := 291) (tgt := 636) d_W_law_291 rfl (fun _ => ?_) (fun h => absurd rfl h)
  exact cont sc2 ar2 hN2
set_option maxRecDepth 100000 in
set_option maxHeartbeats 800000 in
theorem law_6 (X : x_X p room_1 s m #[Value.ref b] meth c M_W_law ad D cI (fun q => s.heap.size ≤ q) 12 1622) (hX : va_X b L xs s s.heap) (hbl : b < s.heap.size) (hbA : ¬ s.heap.size ≤ b) (hL : L ≤ 3072) (hk : 6 * k + 6 ≤ L) (hN : x_IN sc ar) (cont : ∀ (sc2 : Nat → Int32) (ar2 : Nat → Nat → Int32), x_IN sc2 ar2 → x_G p l e room_1 s m #[Value.ref b] below meth c M_W_law ad D cI (fun q => s.heap.size ≤ q) 12 1622 (lw_Z below #[Value.ref b] s) 636 [some (.ref b), some (.ref (ad 0)), some (.ref (ad 7)), some (.int (nI (6 * k)))] [] sc2 ar2) : x_G p l e room_1 s m #[Value.ref b] below meth c M_W_law ad D cI (fun q => s.heap.size ≤ q) 12 1622 (lw_Z below #[Value.ref b] s) 296 [some (.ref b), some (.ref (ad 0)), some (.ref (ad 7)), some (.int (nI (6 * k)))] [] sc ar := by
  obtain ⟨r, hC⟩ := k_forward (l := l) (D := D) (cI := cI) X.dis hN (xs (nI (6 * k) + 1).toNatClampNeg)
  refine xg_aload_n X (pc := 296) d_W_law_296 rfl ?_
  refine xg_aload_n X (pc := 297) d_W_law_297 rfl ?_
  refine xg_iload_n X (pc := 298) d_W_law_298 rfl ?_
  refine xg_iconst X (pc := 299) (v := 1) d_W_law_299 (by decide) ?_
  refine xg_iadd X (pc := 300) d_W_law_300 ?_
  refine xg_sld X (pc := 301) hX hbl hbA d_W_law_301 (x_sin (c := 1) rfl hL (by omega)) ?_
  refine xg_cV1 X (pc := 302) d_W_law_302 hC s_W_40 ⟨_, rfl⟩ rfl ⟨by decide, by decide⟩ (Nat.le_of_ble_eq_true rfl) ?_
  rintro _ sc1 ar1 ⟨rfl, hC2⟩
  refine xg_aload_n X (pc := 305) d_W_law_305 rfl ?_
  refine xg_aload_n X (pc := 306) d_W_law_306 rfl ?_
  refine xg_iload_n X (pc := 307) d_W_law_307 rfl ?_
  refine xg_iconst X (pc := 308) (v := 1) d_W_law_308 (by decide) ?_
  refine xg_iadd X (pc := 309) d_W_law_309 ?_
  refine xg_sld X (pc := 310) hX hbl hbA d_W_law_310 (x_sin (c := 1) rfl hL (by omega)) ?_
  refine xg_cV1 X (pc := 311) d_W_law_311 hC2 s_W_44 ⟨_, rfl⟩ rfl ⟨by decide, by decide⟩ (Nat.le_of_ble_eq_true rfl) ?_
  rintro _ sc2 ar2 ⟨rfl, hN2⟩
  refine xg_icmp_eq X (pc := 314) (tgt := 636) d_W_law_314 rfl (fun _ => ?_) (fun h => absurd rfl h)
  exact cont sc2 ar2 hN2
set_option maxRecDepth 100000 in
set_option maxHeartbeats 800000 in
theorem law_7 (X : x_X p room_1 s m #[Value.ref b] meth c M_W_law ad D cI (fun q => s.heap.size ≤ q) 12 1622) (hX : va_X b L xs s s.heap) (hbl : b < s.heap.size) (hbA : ¬ s.heap.size ≤ b) (hL : L ≤ 3072) (hk : 6 * k + 6 ≤ L) (hN : x_IN sc ar) (cont : ∀ (sc2 : Nat → Int32) (ar2 : Nat → Nat → Int32), x_IN sc2 ar2 → x_G p l e room_1 s m #[Value.ref b] below meth c M_W_law ad D cI (fun q => s.heap.size ≤ q) 12 1622 (lw_Z below #[Value.ref b] s) 636 [some (.ref b), some (.ref (ad 0)), some (.ref (ad 7)), some (.int (nI (6 * k)))] [] sc2 ar2) : x_G p l e room_1 s m #[Value.ref b] below meth c M_W_law ad D cI (fun q => s.heap.size ≤ q) 12 1622 (lw_Z below #[Value.ref b] s) 319 [some (.ref b), some (.ref (ad 0)), some (.ref (ad 7)), some (.int (nI (6 * k)))] [] sc ar := by
  obtain ⟨r, hC⟩ := k_back (l := l) (D := D) (cI := cI) X.dis hN
  refine xg_aload_n X (pc := 319) d_W_law_319 rfl ?_
  refine xg_cV0 X (pc := 320) d_W_law_320 hC s_W_45 ⟨_, rfl⟩ rfl ⟨by decide, by decide⟩ (Nat.le_of_ble_eq_true rfl) ?_
  rintro _ sc1 ar1 ⟨rfl, hC2⟩
  refine xg_aload_n X (pc := 323) d_W_law_323 rfl ?_
  refine xg_cV0 X (pc := 324) d_W_law_324 hC2 s_W_48 ⟨_, rfl⟩ rfl ⟨by decide, by decide⟩ (Nat.le_of_ble_eq_true rfl) ?_
  rintro _ sc2 ar2 ⟨rfl, hN2⟩
  refine xg_icmp_eq X (pc := 327) (tgt := 636) d_W_law_327 rfl (fun _ => ?_) (fun h => absurd rfl h)
  exact cont sc2 ar2 hN2
set_option maxRecDepth 100000 in
set_option maxHeartbeats 800000 in
theorem law_8 (X : x_X p room_1 s m #[Value.ref b] meth c M_W_law ad D cI (fun q => s.heap.size ≤ q) 12 1622) (hX : va_X b L xs s s.heap) (hbl : b < s.heap.size) (hbA : ¬ s.heap.size ≤ b) (hL : L ≤ 3072) (hk : 6 * k + 6 ≤ L) (hN : x_IN sc ar) (cont : ∀ (sc2 : Nat → Int32) (ar2 : Nat → Nat → Int32), x_IN sc2 ar2 → x_G p l e room_1 s m #[Value.ref b] below meth c M_W_law ad D cI (fun q => s.heap.size ≤ q) 12 1622 (lw_Z below #[Value.ref b] s) 636 [some (.ref b), some (.ref (ad 0)), some (.ref (ad 7)), some (.int (nI (6 * k)))] [] sc2 ar2) : x_G p l e room_1 s m #[Value.ref b] below meth c M_W_law ad D cI (fun q => s.heap.size ≤ q) 12 1622 (lw_Z below #[Value.ref b] s) 332 [some (.ref b), some (.ref (ad 0)), some (.ref (ad 7)), some (.int (nI (6 * k)))] [] sc ar := by
  obtain ⟨r, hC⟩ := k_levels (l := l) (D := D) (cI := cI) X.dis hN
  refine xg_aload_n X (pc := 332) d_W_law_332 rfl ?_
  refine xg_cV0 X (pc := 333) d_W_law_333 hC s_W_49 ⟨_, rfl⟩ rfl ⟨by decide, by decide⟩ (Nat.le_of_ble_eq_true rfl) ?_
  rintro _ sc1 ar1 ⟨rfl, hC2⟩
  refine xg_aload_n X (pc := 336) d_W_law_336 rfl ?_
  refine xg_cV0 X (pc := 337) d_W_law_337 hC2 s_W_53 ⟨_, rfl⟩ rfl ⟨by decide, by decide⟩ (Nat.le_of_ble_eq_true rfl) ?_
  rintro _ sc2 ar2 ⟨rfl, hN2⟩
  refine xg_icmp_eq X (pc := 340) (tgt := 636) d_W_law_340 rfl (fun _ => ?_) (fun h => absurd rfl h)
  exact cont sc2 ar2 hN2
set_option maxRecDepth 100000 in
set_option maxHeartbeats 800000 in
theorem law_9 (X : x_X p room_1 s m #[Value.ref b] meth c M_W_law ad D cI (fun q => s.heap.size ≤ q) 12 1622) (hX : va_X b L xs s s.heap) (hbl : b < s.heap.size) (hbA : ¬ s.heap.size ≤ b) (hL : L ≤ 3072) (hk : 6 * k + 6 ≤ L) (hN : x_IN sc ar) (cont : ∀ (sc2 : Nat → Int32) (ar2 : Nat → Nat → Int32), x_IN sc2 ar2 → x_G p l e room_1 s m #[Value.ref b] below meth c M_W_law ad D cI (fun q => s.heap.size ≤ q) 12 1622 (lw_Z below #[Value.ref b] s) 636 [some (.ref b), some (.ref (ad 0)), some (.ref (ad 7)), some (.int (nI (6 * k)))] [] sc2 ar2) : x_G p l e room_1 s m #[Value.ref b] below meth c M_W_law ad D cI (fun q => s.heap.size ≤ q) 12 1622 (lw_Z below #[Value.ref b] s) 345 [some (.ref b), some (.ref (ad 0)), some (.ref (ad 7)), some (.int (nI (6 * k)))] [] sc ar := by
  obtain ⟨r, hC⟩ := k_kernel (l := l) (D := D) (cI := cI) X.dis hN (xs (nI (6 * k) + 1).toNatClampNeg)
  refine xg_aload_n X (pc := 345) d_W_law_345 rfl ?_
  refine xg_aload_n X (pc := 346) d_W_law_346 rfl ?_
  refine xg_iload_n X (pc := 347) d_W_law_347 rfl ?_
  refine xg_iconst X (pc := 348) (v := 1) d_W_law_348 (by decide) ?_
  refine xg_iadd X (pc := 349) d_W_law_349 ?_
  refine xg_sld X (pc := 350) hX hbl hbA d_W_law_350 (x_sin (c := 1) rfl hL (by omega)) ?_
  refine xg_cV1 X (pc := 351) d_W_law_351 hC s_W_54 ⟨_, rfl⟩ rfl ⟨by decide, by decide⟩ (Nat.le_of_ble_eq_true rfl) ?_
  rintro _ sc1 ar1 ⟨rfl, hC2⟩
  refine xg_aload_n X (pc := 354) d_W_law_354 rfl ?_
  refine xg_aload_n X (pc := 355) d_W_law_355 rfl ?_
  refine xg_iload_n X (pc := 356) d_W_law_356 rfl ?_
  refine xg_iconst X (pc := 357) (v := 1) d_W_law_357 (by decide) ?_
  refine xg_iadd X (pc := 358) d_W_law_358 ?_
  refine xg_sld X (pc := 359) hX hbl hbA d_W_law_359 (x_sin (c := 1) rfl hL (by omega)) ?_
  refine xg_cV1 X (pc := 360) d_W_law_360 hC2 s_W_58 ⟨_, rfl⟩ rfl ⟨by decide, by decide⟩ (Nat.le_of_ble_eq_true rfl) ?_
  rintro _ sc2 ar2 ⟨rfl, hN2⟩
  refine xg_icmp_eq X (pc := 363) (tgt := 636) d_W_law_363 rfl (fun _ => ?_) (fun h => absurd rfl h)
  exact cont sc2 ar2 hN2
set_option maxRecDepth 100000 in
set_option maxHeartbeats 800000 in
theorem law_10 (X : x_X p room_1 s m #[Value.ref b] meth c M_W_law ad D cI (fun q => s.heap.size ≤ q) 12 1622) (hX : va_X b L xs s s.heap) (hbl : b < s.heap.size) (hbA : ¬ s.heap.size ≤ b) (hL : L ≤ 3072) (hk : 6 * k + 6 ≤ L) (hN : x_IN sc ar) (cont : ∀ (sc2 : Nat → Int32) (ar2 : Nat → Nat → Int32), x_IN sc2 ar2 → x_G p l e room_1 s m #[Value.ref b] below meth c M_W_law ad D cI (fun q => s.heap.size ≤ q) 12 1622 (lw_Z below #[Value.ref b] s) 636 [some (.ref b), some (.ref (ad 0)), some (.ref (ad 7)), some (.int (nI (6 * k)))] [] sc2 ar2) : x_G p l e room_1 s m #[Value.ref b] below meth c M_W_law ad D cI (fun q => s.heap.size ≤ q) 12 1622 (lw_Z below #[Value.ref b] s) 368 [some (.ref b), some (.ref (ad 0)), some (.ref (ad 7)), some (.int (nI (6 * k)))] [] sc ar := by
  refine xg_aload_n X (pc := 368) d_W_law_368 rfl ?_
  refine xg_aload_n X (pc := 369) d_W_law_369 rfl ?_
  refine xg_iload_n X (pc := 370) d_W_law_370 rfl ?_
  refine xg_iconst X (pc := 371) (v := 1) d_W_law_371 (by decide) ?_
  refine xg_iadd X (pc := 372) d_W_law_372 ?_
  refine xg_sld X (pc := 373) hX hbl hbA d_W_law_373 (x_sin (c := 1) rfl hL (by omega)) ?_
  refine xg_aload_n X (pc := 374) d_W_law_374 rfl ?_
  refine xg_iload_n X (pc := 375) d_W_law_375 rfl ?_
  refine xg_iconst X (pc := 376) (v := 2) d_W_law_376 (by decide) ?_
  refine xg_iadd X (pc := 377) d_W_law_377 ?_
  refine xg_sld X (pc := 378) hX hbl hbA d_W_law_378 (x_sin (c := 2) rfl hL (by omega)) ?_
  refine xg_aload_n X (pc := 379) d_W_law_379 rfl ?_
  refine xg_iload_n X (pc := 380) d_W_law_380 rfl ?_
  refine xg_iconst X (pc := 381) (v := 3) d_W_law_381 (by decide) ?_
  refine xg_iadd X (pc := 382) d_W_law_382 ?_
  refine xg_sld X (pc := 383) hX hbl hbA d_W_law_383 (x_sin (c := 3) rfl hL (by omega)) ?_
  refine xg_if_eq X (pc := 384) (tgt := 391) d_W_law_384 rfl (fun h384 => ?_) (fun h384 => ?_)
  · obtain ⟨r, hC⟩ := k_start (l := l) (D := D) (cI := cI) X.dis hN (xs (nI (6 * k) + 1).toNatClampNeg) (xs (nI (6 * k) + 2).toNatClampNeg) 0
    refine xg_iconst X (pc := 391) (v := 0) d_W_law_391 (by decide) ?_
    refine xg_cV3 X (pc := 392) d_W_law_392 hC s_W_59 ⟨_, rfl⟩ rfl ⟨by decide, by decide⟩ (Nat.le_of_ble_eq_true rfl) ?_
    rintro _ sc1 ar1 ⟨rfl, hC2⟩
    refine xg_aload_n X (pc := 395) d_W_law_395 rfl ?_
    refine xg_aload_n X (pc := 396) d_W_law_396 rfl ?_
    refine xg_iload_n X (pc := 397) d_W_law_397 rfl ?_
    refine xg_iconst X (pc := 398) (v := 1) d_W_law_398 (by decide) ?_
    refine xg_iadd X (pc := 399) d_W_law_399 ?_
    refine xg_sld X (pc := 400) hX hbl hbA d_W_law_400 (x_sin (c := 1) rfl hL (by omega)) ?_
    refine xg_aload_n X (pc := 401) d_W_law_401 rfl ?_
    refine xg_iload_n X (pc := 402) d_W_law_402 rfl ?_
    refine xg_iconst X (pc := 403) (v := 2) d_W_law_403 (by decide) ?_
    refine xg_iadd X (pc := 404) d_W_law_404 ?_
    refine xg_sld X (pc := 405) hX hbl hbA d_W_law_405 (x_sin (c := 2) rfl hL (by omega)) ?_
    refine xg_aload_n X (pc := 406) d_W_law_406 rfl ?_
    refine xg_iload_n X (pc := 407) d_W_law_407 rfl ?_
    refine xg_iconst X (pc := 408) (v := 3) d_W_law_408 (by decide) ?_
    refine xg_iadd X (pc := 409) d_W_law_409 ?_
    refine xg_sld X (pc := 410) hX hbl hbA d_W_law_410 (x_sin (c := 3) rfl hL (by omega)) ?_
    refine xg_if_eq X (pc := 411) (tgt := 418) d_W_law_411 rfl (fun h411 => ?_) (fun h411 => ?_)
    · refine xg_iconst X (pc := 418) (v := 0) d_W_law_418 (by decide) ?_
      refine xg_cV3 X (pc := 419) d_W_law_419 hC2 s_W_63 ⟨_, rfl⟩ rfl ⟨by decide, by decide⟩ (Nat.le_of_ble_eq_true rfl) ?_
      rintro _ sc2 ar2 ⟨rfl, hN2⟩
      refine xg_icmp_eq X (pc := 422) (tgt := 636) d_W_law_422 rfl (fun _ => ?_) (fun h => absurd rfl h)
      exact cont sc2 ar2 hN2
    · exact absurd h384 h411
  · obtain ⟨r, hC⟩ := k_start (l := l) (D := D) (cI := cI) X.dis hN (xs (nI (6 * k) + 1).toNatClampNeg) (xs (nI (6 * k) + 2).toNatClampNeg) 1
    refine xg_iconst X (pc := 387) (v := 1) d_W_law_387 (by decide) ?_
    refine xg_goto X (pc := 388) (tgt := 392) d_W_law_388 rfl ?_
    refine xg_cV3 X (pc := 392) d_W_law_392 hC s_W_59 ⟨_, rfl⟩ rfl ⟨by decide, by decide⟩ (Nat.le_of_ble_eq_true rfl) ?_
    rintro _ sc1 ar1 ⟨rfl, hC2⟩
    refine xg_aload_n X (pc := 395) d_W_law_395 rfl ?_
    refine xg_aload_n X (pc := 396) d_W_law_396 rfl ?_
    refine xg_iload_n X (pc := 397) d_W_law_397 rfl ?_
    refine xg_iconst X (pc := 398) (v := 1) d_W_law_398 (by decide) ?_
    refine xg_iadd X (pc := 399) d_W_law_399 ?_
    refine xg_sld X (pc := 400) hX hbl hbA d_W_law_400 (x_sin (c := 1) rfl hL (by omega)) ?_
    refine xg_aload_n X (pc := 401) d_W_law_401 rfl ?_
    refine xg_iload_n X (pc := 402) d_W_law_402 rfl ?_
    refine xg_iconst X (pc := 403) (v := 2) d_W_law_403 (by decide) ?_
    refine xg_iadd X (pc := 404) d_W_law_404 ?_
    refine xg_sld X (pc := 405) hX hbl hbA d_W_law_405 (x_sin (c := 2) rfl hL (by omega)) ?_
    refine xg_aload_n X (pc := 406) d_W_law_406 rfl ?_
    refine xg_iload_n X (pc := 407) d_W_law_407 rfl ?_
    refine xg_iconst X (pc := 408) (v := 3) d_W_law_408 (by decide) ?_
    refine xg_iadd X (pc := 409) d_W_law_409 ?_
    refine xg_sld X (pc := 410) hX hbl hbA d_W_law_410 (x_sin (c := 3) rfl hL (by omega)) ?_
    refine xg_if_eq X (pc := 411) (tgt := 418) d_W_law_411 rfl (fun h411 => ?_) (fun h411 => ?_)
    · exact absurd h411 h384
    · refine xg_iconst X (pc := 414) (v := 1) d_W_law_414 (by decide) ?_
      refine xg_goto X (pc := 415) (tgt := 419) d_W_law_415 rfl ?_
      refine xg_cV3 X (pc := 419) d_W_law_419 hC2 s_W_63 ⟨_, rfl⟩ rfl ⟨by decide, by decide⟩ (Nat.le_of_ble_eq_true rfl) ?_
      rintro _ sc2 ar2 ⟨rfl, hN2⟩
      refine xg_icmp_eq X (pc := 422) (tgt := 636) d_W_law_422 rfl (fun _ => ?_) (fun h => absurd rfl h)
      exact cont sc2 ar2 hN2
set_option maxRecDepth 100000 in
set_option maxHeartbeats 800000 in
theorem law_11 (X : x_X p room_1 s m #[Value.ref b] meth c M_W_law ad D cI (fun q => s.heap.size ≤ q) 12 1622) (hX : va_X b L xs s s.heap) (hbl : b < s.heap.size) (hbA : ¬ s.heap.size ≤ b) (hL : L ≤ 3072) (hk : 6 * k + 6 ≤ L) (hN : x_IN sc ar) (cont : ∀ (sc2 : Nat → Int32) (ar2 : Nat → Nat → Int32), x_IN sc2 ar2 → x_G p l e room_1 s m #[Value.ref b] below meth c M_W_law ad D cI (fun q => s.heap.size ≤ q) 12 1622 (lw_Z below #[Value.ref b] s) 636 [some (.ref b), some (.ref (ad 0)), some (.ref (ad 7)), some (.int (nI (6 * k)))] [] sc2 ar2) : x_G p l e room_1 s m #[Value.ref b] below meth c M_W_law ad D cI (fun q => s.heap.size ≤ q) 12 1622 (lw_Z below #[Value.ref b] s) 427 [some (.ref b), some (.ref (ad 0)), some (.ref (ad 7)), some (.int (nI (6 * k)))] [] sc ar := by
  refine xg_aload_n X (pc := 427) d_W_law_427 rfl ?_
  refine xg_aload_n X (pc := 428) d_W_law_428 rfl ?_
  refine xg_iload_n X (pc := 429) d_W_law_429 rfl ?_
  refine xg_iconst X (pc := 430) (v := 1) d_W_law_430 (by decide) ?_
  refine xg_iadd X (pc := 431) d_W_law_431 ?_
  refine xg_sld X (pc := 432) hX hbl hbA d_W_law_432 (x_sin (c := 1) rfl hL (by omega)) ?_
  refine xg_aload_n X (pc := 433) d_W_law_433 rfl ?_
  refine xg_iload_n X (pc := 434) d_W_law_434 rfl ?_
  refine xg_iconst X (pc := 435) (v := 2) d_W_law_435 (by decide) ?_
  refine xg_iadd X (pc := 436) d_W_law_436 ?_
  refine xg_sld X (pc := 437) hX hbl hbA d_W_law_437 (x_sin (c := 2) rfl hL (by omega)) ?_
  refine xg_aload_n X (pc := 438) d_W_law_438 rfl ?_
  refine xg_iload_n X (pc := 439) d_W_law_439 rfl ?_
  refine xg_iconst X (pc := 440) (v := 3) d_W_law_440 (by decide) ?_
  refine xg_iadd X (pc := 441) d_W_law_441 ?_
  refine xg_sld X (pc := 442) hX hbl hbA d_W_law_442 (x_sin (c := 3) rfl hL (by omega)) ?_
  refine xg_if_eq X (pc := 443) (tgt := 450) d_W_law_443 rfl (fun h443 => ?_) (fun h443 => ?_)
  · obtain ⟨r, hC⟩ := k_size (l := l) (D := D) (cI := cI) X.dis hN (xs (nI (6 * k) + 1).toNatClampNeg) (xs (nI (6 * k) + 2).toNatClampNeg) 0
    refine xg_iconst X (pc := 450) (v := 0) d_W_law_450 (by decide) ?_
    refine xg_cV3 X (pc := 451) d_W_law_451 hC s_W_64 ⟨_, rfl⟩ rfl ⟨by decide, by decide⟩ (Nat.le_of_ble_eq_true rfl) ?_
    rintro _ sc1 ar1 ⟨rfl, hC2⟩
    refine xg_aload_n X (pc := 454) d_W_law_454 rfl ?_
    refine xg_aload_n X (pc := 455) d_W_law_455 rfl ?_
    refine xg_iload_n X (pc := 456) d_W_law_456 rfl ?_
    refine xg_iconst X (pc := 457) (v := 1) d_W_law_457 (by decide) ?_
    refine xg_iadd X (pc := 458) d_W_law_458 ?_
    refine xg_sld X (pc := 459) hX hbl hbA d_W_law_459 (x_sin (c := 1) rfl hL (by omega)) ?_
    refine xg_aload_n X (pc := 460) d_W_law_460 rfl ?_
    refine xg_iload_n X (pc := 461) d_W_law_461 rfl ?_
    refine xg_iconst X (pc := 462) (v := 2) d_W_law_462 (by decide) ?_
    refine xg_iadd X (pc := 463) d_W_law_463 ?_
    refine xg_sld X (pc := 464) hX hbl hbA d_W_law_464 (x_sin (c := 2) rfl hL (by omega)) ?_
    refine xg_aload_n X (pc := 465) d_W_law_465 rfl ?_
    refine xg_iload_n X (pc := 466) d_W_law_466 rfl ?_
    refine xg_iconst X (pc := 467) (v := 3) d_W_law_467 (by decide) ?_
    refine xg_iadd X (pc := 468) d_W_law_468 ?_
    refine xg_sld X (pc := 469) hX hbl hbA d_W_law_469 (x_sin (c := 3) rfl hL (by omega)) ?_
    refine xg_if_eq X (pc := 470) (tgt := 477) d_W_law_470 rfl (fun h470 => ?_) (fun h470 => ?_)
    · refine xg_iconst X (pc := 477) (v := 0) d_W_law_477 (by decide) ?_
      refine xg_cV3 X (pc := 478) d_W_law_478 hC2 s_W_67 ⟨_, rfl⟩ rfl ⟨by decide, by decide⟩ (Nat.le_of_ble_eq_true rfl) ?_
      rintro _ sc2 ar2 ⟨rfl, hN2⟩
      refine xg_icmp_eq X (pc := 481) (tgt := 636) d_W_law_481 rfl (fun _ => ?_) (fun h => absurd rfl h)
      exact cont sc2 ar2 hN2
    · exact absurd h443 h470
  · obtain ⟨r, hC⟩ := k_size (l := l) (D := D) (cI := cI) X.dis hN (xs (nI (6 * k) + 1).toNatClampNeg) (xs (nI (6 * k) + 2).toNatClampNeg) 1
    refine xg_iconst X (pc := 446) (v := 1) d_W_law_446 (by decide) ?_
    refine xg_goto X (pc := 447) (tgt := 451) d_W_law_447 rfl ?_
    refine xg_cV3 X (pc := 451) d_W_law_451 hC s_W_64 ⟨_, rfl⟩ rfl ⟨by decide, by decide⟩ (Nat.le_of_ble_eq_true rfl) ?_
    rintro _ sc1 ar1 ⟨rfl, hC2⟩
    refine xg_aload_n X (pc := 454) d_W_law_454 rfl ?_
    refine xg_aload_n X (pc := 455) d_W_law_455 rfl ?_
    refine xg_iload_n X (pc := 456) d_W_law_456 rfl ?_
    refine xg_iconst X (pc := 457) (v := 1) d_W_law_457 (by decide) ?_
    refine xg_iadd X (pc := 458) d_W_law_458 ?_
    refine xg_sld X (pc := 459) hX hbl hbA d_W_law_459 (x_sin (c := 1) rfl hL (by omega)) ?_
    refine xg_aload_n X (pc := 460) d_W_law_460 rfl ?_
    refine xg_iload_n X (pc := 461) d_W_law_461 rfl ?_
    refine xg_iconst X (pc := 462) (v := 2) d_W_law_462 (by decide) ?_
    refine xg_iadd X (pc := 463) d_W_law_463 ?_
    refine xg_sld X (pc := 464) hX hbl hbA d_W_law_464 (x_sin (c := 2) rfl hL (by omega)) ?_
    refine xg_aload_n X (pc := 465) d_W_law_465 rfl ?_
    refine xg_iload_n X (pc := 466) d_W_law_466 rfl ?_
    refine xg_iconst X (pc := 467) (v := 3) d_W_law_467 (by decide) ?_
    refine xg_iadd X (pc := 468) d_W_law_468 ?_
    refine xg_sld X (pc := 469) hX hbl hbA d_W_law_469 (x_sin (c := 3) rfl hL (by omega)) ?_
    refine xg_if_eq X (pc := 470) (tgt := 477) d_W_law_470 rfl (fun h470 => ?_) (fun h470 => ?_)
    · exact absurd h470 h443
    · refine xg_iconst X (pc := 473) (v := 1) d_W_law_473 (by decide) ?_
      refine xg_goto X (pc := 474) (tgt := 478) d_W_law_474 rfl ?_
      refine xg_cV3 X (pc := 478) d_W_law_478 hC2 s_W_67 ⟨_, rfl⟩ rfl ⟨by decide, by decide⟩ (Nat.le_of_ble_eq_true rfl) ?_
      rintro _ sc2 ar2 ⟨rfl, hN2⟩
      refine xg_icmp_eq X (pc := 481) (tgt := 636) d_W_law_481 rfl (fun _ => ?_) (fun h => absurd rfl h)
      exact cont sc2 ar2 hN2
set_option maxRecDepth 100000 in
set_option maxHeartbeats 800000 in
theorem law_12 (X : x_X p room_1 s m #[Value.ref b] meth c M_W_law ad D cI (fun q => s.heap.size ≤ q) 12 1622) (hX : va_X b L xs s s.heap) (hbl : b < s.heap.size) (hbA : ¬ s.heap.size ≤ b) (hL : L ≤ 3072) (hk : 6 * k + 6 ≤ L) (hN : x_IN sc ar) (cont : ∀ (sc2 : Nat → Int32) (ar2 : Nat → Nat → Int32), x_IN sc2 ar2 → x_G p l e room_1 s m #[Value.ref b] below meth c M_W_law ad D cI (fun q => s.heap.size ≤ q) 12 1622 (lw_Z below #[Value.ref b] s) 636 [some (.ref b), some (.ref (ad 0)), some (.ref (ad 7)), some (.int (nI (6 * k)))] [] sc2 ar2) : x_G p l e room_1 s m #[Value.ref b] below meth c M_W_law ad D cI (fun q => s.heap.size ≤ q) 12 1622 (lw_Z below #[Value.ref b] s) 486 [some (.ref b), some (.ref (ad 0)), some (.ref (ad 7)), some (.int (nI (6 * k)))] [] sc ar := by
  obtain ⟨r, hC⟩ := k_coefficient (l := l) (D := D) (cI := cI) X.dis hN (xs (nI (6 * k) + 1).toNatClampNeg) (xs (nI (6 * k) + 2).toNatClampNeg) (xs (nI (6 * k) + 3).toNatClampNeg) (xs (nI (6 * k) + 4).toNatClampNeg) (xs (nI (6 * k) + 5).toNatClampNeg)
  refine xg_aload_n X (pc := 486) d_W_law_486 rfl ?_
  refine xg_aload_n X (pc := 487) d_W_law_487 rfl ?_
  refine xg_iload_n X (pc := 488) d_W_law_488 rfl ?_
  refine xg_iconst X (pc := 489) (v := 1) d_W_law_489 (by decide) ?_
  refine xg_iadd X (pc := 490) d_W_law_490 ?_
  refine xg_sld X (pc := 491) hX hbl hbA d_W_law_491 (x_sin (c := 1) rfl hL (by omega)) ?_
  refine xg_aload_n X (pc := 492) d_W_law_492 rfl ?_
  refine xg_iload_n X (pc := 493) d_W_law_493 rfl ?_
  refine xg_iconst X (pc := 494) (v := 2) d_W_law_494 (by decide) ?_
  refine xg_iadd X (pc := 495) d_W_law_495 ?_
  refine xg_sld X (pc := 496) hX hbl hbA d_W_law_496 (x_sin (c := 2) rfl hL (by omega)) ?_
  refine xg_aload_n X (pc := 497) d_W_law_497 rfl ?_
  refine xg_iload_n X (pc := 498) d_W_law_498 rfl ?_
  refine xg_iconst X (pc := 499) (v := 3) d_W_law_499 (by decide) ?_
  refine xg_iadd X (pc := 500) d_W_law_500 ?_
  refine xg_sld X (pc := 501) hX hbl hbA d_W_law_501 (x_sin (c := 3) rfl hL (by omega)) ?_
  refine xg_aload_n X (pc := 502) d_W_law_502 rfl ?_
  refine xg_iload_n X (pc := 503) d_W_law_503 rfl ?_
  refine xg_iconst X (pc := 504) (v := 4) d_W_law_504 (by decide) ?_
  refine xg_iadd X (pc := 505) d_W_law_505 ?_
  refine xg_sld X (pc := 506) hX hbl hbA d_W_law_506 (x_sin (c := 4) rfl hL (by omega)) ?_
  refine xg_aload_n X (pc := 507) d_W_law_507 rfl ?_
  refine xg_iload_n X (pc := 508) d_W_law_508 rfl ?_
  refine xg_iconst X (pc := 509) (v := 5) d_W_law_509 (by decide) ?_
  refine xg_iadd X (pc := 510) d_W_law_510 ?_
  refine xg_sld X (pc := 511) hX hbl hbA d_W_law_511 (x_sin (c := 5) rfl hL (by omega)) ?_
  refine xg_cV5 X (pc := 512) d_W_law_512 hC s_W_68 ⟨_, rfl⟩ rfl ⟨by decide, by decide⟩ (Nat.le_of_ble_eq_true rfl) ?_
  rintro _ sc1 ar1 ⟨rfl, hC2⟩
  refine xg_aload_n X (pc := 515) d_W_law_515 rfl ?_
  refine xg_aload_n X (pc := 516) d_W_law_516 rfl ?_
  refine xg_iload_n X (pc := 517) d_W_law_517 rfl ?_
  refine xg_iconst X (pc := 518) (v := 1) d_W_law_518 (by decide) ?_
  refine xg_iadd X (pc := 519) d_W_law_519 ?_
  refine xg_sld X (pc := 520) hX hbl hbA d_W_law_520 (x_sin (c := 1) rfl hL (by omega)) ?_
  refine xg_aload_n X (pc := 521) d_W_law_521 rfl ?_
  refine xg_iload_n X (pc := 522) d_W_law_522 rfl ?_
  refine xg_iconst X (pc := 523) (v := 2) d_W_law_523 (by decide) ?_
  refine xg_iadd X (pc := 524) d_W_law_524 ?_
  refine xg_sld X (pc := 525) hX hbl hbA d_W_law_525 (x_sin (c := 2) rfl hL (by omega)) ?_
  refine xg_aload_n X (pc := 526) d_W_law_526 rfl ?_
  refine xg_iload_n X (pc := 527) d_W_law_527 rfl ?_
  refine xg_iconst X (pc := 528) (v := 3) d_W_law_528 (by decide) ?_
  refine xg_iadd X (pc := 529) d_W_law_529 ?_
  refine xg_sld X (pc := 530) hX hbl hbA d_W_law_530 (x_sin (c := 3) rfl hL (by omega)) ?_
  refine xg_aload_n X (pc := 531) d_W_law_531 rfl ?_
  refine xg_iload_n X (pc := 532) d_W_law_532 rfl ?_
  refine xg_iconst X (pc := 533) (v := 4) d_W_law_533 (by decide) ?_
  refine xg_iadd X (pc := 534) d_W_law_534 ?_
  refine xg_sld X (pc := 535) hX hbl hbA d_W_law_535 (x_sin (c := 4) rfl hL (by omega)) ?_
  refine xg_aload_n X (pc := 536) d_W_law_536 rfl ?_
  refine xg_iload_n X (pc := 537) d_W_law_537 rfl ?_
  refine xg_iconst X (pc := 538) (v := 5) d_W_law_538 (by decide) ?_
  refine xg_iadd X (pc := 539) d_W_law_539 ?_
  refine xg_sld X (pc := 540) hX hbl hbA d_W_law_540 (x_sin (c := 5) rfl hL (by omega)) ?_
  refine xg_cV5 X (pc := 541) d_W_law_541 hC2 s_W_72 ⟨_, rfl⟩ rfl ⟨by decide, by decide⟩ (Nat.le_of_ble_eq_true rfl) ?_
  rintro _ sc2 ar2 ⟨rfl, hN2⟩
  refine xg_icmp_eq X (pc := 544) (tgt := 636) d_W_law_544 rfl (fun _ => ?_) (fun h => absurd rfl h)
  exact cont sc2 ar2 hN2
set_option maxRecDepth 100000 in
set_option maxHeartbeats 800000 in
theorem law_13 (X : x_X p room_1 s m #[Value.ref b] meth c M_W_law ad D cI (fun q => s.heap.size ≤ q) 12 1622) (hX : va_X b L xs s s.heap) (hbl : b < s.heap.size) (hbA : ¬ s.heap.size ≤ b) (hL : L ≤ 3072) (hk : 6 * k + 6 ≤ L) (hN : x_IN sc ar) (cont : ∀ (sc2 : Nat → Int32) (ar2 : Nat → Nat → Int32), x_IN sc2 ar2 → x_G p l e room_1 s m #[Value.ref b] below meth c M_W_law ad D cI (fun q => s.heap.size ≤ q) 12 1622 (lw_Z below #[Value.ref b] s) 636 [some (.ref b), some (.ref (ad 0)), some (.ref (ad 7)), some (.int (nI (6 * k)))] [] sc2 ar2) : x_G p l e room_1 s m #[Value.ref b] below meth c M_W_law ad D cI (fun q => s.heap.size ≤ q) 12 1622 (lw_Z below #[Value.ref b] s) 549 [some (.ref b), some (.ref (ad 0)), some (.ref (ad 7)), some (.int (nI (6 * k)))] [] sc ar := by
  obtain ⟨r, hC⟩ := k_thin (l := l) (D := D) (cI := cI) X.dis hN (xs (nI (6 * k) + 1).toNatClampNeg) (xs (nI (6 * k) + 2).toNatClampNeg) (xs (nI (6 * k) + 3).toNatClampNeg)
  refine xg_aload_n X (pc := 549) d_W_law_549 rfl ?_
  refine xg_aload_n X (pc := 550) d_W_law_550 rfl ?_
  refine xg_iload_n X (pc := 551) d_W_law_551 rfl ?_
  refine xg_iconst X (pc := 552) (v := 1) d_W_law_552 (by decide) ?_
  refine xg_iadd X (pc := 553) d_W_law_553 ?_
  refine xg_sld X (pc := 554) hX hbl hbA d_W_law_554 (x_sin (c := 1) rfl hL (by omega)) ?_
  refine xg_aload_n X (pc := 555) d_W_law_555 rfl ?_
  refine xg_iload_n X (pc := 556) d_W_law_556 rfl ?_
  refine xg_iconst X (pc := 557) (v := 2) d_W_law_557 (by decide) ?_
  refine xg_iadd X (pc := 558) d_W_law_558 ?_
  refine xg_sld X (pc := 559) hX hbl hbA d_W_law_559 (x_sin (c := 2) rfl hL (by omega)) ?_
  refine xg_aload_n X (pc := 560) d_W_law_560 rfl ?_
  refine xg_iload_n X (pc := 561) d_W_law_561 rfl ?_
  refine xg_iconst X (pc := 562) (v := 3) d_W_law_562 (by decide) ?_
  refine xg_iadd X (pc := 563) d_W_law_563 ?_
  refine xg_sld X (pc := 564) hX hbl hbA d_W_law_564 (x_sin (c := 3) rfl hL (by omega)) ?_
  refine xg_cV3 X (pc := 565) d_W_law_565 hC s_W_73 ⟨_, rfl⟩ rfl ⟨by decide, by decide⟩ (Nat.le_of_ble_eq_true rfl) ?_
  rintro _ sc1 ar1 ⟨rfl, hC2⟩
  refine xg_aload_n X (pc := 568) d_W_law_568 rfl ?_
  refine xg_aload_n X (pc := 569) d_W_law_569 rfl ?_
  refine xg_iload_n X (pc := 570) d_W_law_570 rfl ?_
  refine xg_iconst X (pc := 571) (v := 1) d_W_law_571 (by decide) ?_
  refine xg_iadd X (pc := 572) d_W_law_572 ?_
  refine xg_sld X (pc := 573) hX hbl hbA d_W_law_573 (x_sin (c := 1) rfl hL (by omega)) ?_
  refine xg_aload_n X (pc := 574) d_W_law_574 rfl ?_
  refine xg_iload_n X (pc := 575) d_W_law_575 rfl ?_
  refine xg_iconst X (pc := 576) (v := 2) d_W_law_576 (by decide) ?_
  refine xg_iadd X (pc := 577) d_W_law_577 ?_
  refine xg_sld X (pc := 578) hX hbl hbA d_W_law_578 (x_sin (c := 2) rfl hL (by omega)) ?_
  refine xg_aload_n X (pc := 579) d_W_law_579 rfl ?_
  refine xg_iload_n X (pc := 580) d_W_law_580 rfl ?_
  refine xg_iconst X (pc := 581) (v := 3) d_W_law_581 (by decide) ?_
  refine xg_iadd X (pc := 582) d_W_law_582 ?_
  refine xg_sld X (pc := 583) hX hbl hbA d_W_law_583 (x_sin (c := 3) rfl hL (by omega)) ?_
  refine xg_cV3 X (pc := 584) d_W_law_584 hC2 s_W_76 ⟨_, rfl⟩ rfl ⟨by decide, by decide⟩ (Nat.le_of_ble_eq_true rfl) ?_
  rintro _ sc2 ar2 ⟨rfl, hN2⟩
  refine xg_icmp_eq X (pc := 587) (tgt := 636) d_W_law_587 rfl (fun _ => ?_) (fun h => absurd rfl h)
  exact cont sc2 ar2 hN2
set_option maxRecDepth 100000 in
set_option maxHeartbeats 800000 in
theorem law_14 (X : x_X p room_1 s m #[Value.ref b] meth c M_W_law ad D cI (fun q => s.heap.size ≤ q) 12 1622) (hX : va_X b L xs s s.heap) (hbl : b < s.heap.size) (hbA : ¬ s.heap.size ≤ b) (hL : L ≤ 3072) (hk : 6 * k + 6 ≤ L) (hN : x_IN sc ar) (cont : ∀ (sc2 : Nat → Int32) (ar2 : Nat → Nat → Int32), x_IN sc2 ar2 → x_G p l e room_1 s m #[Value.ref b] below meth c M_W_law ad D cI (fun q => s.heap.size ≤ q) 12 1622 (lw_Z below #[Value.ref b] s) 636 [some (.ref b), some (.ref (ad 0)), some (.ref (ad 7)), some (.int (nI (6 * k)))] [] sc2 ar2) : x_G p l e room_1 s m #[Value.ref b] below meth c M_W_law ad D cI (fun q => s.heap.size ≤ q) 12 1622 (lw_Z below #[Value.ref b] s) 592 [some (.ref b), some (.ref (ad 0)), some (.ref (ad 7)), some (.int (nI (6 * k)))] [] sc ar := by
  obtain ⟨r, hC⟩ := k_weight (l := l) (D := D) (cI := cI) X.dis hN (xs (nI (6 * k) + 1).toNatClampNeg) (xs (nI (6 * k) + 2).toNatClampNeg) (xs (nI (6 * k) + 3).toNatClampNeg)
  refine xg_aload_n X (pc := 592) d_W_law_592 rfl ?_
  refine xg_aload_n X (pc := 593) d_W_law_593 rfl ?_
  refine xg_iload_n X (pc := 594) d_W_law_594 rfl ?_
  refine xg_iconst X (pc := 595) (v := 1) d_W_law_595 (by decide) ?_
  refine xg_iadd X (pc := 596) d_W_law_596 ?_
  refine xg_sld X (pc := 597) hX hbl hbA d_W_law_597 (x_sin (c := 1) rfl hL (by omega)) ?_
  refine xg_aload_n X (pc := 598) d_W_law_598 rfl ?_
  refine xg_iload_n X (pc := 599) d_W_law_599 rfl ?_
  refine xg_iconst X (pc := 600) (v := 2) d_W_law_600 (by decide) ?_
  refine xg_iadd X (pc := 601) d_W_law_601 ?_
  refine xg_sld X (pc := 602) hX hbl hbA d_W_law_602 (x_sin (c := 2) rfl hL (by omega)) ?_
  refine xg_aload_n X (pc := 603) d_W_law_603 rfl ?_
  refine xg_iload_n X (pc := 604) d_W_law_604 rfl ?_
  refine xg_iconst X (pc := 605) (v := 3) d_W_law_605 (by decide) ?_
  refine xg_iadd X (pc := 606) d_W_law_606 ?_
  refine xg_sld X (pc := 607) hX hbl hbA d_W_law_607 (x_sin (c := 3) rfl hL (by omega)) ?_
  refine xg_cV3 X (pc := 608) d_W_law_608 hC s_W_77 ⟨_, rfl⟩ rfl ⟨by decide, by decide⟩ (Nat.le_of_ble_eq_true rfl) ?_
  rintro _ sc1 ar1 ⟨rfl, hC2⟩
  refine xg_aload_n X (pc := 611) d_W_law_611 rfl ?_
  refine xg_aload_n X (pc := 612) d_W_law_612 rfl ?_
  refine xg_iload_n X (pc := 613) d_W_law_613 rfl ?_
  refine xg_iconst X (pc := 614) (v := 1) d_W_law_614 (by decide) ?_
  refine xg_iadd X (pc := 615) d_W_law_615 ?_
  refine xg_sld X (pc := 616) hX hbl hbA d_W_law_616 (x_sin (c := 1) rfl hL (by omega)) ?_
  refine xg_aload_n X (pc := 617) d_W_law_617 rfl ?_
  refine xg_iload_n X (pc := 618) d_W_law_618 rfl ?_
  refine xg_iconst X (pc := 619) (v := 2) d_W_law_619 (by decide) ?_
  refine xg_iadd X (pc := 620) d_W_law_620 ?_
  refine xg_sld X (pc := 621) hX hbl hbA d_W_law_621 (x_sin (c := 2) rfl hL (by omega)) ?_
  refine xg_aload_n X (pc := 622) d_W_law_622 rfl ?_
  refine xg_iload_n X (pc := 623) d_W_law_623 rfl ?_
  refine xg_iconst X (pc := 624) (v := 3) d_W_law_624 (by decide) ?_
  refine xg_iadd X (pc := 625) d_W_law_625 ?_
  refine xg_sld X (pc := 626) hX hbl hbA d_W_law_626 (x_sin (c := 3) rfl hL (by omega)) ?_
  refine xg_cV3 X (pc := 627) d_W_law_627 hC2 s_W_81 ⟨_, rfl⟩ rfl ⟨by decide, by decide⟩ (Nat.le_of_ble_eq_true rfl) ?_
  rintro _ sc2 ar2 ⟨rfl, hN2⟩
  refine xg_lcmp X (pc := 630) d_W_law_630 ?_
  refine xg_if_eq X (pc := 631) (tgt := 636) d_W_law_631 rfl (fun _ => ?_) (fun h => absurd (x_cmps r) h)
  exact cont sc2 ar2 hN2
end CL
