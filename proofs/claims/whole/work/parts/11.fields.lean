section XF
variable {p : Program} {l : Launch} {e : Env} {R : Room} {s : State} {m : MethodId} {args : Array Value} {below : List Frame} {meth : Method} {c : Code} {y : x_M} {ad : Nat → Nat} {D : va_G} {cI : ClassId} {A : Nat → Prop} {cells slots : Nat} {Q : State → Prop} {pc : Nat} {L : List (Option Value)} {rest : List Value} {sc : Nat → Int32} {ar : Nat → Nat → Int32}
theorem lk_L_9 : Cond.fieldLink R_L 9 (F_L 0).1 (F_L 0).2.1 (F_L 0).2.2.1 ∈ x_tb := by decide +kernel
theorem xf_L_9 (X : x_X p R s m args meth c y ad D cI A cells slots) (hy : y.1.cls = R_L) (hdg : decode y.2.1 pc = .ok (.getfield 9, 3)) (kk : x_G p l e R s m args below meth c y ad D cI A cells slots Q (pc + 3) L (.ref (ad 6) :: rest) sc ar) : x_G p l e R s m args below meth c y ad D cI A cells slots Q pc L (.ref (ad 4) :: rest) sc ar :=
  xg_get X (q0 := 4) (k := 0) rfl rfl in_L (by decide) (hy ▸ lk_L_9) rfl hdg kk
theorem lk_L_15 : Cond.fieldLink R_L 15 (F_L 1).1 (F_L 1).2.1 (F_L 1).2.2.1 ∈ x_tb := by decide +kernel
theorem xf_L_15 (X : x_X p R s m args meth c y ad D cI A cells slots) (hy : y.1.cls = R_L) (hdg : decode y.2.1 pc = .ok (.getfield 15, 3)) (kk : x_G p l e R s m args below meth c y ad D cI A cells slots Q (pc + 3) L (.int (sc 6) :: rest) sc ar) : x_G p l e R s m args below meth c y ad D cI A cells slots Q pc L (.ref (ad 4) :: rest) sc ar :=
  xg_get X (q0 := 4) (k := 1) rfl rfl in_L (by decide) (hy ▸ lk_L_15) rfl hdg kk
theorem xp_L_15 (X : x_X p R s m args meth c y ad D cI A cells slots) {v : Int32} (hy : y.1.cls = R_L) (hdg : decode y.2.1 pc = .ok (.putfield 15, 3)) (kk : x_G p l e R s m args below meth c y ad D cI A cells slots Q (pc + 3) L rest (upd sc 6 v) ar) : x_G p l e R s m args below meth c y ad D cI A cells slots Q pc L (.int v :: .ref (ad 4) :: rest) sc ar :=
  xg_put X (q0 := 4) (k := 1) (ty := .int) (ty0 := ft_L) (sc' := upd sc 6 v) rfl rfl in_L ft_L_ok n_L (by decide) (hy ▸ lk_L_15) rfl (by decide +kernel) rfl rfl (Nat.le_of_ble_eq_true rfl) rfl hdg kk
theorem lk_L_19 : Cond.fieldLink R_L 19 (F_L 2).1 (F_L 2).2.1 (F_L 2).2.2.1 ∈ x_tb := by decide +kernel
theorem xf_L_19 (X : x_X p R s m args meth c y ad D cI A cells slots) (hy : y.1.cls = R_L) (hdg : decode y.2.1 pc = .ok (.getfield 19, 3)) (kk : x_G p l e R s m args below meth c y ad D cI A cells slots Q (pc + 3) L (.int (sc 7) :: rest) sc ar) : x_G p l e R s m args below meth c y ad D cI A cells slots Q pc L (.ref (ad 4) :: rest) sc ar :=
  xg_get X (q0 := 4) (k := 2) rfl rfl in_L (by decide) (hy ▸ lk_L_19) rfl hdg kk
theorem xp_L_19 (X : x_X p R s m args meth c y ad D cI A cells slots) {v : Int32} (hy : y.1.cls = R_L) (hdg : decode y.2.1 pc = .ok (.putfield 19, 3)) (kk : x_G p l e R s m args below meth c y ad D cI A cells slots Q (pc + 3) L rest (upd sc 7 v) ar) : x_G p l e R s m args below meth c y ad D cI A cells slots Q pc L (.int v :: .ref (ad 4) :: rest) sc ar :=
  xg_put X (q0 := 4) (k := 2) (ty := .int) (ty0 := ft_L) (sc' := upd sc 7 v) rfl rfl in_L ft_L_ok n_L (by decide) (hy ▸ lk_L_19) rfl (by decide +kernel) rfl rfl (Nat.le_of_ble_eq_true rfl) rfl hdg kk
theorem lk_R_7 : Cond.fieldLink R_R 7 (F_R 7).1 (F_R 7).2.1 (F_R 7).2.2.1 ∈ x_tb := by decide +kernel
theorem xf_R_7 (X : x_X p R s m args meth c y ad D cI A cells slots) (hy : y.1.cls = R_R) (hdg : decode y.2.1 pc = .ok (.getfield 7, 3)) (kk : x_G p l e R s m args below meth c y ad D cI A cells slots Q (pc + 3) L (.ref (ad 8) :: rest) sc ar) : x_G p l e R s m args below meth c y ad D cI A cells slots Q pc L (.ref (ad 7) :: rest) sc ar :=
  xg_get X (q0 := 7) (k := 7) rfl rfl in_R (by decide) (hy ▸ lk_R_7) rfl hdg kk
theorem lk_R_13 : Cond.fieldLink R_R 13 (F_R 8).1 (F_R 8).2.1 (F_R 8).2.2.1 ∈ x_tb := by decide +kernel
theorem xf_R_13 (X : x_X p R s m args meth c y ad D cI A cells slots) (hy : y.1.cls = R_R) (hdg : decode y.2.1 pc = .ok (.getfield 13, 3)) (kk : x_G p l e R s m args below meth c y ad D cI A cells slots Q (pc + 3) L (.ref (ad 9) :: rest) sc ar) : x_G p l e R s m args below meth c y ad D cI A cells slots Q pc L (.ref (ad 7) :: rest) sc ar :=
  xg_get X (q0 := 7) (k := 8) rfl rfl in_R (by decide) (hy ▸ lk_R_13) rfl hdg kk
theorem lk_R_16 : Cond.fieldLink R_R 16 (F_R 12).1 (F_R 12).2.1 (F_R 12).2.2.1 ∈ x_tb := by decide +kernel
theorem xf_R_16 (X : x_X p R s m args meth c y ad D cI A cells slots) (hy : y.1.cls = R_R) (hdg : decode y.2.1 pc = .ok (.getfield 16, 3)) (kk : x_G p l e R s m args below meth c y ad D cI A cells slots Q (pc + 3) L (.ref (ad 10) :: rest) sc ar) : x_G p l e R s m args below meth c y ad D cI A cells slots Q pc L (.ref (ad 7) :: rest) sc ar :=
  xg_get X (q0 := 7) (k := 12) rfl rfl in_R (by decide) (hy ▸ lk_R_16) rfl hdg kk
theorem lk_R_19 : Cond.fieldLink R_R 19 (F_R 13).1 (F_R 13).2.1 (F_R 13).2.2.1 ∈ x_tb := by decide +kernel
theorem xf_R_19 (X : x_X p R s m args meth c y ad D cI A cells slots) (hy : y.1.cls = R_R) (hdg : decode y.2.1 pc = .ok (.getfield 19, 3)) (kk : x_G p l e R s m args below meth c y ad D cI A cells slots Q (pc + 3) L (.ref (ad 11) :: rest) sc ar) : x_G p l e R s m args below meth c y ad D cI A cells slots Q pc L (.ref (ad 7) :: rest) sc ar :=
  xg_get X (q0 := 7) (k := 13) rfl rfl in_R (by decide) (hy ▸ lk_R_19) rfl hdg kk
theorem lk_R_22 : Cond.fieldLink R_R 22 (F_R 0).1 (F_R 0).2.1 (F_R 0).2.2.1 ∈ x_tb := by decide +kernel
theorem xf_R_22 (X : x_X p R s m args meth c y ad D cI A cells slots) (hy : y.1.cls = R_R) (hdg : decode y.2.1 pc = .ok (.getfield 22, 3)) (kk : x_G p l e R s m args below meth c y ad D cI A cells slots Q (pc + 3) L (.int (sc 8) :: rest) sc ar) : x_G p l e R s m args below meth c y ad D cI A cells slots Q pc L (.ref (ad 7) :: rest) sc ar :=
  xg_get X (q0 := 7) (k := 0) rfl rfl in_R (by decide) (hy ▸ lk_R_22) rfl hdg kk
theorem xp_R_22 (X : x_X p R s m args meth c y ad D cI A cells slots) {v : Int32} (hy : y.1.cls = R_R) (hdg : decode y.2.1 pc = .ok (.putfield 22, 3)) (hb : v = 0 ∨ v = 1) (kk : x_G p l e R s m args below meth c y ad D cI A cells slots Q (pc + 3) L rest (upd sc 8 v) ar) : x_G p l e R s m args below meth c y ad D cI A cells slots Q pc L (.int v :: .ref (ad 7) :: rest) sc ar :=
  xg_put X (q0 := 7) (k := 0) (ty := .boolean) (ty0 := ft_R) (sc' := upd sc 8 v) rfl rfl in_R ft_R_ok n_R (by decide) (hy ▸ lk_R_22) rfl (by decide +kernel) (by rcases hb with rfl | rfl <;> rfl) (by rcases hb with rfl | rfl <;> rfl) (Nat.le_of_ble_eq_true rfl) rfl hdg kk
theorem lk_R_26 : Cond.fieldLink R_R 26 (F_R 1).1 (F_R 1).2.1 (F_R 1).2.2.1 ∈ x_tb := by decide +kernel
theorem xf_R_26 (X : x_X p R s m args meth c y ad D cI A cells slots) (hy : y.1.cls = R_R) (hdg : decode y.2.1 pc = .ok (.getfield 26, 3)) (kk : x_G p l e R s m args below meth c y ad D cI A cells slots Q (pc + 3) L (.int (sc 9) :: rest) sc ar) : x_G p l e R s m args below meth c y ad D cI A cells slots Q pc L (.ref (ad 7) :: rest) sc ar :=
  xg_get X (q0 := 7) (k := 1) rfl rfl in_R (by decide) (hy ▸ lk_R_26) rfl hdg kk
theorem xp_R_26 (X : x_X p R s m args meth c y ad D cI A cells slots) {v : Int32} (hy : y.1.cls = R_R) (hdg : decode y.2.1 pc = .ok (.putfield 26, 3)) (kk : x_G p l e R s m args below meth c y ad D cI A cells slots Q (pc + 3) L rest (upd sc 9 v) ar) : x_G p l e R s m args below meth c y ad D cI A cells slots Q pc L (.int v :: .ref (ad 7) :: rest) sc ar :=
  xg_put X (q0 := 7) (k := 1) (ty := .int) (ty0 := ft_R) (sc' := upd sc 9 v) rfl rfl in_R ft_R_ok n_R (by decide) (hy ▸ lk_R_26) rfl (by decide +kernel) rfl rfl (Nat.le_of_ble_eq_true rfl) rfl hdg kk
theorem lk_R_30 : Cond.fieldLink R_R 30 (F_R 3).1 (F_R 3).2.1 (F_R 3).2.2.1 ∈ x_tb := by decide +kernel
theorem xf_R_30 (X : x_X p R s m args meth c y ad D cI A cells slots) (hy : y.1.cls = R_R) (hdg : decode y.2.1 pc = .ok (.getfield 30, 3)) (kk : x_G p l e R s m args below meth c y ad D cI A cells slots Q (pc + 3) L (.int (sc 11) :: rest) sc ar) : x_G p l e R s m args below meth c y ad D cI A cells slots Q pc L (.ref (ad 7) :: rest) sc ar :=
  xg_get X (q0 := 7) (k := 3) rfl rfl in_R (by decide) (hy ▸ lk_R_30) rfl hdg kk
theorem xp_R_30 (X : x_X p R s m args meth c y ad D cI A cells slots) {v : Int32} (hy : y.1.cls = R_R) (hdg : decode y.2.1 pc = .ok (.putfield 30, 3)) (kk : x_G p l e R s m args below meth c y ad D cI A cells slots Q (pc + 3) L rest (upd sc 11 v) ar) : x_G p l e R s m args below meth c y ad D cI A cells slots Q pc L (.int v :: .ref (ad 7) :: rest) sc ar :=
  xg_put X (q0 := 7) (k := 3) (ty := .int) (ty0 := ft_R) (sc' := upd sc 11 v) rfl rfl in_R ft_R_ok n_R (by decide) (hy ▸ lk_R_30) rfl (by decide +kernel) rfl rfl (Nat.le_of_ble_eq_true rfl) rfl hdg kk
theorem lk_R_33 : Cond.fieldLink R_R 33 (F_R 2).1 (F_R 2).2.1 (F_R 2).2.2.1 ∈ x_tb := by decide +kernel
theorem xf_R_33 (X : x_X p R s m args meth c y ad D cI A cells slots) (hy : y.1.cls = R_R) (hdg : decode y.2.1 pc = .ok (.getfield 33, 3)) (kk : x_G p l e R s m args below meth c y ad D cI A cells slots Q (pc + 3) L (.int (sc 10) :: rest) sc ar) : x_G p l e R s m args below meth c y ad D cI A cells slots Q pc L (.ref (ad 7) :: rest) sc ar :=
  xg_get X (q0 := 7) (k := 2) rfl rfl in_R (by decide) (hy ▸ lk_R_33) rfl hdg kk
theorem xp_R_33 (X : x_X p R s m args meth c y ad D cI A cells slots) {v : Int32} (hy : y.1.cls = R_R) (hdg : decode y.2.1 pc = .ok (.putfield 33, 3)) (kk : x_G p l e R s m args below meth c y ad D cI A cells slots Q (pc + 3) L rest (upd sc 10 v) ar) : x_G p l e R s m args below meth c y ad D cI A cells slots Q pc L (.int v :: .ref (ad 7) :: rest) sc ar :=
  xg_put X (q0 := 7) (k := 2) (ty := .int) (ty0 := ft_R) (sc' := upd sc 10 v) rfl rfl in_R ft_R_ok n_R (by decide) (hy ▸ lk_R_33) rfl (by decide +kernel) rfl rfl (Nat.le_of_ble_eq_true rfl) rfl hdg kk
theorem lk_R_36 : Cond.fieldLink R_R 36 (F_R 4).1 (F_R 4).2.1 (F_R 4).2.2.1 ∈ x_tb := by decide +kernel
theorem xf_R_36 (X : x_X p R s m args meth c y ad D cI A cells slots) (hy : y.1.cls = R_R) (hdg : decode y.2.1 pc = .ok (.getfield 36, 3)) (kk : x_G p l e R s m args below meth c y ad D cI A cells slots Q (pc + 3) L (.int (sc 12) :: rest) sc ar) : x_G p l e R s m args below meth c y ad D cI A cells slots Q pc L (.ref (ad 7) :: rest) sc ar :=
  xg_get X (q0 := 7) (k := 4) rfl rfl in_R (by decide) (hy ▸ lk_R_36) rfl hdg kk
theorem xp_R_36 (X : x_X p R s m args meth c y ad D cI A cells slots) {v : Int32} (hy : y.1.cls = R_R) (hdg : decode y.2.1 pc = .ok (.putfield 36, 3)) (kk : x_G p l e R s m args below meth c y ad D cI A cells slots Q (pc + 3) L rest (upd sc 12 v) ar) : x_G p l e R s m args below meth c y ad D cI A cells slots Q pc L (.int v :: .ref (ad 7) :: rest) sc ar :=
  xg_put X (q0 := 7) (k := 4) (ty := .int) (ty0 := ft_R) (sc' := upd sc 12 v) rfl rfl in_R ft_R_ok n_R (by decide) (hy ▸ lk_R_36) rfl (by decide +kernel) rfl rfl (Nat.le_of_ble_eq_true rfl) rfl hdg kk
theorem lk_R_39 : Cond.fieldLink R_R 39 (F_R 5).1 (F_R 5).2.1 (F_R 5).2.2.1 ∈ x_tb := by decide +kernel
theorem xf_R_39 (X : x_X p R s m args meth c y ad D cI A cells slots) (hy : y.1.cls = R_R) (hdg : decode y.2.1 pc = .ok (.getfield 39, 3)) (kk : x_G p l e R s m args below meth c y ad D cI A cells slots Q (pc + 3) L (.int (sc 13) :: rest) sc ar) : x_G p l e R s m args below meth c y ad D cI A cells slots Q pc L (.ref (ad 7) :: rest) sc ar :=
  xg_get X (q0 := 7) (k := 5) rfl rfl in_R (by decide) (hy ▸ lk_R_39) rfl hdg kk
theorem xp_R_39 (X : x_X p R s m args meth c y ad D cI A cells slots) {v : Int32} (hy : y.1.cls = R_R) (hdg : decode y.2.1 pc = .ok (.putfield 39, 3)) (hb : v = 0 ∨ v = 1) (kk : x_G p l e R s m args below meth c y ad D cI A cells slots Q (pc + 3) L rest (upd sc 13 v) ar) : x_G p l e R s m args below meth c y ad D cI A cells slots Q pc L (.int v :: .ref (ad 7) :: rest) sc ar :=
  xg_put X (q0 := 7) (k := 5) (ty := .boolean) (ty0 := ft_R) (sc' := upd sc 13 v) rfl rfl in_R ft_R_ok n_R (by decide) (hy ▸ lk_R_39) rfl (by decide +kernel) (by rcases hb with rfl | rfl <;> rfl) (by rcases hb with rfl | rfl <;> rfl) (Nat.le_of_ble_eq_true rfl) rfl hdg kk
theorem lk_R_42 : Cond.fieldLink R_R 42 (F_R 6).1 (F_R 6).2.1 (F_R 6).2.2.1 ∈ x_tb := by decide +kernel
theorem xf_R_42 (X : x_X p R s m args meth c y ad D cI A cells slots) (hy : y.1.cls = R_R) (hdg : decode y.2.1 pc = .ok (.getfield 42, 3)) (kk : x_G p l e R s m args below meth c y ad D cI A cells slots Q (pc + 3) L (.int (sc 14) :: rest) sc ar) : x_G p l e R s m args below meth c y ad D cI A cells slots Q pc L (.ref (ad 7) :: rest) sc ar :=
  xg_get X (q0 := 7) (k := 6) rfl rfl in_R (by decide) (hy ▸ lk_R_42) rfl hdg kk
theorem xp_R_42 (X : x_X p R s m args meth c y ad D cI A cells slots) {v : Int32} (hy : y.1.cls = R_R) (hdg : decode y.2.1 pc = .ok (.putfield 42, 3)) (kk : x_G p l e R s m args below meth c y ad D cI A cells slots Q (pc + 3) L rest (upd sc 14 v) ar) : x_G p l e R s m args below meth c y ad D cI A cells slots Q pc L (.int v :: .ref (ad 7) :: rest) sc ar :=
  xg_put X (q0 := 7) (k := 6) (ty := .int) (ty0 := ft_R) (sc' := upd sc 14 v) rfl rfl in_R ft_R_ok n_R (by decide) (hy ▸ lk_R_42) rfl (by decide +kernel) rfl rfl (Nat.le_of_ble_eq_true rfl) rfl hdg kk
theorem lk_R_57 : Cond.fieldLink R_R 57 (F_R 9).1 (F_R 9).2.1 (F_R 9).2.2.1 ∈ x_tb := by decide +kernel
theorem xf_R_57 (X : x_X p R s m args meth c y ad D cI A cells slots) (hy : y.1.cls = R_R) (hdg : decode y.2.1 pc = .ok (.getfield 57, 3)) (kk : x_G p l e R s m args below meth c y ad D cI A cells slots Q (pc + 3) L (.int (sc 15) :: rest) sc ar) : x_G p l e R s m args below meth c y ad D cI A cells slots Q pc L (.ref (ad 7) :: rest) sc ar :=
  xg_get X (q0 := 7) (k := 9) rfl rfl in_R (by decide) (hy ▸ lk_R_57) rfl hdg kk
theorem xp_R_57 (X : x_X p R s m args meth c y ad D cI A cells slots) {v : Int32} (hy : y.1.cls = R_R) (hdg : decode y.2.1 pc = .ok (.putfield 57, 3)) (kk : x_G p l e R s m args below meth c y ad D cI A cells slots Q (pc + 3) L rest (upd sc 15 v) ar) : x_G p l e R s m args below meth c y ad D cI A cells slots Q pc L (.int v :: .ref (ad 7) :: rest) sc ar :=
  xg_put X (q0 := 7) (k := 9) (ty := .int) (ty0 := ft_R) (sc' := upd sc 15 v) rfl rfl in_R ft_R_ok n_R (by decide) (hy ▸ lk_R_57) rfl (by decide +kernel) rfl rfl (Nat.le_of_ble_eq_true rfl) rfl hdg kk
theorem lk_R_60 : Cond.fieldLink R_R 60 (F_R 10).1 (F_R 10).2.1 (F_R 10).2.2.1 ∈ x_tb := by decide +kernel
theorem xf_R_60 (X : x_X p R s m args meth c y ad D cI A cells slots) (hy : y.1.cls = R_R) (hdg : decode y.2.1 pc = .ok (.getfield 60, 3)) (kk : x_G p l e R s m args below meth c y ad D cI A cells slots Q (pc + 3) L (.int (sc 16) :: rest) sc ar) : x_G p l e R s m args below meth c y ad D cI A cells slots Q pc L (.ref (ad 7) :: rest) sc ar :=
  xg_get X (q0 := 7) (k := 10) rfl rfl in_R (by decide) (hy ▸ lk_R_60) rfl hdg kk
theorem xp_R_60 (X : x_X p R s m args meth c y ad D cI A cells slots) {v : Int32} (hy : y.1.cls = R_R) (hdg : decode y.2.1 pc = .ok (.putfield 60, 3)) (kk : x_G p l e R s m args below meth c y ad D cI A cells slots Q (pc + 3) L rest (upd sc 16 v) ar) : x_G p l e R s m args below meth c y ad D cI A cells slots Q pc L (.int v :: .ref (ad 7) :: rest) sc ar :=
  xg_put X (q0 := 7) (k := 10) (ty := .int) (ty0 := ft_R) (sc' := upd sc 16 v) rfl rfl in_R ft_R_ok n_R (by decide) (hy ▸ lk_R_60) rfl (by decide +kernel) rfl rfl (Nat.le_of_ble_eq_true rfl) rfl hdg kk
theorem lk_R_67 : Cond.fieldLink R_R 67 (F_R 11).1 (F_R 11).2.1 (F_R 11).2.2.1 ∈ x_tb := by decide +kernel
theorem xf_R_67 (X : x_X p R s m args meth c y ad D cI A cells slots) (hy : y.1.cls = R_R) (hdg : decode y.2.1 pc = .ok (.getfield 67, 3)) (kk : x_G p l e R s m args below meth c y ad D cI A cells slots Q (pc + 3) L (.int (sc 17) :: rest) sc ar) : x_G p l e R s m args below meth c y ad D cI A cells slots Q pc L (.ref (ad 7) :: rest) sc ar :=
  xg_get X (q0 := 7) (k := 11) rfl rfl in_R (by decide) (hy ▸ lk_R_67) rfl hdg kk
theorem xp_R_67 (X : x_X p R s m args meth c y ad D cI A cells slots) {v : Int32} (hy : y.1.cls = R_R) (hdg : decode y.2.1 pc = .ok (.putfield 67, 3)) (kk : x_G p l e R s m args below meth c y ad D cI A cells slots Q (pc + 3) L rest (upd sc 17 v) ar) : x_G p l e R s m args below meth c y ad D cI A cells slots Q pc L (.int v :: .ref (ad 7) :: rest) sc ar :=
  xg_put X (q0 := 7) (k := 11) (ty := .int) (ty0 := ft_R) (sc' := upd sc 17 v) rfl rfl in_R ft_R_ok n_R (by decide) (hy ▸ lk_R_67) rfl (by decide +kernel) rfl rfl (Nat.le_of_ble_eq_true rfl) rfl hdg kk
theorem lk_S_7 : Cond.fieldLink R_S 7 (F_S 0).1 (F_S 0).2.1 (F_S 0).2.2.1 ∈ x_tb := by decide +kernel
theorem xf_S_7_2 (X : x_X p R s m args meth c y ad D cI A cells slots) (hy : y.1.cls = R_S) (hdg : decode y.2.1 pc = .ok (.getfield 7, 3)) (kk : x_G p l e R s m args below meth c y ad D cI A cells slots Q (pc + 3) L (.int 1 :: rest) sc ar) : x_G p l e R s m args below meth c y ad D cI A cells slots Q pc L (.ref (ad 2) :: rest) sc ar :=
  xg_get X (q0 := 2) (k := 0) rfl rfl in_S (by decide) (hy ▸ lk_S_7) rfl hdg kk
theorem xf_S_7_3 (X : x_X p R s m args meth c y ad D cI A cells slots) (hy : y.1.cls = R_S) (hdg : decode y.2.1 pc = .ok (.getfield 7, 3)) (kk : x_G p l e R s m args below meth c y ad D cI A cells slots Q (pc + 3) L (.int 16 :: rest) sc ar) : x_G p l e R s m args below meth c y ad D cI A cells slots Q pc L (.ref (ad 3) :: rest) sc ar :=
  xg_get X (q0 := 3) (k := 0) rfl rfl in_S (by decide) (hy ▸ lk_S_7) rfl hdg kk
theorem xf_S_7_j (X : x_X p R s m args meth c y ad D cI A cells slots) {j : Nat} (hj : j < 2) (hy : y.1.cls = R_S) (hdg : decode y.2.1 pc = .ok (.getfield 7, 3)) (kk : x_G p l e R s m args below meth c y ad D cI A cells slots Q (pc + 3) L (.int (x_st j) :: rest) sc ar) : x_G p l e R s m args below meth c y ad D cI A cells slots Q pc L (.ref (ad (j + 2)) :: rest) sc ar := by
  match j, hj with
  | 0, _ => exact xf_S_7_2 X hy hdg kk
  | 1, _ => exact xf_S_7_3 X hy hdg kk
theorem lk_S_13 : Cond.fieldLink R_S 13 (F_S 1).1 (F_S 1).2.1 (F_S 1).2.2.1 ∈ x_tb := by decide +kernel
theorem xf_S_13_2 (X : x_X p R s m args meth c y ad D cI A cells slots) (hy : y.1.cls = R_S) (hdg : decode y.2.1 pc = .ok (.getfield 13, 3)) (kk : x_G p l e R s m args below meth c y ad D cI A cells slots Q (pc + 3) L (.int (sc 2) :: rest) sc ar) : x_G p l e R s m args below meth c y ad D cI A cells slots Q pc L (.ref (ad 2) :: rest) sc ar :=
  xg_get X (q0 := 2) (k := 1) rfl rfl in_S (by decide) (hy ▸ lk_S_13) rfl hdg kk
theorem xp_S_13_2 (X : x_X p R s m args meth c y ad D cI A cells slots) {v : Int32} (hy : y.1.cls = R_S) (hdg : decode y.2.1 pc = .ok (.putfield 13, 3)) (kk : x_G p l e R s m args below meth c y ad D cI A cells slots Q (pc + 3) L rest (upd sc 2 v) ar) : x_G p l e R s m args below meth c y ad D cI A cells slots Q pc L (.int v :: .ref (ad 2) :: rest) sc ar :=
  xg_put X (q0 := 2) (k := 1) (ty := .int) (ty0 := ft_S) (sc' := upd sc 2 v) rfl rfl in_S ft_S_ok n_S (by decide) (hy ▸ lk_S_13) rfl (by decide +kernel) rfl rfl (Nat.le_of_ble_eq_true rfl) rfl hdg kk
theorem xf_S_13_3 (X : x_X p R s m args meth c y ad D cI A cells slots) (hy : y.1.cls = R_S) (hdg : decode y.2.1 pc = .ok (.getfield 13, 3)) (kk : x_G p l e R s m args below meth c y ad D cI A cells slots Q (pc + 3) L (.int (sc 4) :: rest) sc ar) : x_G p l e R s m args below meth c y ad D cI A cells slots Q pc L (.ref (ad 3) :: rest) sc ar :=
  xg_get X (q0 := 3) (k := 1) rfl rfl in_S (by decide) (hy ▸ lk_S_13) rfl hdg kk
theorem xp_S_13_3 (X : x_X p R s m args meth c y ad D cI A cells slots) {v : Int32} (hy : y.1.cls = R_S) (hdg : decode y.2.1 pc = .ok (.putfield 13, 3)) (kk : x_G p l e R s m args below meth c y ad D cI A cells slots Q (pc + 3) L rest (upd sc 4 v) ar) : x_G p l e R s m args below meth c y ad D cI A cells slots Q pc L (.int v :: .ref (ad 3) :: rest) sc ar :=
  xg_put X (q0 := 3) (k := 1) (ty := .int) (ty0 := ft_S) (sc' := upd sc 4 v) rfl rfl in_S ft_S_ok n_S (by decide) (hy ▸ lk_S_13) rfl (by decide +kernel) rfl rfl (Nat.le_of_ble_eq_true rfl) rfl hdg kk
theorem xf_S_13_j (X : x_X p R s m args meth c y ad D cI A cells slots) {j : Nat} (hj : j < 2) (hy : y.1.cls = R_S) (hdg : decode y.2.1 pc = .ok (.getfield 13, 3)) (kk : x_G p l e R s m args below meth c y ad D cI A cells slots Q (pc + 3) L (.int (sc (2 * j + 2)) :: rest) sc ar) : x_G p l e R s m args below meth c y ad D cI A cells slots Q pc L (.ref (ad (j + 2)) :: rest) sc ar := by
  match j, hj with
  | 0, _ => exact xf_S_13_2 X hy hdg kk
  | 1, _ => exact xf_S_13_3 X hy hdg kk
theorem xp_S_13_j (X : x_X p R s m args meth c y ad D cI A cells slots) {v : Int32} {j : Nat} (hj : j < 2) (hy : y.1.cls = R_S) (hdg : decode y.2.1 pc = .ok (.putfield 13, 3)) (kk : x_G p l e R s m args below meth c y ad D cI A cells slots Q (pc + 3) L rest (upd sc (2 * j + 2) v) ar) : x_G p l e R s m args below meth c y ad D cI A cells slots Q pc L (.int v :: .ref (ad (j + 2)) :: rest) sc ar := by
  match j, hj with
  | 0, _ => exact xp_S_13_2 X hy hdg kk
  | 1, _ => exact xp_S_13_3 X hy hdg kk
theorem lk_S_16 : Cond.fieldLink R_S 16 (F_S 2).1 (F_S 2).2.1 (F_S 2).2.2.1 ∈ x_tb := by decide +kernel
theorem xf_S_16_2 (X : x_X p R s m args meth c y ad D cI A cells slots) (hy : y.1.cls = R_S) (hdg : decode y.2.1 pc = .ok (.getfield 16, 3)) (kk : x_G p l e R s m args below meth c y ad D cI A cells slots Q (pc + 3) L (.int (sc 3) :: rest) sc ar) : x_G p l e R s m args below meth c y ad D cI A cells slots Q pc L (.ref (ad 2) :: rest) sc ar :=
  xg_get X (q0 := 2) (k := 2) rfl rfl in_S (by decide) (hy ▸ lk_S_16) rfl hdg kk
theorem xp_S_16_2 (X : x_X p R s m args meth c y ad D cI A cells slots) {v : Int32} (hy : y.1.cls = R_S) (hdg : decode y.2.1 pc = .ok (.putfield 16, 3)) (kk : x_G p l e R s m args below meth c y ad D cI A cells slots Q (pc + 3) L rest (upd sc 3 v) ar) : x_G p l e R s m args below meth c y ad D cI A cells slots Q pc L (.int v :: .ref (ad 2) :: rest) sc ar :=
  xg_put X (q0 := 2) (k := 2) (ty := .int) (ty0 := ft_S) (sc' := upd sc 3 v) rfl rfl in_S ft_S_ok n_S (by decide) (hy ▸ lk_S_16) rfl (by decide +kernel) rfl rfl (Nat.le_of_ble_eq_true rfl) rfl hdg kk
theorem xf_S_16_3 (X : x_X p R s m args meth c y ad D cI A cells slots) (hy : y.1.cls = R_S) (hdg : decode y.2.1 pc = .ok (.getfield 16, 3)) (kk : x_G p l e R s m args below meth c y ad D cI A cells slots Q (pc + 3) L (.int (sc 5) :: rest) sc ar) : x_G p l e R s m args below meth c y ad D cI A cells slots Q pc L (.ref (ad 3) :: rest) sc ar :=
  xg_get X (q0 := 3) (k := 2) rfl rfl in_S (by decide) (hy ▸ lk_S_16) rfl hdg kk
theorem xp_S_16_3 (X : x_X p R s m args meth c y ad D cI A cells slots) {v : Int32} (hy : y.1.cls = R_S) (hdg : decode y.2.1 pc = .ok (.putfield 16, 3)) (kk : x_G p l e R s m args below meth c y ad D cI A cells slots Q (pc + 3) L rest (upd sc 5 v) ar) : x_G p l e R s m args below meth c y ad D cI A cells slots Q pc L (.int v :: .ref (ad 3) :: rest) sc ar :=
  xg_put X (q0 := 3) (k := 2) (ty := .int) (ty0 := ft_S) (sc' := upd sc 5 v) rfl rfl in_S ft_S_ok n_S (by decide) (hy ▸ lk_S_16) rfl (by decide +kernel) rfl rfl (Nat.le_of_ble_eq_true rfl) rfl hdg kk
theorem xf_S_16_j (X : x_X p R s m args meth c y ad D cI A cells slots) {j : Nat} (hj : j < 2) (hy : y.1.cls = R_S) (hdg : decode y.2.1 pc = .ok (.getfield 16, 3)) (kk : x_G p l e R s m args below meth c y ad D cI A cells slots Q (pc + 3) L (.int (sc (2 * j + 3)) :: rest) sc ar) : x_G p l e R s m args below meth c y ad D cI A cells slots Q pc L (.ref (ad (j + 2)) :: rest) sc ar := by
  match j, hj with
  | 0, _ => exact xf_S_16_2 X hy hdg kk
  | 1, _ => exact xf_S_16_3 X hy hdg kk
theorem xp_S_16_j (X : x_X p R s m args meth c y ad D cI A cells slots) {v : Int32} {j : Nat} (hj : j < 2) (hy : y.1.cls = R_S) (hdg : decode y.2.1 pc = .ok (.putfield 16, 3)) (kk : x_G p l e R s m args below meth c y ad D cI A cells slots Q (pc + 3) L rest (upd sc (2 * j + 3) v) ar) : x_G p l e R s m args below meth c y ad D cI A cells slots Q pc L (.int v :: .ref (ad (j + 2)) :: rest) sc ar := by
  match j, hj with
  | 0, _ => exact xp_S_16_2 X hy hdg kk
  | 1, _ => exact xp_S_16_3 X hy hdg kk
theorem lk_T_9 : Cond.fieldLink R_T 9 (F_T 0).1 (F_T 0).2.1 (F_T 0).2.2.1 ∈ x_tb := by decide +kernel
theorem xf_T_9 (X : x_X p R s m args meth c y ad D cI A cells slots) (hy : y.1.cls = R_T) (hdg : decode y.2.1 pc = .ok (.getfield 9, 3)) (kk : x_G p l e R s m args below meth c y ad D cI A cells slots Q (pc + 3) L (.ref (ad 1) :: rest) sc ar) : x_G p l e R s m args below meth c y ad D cI A cells slots Q pc L (.ref (ad 0) :: rest) sc ar :=
  xg_get X (q0 := 0) (k := 0) rfl rfl in_T (by decide) (hy ▸ lk_T_9) rfl hdg kk
theorem lk_T_18 : Cond.fieldLink R_T 18 (F_T 1).1 (F_T 1).2.1 (F_T 1).2.2.1 ∈ x_tb := by decide +kernel
theorem xf_T_18 (X : x_X p R s m args meth c y ad D cI A cells slots) (hy : y.1.cls = R_T) (hdg : decode y.2.1 pc = .ok (.getfield 18, 3)) (kk : x_G p l e R s m args below meth c y ad D cI A cells slots Q (pc + 3) L (.ref (ad 2) :: rest) sc ar) : x_G p l e R s m args below meth c y ad D cI A cells slots Q pc L (.ref (ad 0) :: rest) sc ar :=
  xg_get X (q0 := 0) (k := 1) rfl rfl in_T (by decide) (hy ▸ lk_T_18) rfl hdg kk
theorem lk_T_22 : Cond.fieldLink R_T 22 (F_T 2).1 (F_T 2).2.1 (F_T 2).2.2.1 ∈ x_tb := by decide +kernel
theorem xf_T_22 (X : x_X p R s m args meth c y ad D cI A cells slots) (hy : y.1.cls = R_T) (hdg : decode y.2.1 pc = .ok (.getfield 22, 3)) (kk : x_G p l e R s m args below meth c y ad D cI A cells slots Q (pc + 3) L (.ref (ad 3) :: rest) sc ar) : x_G p l e R s m args below meth c y ad D cI A cells slots Q pc L (.ref (ad 0) :: rest) sc ar :=
  xg_get X (q0 := 0) (k := 2) rfl rfl in_T (by decide) (hy ▸ lk_T_22) rfl hdg kk
theorem lk_T_28 : Cond.fieldLink R_T 28 (F_T 3).1 (F_T 3).2.1 (F_T 3).2.2.1 ∈ x_tb := by decide +kernel
theorem xf_T_28 (X : x_X p R s m args meth c y ad D cI A cells slots) (hy : y.1.cls = R_T) (hdg : decode y.2.1 pc = .ok (.getfield 28, 3)) (kk : x_G p l e R s m args below meth c y ad D cI A cells slots Q (pc + 3) L (.ref (ad 4) :: rest) sc ar) : x_G p l e R s m args below meth c y ad D cI A cells slots Q pc L (.ref (ad 0) :: rest) sc ar :=
  xg_get X (q0 := 0) (k := 3) rfl rfl in_T (by decide) (hy ▸ lk_T_28) rfl hdg kk
theorem lk_T_32 : Cond.fieldLink R_T 32 (F_T 4).1 (F_T 4).2.1 (F_T 4).2.2.1 ∈ x_tb := by decide +kernel
theorem xf_T_32 (X : x_X p R s m args meth c y ad D cI A cells slots) (hy : y.1.cls = R_T) (hdg : decode y.2.1 pc = .ok (.getfield 32, 3)) (kk : x_G p l e R s m args below meth c y ad D cI A cells slots Q (pc + 3) L (.ref (ad 5) :: rest) sc ar) : x_G p l e R s m args below meth c y ad D cI A cells slots Q pc L (.ref (ad 0) :: rest) sc ar :=
  xg_get X (q0 := 0) (k := 4) rfl rfl in_T (by decide) (hy ▸ lk_T_32) rfl hdg kk
theorem lk_T_35 : Cond.fieldLink R_T 35 (F_T 5).1 (F_T 5).2.1 (F_T 5).2.2.1 ∈ x_tb := by decide +kernel
theorem xf_T_35 (X : x_X p R s m args meth c y ad D cI A cells slots) (hy : y.1.cls = R_T) (hdg : decode y.2.1 pc = .ok (.getfield 35, 3)) (kk : x_G p l e R s m args below meth c y ad D cI A cells slots Q (pc + 3) L (.int (sc 0) :: rest) sc ar) : x_G p l e R s m args below meth c y ad D cI A cells slots Q pc L (.ref (ad 0) :: rest) sc ar :=
  xg_get X (q0 := 0) (k := 5) rfl rfl in_T (by decide) (hy ▸ lk_T_35) rfl hdg kk
theorem xp_T_35 (X : x_X p R s m args meth c y ad D cI A cells slots) {v : Int32} (hy : y.1.cls = R_T) (hdg : decode y.2.1 pc = .ok (.putfield 35, 3)) (kk : x_G p l e R s m args below meth c y ad D cI A cells slots Q (pc + 3) L rest (upd sc 0 v) ar) : x_G p l e R s m args below meth c y ad D cI A cells slots Q pc L (.int v :: .ref (ad 0) :: rest) sc ar :=
  xg_put X (q0 := 0) (k := 5) (ty := .int) (ty0 := ft_T) (sc' := upd sc 0 v) rfl rfl in_T ft_T_ok n_T (by decide) (hy ▸ lk_T_35) rfl (by decide +kernel) rfl rfl (Nat.le_of_ble_eq_true rfl) rfl hdg kk
theorem lk_T_39 : Cond.fieldLink R_T 39 (F_T 6).1 (F_T 6).2.1 (F_T 6).2.2.1 ∈ x_tb := by decide +kernel
theorem xf_T_39 (X : x_X p R s m args meth c y ad D cI A cells slots) (hy : y.1.cls = R_T) (hdg : decode y.2.1 pc = .ok (.getfield 39, 3)) (kk : x_G p l e R s m args below meth c y ad D cI A cells slots Q (pc + 3) L (.int (sc 1) :: rest) sc ar) : x_G p l e R s m args below meth c y ad D cI A cells slots Q pc L (.ref (ad 0) :: rest) sc ar :=
  xg_get X (q0 := 0) (k := 6) rfl rfl in_T (by decide) (hy ▸ lk_T_39) rfl hdg kk
theorem xp_T_39 (X : x_X p R s m args meth c y ad D cI A cells slots) {v : Int32} (hy : y.1.cls = R_T) (hdg : decode y.2.1 pc = .ok (.putfield 39, 3)) (hb : v = 0 ∨ v = 1) (kk : x_G p l e R s m args below meth c y ad D cI A cells slots Q (pc + 3) L rest (upd sc 1 v) ar) : x_G p l e R s m args below meth c y ad D cI A cells slots Q pc L (.int v :: .ref (ad 0) :: rest) sc ar :=
  xg_put X (q0 := 0) (k := 6) (ty := .boolean) (ty0 := ft_T) (sc' := upd sc 1 v) rfl rfl in_T ft_T_ok n_T (by decide) (hy ▸ lk_T_39) rfl (by decide +kernel) (by rcases hb with rfl | rfl <;> rfl) (by rcases hb with rfl | rfl <;> rfl) (Nat.le_of_ble_eq_true rfl) rfl hdg kk
theorem lk_T_124 : Cond.fieldLink R_T 124 (F_S 2).1 (F_S 2).2.1 (F_S 2).2.2.1 ∈ x_tb := by decide +kernel
theorem xf_T_124_2 (X : x_X p R s m args meth c y ad D cI A cells slots) (hy : y.1.cls = R_T) (hdg : decode y.2.1 pc = .ok (.getfield 124, 3)) (kk : x_G p l e R s m args below meth c y ad D cI A cells slots Q (pc + 3) L (.int (sc 3) :: rest) sc ar) : x_G p l e R s m args below meth c y ad D cI A cells slots Q pc L (.ref (ad 2) :: rest) sc ar :=
  xg_get X (q0 := 2) (k := 2) rfl rfl in_S (by decide) (hy ▸ lk_T_124) rfl hdg kk
theorem xf_T_124_3 (X : x_X p R s m args meth c y ad D cI A cells slots) (hy : y.1.cls = R_T) (hdg : decode y.2.1 pc = .ok (.getfield 124, 3)) (kk : x_G p l e R s m args below meth c y ad D cI A cells slots Q (pc + 3) L (.int (sc 5) :: rest) sc ar) : x_G p l e R s m args below meth c y ad D cI A cells slots Q pc L (.ref (ad 3) :: rest) sc ar :=
  xg_get X (q0 := 3) (k := 2) rfl rfl in_S (by decide) (hy ▸ lk_T_124) rfl hdg kk
theorem xf_T_124_j (X : x_X p R s m args meth c y ad D cI A cells slots) {j : Nat} (hj : j < 2) (hy : y.1.cls = R_T) (hdg : decode y.2.1 pc = .ok (.getfield 124, 3)) (kk : x_G p l e R s m args below meth c y ad D cI A cells slots Q (pc + 3) L (.int (sc (2 * j + 3)) :: rest) sc ar) : x_G p l e R s m args below meth c y ad D cI A cells slots Q pc L (.ref (ad (j + 2)) :: rest) sc ar := by
  match j, hj with
  | 0, _ => exact xf_T_124_2 X hy hdg kk
  | 1, _ => exact xf_T_124_3 X hy hdg kk
theorem lk_T_135 : Cond.fieldLink R_T 135 (F_S 1).1 (F_S 1).2.1 (F_S 1).2.2.1 ∈ x_tb := by decide +kernel
theorem xf_T_135_2 (X : x_X p R s m args meth c y ad D cI A cells slots) (hy : y.1.cls = R_T) (hdg : decode y.2.1 pc = .ok (.getfield 135, 3)) (kk : x_G p l e R s m args below meth c y ad D cI A cells slots Q (pc + 3) L (.int (sc 2) :: rest) sc ar) : x_G p l e R s m args below meth c y ad D cI A cells slots Q pc L (.ref (ad 2) :: rest) sc ar :=
  xg_get X (q0 := 2) (k := 1) rfl rfl in_S (by decide) (hy ▸ lk_T_135) rfl hdg kk
theorem xf_T_135_3 (X : x_X p R s m args meth c y ad D cI A cells slots) (hy : y.1.cls = R_T) (hdg : decode y.2.1 pc = .ok (.getfield 135, 3)) (kk : x_G p l e R s m args below meth c y ad D cI A cells slots Q (pc + 3) L (.int (sc 4) :: rest) sc ar) : x_G p l e R s m args below meth c y ad D cI A cells slots Q pc L (.ref (ad 3) :: rest) sc ar :=
  xg_get X (q0 := 3) (k := 1) rfl rfl in_S (by decide) (hy ▸ lk_T_135) rfl hdg kk
theorem xf_T_135_j (X : x_X p R s m args meth c y ad D cI A cells slots) {j : Nat} (hj : j < 2) (hy : y.1.cls = R_T) (hdg : decode y.2.1 pc = .ok (.getfield 135, 3)) (kk : x_G p l e R s m args below meth c y ad D cI A cells slots Q (pc + 3) L (.int (sc (2 * j + 2)) :: rest) sc ar) : x_G p l e R s m args below meth c y ad D cI A cells slots Q pc L (.ref (ad (j + 2)) :: rest) sc ar := by
  match j, hj with
  | 0, _ => exact xf_T_135_2 X hy hdg kk
  | 1, _ => exact xf_T_135_3 X hy hdg kk
theorem lk_T_138 : Cond.fieldLink R_T 138 (F_S 0).1 (F_S 0).2.1 (F_S 0).2.2.1 ∈ x_tb := by decide +kernel
theorem xf_T_138_2 (X : x_X p R s m args meth c y ad D cI A cells slots) (hy : y.1.cls = R_T) (hdg : decode y.2.1 pc = .ok (.getfield 138, 3)) (kk : x_G p l e R s m args below meth c y ad D cI A cells slots Q (pc + 3) L (.int 1 :: rest) sc ar) : x_G p l e R s m args below meth c y ad D cI A cells slots Q pc L (.ref (ad 2) :: rest) sc ar :=
  xg_get X (q0 := 2) (k := 0) rfl rfl in_S (by decide) (hy ▸ lk_T_138) rfl hdg kk
theorem xf_T_138_3 (X : x_X p R s m args meth c y ad D cI A cells slots) (hy : y.1.cls = R_T) (hdg : decode y.2.1 pc = .ok (.getfield 138, 3)) (kk : x_G p l e R s m args below meth c y ad D cI A cells slots Q (pc + 3) L (.int 16 :: rest) sc ar) : x_G p l e R s m args below meth c y ad D cI A cells slots Q pc L (.ref (ad 3) :: rest) sc ar :=
  xg_get X (q0 := 3) (k := 0) rfl rfl in_S (by decide) (hy ▸ lk_T_138) rfl hdg kk
theorem xf_T_138_j (X : x_X p R s m args meth c y ad D cI A cells slots) {j : Nat} (hj : j < 2) (hy : y.1.cls = R_T) (hdg : decode y.2.1 pc = .ok (.getfield 138, 3)) (kk : x_G p l e R s m args below meth c y ad D cI A cells slots Q (pc + 3) L (.int (x_st j) :: rest) sc ar) : x_G p l e R s m args below meth c y ad D cI A cells slots Q pc L (.ref (ad (j + 2)) :: rest) sc ar := by
  match j, hj with
  | 0, _ => exact xf_T_138_2 X hy hdg kk
  | 1, _ => exact xf_T_138_3 X hy hdg kk
theorem xa_ld1 (X : x_X p R s m args meth c y ad D cI A cells slots) {i : Int32} (hdg : decode y.2.1 pc = .ok (.iaload, 1)) (hin : vp_in i 768) (kk : x_G p l e R s m args below meth c y ad D cI A cells slots Q (pc + 1) L (.int (ar 0 i.toNatClampNeg) :: rest) sc ar) : x_G p l e R s m args below meth c y ad D cI A cells slots Q pc L (.int i :: .ref (ad 1) :: rest) sc ar :=
  xg_iald X (q0 := 1) rfl hdg hin kk
theorem xa_st1 (X : x_X p R s m args meth c y ad D cI A cells slots) {i x : Int32} (hdg : decode y.2.1 pc = .ok (.iastore, 1)) (hin : vp_in i 768) (kk : x_G p l e R s m args below meth c y ad D cI A cells slots Q (pc + 1) L rest sc (x_ua ar 0 (upd (ar 0) i.toNatClampNeg x))) : x_G p l e R s m args below meth c y ad D cI A cells slots Q pc L (.int x :: .int i :: .ref (ad 1) :: rest) sc ar :=
  xg_iast X (q0 := 1) (ar' := x_ua ar 0 (upd (ar 0) i.toNatClampNeg x)) rfl rfl hdg hin kk
theorem xa_len1 (X : x_X p R s m args meth c y ad D cI A cells slots) (hdg : decode y.2.1 pc = .ok (.arraylength, 1)) (kk : x_G p l e R s m args below meth c y ad D cI A cells slots Q (pc + 1) L (.int 768 :: rest) sc ar) : x_G p l e R s m args below meth c y ad D cI A cells slots Q pc L (.ref (ad 1) :: rest) sc ar :=
  xg_alen X (q0 := 1) rfl (by decide) hdg kk
theorem xa_ld5 (X : x_X p R s m args meth c y ad D cI A cells slots) {i : Int32} (hdg : decode y.2.1 pc = .ok (.iaload, 1)) (hin : vp_in i 4) (kk : x_G p l e R s m args below meth c y ad D cI A cells slots Q (pc + 1) L (.int (ar 1 i.toNatClampNeg) :: rest) sc ar) : x_G p l e R s m args below meth c y ad D cI A cells slots Q pc L (.int i :: .ref (ad 5) :: rest) sc ar :=
  xg_iald X (q0 := 5) rfl hdg hin kk
theorem xa_st5 (X : x_X p R s m args meth c y ad D cI A cells slots) {i x : Int32} (hdg : decode y.2.1 pc = .ok (.iastore, 1)) (hin : vp_in i 4) (kk : x_G p l e R s m args below meth c y ad D cI A cells slots Q (pc + 1) L rest sc (x_ua ar 1 (upd (ar 1) i.toNatClampNeg x))) : x_G p l e R s m args below meth c y ad D cI A cells slots Q pc L (.int x :: .int i :: .ref (ad 5) :: rest) sc ar :=
  xg_iast X (q0 := 5) (ar' := x_ua ar 1 (upd (ar 1) i.toNatClampNeg x)) rfl rfl hdg hin kk
theorem xa_len5 (X : x_X p R s m args meth c y ad D cI A cells slots) (hdg : decode y.2.1 pc = .ok (.arraylength, 1)) (kk : x_G p l e R s m args below meth c y ad D cI A cells slots Q (pc + 1) L (.int 4 :: rest) sc ar) : x_G p l e R s m args below meth c y ad D cI A cells slots Q pc L (.ref (ad 5) :: rest) sc ar :=
  xg_alen X (q0 := 5) rfl (by decide) hdg kk
theorem xa_ld6 (X : x_X p R s m args meth c y ad D cI A cells slots) {i : Int32} (hdg : decode y.2.1 pc = .ok (.iaload, 1)) (hin : vp_in i 16) (kk : x_G p l e R s m args below meth c y ad D cI A cells slots Q (pc + 1) L (.int (ar 2 i.toNatClampNeg) :: rest) sc ar) : x_G p l e R s m args below meth c y ad D cI A cells slots Q pc L (.int i :: .ref (ad 6) :: rest) sc ar :=
  xg_iald X (q0 := 6) rfl hdg hin kk
theorem xa_st6 (X : x_X p R s m args meth c y ad D cI A cells slots) {i x : Int32} (hdg : decode y.2.1 pc = .ok (.iastore, 1)) (hin : vp_in i 16) (kk : x_G p l e R s m args below meth c y ad D cI A cells slots Q (pc + 1) L rest sc (x_ua ar 2 (upd (ar 2) i.toNatClampNeg x))) : x_G p l e R s m args below meth c y ad D cI A cells slots Q pc L (.int x :: .int i :: .ref (ad 6) :: rest) sc ar :=
  xg_iast X (q0 := 6) (ar' := x_ua ar 2 (upd (ar 2) i.toNatClampNeg x)) rfl rfl hdg hin kk
theorem xa_len6 (X : x_X p R s m args meth c y ad D cI A cells slots) (hdg : decode y.2.1 pc = .ok (.arraylength, 1)) (kk : x_G p l e R s m args below meth c y ad D cI A cells slots Q (pc + 1) L (.int 16 :: rest) sc ar) : x_G p l e R s m args below meth c y ad D cI A cells slots Q pc L (.ref (ad 6) :: rest) sc ar :=
  xg_alen X (q0 := 6) rfl (by decide) hdg kk
theorem xa_ld8 (X : x_X p R s m args meth c y ad D cI A cells slots) {i : Int32} (hdg : decode y.2.1 pc = .ok (.iaload, 1)) (hin : vp_in i 4) (kk : x_G p l e R s m args below meth c y ad D cI A cells slots Q (pc + 1) L (.int (ar 3 i.toNatClampNeg) :: rest) sc ar) : x_G p l e R s m args below meth c y ad D cI A cells slots Q pc L (.int i :: .ref (ad 8) :: rest) sc ar :=
  xg_iald X (q0 := 8) rfl hdg hin kk
theorem xa_st8 (X : x_X p R s m args meth c y ad D cI A cells slots) {i x : Int32} (hdg : decode y.2.1 pc = .ok (.iastore, 1)) (hin : vp_in i 4) (kk : x_G p l e R s m args below meth c y ad D cI A cells slots Q (pc + 1) L rest sc (x_ua ar 3 (upd (ar 3) i.toNatClampNeg x))) : x_G p l e R s m args below meth c y ad D cI A cells slots Q pc L (.int x :: .int i :: .ref (ad 8) :: rest) sc ar :=
  xg_iast X (q0 := 8) (ar' := x_ua ar 3 (upd (ar 3) i.toNatClampNeg x)) rfl rfl hdg hin kk
theorem xa_len8 (X : x_X p R s m args meth c y ad D cI A cells slots) (hdg : decode y.2.1 pc = .ok (.arraylength, 1)) (kk : x_G p l e R s m args below meth c y ad D cI A cells slots Q (pc + 1) L (.int 4 :: rest) sc ar) : x_G p l e R s m args below meth c y ad D cI A cells slots Q pc L (.ref (ad 8) :: rest) sc ar :=
  xg_alen X (q0 := 8) rfl (by decide) hdg kk
theorem xa_ld9 (X : x_X p R s m args meth c y ad D cI A cells slots) {i : Int32} (hdg : decode y.2.1 pc = .ok (.iaload, 1)) (hin : vp_in i 768) (kk : x_G p l e R s m args below meth c y ad D cI A cells slots Q (pc + 1) L (.int (ar 4 i.toNatClampNeg) :: rest) sc ar) : x_G p l e R s m args below meth c y ad D cI A cells slots Q pc L (.int i :: .ref (ad 9) :: rest) sc ar :=
  xg_iald X (q0 := 9) rfl hdg hin kk
theorem xa_st9 (X : x_X p R s m args meth c y ad D cI A cells slots) {i x : Int32} (hdg : decode y.2.1 pc = .ok (.iastore, 1)) (hin : vp_in i 768) (kk : x_G p l e R s m args below meth c y ad D cI A cells slots Q (pc + 1) L rest sc (x_ua ar 4 (upd (ar 4) i.toNatClampNeg x))) : x_G p l e R s m args below meth c y ad D cI A cells slots Q pc L (.int x :: .int i :: .ref (ad 9) :: rest) sc ar :=
  xg_iast X (q0 := 9) (ar' := x_ua ar 4 (upd (ar 4) i.toNatClampNeg x)) rfl rfl hdg hin kk
theorem xa_len9 (X : x_X p R s m args meth c y ad D cI A cells slots) (hdg : decode y.2.1 pc = .ok (.arraylength, 1)) (kk : x_G p l e R s m args below meth c y ad D cI A cells slots Q (pc + 1) L (.int 768 :: rest) sc ar) : x_G p l e R s m args below meth c y ad D cI A cells slots Q pc L (.ref (ad 9) :: rest) sc ar :=
  xg_alen X (q0 := 9) rfl (by decide) hdg kk
theorem xa_ld10 (X : x_X p R s m args meth c y ad D cI A cells slots) {i : Int32} (hdg : decode y.2.1 pc = .ok (.iaload, 1)) (hin : vp_in i 16) (kk : x_G p l e R s m args below meth c y ad D cI A cells slots Q (pc + 1) L (.int (ar 5 i.toNatClampNeg) :: rest) sc ar) : x_G p l e R s m args below meth c y ad D cI A cells slots Q pc L (.int i :: .ref (ad 10) :: rest) sc ar :=
  xg_iald X (q0 := 10) rfl hdg hin kk
theorem xa_st10 (X : x_X p R s m args meth c y ad D cI A cells slots) {i x : Int32} (hdg : decode y.2.1 pc = .ok (.iastore, 1)) (hin : vp_in i 16) (kk : x_G p l e R s m args below meth c y ad D cI A cells slots Q (pc + 1) L rest sc (x_ua ar 5 (upd (ar 5) i.toNatClampNeg x))) : x_G p l e R s m args below meth c y ad D cI A cells slots Q pc L (.int x :: .int i :: .ref (ad 10) :: rest) sc ar :=
  xg_iast X (q0 := 10) (ar' := x_ua ar 5 (upd (ar 5) i.toNatClampNeg x)) rfl rfl hdg hin kk
theorem xa_len10 (X : x_X p R s m args meth c y ad D cI A cells slots) (hdg : decode y.2.1 pc = .ok (.arraylength, 1)) (kk : x_G p l e R s m args below meth c y ad D cI A cells slots Q (pc + 1) L (.int 16 :: rest) sc ar) : x_G p l e R s m args below meth c y ad D cI A cells slots Q pc L (.ref (ad 10) :: rest) sc ar :=
  xg_alen X (q0 := 10) rfl (by decide) hdg kk
theorem xa_ld11 (X : x_X p R s m args meth c y ad D cI A cells slots) {i : Int32} (hdg : decode y.2.1 pc = .ok (.iaload, 1)) (hin : vp_in i 16) (kk : x_G p l e R s m args below meth c y ad D cI A cells slots Q (pc + 1) L (.int (ar 6 i.toNatClampNeg) :: rest) sc ar) : x_G p l e R s m args below meth c y ad D cI A cells slots Q pc L (.int i :: .ref (ad 11) :: rest) sc ar :=
  xg_iald X (q0 := 11) rfl hdg hin kk
theorem xa_st11 (X : x_X p R s m args meth c y ad D cI A cells slots) {i x : Int32} (hdg : decode y.2.1 pc = .ok (.iastore, 1)) (hin : vp_in i 16) (kk : x_G p l e R s m args below meth c y ad D cI A cells slots Q (pc + 1) L rest sc (x_ua ar 6 (upd (ar 6) i.toNatClampNeg x))) : x_G p l e R s m args below meth c y ad D cI A cells slots Q pc L (.int x :: .int i :: .ref (ad 11) :: rest) sc ar :=
  xg_iast X (q0 := 11) (ar' := x_ua ar 6 (upd (ar 6) i.toNatClampNeg x)) rfl rfl hdg hin kk
theorem xa_len11 (X : x_X p R s m args meth c y ad D cI A cells slots) (hdg : decode y.2.1 pc = .ok (.arraylength, 1)) (kk : x_G p l e R s m args below meth c y ad D cI A cells slots Q (pc + 1) L (.int 16 :: rest) sc ar) : x_G p l e R s m args below meth c y ad D cI A cells slots Q pc L (.ref (ad 11) :: rest) sc ar :=
  xg_alen X (q0 := 11) rfl (by decide) hdg kk
end XF
