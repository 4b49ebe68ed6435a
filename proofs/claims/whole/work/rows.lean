section
-- ===== PART A: goes FIRST, ahead of the names: the tables' words, and 'selects' of the private methods out of them =====
/-- a private method of a class that the tables say can be made, by its rows of tables_1 -/
def lw_okq (q : MethodName × Nat) : Prop := (q.1.cls ≠ "java/lang/invoke/MethodHandle" ∧ q.1.cls ≠ "java/lang/invoke/VarHandle") ∧ Cond.instantiable q.1.cls q.2 ∈ tables_1 ∧ Cond.privateMethod q.1 ∈ tables_1 ∧ Cond.instanceMethod q.1 ∈ tables_1
theorem lw_p0 : lw_okq (⟨"LiftedTile", "cellOfPlace", "(IJJ)I"⟩, 7) := ⟨⟨by decide +kernel, by decide +kernel⟩, List.mem_of_getElem? (i := 8) (by decide +kernel), List.mem_of_getElem? (i := 95) (by decide +kernel), List.mem_of_getElem? (i := 96) (by decide +kernel)⟩
theorem lw_p1 : lw_okq (⟨"LiftedTile", "valueIn", "(I)I"⟩, 7) := ⟨⟨by decide +kernel, by decide +kernel⟩, List.mem_of_getElem? (i := 8) (by decide +kernel), List.mem_of_getElem? (i := 114) (by decide +kernel), List.mem_of_getElem? (i := 115) (by decide +kernel)⟩
theorem lw_p2 : lw_okq (⟨"LiftedTile", "hasTile", "()Z"⟩, 7) := ⟨⟨by decide +kernel, by decide +kernel⟩, List.mem_of_getElem? (i := 8) (by decide +kernel), List.mem_of_getElem? (i := 122) (by decide +kernel), List.mem_of_getElem? (i := 123) (by decide +kernel)⟩
theorem lw_p3 : lw_okq (⟨"LiftedTile", "mixCell", "(I)V"⟩, 7) := ⟨⟨by decide +kernel, by decide +kernel⟩, List.mem_of_getElem? (i := 8) (by decide +kernel), List.mem_of_getElem? (i := 126) (by decide +kernel), List.mem_of_getElem? (i := 127) (by decide +kernel)⟩
theorem lw_p4 : lw_okq (⟨"LiftedTile", "unmixCell", "(I)V"⟩, 7) := ⟨⟨by decide +kernel, by decide +kernel⟩, List.mem_of_getElem? (i := 8) (by decide +kernel), List.mem_of_getElem? (i := 134) (by decide +kernel), List.mem_of_getElem? (i := 135) (by decide +kernel)⟩
theorem lw_p5 : lw_okq (⟨"LiftedTile", "liftLines", "(ILLiftedTile$Span;LLiftedTile$Span;IZ)V"⟩, 7) := ⟨⟨by decide +kernel, by decide +kernel⟩, List.mem_of_getElem? (i := 8) (by decide +kernel), List.mem_of_getElem? (i := 146) (by decide +kernel), List.mem_of_getElem? (i := 147) (by decide +kernel)⟩
theorem lw_p6 : lw_okq (⟨"LiftedTile$Line", "firstOdd", "()I"⟩, 3) := ⟨⟨by decide +kernel, by decide +kernel⟩, List.mem_of_getElem? (i := 36) (by decide +kernel), List.mem_of_getElem? (i := 172) (by decide +kernel), List.mem_of_getElem? (i := 173) (by decide +kernel)⟩
theorem lw_p7 : lw_okq (⟨"LiftedTile$Line", "prediction", "(II)I"⟩, 3) := ⟨⟨by decide +kernel, by decide +kernel⟩, List.mem_of_getElem? (i := 36) (by decide +kernel), List.mem_of_getElem? (i := 176) (by decide +kernel), List.mem_of_getElem? (i := 177) (by decide +kernel)⟩
theorem lw_p8 : lw_okq (⟨"LiftedTile$Line", "neighbours", "(II)I"⟩, 3) := ⟨⟨by decide +kernel, by decide +kernel⟩, List.mem_of_getElem? (i := 36) (by decide +kernel), List.mem_of_getElem? (i := 180) (by decide +kernel), List.mem_of_getElem? (i := 181) (by decide +kernel)⟩
theorem lw_p9 : lw_okq (⟨"LiftedTile$Line", "value", "(I)I"⟩, 3) := ⟨⟨by decide +kernel, by decide +kernel⟩, List.mem_of_getElem? (i := 36) (by decide +kernel), List.mem_of_getElem? (i := 184) (by decide +kernel), List.mem_of_getElem? (i := 185) (by decide +kernel)⟩
theorem lw_p10 : lw_okq (⟨"LiftedTile$Line", "firstEven", "()I"⟩, 3) := ⟨⟨by decide +kernel, by decide +kernel⟩, List.mem_of_getElem? (i := 36) (by decide +kernel), List.mem_of_getElem? (i := 188) (by decide +kernel), List.mem_of_getElem? (i := 189) (by decide +kernel)⟩
theorem lw_p11 : lw_okq (⟨"LiftedTile$Line", "update", "(II)I"⟩, 3) := ⟨⟨by decide +kernel, by decide +kernel⟩, List.mem_of_getElem? (i := 36) (by decide +kernel), List.mem_of_getElem? (i := 192) (by decide +kernel), List.mem_of_getElem? (i := 193) (by decide +kernel)⟩
theorem lw_p12 : lw_okq (⟨"LiftedTile", "hasLevel", "(I)Z"⟩, 7) := ⟨⟨by decide +kernel, by decide +kernel⟩, List.mem_of_getElem? (i := 8) (by decide +kernel), List.mem_of_getElem? (i := 216) (by decide +kernel), List.mem_of_getElem? (i := 217) (by decide +kernel)⟩
theorem lw_p13 : lw_okq (⟨"LiftedTile", "cellOfCoordinates", "(IIIII)I"⟩, 7) := ⟨⟨by decide +kernel, by decide +kernel⟩, List.mem_of_getElem? (i := 8) (by decide +kernel), List.mem_of_getElem? (i := 244) (by decide +kernel), List.mem_of_getElem? (i := 245) (by decide +kernel)⟩
theorem lw_p14 : lw_okq (⟨"LiftedTile", "isOfSubband", "(III)Z"⟩, 7) := ⟨⟨by decide +kernel, by decide +kernel⟩, List.mem_of_getElem? (i := 8) (by decide +kernel), List.mem_of_getElem? (i := 252) (by decide +kernel), List.mem_of_getElem? (i := 253) (by decide +kernel)⟩
theorem lw_p15 : lw_okq (⟨"LiftedTileModel", "isPlace", "(II)Z"⟩, 14) := ⟨⟨by decide +kernel, by decide +kernel⟩, List.mem_of_getElem? (i := 270) (by decide +kernel), List.mem_of_getElem? (i := 330) (by decide +kernel), List.mem_of_getElem? (i := 331) (by decide +kernel)⟩
def lw_privs_1 : List (MethodName × Nat) := [(⟨"LiftedTile", "cellOfPlace", "(IJJ)I"⟩, 7), (⟨"LiftedTile", "valueIn", "(I)I"⟩, 7), (⟨"LiftedTile", "hasTile", "()Z"⟩, 7), (⟨"LiftedTile", "mixCell", "(I)V"⟩, 7), (⟨"LiftedTile", "unmixCell", "(I)V"⟩, 7), (⟨"LiftedTile", "liftLines", "(ILLiftedTile$Span;LLiftedTile$Span;IZ)V"⟩, 7), (⟨"LiftedTile$Line", "firstOdd", "()I"⟩, 3), (⟨"LiftedTile$Line", "prediction", "(II)I"⟩, 3), (⟨"LiftedTile$Line", "neighbours", "(II)I"⟩, 3), (⟨"LiftedTile$Line", "value", "(I)I"⟩, 3), (⟨"LiftedTile$Line", "firstEven", "()I"⟩, 3), (⟨"LiftedTile$Line", "update", "(II)I"⟩, 3), (⟨"LiftedTile", "hasLevel", "(I)Z"⟩, 7), (⟨"LiftedTile", "cellOfCoordinates", "(IIIII)I"⟩, 7), (⟨"LiftedTile", "isOfSubband", "(III)Z"⟩, 7), (⟨"LiftedTileModel", "isPlace", "(II)Z"⟩, 14)]
theorem lw_r1 : ∀ q ∈ lw_privs_1, lw_okq q := List.forall_mem_cons.mpr ⟨lw_p0, List.forall_mem_cons.mpr ⟨lw_p1, List.forall_mem_cons.mpr ⟨lw_p2, List.forall_mem_cons.mpr ⟨lw_p3, List.forall_mem_cons.mpr ⟨lw_p4, List.forall_mem_cons.mpr ⟨lw_p5, List.forall_mem_cons.mpr ⟨lw_p6, List.forall_mem_cons.mpr ⟨lw_p7, List.forall_mem_cons.mpr ⟨lw_p8, List.forall_mem_cons.mpr ⟨lw_p9, List.forall_mem_cons.mpr ⟨lw_p10, List.forall_mem_cons.mpr ⟨lw_p11, List.forall_mem_cons.mpr ⟨lw_p12, List.forall_mem_cons.mpr ⟨lw_p13, List.forall_mem_cons.mpr ⟨lw_p14, List.forall_mem_cons.mpr ⟨lw_p15, fun _ h => absurd h List.not_mem_nil⟩⟩⟩⟩⟩⟩⟩⟩⟩⟩⟩⟩⟩⟩⟩⟩
theorem lw_p16 : lw_okq (⟨"LiftedTileModel", "cell", "(III)I"⟩, 14) := ⟨⟨by decide +kernel, by decide +kernel⟩, List.mem_of_getElem? (i := 270) (by decide +kernel), List.mem_of_getElem? (i := 334) (by decide +kernel), List.mem_of_getElem? (i := 335) (by decide +kernel)⟩
theorem lw_p17 : lw_okq (⟨"LiftedTileModel", "columns", "(IIZ)V"⟩, 14) := ⟨⟨by decide +kernel, by decide +kernel⟩, List.mem_of_getElem? (i := 270) (by decide +kernel), List.mem_of_getElem? (i := 361) (by decide +kernel), List.mem_of_getElem? (i := 362) (by decide +kernel)⟩
theorem lw_p18 : lw_okq (⟨"LiftedTileModel", "column", "(IIIZ)V"⟩, 14) := ⟨⟨by decide +kernel, by decide +kernel⟩, List.mem_of_getElem? (i := 270) (by decide +kernel), List.mem_of_getElem? (i := 365) (by decide +kernel), List.mem_of_getElem? (i := 366) (by decide +kernel)⟩
theorem lw_p19 : lw_okq (⟨"LiftedTileModel", "work", "(Z)V"⟩, 14) := ⟨⟨by decide +kernel, by decide +kernel⟩, List.mem_of_getElem? (i := 270) (by decide +kernel), List.mem_of_getElem? (i := 373) (by decide +kernel), List.mem_of_getElem? (i := 374) (by decide +kernel)⟩
theorem lw_p20 : lw_okq (⟨"LiftedTileModel", "liftedBack", "(I)I"⟩, 14) := ⟨⟨by decide +kernel, by decide +kernel⟩, List.mem_of_getElem? (i := 270) (by decide +kernel), List.mem_of_getElem? (i := 377) (by decide +kernel), List.mem_of_getElem? (i := 378) (by decide +kernel)⟩
theorem lw_p21 : lw_okq (⟨"LiftedTileModel", "old", "(I)I"⟩, 14) := ⟨⟨by decide +kernel, by decide +kernel⟩, List.mem_of_getElem? (i := 270) (by decide +kernel), List.mem_of_getElem? (i := 384) (by decide +kernel), List.mem_of_getElem? (i := 385) (by decide +kernel)⟩
theorem lw_p22 : lw_okq (⟨"LiftedTileModel", "inside", "(I)I"⟩, 14) := ⟨⟨by decide +kernel, by decide +kernel⟩, List.mem_of_getElem? (i := 270) (by decide +kernel), List.mem_of_getElem? (i := 388) (by decide +kernel), List.mem_of_getElem? (i := 389) (by decide +kernel)⟩
theorem lw_p23 : lw_okq (⟨"LiftedTileModel", "low", "(I)I"⟩, 14) := ⟨⟨by decide +kernel, by decide +kernel⟩, List.mem_of_getElem? (i := 270) (by decide +kernel), List.mem_of_getElem? (i := 392) (by decide +kernel), List.mem_of_getElem? (i := 393) (by decide +kernel)⟩
theorem lw_p24 : lw_okq (⟨"LiftedTileModel", "updated", "(II)I"⟩, 14) := ⟨⟨by decide +kernel, by decide +kernel⟩, List.mem_of_getElem? (i := 270) (by decide +kernel), List.mem_of_getElem? (i := 396) (by decide +kernel), List.mem_of_getElem? (i := 397) (by decide +kernel)⟩
theorem lw_p25 : lw_okq (⟨"LiftedTileModel", "predicted", "(IIII)I"⟩, 14) := ⟨⟨by decide +kernel, by decide +kernel⟩, List.mem_of_getElem? (i := 270) (by decide +kernel), List.mem_of_getElem? (i := 400) (by decide +kernel), List.mem_of_getElem? (i := 401) (by decide +kernel)⟩
theorem lw_p26 : lw_okq (⟨"LiftedTileModel", "lifted", "(I)I"⟩, 14) := ⟨⟨by decide +kernel, by decide +kernel⟩, List.mem_of_getElem? (i := 270) (by decide +kernel), List.mem_of_getElem? (i := 404) (by decide +kernel), List.mem_of_getElem? (i := 405) (by decide +kernel)⟩
theorem lw_p27 : lw_okq (⟨"LiftedTileModel", "high", "(I)I"⟩, 14) := ⟨⟨by decide +kernel, by decide +kernel⟩, List.mem_of_getElem? (i := 270) (by decide +kernel), List.mem_of_getElem? (i := 408) (by decide +kernel), List.mem_of_getElem? (i := 409) (by decide +kernel)⟩
theorem lw_p28 : lw_okq (⟨"LiftedTileModel", "rows", "(IIZ)V"⟩, 14) := ⟨⟨by decide +kernel, by decide +kernel⟩, List.mem_of_getElem? (i := 270) (by decide +kernel), List.mem_of_getElem? (i := 412) (by decide +kernel), List.mem_of_getElem? (i := 413) (by decide +kernel)⟩
theorem lw_p29 : lw_okq (⟨"LiftedTileModel", "row", "(IIIZ)V"⟩, 14) := ⟨⟨by decide +kernel, by decide +kernel⟩, List.mem_of_getElem? (i := 270) (by decide +kernel), List.mem_of_getElem? (i := 416) (by decide +kernel), List.mem_of_getElem? (i := 417) (by decide +kernel)⟩
theorem lw_p30 : lw_okq (⟨"LiftedTileModel", "isLevel", "(I)Z"⟩, 14) := ⟨⟨by decide +kernel, by decide +kernel⟩, List.mem_of_getElem? (i := 270) (by decide +kernel), List.mem_of_getElem? (i := 432) (by decide +kernel), List.mem_of_getElem? (i := 433) (by decide +kernel)⟩
def lw_privs_2 : List (MethodName × Nat) := [(⟨"LiftedTileModel", "cell", "(III)I"⟩, 14), (⟨"LiftedTileModel", "columns", "(IIZ)V"⟩, 14), (⟨"LiftedTileModel", "column", "(IIIZ)V"⟩, 14), (⟨"LiftedTileModel", "work", "(Z)V"⟩, 14), (⟨"LiftedTileModel", "liftedBack", "(I)I"⟩, 14), (⟨"LiftedTileModel", "old", "(I)I"⟩, 14), (⟨"LiftedTileModel", "inside", "(I)I"⟩, 14), (⟨"LiftedTileModel", "low", "(I)I"⟩, 14), (⟨"LiftedTileModel", "updated", "(II)I"⟩, 14), (⟨"LiftedTileModel", "predicted", "(IIII)I"⟩, 14), (⟨"LiftedTileModel", "lifted", "(I)I"⟩, 14), (⟨"LiftedTileModel", "high", "(I)I"⟩, 14), (⟨"LiftedTileModel", "rows", "(IIZ)V"⟩, 14), (⟨"LiftedTileModel", "row", "(IIIZ)V"⟩, 14), (⟨"LiftedTileModel", "isLevel", "(I)Z"⟩, 14)]
theorem lw_r2 : ∀ q ∈ lw_privs_2, lw_okq q := List.forall_mem_cons.mpr ⟨lw_p16, List.forall_mem_cons.mpr ⟨lw_p17, List.forall_mem_cons.mpr ⟨lw_p18, List.forall_mem_cons.mpr ⟨lw_p19, List.forall_mem_cons.mpr ⟨lw_p20, List.forall_mem_cons.mpr ⟨lw_p21, List.forall_mem_cons.mpr ⟨lw_p22, List.forall_mem_cons.mpr ⟨lw_p23, List.forall_mem_cons.mpr ⟨lw_p24, List.forall_mem_cons.mpr ⟨lw_p25, List.forall_mem_cons.mpr ⟨lw_p26, List.forall_mem_cons.mpr ⟨lw_p27, List.forall_mem_cons.mpr ⟨lw_p28, List.forall_mem_cons.mpr ⟨lw_p29, List.forall_mem_cons.mpr ⟨lw_p30, fun _ h => absurd h List.not_mem_nil⟩⟩⟩⟩⟩⟩⟩⟩⟩⟩⟩⟩⟩⟩⟩
def lw_privs : List (MethodName × Nat) := lw_privs_1 ++ (lw_privs_2)
def lw_tbl : List Cond := k2_sels lw_privs ++ tables_1
theorem lw_privs_ok : ∀ q ∈ lw_privs, lw_okq q := by
  show ∀ q ∈ lw_privs_1 ++ (lw_privs_2), lw_okq q
  exact List.forall_mem_append.mpr ⟨lw_r1, lw_r2⟩
end
section
def x_tb : List Cond := lw_tbl.filter goodWord
def R_T : String := "LiftedTile"
def F_T : u_T := fun k => match k with
  | 0 => ("LiftedTile", "cells", "[I", true)
  | 1 => ("LiftedTile", "columns", "LLiftedTile$Span;", true)
  | 2 => ("LiftedTile", "rows", "LLiftedTile$Span;", true)
  | 3 => ("LiftedTile", "line", "LLiftedTile$Line;", true)
  | 4 => ("LiftedTile", "kernels", "[I", true)
  | 5 => ("LiftedTile", "levelCount", "I", false)
  | _ => ("LiftedTile", "areMixed", "Z", false)
def ft_T : Nat → FieldType := fun k => match k with
  | 0 => .array .int
  | 1 => .object "LiftedTile$Span"
  | 2 => .object "LiftedTile$Span"
  | 3 => .object "LiftedTile$Line"
  | 4 => .array .int
  | 5 => .int
  | _ => .boolean
theorem n_T : ∀ a, a < 7 → ∀ b, b < 7 → a ≠ b → (F_T a).2.1 ≠ (F_T b).2.1 := by decide +kernel
theorem ft_T_ok : ∀ k, k < 7 → parseFieldDescriptor (F_T k).2.2.1 = some (ft_T k) := by decide +kernel
theorem in_T : ∀ w ∈ u_ws R_T F_T 7, w ∈ x_tb := by decide +kernel
def R_S : String := "LiftedTile$Span"
def F_S : u_T := fun k => match k with
  | 0 => ("LiftedTile$Span", "stride", "I", true)
  | 1 => ("LiftedTile$Span", "begin", "I", false)
  | _ => ("LiftedTile$Span", "count", "I", false)
def ft_S : Nat → FieldType := fun k => match k with
  | 0 => .int
  | 1 => .int
  | _ => .int
theorem n_S : ∀ a, a < 3 → ∀ b, b < 3 → a ≠ b → (F_S a).2.1 ≠ (F_S b).2.1 := by decide +kernel
theorem ft_S_ok : ∀ k, k < 3 → parseFieldDescriptor (F_S k).2.2.1 = some (ft_S k) := by decide +kernel
theorem in_S : ∀ w ∈ u_ws R_S F_S 3, w ∈ x_tb := by decide +kernel
def R_L : String := "LiftedTile$Line"
def F_L : u_T := fun k => match k with
  | 0 => ("LiftedTile$Line", "values", "[I", true)
  | 1 => ("LiftedTile$Line", "a", "I", false)
  | _ => ("LiftedTile$Line", "b", "I", false)
def ft_L : Nat → FieldType := fun k => match k with
  | 0 => .array .int
  | 1 => .int
  | _ => .int
theorem n_L : ∀ a, a < 3 → ∀ b, b < 3 → a ≠ b → (F_L a).2.1 ≠ (F_L b).2.1 := by decide +kernel
theorem ft_L_ok : ∀ k, k < 3 → parseFieldDescriptor (F_L k).2.2.1 = some (ft_L k) := by decide +kernel
theorem in_L : ∀ w ∈ u_ws R_L F_L 3, w ∈ x_tb := by decide +kernel
def R_R : String := "LiftedTileModel"
def F_R : u_T := fun k => match k with
  | 0 => ("LiftedTileModel", "there", "Z", false)
  | 1 => ("LiftedTileModel", "left", "I", false)
  | 2 => ("LiftedTileModel", "top", "I", false)
  | 3 => ("LiftedTileModel", "width", "I", false)
  | 4 => ("LiftedTileModel", "height", "I", false)
  | 5 => ("LiftedTileModel", "mixed", "Z", false)
  | 6 => ("LiftedTileModel", "levels", "I", false)
  | 7 => ("LiftedTileModel", "kernels", "[I", false)
  | 8 => ("LiftedTileModel", "value", "[I", false)
  | 9 => ("LiftedTileModel", "a", "I", false)
  | 10 => ("LiftedTileModel", "b", "I", false)
  | 11 => ("LiftedTileModel", "rule", "I", false)
  | 12 => ("LiftedTileModel", "was", "[I", false)
  | _ => ("LiftedTileModel", "becomes", "[I", false)
def ft_R : Nat → FieldType := fun k => match k with
  | 0 => .boolean
  | 1 => .int
  | 2 => .int
  | 3 => .int
  | 4 => .int
  | 5 => .boolean
  | 6 => .int
  | 7 => .array .int
  | 8 => .array .int
  | 9 => .int
  | 10 => .int
  | 11 => .int
  | 12 => .array .int
  | _ => .array .int
theorem n_R : ∀ a, a < 14 → ∀ b, b < 14 → a ≠ b → (F_R a).2.1 ≠ (F_R b).2.1 := by decide +kernel
theorem ft_R_ok : ∀ k, k < 14 → parseFieldDescriptor (F_R k).2.2.1 = some (ft_R k) := by decide +kernel
theorem in_R : ∀ w ∈ u_ws R_R F_R 14, w ∈ x_tb := by decide +kernel
def R_W : String := "LiftedTileLaw"
abbrev x_Cl : List vw_C := [(R_T, F_T, 7), (R_S, F_S, 3), (R_L, F_L, 3), (R_R, F_R, 14)]
theorem x_g0 : GoodIn x_tb x_tb := fun w h => ⟨h, good_of_word (List.mem_filter.mp h).2⟩
def M_T_init : MethodName × ByteArray × Nat × Option FieldType := (⟨"LiftedTile", "<init>", "()V"⟩, prog_1_method_1_code, 1, none)
def M_T_open : MethodName × ByteArray × Nat × Option FieldType := (⟨"LiftedTile", "open", "(IIII)Z"⟩, prog_1_method_2_code, 5, some .boolean)
def M_T_put : MethodName × ByteArray × Nat × Option FieldType := (⟨"LiftedTile", "put", "(IIII)Z"⟩, prog_1_method_3_code, 6, some .boolean)
def M_T_at : MethodName × ByteArray × Nat × Option FieldType := (⟨"LiftedTile", "at", "(III)I"⟩, prog_1_method_4_code, 4, some .int)
def M_T_mix : MethodName × ByteArray × Nat × Option FieldType := (⟨"LiftedTile", "mix", "()Z"⟩, prog_1_method_5_code, 2, some .boolean)
def M_T_unmix : MethodName × ByteArray × Nat × Option FieldType := (⟨"LiftedTile", "unmix", "()Z"⟩, prog_1_method_6_code, 2, some .boolean)
def M_T_mixed : MethodName × ByteArray × Nat × Option FieldType := (⟨"LiftedTile", "mixed", "()Z"⟩, prog_1_method_7_code, 1, some .boolean)
def M_T_forward : MethodName × ByteArray × Nat × Option FieldType := (⟨"LiftedTile", "forward", "(I)Z"⟩, prog_1_method_8_code, 3, some .boolean)
def M_T_back : MethodName × ByteArray × Nat × Option FieldType := (⟨"LiftedTile", "back", "()Z"⟩, prog_1_method_9_code, 3, some .boolean)
def M_T_levels : MethodName × ByteArray × Nat × Option FieldType := (⟨"LiftedTile", "levels", "()I"⟩, prog_1_method_10_code, 1, some .int)
def M_T_kernel : MethodName × ByteArray × Nat × Option FieldType := (⟨"LiftedTile", "kernel", "(I)I"⟩, prog_1_method_11_code, 2, some .int)
def M_T_start : MethodName × ByteArray × Nat × Option FieldType := (⟨"LiftedTile", "start", "(IIZ)I"⟩, prog_1_method_12_code, 4, some .int)
def M_T_size : MethodName × ByteArray × Nat × Option FieldType := (⟨"LiftedTile", "size", "(IIZ)I"⟩, prog_1_method_13_code, 4, some .int)
def M_T_coefficient : MethodName × ByteArray × Nat × Option FieldType := (⟨"LiftedTile", "coefficient", "(IIIII)I"⟩, prog_1_method_14_code, 6, some .int)
def M_T_thin : MethodName × ByteArray × Nat × Option FieldType := (⟨"LiftedTile", "thin", "(III)I"⟩, prog_1_method_15_code, 7, some .int)
def M_T_weight : MethodName × ByteArray × Nat × Option FieldType := (⟨"LiftedTile", "weight", "(III)J"⟩, prog_1_method_16_code, 8, some .long)
def M_T_isCorner : MethodName × ByteArray × Nat × Option FieldType := (⟨"LiftedTile", "isCorner", "(I)Z"⟩, prog_1_method_17_code, 1, some .boolean)
def M_T_isSide : MethodName × ByteArray × Nat × Option FieldType := (⟨"LiftedTile", "isSide", "(I)Z"⟩, prog_1_method_18_code, 1, some .boolean)
def M_T_isPlane : MethodName × ByteArray × Nat × Option FieldType := (⟨"LiftedTile", "isPlane", "(I)Z"⟩, prog_1_method_19_code, 1, some .boolean)
def M_T_isLevel : MethodName × ByteArray × Nat × Option FieldType := (⟨"LiftedTile", "isLevel", "(I)Z"⟩, prog_1_method_20_code, 1, some .boolean)
def M_T_isSubband : MethodName × ByteArray × Nat × Option FieldType := (⟨"LiftedTile", "isSubband", "(I)Z"⟩, prog_1_method_21_code, 1, some .boolean)
def M_T_hasTile : MethodName × ByteArray × Nat × Option FieldType := (⟨"LiftedTile", "hasTile", "()Z"⟩, prog_1_method_22_code, 1, some .boolean)
def M_T_hasLevel : MethodName × ByteArray × Nat × Option FieldType := (⟨"LiftedTile", "hasLevel", "(I)Z"⟩, prog_1_method_23_code, 2, some .boolean)
def M_T_shiftRight : MethodName × ByteArray × Nat × Option FieldType := (⟨"LiftedTile", "shiftRight", "(II)I"⟩, prog_1_method_24_code, 2, some .int)
def M_T_shiftDown : MethodName × ByteArray × Nat × Option FieldType := (⟨"LiftedTile", "shiftDown", "(II)I"⟩, prog_1_method_25_code, 2, some .int)
def M_T_cellOfPlace : MethodName × ByteArray × Nat × Option FieldType := (⟨"LiftedTile", "cellOfPlace", "(IJJ)I"⟩, prog_1_method_26_code, 6, some .int)
def M_T_cellOfCoordinates : MethodName × ByteArray × Nat × Option FieldType := (⟨"LiftedTile", "cellOfCoordinates", "(IIIII)I"⟩, prog_1_method_27_code, 10, some .int)
def M_T_valueIn : MethodName × ByteArray × Nat × Option FieldType := (⟨"LiftedTile", "valueIn", "(I)I"⟩, prog_1_method_28_code, 2, some .int)
def M_T_isOfSubband : MethodName × ByteArray × Nat × Option FieldType := (⟨"LiftedTile", "isOfSubband", "(III)Z"⟩, prog_1_method_29_code, 7, some .boolean)
def M_T_mixCell : MethodName × ByteArray × Nat × Option FieldType := (⟨"LiftedTile", "mixCell", "(I)V"⟩, prog_1_method_30_code, 5, none)
def M_T_unmixCell : MethodName × ByteArray × Nat × Option FieldType := (⟨"LiftedTile", "unmixCell", "(I)V"⟩, prog_1_method_31_code, 6, none)
def M_T_liftLines : MethodName × ByteArray × Nat × Option FieldType := (⟨"LiftedTile", "liftLines", "(ILLiftedTile$Span;LLiftedTile$Span;IZ)V"⟩, prog_1_method_32_code, 13, none)
def M_T_thinned : MethodName × ByteArray × Nat × Option FieldType := (⟨"LiftedTile", "thinned", "(II)I"⟩, prog_1_method_33_code, 6, some .int)
def M_T_amountOf : MethodName × ByteArray × Nat × Option FieldType := (⟨"LiftedTile", "amountOf", "(I)J"⟩, prog_1_method_34_code, 1, some .long)
def M_S_init : MethodName × ByteArray × Nat × Option FieldType := (⟨"LiftedTile$Span", "<init>", "(I)V"⟩, prog_3_method_1_code, 2, none)
def M_S_cover : MethodName × ByteArray × Nat × Option FieldType := (⟨"LiftedTile$Span", "cover", "(II)V"⟩, prog_3_method_2_code, 3, none)
def M_S_holds : MethodName × ByteArray × Nat × Option FieldType := (⟨"LiftedTile$Span", "holds", "(J)Z"⟩, prog_3_method_3_code, 3, some .boolean)
def M_S_offsetOf : MethodName × ByteArray × Nat × Option FieldType := (⟨"LiftedTile$Span", "offsetOf", "(J)I"⟩, prog_3_method_4_code, 3, some .int)
def M_S_firstOf : MethodName × ByteArray × Nat × Option FieldType := (⟨"LiftedTile$Span", "firstOf", "(II)I"⟩, prog_3_method_5_code, 3, some .int)
def M_S_countOf : MethodName × ByteArray × Nat × Option FieldType := (⟨"LiftedTile$Span", "countOf", "(II)I"⟩, prog_3_method_6_code, 3, some .int)
def M_S_leastFrom : MethodName × ByteArray × Nat × Option FieldType := (⟨"LiftedTile$Span", "leastFrom", "(III)I"⟩, prog_3_method_7_code, 3, some .int)
def M_L_init : MethodName × ByteArray × Nat × Option FieldType := (⟨"LiftedTile$Line", "<init>", "()V"⟩, prog_2_method_1_code, 1, none)
def M_L_readFrom : MethodName × ByteArray × Nat × Option FieldType := (⟨"LiftedTile$Line", "readFrom", "([IIIII)V"⟩, prog_2_method_2_code, 7, none)
def M_L_writeTo : MethodName × ByteArray × Nat × Option FieldType := (⟨"LiftedTile$Line", "writeTo", "([III)V"⟩, prog_2_method_3_code, 5, none)
def M_L_liftForth : MethodName × ByteArray × Nat × Option FieldType := (⟨"LiftedTile$Line", "liftForth", "(I)V"⟩, prog_2_method_4_code, 3, none)
def M_L_liftBack : MethodName × ByteArray × Nat × Option FieldType := (⟨"LiftedTile$Line", "liftBack", "(I)V"⟩, prog_2_method_5_code, 3, none)
def M_L_prediction : MethodName × ByteArray × Nat × Option FieldType := (⟨"LiftedTile$Line", "prediction", "(II)I"⟩, prog_2_method_6_code, 3, some .int)
def M_L_update : MethodName × ByteArray × Nat × Option FieldType := (⟨"LiftedTile$Line", "update", "(II)I"⟩, prog_2_method_7_code, 3, some .int)
def M_L_neighbours : MethodName × ByteArray × Nat × Option FieldType := (⟨"LiftedTile$Line", "neighbours", "(II)I"⟩, prog_2_method_8_code, 3, some .int)
def M_L_value : MethodName × ByteArray × Nat × Option FieldType := (⟨"LiftedTile$Line", "value", "(I)I"⟩, prog_2_method_9_code, 4, some .int)
def M_L_firstOdd : MethodName × ByteArray × Nat × Option FieldType := (⟨"LiftedTile$Line", "firstOdd", "()I"⟩, prog_2_method_10_code, 1, some .int)
def M_L_firstEven : MethodName × ByteArray × Nat × Option FieldType := (⟨"LiftedTile$Line", "firstEven", "()I"⟩, prog_2_method_11_code, 1, some .int)
def M_L_isOdd : MethodName × ByteArray × Nat × Option FieldType := (⟨"LiftedTile$Line", "isOdd", "(I)Z"⟩, prog_2_method_12_code, 1, some .boolean)
def M_R_init : MethodName × ByteArray × Nat × Option FieldType := (⟨"LiftedTileModel", "<init>", "()V"⟩, prog_5_method_1_code, 1, none)
def M_R_isPlace : MethodName × ByteArray × Nat × Option FieldType := (⟨"LiftedTileModel", "isPlace", "(II)Z"⟩, prog_5_method_2_code, 3, some .boolean)
def M_R_isPlane : MethodName × ByteArray × Nat × Option FieldType := (⟨"LiftedTileModel", "isPlane", "(I)Z"⟩, prog_5_method_3_code, 1, some .boolean)
def M_R_cell : MethodName × ByteArray × Nat × Option FieldType := (⟨"LiftedTileModel", "cell", "(III)I"⟩, prog_5_method_4_code, 4, some .int)
def M_R_open : MethodName × ByteArray × Nat × Option FieldType := (⟨"LiftedTileModel", "open", "(IIII)Z"⟩, prog_5_method_5_code, 6, some .boolean)
def M_R_put : MethodName × ByteArray × Nat × Option FieldType := (⟨"LiftedTileModel", "put", "(IIII)Z"⟩, prog_5_method_6_code, 5, some .boolean)
def M_R_at : MethodName × ByteArray × Nat × Option FieldType := (⟨"LiftedTileModel", "at", "(III)I"⟩, prog_5_method_7_code, 4, some .int)
def M_R_mix : MethodName × ByteArray × Nat × Option FieldType := (⟨"LiftedTileModel", "mix", "()Z"⟩, prog_5_method_8_code, 5, some .boolean)
def M_R_unmix : MethodName × ByteArray × Nat × Option FieldType := (⟨"LiftedTileModel", "unmix", "()Z"⟩, prog_5_method_9_code, 6, some .boolean)
def M_R_mixed : MethodName × ByteArray × Nat × Option FieldType := (⟨"LiftedTileModel", "mixed", "()Z"⟩, prog_5_method_10_code, 1, some .boolean)
def M_R_inside : MethodName × ByteArray × Nat × Option FieldType := (⟨"LiftedTileModel", "inside", "(I)I"⟩, prog_5_method_11_code, 3, some .int)
def M_R_old : MethodName × ByteArray × Nat × Option FieldType := (⟨"LiftedTileModel", "old", "(I)I"⟩, prog_5_method_12_code, 2, some .int)
def M_R_odd : MethodName × ByteArray × Nat × Option FieldType := (⟨"LiftedTileModel", "odd", "(I)Z"⟩, prog_5_method_13_code, 1, some .boolean)
def M_R_predicted : MethodName × ByteArray × Nat × Option FieldType := (⟨"LiftedTileModel", "predicted", "(IIII)I"⟩, prog_5_method_14_code, 5, some .int)
def M_R_updated : MethodName × ByteArray × Nat × Option FieldType := (⟨"LiftedTileModel", "updated", "(II)I"⟩, prog_5_method_15_code, 3, some .int)
def M_R_high : MethodName × ByteArray × Nat × Option FieldType := (⟨"LiftedTileModel", "high", "(I)I"⟩, prog_5_method_16_code, 3, some .int)
def M_R_low : MethodName × ByteArray × Nat × Option FieldType := (⟨"LiftedTileModel", "low", "(I)I"⟩, prog_5_method_17_code, 3, some .int)
def M_R_lifted : MethodName × ByteArray × Nat × Option FieldType := (⟨"LiftedTileModel", "lifted", "(I)I"⟩, prog_5_method_18_code, 2, some .int)
def M_R_liftedBack : MethodName × ByteArray × Nat × Option FieldType := (⟨"LiftedTileModel", "liftedBack", "(I)I"⟩, prog_5_method_19_code, 2, some .int)
def M_R_work : MethodName × ByteArray × Nat × Option FieldType := (⟨"LiftedTileModel", "work", "(Z)V"⟩, prog_5_method_20_code, 3, none)
def M_R_from : MethodName × ByteArray × Nat × Option FieldType := (⟨"LiftedTileModel", "from", "(II)I"⟩, prog_5_method_21_code, 3, some .int)
def M_R_column : MethodName × ByteArray × Nat × Option FieldType := (⟨"LiftedTileModel", "column", "(IIIZ)V"⟩, prog_5_method_22_code, 6, none)
def M_R_row : MethodName × ByteArray × Nat × Option FieldType := (⟨"LiftedTileModel", "row", "(IIIZ)V"⟩, prog_5_method_23_code, 6, none)
def M_R_columns : MethodName × ByteArray × Nat × Option FieldType := (⟨"LiftedTileModel", "columns", "(IIZ)V"⟩, prog_5_method_24_code, 5, none)
def M_R_rows : MethodName × ByteArray × Nat × Option FieldType := (⟨"LiftedTileModel", "rows", "(IIZ)V"⟩, prog_5_method_25_code, 5, none)
def M_R_scale : MethodName × ByteArray × Nat × Option FieldType := (⟨"LiftedTileModel", "scale", "(I)I"⟩, prog_5_method_26_code, 1, some .int)
def M_R_forward : MethodName × ByteArray × Nat × Option FieldType := (⟨"LiftedTileModel", "forward", "(I)Z"⟩, prog_5_method_27_code, 4, some .boolean)
def M_R_back : MethodName × ByteArray × Nat × Option FieldType := (⟨"LiftedTileModel", "back", "()Z"⟩, prog_5_method_28_code, 3, some .boolean)
def M_R_levels : MethodName × ByteArray × Nat × Option FieldType := (⟨"LiftedTileModel", "levels", "()I"⟩, prog_5_method_29_code, 1, some .int)
def M_R_isLevel : MethodName × ByteArray × Nat × Option FieldType := (⟨"LiftedTileModel", "isLevel", "(I)Z"⟩, prog_5_method_30_code, 2, some .boolean)
def M_R_kernel : MethodName × ByteArray × Nat × Option FieldType := (⟨"LiftedTileModel", "kernel", "(I)I"⟩, prog_5_method_31_code, 2, some .int)
def M_R_isBand : MethodName × ByteArray × Nat × Option FieldType := (⟨"LiftedTileModel", "isBand", "(I)Z"⟩, prog_5_method_32_code, 1, some .boolean)
def M_R_shift : MethodName × ByteArray × Nat × Option FieldType := (⟨"LiftedTileModel", "shift", "(IIZ)I"⟩, prog_5_method_33_code, 4, some .int)
def M_R_least : MethodName × ByteArray × Nat × Option FieldType := (⟨"LiftedTileModel", "least", "(IIZI)I"⟩, prog_5_method_34_code, 6, some .int)
def M_R_start : MethodName × ByteArray × Nat × Option FieldType := (⟨"LiftedTileModel", "start", "(IIZ)I"⟩, prog_5_method_35_code, 4, some .int)
def M_R_size : MethodName × ByteArray × Nat × Option FieldType := (⟨"LiftedTileModel", "size", "(IIZ)I"⟩, prog_5_method_36_code, 7, some .int)
def M_R_belongs : MethodName × ByteArray × Nat × Option FieldType := (⟨"LiftedTileModel", "belongs", "(IIII)Z"⟩, prog_5_method_37_code, 5, some .boolean)
def M_R_coefficient : MethodName × ByteArray × Nat × Option FieldType := (⟨"LiftedTileModel", "coefficient", "(IIIII)I"⟩, prog_5_method_38_code, 11, some .int)
def M_R_amount : MethodName × ByteArray × Nat × Option FieldType := (⟨"LiftedTileModel", "amount", "(I)J"⟩, prog_5_method_39_code, 1, some .long)
def M_R_thinned : MethodName × ByteArray × Nat × Option FieldType := (⟨"LiftedTileModel", "thinned", "(II)I"⟩, prog_5_method_40_code, 6, some .int)
def M_R_thin : MethodName × ByteArray × Nat × Option FieldType := (⟨"LiftedTileModel", "thin", "(III)I"⟩, prog_5_method_41_code, 9, some .int)
def M_R_weight : MethodName × ByteArray × Nat × Option FieldType := (⟨"LiftedTileModel", "weight", "(III)J"⟩, prog_5_method_42_code, 8, some .long)
def M_J_fill : MethodName × ByteArray × Nat × Option FieldType := (⟨"java/util/Arrays", "fill", "([II)V"⟩, prog_7_method_103_code, 4, none)
end
section
theorem d_T_open_0 : decode M_T_open.2.1 0 = .ok (.iload_n 1, 1) := by decide +kernel
theorem d_T_open_1 : decode M_T_open.2.1 1 = .ok (.invokestatic 43, 3) := by decide +kernel
theorem d_T_open_4 : decode M_T_open.2.1 4 = .ok (.ifCond .eq (25), 3) := by decide +kernel
theorem d_T_open_7 : decode M_T_open.2.1 7 = .ok (.iload_n 2, 1) := by decide +kernel
theorem d_T_open_8 : decode M_T_open.2.1 8 = .ok (.invokestatic 43, 3) := by decide +kernel
theorem d_T_open_11 : decode M_T_open.2.1 11 = .ok (.ifCond .eq (18), 3) := by decide +kernel
theorem d_T_open_14 : decode M_T_open.2.1 14 = .ok (.iload_n 3, 1) := by decide +kernel
theorem d_T_open_15 : decode M_T_open.2.1 15 = .ok (.invokestatic 47, 3) := by decide +kernel
theorem d_T_open_18 : decode M_T_open.2.1 18 = .ok (.ifCond .eq (11), 3) := by decide +kernel
theorem d_T_open_21 : decode M_T_open.2.1 21 = .ok (.iload 4, 2) := by decide +kernel
theorem d_T_open_23 : decode M_T_open.2.1 23 = .ok (.invokestatic 47, 3) := by decide +kernel
theorem d_T_open_26 : decode M_T_open.2.1 26 = .ok (.ifCond .ne (5), 3) := by decide +kernel
theorem d_T_open_29 : decode M_T_open.2.1 29 = .ok (.iconst 0, 1) := by decide +kernel
theorem d_T_open_30 : decode M_T_open.2.1 30 = .ok (.ireturn, 1) := by decide +kernel
theorem d_T_open_31 : decode M_T_open.2.1 31 = .ok (.aload_n 0, 1) := by decide +kernel
theorem d_T_open_32 : decode M_T_open.2.1 32 = .ok (.getfield 18, 3) := by decide +kernel
theorem d_T_open_35 : decode M_T_open.2.1 35 = .ok (.iload_n 1, 1) := by decide +kernel
theorem d_T_open_36 : decode M_T_open.2.1 36 = .ok (.iload_n 3, 1) := by decide +kernel
theorem d_T_open_37 : decode M_T_open.2.1 37 = .ok (.invokevirtual 50, 3) := by decide +kernel
theorem d_T_open_40 : decode M_T_open.2.1 40 = .ok (.aload_n 0, 1) := by decide +kernel
theorem d_T_open_41 : decode M_T_open.2.1 41 = .ok (.getfield 22, 3) := by decide +kernel
theorem d_T_open_44 : decode M_T_open.2.1 44 = .ok (.iload_n 2, 1) := by decide +kernel
theorem d_T_open_45 : decode M_T_open.2.1 45 = .ok (.iload 4, 2) := by decide +kernel
theorem d_T_open_47 : decode M_T_open.2.1 47 = .ok (.invokevirtual 50, 3) := by decide +kernel
theorem d_T_open_50 : decode M_T_open.2.1 50 = .ok (.aload_n 0, 1) := by decide +kernel
theorem d_T_open_51 : decode M_T_open.2.1 51 = .ok (.getfield 9, 3) := by decide +kernel
theorem d_T_open_54 : decode M_T_open.2.1 54 = .ok (.iconst 0, 1) := by decide +kernel
theorem d_T_open_55 : decode M_T_open.2.1 55 = .ok (.invokestatic 54, 3) := by decide +kernel
theorem d_T_open_58 : decode M_T_open.2.1 58 = .ok (.aload_n 0, 1) := by decide +kernel
theorem d_T_open_59 : decode M_T_open.2.1 59 = .ok (.iconst 0, 1) := by decide +kernel
theorem d_T_open_60 : decode M_T_open.2.1 60 = .ok (.putfield 35, 3) := by decide +kernel
theorem d_T_open_63 : decode M_T_open.2.1 63 = .ok (.aload_n 0, 1) := by decide +kernel
theorem d_T_open_64 : decode M_T_open.2.1 64 = .ok (.iconst 0, 1) := by decide +kernel
theorem d_T_open_65 : decode M_T_open.2.1 65 = .ok (.putfield 39, 3) := by decide +kernel
theorem d_T_open_68 : decode M_T_open.2.1 68 = .ok (.iconst 1, 1) := by decide +kernel
theorem d_T_open_69 : decode M_T_open.2.1 69 = .ok (.ireturn, 1) := by decide +kernel
theorem d_T_put_0 : decode M_T_put.2.1 0 = .ok (.aload_n 0, 1) := by decide +kernel
theorem d_T_put_1 : decode M_T_put.2.1 1 = .ok (.iload_n 1, 1) := by decide +kernel
theorem d_T_put_2 : decode M_T_put.2.1 2 = .ok (.iload_n 2, 1) := by decide +kernel
theorem d_T_put_3 : decode M_T_put.2.1 3 = .ok (.i2l, 1) := by decide +kernel
theorem d_T_put_4 : decode M_T_put.2.1 4 = .ok (.iload_n 3, 1) := by decide +kernel
theorem d_T_put_5 : decode M_T_put.2.1 5 = .ok (.i2l, 1) := by decide +kernel
theorem d_T_put_6 : decode M_T_put.2.1 6 = .ok (.invokevirtual 60, 3) := by decide +kernel
theorem d_T_put_9 : decode M_T_put.2.1 9 = .ok (.istore 5, 2) := by decide +kernel
theorem d_T_put_11 : decode M_T_put.2.1 11 = .ok (.iload 5, 2) := by decide +kernel
theorem d_T_put_13 : decode M_T_put.2.1 13 = .ok (.iconst (-1), 1) := by decide +kernel
theorem d_T_put_14 : decode M_T_put.2.1 14 = .ok (.if_icmp .eq (19), 3) := by decide +kernel
theorem d_T_put_17 : decode M_T_put.2.1 17 = .ok (.iload 4, 2) := by decide +kernel
theorem d_T_put_19 : decode M_T_put.2.1 19 = .ok (.sipush (-32768), 3) := by decide +kernel
theorem d_T_put_22 : decode M_T_put.2.1 22 = .ok (.if_icmp .lt (11), 3) := by decide +kernel
theorem d_T_put_25 : decode M_T_put.2.1 25 = .ok (.iload 4, 2) := by decide +kernel
theorem d_T_put_27 : decode M_T_put.2.1 27 = .ok (.sipush (32767), 3) := by decide +kernel
theorem d_T_put_30 : decode M_T_put.2.1 30 = .ok (.if_icmp .le (5), 3) := by decide +kernel
theorem d_T_put_33 : decode M_T_put.2.1 33 = .ok (.iconst 0, 1) := by decide +kernel
theorem d_T_put_34 : decode M_T_put.2.1 34 = .ok (.ireturn, 1) := by decide +kernel
theorem d_T_put_35 : decode M_T_put.2.1 35 = .ok (.aload_n 0, 1) := by decide +kernel
theorem d_T_put_36 : decode M_T_put.2.1 36 = .ok (.getfield 35, 3) := by decide +kernel
theorem d_T_put_39 : decode M_T_put.2.1 39 = .ok (.ifCond .gt (10), 3) := by decide +kernel
theorem d_T_put_42 : decode M_T_put.2.1 42 = .ok (.aload_n 0, 1) := by decide +kernel
theorem d_T_put_43 : decode M_T_put.2.1 43 = .ok (.getfield 39, 3) := by decide +kernel
theorem d_T_put_46 : decode M_T_put.2.1 46 = .ok (.ifCond .eq (5), 3) := by decide +kernel
theorem d_T_put_49 : decode M_T_put.2.1 49 = .ok (.iconst 0, 1) := by decide +kernel
theorem d_T_put_50 : decode M_T_put.2.1 50 = .ok (.ireturn, 1) := by decide +kernel
theorem d_T_put_51 : decode M_T_put.2.1 51 = .ok (.aload_n 0, 1) := by decide +kernel
theorem d_T_put_52 : decode M_T_put.2.1 52 = .ok (.getfield 9, 3) := by decide +kernel
theorem d_T_put_55 : decode M_T_put.2.1 55 = .ok (.iload 5, 2) := by decide +kernel
theorem d_T_put_57 : decode M_T_put.2.1 57 = .ok (.iload 4, 2) := by decide +kernel
theorem d_T_put_59 : decode M_T_put.2.1 59 = .ok (.iastore, 1) := by decide +kernel
theorem d_T_put_60 : decode M_T_put.2.1 60 = .ok (.iconst 1, 1) := by decide +kernel
theorem d_T_put_61 : decode M_T_put.2.1 61 = .ok (.ireturn, 1) := by decide +kernel
theorem d_T_at_0 : decode M_T_at.2.1 0 = .ok (.aload_n 0, 1) := by decide +kernel
theorem d_T_at_1 : decode M_T_at.2.1 1 = .ok (.aload_n 0, 1) := by decide +kernel
theorem d_T_at_2 : decode M_T_at.2.1 2 = .ok (.iload_n 1, 1) := by decide +kernel
theorem d_T_at_3 : decode M_T_at.2.1 3 = .ok (.iload_n 2, 1) := by decide +kernel
theorem d_T_at_4 : decode M_T_at.2.1 4 = .ok (.i2l, 1) := by decide +kernel
theorem d_T_at_5 : decode M_T_at.2.1 5 = .ok (.iload_n 3, 1) := by decide +kernel
theorem d_T_at_6 : decode M_T_at.2.1 6 = .ok (.i2l, 1) := by decide +kernel
theorem d_T_at_7 : decode M_T_at.2.1 7 = .ok (.invokevirtual 60, 3) := by decide +kernel
theorem d_T_at_10 : decode M_T_at.2.1 10 = .ok (.invokevirtual 64, 3) := by decide +kernel
theorem d_T_at_13 : decode M_T_at.2.1 13 = .ok (.ireturn, 1) := by decide +kernel
theorem d_T_mix_0 : decode M_T_mix.2.1 0 = .ok (.aload_n 0, 1) := by decide +kernel
theorem d_T_mix_1 : decode M_T_mix.2.1 1 = .ok (.invokevirtual 68, 3) := by decide +kernel
theorem d_T_mix_4 : decode M_T_mix.2.1 4 = .ok (.ifCond .eq (17), 3) := by decide +kernel
theorem d_T_mix_7 : decode M_T_mix.2.1 7 = .ok (.aload_n 0, 1) := by decide +kernel
theorem d_T_mix_8 : decode M_T_mix.2.1 8 = .ok (.getfield 35, 3) := by decide +kernel
theorem d_T_mix_11 : decode M_T_mix.2.1 11 = .ok (.ifCond .gt (10), 3) := by decide +kernel
theorem d_T_mix_14 : decode M_T_mix.2.1 14 = .ok (.aload_n 0, 1) := by decide +kernel
theorem d_T_mix_15 : decode M_T_mix.2.1 15 = .ok (.getfield 39, 3) := by decide +kernel
theorem d_T_mix_18 : decode M_T_mix.2.1 18 = .ok (.ifCond .eq (5), 3) := by decide +kernel
theorem d_T_mix_21 : decode M_T_mix.2.1 21 = .ok (.iconst 0, 1) := by decide +kernel
theorem d_T_mix_22 : decode M_T_mix.2.1 22 = .ok (.ireturn, 1) := by decide +kernel
theorem d_T_mix_23 : decode M_T_mix.2.1 23 = .ok (.iconst 0, 1) := by decide +kernel
theorem d_T_mix_24 : decode M_T_mix.2.1 24 = .ok (.istore_n 1, 1) := by decide +kernel
theorem d_T_mix_25 : decode M_T_mix.2.1 25 = .ok (.iload_n 1, 1) := by decide +kernel
theorem d_T_mix_26 : decode M_T_mix.2.1 26 = .ok (.sipush (256), 3) := by decide +kernel
theorem d_T_mix_29 : decode M_T_mix.2.1 29 = .ok (.if_icmp .ge (14), 3) := by decide +kernel
theorem d_T_mix_32 : decode M_T_mix.2.1 32 = .ok (.aload_n 0, 1) := by decide +kernel
theorem d_T_mix_33 : decode M_T_mix.2.1 33 = .ok (.iload_n 1, 1) := by decide +kernel
theorem d_T_mix_34 : decode M_T_mix.2.1 34 = .ok (.invokevirtual 72, 3) := by decide +kernel
theorem d_T_mix_37 : decode M_T_mix.2.1 37 = .ok (.iinc 1 (1), 3) := by decide +kernel
theorem d_T_mix_40 : decode M_T_mix.2.1 40 = .ok (.goto (-15), 3) := by decide +kernel
theorem d_T_mix_43 : decode M_T_mix.2.1 43 = .ok (.aload_n 0, 1) := by decide +kernel
theorem d_T_mix_44 : decode M_T_mix.2.1 44 = .ok (.iconst 1, 1) := by decide +kernel
theorem d_T_mix_45 : decode M_T_mix.2.1 45 = .ok (.putfield 39, 3) := by decide +kernel
theorem d_T_mix_48 : decode M_T_mix.2.1 48 = .ok (.iconst 1, 1) := by decide +kernel
theorem d_T_mix_49 : decode M_T_mix.2.1 49 = .ok (.ireturn, 1) := by decide +kernel
theorem d_T_unmix_0 : decode M_T_unmix.2.1 0 = .ok (.aload_n 0, 1) := by decide +kernel
theorem d_T_unmix_1 : decode M_T_unmix.2.1 1 = .ok (.getfield 35, 3) := by decide +kernel
theorem d_T_unmix_4 : decode M_T_unmix.2.1 4 = .ok (.ifCond .gt (10), 3) := by decide +kernel
theorem d_T_unmix_7 : decode M_T_unmix.2.1 7 = .ok (.aload_n 0, 1) := by decide +kernel
theorem d_T_unmix_8 : decode M_T_unmix.2.1 8 = .ok (.getfield 39, 3) := by decide +kernel
theorem d_T_unmix_11 : decode M_T_unmix.2.1 11 = .ok (.ifCond .ne (5), 3) := by decide +kernel
theorem d_T_unmix_14 : decode M_T_unmix.2.1 14 = .ok (.iconst 0, 1) := by decide +kernel
theorem d_T_unmix_15 : decode M_T_unmix.2.1 15 = .ok (.ireturn, 1) := by decide +kernel
theorem d_T_unmix_16 : decode M_T_unmix.2.1 16 = .ok (.iconst 0, 1) := by decide +kernel
theorem d_T_unmix_17 : decode M_T_unmix.2.1 17 = .ok (.istore_n 1, 1) := by decide +kernel
theorem d_T_unmix_18 : decode M_T_unmix.2.1 18 = .ok (.iload_n 1, 1) := by decide +kernel
theorem d_T_unmix_19 : decode M_T_unmix.2.1 19 = .ok (.sipush (256), 3) := by decide +kernel
theorem d_T_unmix_22 : decode M_T_unmix.2.1 22 = .ok (.if_icmp .ge (14), 3) := by decide +kernel
theorem d_T_unmix_25 : decode M_T_unmix.2.1 25 = .ok (.aload_n 0, 1) := by decide +kernel
theorem d_T_unmix_26 : decode M_T_unmix.2.1 26 = .ok (.iload_n 1, 1) := by decide +kernel
theorem d_T_unmix_27 : decode M_T_unmix.2.1 27 = .ok (.invokevirtual 75, 3) := by decide +kernel
theorem d_T_unmix_30 : decode M_T_unmix.2.1 30 = .ok (.iinc 1 (1), 3) := by decide +kernel
theorem d_T_unmix_33 : decode M_T_unmix.2.1 33 = .ok (.goto (-15), 3) := by decide +kernel
theorem d_T_unmix_36 : decode M_T_unmix.2.1 36 = .ok (.aload_n 0, 1) := by decide +kernel
theorem d_T_unmix_37 : decode M_T_unmix.2.1 37 = .ok (.iconst 0, 1) := by decide +kernel
theorem d_T_unmix_38 : decode M_T_unmix.2.1 38 = .ok (.putfield 39, 3) := by decide +kernel
theorem d_T_unmix_41 : decode M_T_unmix.2.1 41 = .ok (.iconst 1, 1) := by decide +kernel
theorem d_T_unmix_42 : decode M_T_unmix.2.1 42 = .ok (.ireturn, 1) := by decide +kernel
theorem d_T_mixed_0 : decode M_T_mixed.2.1 0 = .ok (.aload_n 0, 1) := by decide +kernel
theorem d_T_mixed_1 : decode M_T_mixed.2.1 1 = .ok (.getfield 39, 3) := by decide +kernel
theorem d_T_mixed_4 : decode M_T_mixed.2.1 4 = .ok (.ireturn, 1) := by decide +kernel
theorem d_T_forward_0 : decode M_T_forward.2.1 0 = .ok (.aload_n 0, 1) := by decide +kernel
theorem d_T_forward_1 : decode M_T_forward.2.1 1 = .ok (.invokevirtual 68, 3) := by decide +kernel
theorem d_T_forward_4 : decode M_T_forward.2.1 4 = .ok (.ifCond .eq (20), 3) := by decide +kernel
theorem d_T_forward_7 : decode M_T_forward.2.1 7 = .ok (.iload_n 1, 1) := by decide +kernel
theorem d_T_forward_8 : decode M_T_forward.2.1 8 = .ok (.ifCond .lt (16), 3) := by decide +kernel
theorem d_T_forward_11 : decode M_T_forward.2.1 11 = .ok (.iload_n 1, 1) := by decide +kernel
theorem d_T_forward_12 : decode M_T_forward.2.1 12 = .ok (.iconst 3, 1) := by decide +kernel
theorem d_T_forward_13 : decode M_T_forward.2.1 13 = .ok (.if_icmp .ge (11), 3) := by decide +kernel
theorem d_T_forward_16 : decode M_T_forward.2.1 16 = .ok (.aload_n 0, 1) := by decide +kernel
theorem d_T_forward_17 : decode M_T_forward.2.1 17 = .ok (.getfield 35, 3) := by decide +kernel
theorem d_T_forward_20 : decode M_T_forward.2.1 20 = .ok (.iconst 4, 1) := by decide +kernel
theorem d_T_forward_21 : decode M_T_forward.2.1 21 = .ok (.if_icmp .lt (5), 3) := by decide +kernel
theorem d_T_forward_24 : decode M_T_forward.2.1 24 = .ok (.iconst 0, 1) := by decide +kernel
theorem d_T_forward_25 : decode M_T_forward.2.1 25 = .ok (.ireturn, 1) := by decide +kernel
theorem d_T_forward_26 : decode M_T_forward.2.1 26 = .ok (.iconst 0, 1) := by decide +kernel
theorem d_T_forward_27 : decode M_T_forward.2.1 27 = .ok (.istore_n 2, 1) := by decide +kernel
theorem d_T_forward_28 : decode M_T_forward.2.1 28 = .ok (.iload_n 2, 1) := by decide +kernel
theorem d_T_forward_29 : decode M_T_forward.2.1 29 = .ok (.iconst 3, 1) := by decide +kernel
theorem d_T_forward_30 : decode M_T_forward.2.1 30 = .ok (.if_icmp .ge (39), 3) := by decide +kernel
theorem d_T_forward_33 : decode M_T_forward.2.1 33 = .ok (.aload_n 0, 1) := by decide +kernel
theorem d_T_forward_34 : decode M_T_forward.2.1 34 = .ok (.iload_n 2, 1) := by decide +kernel
theorem d_T_forward_35 : decode M_T_forward.2.1 35 = .ok (.aload_n 0, 1) := by decide +kernel
theorem d_T_forward_36 : decode M_T_forward.2.1 36 = .ok (.getfield 22, 3) := by decide +kernel
theorem d_T_forward_39 : decode M_T_forward.2.1 39 = .ok (.aload_n 0, 1) := by decide +kernel
theorem d_T_forward_40 : decode M_T_forward.2.1 40 = .ok (.getfield 18, 3) := by decide +kernel
theorem d_T_forward_43 : decode M_T_forward.2.1 43 = .ok (.iload_n 1, 1) := by decide +kernel
theorem d_T_forward_44 : decode M_T_forward.2.1 44 = .ok (.iconst 1, 1) := by decide +kernel
theorem d_T_forward_45 : decode M_T_forward.2.1 45 = .ok (.invokevirtual 78, 3) := by decide +kernel
theorem d_T_forward_48 : decode M_T_forward.2.1 48 = .ok (.aload_n 0, 1) := by decide +kernel
theorem d_T_forward_49 : decode M_T_forward.2.1 49 = .ok (.iload_n 2, 1) := by decide +kernel
theorem d_T_forward_50 : decode M_T_forward.2.1 50 = .ok (.aload_n 0, 1) := by decide +kernel
theorem d_T_forward_51 : decode M_T_forward.2.1 51 = .ok (.getfield 18, 3) := by decide +kernel
theorem d_T_forward_54 : decode M_T_forward.2.1 54 = .ok (.aload_n 0, 1) := by decide +kernel
theorem d_T_forward_55 : decode M_T_forward.2.1 55 = .ok (.getfield 22, 3) := by decide +kernel
theorem d_T_forward_58 : decode M_T_forward.2.1 58 = .ok (.iload_n 1, 1) := by decide +kernel
theorem d_T_forward_59 : decode M_T_forward.2.1 59 = .ok (.iconst 1, 1) := by decide +kernel
theorem d_T_forward_60 : decode M_T_forward.2.1 60 = .ok (.invokevirtual 78, 3) := by decide +kernel
theorem d_T_forward_63 : decode M_T_forward.2.1 63 = .ok (.iinc 2 (1), 3) := by decide +kernel
theorem d_T_forward_66 : decode M_T_forward.2.1 66 = .ok (.goto (-38), 3) := by decide +kernel
theorem d_T_forward_69 : decode M_T_forward.2.1 69 = .ok (.aload_n 0, 1) := by decide +kernel
theorem d_T_forward_70 : decode M_T_forward.2.1 70 = .ok (.getfield 32, 3) := by decide +kernel
theorem d_T_forward_73 : decode M_T_forward.2.1 73 = .ok (.aload_n 0, 1) := by decide +kernel
theorem d_T_forward_74 : decode M_T_forward.2.1 74 = .ok (.getfield 35, 3) := by decide +kernel
theorem d_T_forward_77 : decode M_T_forward.2.1 77 = .ok (.iload_n 1, 1) := by decide +kernel
theorem d_T_forward_78 : decode M_T_forward.2.1 78 = .ok (.iastore, 1) := by decide +kernel
theorem d_T_forward_79 : decode M_T_forward.2.1 79 = .ok (.aload_n 0, 1) := by decide +kernel
theorem d_T_forward_80 : decode M_T_forward.2.1 80 = .ok (.dup, 1) := by decide +kernel
theorem d_T_forward_81 : decode M_T_forward.2.1 81 = .ok (.getfield 35, 3) := by decide +kernel
theorem d_T_forward_84 : decode M_T_forward.2.1 84 = .ok (.iconst 1, 1) := by decide +kernel
theorem d_T_forward_85 : decode M_T_forward.2.1 85 = .ok (.iadd, 1) := by decide +kernel
theorem d_T_forward_86 : decode M_T_forward.2.1 86 = .ok (.putfield 35, 3) := by decide +kernel
theorem d_T_forward_89 : decode M_T_forward.2.1 89 = .ok (.iconst 1, 1) := by decide +kernel
theorem d_T_forward_90 : decode M_T_forward.2.1 90 = .ok (.ireturn, 1) := by decide +kernel
theorem d_T_back_0 : decode M_T_back.2.1 0 = .ok (.aload_n 0, 1) := by decide +kernel
theorem d_T_back_1 : decode M_T_back.2.1 1 = .ok (.getfield 35, 3) := by decide +kernel
theorem d_T_back_4 : decode M_T_back.2.1 4 = .ok (.ifCond .ne (5), 3) := by decide +kernel
theorem d_T_back_7 : decode M_T_back.2.1 7 = .ok (.iconst 0, 1) := by decide +kernel
theorem d_T_back_8 : decode M_T_back.2.1 8 = .ok (.ireturn, 1) := by decide +kernel
theorem d_T_back_9 : decode M_T_back.2.1 9 = .ok (.aload_n 0, 1) := by decide +kernel
theorem d_T_back_10 : decode M_T_back.2.1 10 = .ok (.dup, 1) := by decide +kernel
theorem d_T_back_11 : decode M_T_back.2.1 11 = .ok (.getfield 35, 3) := by decide +kernel
theorem d_T_back_14 : decode M_T_back.2.1 14 = .ok (.iconst 1, 1) := by decide +kernel
theorem d_T_back_15 : decode M_T_back.2.1 15 = .ok (.isub, 1) := by decide +kernel
theorem d_T_back_16 : decode M_T_back.2.1 16 = .ok (.putfield 35, 3) := by decide +kernel
theorem d_T_back_19 : decode M_T_back.2.1 19 = .ok (.aload_n 0, 1) := by decide +kernel
theorem d_T_back_20 : decode M_T_back.2.1 20 = .ok (.getfield 32, 3) := by decide +kernel
theorem d_T_back_23 : decode M_T_back.2.1 23 = .ok (.aload_n 0, 1) := by decide +kernel
theorem d_T_back_24 : decode M_T_back.2.1 24 = .ok (.getfield 35, 3) := by decide +kernel
theorem d_T_back_27 : decode M_T_back.2.1 27 = .ok (.iaload, 1) := by decide +kernel
theorem d_T_back_28 : decode M_T_back.2.1 28 = .ok (.istore_n 1, 1) := by decide +kernel
theorem d_T_back_29 : decode M_T_back.2.1 29 = .ok (.iconst 0, 1) := by decide +kernel
theorem d_T_back_30 : decode M_T_back.2.1 30 = .ok (.istore_n 2, 1) := by decide +kernel
theorem d_T_back_31 : decode M_T_back.2.1 31 = .ok (.iload_n 2, 1) := by decide +kernel
theorem d_T_back_32 : decode M_T_back.2.1 32 = .ok (.iconst 3, 1) := by decide +kernel
theorem d_T_back_33 : decode M_T_back.2.1 33 = .ok (.if_icmp .ge (39), 3) := by decide +kernel
theorem d_T_back_36 : decode M_T_back.2.1 36 = .ok (.aload_n 0, 1) := by decide +kernel
theorem d_T_back_37 : decode M_T_back.2.1 37 = .ok (.iload_n 2, 1) := by decide +kernel
theorem d_T_back_38 : decode M_T_back.2.1 38 = .ok (.aload_n 0, 1) := by decide +kernel
theorem d_T_back_39 : decode M_T_back.2.1 39 = .ok (.getfield 18, 3) := by decide +kernel
theorem d_T_back_42 : decode M_T_back.2.1 42 = .ok (.aload_n 0, 1) := by decide +kernel
theorem d_T_back_43 : decode M_T_back.2.1 43 = .ok (.getfield 22, 3) := by decide +kernel
theorem d_T_back_46 : decode M_T_back.2.1 46 = .ok (.iload_n 1, 1) := by decide +kernel
theorem d_T_back_47 : decode M_T_back.2.1 47 = .ok (.iconst 0, 1) := by decide +kernel
theorem d_T_back_48 : decode M_T_back.2.1 48 = .ok (.invokevirtual 78, 3) := by decide +kernel
theorem d_T_back_51 : decode M_T_back.2.1 51 = .ok (.aload_n 0, 1) := by decide +kernel
theorem d_T_back_52 : decode M_T_back.2.1 52 = .ok (.iload_n 2, 1) := by decide +kernel
theorem d_T_back_53 : decode M_T_back.2.1 53 = .ok (.aload_n 0, 1) := by decide +kernel
theorem d_T_back_54 : decode M_T_back.2.1 54 = .ok (.getfield 22, 3) := by decide +kernel
theorem d_T_back_57 : decode M_T_back.2.1 57 = .ok (.aload_n 0, 1) := by decide +kernel
theorem d_T_back_58 : decode M_T_back.2.1 58 = .ok (.getfield 18, 3) := by decide +kernel
theorem d_T_back_61 : decode M_T_back.2.1 61 = .ok (.iload_n 1, 1) := by decide +kernel
theorem d_T_back_62 : decode M_T_back.2.1 62 = .ok (.iconst 0, 1) := by decide +kernel
theorem d_T_back_63 : decode M_T_back.2.1 63 = .ok (.invokevirtual 78, 3) := by decide +kernel
theorem d_T_back_66 : decode M_T_back.2.1 66 = .ok (.iinc 2 (1), 3) := by decide +kernel
theorem d_T_back_69 : decode M_T_back.2.1 69 = .ok (.goto (-38), 3) := by decide +kernel
theorem d_T_back_72 : decode M_T_back.2.1 72 = .ok (.iconst 1, 1) := by decide +kernel
theorem d_T_back_73 : decode M_T_back.2.1 73 = .ok (.ireturn, 1) := by decide +kernel
theorem d_T_levels_0 : decode M_T_levels.2.1 0 = .ok (.aload_n 0, 1) := by decide +kernel
theorem d_T_levels_1 : decode M_T_levels.2.1 1 = .ok (.getfield 35, 3) := by decide +kernel
theorem d_T_levels_4 : decode M_T_levels.2.1 4 = .ok (.ireturn, 1) := by decide +kernel
theorem d_T_kernel_0 : decode M_T_kernel.2.1 0 = .ok (.aload_n 0, 1) := by decide +kernel
theorem d_T_kernel_1 : decode M_T_kernel.2.1 1 = .ok (.iload_n 1, 1) := by decide +kernel
theorem d_T_kernel_2 : decode M_T_kernel.2.1 2 = .ok (.invokevirtual 82, 3) := by decide +kernel
theorem d_T_kernel_5 : decode M_T_kernel.2.1 5 = .ok (.ifCond .eq (14), 3) := by decide +kernel
theorem d_T_kernel_8 : decode M_T_kernel.2.1 8 = .ok (.aload_n 0, 1) := by decide +kernel
theorem d_T_kernel_9 : decode M_T_kernel.2.1 9 = .ok (.getfield 32, 3) := by decide +kernel
theorem d_T_kernel_12 : decode M_T_kernel.2.1 12 = .ok (.iload_n 1, 1) := by decide +kernel
theorem d_T_kernel_13 : decode M_T_kernel.2.1 13 = .ok (.iconst 1, 1) := by decide +kernel
theorem d_T_kernel_14 : decode M_T_kernel.2.1 14 = .ok (.isub, 1) := by decide +kernel
theorem d_T_kernel_15 : decode M_T_kernel.2.1 15 = .ok (.iaload, 1) := by decide +kernel
theorem d_T_kernel_16 : decode M_T_kernel.2.1 16 = .ok (.goto (4), 3) := by decide +kernel
theorem d_T_kernel_19 : decode M_T_kernel.2.1 19 = .ok (.iconst (-1), 1) := by decide +kernel
theorem d_T_kernel_20 : decode M_T_kernel.2.1 20 = .ok (.ireturn, 1) := by decide +kernel
theorem d_T_start_0 : decode M_T_start.2.1 0 = .ok (.aload_n 0, 1) := by decide +kernel
theorem d_T_start_1 : decode M_T_start.2.1 1 = .ok (.invokevirtual 68, 3) := by decide +kernel
theorem d_T_start_4 : decode M_T_start.2.1 4 = .ok (.ifCond .eq (17), 3) := by decide +kernel
theorem d_T_start_7 : decode M_T_start.2.1 7 = .ok (.iload_n 1, 1) := by decide +kernel
theorem d_T_start_8 : decode M_T_start.2.1 8 = .ok (.invokestatic 85, 3) := by decide +kernel
theorem d_T_start_11 : decode M_T_start.2.1 11 = .ok (.ifCond .eq (10), 3) := by decide +kernel
theorem d_T_start_14 : decode M_T_start.2.1 14 = .ok (.iload_n 2, 1) := by decide +kernel
theorem d_T_start_15 : decode M_T_start.2.1 15 = .ok (.invokestatic 88, 3) := by decide +kernel
theorem d_T_start_18 : decode M_T_start.2.1 18 = .ok (.ifCond .ne (5), 3) := by decide +kernel
theorem d_T_start_21 : decode M_T_start.2.1 21 = .ok (.iconst (-1), 1) := by decide +kernel
theorem d_T_start_22 : decode M_T_start.2.1 22 = .ok (.ireturn, 1) := by decide +kernel
theorem d_T_start_23 : decode M_T_start.2.1 23 = .ok (.iload_n 3, 1) := by decide +kernel
theorem d_T_start_24 : decode M_T_start.2.1 24 = .ok (.ifCond .eq (19), 3) := by decide +kernel
theorem d_T_start_27 : decode M_T_start.2.1 27 = .ok (.aload_n 0, 1) := by decide +kernel
theorem d_T_start_28 : decode M_T_start.2.1 28 = .ok (.getfield 22, 3) := by decide +kernel
theorem d_T_start_31 : decode M_T_start.2.1 31 = .ok (.iload_n 1, 1) := by decide +kernel
theorem d_T_start_32 : decode M_T_start.2.1 32 = .ok (.iload_n 1, 1) := by decide +kernel
theorem d_T_start_33 : decode M_T_start.2.1 33 = .ok (.iload_n 2, 1) := by decide +kernel
theorem d_T_start_34 : decode M_T_start.2.1 34 = .ok (.invokestatic 91, 3) := by decide +kernel
theorem d_T_start_37 : decode M_T_start.2.1 37 = .ok (.invokevirtual 95, 3) := by decide +kernel
theorem d_T_start_40 : decode M_T_start.2.1 40 = .ok (.goto (16), 3) := by decide +kernel
theorem d_T_start_43 : decode M_T_start.2.1 43 = .ok (.aload_n 0, 1) := by decide +kernel
theorem d_T_start_44 : decode M_T_start.2.1 44 = .ok (.getfield 18, 3) := by decide +kernel
theorem d_T_start_47 : decode M_T_start.2.1 47 = .ok (.iload_n 1, 1) := by decide +kernel
theorem d_T_start_48 : decode M_T_start.2.1 48 = .ok (.iload_n 1, 1) := by decide +kernel
theorem d_T_start_49 : decode M_T_start.2.1 49 = .ok (.iload_n 2, 1) := by decide +kernel
theorem d_T_start_50 : decode M_T_start.2.1 50 = .ok (.invokestatic 98, 3) := by decide +kernel
theorem d_T_start_53 : decode M_T_start.2.1 53 = .ok (.invokevirtual 95, 3) := by decide +kernel
theorem d_T_start_56 : decode M_T_start.2.1 56 = .ok (.ireturn, 1) := by decide +kernel
theorem d_T_size_0 : decode M_T_size.2.1 0 = .ok (.aload_n 0, 1) := by decide +kernel
theorem d_T_size_1 : decode M_T_size.2.1 1 = .ok (.invokevirtual 68, 3) := by decide +kernel
theorem d_T_size_4 : decode M_T_size.2.1 4 = .ok (.ifCond .eq (17), 3) := by decide +kernel
theorem d_T_size_7 : decode M_T_size.2.1 7 = .ok (.iload_n 1, 1) := by decide +kernel
theorem d_T_size_8 : decode M_T_size.2.1 8 = .ok (.invokestatic 85, 3) := by decide +kernel
theorem d_T_size_11 : decode M_T_size.2.1 11 = .ok (.ifCond .eq (10), 3) := by decide +kernel
theorem d_T_size_14 : decode M_T_size.2.1 14 = .ok (.iload_n 2, 1) := by decide +kernel
theorem d_T_size_15 : decode M_T_size.2.1 15 = .ok (.invokestatic 88, 3) := by decide +kernel
theorem d_T_size_18 : decode M_T_size.2.1 18 = .ok (.ifCond .ne (5), 3) := by decide +kernel
theorem d_T_size_21 : decode M_T_size.2.1 21 = .ok (.iconst (-1), 1) := by decide +kernel
theorem d_T_size_22 : decode M_T_size.2.1 22 = .ok (.ireturn, 1) := by decide +kernel
theorem d_T_size_23 : decode M_T_size.2.1 23 = .ok (.iload_n 3, 1) := by decide +kernel
theorem d_T_size_24 : decode M_T_size.2.1 24 = .ok (.ifCond .eq (19), 3) := by decide +kernel
theorem d_T_size_27 : decode M_T_size.2.1 27 = .ok (.aload_n 0, 1) := by decide +kernel
theorem d_T_size_28 : decode M_T_size.2.1 28 = .ok (.getfield 22, 3) := by decide +kernel
theorem d_T_size_31 : decode M_T_size.2.1 31 = .ok (.iload_n 1, 1) := by decide +kernel
theorem d_T_size_32 : decode M_T_size.2.1 32 = .ok (.iload_n 1, 1) := by decide +kernel
theorem d_T_size_33 : decode M_T_size.2.1 33 = .ok (.iload_n 2, 1) := by decide +kernel
theorem d_T_size_34 : decode M_T_size.2.1 34 = .ok (.invokestatic 91, 3) := by decide +kernel
theorem d_T_size_37 : decode M_T_size.2.1 37 = .ok (.invokevirtual 101, 3) := by decide +kernel
theorem d_T_size_40 : decode M_T_size.2.1 40 = .ok (.goto (16), 3) := by decide +kernel
theorem d_T_size_43 : decode M_T_size.2.1 43 = .ok (.aload_n 0, 1) := by decide +kernel
theorem d_T_size_44 : decode M_T_size.2.1 44 = .ok (.getfield 18, 3) := by decide +kernel
theorem d_T_size_47 : decode M_T_size.2.1 47 = .ok (.iload_n 1, 1) := by decide +kernel
theorem d_T_size_48 : decode M_T_size.2.1 48 = .ok (.iload_n 1, 1) := by decide +kernel
theorem d_T_size_49 : decode M_T_size.2.1 49 = .ok (.iload_n 2, 1) := by decide +kernel
theorem d_T_size_50 : decode M_T_size.2.1 50 = .ok (.invokestatic 98, 3) := by decide +kernel
theorem d_T_size_53 : decode M_T_size.2.1 53 = .ok (.invokevirtual 101, 3) := by decide +kernel
theorem d_T_size_56 : decode M_T_size.2.1 56 = .ok (.ireturn, 1) := by decide +kernel
theorem d_T_coefficient_0 : decode M_T_coefficient.2.1 0 = .ok (.aload_n 0, 1) := by decide +kernel
theorem d_T_coefficient_1 : decode M_T_coefficient.2.1 1 = .ok (.iload_n 2, 1) := by decide +kernel
theorem d_T_coefficient_2 : decode M_T_coefficient.2.1 2 = .ok (.invokevirtual 82, 3) := by decide +kernel
theorem d_T_coefficient_5 : decode M_T_coefficient.2.1 5 = .ok (.ifCond .eq (10), 3) := by decide +kernel
theorem d_T_coefficient_8 : decode M_T_coefficient.2.1 8 = .ok (.iload_n 3, 1) := by decide +kernel
theorem d_T_coefficient_9 : decode M_T_coefficient.2.1 9 = .ok (.invokestatic 88, 3) := by decide +kernel
theorem d_T_coefficient_12 : decode M_T_coefficient.2.1 12 = .ok (.ifCond .ne (5), 3) := by decide +kernel
theorem d_T_coefficient_15 : decode M_T_coefficient.2.1 15 = .ok (.iconst 0, 1) := by decide +kernel
theorem d_T_coefficient_16 : decode M_T_coefficient.2.1 16 = .ok (.ireturn, 1) := by decide +kernel
theorem d_T_coefficient_17 : decode M_T_coefficient.2.1 17 = .ok (.aload_n 0, 1) := by decide +kernel
theorem d_T_coefficient_18 : decode M_T_coefficient.2.1 18 = .ok (.aload_n 0, 1) := by decide +kernel
theorem d_T_coefficient_19 : decode M_T_coefficient.2.1 19 = .ok (.iload_n 1, 1) := by decide +kernel
theorem d_T_coefficient_20 : decode M_T_coefficient.2.1 20 = .ok (.iload_n 2, 1) := by decide +kernel
theorem d_T_coefficient_21 : decode M_T_coefficient.2.1 21 = .ok (.iload_n 3, 1) := by decide +kernel
theorem d_T_coefficient_22 : decode M_T_coefficient.2.1 22 = .ok (.iload 4, 2) := by decide +kernel
theorem d_T_coefficient_24 : decode M_T_coefficient.2.1 24 = .ok (.iload 5, 2) := by decide +kernel
theorem d_T_coefficient_26 : decode M_T_coefficient.2.1 26 = .ok (.invokevirtual 104, 3) := by decide +kernel
theorem d_T_coefficient_29 : decode M_T_coefficient.2.1 29 = .ok (.invokevirtual 64, 3) := by decide +kernel
theorem d_T_coefficient_32 : decode M_T_coefficient.2.1 32 = .ok (.ireturn, 1) := by decide +kernel
theorem d_T_thin_0 : decode M_T_thin.2.1 0 = .ok (.aload_n 0, 1) := by decide +kernel
theorem d_T_thin_1 : decode M_T_thin.2.1 1 = .ok (.iload_n 1, 1) := by decide +kernel
theorem d_T_thin_2 : decode M_T_thin.2.1 2 = .ok (.invokevirtual 82, 3) := by decide +kernel
theorem d_T_thin_5 : decode M_T_thin.2.1 5 = .ok (.ifCond .eq (22), 3) := by decide +kernel
theorem d_T_thin_8 : decode M_T_thin.2.1 8 = .ok (.iload_n 2, 1) := by decide +kernel
theorem d_T_thin_9 : decode M_T_thin.2.1 9 = .ok (.invokestatic 88, 3) := by decide +kernel
theorem d_T_thin_12 : decode M_T_thin.2.1 12 = .ok (.ifCond .eq (15), 3) := by decide +kernel
theorem d_T_thin_15 : decode M_T_thin.2.1 15 = .ok (.iload_n 3, 1) := by decide +kernel
theorem d_T_thin_16 : decode M_T_thin.2.1 16 = .ok (.iconst 1, 1) := by decide +kernel
theorem d_T_thin_17 : decode M_T_thin.2.1 17 = .ok (.if_icmp .lt (10), 3) := by decide +kernel
theorem d_T_thin_20 : decode M_T_thin.2.1 20 = .ok (.iload_n 3, 1) := by decide +kernel
theorem d_T_thin_21 : decode M_T_thin.2.1 21 = .ok (.sipush (32767), 3) := by decide +kernel
theorem d_T_thin_24 : decode M_T_thin.2.1 24 = .ok (.if_icmp .le (5), 3) := by decide +kernel
theorem d_T_thin_27 : decode M_T_thin.2.1 27 = .ok (.iconst (-1), 1) := by decide +kernel
theorem d_T_thin_28 : decode M_T_thin.2.1 28 = .ok (.ireturn, 1) := by decide +kernel
theorem d_T_thin_29 : decode M_T_thin.2.1 29 = .ok (.iload_n 2, 1) := by decide +kernel
theorem d_T_thin_30 : decode M_T_thin.2.1 30 = .ok (.ifCond .ne (13), 3) := by decide +kernel
theorem d_T_thin_33 : decode M_T_thin.2.1 33 = .ok (.iload_n 1, 1) := by decide +kernel
theorem d_T_thin_34 : decode M_T_thin.2.1 34 = .ok (.aload_n 0, 1) := by decide +kernel
theorem d_T_thin_35 : decode M_T_thin.2.1 35 = .ok (.getfield 35, 3) := by decide +kernel
theorem d_T_thin_38 : decode M_T_thin.2.1 38 = .ok (.if_icmp .eq (5), 3) := by decide +kernel
theorem d_T_thin_41 : decode M_T_thin.2.1 41 = .ok (.iconst (-1), 1) := by decide +kernel
theorem d_T_thin_42 : decode M_T_thin.2.1 42 = .ok (.ireturn, 1) := by decide +kernel
theorem d_T_thin_43 : decode M_T_thin.2.1 43 = .ok (.iconst 0, 1) := by decide +kernel
theorem d_T_thin_44 : decode M_T_thin.2.1 44 = .ok (.istore 4, 2) := by decide +kernel
theorem d_T_thin_46 : decode M_T_thin.2.1 46 = .ok (.iconst 0, 1) := by decide +kernel
theorem d_T_thin_47 : decode M_T_thin.2.1 47 = .ok (.istore 5, 2) := by decide +kernel
theorem d_T_thin_49 : decode M_T_thin.2.1 49 = .ok (.iload 5, 2) := by decide +kernel
theorem d_T_thin_51 : decode M_T_thin.2.1 51 = .ok (.aload_n 0, 1) := by decide +kernel
theorem d_T_thin_52 : decode M_T_thin.2.1 52 = .ok (.getfield 9, 3) := by decide +kernel
theorem d_T_thin_55 : decode M_T_thin.2.1 55 = .ok (.arraylength, 1) := by decide +kernel
theorem d_T_thin_56 : decode M_T_thin.2.1 56 = .ok (.if_icmp .ge (67), 3) := by decide +kernel
theorem d_T_thin_59 : decode M_T_thin.2.1 59 = .ok (.aload_n 0, 1) := by decide +kernel
theorem d_T_thin_60 : decode M_T_thin.2.1 60 = .ok (.iload 5, 2) := by decide +kernel
theorem d_T_thin_62 : decode M_T_thin.2.1 62 = .ok (.iload_n 1, 1) := by decide +kernel
theorem d_T_thin_63 : decode M_T_thin.2.1 63 = .ok (.iload_n 2, 1) := by decide +kernel
theorem d_T_thin_64 : decode M_T_thin.2.1 64 = .ok (.invokevirtual 108, 3) := by decide +kernel
theorem d_T_thin_67 : decode M_T_thin.2.1 67 = .ok (.ifCond .eq (50), 3) := by decide +kernel
theorem d_T_thin_70 : decode M_T_thin.2.1 70 = .ok (.aload_n 0, 1) := by decide +kernel
theorem d_T_thin_71 : decode M_T_thin.2.1 71 = .ok (.getfield 9, 3) := by decide +kernel
theorem d_T_thin_74 : decode M_T_thin.2.1 74 = .ok (.iload 5, 2) := by decide +kernel
theorem d_T_thin_76 : decode M_T_thin.2.1 76 = .ok (.iaload, 1) := by decide +kernel
theorem d_T_thin_77 : decode M_T_thin.2.1 77 = .ok (.istore 6, 2) := by decide +kernel
theorem d_T_thin_79 : decode M_T_thin.2.1 79 = .ok (.aload_n 0, 1) := by decide +kernel
theorem d_T_thin_80 : decode M_T_thin.2.1 80 = .ok (.getfield 9, 3) := by decide +kernel
theorem d_T_thin_83 : decode M_T_thin.2.1 83 = .ok (.iload 5, 2) := by decide +kernel
theorem d_T_thin_85 : decode M_T_thin.2.1 85 = .ok (.iload 6, 2) := by decide +kernel
theorem d_T_thin_87 : decode M_T_thin.2.1 87 = .ok (.iload_n 3, 1) := by decide +kernel
theorem d_T_thin_88 : decode M_T_thin.2.1 88 = .ok (.invokestatic 112, 3) := by decide +kernel
theorem d_T_thin_91 : decode M_T_thin.2.1 91 = .ok (.iastore, 1) := by decide +kernel
theorem d_T_thin_92 : decode M_T_thin.2.1 92 = .ok (.iload 4, 2) := by decide +kernel
theorem d_T_thin_94 : decode M_T_thin.2.1 94 = .ok (.iload 6, 2) := by decide +kernel
theorem d_T_thin_96 : decode M_T_thin.2.1 96 = .ok (.ifCond .eq (17), 3) := by decide +kernel
theorem d_T_thin_99 : decode M_T_thin.2.1 99 = .ok (.aload_n 0, 1) := by decide +kernel
theorem d_T_thin_100 : decode M_T_thin.2.1 100 = .ok (.getfield 9, 3) := by decide +kernel
theorem d_T_thin_103 : decode M_T_thin.2.1 103 = .ok (.iload 5, 2) := by decide +kernel
theorem d_T_thin_105 : decode M_T_thin.2.1 105 = .ok (.iaload, 1) := by decide +kernel
theorem d_T_thin_106 : decode M_T_thin.2.1 106 = .ok (.ifCond .ne (7), 3) := by decide +kernel
theorem d_T_thin_109 : decode M_T_thin.2.1 109 = .ok (.iconst 1, 1) := by decide +kernel
theorem d_T_thin_110 : decode M_T_thin.2.1 110 = .ok (.goto (4), 3) := by decide +kernel
theorem d_T_thin_113 : decode M_T_thin.2.1 113 = .ok (.iconst 0, 1) := by decide +kernel
theorem d_T_thin_114 : decode M_T_thin.2.1 114 = .ok (.iadd, 1) := by decide +kernel
theorem d_T_thin_115 : decode M_T_thin.2.1 115 = .ok (.istore 4, 2) := by decide +kernel
theorem d_T_thin_117 : decode M_T_thin.2.1 117 = .ok (.iinc 5 (1), 3) := by decide +kernel
theorem d_T_thin_120 : decode M_T_thin.2.1 120 = .ok (.goto (-71), 3) := by decide +kernel
theorem d_T_thin_123 : decode M_T_thin.2.1 123 = .ok (.iload 4, 2) := by decide +kernel
theorem d_T_thin_125 : decode M_T_thin.2.1 125 = .ok (.ireturn, 1) := by decide +kernel
theorem d_T_weight_0 : decode M_T_weight.2.1 0 = .ok (.aload_n 0, 1) := by decide +kernel
theorem d_T_weight_1 : decode M_T_weight.2.1 1 = .ok (.iload_n 2, 1) := by decide +kernel
theorem d_T_weight_2 : decode M_T_weight.2.1 2 = .ok (.invokevirtual 82, 3) := by decide +kernel
theorem d_T_weight_5 : decode M_T_weight.2.1 5 = .ok (.ifCond .eq (17), 3) := by decide +kernel
theorem d_T_weight_8 : decode M_T_weight.2.1 8 = .ok (.iload_n 3, 1) := by decide +kernel
theorem d_T_weight_9 : decode M_T_weight.2.1 9 = .ok (.invokestatic 88, 3) := by decide +kernel
theorem d_T_weight_12 : decode M_T_weight.2.1 12 = .ok (.ifCond .eq (10), 3) := by decide +kernel
theorem d_T_weight_15 : decode M_T_weight.2.1 15 = .ok (.iload_n 1, 1) := by decide +kernel
theorem d_T_weight_16 : decode M_T_weight.2.1 16 = .ok (.invokestatic 115, 3) := by decide +kernel
theorem d_T_weight_19 : decode M_T_weight.2.1 19 = .ok (.ifCond .ne (7), 3) := by decide +kernel
theorem d_T_weight_22 : decode M_T_weight.2.1 22 = .ok (.ldc2_w 118, 3) := by decide +kernel
theorem d_T_weight_25 : decode M_T_weight.2.1 25 = .ok (.lreturn, 1) := by decide +kernel
theorem d_T_weight_26 : decode M_T_weight.2.1 26 = .ok (.lconst 0, 1) := by decide +kernel
theorem d_T_weight_27 : decode M_T_weight.2.1 27 = .ok (.lstore 4, 2) := by decide +kernel
theorem d_T_weight_29 : decode M_T_weight.2.1 29 = .ok (.iload_n 1, 1) := by decide +kernel
theorem d_T_weight_30 : decode M_T_weight.2.1 30 = .ok (.sipush (256), 3) := by decide +kernel
theorem d_T_weight_33 : decode M_T_weight.2.1 33 = .ok (.imul, 1) := by decide +kernel
theorem d_T_weight_34 : decode M_T_weight.2.1 34 = .ok (.istore 6, 2) := by decide +kernel
theorem d_T_weight_36 : decode M_T_weight.2.1 36 = .ok (.iload 6, 2) := by decide +kernel
theorem d_T_weight_38 : decode M_T_weight.2.1 38 = .ok (.istore 7, 2) := by decide +kernel
theorem d_T_weight_40 : decode M_T_weight.2.1 40 = .ok (.iload 7, 2) := by decide +kernel
theorem d_T_weight_42 : decode M_T_weight.2.1 42 = .ok (.iload 6, 2) := by decide +kernel
theorem d_T_weight_44 : decode M_T_weight.2.1 44 = .ok (.sipush (256), 3) := by decide +kernel
theorem d_T_weight_47 : decode M_T_weight.2.1 47 = .ok (.iadd, 1) := by decide +kernel
theorem d_T_weight_48 : decode M_T_weight.2.1 48 = .ok (.if_icmp .ge (35), 3) := by decide +kernel
theorem d_T_weight_51 : decode M_T_weight.2.1 51 = .ok (.aload_n 0, 1) := by decide +kernel
theorem d_T_weight_52 : decode M_T_weight.2.1 52 = .ok (.iload 7, 2) := by decide +kernel
theorem d_T_weight_54 : decode M_T_weight.2.1 54 = .ok (.iload_n 2, 1) := by decide +kernel
theorem d_T_weight_55 : decode M_T_weight.2.1 55 = .ok (.iload_n 3, 1) := by decide +kernel
theorem d_T_weight_56 : decode M_T_weight.2.1 56 = .ok (.invokevirtual 108, 3) := by decide +kernel
theorem d_T_weight_59 : decode M_T_weight.2.1 59 = .ok (.ifCond .eq (18), 3) := by decide +kernel
theorem d_T_weight_62 : decode M_T_weight.2.1 62 = .ok (.lload 4, 2) := by decide +kernel
theorem d_T_weight_64 : decode M_T_weight.2.1 64 = .ok (.aload_n 0, 1) := by decide +kernel
theorem d_T_weight_65 : decode M_T_weight.2.1 65 = .ok (.getfield 9, 3) := by decide +kernel
theorem d_T_weight_68 : decode M_T_weight.2.1 68 = .ok (.iload 7, 2) := by decide +kernel
theorem d_T_weight_70 : decode M_T_weight.2.1 70 = .ok (.iaload, 1) := by decide +kernel
theorem d_T_weight_71 : decode M_T_weight.2.1 71 = .ok (.invokestatic 120, 3) := by decide +kernel
theorem d_T_weight_74 : decode M_T_weight.2.1 74 = .ok (.ladd, 1) := by decide +kernel
theorem d_T_weight_75 : decode M_T_weight.2.1 75 = .ok (.lstore 4, 2) := by decide +kernel
theorem d_T_weight_77 : decode M_T_weight.2.1 77 = .ok (.iinc 7 (1), 3) := by decide +kernel
theorem d_T_weight_80 : decode M_T_weight.2.1 80 = .ok (.goto (-40), 3) := by decide +kernel
theorem d_T_weight_83 : decode M_T_weight.2.1 83 = .ok (.lload 4, 2) := by decide +kernel
theorem d_T_weight_85 : decode M_T_weight.2.1 85 = .ok (.lreturn, 1) := by decide +kernel
theorem d_T_isCorner_0 : decode M_T_isCorner.2.1 0 = .ok (.iload_n 0, 1) := by decide +kernel
theorem d_T_isCorner_1 : decode M_T_isCorner.2.1 1 = .ok (.ifCond .lt (14), 3) := by decide +kernel
theorem d_T_isCorner_4 : decode M_T_isCorner.2.1 4 = .ok (.iload_n 0, 1) := by decide +kernel
theorem d_T_isCorner_5 : decode M_T_isCorner.2.1 5 = .ok (.sipush (1000), 3) := by decide +kernel
theorem d_T_isCorner_8 : decode M_T_isCorner.2.1 8 = .ok (.if_icmp .gt (7), 3) := by decide +kernel
theorem d_T_isCorner_11 : decode M_T_isCorner.2.1 11 = .ok (.iconst 1, 1) := by decide +kernel
theorem d_T_isCorner_12 : decode M_T_isCorner.2.1 12 = .ok (.goto (4), 3) := by decide +kernel
theorem d_T_isCorner_15 : decode M_T_isCorner.2.1 15 = .ok (.iconst 0, 1) := by decide +kernel
theorem d_T_isCorner_16 : decode M_T_isCorner.2.1 16 = .ok (.ireturn, 1) := by decide +kernel
theorem d_T_isSide_0 : decode M_T_isSide.2.1 0 = .ok (.iload_n 0, 1) := by decide +kernel
theorem d_T_isSide_1 : decode M_T_isSide.2.1 1 = .ok (.iconst 1, 1) := by decide +kernel
theorem d_T_isSide_2 : decode M_T_isSide.2.1 2 = .ok (.if_icmp .lt (13), 3) := by decide +kernel
theorem d_T_isSide_5 : decode M_T_isSide.2.1 5 = .ok (.iload_n 0, 1) := by decide +kernel
theorem d_T_isSide_6 : decode M_T_isSide.2.1 6 = .ok (.bipush (16), 2) := by decide +kernel
theorem d_T_isSide_8 : decode M_T_isSide.2.1 8 = .ok (.if_icmp .gt (7), 3) := by decide +kernel
theorem d_T_isSide_11 : decode M_T_isSide.2.1 11 = .ok (.iconst 1, 1) := by decide +kernel
theorem d_T_isSide_12 : decode M_T_isSide.2.1 12 = .ok (.goto (4), 3) := by decide +kernel
theorem d_T_isSide_15 : decode M_T_isSide.2.1 15 = .ok (.iconst 0, 1) := by decide +kernel
theorem d_T_isSide_16 : decode M_T_isSide.2.1 16 = .ok (.ireturn, 1) := by decide +kernel
theorem d_T_isPlane_0 : decode M_T_isPlane.2.1 0 = .ok (.iload_n 0, 1) := by decide +kernel
theorem d_T_isPlane_1 : decode M_T_isPlane.2.1 1 = .ok (.ifCond .lt (12), 3) := by decide +kernel
theorem d_T_isPlane_4 : decode M_T_isPlane.2.1 4 = .ok (.iload_n 0, 1) := by decide +kernel
theorem d_T_isPlane_5 : decode M_T_isPlane.2.1 5 = .ok (.iconst 3, 1) := by decide +kernel
theorem d_T_isPlane_6 : decode M_T_isPlane.2.1 6 = .ok (.if_icmp .ge (7), 3) := by decide +kernel
theorem d_T_isPlane_9 : decode M_T_isPlane.2.1 9 = .ok (.iconst 1, 1) := by decide +kernel
theorem d_T_isPlane_10 : decode M_T_isPlane.2.1 10 = .ok (.goto (4), 3) := by decide +kernel
theorem d_T_isPlane_13 : decode M_T_isPlane.2.1 13 = .ok (.iconst 0, 1) := by decide +kernel
theorem d_T_isPlane_14 : decode M_T_isPlane.2.1 14 = .ok (.ireturn, 1) := by decide +kernel
theorem d_T_isLevel_0 : decode M_T_isLevel.2.1 0 = .ok (.iload_n 0, 1) := by decide +kernel
theorem d_T_isLevel_1 : decode M_T_isLevel.2.1 1 = .ok (.iconst 1, 1) := by decide +kernel
theorem d_T_isLevel_2 : decode M_T_isLevel.2.1 2 = .ok (.if_icmp .lt (12), 3) := by decide +kernel
theorem d_T_isLevel_5 : decode M_T_isLevel.2.1 5 = .ok (.iload_n 0, 1) := by decide +kernel
theorem d_T_isLevel_6 : decode M_T_isLevel.2.1 6 = .ok (.iconst 4, 1) := by decide +kernel
theorem d_T_isLevel_7 : decode M_T_isLevel.2.1 7 = .ok (.if_icmp .gt (7), 3) := by decide +kernel
theorem d_T_isLevel_10 : decode M_T_isLevel.2.1 10 = .ok (.iconst 1, 1) := by decide +kernel
theorem d_T_isLevel_11 : decode M_T_isLevel.2.1 11 = .ok (.goto (4), 3) := by decide +kernel
theorem d_T_isLevel_14 : decode M_T_isLevel.2.1 14 = .ok (.iconst 0, 1) := by decide +kernel
theorem d_T_isLevel_15 : decode M_T_isLevel.2.1 15 = .ok (.ireturn, 1) := by decide +kernel
theorem d_T_isSubband_0 : decode M_T_isSubband.2.1 0 = .ok (.iload_n 0, 1) := by decide +kernel
theorem d_T_isSubband_1 : decode M_T_isSubband.2.1 1 = .ok (.ifCond .lt (12), 3) := by decide +kernel
theorem d_T_isSubband_4 : decode M_T_isSubband.2.1 4 = .ok (.iload_n 0, 1) := by decide +kernel
theorem d_T_isSubband_5 : decode M_T_isSubband.2.1 5 = .ok (.iconst 4, 1) := by decide +kernel
theorem d_T_isSubband_6 : decode M_T_isSubband.2.1 6 = .ok (.if_icmp .ge (7), 3) := by decide +kernel
theorem d_T_isSubband_9 : decode M_T_isSubband.2.1 9 = .ok (.iconst 1, 1) := by decide +kernel
theorem d_T_isSubband_10 : decode M_T_isSubband.2.1 10 = .ok (.goto (4), 3) := by decide +kernel
theorem d_T_isSubband_13 : decode M_T_isSubband.2.1 13 = .ok (.iconst 0, 1) := by decide +kernel
theorem d_T_isSubband_14 : decode M_T_isSubband.2.1 14 = .ok (.ireturn, 1) := by decide +kernel
theorem d_T_hasTile_0 : decode M_T_hasTile.2.1 0 = .ok (.aload_n 0, 1) := by decide +kernel
theorem d_T_hasTile_1 : decode M_T_hasTile.2.1 1 = .ok (.getfield 18, 3) := by decide +kernel
theorem d_T_hasTile_4 : decode M_T_hasTile.2.1 4 = .ok (.getfield 124, 3) := by decide +kernel
theorem d_T_hasTile_7 : decode M_T_hasTile.2.1 7 = .ok (.ifCond .le (7), 3) := by decide +kernel
theorem d_T_hasTile_10 : decode M_T_hasTile.2.1 10 = .ok (.iconst 1, 1) := by decide +kernel
theorem d_T_hasTile_11 : decode M_T_hasTile.2.1 11 = .ok (.goto (4), 3) := by decide +kernel
theorem d_T_hasTile_14 : decode M_T_hasTile.2.1 14 = .ok (.iconst 0, 1) := by decide +kernel
theorem d_T_hasTile_15 : decode M_T_hasTile.2.1 15 = .ok (.ireturn, 1) := by decide +kernel
theorem d_T_hasLevel_0 : decode M_T_hasLevel.2.1 0 = .ok (.iload_n 1, 1) := by decide +kernel
theorem d_T_hasLevel_1 : decode M_T_hasLevel.2.1 1 = .ok (.iconst 1, 1) := by decide +kernel
theorem d_T_hasLevel_2 : decode M_T_hasLevel.2.1 2 = .ok (.if_icmp .lt (15), 3) := by decide +kernel
theorem d_T_hasLevel_5 : decode M_T_hasLevel.2.1 5 = .ok (.iload_n 1, 1) := by decide +kernel
theorem d_T_hasLevel_6 : decode M_T_hasLevel.2.1 6 = .ok (.aload_n 0, 1) := by decide +kernel
theorem d_T_hasLevel_7 : decode M_T_hasLevel.2.1 7 = .ok (.getfield 35, 3) := by decide +kernel
theorem d_T_hasLevel_10 : decode M_T_hasLevel.2.1 10 = .ok (.if_icmp .gt (7), 3) := by decide +kernel
theorem d_T_hasLevel_13 : decode M_T_hasLevel.2.1 13 = .ok (.iconst 1, 1) := by decide +kernel
theorem d_T_hasLevel_14 : decode M_T_hasLevel.2.1 14 = .ok (.goto (4), 3) := by decide +kernel
theorem d_T_hasLevel_17 : decode M_T_hasLevel.2.1 17 = .ok (.iconst 0, 1) := by decide +kernel
theorem d_T_hasLevel_18 : decode M_T_hasLevel.2.1 18 = .ok (.ireturn, 1) := by decide +kernel
theorem d_T_shiftRight_0 : decode M_T_shiftRight.2.1 0 = .ok (.iload_n 1, 1) := by decide +kernel
theorem d_T_shiftRight_1 : decode M_T_shiftRight.2.1 1 = .ok (.iconst 1, 1) := by decide +kernel
theorem d_T_shiftRight_2 : decode M_T_shiftRight.2.1 2 = .ok (.iand, 1) := by decide +kernel
theorem d_T_shiftRight_3 : decode M_T_shiftRight.2.1 3 = .ok (.iload_n 0, 1) := by decide +kernel
theorem d_T_shiftRight_4 : decode M_T_shiftRight.2.1 4 = .ok (.iconst 1, 1) := by decide +kernel
theorem d_T_shiftRight_5 : decode M_T_shiftRight.2.1 5 = .ok (.isub, 1) := by decide +kernel
theorem d_T_shiftRight_6 : decode M_T_shiftRight.2.1 6 = .ok (.ishl, 1) := by decide +kernel
theorem d_T_shiftRight_7 : decode M_T_shiftRight.2.1 7 = .ok (.ireturn, 1) := by decide +kernel
theorem d_T_shiftDown_0 : decode M_T_shiftDown.2.1 0 = .ok (.iload_n 1, 1) := by decide +kernel
theorem d_T_shiftDown_1 : decode M_T_shiftDown.2.1 1 = .ok (.iconst 1, 1) := by decide +kernel
theorem d_T_shiftDown_2 : decode M_T_shiftDown.2.1 2 = .ok (.ishr, 1) := by decide +kernel
theorem d_T_shiftDown_3 : decode M_T_shiftDown.2.1 3 = .ok (.iload_n 0, 1) := by decide +kernel
theorem d_T_shiftDown_4 : decode M_T_shiftDown.2.1 4 = .ok (.iconst 1, 1) := by decide +kernel
theorem d_T_shiftDown_5 : decode M_T_shiftDown.2.1 5 = .ok (.isub, 1) := by decide +kernel
theorem d_T_shiftDown_6 : decode M_T_shiftDown.2.1 6 = .ok (.ishl, 1) := by decide +kernel
theorem d_T_shiftDown_7 : decode M_T_shiftDown.2.1 7 = .ok (.ireturn, 1) := by decide +kernel
theorem d_T_cellOfPlace_0 : decode M_T_cellOfPlace.2.1 0 = .ok (.iload_n 1, 1) := by decide +kernel
theorem d_T_cellOfPlace_1 : decode M_T_cellOfPlace.2.1 1 = .ok (.invokestatic 115, 3) := by decide +kernel
theorem d_T_cellOfPlace_4 : decode M_T_cellOfPlace.2.1 4 = .ok (.ifCond .eq (26), 3) := by decide +kernel
theorem d_T_cellOfPlace_7 : decode M_T_cellOfPlace.2.1 7 = .ok (.aload_n 0, 1) := by decide +kernel
theorem d_T_cellOfPlace_8 : decode M_T_cellOfPlace.2.1 8 = .ok (.getfield 18, 3) := by decide +kernel
theorem d_T_cellOfPlace_11 : decode M_T_cellOfPlace.2.1 11 = .ok (.lload_n 2, 1) := by decide +kernel
theorem d_T_cellOfPlace_12 : decode M_T_cellOfPlace.2.1 12 = .ok (.invokevirtual 127, 3) := by decide +kernel
theorem d_T_cellOfPlace_15 : decode M_T_cellOfPlace.2.1 15 = .ok (.ifCond .eq (15), 3) := by decide +kernel
theorem d_T_cellOfPlace_18 : decode M_T_cellOfPlace.2.1 18 = .ok (.aload_n 0, 1) := by decide +kernel
theorem d_T_cellOfPlace_19 : decode M_T_cellOfPlace.2.1 19 = .ok (.getfield 22, 3) := by decide +kernel
theorem d_T_cellOfPlace_22 : decode M_T_cellOfPlace.2.1 22 = .ok (.lload 4, 2) := by decide +kernel
theorem d_T_cellOfPlace_24 : decode M_T_cellOfPlace.2.1 24 = .ok (.invokevirtual 127, 3) := by decide +kernel
theorem d_T_cellOfPlace_27 : decode M_T_cellOfPlace.2.1 27 = .ok (.ifCond .ne (5), 3) := by decide +kernel
theorem d_T_cellOfPlace_30 : decode M_T_cellOfPlace.2.1 30 = .ok (.iconst (-1), 1) := by decide +kernel
theorem d_T_cellOfPlace_31 : decode M_T_cellOfPlace.2.1 31 = .ok (.ireturn, 1) := by decide +kernel
theorem d_T_cellOfPlace_32 : decode M_T_cellOfPlace.2.1 32 = .ok (.iload_n 1, 1) := by decide +kernel
theorem d_T_cellOfPlace_33 : decode M_T_cellOfPlace.2.1 33 = .ok (.sipush (256), 3) := by decide +kernel
theorem d_T_cellOfPlace_36 : decode M_T_cellOfPlace.2.1 36 = .ok (.imul, 1) := by decide +kernel
theorem d_T_cellOfPlace_37 : decode M_T_cellOfPlace.2.1 37 = .ok (.aload_n 0, 1) := by decide +kernel
theorem d_T_cellOfPlace_38 : decode M_T_cellOfPlace.2.1 38 = .ok (.getfield 18, 3) := by decide +kernel
theorem d_T_cellOfPlace_41 : decode M_T_cellOfPlace.2.1 41 = .ok (.lload_n 2, 1) := by decide +kernel
theorem d_T_cellOfPlace_42 : decode M_T_cellOfPlace.2.1 42 = .ok (.invokevirtual 131, 3) := by decide +kernel
theorem d_T_cellOfPlace_45 : decode M_T_cellOfPlace.2.1 45 = .ok (.iadd, 1) := by decide +kernel
theorem d_T_cellOfPlace_46 : decode M_T_cellOfPlace.2.1 46 = .ok (.aload_n 0, 1) := by decide +kernel
theorem d_T_cellOfPlace_47 : decode M_T_cellOfPlace.2.1 47 = .ok (.getfield 22, 3) := by decide +kernel
theorem d_T_cellOfPlace_50 : decode M_T_cellOfPlace.2.1 50 = .ok (.lload 4, 2) := by decide +kernel
theorem d_T_cellOfPlace_52 : decode M_T_cellOfPlace.2.1 52 = .ok (.invokevirtual 131, 3) := by decide +kernel
theorem d_T_cellOfPlace_55 : decode M_T_cellOfPlace.2.1 55 = .ok (.iadd, 1) := by decide +kernel
theorem d_T_cellOfPlace_56 : decode M_T_cellOfPlace.2.1 56 = .ok (.ireturn, 1) := by decide +kernel
theorem d_T_cellOfCoordinates_0 : decode M_T_cellOfCoordinates.2.1 0 = .ok (.iload 4, 2) := by decide +kernel
theorem d_T_cellOfCoordinates_2 : decode M_T_cellOfCoordinates.2.1 2 = .ok (.i2l, 1) := by decide +kernel
theorem d_T_cellOfCoordinates_3 : decode M_T_cellOfCoordinates.2.1 3 = .ok (.iload_n 2, 1) := by decide +kernel
theorem d_T_cellOfCoordinates_4 : decode M_T_cellOfCoordinates.2.1 4 = .ok (.lshl, 1) := by decide +kernel
theorem d_T_cellOfCoordinates_5 : decode M_T_cellOfCoordinates.2.1 5 = .ok (.iload_n 2, 1) := by decide +kernel
theorem d_T_cellOfCoordinates_6 : decode M_T_cellOfCoordinates.2.1 6 = .ok (.iload_n 3, 1) := by decide +kernel
theorem d_T_cellOfCoordinates_7 : decode M_T_cellOfCoordinates.2.1 7 = .ok (.invokestatic 98, 3) := by decide +kernel
theorem d_T_cellOfCoordinates_10 : decode M_T_cellOfCoordinates.2.1 10 = .ok (.i2l, 1) := by decide +kernel
theorem d_T_cellOfCoordinates_11 : decode M_T_cellOfCoordinates.2.1 11 = .ok (.ladd, 1) := by decide +kernel
theorem d_T_cellOfCoordinates_12 : decode M_T_cellOfCoordinates.2.1 12 = .ok (.lstore 6, 2) := by decide +kernel
theorem d_T_cellOfCoordinates_14 : decode M_T_cellOfCoordinates.2.1 14 = .ok (.iload 5, 2) := by decide +kernel
theorem d_T_cellOfCoordinates_16 : decode M_T_cellOfCoordinates.2.1 16 = .ok (.i2l, 1) := by decide +kernel
theorem d_T_cellOfCoordinates_17 : decode M_T_cellOfCoordinates.2.1 17 = .ok (.iload_n 2, 1) := by decide +kernel
theorem d_T_cellOfCoordinates_18 : decode M_T_cellOfCoordinates.2.1 18 = .ok (.lshl, 1) := by decide +kernel
theorem d_T_cellOfCoordinates_19 : decode M_T_cellOfCoordinates.2.1 19 = .ok (.iload_n 2, 1) := by decide +kernel
theorem d_T_cellOfCoordinates_20 : decode M_T_cellOfCoordinates.2.1 20 = .ok (.iload_n 3, 1) := by decide +kernel
theorem d_T_cellOfCoordinates_21 : decode M_T_cellOfCoordinates.2.1 21 = .ok (.invokestatic 91, 3) := by decide +kernel
theorem d_T_cellOfCoordinates_24 : decode M_T_cellOfCoordinates.2.1 24 = .ok (.i2l, 1) := by decide +kernel
theorem d_T_cellOfCoordinates_25 : decode M_T_cellOfCoordinates.2.1 25 = .ok (.ladd, 1) := by decide +kernel
theorem d_T_cellOfCoordinates_26 : decode M_T_cellOfCoordinates.2.1 26 = .ok (.lstore 8, 2) := by decide +kernel
theorem d_T_cellOfCoordinates_28 : decode M_T_cellOfCoordinates.2.1 28 = .ok (.aload_n 0, 1) := by decide +kernel
theorem d_T_cellOfCoordinates_29 : decode M_T_cellOfCoordinates.2.1 29 = .ok (.iload_n 1, 1) := by decide +kernel
theorem d_T_cellOfCoordinates_30 : decode M_T_cellOfCoordinates.2.1 30 = .ok (.lload 6, 2) := by decide +kernel
theorem d_T_cellOfCoordinates_32 : decode M_T_cellOfCoordinates.2.1 32 = .ok (.lload 8, 2) := by decide +kernel
theorem d_T_cellOfCoordinates_34 : decode M_T_cellOfCoordinates.2.1 34 = .ok (.invokevirtual 60, 3) := by decide +kernel
theorem d_T_cellOfCoordinates_37 : decode M_T_cellOfCoordinates.2.1 37 = .ok (.ireturn, 1) := by decide +kernel
theorem d_T_valueIn_0 : decode M_T_valueIn.2.1 0 = .ok (.iload_n 1, 1) := by decide +kernel
theorem d_T_valueIn_1 : decode M_T_valueIn.2.1 1 = .ok (.iconst (-1), 1) := by decide +kernel
theorem d_T_valueIn_2 : decode M_T_valueIn.2.1 2 = .ok (.if_icmp .ne (7), 3) := by decide +kernel
theorem d_T_valueIn_5 : decode M_T_valueIn.2.1 5 = .ok (.iconst 0, 1) := by decide +kernel
theorem d_T_valueIn_6 : decode M_T_valueIn.2.1 6 = .ok (.goto (9), 3) := by decide +kernel
theorem d_T_valueIn_9 : decode M_T_valueIn.2.1 9 = .ok (.aload_n 0, 1) := by decide +kernel
theorem d_T_valueIn_10 : decode M_T_valueIn.2.1 10 = .ok (.getfield 9, 3) := by decide +kernel
theorem d_T_valueIn_13 : decode M_T_valueIn.2.1 13 = .ok (.iload_n 1, 1) := by decide +kernel
theorem d_T_valueIn_14 : decode M_T_valueIn.2.1 14 = .ok (.iaload, 1) := by decide +kernel
theorem d_T_valueIn_15 : decode M_T_valueIn.2.1 15 = .ok (.ireturn, 1) := by decide +kernel
theorem d_T_isOfSubband_0 : decode M_T_isOfSubband.2.1 0 = .ok (.aload_n 0, 1) := by decide +kernel
theorem d_T_isOfSubband_1 : decode M_T_isOfSubband.2.1 1 = .ok (.getfield 18, 3) := by decide +kernel
theorem d_T_isOfSubband_4 : decode M_T_isOfSubband.2.1 4 = .ok (.getfield 135, 3) := by decide +kernel
theorem d_T_isOfSubband_7 : decode M_T_isOfSubband.2.1 7 = .ok (.iload_n 1, 1) := by decide +kernel
theorem d_T_isOfSubband_8 : decode M_T_isOfSubband.2.1 8 = .ok (.bipush (16), 2) := by decide +kernel
theorem d_T_isOfSubband_10 : decode M_T_isOfSubband.2.1 10 = .ok (.irem, 1) := by decide +kernel
theorem d_T_isOfSubband_11 : decode M_T_isOfSubband.2.1 11 = .ok (.iadd, 1) := by decide +kernel
theorem d_T_isOfSubband_12 : decode M_T_isOfSubband.2.1 12 = .ok (.istore 4, 2) := by decide +kernel
theorem d_T_isOfSubband_14 : decode M_T_isOfSubband.2.1 14 = .ok (.aload_n 0, 1) := by decide +kernel
theorem d_T_isOfSubband_15 : decode M_T_isOfSubband.2.1 15 = .ok (.getfield 22, 3) := by decide +kernel
theorem d_T_isOfSubband_18 : decode M_T_isOfSubband.2.1 18 = .ok (.getfield 135, 3) := by decide +kernel
theorem d_T_isOfSubband_21 : decode M_T_isOfSubband.2.1 21 = .ok (.iload_n 1, 1) := by decide +kernel
theorem d_T_isOfSubband_22 : decode M_T_isOfSubband.2.1 22 = .ok (.bipush (16), 2) := by decide +kernel
theorem d_T_isOfSubband_24 : decode M_T_isOfSubband.2.1 24 = .ok (.idiv, 1) := by decide +kernel
theorem d_T_isOfSubband_25 : decode M_T_isOfSubband.2.1 25 = .ok (.bipush (16), 2) := by decide +kernel
theorem d_T_isOfSubband_27 : decode M_T_isOfSubband.2.1 27 = .ok (.irem, 1) := by decide +kernel
theorem d_T_isOfSubband_28 : decode M_T_isOfSubband.2.1 28 = .ok (.iadd, 1) := by decide +kernel
theorem d_T_isOfSubband_29 : decode M_T_isOfSubband.2.1 29 = .ok (.istore 5, 2) := by decide +kernel
theorem d_T_isOfSubband_31 : decode M_T_isOfSubband.2.1 31 = .ok (.iconst 1, 1) := by decide +kernel
theorem d_T_isOfSubband_32 : decode M_T_isOfSubband.2.1 32 = .ok (.iload_n 2, 1) := by decide +kernel
theorem d_T_isOfSubband_33 : decode M_T_isOfSubband.2.1 33 = .ok (.ishl, 1) := by decide +kernel
theorem d_T_isOfSubband_34 : decode M_T_isOfSubband.2.1 34 = .ok (.iconst 1, 1) := by decide +kernel
theorem d_T_isOfSubband_35 : decode M_T_isOfSubband.2.1 35 = .ok (.isub, 1) := by decide +kernel
theorem d_T_isOfSubband_36 : decode M_T_isOfSubband.2.1 36 = .ok (.istore 6, 2) := by decide +kernel
theorem d_T_isOfSubband_38 : decode M_T_isOfSubband.2.1 38 = .ok (.iload 4, 2) := by decide +kernel
theorem d_T_isOfSubband_40 : decode M_T_isOfSubband.2.1 40 = .ok (.iload 6, 2) := by decide +kernel
theorem d_T_isOfSubband_42 : decode M_T_isOfSubband.2.1 42 = .ok (.iand, 1) := by decide +kernel
theorem d_T_isOfSubband_43 : decode M_T_isOfSubband.2.1 43 = .ok (.iload_n 2, 1) := by decide +kernel
theorem d_T_isOfSubband_44 : decode M_T_isOfSubband.2.1 44 = .ok (.iload_n 3, 1) := by decide +kernel
theorem d_T_isOfSubband_45 : decode M_T_isOfSubband.2.1 45 = .ok (.invokestatic 98, 3) := by decide +kernel
theorem d_T_isOfSubband_48 : decode M_T_isOfSubband.2.1 48 = .ok (.if_icmp .ne (20), 3) := by decide +kernel
theorem d_T_isOfSubband_51 : decode M_T_isOfSubband.2.1 51 = .ok (.iload 5, 2) := by decide +kernel
theorem d_T_isOfSubband_53 : decode M_T_isOfSubband.2.1 53 = .ok (.iload 6, 2) := by decide +kernel
theorem d_T_isOfSubband_55 : decode M_T_isOfSubband.2.1 55 = .ok (.iand, 1) := by decide +kernel
theorem d_T_isOfSubband_56 : decode M_T_isOfSubband.2.1 56 = .ok (.iload_n 2, 1) := by decide +kernel
theorem d_T_isOfSubband_57 : decode M_T_isOfSubband.2.1 57 = .ok (.iload_n 3, 1) := by decide +kernel
theorem d_T_isOfSubband_58 : decode M_T_isOfSubband.2.1 58 = .ok (.invokestatic 91, 3) := by decide +kernel
theorem d_T_isOfSubband_61 : decode M_T_isOfSubband.2.1 61 = .ok (.if_icmp .ne (7), 3) := by decide +kernel
theorem d_T_isOfSubband_64 : decode M_T_isOfSubband.2.1 64 = .ok (.iconst 1, 1) := by decide +kernel
theorem d_T_isOfSubband_65 : decode M_T_isOfSubband.2.1 65 = .ok (.goto (4), 3) := by decide +kernel
theorem d_T_isOfSubband_68 : decode M_T_isOfSubband.2.1 68 = .ok (.iconst 0, 1) := by decide +kernel
theorem d_T_isOfSubband_69 : decode M_T_isOfSubband.2.1 69 = .ok (.ireturn, 1) := by decide +kernel
theorem d_T_mixCell_0 : decode M_T_mixCell.2.1 0 = .ok (.aload_n 0, 1) := by decide +kernel
theorem d_T_mixCell_1 : decode M_T_mixCell.2.1 1 = .ok (.getfield 9, 3) := by decide +kernel
theorem d_T_mixCell_4 : decode M_T_mixCell.2.1 4 = .ok (.iload_n 1, 1) := by decide +kernel
theorem d_T_mixCell_5 : decode M_T_mixCell.2.1 5 = .ok (.iaload, 1) := by decide +kernel
theorem d_T_mixCell_6 : decode M_T_mixCell.2.1 6 = .ok (.istore_n 2, 1) := by decide +kernel
theorem d_T_mixCell_7 : decode M_T_mixCell.2.1 7 = .ok (.aload_n 0, 1) := by decide +kernel
theorem d_T_mixCell_8 : decode M_T_mixCell.2.1 8 = .ok (.getfield 9, 3) := by decide +kernel
theorem d_T_mixCell_11 : decode M_T_mixCell.2.1 11 = .ok (.iload_n 1, 1) := by decide +kernel
theorem d_T_mixCell_12 : decode M_T_mixCell.2.1 12 = .ok (.sipush (256), 3) := by decide +kernel
theorem d_T_mixCell_15 : decode M_T_mixCell.2.1 15 = .ok (.iadd, 1) := by decide +kernel
theorem d_T_mixCell_16 : decode M_T_mixCell.2.1 16 = .ok (.iaload, 1) := by decide +kernel
theorem d_T_mixCell_17 : decode M_T_mixCell.2.1 17 = .ok (.istore_n 3, 1) := by decide +kernel
theorem d_T_mixCell_18 : decode M_T_mixCell.2.1 18 = .ok (.aload_n 0, 1) := by decide +kernel
theorem d_T_mixCell_19 : decode M_T_mixCell.2.1 19 = .ok (.getfield 9, 3) := by decide +kernel
theorem d_T_mixCell_22 : decode M_T_mixCell.2.1 22 = .ok (.iload_n 1, 1) := by decide +kernel
theorem d_T_mixCell_23 : decode M_T_mixCell.2.1 23 = .ok (.sipush (512), 3) := by decide +kernel
theorem d_T_mixCell_26 : decode M_T_mixCell.2.1 26 = .ok (.iadd, 1) := by decide +kernel
theorem d_T_mixCell_27 : decode M_T_mixCell.2.1 27 = .ok (.iaload, 1) := by decide +kernel
theorem d_T_mixCell_28 : decode M_T_mixCell.2.1 28 = .ok (.istore 4, 2) := by decide +kernel
theorem d_T_mixCell_30 : decode M_T_mixCell.2.1 30 = .ok (.aload_n 0, 1) := by decide +kernel
theorem d_T_mixCell_31 : decode M_T_mixCell.2.1 31 = .ok (.getfield 9, 3) := by decide +kernel
theorem d_T_mixCell_34 : decode M_T_mixCell.2.1 34 = .ok (.iload_n 1, 1) := by decide +kernel
theorem d_T_mixCell_35 : decode M_T_mixCell.2.1 35 = .ok (.iload_n 2, 1) := by decide +kernel
theorem d_T_mixCell_36 : decode M_T_mixCell.2.1 36 = .ok (.iconst 2, 1) := by decide +kernel
theorem d_T_mixCell_37 : decode M_T_mixCell.2.1 37 = .ok (.iload_n 3, 1) := by decide +kernel
theorem d_T_mixCell_38 : decode M_T_mixCell.2.1 38 = .ok (.imul, 1) := by decide +kernel
theorem d_T_mixCell_39 : decode M_T_mixCell.2.1 39 = .ok (.iadd, 1) := by decide +kernel
theorem d_T_mixCell_40 : decode M_T_mixCell.2.1 40 = .ok (.iload 4, 2) := by decide +kernel
theorem d_T_mixCell_42 : decode M_T_mixCell.2.1 42 = .ok (.iadd, 1) := by decide +kernel
theorem d_T_mixCell_43 : decode M_T_mixCell.2.1 43 = .ok (.iconst 2, 1) := by decide +kernel
theorem d_T_mixCell_44 : decode M_T_mixCell.2.1 44 = .ok (.ishr, 1) := by decide +kernel
theorem d_T_mixCell_45 : decode M_T_mixCell.2.1 45 = .ok (.iastore, 1) := by decide +kernel
theorem d_T_mixCell_46 : decode M_T_mixCell.2.1 46 = .ok (.aload_n 0, 1) := by decide +kernel
theorem d_T_mixCell_47 : decode M_T_mixCell.2.1 47 = .ok (.getfield 9, 3) := by decide +kernel
theorem d_T_mixCell_50 : decode M_T_mixCell.2.1 50 = .ok (.iload_n 1, 1) := by decide +kernel
theorem d_T_mixCell_51 : decode M_T_mixCell.2.1 51 = .ok (.sipush (256), 3) := by decide +kernel
theorem d_T_mixCell_54 : decode M_T_mixCell.2.1 54 = .ok (.iadd, 1) := by decide +kernel
theorem d_T_mixCell_55 : decode M_T_mixCell.2.1 55 = .ok (.iload 4, 2) := by decide +kernel
theorem d_T_mixCell_57 : decode M_T_mixCell.2.1 57 = .ok (.iload_n 3, 1) := by decide +kernel
theorem d_T_mixCell_58 : decode M_T_mixCell.2.1 58 = .ok (.isub, 1) := by decide +kernel
theorem d_T_mixCell_59 : decode M_T_mixCell.2.1 59 = .ok (.iastore, 1) := by decide +kernel
theorem d_T_mixCell_60 : decode M_T_mixCell.2.1 60 = .ok (.aload_n 0, 1) := by decide +kernel
theorem d_T_mixCell_61 : decode M_T_mixCell.2.1 61 = .ok (.getfield 9, 3) := by decide +kernel
theorem d_T_mixCell_64 : decode M_T_mixCell.2.1 64 = .ok (.iload_n 1, 1) := by decide +kernel
theorem d_T_mixCell_65 : decode M_T_mixCell.2.1 65 = .ok (.sipush (512), 3) := by decide +kernel
theorem d_T_mixCell_68 : decode M_T_mixCell.2.1 68 = .ok (.iadd, 1) := by decide +kernel
theorem d_T_mixCell_69 : decode M_T_mixCell.2.1 69 = .ok (.iload_n 2, 1) := by decide +kernel
theorem d_T_mixCell_70 : decode M_T_mixCell.2.1 70 = .ok (.iload_n 3, 1) := by decide +kernel
theorem d_T_mixCell_71 : decode M_T_mixCell.2.1 71 = .ok (.isub, 1) := by decide +kernel
theorem d_T_mixCell_72 : decode M_T_mixCell.2.1 72 = .ok (.iastore, 1) := by decide +kernel
theorem d_T_mixCell_73 : decode M_T_mixCell.2.1 73 = .ok (.return_, 1) := by decide +kernel
theorem d_T_unmixCell_0 : decode M_T_unmixCell.2.1 0 = .ok (.aload_n 0, 1) := by decide +kernel
theorem d_T_unmixCell_1 : decode M_T_unmixCell.2.1 1 = .ok (.getfield 9, 3) := by decide +kernel
theorem d_T_unmixCell_4 : decode M_T_unmixCell.2.1 4 = .ok (.iload_n 1, 1) := by decide +kernel
theorem d_T_unmixCell_5 : decode M_T_unmixCell.2.1 5 = .ok (.iaload, 1) := by decide +kernel
theorem d_T_unmixCell_6 : decode M_T_unmixCell.2.1 6 = .ok (.istore_n 2, 1) := by decide +kernel
theorem d_T_unmixCell_7 : decode M_T_unmixCell.2.1 7 = .ok (.aload_n 0, 1) := by decide +kernel
theorem d_T_unmixCell_8 : decode M_T_unmixCell.2.1 8 = .ok (.getfield 9, 3) := by decide +kernel
theorem d_T_unmixCell_11 : decode M_T_unmixCell.2.1 11 = .ok (.iload_n 1, 1) := by decide +kernel
theorem d_T_unmixCell_12 : decode M_T_unmixCell.2.1 12 = .ok (.sipush (256), 3) := by decide +kernel
theorem d_T_unmixCell_15 : decode M_T_unmixCell.2.1 15 = .ok (.iadd, 1) := by decide +kernel
theorem d_T_unmixCell_16 : decode M_T_unmixCell.2.1 16 = .ok (.iaload, 1) := by decide +kernel
theorem d_T_unmixCell_17 : decode M_T_unmixCell.2.1 17 = .ok (.istore_n 3, 1) := by decide +kernel
theorem d_T_unmixCell_18 : decode M_T_unmixCell.2.1 18 = .ok (.aload_n 0, 1) := by decide +kernel
theorem d_T_unmixCell_19 : decode M_T_unmixCell.2.1 19 = .ok (.getfield 9, 3) := by decide +kernel
theorem d_T_unmixCell_22 : decode M_T_unmixCell.2.1 22 = .ok (.iload_n 1, 1) := by decide +kernel
theorem d_T_unmixCell_23 : decode M_T_unmixCell.2.1 23 = .ok (.sipush (512), 3) := by decide +kernel
theorem d_T_unmixCell_26 : decode M_T_unmixCell.2.1 26 = .ok (.iadd, 1) := by decide +kernel
theorem d_T_unmixCell_27 : decode M_T_unmixCell.2.1 27 = .ok (.iaload, 1) := by decide +kernel
theorem d_T_unmixCell_28 : decode M_T_unmixCell.2.1 28 = .ok (.istore 4, 2) := by decide +kernel
theorem d_T_unmixCell_30 : decode M_T_unmixCell.2.1 30 = .ok (.iload_n 2, 1) := by decide +kernel
theorem d_T_unmixCell_31 : decode M_T_unmixCell.2.1 31 = .ok (.iload_n 3, 1) := by decide +kernel
theorem d_T_unmixCell_32 : decode M_T_unmixCell.2.1 32 = .ok (.iload 4, 2) := by decide +kernel
theorem d_T_unmixCell_34 : decode M_T_unmixCell.2.1 34 = .ok (.iadd, 1) := by decide +kernel
theorem d_T_unmixCell_35 : decode M_T_unmixCell.2.1 35 = .ok (.iconst 2, 1) := by decide +kernel
theorem d_T_unmixCell_36 : decode M_T_unmixCell.2.1 36 = .ok (.ishr, 1) := by decide +kernel
theorem d_T_unmixCell_37 : decode M_T_unmixCell.2.1 37 = .ok (.isub, 1) := by decide +kernel
theorem d_T_unmixCell_38 : decode M_T_unmixCell.2.1 38 = .ok (.istore 5, 2) := by decide +kernel
theorem d_T_unmixCell_40 : decode M_T_unmixCell.2.1 40 = .ok (.aload_n 0, 1) := by decide +kernel
theorem d_T_unmixCell_41 : decode M_T_unmixCell.2.1 41 = .ok (.getfield 9, 3) := by decide +kernel
theorem d_T_unmixCell_44 : decode M_T_unmixCell.2.1 44 = .ok (.iload_n 1, 1) := by decide +kernel
theorem d_T_unmixCell_45 : decode M_T_unmixCell.2.1 45 = .ok (.iload 4, 2) := by decide +kernel
theorem d_T_unmixCell_47 : decode M_T_unmixCell.2.1 47 = .ok (.iload 5, 2) := by decide +kernel
theorem d_T_unmixCell_49 : decode M_T_unmixCell.2.1 49 = .ok (.iadd, 1) := by decide +kernel
theorem d_T_unmixCell_50 : decode M_T_unmixCell.2.1 50 = .ok (.iastore, 1) := by decide +kernel
theorem d_T_unmixCell_51 : decode M_T_unmixCell.2.1 51 = .ok (.aload_n 0, 1) := by decide +kernel
theorem d_T_unmixCell_52 : decode M_T_unmixCell.2.1 52 = .ok (.getfield 9, 3) := by decide +kernel
theorem d_T_unmixCell_55 : decode M_T_unmixCell.2.1 55 = .ok (.iload_n 1, 1) := by decide +kernel
theorem d_T_unmixCell_56 : decode M_T_unmixCell.2.1 56 = .ok (.sipush (256), 3) := by decide +kernel
theorem d_T_unmixCell_59 : decode M_T_unmixCell.2.1 59 = .ok (.iadd, 1) := by decide +kernel
theorem d_T_unmixCell_60 : decode M_T_unmixCell.2.1 60 = .ok (.iload 5, 2) := by decide +kernel
theorem d_T_unmixCell_62 : decode M_T_unmixCell.2.1 62 = .ok (.iastore, 1) := by decide +kernel
theorem d_T_unmixCell_63 : decode M_T_unmixCell.2.1 63 = .ok (.aload_n 0, 1) := by decide +kernel
theorem d_T_unmixCell_64 : decode M_T_unmixCell.2.1 64 = .ok (.getfield 9, 3) := by decide +kernel
theorem d_T_unmixCell_67 : decode M_T_unmixCell.2.1 67 = .ok (.iload_n 1, 1) := by decide +kernel
theorem d_T_unmixCell_68 : decode M_T_unmixCell.2.1 68 = .ok (.sipush (512), 3) := by decide +kernel
theorem d_T_unmixCell_71 : decode M_T_unmixCell.2.1 71 = .ok (.iadd, 1) := by decide +kernel
theorem d_T_unmixCell_72 : decode M_T_unmixCell.2.1 72 = .ok (.iload_n 3, 1) := by decide +kernel
theorem d_T_unmixCell_73 : decode M_T_unmixCell.2.1 73 = .ok (.iload 5, 2) := by decide +kernel
theorem d_T_unmixCell_75 : decode M_T_unmixCell.2.1 75 = .ok (.iadd, 1) := by decide +kernel
theorem d_T_unmixCell_76 : decode M_T_unmixCell.2.1 76 = .ok (.iastore, 1) := by decide +kernel
theorem d_T_unmixCell_77 : decode M_T_unmixCell.2.1 77 = .ok (.return_, 1) := by decide +kernel
theorem d_T_liftLines_0 : decode M_T_liftLines.2.1 0 = .ok (.aload_n 0, 1) := by decide +kernel
theorem d_T_liftLines_1 : decode M_T_liftLines.2.1 1 = .ok (.getfield 35, 3) := by decide +kernel
theorem d_T_liftLines_4 : decode M_T_liftLines.2.1 4 = .ok (.istore 6, 2) := by decide +kernel
theorem d_T_liftLines_6 : decode M_T_liftLines.2.1 6 = .ok (.aload_n 2, 1) := by decide +kernel
theorem d_T_liftLines_7 : decode M_T_liftLines.2.1 7 = .ok (.iload 6, 2) := by decide +kernel
theorem d_T_liftLines_9 : decode M_T_liftLines.2.1 9 = .ok (.iconst 0, 1) := by decide +kernel
theorem d_T_liftLines_10 : decode M_T_liftLines.2.1 10 = .ok (.invokevirtual 101, 3) := by decide +kernel
theorem d_T_liftLines_13 : decode M_T_liftLines.2.1 13 = .ok (.istore 7, 2) := by decide +kernel
theorem d_T_liftLines_15 : decode M_T_liftLines.2.1 15 = .ok (.iload 7, 2) := by decide +kernel
theorem d_T_liftLines_17 : decode M_T_liftLines.2.1 17 = .ok (.ifCond .ne (4), 3) := by decide +kernel
theorem d_T_liftLines_20 : decode M_T_liftLines.2.1 20 = .ok (.return_, 1) := by decide +kernel
theorem d_T_liftLines_21 : decode M_T_liftLines.2.1 21 = .ok (.aload_n 2, 1) := by decide +kernel
theorem d_T_liftLines_22 : decode M_T_liftLines.2.1 22 = .ok (.iload 6, 2) := by decide +kernel
theorem d_T_liftLines_24 : decode M_T_liftLines.2.1 24 = .ok (.iconst 0, 1) := by decide +kernel
theorem d_T_liftLines_25 : decode M_T_liftLines.2.1 25 = .ok (.invokevirtual 95, 3) := by decide +kernel
theorem d_T_liftLines_28 : decode M_T_liftLines.2.1 28 = .ok (.istore 8, 2) := by decide +kernel
theorem d_T_liftLines_30 : decode M_T_liftLines.2.1 30 = .ok (.aload_n 3, 1) := by decide +kernel
theorem d_T_liftLines_31 : decode M_T_liftLines.2.1 31 = .ok (.iload 6, 2) := by decide +kernel
theorem d_T_liftLines_33 : decode M_T_liftLines.2.1 33 = .ok (.iconst 0, 1) := by decide +kernel
theorem d_T_liftLines_34 : decode M_T_liftLines.2.1 34 = .ok (.invokevirtual 95, 3) := by decide +kernel
theorem d_T_liftLines_37 : decode M_T_liftLines.2.1 37 = .ok (.istore 9, 2) := by decide +kernel
theorem d_T_liftLines_39 : decode M_T_liftLines.2.1 39 = .ok (.iload 9, 2) := by decide +kernel
theorem d_T_liftLines_41 : decode M_T_liftLines.2.1 41 = .ok (.aload_n 3, 1) := by decide +kernel
theorem d_T_liftLines_42 : decode M_T_liftLines.2.1 42 = .ok (.iload 6, 2) := by decide +kernel
theorem d_T_liftLines_44 : decode M_T_liftLines.2.1 44 = .ok (.iconst 0, 1) := by decide +kernel
theorem d_T_liftLines_45 : decode M_T_liftLines.2.1 45 = .ok (.invokevirtual 101, 3) := by decide +kernel
theorem d_T_liftLines_48 : decode M_T_liftLines.2.1 48 = .ok (.iadd, 1) := by decide +kernel
theorem d_T_liftLines_49 : decode M_T_liftLines.2.1 49 = .ok (.istore 10, 2) := by decide +kernel
theorem d_T_liftLines_51 : decode M_T_liftLines.2.1 51 = .ok (.iload 9, 2) := by decide +kernel
theorem d_T_liftLines_53 : decode M_T_liftLines.2.1 53 = .ok (.istore 11, 2) := by decide +kernel
theorem d_T_liftLines_55 : decode M_T_liftLines.2.1 55 = .ok (.iload 11, 2) := by decide +kernel
theorem d_T_liftLines_57 : decode M_T_liftLines.2.1 57 = .ok (.iload 10, 2) := by decide +kernel
theorem d_T_liftLines_59 : decode M_T_liftLines.2.1 59 = .ok (.if_icmp .ge (108), 3) := by decide +kernel
theorem d_T_liftLines_62 : decode M_T_liftLines.2.1 62 = .ok (.iload_n 1, 1) := by decide +kernel
theorem d_T_liftLines_63 : decode M_T_liftLines.2.1 63 = .ok (.sipush (256), 3) := by decide +kernel
theorem d_T_liftLines_66 : decode M_T_liftLines.2.1 66 = .ok (.imul, 1) := by decide +kernel
theorem d_T_liftLines_67 : decode M_T_liftLines.2.1 67 = .ok (.aload_n 2, 1) := by decide +kernel
theorem d_T_liftLines_68 : decode M_T_liftLines.2.1 68 = .ok (.iload 8, 2) := by decide +kernel
theorem d_T_liftLines_70 : decode M_T_liftLines.2.1 70 = .ok (.iload 6, 2) := by decide +kernel
theorem d_T_liftLines_72 : decode M_T_liftLines.2.1 72 = .ok (.ishl, 1) := by decide +kernel
theorem d_T_liftLines_73 : decode M_T_liftLines.2.1 73 = .ok (.i2l, 1) := by decide +kernel
theorem d_T_liftLines_74 : decode M_T_liftLines.2.1 74 = .ok (.invokevirtual 131, 3) := by decide +kernel
theorem d_T_liftLines_77 : decode M_T_liftLines.2.1 77 = .ok (.iadd, 1) := by decide +kernel
theorem d_T_liftLines_78 : decode M_T_liftLines.2.1 78 = .ok (.aload_n 3, 1) := by decide +kernel
theorem d_T_liftLines_79 : decode M_T_liftLines.2.1 79 = .ok (.iload 11, 2) := by decide +kernel
theorem d_T_liftLines_81 : decode M_T_liftLines.2.1 81 = .ok (.iload 6, 2) := by decide +kernel
theorem d_T_liftLines_83 : decode M_T_liftLines.2.1 83 = .ok (.ishl, 1) := by decide +kernel
theorem d_T_liftLines_84 : decode M_T_liftLines.2.1 84 = .ok (.i2l, 1) := by decide +kernel
theorem d_T_liftLines_85 : decode M_T_liftLines.2.1 85 = .ok (.invokevirtual 131, 3) := by decide +kernel
theorem d_T_liftLines_88 : decode M_T_liftLines.2.1 88 = .ok (.iadd, 1) := by decide +kernel
theorem d_T_liftLines_89 : decode M_T_liftLines.2.1 89 = .ok (.istore 12, 2) := by decide +kernel
theorem d_T_liftLines_91 : decode M_T_liftLines.2.1 91 = .ok (.aload_n 0, 1) := by decide +kernel
theorem d_T_liftLines_92 : decode M_T_liftLines.2.1 92 = .ok (.getfield 28, 3) := by decide +kernel
theorem d_T_liftLines_95 : decode M_T_liftLines.2.1 95 = .ok (.aload_n 0, 1) := by decide +kernel
theorem d_T_liftLines_96 : decode M_T_liftLines.2.1 96 = .ok (.getfield 9, 3) := by decide +kernel
theorem d_T_liftLines_99 : decode M_T_liftLines.2.1 99 = .ok (.iload 12, 2) := by decide +kernel
theorem d_T_liftLines_101 : decode M_T_liftLines.2.1 101 = .ok (.aload_n 2, 1) := by decide +kernel
theorem d_T_liftLines_102 : decode M_T_liftLines.2.1 102 = .ok (.getfield 138, 3) := by decide +kernel
theorem d_T_liftLines_105 : decode M_T_liftLines.2.1 105 = .ok (.iload 6, 2) := by decide +kernel
theorem d_T_liftLines_107 : decode M_T_liftLines.2.1 107 = .ok (.ishl, 1) := by decide +kernel
theorem d_T_liftLines_108 : decode M_T_liftLines.2.1 108 = .ok (.iload 8, 2) := by decide +kernel
theorem d_T_liftLines_110 : decode M_T_liftLines.2.1 110 = .ok (.iload 7, 2) := by decide +kernel
theorem d_T_liftLines_112 : decode M_T_liftLines.2.1 112 = .ok (.invokevirtual 141, 3) := by decide +kernel
theorem d_T_liftLines_115 : decode M_T_liftLines.2.1 115 = .ok (.iload 5, 2) := by decide +kernel
theorem d_T_liftLines_117 : decode M_T_liftLines.2.1 117 = .ok (.ifCond .eq (15), 3) := by decide +kernel
theorem d_T_liftLines_120 : decode M_T_liftLines.2.1 120 = .ok (.aload_n 0, 1) := by decide +kernel
theorem d_T_liftLines_121 : decode M_T_liftLines.2.1 121 = .ok (.getfield 28, 3) := by decide +kernel
theorem d_T_liftLines_124 : decode M_T_liftLines.2.1 124 = .ok (.iload 4, 2) := by decide +kernel
theorem d_T_liftLines_126 : decode M_T_liftLines.2.1 126 = .ok (.invokevirtual 145, 3) := by decide +kernel
theorem d_T_liftLines_129 : decode M_T_liftLines.2.1 129 = .ok (.goto (12), 3) := by decide +kernel
theorem d_T_liftLines_132 : decode M_T_liftLines.2.1 132 = .ok (.aload_n 0, 1) := by decide +kernel
theorem d_T_liftLines_133 : decode M_T_liftLines.2.1 133 = .ok (.getfield 28, 3) := by decide +kernel
theorem d_T_liftLines_136 : decode M_T_liftLines.2.1 136 = .ok (.iload 4, 2) := by decide +kernel
theorem d_T_liftLines_138 : decode M_T_liftLines.2.1 138 = .ok (.invokevirtual 148, 3) := by decide +kernel
theorem d_T_liftLines_141 : decode M_T_liftLines.2.1 141 = .ok (.aload_n 0, 1) := by decide +kernel
theorem d_T_liftLines_142 : decode M_T_liftLines.2.1 142 = .ok (.getfield 28, 3) := by decide +kernel
theorem d_T_liftLines_145 : decode M_T_liftLines.2.1 145 = .ok (.aload_n 0, 1) := by decide +kernel
theorem d_T_liftLines_146 : decode M_T_liftLines.2.1 146 = .ok (.getfield 9, 3) := by decide +kernel
theorem d_T_liftLines_149 : decode M_T_liftLines.2.1 149 = .ok (.iload 12, 2) := by decide +kernel
theorem d_T_liftLines_151 : decode M_T_liftLines.2.1 151 = .ok (.aload_n 2, 1) := by decide +kernel
theorem d_T_liftLines_152 : decode M_T_liftLines.2.1 152 = .ok (.getfield 138, 3) := by decide +kernel
theorem d_T_liftLines_155 : decode M_T_liftLines.2.1 155 = .ok (.iload 6, 2) := by decide +kernel
theorem d_T_liftLines_157 : decode M_T_liftLines.2.1 157 = .ok (.ishl, 1) := by decide +kernel
theorem d_T_liftLines_158 : decode M_T_liftLines.2.1 158 = .ok (.invokevirtual 151, 3) := by decide +kernel
theorem d_T_liftLines_161 : decode M_T_liftLines.2.1 161 = .ok (.iinc 11 (1), 3) := by decide +kernel
theorem d_T_liftLines_164 : decode M_T_liftLines.2.1 164 = .ok (.goto (-109), 3) := by decide +kernel
theorem d_T_liftLines_167 : decode M_T_liftLines.2.1 167 = .ok (.return_, 1) := by decide +kernel
theorem d_T_thinned_0 : decode M_T_thinned.2.1 0 = .ok (.iload_n 0, 1) := by decide +kernel
theorem d_T_thinned_1 : decode M_T_thinned.2.1 1 = .ok (.invokestatic 120, 3) := by decide +kernel
theorem d_T_thinned_4 : decode M_T_thinned.2.1 4 = .ok (.iload_n 1, 1) := by decide +kernel
theorem d_T_thinned_5 : decode M_T_thinned.2.1 5 = .ok (.i2l, 1) := by decide +kernel
theorem d_T_thinned_6 : decode M_T_thinned.2.1 6 = .ok (.ldiv, 1) := by decide +kernel
theorem d_T_thinned_7 : decode M_T_thinned.2.1 7 = .ok (.lstore_n 2, 1) := by decide +kernel
theorem d_T_thinned_8 : decode M_T_thinned.2.1 8 = .ok (.lload_n 2, 1) := by decide +kernel
theorem d_T_thinned_9 : decode M_T_thinned.2.1 9 = .ok (.lconst 0, 1) := by decide +kernel
theorem d_T_thinned_10 : decode M_T_thinned.2.1 10 = .ok (.lcmp, 1) := by decide +kernel
theorem d_T_thinned_11 : decode M_T_thinned.2.1 11 = .ok (.ifCond .ne (5), 3) := by decide +kernel
theorem d_T_thinned_14 : decode M_T_thinned.2.1 14 = .ok (.iconst 0, 1) := by decide +kernel
theorem d_T_thinned_15 : decode M_T_thinned.2.1 15 = .ok (.ireturn, 1) := by decide +kernel
theorem d_T_thinned_16 : decode M_T_thinned.2.1 16 = .ok (.lload_n 2, 1) := by decide +kernel
theorem d_T_thinned_17 : decode M_T_thinned.2.1 17 = .ok (.iload_n 1, 1) := by decide +kernel
theorem d_T_thinned_18 : decode M_T_thinned.2.1 18 = .ok (.i2l, 1) := by decide +kernel
theorem d_T_thinned_19 : decode M_T_thinned.2.1 19 = .ok (.lmul, 1) := by decide +kernel
theorem d_T_thinned_20 : decode M_T_thinned.2.1 20 = .ok (.iload_n 1, 1) := by decide +kernel
theorem d_T_thinned_21 : decode M_T_thinned.2.1 21 = .ok (.iconst 2, 1) := by decide +kernel
theorem d_T_thinned_22 : decode M_T_thinned.2.1 22 = .ok (.idiv, 1) := by decide +kernel
theorem d_T_thinned_23 : decode M_T_thinned.2.1 23 = .ok (.i2l, 1) := by decide +kernel
theorem d_T_thinned_24 : decode M_T_thinned.2.1 24 = .ok (.ladd, 1) := by decide +kernel
theorem d_T_thinned_25 : decode M_T_thinned.2.1 25 = .ok (.lstore 4, 2) := by decide +kernel
theorem d_T_thinned_27 : decode M_T_thinned.2.1 27 = .ok (.iload_n 0, 1) := by decide +kernel
theorem d_T_thinned_28 : decode M_T_thinned.2.1 28 = .ok (.ifCond .ge (9), 3) := by decide +kernel
theorem d_T_thinned_31 : decode M_T_thinned.2.1 31 = .ok (.lload 4, 2) := by decide +kernel
theorem d_T_thinned_33 : decode M_T_thinned.2.1 33 = .ok (.lneg, 1) := by decide +kernel
theorem d_T_thinned_34 : decode M_T_thinned.2.1 34 = .ok (.goto (5), 3) := by decide +kernel
theorem d_T_thinned_37 : decode M_T_thinned.2.1 37 = .ok (.lload 4, 2) := by decide +kernel
theorem d_T_thinned_39 : decode M_T_thinned.2.1 39 = .ok (.l2i, 1) := by decide +kernel
theorem d_T_thinned_40 : decode M_T_thinned.2.1 40 = .ok (.ireturn, 1) := by decide +kernel
theorem d_T_amountOf_0 : decode M_T_amountOf.2.1 0 = .ok (.iload_n 0, 1) := by decide +kernel
theorem d_T_amountOf_1 : decode M_T_amountOf.2.1 1 = .ok (.i2l, 1) := by decide +kernel
theorem d_T_amountOf_2 : decode M_T_amountOf.2.1 2 = .ok (.invokestatic 155, 3) := by decide +kernel
theorem d_T_amountOf_5 : decode M_T_amountOf.2.1 5 = .ok (.lreturn, 1) := by decide +kernel
theorem d_J_fill_0 : decode M_J_fill.2.1 0 = .ok (.iconst 0, 1) := by decide +kernel
theorem d_J_fill_1 : decode M_J_fill.2.1 1 = .ok (.istore_n 2, 1) := by decide +kernel
theorem d_J_fill_2 : decode M_J_fill.2.1 2 = .ok (.aload_n 0, 1) := by decide +kernel
theorem d_J_fill_3 : decode M_J_fill.2.1 3 = .ok (.arraylength, 1) := by decide +kernel
theorem d_J_fill_4 : decode M_J_fill.2.1 4 = .ok (.istore_n 3, 1) := by decide +kernel
theorem d_J_fill_5 : decode M_J_fill.2.1 5 = .ok (.iload_n 2, 1) := by decide +kernel
theorem d_J_fill_6 : decode M_J_fill.2.1 6 = .ok (.iload_n 3, 1) := by decide +kernel
theorem d_J_fill_7 : decode M_J_fill.2.1 7 = .ok (.if_icmp .ge (13), 3) := by decide +kernel
theorem d_J_fill_10 : decode M_J_fill.2.1 10 = .ok (.aload_n 0, 1) := by decide +kernel
theorem d_J_fill_11 : decode M_J_fill.2.1 11 = .ok (.iload_n 2, 1) := by decide +kernel
theorem d_J_fill_12 : decode M_J_fill.2.1 12 = .ok (.iload_n 1, 1) := by decide +kernel
theorem d_J_fill_13 : decode M_J_fill.2.1 13 = .ok (.iastore, 1) := by decide +kernel
theorem d_J_fill_14 : decode M_J_fill.2.1 14 = .ok (.iinc 2 (1), 3) := by decide +kernel
theorem d_J_fill_17 : decode M_J_fill.2.1 17 = .ok (.goto (-12), 3) := by decide +kernel
theorem d_J_fill_20 : decode M_J_fill.2.1 20 = .ok (.return_, 1) := by decide +kernel
end
section
theorem d_S_cover_0 : decode M_S_cover.2.1 0 = .ok (.aload_n 0, 1) := by decide +kernel
theorem d_S_cover_1 : decode M_S_cover.2.1 1 = .ok (.iload_n 1, 1) := by decide +kernel
theorem d_S_cover_2 : decode M_S_cover.2.1 2 = .ok (.putfield 13, 3) := by decide +kernel
theorem d_S_cover_5 : decode M_S_cover.2.1 5 = .ok (.aload_n 0, 1) := by decide +kernel
theorem d_S_cover_6 : decode M_S_cover.2.1 6 = .ok (.iload_n 2, 1) := by decide +kernel
theorem d_S_cover_7 : decode M_S_cover.2.1 7 = .ok (.putfield 16, 3) := by decide +kernel
theorem d_S_cover_10 : decode M_S_cover.2.1 10 = .ok (.return_, 1) := by decide +kernel
theorem d_S_holds_0 : decode M_S_holds.2.1 0 = .ok (.lload_n 1, 1) := by decide +kernel
theorem d_S_holds_1 : decode M_S_holds.2.1 1 = .ok (.aload_n 0, 1) := by decide +kernel
theorem d_S_holds_2 : decode M_S_holds.2.1 2 = .ok (.getfield 13, 3) := by decide +kernel
theorem d_S_holds_5 : decode M_S_holds.2.1 5 = .ok (.i2l, 1) := by decide +kernel
theorem d_S_holds_6 : decode M_S_holds.2.1 6 = .ok (.lcmp, 1) := by decide +kernel
theorem d_S_holds_7 : decode M_S_holds.2.1 7 = .ok (.ifCond .lt (22), 3) := by decide +kernel
theorem d_S_holds_10 : decode M_S_holds.2.1 10 = .ok (.lload_n 1, 1) := by decide +kernel
theorem d_S_holds_11 : decode M_S_holds.2.1 11 = .ok (.aload_n 0, 1) := by decide +kernel
theorem d_S_holds_12 : decode M_S_holds.2.1 12 = .ok (.getfield 13, 3) := by decide +kernel
theorem d_S_holds_15 : decode M_S_holds.2.1 15 = .ok (.aload_n 0, 1) := by decide +kernel
theorem d_S_holds_16 : decode M_S_holds.2.1 16 = .ok (.getfield 16, 3) := by decide +kernel
theorem d_S_holds_19 : decode M_S_holds.2.1 19 = .ok (.iadd, 1) := by decide +kernel
theorem d_S_holds_20 : decode M_S_holds.2.1 20 = .ok (.i2l, 1) := by decide +kernel
theorem d_S_holds_21 : decode M_S_holds.2.1 21 = .ok (.lcmp, 1) := by decide +kernel
theorem d_S_holds_22 : decode M_S_holds.2.1 22 = .ok (.ifCond .ge (7), 3) := by decide +kernel
theorem d_S_holds_25 : decode M_S_holds.2.1 25 = .ok (.iconst 1, 1) := by decide +kernel
theorem d_S_holds_26 : decode M_S_holds.2.1 26 = .ok (.goto (4), 3) := by decide +kernel
theorem d_S_holds_29 : decode M_S_holds.2.1 29 = .ok (.iconst 0, 1) := by decide +kernel
theorem d_S_holds_30 : decode M_S_holds.2.1 30 = .ok (.ireturn, 1) := by decide +kernel
theorem d_S_offsetOf_0 : decode M_S_offsetOf.2.1 0 = .ok (.lload_n 1, 1) := by decide +kernel
theorem d_S_offsetOf_1 : decode M_S_offsetOf.2.1 1 = .ok (.aload_n 0, 1) := by decide +kernel
theorem d_S_offsetOf_2 : decode M_S_offsetOf.2.1 2 = .ok (.getfield 13, 3) := by decide +kernel
theorem d_S_offsetOf_5 : decode M_S_offsetOf.2.1 5 = .ok (.i2l, 1) := by decide +kernel
theorem d_S_offsetOf_6 : decode M_S_offsetOf.2.1 6 = .ok (.lsub, 1) := by decide +kernel
theorem d_S_offsetOf_7 : decode M_S_offsetOf.2.1 7 = .ok (.l2i, 1) := by decide +kernel
theorem d_S_offsetOf_8 : decode M_S_offsetOf.2.1 8 = .ok (.aload_n 0, 1) := by decide +kernel
theorem d_S_offsetOf_9 : decode M_S_offsetOf.2.1 9 = .ok (.getfield 7, 3) := by decide +kernel
theorem d_S_offsetOf_12 : decode M_S_offsetOf.2.1 12 = .ok (.imul, 1) := by decide +kernel
theorem d_S_offsetOf_13 : decode M_S_offsetOf.2.1 13 = .ok (.ireturn, 1) := by decide +kernel
theorem d_S_firstOf_0 : decode M_S_firstOf.2.1 0 = .ok (.aload_n 0, 1) := by decide +kernel
theorem d_S_firstOf_1 : decode M_S_firstOf.2.1 1 = .ok (.getfield 13, 3) := by decide +kernel
theorem d_S_firstOf_4 : decode M_S_firstOf.2.1 4 = .ok (.iload_n 1, 1) := by decide +kernel
theorem d_S_firstOf_5 : decode M_S_firstOf.2.1 5 = .ok (.iload_n 2, 1) := by decide +kernel
theorem d_S_firstOf_6 : decode M_S_firstOf.2.1 6 = .ok (.invokestatic 19, 3) := by decide +kernel
theorem d_S_firstOf_9 : decode M_S_firstOf.2.1 9 = .ok (.ireturn, 1) := by decide +kernel
theorem d_S_countOf_0 : decode M_S_countOf.2.1 0 = .ok (.aload_n 0, 1) := by decide +kernel
theorem d_S_countOf_1 : decode M_S_countOf.2.1 1 = .ok (.getfield 13, 3) := by decide +kernel
theorem d_S_countOf_4 : decode M_S_countOf.2.1 4 = .ok (.aload_n 0, 1) := by decide +kernel
theorem d_S_countOf_5 : decode M_S_countOf.2.1 5 = .ok (.getfield 16, 3) := by decide +kernel
theorem d_S_countOf_8 : decode M_S_countOf.2.1 8 = .ok (.iadd, 1) := by decide +kernel
theorem d_S_countOf_9 : decode M_S_countOf.2.1 9 = .ok (.iload_n 1, 1) := by decide +kernel
theorem d_S_countOf_10 : decode M_S_countOf.2.1 10 = .ok (.iload_n 2, 1) := by decide +kernel
theorem d_S_countOf_11 : decode M_S_countOf.2.1 11 = .ok (.invokestatic 19, 3) := by decide +kernel
theorem d_S_countOf_14 : decode M_S_countOf.2.1 14 = .ok (.aload_n 0, 1) := by decide +kernel
theorem d_S_countOf_15 : decode M_S_countOf.2.1 15 = .ok (.getfield 13, 3) := by decide +kernel
theorem d_S_countOf_18 : decode M_S_countOf.2.1 18 = .ok (.iload_n 1, 1) := by decide +kernel
theorem d_S_countOf_19 : decode M_S_countOf.2.1 19 = .ok (.iload_n 2, 1) := by decide +kernel
theorem d_S_countOf_20 : decode M_S_countOf.2.1 20 = .ok (.invokestatic 19, 3) := by decide +kernel
theorem d_S_countOf_23 : decode M_S_countOf.2.1 23 = .ok (.isub, 1) := by decide +kernel
theorem d_S_countOf_24 : decode M_S_countOf.2.1 24 = .ok (.ireturn, 1) := by decide +kernel
theorem d_S_leastFrom_0 : decode M_S_leastFrom.2.1 0 = .ok (.iload_n 0, 1) := by decide +kernel
theorem d_S_leastFrom_1 : decode M_S_leastFrom.2.1 1 = .ok (.iload_n 2, 1) := by decide +kernel
theorem d_S_leastFrom_2 : decode M_S_leastFrom.2.1 2 = .ok (.isub, 1) := by decide +kernel
theorem d_S_leastFrom_3 : decode M_S_leastFrom.2.1 3 = .ok (.iconst 1, 1) := by decide +kernel
theorem d_S_leastFrom_4 : decode M_S_leastFrom.2.1 4 = .ok (.iload_n 1, 1) := by decide +kernel
theorem d_S_leastFrom_5 : decode M_S_leastFrom.2.1 5 = .ok (.ishl, 1) := by decide +kernel
theorem d_S_leastFrom_6 : decode M_S_leastFrom.2.1 6 = .ok (.iadd, 1) := by decide +kernel
theorem d_S_leastFrom_7 : decode M_S_leastFrom.2.1 7 = .ok (.iconst 1, 1) := by decide +kernel
theorem d_S_leastFrom_8 : decode M_S_leastFrom.2.1 8 = .ok (.isub, 1) := by decide +kernel
theorem d_S_leastFrom_9 : decode M_S_leastFrom.2.1 9 = .ok (.iload_n 1, 1) := by decide +kernel
theorem d_S_leastFrom_10 : decode M_S_leastFrom.2.1 10 = .ok (.ishr, 1) := by decide +kernel
theorem d_S_leastFrom_11 : decode M_S_leastFrom.2.1 11 = .ok (.ireturn, 1) := by decide +kernel
theorem d_L_readFrom_0 : decode M_L_readFrom.2.1 0 = .ok (.aload_n 0, 1) := by decide +kernel
theorem d_L_readFrom_1 : decode M_L_readFrom.2.1 1 = .ok (.iload 4, 2) := by decide +kernel
theorem d_L_readFrom_3 : decode M_L_readFrom.2.1 3 = .ok (.putfield 15, 3) := by decide +kernel
theorem d_L_readFrom_6 : decode M_L_readFrom.2.1 6 = .ok (.aload_n 0, 1) := by decide +kernel
theorem d_L_readFrom_7 : decode M_L_readFrom.2.1 7 = .ok (.iload 4, 2) := by decide +kernel
theorem d_L_readFrom_9 : decode M_L_readFrom.2.1 9 = .ok (.iload 5, 2) := by decide +kernel
theorem d_L_readFrom_11 : decode M_L_readFrom.2.1 11 = .ok (.iadd, 1) := by decide +kernel
theorem d_L_readFrom_12 : decode M_L_readFrom.2.1 12 = .ok (.iconst 1, 1) := by decide +kernel
theorem d_L_readFrom_13 : decode M_L_readFrom.2.1 13 = .ok (.isub, 1) := by decide +kernel
theorem d_L_readFrom_14 : decode M_L_readFrom.2.1 14 = .ok (.putfield 19, 3) := by decide +kernel
theorem d_L_readFrom_17 : decode M_L_readFrom.2.1 17 = .ok (.iconst 0, 1) := by decide +kernel
theorem d_L_readFrom_18 : decode M_L_readFrom.2.1 18 = .ok (.istore 6, 2) := by decide +kernel
theorem d_L_readFrom_20 : decode M_L_readFrom.2.1 20 = .ok (.iload 6, 2) := by decide +kernel
theorem d_L_readFrom_22 : decode M_L_readFrom.2.1 22 = .ok (.iload 5, 2) := by decide +kernel
theorem d_L_readFrom_24 : decode M_L_readFrom.2.1 24 = .ok (.if_icmp .ge (24), 3) := by decide +kernel
theorem d_L_readFrom_27 : decode M_L_readFrom.2.1 27 = .ok (.aload_n 0, 1) := by decide +kernel
theorem d_L_readFrom_28 : decode M_L_readFrom.2.1 28 = .ok (.getfield 9, 3) := by decide +kernel
theorem d_L_readFrom_31 : decode M_L_readFrom.2.1 31 = .ok (.iload 6, 2) := by decide +kernel
theorem d_L_readFrom_33 : decode M_L_readFrom.2.1 33 = .ok (.aload_n 1, 1) := by decide +kernel
theorem d_L_readFrom_34 : decode M_L_readFrom.2.1 34 = .ok (.iload_n 2, 1) := by decide +kernel
theorem d_L_readFrom_35 : decode M_L_readFrom.2.1 35 = .ok (.iload 6, 2) := by decide +kernel
theorem d_L_readFrom_37 : decode M_L_readFrom.2.1 37 = .ok (.iload_n 3, 1) := by decide +kernel
theorem d_L_readFrom_38 : decode M_L_readFrom.2.1 38 = .ok (.imul, 1) := by decide +kernel
theorem d_L_readFrom_39 : decode M_L_readFrom.2.1 39 = .ok (.iadd, 1) := by decide +kernel
theorem d_L_readFrom_40 : decode M_L_readFrom.2.1 40 = .ok (.iaload, 1) := by decide +kernel
theorem d_L_readFrom_41 : decode M_L_readFrom.2.1 41 = .ok (.iastore, 1) := by decide +kernel
theorem d_L_readFrom_42 : decode M_L_readFrom.2.1 42 = .ok (.iinc 6 (1), 3) := by decide +kernel
theorem d_L_readFrom_45 : decode M_L_readFrom.2.1 45 = .ok (.goto (-25), 3) := by decide +kernel
theorem d_L_readFrom_48 : decode M_L_readFrom.2.1 48 = .ok (.return_, 1) := by decide +kernel
theorem d_L_writeTo_0 : decode M_L_writeTo.2.1 0 = .ok (.iconst 0, 1) := by decide +kernel
theorem d_L_writeTo_1 : decode M_L_writeTo.2.1 1 = .ok (.istore 4, 2) := by decide +kernel
theorem d_L_writeTo_3 : decode M_L_writeTo.2.1 3 = .ok (.iload 4, 2) := by decide +kernel
theorem d_L_writeTo_5 : decode M_L_writeTo.2.1 5 = .ok (.aload_n 0, 1) := by decide +kernel
theorem d_L_writeTo_6 : decode M_L_writeTo.2.1 6 = .ok (.getfield 19, 3) := by decide +kernel
theorem d_L_writeTo_9 : decode M_L_writeTo.2.1 9 = .ok (.aload_n 0, 1) := by decide +kernel
theorem d_L_writeTo_10 : decode M_L_writeTo.2.1 10 = .ok (.getfield 15, 3) := by decide +kernel
theorem d_L_writeTo_13 : decode M_L_writeTo.2.1 13 = .ok (.isub, 1) := by decide +kernel
theorem d_L_writeTo_14 : decode M_L_writeTo.2.1 14 = .ok (.if_icmp .gt (24), 3) := by decide +kernel
theorem d_L_writeTo_17 : decode M_L_writeTo.2.1 17 = .ok (.aload_n 1, 1) := by decide +kernel
theorem d_L_writeTo_18 : decode M_L_writeTo.2.1 18 = .ok (.iload_n 2, 1) := by decide +kernel
theorem d_L_writeTo_19 : decode M_L_writeTo.2.1 19 = .ok (.iload 4, 2) := by decide +kernel
theorem d_L_writeTo_21 : decode M_L_writeTo.2.1 21 = .ok (.iload_n 3, 1) := by decide +kernel
theorem d_L_writeTo_22 : decode M_L_writeTo.2.1 22 = .ok (.imul, 1) := by decide +kernel
theorem d_L_writeTo_23 : decode M_L_writeTo.2.1 23 = .ok (.iadd, 1) := by decide +kernel
theorem d_L_writeTo_24 : decode M_L_writeTo.2.1 24 = .ok (.aload_n 0, 1) := by decide +kernel
theorem d_L_writeTo_25 : decode M_L_writeTo.2.1 25 = .ok (.getfield 9, 3) := by decide +kernel
theorem d_L_writeTo_28 : decode M_L_writeTo.2.1 28 = .ok (.iload 4, 2) := by decide +kernel
theorem d_L_writeTo_30 : decode M_L_writeTo.2.1 30 = .ok (.iaload, 1) := by decide +kernel
theorem d_L_writeTo_31 : decode M_L_writeTo.2.1 31 = .ok (.iastore, 1) := by decide +kernel
theorem d_L_writeTo_32 : decode M_L_writeTo.2.1 32 = .ok (.iinc 4 (1), 3) := by decide +kernel
theorem d_L_writeTo_35 : decode M_L_writeTo.2.1 35 = .ok (.goto (-32), 3) := by decide +kernel
theorem d_L_writeTo_38 : decode M_L_writeTo.2.1 38 = .ok (.return_, 1) := by decide +kernel
theorem d_L_liftForth_0 : decode M_L_liftForth.2.1 0 = .ok (.aload_n 0, 1) := by decide +kernel
theorem d_L_liftForth_1 : decode M_L_liftForth.2.1 1 = .ok (.getfield 15, 3) := by decide +kernel
theorem d_L_liftForth_4 : decode M_L_liftForth.2.1 4 = .ok (.aload_n 0, 1) := by decide +kernel
theorem d_L_liftForth_5 : decode M_L_liftForth.2.1 5 = .ok (.getfield 19, 3) := by decide +kernel
theorem d_L_liftForth_8 : decode M_L_liftForth.2.1 8 = .ok (.if_icmp .ne (37), 3) := by decide +kernel
theorem d_L_liftForth_11 : decode M_L_liftForth.2.1 11 = .ok (.aload_n 0, 1) := by decide +kernel
theorem d_L_liftForth_12 : decode M_L_liftForth.2.1 12 = .ok (.getfield 9, 3) := by decide +kernel
theorem d_L_liftForth_15 : decode M_L_liftForth.2.1 15 = .ok (.iconst 0, 1) := by decide +kernel
theorem d_L_liftForth_16 : decode M_L_liftForth.2.1 16 = .ok (.aload_n 0, 1) := by decide +kernel
theorem d_L_liftForth_17 : decode M_L_liftForth.2.1 17 = .ok (.getfield 15, 3) := by decide +kernel
theorem d_L_liftForth_20 : decode M_L_liftForth.2.1 20 = .ok (.invokestatic 22, 3) := by decide +kernel
theorem d_L_liftForth_23 : decode M_L_liftForth.2.1 23 = .ok (.ifCond .eq (14), 3) := by decide +kernel
theorem d_L_liftForth_26 : decode M_L_liftForth.2.1 26 = .ok (.aload_n 0, 1) := by decide +kernel
theorem d_L_liftForth_27 : decode M_L_liftForth.2.1 27 = .ok (.getfield 9, 3) := by decide +kernel
theorem d_L_liftForth_30 : decode M_L_liftForth.2.1 30 = .ok (.iconst 0, 1) := by decide +kernel
theorem d_L_liftForth_31 : decode M_L_liftForth.2.1 31 = .ok (.iaload, 1) := by decide +kernel
theorem d_L_liftForth_32 : decode M_L_liftForth.2.1 32 = .ok (.iconst 2, 1) := by decide +kernel
theorem d_L_liftForth_33 : decode M_L_liftForth.2.1 33 = .ok (.imul, 1) := by decide +kernel
theorem d_L_liftForth_34 : decode M_L_liftForth.2.1 34 = .ok (.goto (9), 3) := by decide +kernel
theorem d_L_liftForth_37 : decode M_L_liftForth.2.1 37 = .ok (.aload_n 0, 1) := by decide +kernel
theorem d_L_liftForth_38 : decode M_L_liftForth.2.1 38 = .ok (.getfield 9, 3) := by decide +kernel
theorem d_L_liftForth_41 : decode M_L_liftForth.2.1 41 = .ok (.iconst 0, 1) := by decide +kernel
theorem d_L_liftForth_42 : decode M_L_liftForth.2.1 42 = .ok (.iaload, 1) := by decide +kernel
theorem d_L_liftForth_43 : decode M_L_liftForth.2.1 43 = .ok (.iastore, 1) := by decide +kernel
theorem d_L_liftForth_44 : decode M_L_liftForth.2.1 44 = .ok (.return_, 1) := by decide +kernel
theorem d_L_liftForth_45 : decode M_L_liftForth.2.1 45 = .ok (.aload_n 0, 1) := by decide +kernel
theorem d_L_liftForth_46 : decode M_L_liftForth.2.1 46 = .ok (.invokevirtual 26, 3) := by decide +kernel
theorem d_L_liftForth_49 : decode M_L_liftForth.2.1 49 = .ok (.istore_n 2, 1) := by decide +kernel
theorem d_L_liftForth_50 : decode M_L_liftForth.2.1 50 = .ok (.iload_n 2, 1) := by decide +kernel
theorem d_L_liftForth_51 : decode M_L_liftForth.2.1 51 = .ok (.aload_n 0, 1) := by decide +kernel
theorem d_L_liftForth_52 : decode M_L_liftForth.2.1 52 = .ok (.getfield 19, 3) := by decide +kernel
theorem d_L_liftForth_55 : decode M_L_liftForth.2.1 55 = .ok (.if_icmp .gt (29), 3) := by decide +kernel
theorem d_L_liftForth_58 : decode M_L_liftForth.2.1 58 = .ok (.aload_n 0, 1) := by decide +kernel
theorem d_L_liftForth_59 : decode M_L_liftForth.2.1 59 = .ok (.getfield 9, 3) := by decide +kernel
theorem d_L_liftForth_62 : decode M_L_liftForth.2.1 62 = .ok (.iload_n 2, 1) := by decide +kernel
theorem d_L_liftForth_63 : decode M_L_liftForth.2.1 63 = .ok (.aload_n 0, 1) := by decide +kernel
theorem d_L_liftForth_64 : decode M_L_liftForth.2.1 64 = .ok (.getfield 15, 3) := by decide +kernel
theorem d_L_liftForth_67 : decode M_L_liftForth.2.1 67 = .ok (.isub, 1) := by decide +kernel
theorem d_L_liftForth_68 : decode M_L_liftForth.2.1 68 = .ok (.dup2, 1) := by decide +kernel
theorem d_L_liftForth_69 : decode M_L_liftForth.2.1 69 = .ok (.iaload, 1) := by decide +kernel
theorem d_L_liftForth_70 : decode M_L_liftForth.2.1 70 = .ok (.aload_n 0, 1) := by decide +kernel
theorem d_L_liftForth_71 : decode M_L_liftForth.2.1 71 = .ok (.iload_n 1, 1) := by decide +kernel
theorem d_L_liftForth_72 : decode M_L_liftForth.2.1 72 = .ok (.iload_n 2, 1) := by decide +kernel
theorem d_L_liftForth_73 : decode M_L_liftForth.2.1 73 = .ok (.invokevirtual 30, 3) := by decide +kernel
theorem d_L_liftForth_76 : decode M_L_liftForth.2.1 76 = .ok (.isub, 1) := by decide +kernel
theorem d_L_liftForth_77 : decode M_L_liftForth.2.1 77 = .ok (.iastore, 1) := by decide +kernel
theorem d_L_liftForth_78 : decode M_L_liftForth.2.1 78 = .ok (.iinc 2 (2), 3) := by decide +kernel
theorem d_L_liftForth_81 : decode M_L_liftForth.2.1 81 = .ok (.goto (-31), 3) := by decide +kernel
theorem d_L_liftForth_84 : decode M_L_liftForth.2.1 84 = .ok (.aload_n 0, 1) := by decide +kernel
theorem d_L_liftForth_85 : decode M_L_liftForth.2.1 85 = .ok (.invokevirtual 34, 3) := by decide +kernel
theorem d_L_liftForth_88 : decode M_L_liftForth.2.1 88 = .ok (.istore_n 2, 1) := by decide +kernel
theorem d_L_liftForth_89 : decode M_L_liftForth.2.1 89 = .ok (.iload_n 2, 1) := by decide +kernel
theorem d_L_liftForth_90 : decode M_L_liftForth.2.1 90 = .ok (.aload_n 0, 1) := by decide +kernel
theorem d_L_liftForth_91 : decode M_L_liftForth.2.1 91 = .ok (.getfield 19, 3) := by decide +kernel
theorem d_L_liftForth_94 : decode M_L_liftForth.2.1 94 = .ok (.if_icmp .gt (29), 3) := by decide +kernel
theorem d_L_liftForth_97 : decode M_L_liftForth.2.1 97 = .ok (.aload_n 0, 1) := by decide +kernel
theorem d_L_liftForth_98 : decode M_L_liftForth.2.1 98 = .ok (.getfield 9, 3) := by decide +kernel
theorem d_L_liftForth_101 : decode M_L_liftForth.2.1 101 = .ok (.iload_n 2, 1) := by decide +kernel
theorem d_L_liftForth_102 : decode M_L_liftForth.2.1 102 = .ok (.aload_n 0, 1) := by decide +kernel
theorem d_L_liftForth_103 : decode M_L_liftForth.2.1 103 = .ok (.getfield 15, 3) := by decide +kernel
theorem d_L_liftForth_106 : decode M_L_liftForth.2.1 106 = .ok (.isub, 1) := by decide +kernel
theorem d_L_liftForth_107 : decode M_L_liftForth.2.1 107 = .ok (.dup2, 1) := by decide +kernel
theorem d_L_liftForth_108 : decode M_L_liftForth.2.1 108 = .ok (.iaload, 1) := by decide +kernel
theorem d_L_liftForth_109 : decode M_L_liftForth.2.1 109 = .ok (.aload_n 0, 1) := by decide +kernel
theorem d_L_liftForth_110 : decode M_L_liftForth.2.1 110 = .ok (.iload_n 1, 1) := by decide +kernel
theorem d_L_liftForth_111 : decode M_L_liftForth.2.1 111 = .ok (.iload_n 2, 1) := by decide +kernel
theorem d_L_liftForth_112 : decode M_L_liftForth.2.1 112 = .ok (.invokevirtual 37, 3) := by decide +kernel
theorem d_L_liftForth_115 : decode M_L_liftForth.2.1 115 = .ok (.iadd, 1) := by decide +kernel
theorem d_L_liftForth_116 : decode M_L_liftForth.2.1 116 = .ok (.iastore, 1) := by decide +kernel
theorem d_L_liftForth_117 : decode M_L_liftForth.2.1 117 = .ok (.iinc 2 (2), 3) := by decide +kernel
theorem d_L_liftForth_120 : decode M_L_liftForth.2.1 120 = .ok (.goto (-31), 3) := by decide +kernel
theorem d_L_liftForth_123 : decode M_L_liftForth.2.1 123 = .ok (.return_, 1) := by decide +kernel
theorem d_L_liftBack_0 : decode M_L_liftBack.2.1 0 = .ok (.aload_n 0, 1) := by decide +kernel
theorem d_L_liftBack_1 : decode M_L_liftBack.2.1 1 = .ok (.getfield 15, 3) := by decide +kernel
theorem d_L_liftBack_4 : decode M_L_liftBack.2.1 4 = .ok (.aload_n 0, 1) := by decide +kernel
theorem d_L_liftBack_5 : decode M_L_liftBack.2.1 5 = .ok (.getfield 19, 3) := by decide +kernel
theorem d_L_liftBack_8 : decode M_L_liftBack.2.1 8 = .ok (.if_icmp .ne (37), 3) := by decide +kernel
theorem d_L_liftBack_11 : decode M_L_liftBack.2.1 11 = .ok (.aload_n 0, 1) := by decide +kernel
theorem d_L_liftBack_12 : decode M_L_liftBack.2.1 12 = .ok (.getfield 9, 3) := by decide +kernel
theorem d_L_liftBack_15 : decode M_L_liftBack.2.1 15 = .ok (.iconst 0, 1) := by decide +kernel
theorem d_L_liftBack_16 : decode M_L_liftBack.2.1 16 = .ok (.aload_n 0, 1) := by decide +kernel
theorem d_L_liftBack_17 : decode M_L_liftBack.2.1 17 = .ok (.getfield 15, 3) := by decide +kernel
theorem d_L_liftBack_20 : decode M_L_liftBack.2.1 20 = .ok (.invokestatic 22, 3) := by decide +kernel
theorem d_L_liftBack_23 : decode M_L_liftBack.2.1 23 = .ok (.ifCond .eq (14), 3) := by decide +kernel
theorem d_L_liftBack_26 : decode M_L_liftBack.2.1 26 = .ok (.aload_n 0, 1) := by decide +kernel
theorem d_L_liftBack_27 : decode M_L_liftBack.2.1 27 = .ok (.getfield 9, 3) := by decide +kernel
theorem d_L_liftBack_30 : decode M_L_liftBack.2.1 30 = .ok (.iconst 0, 1) := by decide +kernel
theorem d_L_liftBack_31 : decode M_L_liftBack.2.1 31 = .ok (.iaload, 1) := by decide +kernel
theorem d_L_liftBack_32 : decode M_L_liftBack.2.1 32 = .ok (.iconst 1, 1) := by decide +kernel
theorem d_L_liftBack_33 : decode M_L_liftBack.2.1 33 = .ok (.ishr, 1) := by decide +kernel
theorem d_L_liftBack_34 : decode M_L_liftBack.2.1 34 = .ok (.goto (9), 3) := by decide +kernel
theorem d_L_liftBack_37 : decode M_L_liftBack.2.1 37 = .ok (.aload_n 0, 1) := by decide +kernel
theorem d_L_liftBack_38 : decode M_L_liftBack.2.1 38 = .ok (.getfield 9, 3) := by decide +kernel
theorem d_L_liftBack_41 : decode M_L_liftBack.2.1 41 = .ok (.iconst 0, 1) := by decide +kernel
theorem d_L_liftBack_42 : decode M_L_liftBack.2.1 42 = .ok (.iaload, 1) := by decide +kernel
theorem d_L_liftBack_43 : decode M_L_liftBack.2.1 43 = .ok (.iastore, 1) := by decide +kernel
theorem d_L_liftBack_44 : decode M_L_liftBack.2.1 44 = .ok (.return_, 1) := by decide +kernel
theorem d_L_liftBack_45 : decode M_L_liftBack.2.1 45 = .ok (.aload_n 0, 1) := by decide +kernel
theorem d_L_liftBack_46 : decode M_L_liftBack.2.1 46 = .ok (.invokevirtual 34, 3) := by decide +kernel
theorem d_L_liftBack_49 : decode M_L_liftBack.2.1 49 = .ok (.istore_n 2, 1) := by decide +kernel
theorem d_L_liftBack_50 : decode M_L_liftBack.2.1 50 = .ok (.iload_n 2, 1) := by decide +kernel
theorem d_L_liftBack_51 : decode M_L_liftBack.2.1 51 = .ok (.aload_n 0, 1) := by decide +kernel
theorem d_L_liftBack_52 : decode M_L_liftBack.2.1 52 = .ok (.getfield 19, 3) := by decide +kernel
theorem d_L_liftBack_55 : decode M_L_liftBack.2.1 55 = .ok (.if_icmp .gt (29), 3) := by decide +kernel
theorem d_L_liftBack_58 : decode M_L_liftBack.2.1 58 = .ok (.aload_n 0, 1) := by decide +kernel
theorem d_L_liftBack_59 : decode M_L_liftBack.2.1 59 = .ok (.getfield 9, 3) := by decide +kernel
theorem d_L_liftBack_62 : decode M_L_liftBack.2.1 62 = .ok (.iload_n 2, 1) := by decide +kernel
theorem d_L_liftBack_63 : decode M_L_liftBack.2.1 63 = .ok (.aload_n 0, 1) := by decide +kernel
theorem d_L_liftBack_64 : decode M_L_liftBack.2.1 64 = .ok (.getfield 15, 3) := by decide +kernel
theorem d_L_liftBack_67 : decode M_L_liftBack.2.1 67 = .ok (.isub, 1) := by decide +kernel
theorem d_L_liftBack_68 : decode M_L_liftBack.2.1 68 = .ok (.dup2, 1) := by decide +kernel
theorem d_L_liftBack_69 : decode M_L_liftBack.2.1 69 = .ok (.iaload, 1) := by decide +kernel
theorem d_L_liftBack_70 : decode M_L_liftBack.2.1 70 = .ok (.aload_n 0, 1) := by decide +kernel
theorem d_L_liftBack_71 : decode M_L_liftBack.2.1 71 = .ok (.iload_n 1, 1) := by decide +kernel
theorem d_L_liftBack_72 : decode M_L_liftBack.2.1 72 = .ok (.iload_n 2, 1) := by decide +kernel
theorem d_L_liftBack_73 : decode M_L_liftBack.2.1 73 = .ok (.invokevirtual 37, 3) := by decide +kernel
theorem d_L_liftBack_76 : decode M_L_liftBack.2.1 76 = .ok (.isub, 1) := by decide +kernel
theorem d_L_liftBack_77 : decode M_L_liftBack.2.1 77 = .ok (.iastore, 1) := by decide +kernel
theorem d_L_liftBack_78 : decode M_L_liftBack.2.1 78 = .ok (.iinc 2 (2), 3) := by decide +kernel
theorem d_L_liftBack_81 : decode M_L_liftBack.2.1 81 = .ok (.goto (-31), 3) := by decide +kernel
theorem d_L_liftBack_84 : decode M_L_liftBack.2.1 84 = .ok (.aload_n 0, 1) := by decide +kernel
theorem d_L_liftBack_85 : decode M_L_liftBack.2.1 85 = .ok (.invokevirtual 26, 3) := by decide +kernel
theorem d_L_liftBack_88 : decode M_L_liftBack.2.1 88 = .ok (.istore_n 2, 1) := by decide +kernel
theorem d_L_liftBack_89 : decode M_L_liftBack.2.1 89 = .ok (.iload_n 2, 1) := by decide +kernel
theorem d_L_liftBack_90 : decode M_L_liftBack.2.1 90 = .ok (.aload_n 0, 1) := by decide +kernel
theorem d_L_liftBack_91 : decode M_L_liftBack.2.1 91 = .ok (.getfield 19, 3) := by decide +kernel
theorem d_L_liftBack_94 : decode M_L_liftBack.2.1 94 = .ok (.if_icmp .gt (29), 3) := by decide +kernel
theorem d_L_liftBack_97 : decode M_L_liftBack.2.1 97 = .ok (.aload_n 0, 1) := by decide +kernel
theorem d_L_liftBack_98 : decode M_L_liftBack.2.1 98 = .ok (.getfield 9, 3) := by decide +kernel
theorem d_L_liftBack_101 : decode M_L_liftBack.2.1 101 = .ok (.iload_n 2, 1) := by decide +kernel
theorem d_L_liftBack_102 : decode M_L_liftBack.2.1 102 = .ok (.aload_n 0, 1) := by decide +kernel
theorem d_L_liftBack_103 : decode M_L_liftBack.2.1 103 = .ok (.getfield 15, 3) := by decide +kernel
theorem d_L_liftBack_106 : decode M_L_liftBack.2.1 106 = .ok (.isub, 1) := by decide +kernel
theorem d_L_liftBack_107 : decode M_L_liftBack.2.1 107 = .ok (.dup2, 1) := by decide +kernel
theorem d_L_liftBack_108 : decode M_L_liftBack.2.1 108 = .ok (.iaload, 1) := by decide +kernel
theorem d_L_liftBack_109 : decode M_L_liftBack.2.1 109 = .ok (.aload_n 0, 1) := by decide +kernel
theorem d_L_liftBack_110 : decode M_L_liftBack.2.1 110 = .ok (.iload_n 1, 1) := by decide +kernel
theorem d_L_liftBack_111 : decode M_L_liftBack.2.1 111 = .ok (.iload_n 2, 1) := by decide +kernel
theorem d_L_liftBack_112 : decode M_L_liftBack.2.1 112 = .ok (.invokevirtual 30, 3) := by decide +kernel
theorem d_L_liftBack_115 : decode M_L_liftBack.2.1 115 = .ok (.iadd, 1) := by decide +kernel
theorem d_L_liftBack_116 : decode M_L_liftBack.2.1 116 = .ok (.iastore, 1) := by decide +kernel
theorem d_L_liftBack_117 : decode M_L_liftBack.2.1 117 = .ok (.iinc 2 (2), 3) := by decide +kernel
theorem d_L_liftBack_120 : decode M_L_liftBack.2.1 120 = .ok (.goto (-31), 3) := by decide +kernel
theorem d_L_liftBack_123 : decode M_L_liftBack.2.1 123 = .ok (.return_, 1) := by decide +kernel
theorem d_L_prediction_0 : decode M_L_prediction.2.1 0 = .ok (.iload_n 1, 1) := by decide +kernel
theorem d_L_prediction_1 : decode M_L_prediction.2.1 1 = .ok (.lookupswitch (44) #[((0), (27)), ((1), (36))], 27) := by decide +kernel
theorem d_L_prediction_28 : decode M_L_prediction.2.1 28 = .ok (.aload_n 0, 1) := by decide +kernel
theorem d_L_prediction_29 : decode M_L_prediction.2.1 29 = .ok (.iload_n 2, 1) := by decide +kernel
theorem d_L_prediction_30 : decode M_L_prediction.2.1 30 = .ok (.iconst 1, 1) := by decide +kernel
theorem d_L_prediction_31 : decode M_L_prediction.2.1 31 = .ok (.invokevirtual 40, 3) := by decide +kernel
theorem d_L_prediction_34 : decode M_L_prediction.2.1 34 = .ok (.iconst 1, 1) := by decide +kernel
theorem d_L_prediction_35 : decode M_L_prediction.2.1 35 = .ok (.ishr, 1) := by decide +kernel
theorem d_L_prediction_36 : decode M_L_prediction.2.1 36 = .ok (.ireturn, 1) := by decide +kernel
theorem d_L_prediction_37 : decode M_L_prediction.2.1 37 = .ok (.aload_n 0, 1) := by decide +kernel
theorem d_L_prediction_38 : decode M_L_prediction.2.1 38 = .ok (.iload_n 2, 1) := by decide +kernel
theorem d_L_prediction_39 : decode M_L_prediction.2.1 39 = .ok (.iconst 1, 1) := by decide +kernel
theorem d_L_prediction_40 : decode M_L_prediction.2.1 40 = .ok (.isub, 1) := by decide +kernel
theorem d_L_prediction_41 : decode M_L_prediction.2.1 41 = .ok (.invokevirtual 43, 3) := by decide +kernel
theorem d_L_prediction_44 : decode M_L_prediction.2.1 44 = .ok (.ireturn, 1) := by decide +kernel
theorem d_L_prediction_45 : decode M_L_prediction.2.1 45 = .ok (.bipush (9), 2) := by decide +kernel
theorem d_L_prediction_47 : decode M_L_prediction.2.1 47 = .ok (.aload_n 0, 1) := by decide +kernel
theorem d_L_prediction_48 : decode M_L_prediction.2.1 48 = .ok (.iload_n 2, 1) := by decide +kernel
theorem d_L_prediction_49 : decode M_L_prediction.2.1 49 = .ok (.iconst 1, 1) := by decide +kernel
theorem d_L_prediction_50 : decode M_L_prediction.2.1 50 = .ok (.invokevirtual 40, 3) := by decide +kernel
theorem d_L_prediction_53 : decode M_L_prediction.2.1 53 = .ok (.imul, 1) := by decide +kernel
theorem d_L_prediction_54 : decode M_L_prediction.2.1 54 = .ok (.aload_n 0, 1) := by decide +kernel
theorem d_L_prediction_55 : decode M_L_prediction.2.1 55 = .ok (.iload_n 2, 1) := by decide +kernel
theorem d_L_prediction_56 : decode M_L_prediction.2.1 56 = .ok (.iconst 3, 1) := by decide +kernel
theorem d_L_prediction_57 : decode M_L_prediction.2.1 57 = .ok (.invokevirtual 40, 3) := by decide +kernel
theorem d_L_prediction_60 : decode M_L_prediction.2.1 60 = .ok (.isub, 1) := by decide +kernel
theorem d_L_prediction_61 : decode M_L_prediction.2.1 61 = .ok (.bipush (8), 2) := by decide +kernel
theorem d_L_prediction_63 : decode M_L_prediction.2.1 63 = .ok (.iadd, 1) := by decide +kernel
theorem d_L_prediction_64 : decode M_L_prediction.2.1 64 = .ok (.iconst 4, 1) := by decide +kernel
theorem d_L_prediction_65 : decode M_L_prediction.2.1 65 = .ok (.ishr, 1) := by decide +kernel
theorem d_L_prediction_66 : decode M_L_prediction.2.1 66 = .ok (.ireturn, 1) := by decide +kernel
theorem d_L_update_0 : decode M_L_update.2.1 0 = .ok (.iload_n 1, 1) := by decide +kernel
theorem d_L_update_1 : decode M_L_update.2.1 1 = .ok (.iconst 1, 1) := by decide +kernel
theorem d_L_update_2 : decode M_L_update.2.1 2 = .ok (.if_icmp .ne (15), 3) := by decide +kernel
theorem d_L_update_5 : decode M_L_update.2.1 5 = .ok (.aload_n 0, 1) := by decide +kernel
theorem d_L_update_6 : decode M_L_update.2.1 6 = .ok (.iload_n 2, 1) := by decide +kernel
theorem d_L_update_7 : decode M_L_update.2.1 7 = .ok (.iconst 1, 1) := by decide +kernel
theorem d_L_update_8 : decode M_L_update.2.1 8 = .ok (.iadd, 1) := by decide +kernel
theorem d_L_update_9 : decode M_L_update.2.1 9 = .ok (.invokevirtual 43, 3) := by decide +kernel
theorem d_L_update_12 : decode M_L_update.2.1 12 = .ok (.iconst 1, 1) := by decide +kernel
theorem d_L_update_13 : decode M_L_update.2.1 13 = .ok (.ishr, 1) := by decide +kernel
theorem d_L_update_14 : decode M_L_update.2.1 14 = .ok (.goto (13), 3) := by decide +kernel
theorem d_L_update_17 : decode M_L_update.2.1 17 = .ok (.aload_n 0, 1) := by decide +kernel
theorem d_L_update_18 : decode M_L_update.2.1 18 = .ok (.iload_n 2, 1) := by decide +kernel
theorem d_L_update_19 : decode M_L_update.2.1 19 = .ok (.iconst 1, 1) := by decide +kernel
theorem d_L_update_20 : decode M_L_update.2.1 20 = .ok (.invokevirtual 40, 3) := by decide +kernel
theorem d_L_update_23 : decode M_L_update.2.1 23 = .ok (.iconst 2, 1) := by decide +kernel
theorem d_L_update_24 : decode M_L_update.2.1 24 = .ok (.iadd, 1) := by decide +kernel
theorem d_L_update_25 : decode M_L_update.2.1 25 = .ok (.iconst 2, 1) := by decide +kernel
theorem d_L_update_26 : decode M_L_update.2.1 26 = .ok (.ishr, 1) := by decide +kernel
theorem d_L_update_27 : decode M_L_update.2.1 27 = .ok (.ireturn, 1) := by decide +kernel
theorem d_L_neighbours_0 : decode M_L_neighbours.2.1 0 = .ok (.aload_n 0, 1) := by decide +kernel
theorem d_L_neighbours_1 : decode M_L_neighbours.2.1 1 = .ok (.iload_n 1, 1) := by decide +kernel
theorem d_L_neighbours_2 : decode M_L_neighbours.2.1 2 = .ok (.iload_n 2, 1) := by decide +kernel
theorem d_L_neighbours_3 : decode M_L_neighbours.2.1 3 = .ok (.isub, 1) := by decide +kernel
theorem d_L_neighbours_4 : decode M_L_neighbours.2.1 4 = .ok (.invokevirtual 43, 3) := by decide +kernel
theorem d_L_neighbours_7 : decode M_L_neighbours.2.1 7 = .ok (.aload_n 0, 1) := by decide +kernel
theorem d_L_neighbours_8 : decode M_L_neighbours.2.1 8 = .ok (.iload_n 1, 1) := by decide +kernel
theorem d_L_neighbours_9 : decode M_L_neighbours.2.1 9 = .ok (.iload_n 2, 1) := by decide +kernel
theorem d_L_neighbours_10 : decode M_L_neighbours.2.1 10 = .ok (.iadd, 1) := by decide +kernel
theorem d_L_neighbours_11 : decode M_L_neighbours.2.1 11 = .ok (.invokevirtual 43, 3) := by decide +kernel
theorem d_L_neighbours_14 : decode M_L_neighbours.2.1 14 = .ok (.iadd, 1) := by decide +kernel
theorem d_L_neighbours_15 : decode M_L_neighbours.2.1 15 = .ok (.ireturn, 1) := by decide +kernel
theorem d_L_value_0 : decode M_L_value.2.1 0 = .ok (.iload_n 1, 1) := by decide +kernel
theorem d_L_value_1 : decode M_L_value.2.1 1 = .ok (.istore_n 2, 1) := by decide +kernel
theorem d_L_value_2 : decode M_L_value.2.1 2 = .ok (.iconst 0, 1) := by decide +kernel
theorem d_L_value_3 : decode M_L_value.2.1 3 = .ok (.istore_n 3, 1) := by decide +kernel
theorem d_L_value_4 : decode M_L_value.2.1 4 = .ok (.iload_n 3, 1) := by decide +kernel
theorem d_L_value_5 : decode M_L_value.2.1 5 = .ok (.bipush (8), 2) := by decide +kernel
theorem d_L_value_7 : decode M_L_value.2.1 7 = .ok (.if_icmp .ge (53), 3) := by decide +kernel
theorem d_L_value_10 : decode M_L_value.2.1 10 = .ok (.iload_n 2, 1) := by decide +kernel
theorem d_L_value_11 : decode M_L_value.2.1 11 = .ok (.aload_n 0, 1) := by decide +kernel
theorem d_L_value_12 : decode M_L_value.2.1 12 = .ok (.getfield 15, 3) := by decide +kernel
theorem d_L_value_15 : decode M_L_value.2.1 15 = .ok (.if_icmp .lt (11), 3) := by decide +kernel
theorem d_L_value_18 : decode M_L_value.2.1 18 = .ok (.iload_n 2, 1) := by decide +kernel
theorem d_L_value_19 : decode M_L_value.2.1 19 = .ok (.aload_n 0, 1) := by decide +kernel
theorem d_L_value_20 : decode M_L_value.2.1 20 = .ok (.getfield 19, 3) := by decide +kernel
theorem d_L_value_23 : decode M_L_value.2.1 23 = .ok (.if_icmp .le (37), 3) := by decide +kernel
theorem d_L_value_26 : decode M_L_value.2.1 26 = .ok (.iload_n 2, 1) := by decide +kernel
theorem d_L_value_27 : decode M_L_value.2.1 27 = .ok (.aload_n 0, 1) := by decide +kernel
theorem d_L_value_28 : decode M_L_value.2.1 28 = .ok (.getfield 15, 3) := by decide +kernel
theorem d_L_value_31 : decode M_L_value.2.1 31 = .ok (.if_icmp .ge (14), 3) := by decide +kernel
theorem d_L_value_34 : decode M_L_value.2.1 34 = .ok (.iconst 2, 1) := by decide +kernel
theorem d_L_value_35 : decode M_L_value.2.1 35 = .ok (.aload_n 0, 1) := by decide +kernel
theorem d_L_value_36 : decode M_L_value.2.1 36 = .ok (.getfield 15, 3) := by decide +kernel
theorem d_L_value_39 : decode M_L_value.2.1 39 = .ok (.imul, 1) := by decide +kernel
theorem d_L_value_40 : decode M_L_value.2.1 40 = .ok (.iload_n 2, 1) := by decide +kernel
theorem d_L_value_41 : decode M_L_value.2.1 41 = .ok (.isub, 1) := by decide +kernel
theorem d_L_value_42 : decode M_L_value.2.1 42 = .ok (.goto (11), 3) := by decide +kernel
theorem d_L_value_45 : decode M_L_value.2.1 45 = .ok (.iconst 2, 1) := by decide +kernel
theorem d_L_value_46 : decode M_L_value.2.1 46 = .ok (.aload_n 0, 1) := by decide +kernel
theorem d_L_value_47 : decode M_L_value.2.1 47 = .ok (.getfield 19, 3) := by decide +kernel
theorem d_L_value_50 : decode M_L_value.2.1 50 = .ok (.imul, 1) := by decide +kernel
theorem d_L_value_51 : decode M_L_value.2.1 51 = .ok (.iload_n 2, 1) := by decide +kernel
theorem d_L_value_52 : decode M_L_value.2.1 52 = .ok (.isub, 1) := by decide +kernel
theorem d_L_value_53 : decode M_L_value.2.1 53 = .ok (.istore_n 2, 1) := by decide +kernel
theorem d_L_value_54 : decode M_L_value.2.1 54 = .ok (.iinc 3 (1), 3) := by decide +kernel
theorem d_L_value_57 : decode M_L_value.2.1 57 = .ok (.goto (-53), 3) := by decide +kernel
theorem d_L_value_60 : decode M_L_value.2.1 60 = .ok (.aload_n 0, 1) := by decide +kernel
theorem d_L_value_61 : decode M_L_value.2.1 61 = .ok (.getfield 9, 3) := by decide +kernel
theorem d_L_value_64 : decode M_L_value.2.1 64 = .ok (.iload_n 2, 1) := by decide +kernel
theorem d_L_value_65 : decode M_L_value.2.1 65 = .ok (.aload_n 0, 1) := by decide +kernel
theorem d_L_value_66 : decode M_L_value.2.1 66 = .ok (.getfield 15, 3) := by decide +kernel
theorem d_L_value_69 : decode M_L_value.2.1 69 = .ok (.isub, 1) := by decide +kernel
theorem d_L_value_70 : decode M_L_value.2.1 70 = .ok (.iaload, 1) := by decide +kernel
theorem d_L_value_71 : decode M_L_value.2.1 71 = .ok (.ireturn, 1) := by decide +kernel
theorem d_L_firstOdd_0 : decode M_L_firstOdd.2.1 0 = .ok (.aload_n 0, 1) := by decide +kernel
theorem d_L_firstOdd_1 : decode M_L_firstOdd.2.1 1 = .ok (.getfield 15, 3) := by decide +kernel
theorem d_L_firstOdd_4 : decode M_L_firstOdd.2.1 4 = .ok (.invokestatic 22, 3) := by decide +kernel
theorem d_L_firstOdd_7 : decode M_L_firstOdd.2.1 7 = .ok (.ifCond .eq (10), 3) := by decide +kernel
theorem d_L_firstOdd_10 : decode M_L_firstOdd.2.1 10 = .ok (.aload_n 0, 1) := by decide +kernel
theorem d_L_firstOdd_11 : decode M_L_firstOdd.2.1 11 = .ok (.getfield 15, 3) := by decide +kernel
theorem d_L_firstOdd_14 : decode M_L_firstOdd.2.1 14 = .ok (.goto (9), 3) := by decide +kernel
theorem d_L_firstOdd_17 : decode M_L_firstOdd.2.1 17 = .ok (.aload_n 0, 1) := by decide +kernel
theorem d_L_firstOdd_18 : decode M_L_firstOdd.2.1 18 = .ok (.getfield 15, 3) := by decide +kernel
theorem d_L_firstOdd_21 : decode M_L_firstOdd.2.1 21 = .ok (.iconst 1, 1) := by decide +kernel
theorem d_L_firstOdd_22 : decode M_L_firstOdd.2.1 22 = .ok (.iadd, 1) := by decide +kernel
theorem d_L_firstOdd_23 : decode M_L_firstOdd.2.1 23 = .ok (.ireturn, 1) := by decide +kernel
theorem d_L_firstEven_0 : decode M_L_firstEven.2.1 0 = .ok (.aload_n 0, 1) := by decide +kernel
theorem d_L_firstEven_1 : decode M_L_firstEven.2.1 1 = .ok (.getfield 15, 3) := by decide +kernel
theorem d_L_firstEven_4 : decode M_L_firstEven.2.1 4 = .ok (.invokestatic 22, 3) := by decide +kernel
theorem d_L_firstEven_7 : decode M_L_firstEven.2.1 7 = .ok (.ifCond .eq (12), 3) := by decide +kernel
theorem d_L_firstEven_10 : decode M_L_firstEven.2.1 10 = .ok (.aload_n 0, 1) := by decide +kernel
theorem d_L_firstEven_11 : decode M_L_firstEven.2.1 11 = .ok (.getfield 15, 3) := by decide +kernel
theorem d_L_firstEven_14 : decode M_L_firstEven.2.1 14 = .ok (.iconst 1, 1) := by decide +kernel
theorem d_L_firstEven_15 : decode M_L_firstEven.2.1 15 = .ok (.iadd, 1) := by decide +kernel
theorem d_L_firstEven_16 : decode M_L_firstEven.2.1 16 = .ok (.goto (7), 3) := by decide +kernel
theorem d_L_firstEven_19 : decode M_L_firstEven.2.1 19 = .ok (.aload_n 0, 1) := by decide +kernel
theorem d_L_firstEven_20 : decode M_L_firstEven.2.1 20 = .ok (.getfield 15, 3) := by decide +kernel
theorem d_L_firstEven_23 : decode M_L_firstEven.2.1 23 = .ok (.ireturn, 1) := by decide +kernel
theorem d_L_isOdd_0 : decode M_L_isOdd.2.1 0 = .ok (.iload_n 0, 1) := by decide +kernel
theorem d_L_isOdd_1 : decode M_L_isOdd.2.1 1 = .ok (.iconst 1, 1) := by decide +kernel
theorem d_L_isOdd_2 : decode M_L_isOdd.2.1 2 = .ok (.iand, 1) := by decide +kernel
theorem d_L_isOdd_3 : decode M_L_isOdd.2.1 3 = .ok (.iconst 1, 1) := by decide +kernel
theorem d_L_isOdd_4 : decode M_L_isOdd.2.1 4 = .ok (.if_icmp .ne (7), 3) := by decide +kernel
theorem d_L_isOdd_7 : decode M_L_isOdd.2.1 7 = .ok (.iconst 1, 1) := by decide +kernel
theorem d_L_isOdd_8 : decode M_L_isOdd.2.1 8 = .ok (.goto (4), 3) := by decide +kernel
theorem d_L_isOdd_11 : decode M_L_isOdd.2.1 11 = .ok (.iconst 0, 1) := by decide +kernel
theorem d_L_isOdd_12 : decode M_L_isOdd.2.1 12 = .ok (.ireturn, 1) := by decide +kernel
end
section
theorem d_R_isPlace_0 : decode M_R_isPlace.2.1 0 = .ok (.aload_n 0, 1) := by decide +kernel
theorem d_R_isPlace_1 : decode M_R_isPlace.2.1 1 = .ok (.getfield 22, 3) := by decide +kernel
theorem d_R_isPlace_4 : decode M_R_isPlace.2.1 4 = .ok (.ifCond .eq (49), 3) := by decide +kernel
theorem d_R_isPlace_7 : decode M_R_isPlace.2.1 7 = .ok (.iload_n 1, 1) := by decide +kernel
theorem d_R_isPlace_8 : decode M_R_isPlace.2.1 8 = .ok (.aload_n 0, 1) := by decide +kernel
theorem d_R_isPlace_9 : decode M_R_isPlace.2.1 9 = .ok (.getfield 26, 3) := by decide +kernel
theorem d_R_isPlace_12 : decode M_R_isPlace.2.1 12 = .ok (.if_icmp .lt (41), 3) := by decide +kernel
theorem d_R_isPlace_15 : decode M_R_isPlace.2.1 15 = .ok (.iload_n 1, 1) := by decide +kernel
theorem d_R_isPlace_16 : decode M_R_isPlace.2.1 16 = .ok (.aload_n 0, 1) := by decide +kernel
theorem d_R_isPlace_17 : decode M_R_isPlace.2.1 17 = .ok (.getfield 26, 3) := by decide +kernel
theorem d_R_isPlace_20 : decode M_R_isPlace.2.1 20 = .ok (.aload_n 0, 1) := by decide +kernel
theorem d_R_isPlace_21 : decode M_R_isPlace.2.1 21 = .ok (.getfield 30, 3) := by decide +kernel
theorem d_R_isPlace_24 : decode M_R_isPlace.2.1 24 = .ok (.iadd, 1) := by decide +kernel
theorem d_R_isPlace_25 : decode M_R_isPlace.2.1 25 = .ok (.if_icmp .ge (28), 3) := by decide +kernel
theorem d_R_isPlace_28 : decode M_R_isPlace.2.1 28 = .ok (.iload_n 2, 1) := by decide +kernel
theorem d_R_isPlace_29 : decode M_R_isPlace.2.1 29 = .ok (.aload_n 0, 1) := by decide +kernel
theorem d_R_isPlace_30 : decode M_R_isPlace.2.1 30 = .ok (.getfield 33, 3) := by decide +kernel
theorem d_R_isPlace_33 : decode M_R_isPlace.2.1 33 = .ok (.if_icmp .lt (20), 3) := by decide +kernel
theorem d_R_isPlace_36 : decode M_R_isPlace.2.1 36 = .ok (.iload_n 2, 1) := by decide +kernel
theorem d_R_isPlace_37 : decode M_R_isPlace.2.1 37 = .ok (.aload_n 0, 1) := by decide +kernel
theorem d_R_isPlace_38 : decode M_R_isPlace.2.1 38 = .ok (.getfield 33, 3) := by decide +kernel
theorem d_R_isPlace_41 : decode M_R_isPlace.2.1 41 = .ok (.aload_n 0, 1) := by decide +kernel
theorem d_R_isPlace_42 : decode M_R_isPlace.2.1 42 = .ok (.getfield 36, 3) := by decide +kernel
theorem d_R_isPlace_45 : decode M_R_isPlace.2.1 45 = .ok (.iadd, 1) := by decide +kernel
theorem d_R_isPlace_46 : decode M_R_isPlace.2.1 46 = .ok (.if_icmp .ge (7), 3) := by decide +kernel
theorem d_R_isPlace_49 : decode M_R_isPlace.2.1 49 = .ok (.iconst 1, 1) := by decide +kernel
theorem d_R_isPlace_50 : decode M_R_isPlace.2.1 50 = .ok (.goto (4), 3) := by decide +kernel
theorem d_R_isPlace_53 : decode M_R_isPlace.2.1 53 = .ok (.iconst 0, 1) := by decide +kernel
theorem d_R_isPlace_54 : decode M_R_isPlace.2.1 54 = .ok (.ireturn, 1) := by decide +kernel
theorem d_R_isPlane_0 : decode M_R_isPlane.2.1 0 = .ok (.iload_n 0, 1) := by decide +kernel
theorem d_R_isPlane_1 : decode M_R_isPlane.2.1 1 = .ok (.ifCond .lt (12), 3) := by decide +kernel
theorem d_R_isPlane_4 : decode M_R_isPlane.2.1 4 = .ok (.iload_n 0, 1) := by decide +kernel
theorem d_R_isPlane_5 : decode M_R_isPlane.2.1 5 = .ok (.iconst 2, 1) := by decide +kernel
theorem d_R_isPlane_6 : decode M_R_isPlane.2.1 6 = .ok (.if_icmp .gt (7), 3) := by decide +kernel
theorem d_R_isPlane_9 : decode M_R_isPlane.2.1 9 = .ok (.iconst 1, 1) := by decide +kernel
theorem d_R_isPlane_10 : decode M_R_isPlane.2.1 10 = .ok (.goto (4), 3) := by decide +kernel
theorem d_R_isPlane_13 : decode M_R_isPlane.2.1 13 = .ok (.iconst 0, 1) := by decide +kernel
theorem d_R_isPlane_14 : decode M_R_isPlane.2.1 14 = .ok (.ireturn, 1) := by decide +kernel
theorem d_R_cell_0 : decode M_R_cell.2.1 0 = .ok (.sipush (256), 3) := by decide +kernel
theorem d_R_cell_3 : decode M_R_cell.2.1 3 = .ok (.iload_n 1, 1) := by decide +kernel
theorem d_R_cell_4 : decode M_R_cell.2.1 4 = .ok (.imul, 1) := by decide +kernel
theorem d_R_cell_5 : decode M_R_cell.2.1 5 = .ok (.bipush (16), 2) := by decide +kernel
theorem d_R_cell_7 : decode M_R_cell.2.1 7 = .ok (.iload_n 3, 1) := by decide +kernel
theorem d_R_cell_8 : decode M_R_cell.2.1 8 = .ok (.aload_n 0, 1) := by decide +kernel
theorem d_R_cell_9 : decode M_R_cell.2.1 9 = .ok (.getfield 33, 3) := by decide +kernel
theorem d_R_cell_12 : decode M_R_cell.2.1 12 = .ok (.isub, 1) := by decide +kernel
theorem d_R_cell_13 : decode M_R_cell.2.1 13 = .ok (.imul, 1) := by decide +kernel
theorem d_R_cell_14 : decode M_R_cell.2.1 14 = .ok (.iadd, 1) := by decide +kernel
theorem d_R_cell_15 : decode M_R_cell.2.1 15 = .ok (.iload_n 2, 1) := by decide +kernel
theorem d_R_cell_16 : decode M_R_cell.2.1 16 = .ok (.iadd, 1) := by decide +kernel
theorem d_R_cell_17 : decode M_R_cell.2.1 17 = .ok (.aload_n 0, 1) := by decide +kernel
theorem d_R_cell_18 : decode M_R_cell.2.1 18 = .ok (.getfield 26, 3) := by decide +kernel
theorem d_R_cell_21 : decode M_R_cell.2.1 21 = .ok (.isub, 1) := by decide +kernel
theorem d_R_cell_22 : decode M_R_cell.2.1 22 = .ok (.ireturn, 1) := by decide +kernel
theorem d_R_at_0 : decode M_R_at.2.1 0 = .ok (.iload_n 1, 1) := by decide +kernel
theorem d_R_at_1 : decode M_R_at.2.1 1 = .ok (.invokestatic 45, 3) := by decide +kernel
theorem d_R_at_4 : decode M_R_at.2.1 4 = .ok (.ifCond .eq (27), 3) := by decide +kernel
theorem d_R_at_7 : decode M_R_at.2.1 7 = .ok (.aload_n 0, 1) := by decide +kernel
theorem d_R_at_8 : decode M_R_at.2.1 8 = .ok (.iload_n 2, 1) := by decide +kernel
theorem d_R_at_9 : decode M_R_at.2.1 9 = .ok (.iload_n 3, 1) := by decide +kernel
theorem d_R_at_10 : decode M_R_at.2.1 10 = .ok (.invokevirtual 49, 3) := by decide +kernel
theorem d_R_at_13 : decode M_R_at.2.1 13 = .ok (.ifCond .eq (18), 3) := by decide +kernel
theorem d_R_at_16 : decode M_R_at.2.1 16 = .ok (.aload_n 0, 1) := by decide +kernel
theorem d_R_at_17 : decode M_R_at.2.1 17 = .ok (.getfield 13, 3) := by decide +kernel
theorem d_R_at_20 : decode M_R_at.2.1 20 = .ok (.aload_n 0, 1) := by decide +kernel
theorem d_R_at_21 : decode M_R_at.2.1 21 = .ok (.iload_n 1, 1) := by decide +kernel
theorem d_R_at_22 : decode M_R_at.2.1 22 = .ok (.iload_n 2, 1) := by decide +kernel
theorem d_R_at_23 : decode M_R_at.2.1 23 = .ok (.iload_n 3, 1) := by decide +kernel
theorem d_R_at_24 : decode M_R_at.2.1 24 = .ok (.invokevirtual 53, 3) := by decide +kernel
theorem d_R_at_27 : decode M_R_at.2.1 27 = .ok (.iaload, 1) := by decide +kernel
theorem d_R_at_28 : decode M_R_at.2.1 28 = .ok (.goto (4), 3) := by decide +kernel
theorem d_R_at_31 : decode M_R_at.2.1 31 = .ok (.iconst 0, 1) := by decide +kernel
theorem d_R_at_32 : decode M_R_at.2.1 32 = .ok (.ireturn, 1) := by decide +kernel
theorem d_R_inside_0 : decode M_R_inside.2.1 0 = .ok (.iload_n 1, 1) := by decide +kernel
theorem d_R_inside_1 : decode M_R_inside.2.1 1 = .ok (.istore_n 2, 1) := by decide +kernel
theorem d_R_inside_2 : decode M_R_inside.2.1 2 = .ok (.iload_n 2, 1) := by decide +kernel
theorem d_R_inside_3 : decode M_R_inside.2.1 3 = .ok (.aload_n 0, 1) := by decide +kernel
theorem d_R_inside_4 : decode M_R_inside.2.1 4 = .ok (.getfield 57, 3) := by decide +kernel
theorem d_R_inside_7 : decode M_R_inside.2.1 7 = .ok (.if_icmp .lt (11), 3) := by decide +kernel
theorem d_R_inside_10 : decode M_R_inside.2.1 10 = .ok (.iload_n 2, 1) := by decide +kernel
theorem d_R_inside_11 : decode M_R_inside.2.1 11 = .ok (.aload_n 0, 1) := by decide +kernel
theorem d_R_inside_12 : decode M_R_inside.2.1 12 = .ok (.getfield 60, 3) := by decide +kernel
theorem d_R_inside_15 : decode M_R_inside.2.1 15 = .ok (.if_icmp .le (34), 3) := by decide +kernel
theorem d_R_inside_18 : decode M_R_inside.2.1 18 = .ok (.iload_n 2, 1) := by decide +kernel
theorem d_R_inside_19 : decode M_R_inside.2.1 19 = .ok (.aload_n 0, 1) := by decide +kernel
theorem d_R_inside_20 : decode M_R_inside.2.1 20 = .ok (.getfield 57, 3) := by decide +kernel
theorem d_R_inside_23 : decode M_R_inside.2.1 23 = .ok (.if_icmp .ge (14), 3) := by decide +kernel
theorem d_R_inside_26 : decode M_R_inside.2.1 26 = .ok (.iconst 2, 1) := by decide +kernel
theorem d_R_inside_27 : decode M_R_inside.2.1 27 = .ok (.aload_n 0, 1) := by decide +kernel
theorem d_R_inside_28 : decode M_R_inside.2.1 28 = .ok (.getfield 57, 3) := by decide +kernel
theorem d_R_inside_31 : decode M_R_inside.2.1 31 = .ok (.imul, 1) := by decide +kernel
theorem d_R_inside_32 : decode M_R_inside.2.1 32 = .ok (.iload_n 2, 1) := by decide +kernel
theorem d_R_inside_33 : decode M_R_inside.2.1 33 = .ok (.isub, 1) := by decide +kernel
theorem d_R_inside_34 : decode M_R_inside.2.1 34 = .ok (.goto (11), 3) := by decide +kernel
theorem d_R_inside_37 : decode M_R_inside.2.1 37 = .ok (.iconst 2, 1) := by decide +kernel
theorem d_R_inside_38 : decode M_R_inside.2.1 38 = .ok (.aload_n 0, 1) := by decide +kernel
theorem d_R_inside_39 : decode M_R_inside.2.1 39 = .ok (.getfield 60, 3) := by decide +kernel
theorem d_R_inside_42 : decode M_R_inside.2.1 42 = .ok (.imul, 1) := by decide +kernel
theorem d_R_inside_43 : decode M_R_inside.2.1 43 = .ok (.iload_n 2, 1) := by decide +kernel
theorem d_R_inside_44 : decode M_R_inside.2.1 44 = .ok (.isub, 1) := by decide +kernel
theorem d_R_inside_45 : decode M_R_inside.2.1 45 = .ok (.istore_n 2, 1) := by decide +kernel
theorem d_R_inside_46 : decode M_R_inside.2.1 46 = .ok (.goto (-44), 3) := by decide +kernel
theorem d_R_inside_49 : decode M_R_inside.2.1 49 = .ok (.iload_n 2, 1) := by decide +kernel
theorem d_R_inside_50 : decode M_R_inside.2.1 50 = .ok (.ireturn, 1) := by decide +kernel
theorem d_R_high_0 : decode M_R_high.2.1 0 = .ok (.aload_n 0, 1) := by decide +kernel
theorem d_R_high_1 : decode M_R_high.2.1 1 = .ok (.iload_n 1, 1) := by decide +kernel
theorem d_R_high_2 : decode M_R_high.2.1 2 = .ok (.invokevirtual 63, 3) := by decide +kernel
theorem d_R_high_5 : decode M_R_high.2.1 5 = .ok (.istore_n 2, 1) := by decide +kernel
theorem d_R_high_6 : decode M_R_high.2.1 6 = .ok (.aload_n 0, 1) := by decide +kernel
theorem d_R_high_7 : decode M_R_high.2.1 7 = .ok (.iload_n 2, 1) := by decide +kernel
theorem d_R_high_8 : decode M_R_high.2.1 8 = .ok (.invokevirtual 70, 3) := by decide +kernel
theorem d_R_high_11 : decode M_R_high.2.1 11 = .ok (.aload_n 0, 1) := by decide +kernel
theorem d_R_high_12 : decode M_R_high.2.1 12 = .ok (.aload_n 0, 1) := by decide +kernel
theorem d_R_high_13 : decode M_R_high.2.1 13 = .ok (.iload_n 2, 1) := by decide +kernel
theorem d_R_high_14 : decode M_R_high.2.1 14 = .ok (.iconst 1, 1) := by decide +kernel
theorem d_R_high_15 : decode M_R_high.2.1 15 = .ok (.isub, 1) := by decide +kernel
theorem d_R_high_16 : decode M_R_high.2.1 16 = .ok (.invokevirtual 70, 3) := by decide +kernel
theorem d_R_high_19 : decode M_R_high.2.1 19 = .ok (.aload_n 0, 1) := by decide +kernel
theorem d_R_high_20 : decode M_R_high.2.1 20 = .ok (.iload_n 2, 1) := by decide +kernel
theorem d_R_high_21 : decode M_R_high.2.1 21 = .ok (.iconst 1, 1) := by decide +kernel
theorem d_R_high_22 : decode M_R_high.2.1 22 = .ok (.iadd, 1) := by decide +kernel
theorem d_R_high_23 : decode M_R_high.2.1 23 = .ok (.invokevirtual 70, 3) := by decide +kernel
theorem d_R_high_26 : decode M_R_high.2.1 26 = .ok (.aload_n 0, 1) := by decide +kernel
theorem d_R_high_27 : decode M_R_high.2.1 27 = .ok (.iload_n 2, 1) := by decide +kernel
theorem d_R_high_28 : decode M_R_high.2.1 28 = .ok (.iconst 3, 1) := by decide +kernel
theorem d_R_high_29 : decode M_R_high.2.1 29 = .ok (.isub, 1) := by decide +kernel
theorem d_R_high_30 : decode M_R_high.2.1 30 = .ok (.invokevirtual 70, 3) := by decide +kernel
theorem d_R_high_33 : decode M_R_high.2.1 33 = .ok (.aload_n 0, 1) := by decide +kernel
theorem d_R_high_34 : decode M_R_high.2.1 34 = .ok (.iload_n 2, 1) := by decide +kernel
theorem d_R_high_35 : decode M_R_high.2.1 35 = .ok (.iconst 3, 1) := by decide +kernel
theorem d_R_high_36 : decode M_R_high.2.1 36 = .ok (.iadd, 1) := by decide +kernel
theorem d_R_high_37 : decode M_R_high.2.1 37 = .ok (.invokevirtual 70, 3) := by decide +kernel
theorem d_R_high_40 : decode M_R_high.2.1 40 = .ok (.invokevirtual 73, 3) := by decide +kernel
theorem d_R_high_43 : decode M_R_high.2.1 43 = .ok (.isub, 1) := by decide +kernel
theorem d_R_high_44 : decode M_R_high.2.1 44 = .ok (.ireturn, 1) := by decide +kernel
theorem d_R_from_0 : decode M_R_from.2.1 0 = .ok (.iconst 0, 1) := by decide +kernel
theorem d_R_from_1 : decode M_R_from.2.1 1 = .ok (.istore_n 2, 1) := by decide +kernel
theorem d_R_from_2 : decode M_R_from.2.1 2 = .ok (.iload_n 2, 1) := by decide +kernel
theorem d_R_from_3 : decode M_R_from.2.1 3 = .ok (.iload_n 1, 1) := by decide +kernel
theorem d_R_from_4 : decode M_R_from.2.1 4 = .ok (.imul, 1) := by decide +kernel
theorem d_R_from_5 : decode M_R_from.2.1 5 = .ok (.iload_n 0, 1) := by decide +kernel
theorem d_R_from_6 : decode M_R_from.2.1 6 = .ok (.if_icmp .ge (9), 3) := by decide +kernel
theorem d_R_from_9 : decode M_R_from.2.1 9 = .ok (.iinc 2 (1), 3) := by decide +kernel
theorem d_R_from_12 : decode M_R_from.2.1 12 = .ok (.goto (-10), 3) := by decide +kernel
theorem d_R_from_15 : decode M_R_from.2.1 15 = .ok (.iload_n 2, 1) := by decide +kernel
theorem d_R_from_16 : decode M_R_from.2.1 16 = .ok (.ireturn, 1) := by decide +kernel
theorem d_R_column_0 : decode M_R_column.2.1 0 = .ok (.aload_n 0, 1) := by decide +kernel
theorem d_R_column_1 : decode M_R_column.2.1 1 = .ok (.aload_n 0, 1) := by decide +kernel
theorem d_R_column_2 : decode M_R_column.2.1 2 = .ok (.getfield 33, 3) := by decide +kernel
theorem d_R_column_5 : decode M_R_column.2.1 5 = .ok (.iload_n 3, 1) := by decide +kernel
theorem d_R_column_6 : decode M_R_column.2.1 6 = .ok (.invokestatic 96, 3) := by decide +kernel
theorem d_R_column_9 : decode M_R_column.2.1 9 = .ok (.putfield 57, 3) := by decide +kernel
theorem d_R_column_12 : decode M_R_column.2.1 12 = .ok (.aload_n 0, 1) := by decide +kernel
theorem d_R_column_13 : decode M_R_column.2.1 13 = .ok (.aload_n 0, 1) := by decide +kernel
theorem d_R_column_14 : decode M_R_column.2.1 14 = .ok (.getfield 33, 3) := by decide +kernel
theorem d_R_column_17 : decode M_R_column.2.1 17 = .ok (.aload_n 0, 1) := by decide +kernel
theorem d_R_column_18 : decode M_R_column.2.1 18 = .ok (.getfield 36, 3) := by decide +kernel
theorem d_R_column_21 : decode M_R_column.2.1 21 = .ok (.iadd, 1) := by decide +kernel
theorem d_R_column_22 : decode M_R_column.2.1 22 = .ok (.iload_n 3, 1) := by decide +kernel
theorem d_R_column_23 : decode M_R_column.2.1 23 = .ok (.invokestatic 96, 3) := by decide +kernel
theorem d_R_column_26 : decode M_R_column.2.1 26 = .ok (.iconst 1, 1) := by decide +kernel
theorem d_R_column_27 : decode M_R_column.2.1 27 = .ok (.isub, 1) := by decide +kernel
theorem d_R_column_28 : decode M_R_column.2.1 28 = .ok (.putfield 60, 3) := by decide +kernel
theorem d_R_column_31 : decode M_R_column.2.1 31 = .ok (.aload_n 0, 1) := by decide +kernel
theorem d_R_column_32 : decode M_R_column.2.1 32 = .ok (.getfield 57, 3) := by decide +kernel
theorem d_R_column_35 : decode M_R_column.2.1 35 = .ok (.istore 5, 2) := by decide +kernel
theorem d_R_column_37 : decode M_R_column.2.1 37 = .ok (.iload 5, 2) := by decide +kernel
theorem d_R_column_39 : decode M_R_column.2.1 39 = .ok (.aload_n 0, 1) := by decide +kernel
theorem d_R_column_40 : decode M_R_column.2.1 40 = .ok (.getfield 60, 3) := by decide +kernel
theorem d_R_column_43 : decode M_R_column.2.1 43 = .ok (.if_icmp .gt (31), 3) := by decide +kernel
theorem d_R_column_46 : decode M_R_column.2.1 46 = .ok (.aload_n 0, 1) := by decide +kernel
theorem d_R_column_47 : decode M_R_column.2.1 47 = .ok (.getfield 16, 3) := by decide +kernel
theorem d_R_column_50 : decode M_R_column.2.1 50 = .ok (.iload 5, 2) := by decide +kernel
theorem d_R_column_52 : decode M_R_column.2.1 52 = .ok (.aload_n 0, 1) := by decide +kernel
theorem d_R_column_53 : decode M_R_column.2.1 53 = .ok (.getfield 57, 3) := by decide +kernel
theorem d_R_column_56 : decode M_R_column.2.1 56 = .ok (.isub, 1) := by decide +kernel
theorem d_R_column_57 : decode M_R_column.2.1 57 = .ok (.aload_n 0, 1) := by decide +kernel
theorem d_R_column_58 : decode M_R_column.2.1 58 = .ok (.iload_n 1, 1) := by decide +kernel
theorem d_R_column_59 : decode M_R_column.2.1 59 = .ok (.iload_n 2, 1) := by decide +kernel
theorem d_R_column_60 : decode M_R_column.2.1 60 = .ok (.iload 5, 2) := by decide +kernel
theorem d_R_column_62 : decode M_R_column.2.1 62 = .ok (.iload_n 3, 1) := by decide +kernel
theorem d_R_column_63 : decode M_R_column.2.1 63 = .ok (.imul, 1) := by decide +kernel
theorem d_R_column_64 : decode M_R_column.2.1 64 = .ok (.invokevirtual 99, 3) := by decide +kernel
theorem d_R_column_67 : decode M_R_column.2.1 67 = .ok (.iastore, 1) := by decide +kernel
theorem d_R_column_68 : decode M_R_column.2.1 68 = .ok (.iinc 5 (1), 3) := by decide +kernel
theorem d_R_column_71 : decode M_R_column.2.1 71 = .ok (.goto (-34), 3) := by decide +kernel
theorem d_R_column_74 : decode M_R_column.2.1 74 = .ok (.aload_n 0, 1) := by decide +kernel
theorem d_R_column_75 : decode M_R_column.2.1 75 = .ok (.iload 4, 2) := by decide +kernel
theorem d_R_column_77 : decode M_R_column.2.1 77 = .ok (.invokevirtual 102, 3) := by decide +kernel
theorem d_R_column_80 : decode M_R_column.2.1 80 = .ok (.aload_n 0, 1) := by decide +kernel
theorem d_R_column_81 : decode M_R_column.2.1 81 = .ok (.getfield 57, 3) := by decide +kernel
theorem d_R_column_84 : decode M_R_column.2.1 84 = .ok (.istore 5, 2) := by decide +kernel
theorem d_R_column_86 : decode M_R_column.2.1 86 = .ok (.iload 5, 2) := by decide +kernel
theorem d_R_column_88 : decode M_R_column.2.1 88 = .ok (.aload_n 0, 1) := by decide +kernel
theorem d_R_column_89 : decode M_R_column.2.1 89 = .ok (.getfield 60, 3) := by decide +kernel
theorem d_R_column_92 : decode M_R_column.2.1 92 = .ok (.if_icmp .gt (36), 3) := by decide +kernel
theorem d_R_column_95 : decode M_R_column.2.1 95 = .ok (.aload_n 0, 1) := by decide +kernel
theorem d_R_column_96 : decode M_R_column.2.1 96 = .ok (.getfield 13, 3) := by decide +kernel
theorem d_R_column_99 : decode M_R_column.2.1 99 = .ok (.aload_n 0, 1) := by decide +kernel
theorem d_R_column_100 : decode M_R_column.2.1 100 = .ok (.iload_n 1, 1) := by decide +kernel
theorem d_R_column_101 : decode M_R_column.2.1 101 = .ok (.iload_n 2, 1) := by decide +kernel
theorem d_R_column_102 : decode M_R_column.2.1 102 = .ok (.iload 5, 2) := by decide +kernel
theorem d_R_column_104 : decode M_R_column.2.1 104 = .ok (.iload_n 3, 1) := by decide +kernel
theorem d_R_column_105 : decode M_R_column.2.1 105 = .ok (.imul, 1) := by decide +kernel
theorem d_R_column_106 : decode M_R_column.2.1 106 = .ok (.invokevirtual 53, 3) := by decide +kernel
theorem d_R_column_109 : decode M_R_column.2.1 109 = .ok (.aload_n 0, 1) := by decide +kernel
theorem d_R_column_110 : decode M_R_column.2.1 110 = .ok (.getfield 19, 3) := by decide +kernel
theorem d_R_column_113 : decode M_R_column.2.1 113 = .ok (.iload 5, 2) := by decide +kernel
theorem d_R_column_115 : decode M_R_column.2.1 115 = .ok (.aload_n 0, 1) := by decide +kernel
theorem d_R_column_116 : decode M_R_column.2.1 116 = .ok (.getfield 57, 3) := by decide +kernel
theorem d_R_column_119 : decode M_R_column.2.1 119 = .ok (.isub, 1) := by decide +kernel
theorem d_R_column_120 : decode M_R_column.2.1 120 = .ok (.iaload, 1) := by decide +kernel
theorem d_R_column_121 : decode M_R_column.2.1 121 = .ok (.iastore, 1) := by decide +kernel
theorem d_R_column_122 : decode M_R_column.2.1 122 = .ok (.iinc 5 (1), 3) := by decide +kernel
theorem d_R_column_125 : decode M_R_column.2.1 125 = .ok (.goto (-39), 3) := by decide +kernel
theorem d_R_column_128 : decode M_R_column.2.1 128 = .ok (.return_, 1) := by decide +kernel
theorem d_R_columns_0 : decode M_R_columns.2.1 0 = .ok (.aload_n 0, 1) := by decide +kernel
theorem d_R_columns_1 : decode M_R_columns.2.1 1 = .ok (.getfield 26, 3) := by decide +kernel
theorem d_R_columns_4 : decode M_R_columns.2.1 4 = .ok (.istore 4, 2) := by decide +kernel
theorem d_R_columns_6 : decode M_R_columns.2.1 6 = .ok (.iload 4, 2) := by decide +kernel
theorem d_R_columns_8 : decode M_R_columns.2.1 8 = .ok (.aload_n 0, 1) := by decide +kernel
theorem d_R_columns_9 : decode M_R_columns.2.1 9 = .ok (.getfield 26, 3) := by decide +kernel
theorem d_R_columns_12 : decode M_R_columns.2.1 12 = .ok (.aload_n 0, 1) := by decide +kernel
theorem d_R_columns_13 : decode M_R_columns.2.1 13 = .ok (.getfield 30, 3) := by decide +kernel
theorem d_R_columns_16 : decode M_R_columns.2.1 16 = .ok (.iadd, 1) := by decide +kernel
theorem d_R_columns_17 : decode M_R_columns.2.1 17 = .ok (.if_icmp .ge (25), 3) := by decide +kernel
theorem d_R_columns_20 : decode M_R_columns.2.1 20 = .ok (.iload 4, 2) := by decide +kernel
theorem d_R_columns_22 : decode M_R_columns.2.1 22 = .ok (.iload_n 2, 1) := by decide +kernel
theorem d_R_columns_23 : decode M_R_columns.2.1 23 = .ok (.irem, 1) := by decide +kernel
theorem d_R_columns_24 : decode M_R_columns.2.1 24 = .ok (.ifCond .ne (12), 3) := by decide +kernel
theorem d_R_columns_27 : decode M_R_columns.2.1 27 = .ok (.aload_n 0, 1) := by decide +kernel
theorem d_R_columns_28 : decode M_R_columns.2.1 28 = .ok (.iload_n 1, 1) := by decide +kernel
theorem d_R_columns_29 : decode M_R_columns.2.1 29 = .ok (.iload 4, 2) := by decide +kernel
theorem d_R_columns_31 : decode M_R_columns.2.1 31 = .ok (.iload_n 2, 1) := by decide +kernel
theorem d_R_columns_32 : decode M_R_columns.2.1 32 = .ok (.iload_n 3, 1) := by decide +kernel
theorem d_R_columns_33 : decode M_R_columns.2.1 33 = .ok (.invokevirtual 106, 3) := by decide +kernel
theorem d_R_columns_36 : decode M_R_columns.2.1 36 = .ok (.iinc 4 (1), 3) := by decide +kernel
theorem d_R_columns_39 : decode M_R_columns.2.1 39 = .ok (.goto (-33), 3) := by decide +kernel
theorem d_R_columns_42 : decode M_R_columns.2.1 42 = .ok (.return_, 1) := by decide +kernel
theorem d_R_forward_0 : decode M_R_forward.2.1 0 = .ok (.aload_n 0, 1) := by decide +kernel
theorem d_R_forward_1 : decode M_R_forward.2.1 1 = .ok (.getfield 22, 3) := by decide +kernel
theorem d_R_forward_4 : decode M_R_forward.2.1 4 = .ok (.ifCond .eq (20), 3) := by decide +kernel
theorem d_R_forward_7 : decode M_R_forward.2.1 7 = .ok (.iload_n 1, 1) := by decide +kernel
theorem d_R_forward_8 : decode M_R_forward.2.1 8 = .ok (.ifCond .lt (16), 3) := by decide +kernel
theorem d_R_forward_11 : decode M_R_forward.2.1 11 = .ok (.iload_n 1, 1) := by decide +kernel
theorem d_R_forward_12 : decode M_R_forward.2.1 12 = .ok (.iconst 2, 1) := by decide +kernel
theorem d_R_forward_13 : decode M_R_forward.2.1 13 = .ok (.if_icmp .gt (11), 3) := by decide +kernel
theorem d_R_forward_16 : decode M_R_forward.2.1 16 = .ok (.aload_n 0, 1) := by decide +kernel
theorem d_R_forward_17 : decode M_R_forward.2.1 17 = .ok (.getfield 42, 3) := by decide +kernel
theorem d_R_forward_20 : decode M_R_forward.2.1 20 = .ok (.iconst 4, 1) := by decide +kernel
theorem d_R_forward_21 : decode M_R_forward.2.1 21 = .ok (.if_icmp .lt (5), 3) := by decide +kernel
theorem d_R_forward_24 : decode M_R_forward.2.1 24 = .ok (.iconst 0, 1) := by decide +kernel
theorem d_R_forward_25 : decode M_R_forward.2.1 25 = .ok (.ireturn, 1) := by decide +kernel
theorem d_R_forward_26 : decode M_R_forward.2.1 26 = .ok (.aload_n 0, 1) := by decide +kernel
theorem d_R_forward_27 : decode M_R_forward.2.1 27 = .ok (.getfield 7, 3) := by decide +kernel
theorem d_R_forward_30 : decode M_R_forward.2.1 30 = .ok (.aload_n 0, 1) := by decide +kernel
theorem d_R_forward_31 : decode M_R_forward.2.1 31 = .ok (.getfield 42, 3) := by decide +kernel
theorem d_R_forward_34 : decode M_R_forward.2.1 34 = .ok (.iload_n 1, 1) := by decide +kernel
theorem d_R_forward_35 : decode M_R_forward.2.1 35 = .ok (.iastore, 1) := by decide +kernel
theorem d_R_forward_36 : decode M_R_forward.2.1 36 = .ok (.aload_n 0, 1) := by decide +kernel
theorem d_R_forward_37 : decode M_R_forward.2.1 37 = .ok (.dup, 1) := by decide +kernel
theorem d_R_forward_38 : decode M_R_forward.2.1 38 = .ok (.getfield 42, 3) := by decide +kernel
theorem d_R_forward_41 : decode M_R_forward.2.1 41 = .ok (.iconst 1, 1) := by decide +kernel
theorem d_R_forward_42 : decode M_R_forward.2.1 42 = .ok (.iadd, 1) := by decide +kernel
theorem d_R_forward_43 : decode M_R_forward.2.1 43 = .ok (.putfield 42, 3) := by decide +kernel
theorem d_R_forward_46 : decode M_R_forward.2.1 46 = .ok (.aload_n 0, 1) := by decide +kernel
theorem d_R_forward_47 : decode M_R_forward.2.1 47 = .ok (.iload_n 1, 1) := by decide +kernel
theorem d_R_forward_48 : decode M_R_forward.2.1 48 = .ok (.putfield 67, 3) := by decide +kernel
theorem d_R_forward_51 : decode M_R_forward.2.1 51 = .ok (.aload_n 0, 1) := by decide +kernel
theorem d_R_forward_52 : decode M_R_forward.2.1 52 = .ok (.getfield 42, 3) := by decide +kernel
theorem d_R_forward_55 : decode M_R_forward.2.1 55 = .ok (.invokestatic 113, 3) := by decide +kernel
theorem d_R_forward_58 : decode M_R_forward.2.1 58 = .ok (.istore_n 2, 1) := by decide +kernel
theorem d_R_forward_59 : decode M_R_forward.2.1 59 = .ok (.iconst 0, 1) := by decide +kernel
theorem d_R_forward_60 : decode M_R_forward.2.1 60 = .ok (.istore_n 3, 1) := by decide +kernel
theorem d_R_forward_61 : decode M_R_forward.2.1 61 = .ok (.iload_n 3, 1) := by decide +kernel
theorem d_R_forward_62 : decode M_R_forward.2.1 62 = .ok (.iconst 3, 1) := by decide +kernel
theorem d_R_forward_63 : decode M_R_forward.2.1 63 = .ok (.if_icmp .ge (23), 3) := by decide +kernel
theorem d_R_forward_66 : decode M_R_forward.2.1 66 = .ok (.aload_n 0, 1) := by decide +kernel
theorem d_R_forward_67 : decode M_R_forward.2.1 67 = .ok (.iload_n 3, 1) := by decide +kernel
theorem d_R_forward_68 : decode M_R_forward.2.1 68 = .ok (.iload_n 2, 1) := by decide +kernel
theorem d_R_forward_69 : decode M_R_forward.2.1 69 = .ok (.iconst 0, 1) := by decide +kernel
theorem d_R_forward_70 : decode M_R_forward.2.1 70 = .ok (.invokevirtual 116, 3) := by decide +kernel
theorem d_R_forward_73 : decode M_R_forward.2.1 73 = .ok (.aload_n 0, 1) := by decide +kernel
theorem d_R_forward_74 : decode M_R_forward.2.1 74 = .ok (.iload_n 3, 1) := by decide +kernel
theorem d_R_forward_75 : decode M_R_forward.2.1 75 = .ok (.iload_n 2, 1) := by decide +kernel
theorem d_R_forward_76 : decode M_R_forward.2.1 76 = .ok (.iconst 0, 1) := by decide +kernel
theorem d_R_forward_77 : decode M_R_forward.2.1 77 = .ok (.invokevirtual 120, 3) := by decide +kernel
theorem d_R_forward_80 : decode M_R_forward.2.1 80 = .ok (.iinc 3 (1), 3) := by decide +kernel
theorem d_R_forward_83 : decode M_R_forward.2.1 83 = .ok (.goto (-22), 3) := by decide +kernel
theorem d_R_forward_86 : decode M_R_forward.2.1 86 = .ok (.iconst 1, 1) := by decide +kernel
theorem d_R_forward_87 : decode M_R_forward.2.1 87 = .ok (.ireturn, 1) := by decide +kernel
theorem d_R_back_0 : decode M_R_back.2.1 0 = .ok (.aload_n 0, 1) := by decide +kernel
theorem d_R_back_1 : decode M_R_back.2.1 1 = .ok (.getfield 42, 3) := by decide +kernel
theorem d_R_back_4 : decode M_R_back.2.1 4 = .ok (.ifCond .ne (5), 3) := by decide +kernel
theorem d_R_back_7 : decode M_R_back.2.1 7 = .ok (.iconst 0, 1) := by decide +kernel
theorem d_R_back_8 : decode M_R_back.2.1 8 = .ok (.ireturn, 1) := by decide +kernel
theorem d_R_back_9 : decode M_R_back.2.1 9 = .ok (.aload_n 0, 1) := by decide +kernel
theorem d_R_back_10 : decode M_R_back.2.1 10 = .ok (.aload_n 0, 1) := by decide +kernel
theorem d_R_back_11 : decode M_R_back.2.1 11 = .ok (.getfield 7, 3) := by decide +kernel
theorem d_R_back_14 : decode M_R_back.2.1 14 = .ok (.aload_n 0, 1) := by decide +kernel
theorem d_R_back_15 : decode M_R_back.2.1 15 = .ok (.getfield 42, 3) := by decide +kernel
theorem d_R_back_18 : decode M_R_back.2.1 18 = .ok (.iconst 1, 1) := by decide +kernel
theorem d_R_back_19 : decode M_R_back.2.1 19 = .ok (.isub, 1) := by decide +kernel
theorem d_R_back_20 : decode M_R_back.2.1 20 = .ok (.iaload, 1) := by decide +kernel
theorem d_R_back_21 : decode M_R_back.2.1 21 = .ok (.putfield 67, 3) := by decide +kernel
theorem d_R_back_24 : decode M_R_back.2.1 24 = .ok (.aload_n 0, 1) := by decide +kernel
theorem d_R_back_25 : decode M_R_back.2.1 25 = .ok (.getfield 42, 3) := by decide +kernel
theorem d_R_back_28 : decode M_R_back.2.1 28 = .ok (.invokestatic 113, 3) := by decide +kernel
theorem d_R_back_31 : decode M_R_back.2.1 31 = .ok (.istore_n 1, 1) := by decide +kernel
theorem d_R_back_32 : decode M_R_back.2.1 32 = .ok (.iconst 0, 1) := by decide +kernel
theorem d_R_back_33 : decode M_R_back.2.1 33 = .ok (.istore_n 2, 1) := by decide +kernel
theorem d_R_back_34 : decode M_R_back.2.1 34 = .ok (.iload_n 2, 1) := by decide +kernel
theorem d_R_back_35 : decode M_R_back.2.1 35 = .ok (.iconst 3, 1) := by decide +kernel
theorem d_R_back_36 : decode M_R_back.2.1 36 = .ok (.if_icmp .ge (23), 3) := by decide +kernel
theorem d_R_back_39 : decode M_R_back.2.1 39 = .ok (.aload_n 0, 1) := by decide +kernel
theorem d_R_back_40 : decode M_R_back.2.1 40 = .ok (.iload_n 2, 1) := by decide +kernel
theorem d_R_back_41 : decode M_R_back.2.1 41 = .ok (.iload_n 1, 1) := by decide +kernel
theorem d_R_back_42 : decode M_R_back.2.1 42 = .ok (.iconst 1, 1) := by decide +kernel
theorem d_R_back_43 : decode M_R_back.2.1 43 = .ok (.invokevirtual 120, 3) := by decide +kernel
theorem d_R_back_46 : decode M_R_back.2.1 46 = .ok (.aload_n 0, 1) := by decide +kernel
theorem d_R_back_47 : decode M_R_back.2.1 47 = .ok (.iload_n 2, 1) := by decide +kernel
theorem d_R_back_48 : decode M_R_back.2.1 48 = .ok (.iload_n 1, 1) := by decide +kernel
theorem d_R_back_49 : decode M_R_back.2.1 49 = .ok (.iconst 1, 1) := by decide +kernel
theorem d_R_back_50 : decode M_R_back.2.1 50 = .ok (.invokevirtual 116, 3) := by decide +kernel
theorem d_R_back_53 : decode M_R_back.2.1 53 = .ok (.iinc 2 (1), 3) := by decide +kernel
theorem d_R_back_56 : decode M_R_back.2.1 56 = .ok (.goto (-22), 3) := by decide +kernel
theorem d_R_back_59 : decode M_R_back.2.1 59 = .ok (.aload_n 0, 1) := by decide +kernel
theorem d_R_back_60 : decode M_R_back.2.1 60 = .ok (.dup, 1) := by decide +kernel
theorem d_R_back_61 : decode M_R_back.2.1 61 = .ok (.getfield 42, 3) := by decide +kernel
theorem d_R_back_64 : decode M_R_back.2.1 64 = .ok (.iconst 1, 1) := by decide +kernel
theorem d_R_back_65 : decode M_R_back.2.1 65 = .ok (.isub, 1) := by decide +kernel
theorem d_R_back_66 : decode M_R_back.2.1 66 = .ok (.putfield 42, 3) := by decide +kernel
theorem d_R_back_69 : decode M_R_back.2.1 69 = .ok (.iconst 1, 1) := by decide +kernel
theorem d_R_back_70 : decode M_R_back.2.1 70 = .ok (.ireturn, 1) := by decide +kernel
theorem d_R_isLevel_0 : decode M_R_isLevel.2.1 0 = .ok (.iload_n 1, 1) := by decide +kernel
theorem d_R_isLevel_1 : decode M_R_isLevel.2.1 1 = .ok (.iconst 1, 1) := by decide +kernel
theorem d_R_isLevel_2 : decode M_R_isLevel.2.1 2 = .ok (.if_icmp .lt (15), 3) := by decide +kernel
theorem d_R_isLevel_5 : decode M_R_isLevel.2.1 5 = .ok (.iload_n 1, 1) := by decide +kernel
theorem d_R_isLevel_6 : decode M_R_isLevel.2.1 6 = .ok (.aload_n 0, 1) := by decide +kernel
theorem d_R_isLevel_7 : decode M_R_isLevel.2.1 7 = .ok (.getfield 42, 3) := by decide +kernel
theorem d_R_isLevel_10 : decode M_R_isLevel.2.1 10 = .ok (.if_icmp .gt (7), 3) := by decide +kernel
theorem d_R_isLevel_13 : decode M_R_isLevel.2.1 13 = .ok (.iconst 1, 1) := by decide +kernel
theorem d_R_isLevel_14 : decode M_R_isLevel.2.1 14 = .ok (.goto (4), 3) := by decide +kernel
theorem d_R_isLevel_17 : decode M_R_isLevel.2.1 17 = .ok (.iconst 0, 1) := by decide +kernel
theorem d_R_isLevel_18 : decode M_R_isLevel.2.1 18 = .ok (.ireturn, 1) := by decide +kernel
theorem d_R_kernel_0 : decode M_R_kernel.2.1 0 = .ok (.aload_n 0, 1) := by decide +kernel
theorem d_R_kernel_1 : decode M_R_kernel.2.1 1 = .ok (.iload_n 1, 1) := by decide +kernel
theorem d_R_kernel_2 : decode M_R_kernel.2.1 2 = .ok (.invokevirtual 123, 3) := by decide +kernel
theorem d_R_kernel_5 : decode M_R_kernel.2.1 5 = .ok (.ifCond .eq (14), 3) := by decide +kernel
theorem d_R_kernel_8 : decode M_R_kernel.2.1 8 = .ok (.aload_n 0, 1) := by decide +kernel
theorem d_R_kernel_9 : decode M_R_kernel.2.1 9 = .ok (.getfield 7, 3) := by decide +kernel
theorem d_R_kernel_12 : decode M_R_kernel.2.1 12 = .ok (.iload_n 1, 1) := by decide +kernel
theorem d_R_kernel_13 : decode M_R_kernel.2.1 13 = .ok (.iconst 1, 1) := by decide +kernel
theorem d_R_kernel_14 : decode M_R_kernel.2.1 14 = .ok (.isub, 1) := by decide +kernel
theorem d_R_kernel_15 : decode M_R_kernel.2.1 15 = .ok (.iaload, 1) := by decide +kernel
theorem d_R_kernel_16 : decode M_R_kernel.2.1 16 = .ok (.goto (4), 3) := by decide +kernel
theorem d_R_kernel_19 : decode M_R_kernel.2.1 19 = .ok (.iconst (-1), 1) := by decide +kernel
theorem d_R_kernel_20 : decode M_R_kernel.2.1 20 = .ok (.ireturn, 1) := by decide +kernel
theorem d_R_isBand_0 : decode M_R_isBand.2.1 0 = .ok (.iload_n 0, 1) := by decide +kernel
theorem d_R_isBand_1 : decode M_R_isBand.2.1 1 = .ok (.ifCond .lt (12), 3) := by decide +kernel
theorem d_R_isBand_4 : decode M_R_isBand.2.1 4 = .ok (.iload_n 0, 1) := by decide +kernel
theorem d_R_isBand_5 : decode M_R_isBand.2.1 5 = .ok (.iconst 3, 1) := by decide +kernel
theorem d_R_isBand_6 : decode M_R_isBand.2.1 6 = .ok (.if_icmp .gt (7), 3) := by decide +kernel
theorem d_R_isBand_9 : decode M_R_isBand.2.1 9 = .ok (.iconst 1, 1) := by decide +kernel
theorem d_R_isBand_10 : decode M_R_isBand.2.1 10 = .ok (.goto (4), 3) := by decide +kernel
theorem d_R_isBand_13 : decode M_R_isBand.2.1 13 = .ok (.iconst 0, 1) := by decide +kernel
theorem d_R_isBand_14 : decode M_R_isBand.2.1 14 = .ok (.ireturn, 1) := by decide +kernel
theorem d_R_belongs_0 : decode M_R_belongs.2.1 0 = .ok (.iconst 2, 1) := by decide +kernel
theorem d_R_belongs_1 : decode M_R_belongs.2.1 1 = .ok (.iload_n 0, 1) := by decide +kernel
theorem d_R_belongs_2 : decode M_R_belongs.2.1 2 = .ok (.invokestatic 113, 3) := by decide +kernel
theorem d_R_belongs_5 : decode M_R_belongs.2.1 5 = .ok (.imul, 1) := by decide +kernel
theorem d_R_belongs_6 : decode M_R_belongs.2.1 6 = .ok (.istore 4, 2) := by decide +kernel
theorem d_R_belongs_8 : decode M_R_belongs.2.1 8 = .ok (.iload_n 2, 1) := by decide +kernel
theorem d_R_belongs_9 : decode M_R_belongs.2.1 9 = .ok (.iload_n 0, 1) := by decide +kernel
theorem d_R_belongs_10 : decode M_R_belongs.2.1 10 = .ok (.iload_n 1, 1) := by decide +kernel
theorem d_R_belongs_11 : decode M_R_belongs.2.1 11 = .ok (.iconst 0, 1) := by decide +kernel
theorem d_R_belongs_12 : decode M_R_belongs.2.1 12 = .ok (.invokestatic 126, 3) := by decide +kernel
theorem d_R_belongs_15 : decode M_R_belongs.2.1 15 = .ok (.isub, 1) := by decide +kernel
theorem d_R_belongs_16 : decode M_R_belongs.2.1 16 = .ok (.iload 4, 2) := by decide +kernel
theorem d_R_belongs_18 : decode M_R_belongs.2.1 18 = .ok (.irem, 1) := by decide +kernel
theorem d_R_belongs_19 : decode M_R_belongs.2.1 19 = .ok (.ifCond .ne (21), 3) := by decide +kernel
theorem d_R_belongs_22 : decode M_R_belongs.2.1 22 = .ok (.iload_n 3, 1) := by decide +kernel
theorem d_R_belongs_23 : decode M_R_belongs.2.1 23 = .ok (.iload_n 0, 1) := by decide +kernel
theorem d_R_belongs_24 : decode M_R_belongs.2.1 24 = .ok (.iload_n 1, 1) := by decide +kernel
theorem d_R_belongs_25 : decode M_R_belongs.2.1 25 = .ok (.iconst 1, 1) := by decide +kernel
theorem d_R_belongs_26 : decode M_R_belongs.2.1 26 = .ok (.invokestatic 126, 3) := by decide +kernel
theorem d_R_belongs_29 : decode M_R_belongs.2.1 29 = .ok (.isub, 1) := by decide +kernel
theorem d_R_belongs_30 : decode M_R_belongs.2.1 30 = .ok (.iload 4, 2) := by decide +kernel
theorem d_R_belongs_32 : decode M_R_belongs.2.1 32 = .ok (.irem, 1) := by decide +kernel
theorem d_R_belongs_33 : decode M_R_belongs.2.1 33 = .ok (.ifCond .ne (7), 3) := by decide +kernel
theorem d_R_belongs_36 : decode M_R_belongs.2.1 36 = .ok (.iconst 1, 1) := by decide +kernel
theorem d_R_belongs_37 : decode M_R_belongs.2.1 37 = .ok (.goto (4), 3) := by decide +kernel
theorem d_R_belongs_40 : decode M_R_belongs.2.1 40 = .ok (.iconst 0, 1) := by decide +kernel
theorem d_R_belongs_41 : decode M_R_belongs.2.1 41 = .ok (.ireturn, 1) := by decide +kernel
theorem d_R_coefficient_0 : decode M_R_coefficient.2.1 0 = .ok (.aload_n 0, 1) := by decide +kernel
theorem d_R_coefficient_1 : decode M_R_coefficient.2.1 1 = .ok (.iload_n 2, 1) := by decide +kernel
theorem d_R_coefficient_2 : decode M_R_coefficient.2.1 2 = .ok (.invokevirtual 123, 3) := by decide +kernel
theorem d_R_coefficient_5 : decode M_R_coefficient.2.1 5 = .ok (.ifCond .eq (17), 3) := by decide +kernel
theorem d_R_coefficient_8 : decode M_R_coefficient.2.1 8 = .ok (.iload_n 3, 1) := by decide +kernel
theorem d_R_coefficient_9 : decode M_R_coefficient.2.1 9 = .ok (.invokestatic 130, 3) := by decide +kernel
theorem d_R_coefficient_12 : decode M_R_coefficient.2.1 12 = .ok (.ifCond .eq (10), 3) := by decide +kernel
theorem d_R_coefficient_15 : decode M_R_coefficient.2.1 15 = .ok (.iload_n 1, 1) := by decide +kernel
theorem d_R_coefficient_16 : decode M_R_coefficient.2.1 16 = .ok (.invokestatic 45, 3) := by decide +kernel
theorem d_R_coefficient_19 : decode M_R_coefficient.2.1 19 = .ok (.ifCond .ne (5), 3) := by decide +kernel
theorem d_R_coefficient_22 : decode M_R_coefficient.2.1 22 = .ok (.iconst 0, 1) := by decide +kernel
theorem d_R_coefficient_23 : decode M_R_coefficient.2.1 23 = .ok (.ireturn, 1) := by decide +kernel
theorem d_R_coefficient_24 : decode M_R_coefficient.2.1 24 = .ok (.ldc2_w 137, 3) := by decide +kernel
theorem d_R_coefficient_27 : decode M_R_coefficient.2.1 27 = .ok (.iload_n 2, 1) := by decide +kernel
theorem d_R_coefficient_28 : decode M_R_coefficient.2.1 28 = .ok (.invokestatic 113, 3) := by decide +kernel
theorem d_R_coefficient_31 : decode M_R_coefficient.2.1 31 = .ok (.i2l, 1) := by decide +kernel
theorem d_R_coefficient_32 : decode M_R_coefficient.2.1 32 = .ok (.lmul, 1) := by decide +kernel
theorem d_R_coefficient_33 : decode M_R_coefficient.2.1 33 = .ok (.iload 4, 2) := by decide +kernel
theorem d_R_coefficient_35 : decode M_R_coefficient.2.1 35 = .ok (.i2l, 1) := by decide +kernel
theorem d_R_coefficient_36 : decode M_R_coefficient.2.1 36 = .ok (.lmul, 1) := by decide +kernel
theorem d_R_coefficient_37 : decode M_R_coefficient.2.1 37 = .ok (.iload_n 2, 1) := by decide +kernel
theorem d_R_coefficient_38 : decode M_R_coefficient.2.1 38 = .ok (.iload_n 3, 1) := by decide +kernel
theorem d_R_coefficient_39 : decode M_R_coefficient.2.1 39 = .ok (.iconst 0, 1) := by decide +kernel
theorem d_R_coefficient_40 : decode M_R_coefficient.2.1 40 = .ok (.invokestatic 126, 3) := by decide +kernel
theorem d_R_coefficient_43 : decode M_R_coefficient.2.1 43 = .ok (.i2l, 1) := by decide +kernel
theorem d_R_coefficient_44 : decode M_R_coefficient.2.1 44 = .ok (.ladd, 1) := by decide +kernel
theorem d_R_coefficient_45 : decode M_R_coefficient.2.1 45 = .ok (.lstore 6, 2) := by decide +kernel
theorem d_R_coefficient_47 : decode M_R_coefficient.2.1 47 = .ok (.ldc2_w 137, 3) := by decide +kernel
theorem d_R_coefficient_50 : decode M_R_coefficient.2.1 50 = .ok (.iload_n 2, 1) := by decide +kernel
theorem d_R_coefficient_51 : decode M_R_coefficient.2.1 51 = .ok (.invokestatic 113, 3) := by decide +kernel
theorem d_R_coefficient_54 : decode M_R_coefficient.2.1 54 = .ok (.i2l, 1) := by decide +kernel
theorem d_R_coefficient_55 : decode M_R_coefficient.2.1 55 = .ok (.lmul, 1) := by decide +kernel
theorem d_R_coefficient_56 : decode M_R_coefficient.2.1 56 = .ok (.iload 5, 2) := by decide +kernel
theorem d_R_coefficient_58 : decode M_R_coefficient.2.1 58 = .ok (.i2l, 1) := by decide +kernel
theorem d_R_coefficient_59 : decode M_R_coefficient.2.1 59 = .ok (.lmul, 1) := by decide +kernel
theorem d_R_coefficient_60 : decode M_R_coefficient.2.1 60 = .ok (.iload_n 2, 1) := by decide +kernel
theorem d_R_coefficient_61 : decode M_R_coefficient.2.1 61 = .ok (.iload_n 3, 1) := by decide +kernel
theorem d_R_coefficient_62 : decode M_R_coefficient.2.1 62 = .ok (.iconst 1, 1) := by decide +kernel
theorem d_R_coefficient_63 : decode M_R_coefficient.2.1 63 = .ok (.invokestatic 126, 3) := by decide +kernel
theorem d_R_coefficient_66 : decode M_R_coefficient.2.1 66 = .ok (.i2l, 1) := by decide +kernel
theorem d_R_coefficient_67 : decode M_R_coefficient.2.1 67 = .ok (.ladd, 1) := by decide +kernel
theorem d_R_coefficient_68 : decode M_R_coefficient.2.1 68 = .ok (.lstore 8, 2) := by decide +kernel
theorem d_R_coefficient_70 : decode M_R_coefficient.2.1 70 = .ok (.lload 6, 2) := by decide +kernel
theorem d_R_coefficient_72 : decode M_R_coefficient.2.1 72 = .ok (.lconst 0, 1) := by decide +kernel
theorem d_R_coefficient_73 : decode M_R_coefficient.2.1 73 = .ok (.lcmp, 1) := by decide +kernel
theorem d_R_coefficient_74 : decode M_R_coefficient.2.1 74 = .ok (.ifCond .lt (28), 3) := by decide +kernel
theorem d_R_coefficient_77 : decode M_R_coefficient.2.1 77 = .ok (.lload 6, 2) := by decide +kernel
theorem d_R_coefficient_79 : decode M_R_coefficient.2.1 79 = .ok (.ldc2_w 139, 3) := by decide +kernel
theorem d_R_coefficient_82 : decode M_R_coefficient.2.1 82 = .ok (.lcmp, 1) := by decide +kernel
theorem d_R_coefficient_83 : decode M_R_coefficient.2.1 83 = .ok (.ifCond .gt (19), 3) := by decide +kernel
theorem d_R_coefficient_86 : decode M_R_coefficient.2.1 86 = .ok (.lload 8, 2) := by decide +kernel
theorem d_R_coefficient_88 : decode M_R_coefficient.2.1 88 = .ok (.lconst 0, 1) := by decide +kernel
theorem d_R_coefficient_89 : decode M_R_coefficient.2.1 89 = .ok (.lcmp, 1) := by decide +kernel
theorem d_R_coefficient_90 : decode M_R_coefficient.2.1 90 = .ok (.ifCond .lt (12), 3) := by decide +kernel
theorem d_R_coefficient_93 : decode M_R_coefficient.2.1 93 = .ok (.lload 8, 2) := by decide +kernel
theorem d_R_coefficient_95 : decode M_R_coefficient.2.1 95 = .ok (.ldc2_w 139, 3) := by decide +kernel
theorem d_R_coefficient_98 : decode M_R_coefficient.2.1 98 = .ok (.lcmp, 1) := by decide +kernel
theorem d_R_coefficient_99 : decode M_R_coefficient.2.1 99 = .ok (.ifCond .le (7), 3) := by decide +kernel
theorem d_R_coefficient_102 : decode M_R_coefficient.2.1 102 = .ok (.iconst 1, 1) := by decide +kernel
theorem d_R_coefficient_103 : decode M_R_coefficient.2.1 103 = .ok (.goto (4), 3) := by decide +kernel
theorem d_R_coefficient_106 : decode M_R_coefficient.2.1 106 = .ok (.iconst 0, 1) := by decide +kernel
theorem d_R_coefficient_107 : decode M_R_coefficient.2.1 107 = .ok (.istore 10, 2) := by decide +kernel
theorem d_R_coefficient_109 : decode M_R_coefficient.2.1 109 = .ok (.iload 10, 2) := by decide +kernel
theorem d_R_coefficient_111 : decode M_R_coefficient.2.1 111 = .ok (.ifCond .eq (7), 3) := by decide +kernel
theorem d_R_coefficient_114 : decode M_R_coefficient.2.1 114 = .ok (.iconst 0, 1) := by decide +kernel
theorem d_R_coefficient_115 : decode M_R_coefficient.2.1 115 = .ok (.goto (14), 3) := by decide +kernel
theorem d_R_coefficient_118 : decode M_R_coefficient.2.1 118 = .ok (.aload_n 0, 1) := by decide +kernel
theorem d_R_coefficient_119 : decode M_R_coefficient.2.1 119 = .ok (.iload_n 1, 1) := by decide +kernel
theorem d_R_coefficient_120 : decode M_R_coefficient.2.1 120 = .ok (.lload 6, 2) := by decide +kernel
theorem d_R_coefficient_122 : decode M_R_coefficient.2.1 122 = .ok (.l2i, 1) := by decide +kernel
theorem d_R_coefficient_123 : decode M_R_coefficient.2.1 123 = .ok (.lload 8, 2) := by decide +kernel
theorem d_R_coefficient_125 : decode M_R_coefficient.2.1 125 = .ok (.l2i, 1) := by decide +kernel
theorem d_R_coefficient_126 : decode M_R_coefficient.2.1 126 = .ok (.invokevirtual 99, 3) := by decide +kernel
theorem d_R_coefficient_129 : decode M_R_coefficient.2.1 129 = .ok (.ireturn, 1) := by decide +kernel
theorem d_R_amount_0 : decode M_R_amount.2.1 0 = .ok (.iload_n 0, 1) := by decide +kernel
theorem d_R_amount_1 : decode M_R_amount.2.1 1 = .ok (.ifCond .ge (9), 3) := by decide +kernel
theorem d_R_amount_4 : decode M_R_amount.2.1 4 = .ok (.iload_n 0, 1) := by decide +kernel
theorem d_R_amount_5 : decode M_R_amount.2.1 5 = .ok (.i2l, 1) := by decide +kernel
theorem d_R_amount_6 : decode M_R_amount.2.1 6 = .ok (.lneg, 1) := by decide +kernel
theorem d_R_amount_7 : decode M_R_amount.2.1 7 = .ok (.goto (5), 3) := by decide +kernel
theorem d_R_amount_10 : decode M_R_amount.2.1 10 = .ok (.iload_n 0, 1) := by decide +kernel
theorem d_R_amount_11 : decode M_R_amount.2.1 11 = .ok (.i2l, 1) := by decide +kernel
theorem d_R_amount_12 : decode M_R_amount.2.1 12 = .ok (.lreturn, 1) := by decide +kernel
end
section
theorem d_R_open_0 : decode M_R_open.2.1 0 = .ok (.iload_n 1, 1) := by decide +kernel
theorem d_R_open_1 : decode M_R_open.2.1 1 = .ok (.ifCond .lt (45), 3) := by decide +kernel
theorem d_R_open_4 : decode M_R_open.2.1 4 = .ok (.iload_n 1, 1) := by decide +kernel
theorem d_R_open_5 : decode M_R_open.2.1 5 = .ok (.sipush (1000), 3) := by decide +kernel
theorem d_R_open_8 : decode M_R_open.2.1 8 = .ok (.if_icmp .gt (38), 3) := by decide +kernel
theorem d_R_open_11 : decode M_R_open.2.1 11 = .ok (.iload_n 2, 1) := by decide +kernel
theorem d_R_open_12 : decode M_R_open.2.1 12 = .ok (.ifCond .lt (34), 3) := by decide +kernel
theorem d_R_open_15 : decode M_R_open.2.1 15 = .ok (.iload_n 2, 1) := by decide +kernel
theorem d_R_open_16 : decode M_R_open.2.1 16 = .ok (.sipush (1000), 3) := by decide +kernel
theorem d_R_open_19 : decode M_R_open.2.1 19 = .ok (.if_icmp .gt (27), 3) := by decide +kernel
theorem d_R_open_22 : decode M_R_open.2.1 22 = .ok (.iload_n 3, 1) := by decide +kernel
theorem d_R_open_23 : decode M_R_open.2.1 23 = .ok (.iconst 1, 1) := by decide +kernel
theorem d_R_open_24 : decode M_R_open.2.1 24 = .ok (.if_icmp .lt (22), 3) := by decide +kernel
theorem d_R_open_27 : decode M_R_open.2.1 27 = .ok (.iload_n 3, 1) := by decide +kernel
theorem d_R_open_28 : decode M_R_open.2.1 28 = .ok (.bipush (16), 2) := by decide +kernel
theorem d_R_open_30 : decode M_R_open.2.1 30 = .ok (.if_icmp .gt (16), 3) := by decide +kernel
theorem d_R_open_33 : decode M_R_open.2.1 33 = .ok (.iload 4, 2) := by decide +kernel
theorem d_R_open_35 : decode M_R_open.2.1 35 = .ok (.iconst 1, 1) := by decide +kernel
theorem d_R_open_36 : decode M_R_open.2.1 36 = .ok (.if_icmp .lt (10), 3) := by decide +kernel
theorem d_R_open_39 : decode M_R_open.2.1 39 = .ok (.iload 4, 2) := by decide +kernel
theorem d_R_open_41 : decode M_R_open.2.1 41 = .ok (.bipush (16), 2) := by decide +kernel
theorem d_R_open_43 : decode M_R_open.2.1 43 = .ok (.if_icmp .le (5), 3) := by decide +kernel
theorem d_R_open_46 : decode M_R_open.2.1 46 = .ok (.iconst 0, 1) := by decide +kernel
theorem d_R_open_47 : decode M_R_open.2.1 47 = .ok (.ireturn, 1) := by decide +kernel
theorem d_R_open_48 : decode M_R_open.2.1 48 = .ok (.aload_n 0, 1) := by decide +kernel
theorem d_R_open_49 : decode M_R_open.2.1 49 = .ok (.iconst 1, 1) := by decide +kernel
theorem d_R_open_50 : decode M_R_open.2.1 50 = .ok (.putfield 22, 3) := by decide +kernel
theorem d_R_open_53 : decode M_R_open.2.1 53 = .ok (.aload_n 0, 1) := by decide +kernel
theorem d_R_open_54 : decode M_R_open.2.1 54 = .ok (.iload_n 1, 1) := by decide +kernel
theorem d_R_open_55 : decode M_R_open.2.1 55 = .ok (.putfield 26, 3) := by decide +kernel
theorem d_R_open_58 : decode M_R_open.2.1 58 = .ok (.aload_n 0, 1) := by decide +kernel
theorem d_R_open_59 : decode M_R_open.2.1 59 = .ok (.iload_n 2, 1) := by decide +kernel
theorem d_R_open_60 : decode M_R_open.2.1 60 = .ok (.putfield 33, 3) := by decide +kernel
theorem d_R_open_63 : decode M_R_open.2.1 63 = .ok (.aload_n 0, 1) := by decide +kernel
theorem d_R_open_64 : decode M_R_open.2.1 64 = .ok (.iload_n 3, 1) := by decide +kernel
theorem d_R_open_65 : decode M_R_open.2.1 65 = .ok (.putfield 30, 3) := by decide +kernel
theorem d_R_open_68 : decode M_R_open.2.1 68 = .ok (.aload_n 0, 1) := by decide +kernel
theorem d_R_open_69 : decode M_R_open.2.1 69 = .ok (.iload 4, 2) := by decide +kernel
theorem d_R_open_71 : decode M_R_open.2.1 71 = .ok (.putfield 36, 3) := by decide +kernel
theorem d_R_open_74 : decode M_R_open.2.1 74 = .ok (.aload_n 0, 1) := by decide +kernel
theorem d_R_open_75 : decode M_R_open.2.1 75 = .ok (.iconst 0, 1) := by decide +kernel
theorem d_R_open_76 : decode M_R_open.2.1 76 = .ok (.putfield 39, 3) := by decide +kernel
theorem d_R_open_79 : decode M_R_open.2.1 79 = .ok (.aload_n 0, 1) := by decide +kernel
theorem d_R_open_80 : decode M_R_open.2.1 80 = .ok (.iconst 0, 1) := by decide +kernel
theorem d_R_open_81 : decode M_R_open.2.1 81 = .ok (.putfield 42, 3) := by decide +kernel
theorem d_R_open_84 : decode M_R_open.2.1 84 = .ok (.iconst 0, 1) := by decide +kernel
theorem d_R_open_85 : decode M_R_open.2.1 85 = .ok (.istore 5, 2) := by decide +kernel
theorem d_R_open_87 : decode M_R_open.2.1 87 = .ok (.iload 5, 2) := by decide +kernel
theorem d_R_open_89 : decode M_R_open.2.1 89 = .ok (.sipush (768), 3) := by decide +kernel
theorem d_R_open_92 : decode M_R_open.2.1 92 = .ok (.if_icmp .ge (17), 3) := by decide +kernel
theorem d_R_open_95 : decode M_R_open.2.1 95 = .ok (.aload_n 0, 1) := by decide +kernel
theorem d_R_open_96 : decode M_R_open.2.1 96 = .ok (.getfield 13, 3) := by decide +kernel
theorem d_R_open_99 : decode M_R_open.2.1 99 = .ok (.iload 5, 2) := by decide +kernel
theorem d_R_open_101 : decode M_R_open.2.1 101 = .ok (.iconst 0, 1) := by decide +kernel
theorem d_R_open_102 : decode M_R_open.2.1 102 = .ok (.iastore, 1) := by decide +kernel
theorem d_R_open_103 : decode M_R_open.2.1 103 = .ok (.iinc 5 (1), 3) := by decide +kernel
theorem d_R_open_106 : decode M_R_open.2.1 106 = .ok (.goto (-19), 3) := by decide +kernel
theorem d_R_open_109 : decode M_R_open.2.1 109 = .ok (.iconst 1, 1) := by decide +kernel
theorem d_R_open_110 : decode M_R_open.2.1 110 = .ok (.ireturn, 1) := by decide +kernel
theorem d_R_put_0 : decode M_R_put.2.1 0 = .ok (.iload_n 1, 1) := by decide +kernel
theorem d_R_put_1 : decode M_R_put.2.1 1 = .ok (.invokestatic 45, 3) := by decide +kernel
theorem d_R_put_4 : decode M_R_put.2.1 4 = .ok (.ifCond .eq (42), 3) := by decide +kernel
theorem d_R_put_7 : decode M_R_put.2.1 7 = .ok (.aload_n 0, 1) := by decide +kernel
theorem d_R_put_8 : decode M_R_put.2.1 8 = .ok (.iload_n 2, 1) := by decide +kernel
theorem d_R_put_9 : decode M_R_put.2.1 9 = .ok (.iload_n 3, 1) := by decide +kernel
theorem d_R_put_10 : decode M_R_put.2.1 10 = .ok (.invokevirtual 49, 3) := by decide +kernel
theorem d_R_put_13 : decode M_R_put.2.1 13 = .ok (.ifCond .eq (33), 3) := by decide +kernel
theorem d_R_put_16 : decode M_R_put.2.1 16 = .ok (.iload 4, 2) := by decide +kernel
theorem d_R_put_18 : decode M_R_put.2.1 18 = .ok (.sipush (-32768), 3) := by decide +kernel
theorem d_R_put_21 : decode M_R_put.2.1 21 = .ok (.if_icmp .lt (25), 3) := by decide +kernel
theorem d_R_put_24 : decode M_R_put.2.1 24 = .ok (.iload 4, 2) := by decide +kernel
theorem d_R_put_26 : decode M_R_put.2.1 26 = .ok (.sipush (32767), 3) := by decide +kernel
theorem d_R_put_29 : decode M_R_put.2.1 29 = .ok (.if_icmp .gt (17), 3) := by decide +kernel
theorem d_R_put_32 : decode M_R_put.2.1 32 = .ok (.aload_n 0, 1) := by decide +kernel
theorem d_R_put_33 : decode M_R_put.2.1 33 = .ok (.getfield 42, 3) := by decide +kernel
theorem d_R_put_36 : decode M_R_put.2.1 36 = .ok (.ifCond .gt (10), 3) := by decide +kernel
theorem d_R_put_39 : decode M_R_put.2.1 39 = .ok (.aload_n 0, 1) := by decide +kernel
theorem d_R_put_40 : decode M_R_put.2.1 40 = .ok (.getfield 39, 3) := by decide +kernel
theorem d_R_put_43 : decode M_R_put.2.1 43 = .ok (.ifCond .eq (5), 3) := by decide +kernel
theorem d_R_put_46 : decode M_R_put.2.1 46 = .ok (.iconst 0, 1) := by decide +kernel
theorem d_R_put_47 : decode M_R_put.2.1 47 = .ok (.ireturn, 1) := by decide +kernel
theorem d_R_put_48 : decode M_R_put.2.1 48 = .ok (.aload_n 0, 1) := by decide +kernel
theorem d_R_put_49 : decode M_R_put.2.1 49 = .ok (.getfield 13, 3) := by decide +kernel
theorem d_R_put_52 : decode M_R_put.2.1 52 = .ok (.aload_n 0, 1) := by decide +kernel
theorem d_R_put_53 : decode M_R_put.2.1 53 = .ok (.iload_n 1, 1) := by decide +kernel
theorem d_R_put_54 : decode M_R_put.2.1 54 = .ok (.iload_n 2, 1) := by decide +kernel
theorem d_R_put_55 : decode M_R_put.2.1 55 = .ok (.iload_n 3, 1) := by decide +kernel
theorem d_R_put_56 : decode M_R_put.2.1 56 = .ok (.invokevirtual 53, 3) := by decide +kernel
theorem d_R_put_59 : decode M_R_put.2.1 59 = .ok (.iload 4, 2) := by decide +kernel
theorem d_R_put_61 : decode M_R_put.2.1 61 = .ok (.iastore, 1) := by decide +kernel
theorem d_R_put_62 : decode M_R_put.2.1 62 = .ok (.iconst 1, 1) := by decide +kernel
theorem d_R_put_63 : decode M_R_put.2.1 63 = .ok (.ireturn, 1) := by decide +kernel
theorem d_R_mix_0 : decode M_R_mix.2.1 0 = .ok (.aload_n 0, 1) := by decide +kernel
theorem d_R_mix_1 : decode M_R_mix.2.1 1 = .ok (.getfield 22, 3) := by decide +kernel
theorem d_R_mix_4 : decode M_R_mix.2.1 4 = .ok (.ifCond .eq (17), 3) := by decide +kernel
theorem d_R_mix_7 : decode M_R_mix.2.1 7 = .ok (.aload_n 0, 1) := by decide +kernel
theorem d_R_mix_8 : decode M_R_mix.2.1 8 = .ok (.getfield 42, 3) := by decide +kernel
theorem d_R_mix_11 : decode M_R_mix.2.1 11 = .ok (.ifCond .gt (10), 3) := by decide +kernel
theorem d_R_mix_14 : decode M_R_mix.2.1 14 = .ok (.aload_n 0, 1) := by decide +kernel
theorem d_R_mix_15 : decode M_R_mix.2.1 15 = .ok (.getfield 39, 3) := by decide +kernel
theorem d_R_mix_18 : decode M_R_mix.2.1 18 = .ok (.ifCond .eq (5), 3) := by decide +kernel
theorem d_R_mix_21 : decode M_R_mix.2.1 21 = .ok (.iconst 0, 1) := by decide +kernel
theorem d_R_mix_22 : decode M_R_mix.2.1 22 = .ok (.ireturn, 1) := by decide +kernel
theorem d_R_mix_23 : decode M_R_mix.2.1 23 = .ok (.iconst 0, 1) := by decide +kernel
theorem d_R_mix_24 : decode M_R_mix.2.1 24 = .ok (.istore_n 1, 1) := by decide +kernel
theorem d_R_mix_25 : decode M_R_mix.2.1 25 = .ok (.iload_n 1, 1) := by decide +kernel
theorem d_R_mix_26 : decode M_R_mix.2.1 26 = .ok (.sipush (256), 3) := by decide +kernel
theorem d_R_mix_29 : decode M_R_mix.2.1 29 = .ok (.if_icmp .ge (82), 3) := by decide +kernel
theorem d_R_mix_32 : decode M_R_mix.2.1 32 = .ok (.aload_n 0, 1) := by decide +kernel
theorem d_R_mix_33 : decode M_R_mix.2.1 33 = .ok (.getfield 13, 3) := by decide +kernel
theorem d_R_mix_36 : decode M_R_mix.2.1 36 = .ok (.iload_n 1, 1) := by decide +kernel
theorem d_R_mix_37 : decode M_R_mix.2.1 37 = .ok (.iaload, 1) := by decide +kernel
theorem d_R_mix_38 : decode M_R_mix.2.1 38 = .ok (.istore_n 2, 1) := by decide +kernel
theorem d_R_mix_39 : decode M_R_mix.2.1 39 = .ok (.aload_n 0, 1) := by decide +kernel
theorem d_R_mix_40 : decode M_R_mix.2.1 40 = .ok (.getfield 13, 3) := by decide +kernel
theorem d_R_mix_43 : decode M_R_mix.2.1 43 = .ok (.sipush (256), 3) := by decide +kernel
theorem d_R_mix_46 : decode M_R_mix.2.1 46 = .ok (.iload_n 1, 1) := by decide +kernel
theorem d_R_mix_47 : decode M_R_mix.2.1 47 = .ok (.iadd, 1) := by decide +kernel
theorem d_R_mix_48 : decode M_R_mix.2.1 48 = .ok (.iaload, 1) := by decide +kernel
theorem d_R_mix_49 : decode M_R_mix.2.1 49 = .ok (.istore_n 3, 1) := by decide +kernel
theorem d_R_mix_50 : decode M_R_mix.2.1 50 = .ok (.aload_n 0, 1) := by decide +kernel
theorem d_R_mix_51 : decode M_R_mix.2.1 51 = .ok (.getfield 13, 3) := by decide +kernel
theorem d_R_mix_54 : decode M_R_mix.2.1 54 = .ok (.sipush (512), 3) := by decide +kernel
theorem d_R_mix_57 : decode M_R_mix.2.1 57 = .ok (.iload_n 1, 1) := by decide +kernel
theorem d_R_mix_58 : decode M_R_mix.2.1 58 = .ok (.iadd, 1) := by decide +kernel
theorem d_R_mix_59 : decode M_R_mix.2.1 59 = .ok (.iaload, 1) := by decide +kernel
theorem d_R_mix_60 : decode M_R_mix.2.1 60 = .ok (.istore 4, 2) := by decide +kernel
theorem d_R_mix_62 : decode M_R_mix.2.1 62 = .ok (.aload_n 0, 1) := by decide +kernel
theorem d_R_mix_63 : decode M_R_mix.2.1 63 = .ok (.getfield 13, 3) := by decide +kernel
theorem d_R_mix_66 : decode M_R_mix.2.1 66 = .ok (.iload_n 1, 1) := by decide +kernel
theorem d_R_mix_67 : decode M_R_mix.2.1 67 = .ok (.iload_n 2, 1) := by decide +kernel
theorem d_R_mix_68 : decode M_R_mix.2.1 68 = .ok (.iconst 2, 1) := by decide +kernel
theorem d_R_mix_69 : decode M_R_mix.2.1 69 = .ok (.iload_n 3, 1) := by decide +kernel
theorem d_R_mix_70 : decode M_R_mix.2.1 70 = .ok (.imul, 1) := by decide +kernel
theorem d_R_mix_71 : decode M_R_mix.2.1 71 = .ok (.iadd, 1) := by decide +kernel
theorem d_R_mix_72 : decode M_R_mix.2.1 72 = .ok (.iload 4, 2) := by decide +kernel
theorem d_R_mix_74 : decode M_R_mix.2.1 74 = .ok (.iadd, 1) := by decide +kernel
theorem d_R_mix_75 : decode M_R_mix.2.1 75 = .ok (.iconst 2, 1) := by decide +kernel
theorem d_R_mix_76 : decode M_R_mix.2.1 76 = .ok (.ishr, 1) := by decide +kernel
theorem d_R_mix_77 : decode M_R_mix.2.1 77 = .ok (.iastore, 1) := by decide +kernel
theorem d_R_mix_78 : decode M_R_mix.2.1 78 = .ok (.aload_n 0, 1) := by decide +kernel
theorem d_R_mix_79 : decode M_R_mix.2.1 79 = .ok (.getfield 13, 3) := by decide +kernel
theorem d_R_mix_82 : decode M_R_mix.2.1 82 = .ok (.sipush (256), 3) := by decide +kernel
theorem d_R_mix_85 : decode M_R_mix.2.1 85 = .ok (.iload_n 1, 1) := by decide +kernel
theorem d_R_mix_86 : decode M_R_mix.2.1 86 = .ok (.iadd, 1) := by decide +kernel
theorem d_R_mix_87 : decode M_R_mix.2.1 87 = .ok (.iload 4, 2) := by decide +kernel
theorem d_R_mix_89 : decode M_R_mix.2.1 89 = .ok (.iload_n 3, 1) := by decide +kernel
theorem d_R_mix_90 : decode M_R_mix.2.1 90 = .ok (.isub, 1) := by decide +kernel
theorem d_R_mix_91 : decode M_R_mix.2.1 91 = .ok (.iastore, 1) := by decide +kernel
theorem d_R_mix_92 : decode M_R_mix.2.1 92 = .ok (.aload_n 0, 1) := by decide +kernel
theorem d_R_mix_93 : decode M_R_mix.2.1 93 = .ok (.getfield 13, 3) := by decide +kernel
theorem d_R_mix_96 : decode M_R_mix.2.1 96 = .ok (.sipush (512), 3) := by decide +kernel
theorem d_R_mix_99 : decode M_R_mix.2.1 99 = .ok (.iload_n 1, 1) := by decide +kernel
theorem d_R_mix_100 : decode M_R_mix.2.1 100 = .ok (.iadd, 1) := by decide +kernel
theorem d_R_mix_101 : decode M_R_mix.2.1 101 = .ok (.iload_n 2, 1) := by decide +kernel
theorem d_R_mix_102 : decode M_R_mix.2.1 102 = .ok (.iload_n 3, 1) := by decide +kernel
theorem d_R_mix_103 : decode M_R_mix.2.1 103 = .ok (.isub, 1) := by decide +kernel
theorem d_R_mix_104 : decode M_R_mix.2.1 104 = .ok (.iastore, 1) := by decide +kernel
theorem d_R_mix_105 : decode M_R_mix.2.1 105 = .ok (.iinc 1 (1), 3) := by decide +kernel
theorem d_R_mix_108 : decode M_R_mix.2.1 108 = .ok (.goto (-83), 3) := by decide +kernel
theorem d_R_mix_111 : decode M_R_mix.2.1 111 = .ok (.aload_n 0, 1) := by decide +kernel
theorem d_R_mix_112 : decode M_R_mix.2.1 112 = .ok (.iconst 1, 1) := by decide +kernel
theorem d_R_mix_113 : decode M_R_mix.2.1 113 = .ok (.putfield 39, 3) := by decide +kernel
theorem d_R_mix_116 : decode M_R_mix.2.1 116 = .ok (.iconst 1, 1) := by decide +kernel
theorem d_R_mix_117 : decode M_R_mix.2.1 117 = .ok (.ireturn, 1) := by decide +kernel
theorem d_R_unmix_0 : decode M_R_unmix.2.1 0 = .ok (.aload_n 0, 1) := by decide +kernel
theorem d_R_unmix_1 : decode M_R_unmix.2.1 1 = .ok (.getfield 42, 3) := by decide +kernel
theorem d_R_unmix_4 : decode M_R_unmix.2.1 4 = .ok (.ifCond .gt (10), 3) := by decide +kernel
theorem d_R_unmix_7 : decode M_R_unmix.2.1 7 = .ok (.aload_n 0, 1) := by decide +kernel
theorem d_R_unmix_8 : decode M_R_unmix.2.1 8 = .ok (.getfield 39, 3) := by decide +kernel
theorem d_R_unmix_11 : decode M_R_unmix.2.1 11 = .ok (.ifCond .ne (5), 3) := by decide +kernel
theorem d_R_unmix_14 : decode M_R_unmix.2.1 14 = .ok (.iconst 0, 1) := by decide +kernel
theorem d_R_unmix_15 : decode M_R_unmix.2.1 15 = .ok (.ireturn, 1) := by decide +kernel
theorem d_R_unmix_16 : decode M_R_unmix.2.1 16 = .ok (.iconst 0, 1) := by decide +kernel
theorem d_R_unmix_17 : decode M_R_unmix.2.1 17 = .ok (.istore_n 1, 1) := by decide +kernel
theorem d_R_unmix_18 : decode M_R_unmix.2.1 18 = .ok (.iload_n 1, 1) := by decide +kernel
theorem d_R_unmix_19 : decode M_R_unmix.2.1 19 = .ok (.sipush (256), 3) := by decide +kernel
theorem d_R_unmix_22 : decode M_R_unmix.2.1 22 = .ok (.if_icmp .ge (86), 3) := by decide +kernel
theorem d_R_unmix_25 : decode M_R_unmix.2.1 25 = .ok (.aload_n 0, 1) := by decide +kernel
theorem d_R_unmix_26 : decode M_R_unmix.2.1 26 = .ok (.getfield 13, 3) := by decide +kernel
theorem d_R_unmix_29 : decode M_R_unmix.2.1 29 = .ok (.iload_n 1, 1) := by decide +kernel
theorem d_R_unmix_30 : decode M_R_unmix.2.1 30 = .ok (.iaload, 1) := by decide +kernel
theorem d_R_unmix_31 : decode M_R_unmix.2.1 31 = .ok (.istore_n 2, 1) := by decide +kernel
theorem d_R_unmix_32 : decode M_R_unmix.2.1 32 = .ok (.aload_n 0, 1) := by decide +kernel
theorem d_R_unmix_33 : decode M_R_unmix.2.1 33 = .ok (.getfield 13, 3) := by decide +kernel
theorem d_R_unmix_36 : decode M_R_unmix.2.1 36 = .ok (.sipush (256), 3) := by decide +kernel
theorem d_R_unmix_39 : decode M_R_unmix.2.1 39 = .ok (.iload_n 1, 1) := by decide +kernel
theorem d_R_unmix_40 : decode M_R_unmix.2.1 40 = .ok (.iadd, 1) := by decide +kernel
theorem d_R_unmix_41 : decode M_R_unmix.2.1 41 = .ok (.iaload, 1) := by decide +kernel
theorem d_R_unmix_42 : decode M_R_unmix.2.1 42 = .ok (.istore_n 3, 1) := by decide +kernel
theorem d_R_unmix_43 : decode M_R_unmix.2.1 43 = .ok (.aload_n 0, 1) := by decide +kernel
theorem d_R_unmix_44 : decode M_R_unmix.2.1 44 = .ok (.getfield 13, 3) := by decide +kernel
theorem d_R_unmix_47 : decode M_R_unmix.2.1 47 = .ok (.sipush (512), 3) := by decide +kernel
theorem d_R_unmix_50 : decode M_R_unmix.2.1 50 = .ok (.iload_n 1, 1) := by decide +kernel
theorem d_R_unmix_51 : decode M_R_unmix.2.1 51 = .ok (.iadd, 1) := by decide +kernel
theorem d_R_unmix_52 : decode M_R_unmix.2.1 52 = .ok (.iaload, 1) := by decide +kernel
theorem d_R_unmix_53 : decode M_R_unmix.2.1 53 = .ok (.istore 4, 2) := by decide +kernel
theorem d_R_unmix_55 : decode M_R_unmix.2.1 55 = .ok (.iload_n 2, 1) := by decide +kernel
theorem d_R_unmix_56 : decode M_R_unmix.2.1 56 = .ok (.iload_n 3, 1) := by decide +kernel
theorem d_R_unmix_57 : decode M_R_unmix.2.1 57 = .ok (.iload 4, 2) := by decide +kernel
theorem d_R_unmix_59 : decode M_R_unmix.2.1 59 = .ok (.iadd, 1) := by decide +kernel
theorem d_R_unmix_60 : decode M_R_unmix.2.1 60 = .ok (.iconst 2, 1) := by decide +kernel
theorem d_R_unmix_61 : decode M_R_unmix.2.1 61 = .ok (.ishr, 1) := by decide +kernel
theorem d_R_unmix_62 : decode M_R_unmix.2.1 62 = .ok (.isub, 1) := by decide +kernel
theorem d_R_unmix_63 : decode M_R_unmix.2.1 63 = .ok (.istore 5, 2) := by decide +kernel
theorem d_R_unmix_65 : decode M_R_unmix.2.1 65 = .ok (.aload_n 0, 1) := by decide +kernel
theorem d_R_unmix_66 : decode M_R_unmix.2.1 66 = .ok (.getfield 13, 3) := by decide +kernel
theorem d_R_unmix_69 : decode M_R_unmix.2.1 69 = .ok (.iload_n 1, 1) := by decide +kernel
theorem d_R_unmix_70 : decode M_R_unmix.2.1 70 = .ok (.iload 4, 2) := by decide +kernel
theorem d_R_unmix_72 : decode M_R_unmix.2.1 72 = .ok (.iload 5, 2) := by decide +kernel
theorem d_R_unmix_74 : decode M_R_unmix.2.1 74 = .ok (.iadd, 1) := by decide +kernel
theorem d_R_unmix_75 : decode M_R_unmix.2.1 75 = .ok (.iastore, 1) := by decide +kernel
theorem d_R_unmix_76 : decode M_R_unmix.2.1 76 = .ok (.aload_n 0, 1) := by decide +kernel
theorem d_R_unmix_77 : decode M_R_unmix.2.1 77 = .ok (.getfield 13, 3) := by decide +kernel
theorem d_R_unmix_80 : decode M_R_unmix.2.1 80 = .ok (.sipush (256), 3) := by decide +kernel
theorem d_R_unmix_83 : decode M_R_unmix.2.1 83 = .ok (.iload_n 1, 1) := by decide +kernel
theorem d_R_unmix_84 : decode M_R_unmix.2.1 84 = .ok (.iadd, 1) := by decide +kernel
theorem d_R_unmix_85 : decode M_R_unmix.2.1 85 = .ok (.iload 5, 2) := by decide +kernel
theorem d_R_unmix_87 : decode M_R_unmix.2.1 87 = .ok (.iastore, 1) := by decide +kernel
theorem d_R_unmix_88 : decode M_R_unmix.2.1 88 = .ok (.aload_n 0, 1) := by decide +kernel
theorem d_R_unmix_89 : decode M_R_unmix.2.1 89 = .ok (.getfield 13, 3) := by decide +kernel
theorem d_R_unmix_92 : decode M_R_unmix.2.1 92 = .ok (.sipush (512), 3) := by decide +kernel
theorem d_R_unmix_95 : decode M_R_unmix.2.1 95 = .ok (.iload_n 1, 1) := by decide +kernel
theorem d_R_unmix_96 : decode M_R_unmix.2.1 96 = .ok (.iadd, 1) := by decide +kernel
theorem d_R_unmix_97 : decode M_R_unmix.2.1 97 = .ok (.iload_n 3, 1) := by decide +kernel
theorem d_R_unmix_98 : decode M_R_unmix.2.1 98 = .ok (.iload 5, 2) := by decide +kernel
theorem d_R_unmix_100 : decode M_R_unmix.2.1 100 = .ok (.iadd, 1) := by decide +kernel
theorem d_R_unmix_101 : decode M_R_unmix.2.1 101 = .ok (.iastore, 1) := by decide +kernel
theorem d_R_unmix_102 : decode M_R_unmix.2.1 102 = .ok (.iinc 1 (1), 3) := by decide +kernel
theorem d_R_unmix_105 : decode M_R_unmix.2.1 105 = .ok (.goto (-87), 3) := by decide +kernel
theorem d_R_unmix_108 : decode M_R_unmix.2.1 108 = .ok (.aload_n 0, 1) := by decide +kernel
theorem d_R_unmix_109 : decode M_R_unmix.2.1 109 = .ok (.iconst 0, 1) := by decide +kernel
theorem d_R_unmix_110 : decode M_R_unmix.2.1 110 = .ok (.putfield 39, 3) := by decide +kernel
theorem d_R_unmix_113 : decode M_R_unmix.2.1 113 = .ok (.iconst 1, 1) := by decide +kernel
theorem d_R_unmix_114 : decode M_R_unmix.2.1 114 = .ok (.ireturn, 1) := by decide +kernel
theorem d_R_mixed_0 : decode M_R_mixed.2.1 0 = .ok (.aload_n 0, 1) := by decide +kernel
theorem d_R_mixed_1 : decode M_R_mixed.2.1 1 = .ok (.getfield 39, 3) := by decide +kernel
theorem d_R_mixed_4 : decode M_R_mixed.2.1 4 = .ok (.ireturn, 1) := by decide +kernel
theorem d_R_old_0 : decode M_R_old.2.1 0 = .ok (.aload_n 0, 1) := by decide +kernel
theorem d_R_old_1 : decode M_R_old.2.1 1 = .ok (.getfield 16, 3) := by decide +kernel
theorem d_R_old_4 : decode M_R_old.2.1 4 = .ok (.aload_n 0, 1) := by decide +kernel
theorem d_R_old_5 : decode M_R_old.2.1 5 = .ok (.iload_n 1, 1) := by decide +kernel
theorem d_R_old_6 : decode M_R_old.2.1 6 = .ok (.invokevirtual 63, 3) := by decide +kernel
theorem d_R_old_9 : decode M_R_old.2.1 9 = .ok (.aload_n 0, 1) := by decide +kernel
theorem d_R_old_10 : decode M_R_old.2.1 10 = .ok (.getfield 57, 3) := by decide +kernel
theorem d_R_old_13 : decode M_R_old.2.1 13 = .ok (.isub, 1) := by decide +kernel
theorem d_R_old_14 : decode M_R_old.2.1 14 = .ok (.iaload, 1) := by decide +kernel
theorem d_R_old_15 : decode M_R_old.2.1 15 = .ok (.ireturn, 1) := by decide +kernel
theorem d_R_odd_0 : decode M_R_odd.2.1 0 = .ok (.iload_n 0, 1) := by decide +kernel
theorem d_R_odd_1 : decode M_R_odd.2.1 1 = .ok (.iconst 2, 1) := by decide +kernel
theorem d_R_odd_2 : decode M_R_odd.2.1 2 = .ok (.irem, 1) := by decide +kernel
theorem d_R_odd_3 : decode M_R_odd.2.1 3 = .ok (.ifCond .eq (7), 3) := by decide +kernel
theorem d_R_odd_6 : decode M_R_odd.2.1 6 = .ok (.iconst 1, 1) := by decide +kernel
theorem d_R_odd_7 : decode M_R_odd.2.1 7 = .ok (.goto (4), 3) := by decide +kernel
theorem d_R_odd_10 : decode M_R_odd.2.1 10 = .ok (.iconst 0, 1) := by decide +kernel
theorem d_R_odd_11 : decode M_R_odd.2.1 11 = .ok (.ireturn, 1) := by decide +kernel
theorem d_R_predicted_0 : decode M_R_predicted.2.1 0 = .ok (.aload_n 0, 1) := by decide +kernel
theorem d_R_predicted_1 : decode M_R_predicted.2.1 1 = .ok (.getfield 67, 3) := by decide +kernel
theorem d_R_predicted_4 : decode M_R_predicted.2.1 4 = .ok (.ifCond .ne (9), 3) := by decide +kernel
theorem d_R_predicted_7 : decode M_R_predicted.2.1 7 = .ok (.iload_n 1, 1) := by decide +kernel
theorem d_R_predicted_8 : decode M_R_predicted.2.1 8 = .ok (.iload_n 2, 1) := by decide +kernel
theorem d_R_predicted_9 : decode M_R_predicted.2.1 9 = .ok (.iadd, 1) := by decide +kernel
theorem d_R_predicted_10 : decode M_R_predicted.2.1 10 = .ok (.iconst 1, 1) := by decide +kernel
theorem d_R_predicted_11 : decode M_R_predicted.2.1 11 = .ok (.ishr, 1) := by decide +kernel
theorem d_R_predicted_12 : decode M_R_predicted.2.1 12 = .ok (.ireturn, 1) := by decide +kernel
theorem d_R_predicted_13 : decode M_R_predicted.2.1 13 = .ok (.aload_n 0, 1) := by decide +kernel
theorem d_R_predicted_14 : decode M_R_predicted.2.1 14 = .ok (.getfield 67, 3) := by decide +kernel
theorem d_R_predicted_17 : decode M_R_predicted.2.1 17 = .ok (.iconst 1, 1) := by decide +kernel
theorem d_R_predicted_18 : decode M_R_predicted.2.1 18 = .ok (.if_icmp .ne (7), 3) := by decide +kernel
theorem d_R_predicted_21 : decode M_R_predicted.2.1 21 = .ok (.iload_n 1, 1) := by decide +kernel
theorem d_R_predicted_22 : decode M_R_predicted.2.1 22 = .ok (.goto (19), 3) := by decide +kernel
theorem d_R_predicted_25 : decode M_R_predicted.2.1 25 = .ok (.bipush (9), 2) := by decide +kernel
theorem d_R_predicted_27 : decode M_R_predicted.2.1 27 = .ok (.iload_n 1, 1) := by decide +kernel
theorem d_R_predicted_28 : decode M_R_predicted.2.1 28 = .ok (.iload_n 2, 1) := by decide +kernel
theorem d_R_predicted_29 : decode M_R_predicted.2.1 29 = .ok (.iadd, 1) := by decide +kernel
theorem d_R_predicted_30 : decode M_R_predicted.2.1 30 = .ok (.imul, 1) := by decide +kernel
theorem d_R_predicted_31 : decode M_R_predicted.2.1 31 = .ok (.iload_n 3, 1) := by decide +kernel
theorem d_R_predicted_32 : decode M_R_predicted.2.1 32 = .ok (.isub, 1) := by decide +kernel
theorem d_R_predicted_33 : decode M_R_predicted.2.1 33 = .ok (.iload 4, 2) := by decide +kernel
theorem d_R_predicted_35 : decode M_R_predicted.2.1 35 = .ok (.isub, 1) := by decide +kernel
theorem d_R_predicted_36 : decode M_R_predicted.2.1 36 = .ok (.bipush (8), 2) := by decide +kernel
theorem d_R_predicted_38 : decode M_R_predicted.2.1 38 = .ok (.iadd, 1) := by decide +kernel
theorem d_R_predicted_39 : decode M_R_predicted.2.1 39 = .ok (.iconst 4, 1) := by decide +kernel
theorem d_R_predicted_40 : decode M_R_predicted.2.1 40 = .ok (.ishr, 1) := by decide +kernel
theorem d_R_predicted_41 : decode M_R_predicted.2.1 41 = .ok (.ireturn, 1) := by decide +kernel
theorem d_R_updated_0 : decode M_R_updated.2.1 0 = .ok (.aload_n 0, 1) := by decide +kernel
theorem d_R_updated_1 : decode M_R_updated.2.1 1 = .ok (.getfield 67, 3) := by decide +kernel
theorem d_R_updated_4 : decode M_R_updated.2.1 4 = .ok (.iconst 1, 1) := by decide +kernel
theorem d_R_updated_5 : decode M_R_updated.2.1 5 = .ok (.if_icmp .ne (9), 3) := by decide +kernel
theorem d_R_updated_8 : decode M_R_updated.2.1 8 = .ok (.iload_n 2, 1) := by decide +kernel
theorem d_R_updated_9 : decode M_R_updated.2.1 9 = .ok (.iconst 1, 1) := by decide +kernel
theorem d_R_updated_10 : decode M_R_updated.2.1 10 = .ok (.ishr, 1) := by decide +kernel
theorem d_R_updated_11 : decode M_R_updated.2.1 11 = .ok (.goto (10), 3) := by decide +kernel
theorem d_R_updated_14 : decode M_R_updated.2.1 14 = .ok (.iload_n 1, 1) := by decide +kernel
theorem d_R_updated_15 : decode M_R_updated.2.1 15 = .ok (.iload_n 2, 1) := by decide +kernel
theorem d_R_updated_16 : decode M_R_updated.2.1 16 = .ok (.iadd, 1) := by decide +kernel
theorem d_R_updated_17 : decode M_R_updated.2.1 17 = .ok (.iconst 2, 1) := by decide +kernel
theorem d_R_updated_18 : decode M_R_updated.2.1 18 = .ok (.iadd, 1) := by decide +kernel
theorem d_R_updated_19 : decode M_R_updated.2.1 19 = .ok (.iconst 2, 1) := by decide +kernel
theorem d_R_updated_20 : decode M_R_updated.2.1 20 = .ok (.ishr, 1) := by decide +kernel
theorem d_R_updated_21 : decode M_R_updated.2.1 21 = .ok (.ireturn, 1) := by decide +kernel
theorem d_R_low_0 : decode M_R_low.2.1 0 = .ok (.aload_n 0, 1) := by decide +kernel
theorem d_R_low_1 : decode M_R_low.2.1 1 = .ok (.iload_n 1, 1) := by decide +kernel
theorem d_R_low_2 : decode M_R_low.2.1 2 = .ok (.invokevirtual 63, 3) := by decide +kernel
theorem d_R_low_5 : decode M_R_low.2.1 5 = .ok (.istore_n 2, 1) := by decide +kernel
theorem d_R_low_6 : decode M_R_low.2.1 6 = .ok (.aload_n 0, 1) := by decide +kernel
theorem d_R_low_7 : decode M_R_low.2.1 7 = .ok (.iload_n 2, 1) := by decide +kernel
theorem d_R_low_8 : decode M_R_low.2.1 8 = .ok (.invokevirtual 70, 3) := by decide +kernel
theorem d_R_low_11 : decode M_R_low.2.1 11 = .ok (.aload_n 0, 1) := by decide +kernel
theorem d_R_low_12 : decode M_R_low.2.1 12 = .ok (.aload_n 0, 1) := by decide +kernel
theorem d_R_low_13 : decode M_R_low.2.1 13 = .ok (.iload_n 2, 1) := by decide +kernel
theorem d_R_low_14 : decode M_R_low.2.1 14 = .ok (.iconst 1, 1) := by decide +kernel
theorem d_R_low_15 : decode M_R_low.2.1 15 = .ok (.isub, 1) := by decide +kernel
theorem d_R_low_16 : decode M_R_low.2.1 16 = .ok (.invokevirtual 70, 3) := by decide +kernel
theorem d_R_low_19 : decode M_R_low.2.1 19 = .ok (.aload_n 0, 1) := by decide +kernel
theorem d_R_low_20 : decode M_R_low.2.1 20 = .ok (.iload_n 2, 1) := by decide +kernel
theorem d_R_low_21 : decode M_R_low.2.1 21 = .ok (.iconst 1, 1) := by decide +kernel
theorem d_R_low_22 : decode M_R_low.2.1 22 = .ok (.iadd, 1) := by decide +kernel
theorem d_R_low_23 : decode M_R_low.2.1 23 = .ok (.invokevirtual 70, 3) := by decide +kernel
theorem d_R_low_26 : decode M_R_low.2.1 26 = .ok (.invokevirtual 77, 3) := by decide +kernel
theorem d_R_low_29 : decode M_R_low.2.1 29 = .ok (.isub, 1) := by decide +kernel
theorem d_R_low_30 : decode M_R_low.2.1 30 = .ok (.ireturn, 1) := by decide +kernel
theorem d_R_lifted_0 : decode M_R_lifted.2.1 0 = .ok (.aload_n 0, 1) := by decide +kernel
theorem d_R_lifted_1 : decode M_R_lifted.2.1 1 = .ok (.getfield 57, 3) := by decide +kernel
theorem d_R_lifted_4 : decode M_R_lifted.2.1 4 = .ok (.aload_n 0, 1) := by decide +kernel
theorem d_R_lifted_5 : decode M_R_lifted.2.1 5 = .ok (.getfield 60, 3) := by decide +kernel
theorem d_R_lifted_8 : decode M_R_lifted.2.1 8 = .ok (.if_icmp .ne (26), 3) := by decide +kernel
theorem d_R_lifted_11 : decode M_R_lifted.2.1 11 = .ok (.iload_n 1, 1) := by decide +kernel
theorem d_R_lifted_12 : decode M_R_lifted.2.1 12 = .ok (.invokestatic 81, 3) := by decide +kernel
theorem d_R_lifted_15 : decode M_R_lifted.2.1 15 = .ok (.ifCond .eq (13), 3) := by decide +kernel
theorem d_R_lifted_18 : decode M_R_lifted.2.1 18 = .ok (.iconst 2, 1) := by decide +kernel
theorem d_R_lifted_19 : decode M_R_lifted.2.1 19 = .ok (.aload_n 0, 1) := by decide +kernel
theorem d_R_lifted_20 : decode M_R_lifted.2.1 20 = .ok (.iload_n 1, 1) := by decide +kernel
theorem d_R_lifted_21 : decode M_R_lifted.2.1 21 = .ok (.invokevirtual 70, 3) := by decide +kernel
theorem d_R_lifted_24 : decode M_R_lifted.2.1 24 = .ok (.imul, 1) := by decide +kernel
theorem d_R_lifted_25 : decode M_R_lifted.2.1 25 = .ok (.goto (8), 3) := by decide +kernel
theorem d_R_lifted_28 : decode M_R_lifted.2.1 28 = .ok (.aload_n 0, 1) := by decide +kernel
theorem d_R_lifted_29 : decode M_R_lifted.2.1 29 = .ok (.iload_n 1, 1) := by decide +kernel
theorem d_R_lifted_30 : decode M_R_lifted.2.1 30 = .ok (.invokevirtual 70, 3) := by decide +kernel
theorem d_R_lifted_33 : decode M_R_lifted.2.1 33 = .ok (.ireturn, 1) := by decide +kernel
theorem d_R_lifted_34 : decode M_R_lifted.2.1 34 = .ok (.iload_n 1, 1) := by decide +kernel
theorem d_R_lifted_35 : decode M_R_lifted.2.1 35 = .ok (.invokestatic 81, 3) := by decide +kernel
theorem d_R_lifted_38 : decode M_R_lifted.2.1 38 = .ok (.ifCond .eq (11), 3) := by decide +kernel
theorem d_R_lifted_41 : decode M_R_lifted.2.1 41 = .ok (.aload_n 0, 1) := by decide +kernel
theorem d_R_lifted_42 : decode M_R_lifted.2.1 42 = .ok (.iload_n 1, 1) := by decide +kernel
theorem d_R_lifted_43 : decode M_R_lifted.2.1 43 = .ok (.invokevirtual 84, 3) := by decide +kernel
theorem d_R_lifted_46 : decode M_R_lifted.2.1 46 = .ok (.goto (27), 3) := by decide +kernel
theorem d_R_lifted_49 : decode M_R_lifted.2.1 49 = .ok (.aload_n 0, 1) := by decide +kernel
theorem d_R_lifted_50 : decode M_R_lifted.2.1 50 = .ok (.iload_n 1, 1) := by decide +kernel
theorem d_R_lifted_51 : decode M_R_lifted.2.1 51 = .ok (.invokevirtual 70, 3) := by decide +kernel
theorem d_R_lifted_54 : decode M_R_lifted.2.1 54 = .ok (.aload_n 0, 1) := by decide +kernel
theorem d_R_lifted_55 : decode M_R_lifted.2.1 55 = .ok (.aload_n 0, 1) := by decide +kernel
theorem d_R_lifted_56 : decode M_R_lifted.2.1 56 = .ok (.iload_n 1, 1) := by decide +kernel
theorem d_R_lifted_57 : decode M_R_lifted.2.1 57 = .ok (.iconst 1, 1) := by decide +kernel
theorem d_R_lifted_58 : decode M_R_lifted.2.1 58 = .ok (.isub, 1) := by decide +kernel
theorem d_R_lifted_59 : decode M_R_lifted.2.1 59 = .ok (.invokevirtual 84, 3) := by decide +kernel
theorem d_R_lifted_62 : decode M_R_lifted.2.1 62 = .ok (.aload_n 0, 1) := by decide +kernel
theorem d_R_lifted_63 : decode M_R_lifted.2.1 63 = .ok (.iload_n 1, 1) := by decide +kernel
theorem d_R_lifted_64 : decode M_R_lifted.2.1 64 = .ok (.iconst 1, 1) := by decide +kernel
theorem d_R_lifted_65 : decode M_R_lifted.2.1 65 = .ok (.iadd, 1) := by decide +kernel
theorem d_R_lifted_66 : decode M_R_lifted.2.1 66 = .ok (.invokevirtual 84, 3) := by decide +kernel
theorem d_R_lifted_69 : decode M_R_lifted.2.1 69 = .ok (.invokevirtual 77, 3) := by decide +kernel
theorem d_R_lifted_72 : decode M_R_lifted.2.1 72 = .ok (.iadd, 1) := by decide +kernel
theorem d_R_lifted_73 : decode M_R_lifted.2.1 73 = .ok (.ireturn, 1) := by decide +kernel
theorem d_R_liftedBack_0 : decode M_R_liftedBack.2.1 0 = .ok (.aload_n 0, 1) := by decide +kernel
theorem d_R_liftedBack_1 : decode M_R_liftedBack.2.1 1 = .ok (.getfield 57, 3) := by decide +kernel
theorem d_R_liftedBack_4 : decode M_R_liftedBack.2.1 4 = .ok (.aload_n 0, 1) := by decide +kernel
theorem d_R_liftedBack_5 : decode M_R_liftedBack.2.1 5 = .ok (.getfield 60, 3) := by decide +kernel
theorem d_R_liftedBack_8 : decode M_R_liftedBack.2.1 8 = .ok (.if_icmp .ne (26), 3) := by decide +kernel
theorem d_R_liftedBack_11 : decode M_R_liftedBack.2.1 11 = .ok (.iload_n 1, 1) := by decide +kernel
theorem d_R_liftedBack_12 : decode M_R_liftedBack.2.1 12 = .ok (.invokestatic 81, 3) := by decide +kernel
theorem d_R_liftedBack_15 : decode M_R_liftedBack.2.1 15 = .ok (.ifCond .eq (13), 3) := by decide +kernel
theorem d_R_liftedBack_18 : decode M_R_liftedBack.2.1 18 = .ok (.aload_n 0, 1) := by decide +kernel
theorem d_R_liftedBack_19 : decode M_R_liftedBack.2.1 19 = .ok (.iload_n 1, 1) := by decide +kernel
theorem d_R_liftedBack_20 : decode M_R_liftedBack.2.1 20 = .ok (.invokevirtual 70, 3) := by decide +kernel
theorem d_R_liftedBack_23 : decode M_R_liftedBack.2.1 23 = .ok (.iconst 1, 1) := by decide +kernel
theorem d_R_liftedBack_24 : decode M_R_liftedBack.2.1 24 = .ok (.ishr, 1) := by decide +kernel
theorem d_R_liftedBack_25 : decode M_R_liftedBack.2.1 25 = .ok (.goto (8), 3) := by decide +kernel
theorem d_R_liftedBack_28 : decode M_R_liftedBack.2.1 28 = .ok (.aload_n 0, 1) := by decide +kernel
theorem d_R_liftedBack_29 : decode M_R_liftedBack.2.1 29 = .ok (.iload_n 1, 1) := by decide +kernel
theorem d_R_liftedBack_30 : decode M_R_liftedBack.2.1 30 = .ok (.invokevirtual 70, 3) := by decide +kernel
theorem d_R_liftedBack_33 : decode M_R_liftedBack.2.1 33 = .ok (.ireturn, 1) := by decide +kernel
theorem d_R_liftedBack_34 : decode M_R_liftedBack.2.1 34 = .ok (.iload_n 1, 1) := by decide +kernel
theorem d_R_liftedBack_35 : decode M_R_liftedBack.2.1 35 = .ok (.invokestatic 81, 3) := by decide +kernel
theorem d_R_liftedBack_38 : decode M_R_liftedBack.2.1 38 = .ok (.ifCond .eq (44), 3) := by decide +kernel
theorem d_R_liftedBack_41 : decode M_R_liftedBack.2.1 41 = .ok (.aload_n 0, 1) := by decide +kernel
theorem d_R_liftedBack_42 : decode M_R_liftedBack.2.1 42 = .ok (.iload_n 1, 1) := by decide +kernel
theorem d_R_liftedBack_43 : decode M_R_liftedBack.2.1 43 = .ok (.invokevirtual 70, 3) := by decide +kernel
theorem d_R_liftedBack_46 : decode M_R_liftedBack.2.1 46 = .ok (.aload_n 0, 1) := by decide +kernel
theorem d_R_liftedBack_47 : decode M_R_liftedBack.2.1 47 = .ok (.aload_n 0, 1) := by decide +kernel
theorem d_R_liftedBack_48 : decode M_R_liftedBack.2.1 48 = .ok (.iload_n 1, 1) := by decide +kernel
theorem d_R_liftedBack_49 : decode M_R_liftedBack.2.1 49 = .ok (.iconst 1, 1) := by decide +kernel
theorem d_R_liftedBack_50 : decode M_R_liftedBack.2.1 50 = .ok (.isub, 1) := by decide +kernel
theorem d_R_liftedBack_51 : decode M_R_liftedBack.2.1 51 = .ok (.invokevirtual 87, 3) := by decide +kernel
theorem d_R_liftedBack_54 : decode M_R_liftedBack.2.1 54 = .ok (.aload_n 0, 1) := by decide +kernel
theorem d_R_liftedBack_55 : decode M_R_liftedBack.2.1 55 = .ok (.iload_n 1, 1) := by decide +kernel
theorem d_R_liftedBack_56 : decode M_R_liftedBack.2.1 56 = .ok (.iconst 1, 1) := by decide +kernel
theorem d_R_liftedBack_57 : decode M_R_liftedBack.2.1 57 = .ok (.iadd, 1) := by decide +kernel
theorem d_R_liftedBack_58 : decode M_R_liftedBack.2.1 58 = .ok (.invokevirtual 87, 3) := by decide +kernel
theorem d_R_liftedBack_61 : decode M_R_liftedBack.2.1 61 = .ok (.aload_n 0, 1) := by decide +kernel
theorem d_R_liftedBack_62 : decode M_R_liftedBack.2.1 62 = .ok (.iload_n 1, 1) := by decide +kernel
theorem d_R_liftedBack_63 : decode M_R_liftedBack.2.1 63 = .ok (.iconst 3, 1) := by decide +kernel
theorem d_R_liftedBack_64 : decode M_R_liftedBack.2.1 64 = .ok (.isub, 1) := by decide +kernel
theorem d_R_liftedBack_65 : decode M_R_liftedBack.2.1 65 = .ok (.invokevirtual 87, 3) := by decide +kernel
theorem d_R_liftedBack_68 : decode M_R_liftedBack.2.1 68 = .ok (.aload_n 0, 1) := by decide +kernel
theorem d_R_liftedBack_69 : decode M_R_liftedBack.2.1 69 = .ok (.iload_n 1, 1) := by decide +kernel
theorem d_R_liftedBack_70 : decode M_R_liftedBack.2.1 70 = .ok (.iconst 3, 1) := by decide +kernel
theorem d_R_liftedBack_71 : decode M_R_liftedBack.2.1 71 = .ok (.iadd, 1) := by decide +kernel
theorem d_R_liftedBack_72 : decode M_R_liftedBack.2.1 72 = .ok (.invokevirtual 87, 3) := by decide +kernel
theorem d_R_liftedBack_75 : decode M_R_liftedBack.2.1 75 = .ok (.invokevirtual 73, 3) := by decide +kernel
theorem d_R_liftedBack_78 : decode M_R_liftedBack.2.1 78 = .ok (.iadd, 1) := by decide +kernel
theorem d_R_liftedBack_79 : decode M_R_liftedBack.2.1 79 = .ok (.goto (8), 3) := by decide +kernel
theorem d_R_liftedBack_82 : decode M_R_liftedBack.2.1 82 = .ok (.aload_n 0, 1) := by decide +kernel
theorem d_R_liftedBack_83 : decode M_R_liftedBack.2.1 83 = .ok (.iload_n 1, 1) := by decide +kernel
theorem d_R_liftedBack_84 : decode M_R_liftedBack.2.1 84 = .ok (.invokevirtual 87, 3) := by decide +kernel
theorem d_R_liftedBack_87 : decode M_R_liftedBack.2.1 87 = .ok (.ireturn, 1) := by decide +kernel
theorem d_R_work_0 : decode M_R_work.2.1 0 = .ok (.aload_n 0, 1) := by decide +kernel
theorem d_R_work_1 : decode M_R_work.2.1 1 = .ok (.getfield 57, 3) := by decide +kernel
theorem d_R_work_4 : decode M_R_work.2.1 4 = .ok (.istore_n 2, 1) := by decide +kernel
theorem d_R_work_5 : decode M_R_work.2.1 5 = .ok (.iload_n 2, 1) := by decide +kernel
theorem d_R_work_6 : decode M_R_work.2.1 6 = .ok (.aload_n 0, 1) := by decide +kernel
theorem d_R_work_7 : decode M_R_work.2.1 7 = .ok (.getfield 60, 3) := by decide +kernel
theorem d_R_work_10 : decode M_R_work.2.1 10 = .ok (.if_icmp .gt (37), 3) := by decide +kernel
theorem d_R_work_13 : decode M_R_work.2.1 13 = .ok (.aload_n 0, 1) := by decide +kernel
theorem d_R_work_14 : decode M_R_work.2.1 14 = .ok (.getfield 19, 3) := by decide +kernel
theorem d_R_work_17 : decode M_R_work.2.1 17 = .ok (.iload_n 2, 1) := by decide +kernel
theorem d_R_work_18 : decode M_R_work.2.1 18 = .ok (.aload_n 0, 1) := by decide +kernel
theorem d_R_work_19 : decode M_R_work.2.1 19 = .ok (.getfield 57, 3) := by decide +kernel
theorem d_R_work_22 : decode M_R_work.2.1 22 = .ok (.isub, 1) := by decide +kernel
theorem d_R_work_23 : decode M_R_work.2.1 23 = .ok (.iload_n 1, 1) := by decide +kernel
theorem d_R_work_24 : decode M_R_work.2.1 24 = .ok (.ifCond .eq (11), 3) := by decide +kernel
theorem d_R_work_27 : decode M_R_work.2.1 27 = .ok (.aload_n 0, 1) := by decide +kernel
theorem d_R_work_28 : decode M_R_work.2.1 28 = .ok (.iload_n 2, 1) := by decide +kernel
theorem d_R_work_29 : decode M_R_work.2.1 29 = .ok (.invokevirtual 90, 3) := by decide +kernel
theorem d_R_work_32 : decode M_R_work.2.1 32 = .ok (.goto (8), 3) := by decide +kernel
theorem d_R_work_35 : decode M_R_work.2.1 35 = .ok (.aload_n 0, 1) := by decide +kernel
theorem d_R_work_36 : decode M_R_work.2.1 36 = .ok (.iload_n 2, 1) := by decide +kernel
theorem d_R_work_37 : decode M_R_work.2.1 37 = .ok (.invokevirtual 93, 3) := by decide +kernel
theorem d_R_work_40 : decode M_R_work.2.1 40 = .ok (.iastore, 1) := by decide +kernel
theorem d_R_work_41 : decode M_R_work.2.1 41 = .ok (.iinc 2 (1), 3) := by decide +kernel
theorem d_R_work_44 : decode M_R_work.2.1 44 = .ok (.goto (-39), 3) := by decide +kernel
theorem d_R_work_47 : decode M_R_work.2.1 47 = .ok (.return_, 1) := by decide +kernel
theorem d_R_row_0 : decode M_R_row.2.1 0 = .ok (.aload_n 0, 1) := by decide +kernel
theorem d_R_row_1 : decode M_R_row.2.1 1 = .ok (.aload_n 0, 1) := by decide +kernel
theorem d_R_row_2 : decode M_R_row.2.1 2 = .ok (.getfield 26, 3) := by decide +kernel
theorem d_R_row_5 : decode M_R_row.2.1 5 = .ok (.iload_n 3, 1) := by decide +kernel
theorem d_R_row_6 : decode M_R_row.2.1 6 = .ok (.invokestatic 96, 3) := by decide +kernel
theorem d_R_row_9 : decode M_R_row.2.1 9 = .ok (.putfield 57, 3) := by decide +kernel
theorem d_R_row_12 : decode M_R_row.2.1 12 = .ok (.aload_n 0, 1) := by decide +kernel
theorem d_R_row_13 : decode M_R_row.2.1 13 = .ok (.aload_n 0, 1) := by decide +kernel
theorem d_R_row_14 : decode M_R_row.2.1 14 = .ok (.getfield 26, 3) := by decide +kernel
theorem d_R_row_17 : decode M_R_row.2.1 17 = .ok (.aload_n 0, 1) := by decide +kernel
theorem d_R_row_18 : decode M_R_row.2.1 18 = .ok (.getfield 30, 3) := by decide +kernel
theorem d_R_row_21 : decode M_R_row.2.1 21 = .ok (.iadd, 1) := by decide +kernel
theorem d_R_row_22 : decode M_R_row.2.1 22 = .ok (.iload_n 3, 1) := by decide +kernel
theorem d_R_row_23 : decode M_R_row.2.1 23 = .ok (.invokestatic 96, 3) := by decide +kernel
theorem d_R_row_26 : decode M_R_row.2.1 26 = .ok (.iconst 1, 1) := by decide +kernel
theorem d_R_row_27 : decode M_R_row.2.1 27 = .ok (.isub, 1) := by decide +kernel
theorem d_R_row_28 : decode M_R_row.2.1 28 = .ok (.putfield 60, 3) := by decide +kernel
theorem d_R_row_31 : decode M_R_row.2.1 31 = .ok (.aload_n 0, 1) := by decide +kernel
theorem d_R_row_32 : decode M_R_row.2.1 32 = .ok (.getfield 57, 3) := by decide +kernel
theorem d_R_row_35 : decode M_R_row.2.1 35 = .ok (.istore 5, 2) := by decide +kernel
theorem d_R_row_37 : decode M_R_row.2.1 37 = .ok (.iload 5, 2) := by decide +kernel
theorem d_R_row_39 : decode M_R_row.2.1 39 = .ok (.aload_n 0, 1) := by decide +kernel
theorem d_R_row_40 : decode M_R_row.2.1 40 = .ok (.getfield 60, 3) := by decide +kernel
theorem d_R_row_43 : decode M_R_row.2.1 43 = .ok (.if_icmp .gt (31), 3) := by decide +kernel
theorem d_R_row_46 : decode M_R_row.2.1 46 = .ok (.aload_n 0, 1) := by decide +kernel
theorem d_R_row_47 : decode M_R_row.2.1 47 = .ok (.getfield 16, 3) := by decide +kernel
theorem d_R_row_50 : decode M_R_row.2.1 50 = .ok (.iload 5, 2) := by decide +kernel
theorem d_R_row_52 : decode M_R_row.2.1 52 = .ok (.aload_n 0, 1) := by decide +kernel
theorem d_R_row_53 : decode M_R_row.2.1 53 = .ok (.getfield 57, 3) := by decide +kernel
theorem d_R_row_56 : decode M_R_row.2.1 56 = .ok (.isub, 1) := by decide +kernel
theorem d_R_row_57 : decode M_R_row.2.1 57 = .ok (.aload_n 0, 1) := by decide +kernel
theorem d_R_row_58 : decode M_R_row.2.1 58 = .ok (.iload_n 1, 1) := by decide +kernel
theorem d_R_row_59 : decode M_R_row.2.1 59 = .ok (.iload 5, 2) := by decide +kernel
theorem d_R_row_61 : decode M_R_row.2.1 61 = .ok (.iload_n 3, 1) := by decide +kernel
theorem d_R_row_62 : decode M_R_row.2.1 62 = .ok (.imul, 1) := by decide +kernel
theorem d_R_row_63 : decode M_R_row.2.1 63 = .ok (.iload_n 2, 1) := by decide +kernel
theorem d_R_row_64 : decode M_R_row.2.1 64 = .ok (.invokevirtual 99, 3) := by decide +kernel
theorem d_R_row_67 : decode M_R_row.2.1 67 = .ok (.iastore, 1) := by decide +kernel
theorem d_R_row_68 : decode M_R_row.2.1 68 = .ok (.iinc 5 (1), 3) := by decide +kernel
theorem d_R_row_71 : decode M_R_row.2.1 71 = .ok (.goto (-34), 3) := by decide +kernel
theorem d_R_row_74 : decode M_R_row.2.1 74 = .ok (.aload_n 0, 1) := by decide +kernel
theorem d_R_row_75 : decode M_R_row.2.1 75 = .ok (.iload 4, 2) := by decide +kernel
theorem d_R_row_77 : decode M_R_row.2.1 77 = .ok (.invokevirtual 102, 3) := by decide +kernel
theorem d_R_row_80 : decode M_R_row.2.1 80 = .ok (.aload_n 0, 1) := by decide +kernel
theorem d_R_row_81 : decode M_R_row.2.1 81 = .ok (.getfield 57, 3) := by decide +kernel
theorem d_R_row_84 : decode M_R_row.2.1 84 = .ok (.istore 5, 2) := by decide +kernel
theorem d_R_row_86 : decode M_R_row.2.1 86 = .ok (.iload 5, 2) := by decide +kernel
theorem d_R_row_88 : decode M_R_row.2.1 88 = .ok (.aload_n 0, 1) := by decide +kernel
theorem d_R_row_89 : decode M_R_row.2.1 89 = .ok (.getfield 60, 3) := by decide +kernel
theorem d_R_row_92 : decode M_R_row.2.1 92 = .ok (.if_icmp .gt (36), 3) := by decide +kernel
theorem d_R_row_95 : decode M_R_row.2.1 95 = .ok (.aload_n 0, 1) := by decide +kernel
theorem d_R_row_96 : decode M_R_row.2.1 96 = .ok (.getfield 13, 3) := by decide +kernel
theorem d_R_row_99 : decode M_R_row.2.1 99 = .ok (.aload_n 0, 1) := by decide +kernel
theorem d_R_row_100 : decode M_R_row.2.1 100 = .ok (.iload_n 1, 1) := by decide +kernel
theorem d_R_row_101 : decode M_R_row.2.1 101 = .ok (.iload 5, 2) := by decide +kernel
theorem d_R_row_103 : decode M_R_row.2.1 103 = .ok (.iload_n 3, 1) := by decide +kernel
theorem d_R_row_104 : decode M_R_row.2.1 104 = .ok (.imul, 1) := by decide +kernel
theorem d_R_row_105 : decode M_R_row.2.1 105 = .ok (.iload_n 2, 1) := by decide +kernel
theorem d_R_row_106 : decode M_R_row.2.1 106 = .ok (.invokevirtual 53, 3) := by decide +kernel
theorem d_R_row_109 : decode M_R_row.2.1 109 = .ok (.aload_n 0, 1) := by decide +kernel
theorem d_R_row_110 : decode M_R_row.2.1 110 = .ok (.getfield 19, 3) := by decide +kernel
theorem d_R_row_113 : decode M_R_row.2.1 113 = .ok (.iload 5, 2) := by decide +kernel
theorem d_R_row_115 : decode M_R_row.2.1 115 = .ok (.aload_n 0, 1) := by decide +kernel
theorem d_R_row_116 : decode M_R_row.2.1 116 = .ok (.getfield 57, 3) := by decide +kernel
theorem d_R_row_119 : decode M_R_row.2.1 119 = .ok (.isub, 1) := by decide +kernel
theorem d_R_row_120 : decode M_R_row.2.1 120 = .ok (.iaload, 1) := by decide +kernel
theorem d_R_row_121 : decode M_R_row.2.1 121 = .ok (.iastore, 1) := by decide +kernel
theorem d_R_row_122 : decode M_R_row.2.1 122 = .ok (.iinc 5 (1), 3) := by decide +kernel
theorem d_R_row_125 : decode M_R_row.2.1 125 = .ok (.goto (-39), 3) := by decide +kernel
theorem d_R_row_128 : decode M_R_row.2.1 128 = .ok (.return_, 1) := by decide +kernel
theorem d_R_rows_0 : decode M_R_rows.2.1 0 = .ok (.aload_n 0, 1) := by decide +kernel
theorem d_R_rows_1 : decode M_R_rows.2.1 1 = .ok (.getfield 33, 3) := by decide +kernel
theorem d_R_rows_4 : decode M_R_rows.2.1 4 = .ok (.istore 4, 2) := by decide +kernel
theorem d_R_rows_6 : decode M_R_rows.2.1 6 = .ok (.iload 4, 2) := by decide +kernel
theorem d_R_rows_8 : decode M_R_rows.2.1 8 = .ok (.aload_n 0, 1) := by decide +kernel
theorem d_R_rows_9 : decode M_R_rows.2.1 9 = .ok (.getfield 33, 3) := by decide +kernel
theorem d_R_rows_12 : decode M_R_rows.2.1 12 = .ok (.aload_n 0, 1) := by decide +kernel
theorem d_R_rows_13 : decode M_R_rows.2.1 13 = .ok (.getfield 36, 3) := by decide +kernel
theorem d_R_rows_16 : decode M_R_rows.2.1 16 = .ok (.iadd, 1) := by decide +kernel
theorem d_R_rows_17 : decode M_R_rows.2.1 17 = .ok (.if_icmp .ge (25), 3) := by decide +kernel
theorem d_R_rows_20 : decode M_R_rows.2.1 20 = .ok (.iload 4, 2) := by decide +kernel
theorem d_R_rows_22 : decode M_R_rows.2.1 22 = .ok (.iload_n 2, 1) := by decide +kernel
theorem d_R_rows_23 : decode M_R_rows.2.1 23 = .ok (.irem, 1) := by decide +kernel
theorem d_R_rows_24 : decode M_R_rows.2.1 24 = .ok (.ifCond .ne (12), 3) := by decide +kernel
theorem d_R_rows_27 : decode M_R_rows.2.1 27 = .ok (.aload_n 0, 1) := by decide +kernel
theorem d_R_rows_28 : decode M_R_rows.2.1 28 = .ok (.iload_n 1, 1) := by decide +kernel
theorem d_R_rows_29 : decode M_R_rows.2.1 29 = .ok (.iload 4, 2) := by decide +kernel
theorem d_R_rows_31 : decode M_R_rows.2.1 31 = .ok (.iload_n 2, 1) := by decide +kernel
theorem d_R_rows_32 : decode M_R_rows.2.1 32 = .ok (.iload_n 3, 1) := by decide +kernel
theorem d_R_rows_33 : decode M_R_rows.2.1 33 = .ok (.invokevirtual 110, 3) := by decide +kernel
theorem d_R_rows_36 : decode M_R_rows.2.1 36 = .ok (.iinc 4 (1), 3) := by decide +kernel
theorem d_R_rows_39 : decode M_R_rows.2.1 39 = .ok (.goto (-33), 3) := by decide +kernel
theorem d_R_rows_42 : decode M_R_rows.2.1 42 = .ok (.return_, 1) := by decide +kernel
theorem d_R_scale_0 : decode M_R_scale.2.1 0 = .ok (.iconst 1, 1) := by decide +kernel
theorem d_R_scale_1 : decode M_R_scale.2.1 1 = .ok (.iload_n 0, 1) := by decide +kernel
theorem d_R_scale_2 : decode M_R_scale.2.1 2 = .ok (.iconst 1, 1) := by decide +kernel
theorem d_R_scale_3 : decode M_R_scale.2.1 3 = .ok (.isub, 1) := by decide +kernel
theorem d_R_scale_4 : decode M_R_scale.2.1 4 = .ok (.ishl, 1) := by decide +kernel
theorem d_R_scale_5 : decode M_R_scale.2.1 5 = .ok (.ireturn, 1) := by decide +kernel
theorem d_R_levels_0 : decode M_R_levels.2.1 0 = .ok (.aload_n 0, 1) := by decide +kernel
theorem d_R_levels_1 : decode M_R_levels.2.1 1 = .ok (.getfield 42, 3) := by decide +kernel
theorem d_R_levels_4 : decode M_R_levels.2.1 4 = .ok (.ireturn, 1) := by decide +kernel
theorem d_R_shift_0 : decode M_R_shift.2.1 0 = .ok (.iload_n 2, 1) := by decide +kernel
theorem d_R_shift_1 : decode M_R_shift.2.1 1 = .ok (.ifCond .eq (9), 3) := by decide +kernel
theorem d_R_shift_4 : decode M_R_shift.2.1 4 = .ok (.iload_n 1, 1) := by decide +kernel
theorem d_R_shift_5 : decode M_R_shift.2.1 5 = .ok (.iconst 1, 1) := by decide +kernel
theorem d_R_shift_6 : decode M_R_shift.2.1 6 = .ok (.ishr, 1) := by decide +kernel
theorem d_R_shift_7 : decode M_R_shift.2.1 7 = .ok (.goto (6), 3) := by decide +kernel
theorem d_R_shift_10 : decode M_R_shift.2.1 10 = .ok (.iload_n 1, 1) := by decide +kernel
theorem d_R_shift_11 : decode M_R_shift.2.1 11 = .ok (.iconst 1, 1) := by decide +kernel
theorem d_R_shift_12 : decode M_R_shift.2.1 12 = .ok (.iand, 1) := by decide +kernel
theorem d_R_shift_13 : decode M_R_shift.2.1 13 = .ok (.istore_n 3, 1) := by decide +kernel
theorem d_R_shift_14 : decode M_R_shift.2.1 14 = .ok (.iload_n 0, 1) := by decide +kernel
theorem d_R_shift_15 : decode M_R_shift.2.1 15 = .ok (.invokestatic 113, 3) := by decide +kernel
theorem d_R_shift_18 : decode M_R_shift.2.1 18 = .ok (.iload_n 3, 1) := by decide +kernel
theorem d_R_shift_19 : decode M_R_shift.2.1 19 = .ok (.imul, 1) := by decide +kernel
theorem d_R_shift_20 : decode M_R_shift.2.1 20 = .ok (.ireturn, 1) := by decide +kernel
theorem d_R_least_0 : decode M_R_least.2.1 0 = .ok (.iconst 2, 1) := by decide +kernel
theorem d_R_least_1 : decode M_R_least.2.1 1 = .ok (.iload_n 0, 1) := by decide +kernel
theorem d_R_least_2 : decode M_R_least.2.1 2 = .ok (.invokestatic 113, 3) := by decide +kernel
theorem d_R_least_5 : decode M_R_least.2.1 5 = .ok (.imul, 1) := by decide +kernel
theorem d_R_least_6 : decode M_R_least.2.1 6 = .ok (.istore 4, 2) := by decide +kernel
theorem d_R_least_8 : decode M_R_least.2.1 8 = .ok (.iconst 0, 1) := by decide +kernel
theorem d_R_least_9 : decode M_R_least.2.1 9 = .ok (.istore 5, 2) := by decide +kernel
theorem d_R_least_11 : decode M_R_least.2.1 11 = .ok (.iload 4, 2) := by decide +kernel
theorem d_R_least_13 : decode M_R_least.2.1 13 = .ok (.iload 5, 2) := by decide +kernel
theorem d_R_least_15 : decode M_R_least.2.1 15 = .ok (.imul, 1) := by decide +kernel
theorem d_R_least_16 : decode M_R_least.2.1 16 = .ok (.iload_n 0, 1) := by decide +kernel
theorem d_R_least_17 : decode M_R_least.2.1 17 = .ok (.iload_n 1, 1) := by decide +kernel
theorem d_R_least_18 : decode M_R_least.2.1 18 = .ok (.iload_n 2, 1) := by decide +kernel
theorem d_R_least_19 : decode M_R_least.2.1 19 = .ok (.invokestatic 126, 3) := by decide +kernel
theorem d_R_least_22 : decode M_R_least.2.1 22 = .ok (.iadd, 1) := by decide +kernel
theorem d_R_least_23 : decode M_R_least.2.1 23 = .ok (.iload_n 3, 1) := by decide +kernel
theorem d_R_least_24 : decode M_R_least.2.1 24 = .ok (.if_icmp .ge (9), 3) := by decide +kernel
theorem d_R_least_27 : decode M_R_least.2.1 27 = .ok (.iinc 5 (1), 3) := by decide +kernel
theorem d_R_least_30 : decode M_R_least.2.1 30 = .ok (.goto (-19), 3) := by decide +kernel
theorem d_R_least_33 : decode M_R_least.2.1 33 = .ok (.iload 5, 2) := by decide +kernel
theorem d_R_least_35 : decode M_R_least.2.1 35 = .ok (.ireturn, 1) := by decide +kernel
theorem d_R_start_0 : decode M_R_start.2.1 0 = .ok (.aload_n 0, 1) := by decide +kernel
theorem d_R_start_1 : decode M_R_start.2.1 1 = .ok (.getfield 22, 3) := by decide +kernel
theorem d_R_start_4 : decode M_R_start.2.1 4 = .ok (.ifCond .eq (20), 3) := by decide +kernel
theorem d_R_start_7 : decode M_R_start.2.1 7 = .ok (.iload_n 1, 1) := by decide +kernel
theorem d_R_start_8 : decode M_R_start.2.1 8 = .ok (.iconst 1, 1) := by decide +kernel
theorem d_R_start_9 : decode M_R_start.2.1 9 = .ok (.if_icmp .lt (15), 3) := by decide +kernel
theorem d_R_start_12 : decode M_R_start.2.1 12 = .ok (.iload_n 1, 1) := by decide +kernel
theorem d_R_start_13 : decode M_R_start.2.1 13 = .ok (.iconst 4, 1) := by decide +kernel
theorem d_R_start_14 : decode M_R_start.2.1 14 = .ok (.if_icmp .gt (10), 3) := by decide +kernel
theorem d_R_start_17 : decode M_R_start.2.1 17 = .ok (.iload_n 2, 1) := by decide +kernel
theorem d_R_start_18 : decode M_R_start.2.1 18 = .ok (.invokestatic 130, 3) := by decide +kernel
theorem d_R_start_21 : decode M_R_start.2.1 21 = .ok (.ifCond .ne (7), 3) := by decide +kernel
theorem d_R_start_24 : decode M_R_start.2.1 24 = .ok (.iconst (-1), 1) := by decide +kernel
theorem d_R_start_25 : decode M_R_start.2.1 25 = .ok (.goto (24), 3) := by decide +kernel
theorem d_R_start_28 : decode M_R_start.2.1 28 = .ok (.iload_n 1, 1) := by decide +kernel
theorem d_R_start_29 : decode M_R_start.2.1 29 = .ok (.iload_n 2, 1) := by decide +kernel
theorem d_R_start_30 : decode M_R_start.2.1 30 = .ok (.iload_n 3, 1) := by decide +kernel
theorem d_R_start_31 : decode M_R_start.2.1 31 = .ok (.iload_n 3, 1) := by decide +kernel
theorem d_R_start_32 : decode M_R_start.2.1 32 = .ok (.ifCond .eq (10), 3) := by decide +kernel
theorem d_R_start_35 : decode M_R_start.2.1 35 = .ok (.aload_n 0, 1) := by decide +kernel
theorem d_R_start_36 : decode M_R_start.2.1 36 = .ok (.getfield 33, 3) := by decide +kernel
theorem d_R_start_39 : decode M_R_start.2.1 39 = .ok (.goto (7), 3) := by decide +kernel
theorem d_R_start_42 : decode M_R_start.2.1 42 = .ok (.aload_n 0, 1) := by decide +kernel
theorem d_R_start_43 : decode M_R_start.2.1 43 = .ok (.getfield 26, 3) := by decide +kernel
theorem d_R_start_46 : decode M_R_start.2.1 46 = .ok (.invokestatic 133, 3) := by decide +kernel
theorem d_R_start_49 : decode M_R_start.2.1 49 = .ok (.ireturn, 1) := by decide +kernel
theorem d_R_size_0 : decode M_R_size.2.1 0 = .ok (.aload_n 0, 1) := by decide +kernel
theorem d_R_size_1 : decode M_R_size.2.1 1 = .ok (.getfield 22, 3) := by decide +kernel
theorem d_R_size_4 : decode M_R_size.2.1 4 = .ok (.ifCond .eq (20), 3) := by decide +kernel
theorem d_R_size_7 : decode M_R_size.2.1 7 = .ok (.iload_n 1, 1) := by decide +kernel
theorem d_R_size_8 : decode M_R_size.2.1 8 = .ok (.iconst 1, 1) := by decide +kernel
theorem d_R_size_9 : decode M_R_size.2.1 9 = .ok (.if_icmp .lt (15), 3) := by decide +kernel
theorem d_R_size_12 : decode M_R_size.2.1 12 = .ok (.iload_n 1, 1) := by decide +kernel
theorem d_R_size_13 : decode M_R_size.2.1 13 = .ok (.iconst 4, 1) := by decide +kernel
theorem d_R_size_14 : decode M_R_size.2.1 14 = .ok (.if_icmp .gt (10), 3) := by decide +kernel
theorem d_R_size_17 : decode M_R_size.2.1 17 = .ok (.iload_n 2, 1) := by decide +kernel
theorem d_R_size_18 : decode M_R_size.2.1 18 = .ok (.invokestatic 130, 3) := by decide +kernel
theorem d_R_size_21 : decode M_R_size.2.1 21 = .ok (.ifCond .ne (5), 3) := by decide +kernel
theorem d_R_size_24 : decode M_R_size.2.1 24 = .ok (.iconst (-1), 1) := by decide +kernel
theorem d_R_size_25 : decode M_R_size.2.1 25 = .ok (.ireturn, 1) := by decide +kernel
theorem d_R_size_26 : decode M_R_size.2.1 26 = .ok (.iconst 0, 1) := by decide +kernel
theorem d_R_size_27 : decode M_R_size.2.1 27 = .ok (.istore 4, 2) := by decide +kernel
theorem d_R_size_29 : decode M_R_size.2.1 29 = .ok (.iconst 0, 1) := by decide +kernel
theorem d_R_size_30 : decode M_R_size.2.1 30 = .ok (.istore 5, 2) := by decide +kernel
theorem d_R_size_32 : decode M_R_size.2.1 32 = .ok (.iload 5, 2) := by decide +kernel
theorem d_R_size_34 : decode M_R_size.2.1 34 = .ok (.iload_n 3, 1) := by decide +kernel
theorem d_R_size_35 : decode M_R_size.2.1 35 = .ok (.ifCond .eq (10), 3) := by decide +kernel
theorem d_R_size_38 : decode M_R_size.2.1 38 = .ok (.aload_n 0, 1) := by decide +kernel
theorem d_R_size_39 : decode M_R_size.2.1 39 = .ok (.getfield 36, 3) := by decide +kernel
theorem d_R_size_42 : decode M_R_size.2.1 42 = .ok (.goto (7), 3) := by decide +kernel
theorem d_R_size_45 : decode M_R_size.2.1 45 = .ok (.aload_n 0, 1) := by decide +kernel
theorem d_R_size_46 : decode M_R_size.2.1 46 = .ok (.getfield 30, 3) := by decide +kernel
theorem d_R_size_49 : decode M_R_size.2.1 49 = .ok (.if_icmp .ge (59), 3) := by decide +kernel
theorem d_R_size_52 : decode M_R_size.2.1 52 = .ok (.iload_n 3, 1) := by decide +kernel
theorem d_R_size_53 : decode M_R_size.2.1 53 = .ok (.ifCond .eq (10), 3) := by decide +kernel
theorem d_R_size_56 : decode M_R_size.2.1 56 = .ok (.aload_n 0, 1) := by decide +kernel
theorem d_R_size_57 : decode M_R_size.2.1 57 = .ok (.getfield 33, 3) := by decide +kernel
theorem d_R_size_60 : decode M_R_size.2.1 60 = .ok (.goto (7), 3) := by decide +kernel
theorem d_R_size_63 : decode M_R_size.2.1 63 = .ok (.aload_n 0, 1) := by decide +kernel
theorem d_R_size_64 : decode M_R_size.2.1 64 = .ok (.getfield 26, 3) := by decide +kernel
theorem d_R_size_67 : decode M_R_size.2.1 67 = .ok (.iload 5, 2) := by decide +kernel
theorem d_R_size_69 : decode M_R_size.2.1 69 = .ok (.iadd, 1) := by decide +kernel
theorem d_R_size_70 : decode M_R_size.2.1 70 = .ok (.iload_n 1, 1) := by decide +kernel
theorem d_R_size_71 : decode M_R_size.2.1 71 = .ok (.iload_n 2, 1) := by decide +kernel
theorem d_R_size_72 : decode M_R_size.2.1 72 = .ok (.iload_n 3, 1) := by decide +kernel
theorem d_R_size_73 : decode M_R_size.2.1 73 = .ok (.invokestatic 126, 3) := by decide +kernel
theorem d_R_size_76 : decode M_R_size.2.1 76 = .ok (.isub, 1) := by decide +kernel
theorem d_R_size_77 : decode M_R_size.2.1 77 = .ok (.istore 6, 2) := by decide +kernel
theorem d_R_size_79 : decode M_R_size.2.1 79 = .ok (.iload 6, 2) := by decide +kernel
theorem d_R_size_81 : decode M_R_size.2.1 81 = .ok (.iconst 2, 1) := by decide +kernel
theorem d_R_size_82 : decode M_R_size.2.1 82 = .ok (.iload_n 1, 1) := by decide +kernel
theorem d_R_size_83 : decode M_R_size.2.1 83 = .ok (.invokestatic 113, 3) := by decide +kernel
theorem d_R_size_86 : decode M_R_size.2.1 86 = .ok (.imul, 1) := by decide +kernel
theorem d_R_size_87 : decode M_R_size.2.1 87 = .ok (.irem, 1) := by decide +kernel
theorem d_R_size_88 : decode M_R_size.2.1 88 = .ok (.ifCond .ne (10), 3) := by decide +kernel
theorem d_R_size_91 : decode M_R_size.2.1 91 = .ok (.iload 4, 2) := by decide +kernel
theorem d_R_size_93 : decode M_R_size.2.1 93 = .ok (.iconst 1, 1) := by decide +kernel
theorem d_R_size_94 : decode M_R_size.2.1 94 = .ok (.iadd, 1) := by decide +kernel
theorem d_R_size_95 : decode M_R_size.2.1 95 = .ok (.goto (5), 3) := by decide +kernel
theorem d_R_size_98 : decode M_R_size.2.1 98 = .ok (.iload 4, 2) := by decide +kernel
theorem d_R_size_100 : decode M_R_size.2.1 100 = .ok (.istore 4, 2) := by decide +kernel
theorem d_R_size_102 : decode M_R_size.2.1 102 = .ok (.iinc 5 (1), 3) := by decide +kernel
theorem d_R_size_105 : decode M_R_size.2.1 105 = .ok (.goto (-73), 3) := by decide +kernel
theorem d_R_size_108 : decode M_R_size.2.1 108 = .ok (.iload 4, 2) := by decide +kernel
theorem d_R_size_110 : decode M_R_size.2.1 110 = .ok (.ireturn, 1) := by decide +kernel
theorem d_R_thinned_0 : decode M_R_thinned.2.1 0 = .ok (.iload_n 0, 1) := by decide +kernel
theorem d_R_thinned_1 : decode M_R_thinned.2.1 1 = .ok (.invokestatic 141, 3) := by decide +kernel
theorem d_R_thinned_4 : decode M_R_thinned.2.1 4 = .ok (.iload_n 1, 1) := by decide +kernel
theorem d_R_thinned_5 : decode M_R_thinned.2.1 5 = .ok (.i2l, 1) := by decide +kernel
theorem d_R_thinned_6 : decode M_R_thinned.2.1 6 = .ok (.ldiv, 1) := by decide +kernel
theorem d_R_thinned_7 : decode M_R_thinned.2.1 7 = .ok (.lstore_n 2, 1) := by decide +kernel
theorem d_R_thinned_8 : decode M_R_thinned.2.1 8 = .ok (.lload_n 2, 1) := by decide +kernel
theorem d_R_thinned_9 : decode M_R_thinned.2.1 9 = .ok (.lconst 0, 1) := by decide +kernel
theorem d_R_thinned_10 : decode M_R_thinned.2.1 10 = .ok (.lcmp, 1) := by decide +kernel
theorem d_R_thinned_11 : decode M_R_thinned.2.1 11 = .ok (.ifCond .ne (7), 3) := by decide +kernel
theorem d_R_thinned_14 : decode M_R_thinned.2.1 14 = .ok (.lconst 0, 1) := by decide +kernel
theorem d_R_thinned_15 : decode M_R_thinned.2.1 15 = .ok (.goto (12), 3) := by decide +kernel
theorem d_R_thinned_18 : decode M_R_thinned.2.1 18 = .ok (.lload_n 2, 1) := by decide +kernel
theorem d_R_thinned_19 : decode M_R_thinned.2.1 19 = .ok (.iload_n 1, 1) := by decide +kernel
theorem d_R_thinned_20 : decode M_R_thinned.2.1 20 = .ok (.i2l, 1) := by decide +kernel
theorem d_R_thinned_21 : decode M_R_thinned.2.1 21 = .ok (.lmul, 1) := by decide +kernel
theorem d_R_thinned_22 : decode M_R_thinned.2.1 22 = .ok (.iload_n 1, 1) := by decide +kernel
theorem d_R_thinned_23 : decode M_R_thinned.2.1 23 = .ok (.iconst 2, 1) := by decide +kernel
theorem d_R_thinned_24 : decode M_R_thinned.2.1 24 = .ok (.idiv, 1) := by decide +kernel
theorem d_R_thinned_25 : decode M_R_thinned.2.1 25 = .ok (.i2l, 1) := by decide +kernel
theorem d_R_thinned_26 : decode M_R_thinned.2.1 26 = .ok (.ladd, 1) := by decide +kernel
theorem d_R_thinned_27 : decode M_R_thinned.2.1 27 = .ok (.lstore 4, 2) := by decide +kernel
theorem d_R_thinned_29 : decode M_R_thinned.2.1 29 = .ok (.iload_n 0, 1) := by decide +kernel
theorem d_R_thinned_30 : decode M_R_thinned.2.1 30 = .ok (.ifCond .ge (9), 3) := by decide +kernel
theorem d_R_thinned_33 : decode M_R_thinned.2.1 33 = .ok (.lload 4, 2) := by decide +kernel
theorem d_R_thinned_35 : decode M_R_thinned.2.1 35 = .ok (.lneg, 1) := by decide +kernel
theorem d_R_thinned_36 : decode M_R_thinned.2.1 36 = .ok (.goto (5), 3) := by decide +kernel
theorem d_R_thinned_39 : decode M_R_thinned.2.1 39 = .ok (.lload 4, 2) := by decide +kernel
theorem d_R_thinned_41 : decode M_R_thinned.2.1 41 = .ok (.l2i, 1) := by decide +kernel
theorem d_R_thinned_42 : decode M_R_thinned.2.1 42 = .ok (.ireturn, 1) := by decide +kernel
theorem d_R_thin_0 : decode M_R_thin.2.1 0 = .ok (.aload_n 0, 1) := by decide +kernel
theorem d_R_thin_1 : decode M_R_thin.2.1 1 = .ok (.iload_n 1, 1) := by decide +kernel
theorem d_R_thin_2 : decode M_R_thin.2.1 2 = .ok (.invokevirtual 123, 3) := by decide +kernel
theorem d_R_thin_5 : decode M_R_thin.2.1 5 = .ok (.ifCond .eq (34), 3) := by decide +kernel
theorem d_R_thin_8 : decode M_R_thin.2.1 8 = .ok (.iload_n 2, 1) := by decide +kernel
theorem d_R_thin_9 : decode M_R_thin.2.1 9 = .ok (.invokestatic 130, 3) := by decide +kernel
theorem d_R_thin_12 : decode M_R_thin.2.1 12 = .ok (.ifCond .eq (27), 3) := by decide +kernel
theorem d_R_thin_15 : decode M_R_thin.2.1 15 = .ok (.iload_n 2, 1) := by decide +kernel
theorem d_R_thin_16 : decode M_R_thin.2.1 16 = .ok (.ifCond .ne (11), 3) := by decide +kernel
theorem d_R_thin_19 : decode M_R_thin.2.1 19 = .ok (.iload_n 1, 1) := by decide +kernel
theorem d_R_thin_20 : decode M_R_thin.2.1 20 = .ok (.aload_n 0, 1) := by decide +kernel
theorem d_R_thin_21 : decode M_R_thin.2.1 21 = .ok (.getfield 42, 3) := by decide +kernel
theorem d_R_thin_24 : decode M_R_thin.2.1 24 = .ok (.if_icmp .ne (15), 3) := by decide +kernel
theorem d_R_thin_27 : decode M_R_thin.2.1 27 = .ok (.iload_n 3, 1) := by decide +kernel
theorem d_R_thin_28 : decode M_R_thin.2.1 28 = .ok (.iconst 1, 1) := by decide +kernel
theorem d_R_thin_29 : decode M_R_thin.2.1 29 = .ok (.if_icmp .lt (10), 3) := by decide +kernel
theorem d_R_thin_32 : decode M_R_thin.2.1 32 = .ok (.iload_n 3, 1) := by decide +kernel
theorem d_R_thin_33 : decode M_R_thin.2.1 33 = .ok (.sipush (32767), 3) := by decide +kernel
theorem d_R_thin_36 : decode M_R_thin.2.1 36 = .ok (.if_icmp .le (5), 3) := by decide +kernel
theorem d_R_thin_39 : decode M_R_thin.2.1 39 = .ok (.iconst (-1), 1) := by decide +kernel
theorem d_R_thin_40 : decode M_R_thin.2.1 40 = .ok (.ireturn, 1) := by decide +kernel
theorem d_R_thin_41 : decode M_R_thin.2.1 41 = .ok (.iconst 0, 1) := by decide +kernel
theorem d_R_thin_42 : decode M_R_thin.2.1 42 = .ok (.istore 4, 2) := by decide +kernel
theorem d_R_thin_44 : decode M_R_thin.2.1 44 = .ok (.iconst 0, 1) := by decide +kernel
theorem d_R_thin_45 : decode M_R_thin.2.1 45 = .ok (.istore 5, 2) := by decide +kernel
theorem d_R_thin_47 : decode M_R_thin.2.1 47 = .ok (.iload 5, 2) := by decide +kernel
theorem d_R_thin_49 : decode M_R_thin.2.1 49 = .ok (.sipush (768), 3) := by decide +kernel
theorem d_R_thin_52 : decode M_R_thin.2.1 52 = .ok (.if_icmp .ge (107), 3) := by decide +kernel
theorem d_R_thin_55 : decode M_R_thin.2.1 55 = .ok (.aload_n 0, 1) := by decide +kernel
theorem d_R_thin_56 : decode M_R_thin.2.1 56 = .ok (.getfield 26, 3) := by decide +kernel
theorem d_R_thin_59 : decode M_R_thin.2.1 59 = .ok (.iload 5, 2) := by decide +kernel
theorem d_R_thin_61 : decode M_R_thin.2.1 61 = .ok (.bipush (16), 2) := by decide +kernel
theorem d_R_thin_63 : decode M_R_thin.2.1 63 = .ok (.irem, 1) := by decide +kernel
theorem d_R_thin_64 : decode M_R_thin.2.1 64 = .ok (.iadd, 1) := by decide +kernel
theorem d_R_thin_65 : decode M_R_thin.2.1 65 = .ok (.istore 6, 2) := by decide +kernel
theorem d_R_thin_67 : decode M_R_thin.2.1 67 = .ok (.aload_n 0, 1) := by decide +kernel
theorem d_R_thin_68 : decode M_R_thin.2.1 68 = .ok (.getfield 33, 3) := by decide +kernel
theorem d_R_thin_71 : decode M_R_thin.2.1 71 = .ok (.iload 5, 2) := by decide +kernel
theorem d_R_thin_73 : decode M_R_thin.2.1 73 = .ok (.bipush (16), 2) := by decide +kernel
theorem d_R_thin_75 : decode M_R_thin.2.1 75 = .ok (.idiv, 1) := by decide +kernel
theorem d_R_thin_76 : decode M_R_thin.2.1 76 = .ok (.bipush (16), 2) := by decide +kernel
theorem d_R_thin_78 : decode M_R_thin.2.1 78 = .ok (.irem, 1) := by decide +kernel
theorem d_R_thin_79 : decode M_R_thin.2.1 79 = .ok (.iadd, 1) := by decide +kernel
theorem d_R_thin_80 : decode M_R_thin.2.1 80 = .ok (.istore 7, 2) := by decide +kernel
theorem d_R_thin_82 : decode M_R_thin.2.1 82 = .ok (.aload_n 0, 1) := by decide +kernel
theorem d_R_thin_83 : decode M_R_thin.2.1 83 = .ok (.iload 6, 2) := by decide +kernel
theorem d_R_thin_85 : decode M_R_thin.2.1 85 = .ok (.iload 7, 2) := by decide +kernel
theorem d_R_thin_87 : decode M_R_thin.2.1 87 = .ok (.invokevirtual 49, 3) := by decide +kernel
theorem d_R_thin_90 : decode M_R_thin.2.1 90 = .ok (.ifCond .eq (63), 3) := by decide +kernel
theorem d_R_thin_93 : decode M_R_thin.2.1 93 = .ok (.iload_n 1, 1) := by decide +kernel
theorem d_R_thin_94 : decode M_R_thin.2.1 94 = .ok (.iload_n 2, 1) := by decide +kernel
theorem d_R_thin_95 : decode M_R_thin.2.1 95 = .ok (.iload 6, 2) := by decide +kernel
theorem d_R_thin_97 : decode M_R_thin.2.1 97 = .ok (.iload 7, 2) := by decide +kernel
theorem d_R_thin_99 : decode M_R_thin.2.1 99 = .ok (.invokestatic 145, 3) := by decide +kernel
theorem d_R_thin_102 : decode M_R_thin.2.1 102 = .ok (.ifCond .eq (51), 3) := by decide +kernel
theorem d_R_thin_105 : decode M_R_thin.2.1 105 = .ok (.aload_n 0, 1) := by decide +kernel
theorem d_R_thin_106 : decode M_R_thin.2.1 106 = .ok (.getfield 13, 3) := by decide +kernel
theorem d_R_thin_109 : decode M_R_thin.2.1 109 = .ok (.iload 5, 2) := by decide +kernel
theorem d_R_thin_111 : decode M_R_thin.2.1 111 = .ok (.iaload, 1) := by decide +kernel
theorem d_R_thin_112 : decode M_R_thin.2.1 112 = .ok (.istore 8, 2) := by decide +kernel
theorem d_R_thin_114 : decode M_R_thin.2.1 114 = .ok (.aload_n 0, 1) := by decide +kernel
theorem d_R_thin_115 : decode M_R_thin.2.1 115 = .ok (.getfield 13, 3) := by decide +kernel
theorem d_R_thin_118 : decode M_R_thin.2.1 118 = .ok (.iload 5, 2) := by decide +kernel
theorem d_R_thin_120 : decode M_R_thin.2.1 120 = .ok (.iload 8, 2) := by decide +kernel
theorem d_R_thin_122 : decode M_R_thin.2.1 122 = .ok (.iload_n 3, 1) := by decide +kernel
theorem d_R_thin_123 : decode M_R_thin.2.1 123 = .ok (.invokestatic 149, 3) := by decide +kernel
theorem d_R_thin_126 : decode M_R_thin.2.1 126 = .ok (.iastore, 1) := by decide +kernel
theorem d_R_thin_127 : decode M_R_thin.2.1 127 = .ok (.iload 8, 2) := by decide +kernel
theorem d_R_thin_129 : decode M_R_thin.2.1 129 = .ok (.ifCond .eq (20), 3) := by decide +kernel
theorem d_R_thin_132 : decode M_R_thin.2.1 132 = .ok (.aload_n 0, 1) := by decide +kernel
theorem d_R_thin_133 : decode M_R_thin.2.1 133 = .ok (.getfield 13, 3) := by decide +kernel
theorem d_R_thin_136 : decode M_R_thin.2.1 136 = .ok (.iload 5, 2) := by decide +kernel
theorem d_R_thin_138 : decode M_R_thin.2.1 138 = .ok (.iaload, 1) := by decide +kernel
theorem d_R_thin_139 : decode M_R_thin.2.1 139 = .ok (.ifCond .ne (10), 3) := by decide +kernel
theorem d_R_thin_142 : decode M_R_thin.2.1 142 = .ok (.iload 4, 2) := by decide +kernel
theorem d_R_thin_144 : decode M_R_thin.2.1 144 = .ok (.iconst 1, 1) := by decide +kernel
theorem d_R_thin_145 : decode M_R_thin.2.1 145 = .ok (.iadd, 1) := by decide +kernel
theorem d_R_thin_146 : decode M_R_thin.2.1 146 = .ok (.goto (5), 3) := by decide +kernel
theorem d_R_thin_149 : decode M_R_thin.2.1 149 = .ok (.iload 4, 2) := by decide +kernel
theorem d_R_thin_151 : decode M_R_thin.2.1 151 = .ok (.istore 4, 2) := by decide +kernel
theorem d_R_thin_153 : decode M_R_thin.2.1 153 = .ok (.iinc 5 (1), 3) := by decide +kernel
theorem d_R_thin_156 : decode M_R_thin.2.1 156 = .ok (.goto (-109), 3) := by decide +kernel
theorem d_R_thin_159 : decode M_R_thin.2.1 159 = .ok (.iload 4, 2) := by decide +kernel
theorem d_R_thin_161 : decode M_R_thin.2.1 161 = .ok (.ireturn, 1) := by decide +kernel
theorem d_R_weight_0 : decode M_R_weight.2.1 0 = .ok (.aload_n 0, 1) := by decide +kernel
theorem d_R_weight_1 : decode M_R_weight.2.1 1 = .ok (.iload_n 2, 1) := by decide +kernel
theorem d_R_weight_2 : decode M_R_weight.2.1 2 = .ok (.invokevirtual 123, 3) := by decide +kernel
theorem d_R_weight_5 : decode M_R_weight.2.1 5 = .ok (.ifCond .eq (17), 3) := by decide +kernel
theorem d_R_weight_8 : decode M_R_weight.2.1 8 = .ok (.iload_n 3, 1) := by decide +kernel
theorem d_R_weight_9 : decode M_R_weight.2.1 9 = .ok (.invokestatic 130, 3) := by decide +kernel
theorem d_R_weight_12 : decode M_R_weight.2.1 12 = .ok (.ifCond .eq (10), 3) := by decide +kernel
theorem d_R_weight_15 : decode M_R_weight.2.1 15 = .ok (.iload_n 1, 1) := by decide +kernel
theorem d_R_weight_16 : decode M_R_weight.2.1 16 = .ok (.invokestatic 45, 3) := by decide +kernel
theorem d_R_weight_19 : decode M_R_weight.2.1 19 = .ok (.ifCond .ne (7), 3) := by decide +kernel
theorem d_R_weight_22 : decode M_R_weight.2.1 22 = .ok (.ldc2_w 152, 3) := by decide +kernel
theorem d_R_weight_25 : decode M_R_weight.2.1 25 = .ok (.lreturn, 1) := by decide +kernel
theorem d_R_weight_26 : decode M_R_weight.2.1 26 = .ok (.lconst 0, 1) := by decide +kernel
theorem d_R_weight_27 : decode M_R_weight.2.1 27 = .ok (.lstore 4, 2) := by decide +kernel
theorem d_R_weight_29 : decode M_R_weight.2.1 29 = .ok (.aload_n 0, 1) := by decide +kernel
theorem d_R_weight_30 : decode M_R_weight.2.1 30 = .ok (.getfield 33, 3) := by decide +kernel
theorem d_R_weight_33 : decode M_R_weight.2.1 33 = .ok (.istore 6, 2) := by decide +kernel
theorem d_R_weight_35 : decode M_R_weight.2.1 35 = .ok (.iload 6, 2) := by decide +kernel
theorem d_R_weight_37 : decode M_R_weight.2.1 37 = .ok (.aload_n 0, 1) := by decide +kernel
theorem d_R_weight_38 : decode M_R_weight.2.1 38 = .ok (.getfield 33, 3) := by decide +kernel
theorem d_R_weight_41 : decode M_R_weight.2.1 41 = .ok (.aload_n 0, 1) := by decide +kernel
theorem d_R_weight_42 : decode M_R_weight.2.1 42 = .ok (.getfield 36, 3) := by decide +kernel
theorem d_R_weight_45 : decode M_R_weight.2.1 45 = .ok (.iadd, 1) := by decide +kernel
theorem d_R_weight_46 : decode M_R_weight.2.1 46 = .ok (.if_icmp .ge (68), 3) := by decide +kernel
theorem d_R_weight_49 : decode M_R_weight.2.1 49 = .ok (.aload_n 0, 1) := by decide +kernel
theorem d_R_weight_50 : decode M_R_weight.2.1 50 = .ok (.getfield 26, 3) := by decide +kernel
theorem d_R_weight_53 : decode M_R_weight.2.1 53 = .ok (.istore 7, 2) := by decide +kernel
theorem d_R_weight_55 : decode M_R_weight.2.1 55 = .ok (.iload 7, 2) := by decide +kernel
theorem d_R_weight_57 : decode M_R_weight.2.1 57 = .ok (.aload_n 0, 1) := by decide +kernel
theorem d_R_weight_58 : decode M_R_weight.2.1 58 = .ok (.getfield 26, 3) := by decide +kernel
theorem d_R_weight_61 : decode M_R_weight.2.1 61 = .ok (.aload_n 0, 1) := by decide +kernel
theorem d_R_weight_62 : decode M_R_weight.2.1 62 = .ok (.getfield 30, 3) := by decide +kernel
theorem d_R_weight_65 : decode M_R_weight.2.1 65 = .ok (.iadd, 1) := by decide +kernel
theorem d_R_weight_66 : decode M_R_weight.2.1 66 = .ok (.if_icmp .ge (42), 3) := by decide +kernel
theorem d_R_weight_69 : decode M_R_weight.2.1 69 = .ok (.lload 4, 2) := by decide +kernel
theorem d_R_weight_71 : decode M_R_weight.2.1 71 = .ok (.iload_n 2, 1) := by decide +kernel
theorem d_R_weight_72 : decode M_R_weight.2.1 72 = .ok (.iload_n 3, 1) := by decide +kernel
theorem d_R_weight_73 : decode M_R_weight.2.1 73 = .ok (.iload 7, 2) := by decide +kernel
theorem d_R_weight_75 : decode M_R_weight.2.1 75 = .ok (.iload 6, 2) := by decide +kernel
theorem d_R_weight_77 : decode M_R_weight.2.1 77 = .ok (.invokestatic 145, 3) := by decide +kernel
theorem d_R_weight_80 : decode M_R_weight.2.1 80 = .ok (.ifCond .eq (18), 3) := by decide +kernel
theorem d_R_weight_83 : decode M_R_weight.2.1 83 = .ok (.aload_n 0, 1) := by decide +kernel
theorem d_R_weight_84 : decode M_R_weight.2.1 84 = .ok (.iload_n 1, 1) := by decide +kernel
theorem d_R_weight_85 : decode M_R_weight.2.1 85 = .ok (.iload 7, 2) := by decide +kernel
theorem d_R_weight_87 : decode M_R_weight.2.1 87 = .ok (.iload 6, 2) := by decide +kernel
theorem d_R_weight_89 : decode M_R_weight.2.1 89 = .ok (.invokevirtual 99, 3) := by decide +kernel
theorem d_R_weight_92 : decode M_R_weight.2.1 92 = .ok (.invokestatic 141, 3) := by decide +kernel
theorem d_R_weight_95 : decode M_R_weight.2.1 95 = .ok (.goto (4), 3) := by decide +kernel
theorem d_R_weight_98 : decode M_R_weight.2.1 98 = .ok (.lconst 0, 1) := by decide +kernel
theorem d_R_weight_99 : decode M_R_weight.2.1 99 = .ok (.ladd, 1) := by decide +kernel
theorem d_R_weight_100 : decode M_R_weight.2.1 100 = .ok (.lstore 4, 2) := by decide +kernel
theorem d_R_weight_102 : decode M_R_weight.2.1 102 = .ok (.iinc 7 (1), 3) := by decide +kernel
theorem d_R_weight_105 : decode M_R_weight.2.1 105 = .ok (.goto (-50), 3) := by decide +kernel
theorem d_R_weight_108 : decode M_R_weight.2.1 108 = .ok (.iinc 6 (1), 3) := by decide +kernel
theorem d_R_weight_111 : decode M_R_weight.2.1 111 = .ok (.goto (-76), 3) := by decide +kernel
theorem d_R_weight_114 : decode M_R_weight.2.1 114 = .ok (.lload 4, 2) := by decide +kernel
theorem d_R_weight_116 : decode M_R_weight.2.1 116 = .ok (.lreturn, 1) := by decide +kernel
end
section

/-! the layer G: a frame of locals, stack, numbers and arrays, over the kit's W -/
abbrev x_M : Type := MethodName × ByteArray × Nat × Option FieldType
def x_rm (fr lo : Nat) : Room := { frames := fr, cells := 0, slots := 0, locals := lo }
def x_wd (ad : Nat → Nat) (cI : ClassId) (sc : Nat → Int32) (ar : Nat → Nat → Int32) : va_W :=
  [(ad 0, .inr (0, [.ref (ad 1), .ref (ad 2), .ref (ad 3), .ref (ad 4), .ref (ad 5), .int (sc 0), .int (sc 1)])),
   (ad 1, .inl (cI, 768, .inl (ar 0))),
   (ad 2, .inr (1, [.int 1, .int (sc 2), .int (sc 3)])),
   (ad 3, .inr (1, [.int 16, .int (sc 4), .int (sc 5)])),
   (ad 4, .inr (2, [.ref (ad 6), .int (sc 6), .int (sc 7)])),
   (ad 5, .inl (cI, 4, .inl (ar 1))),
   (ad 6, .inl (cI, 16, .inl (ar 2))),
   (ad 7, .inr (3, [.int (sc 8), .int (sc 9), .int (sc 10), .int (sc 11), .int (sc 12), .int (sc 13), .int (sc 14), .ref (ad 8), .ref (ad 9), .int (sc 15), .int (sc 16), .int (sc 17), .ref (ad 10), .ref (ad 11)])),
   (ad 8, .inl (cI, 4, .inl (ar 3))),
   (ad 9, .inl (cI, 768, .inl (ar 4))),
   (ad 10, .inl (cI, 16, .inl (ar 5))),
   (ad 11, .inl (cI, 16, .inl (ar 6)))]
def x_A (ad : Nat → Nat) (q : Nat) : Prop := ∃ i, i < 12 ∧ q = ad i
def x_dis (ad : Nat → Nat) : Prop := ∀ i j, i < 12 → j < 12 → ad i = ad j → i = j
theorem x_wdA {ad : Nat → Nat} {cI : ClassId} {sc : Nat → Int32} {ar : Nat → Nat → Int32} {k : Nat} {q : Nat × va_E} (h : (x_wd ad cI sc ar)[k]? = some q) : k < 12 ∧ q.1 = ad k := by
  match k, h with
  | 0, h => cases h; exact ⟨by decide, rfl⟩
  | 1, h => cases h; exact ⟨by decide, rfl⟩
  | 2, h => cases h; exact ⟨by decide, rfl⟩
  | 3, h => cases h; exact ⟨by decide, rfl⟩
  | 4, h => cases h; exact ⟨by decide, rfl⟩
  | 5, h => cases h; exact ⟨by decide, rfl⟩
  | 6, h => cases h; exact ⟨by decide, rfl⟩
  | 7, h => cases h; exact ⟨by decide, rfl⟩
  | 8, h => cases h; exact ⟨by decide, rfl⟩
  | 9, h => cases h; exact ⟨by decide, rfl⟩
  | 10, h => cases h; exact ⟨by decide, rfl⟩
  | 11, h => cases h; exact ⟨by decide, rfl⟩
  | k + 12, h => cases h
theorem x_D {ad : Nat → Nat} {cI : ClassId} {sc : Nat → Int32} {ar : Nat → Nat → Int32} {A : Nat → Prop} (hd : x_dis ad) (hA : ∀ i, i < 12 → A (ad i)) : va_D A (x_wd ad cI sc ar) := by
  refine ⟨fun i j p q hi hj e => ?_, fun k q hk => ?_⟩
  · obtain ⟨h1, h2⟩ := x_wdA hi
    obtain ⟨h3, h4⟩ := x_wdA hj
    exact hd i j h1 h3 (by rw [← h2, ← h4]; exact e)
  · obtain ⟨h1, h2⟩ := x_wdA hk
    rw [h2]; exact hA k h1
def x_ua (ar : Nat → Nat → Int32) (j : Nat) (f : Nat → Int32) : Nat → Nat → Int32 := fun i => if i = j then f else ar i
def x_X (p : Program) (R : Room) (s : State) (m : MethodId) (args : Array Value) (meth : Method) (c : Code) (y : x_M) (ad : Nat → Nat) (D : va_G) (cI : ClassId) (A : Nat → Prop) (cells slots : Nat) : Prop :=
  p.tables.exec = Jvm.exec ∧ c.code = y.2.1 ∧ c.maxLocals = y.2.2.1 ∧ s.vm.findClass y.1.cls = some m.cls ∧ (∀ w ∈ x_tb, w.before args s = true) ∧ va_K D x_Cl [(cI, .int)] s ∧ x_dis ad ∧ (∀ i, i < 12 → A (ad i)) ∧ meth.sig.returnType = y.2.2.2 ∧ meth.locks = false ∧ cells ≤ R.cells ∧ slots ≤ R.slots
section XX
variable {p : Program} {R : Room} {s : State} {m : MethodId} {args : Array Value} {meth : Method} {c : Code} {y : x_M} {ad : Nat → Nat} {D : va_G} {cI : ClassId} {A : Nat → Prop} {cells slots : Nat}
theorem x_X.ex (h : x_X p R s m args meth c y ad D cI A cells slots) : p.tables.exec = Jvm.exec := h.1
theorem x_X.cd (h : x_X p R s m args meth c y ad D cI A cells slots) : c.code = y.2.1 := h.2.1
theorem x_X.ml (h : x_X p R s m args meth c y ad D cI A cells slots) : c.maxLocals = y.2.2.1 := h.2.2.1
theorem x_X.own (h : x_X p R s m args meth c y ad D cI A cells slots) : s.vm.findClass y.1.cls = some m.cls := h.2.2.2.1
theorem x_X.ts (h : x_X p R s m args meth c y ad D cI A cells slots) : ∀ w ∈ x_tb, w.before args s = true := h.2.2.2.2.1
theorem x_X.K (h : x_X p R s m args meth c y ad D cI A cells slots) : va_K D x_Cl [(cI, .int)] s := h.2.2.2.2.2.1
theorem x_X.dis (h : x_X p R s m args meth c y ad D cI A cells slots) : x_dis ad := h.2.2.2.2.2.2.1
theorem x_X.inA (h : x_X p R s m args meth c y ad D cI A cells slots) : ∀ i, i < 12 → A (ad i) := h.2.2.2.2.2.2.2.1
theorem x_X.ret (h : x_X p R s m args meth c y ad D cI A cells slots) : meth.sig.returnType = y.2.2.2 := h.2.2.2.2.2.2.2.2.1
theorem x_X.lk (h : x_X p R s m args meth c y ad D cI A cells slots) : meth.locks = false := h.2.2.2.2.2.2.2.2.2.1
theorem x_X.cl (h : x_X p R s m args meth c y ad D cI A cells slots) : cells ≤ R.cells ∧ slots ≤ R.slots := h.2.2.2.2.2.2.2.2.2.2
end XX
def x_has (ls : Array Slot) (n : Nat) (L : List (Option Value)) : Prop := ls.size = n ∧ lv_wf ls ∧ ∀ (i : Nat) (v : Value), L[i]? = some (some v) → ls[i]? = some (.val v)
def x_pr (L : List (Option Value)) : List (Nat × Value) := (List.range L.length).filterMap fun i => match L[i]? with
  | some (some v) => some (i, v)
  | _ => none
theorem x_pr_mem {L : List (Option Value)} {i : Nat} {v : Value} : (i, v) ∈ x_pr L ↔ L[i]? = some (some v) := by
  unfold x_pr
  rw [List.mem_filterMap]
  constructor
  · rintro ⟨j, -, h⟩
    split at h
    · next w hw =>
      cases h
      exact hw
    · cases h
  · intro h
    refine ⟨i, List.mem_range.mpr (List.getElem?_eq_some_iff.mp h).1, ?_⟩
    rw [h]
theorem x_has_lv {ls : Array Slot} {n : Nat} {L : List (Option Value)} (h : x_has ls n L) : lv_has ls n (x_pr L) :=
  ⟨h.1, h.2.1, fun q hq => h.2.2 q.1 q.2 (x_pr_mem.mp hq)⟩
theorem x_lv_has {ls : Array Slot} {n : Nat} {L : List (Option Value)} (h : lv_has ls n (x_pr L)) : x_has ls n L :=
  ⟨h.1, h.2.1, fun i v hv => h.2.2 (i, v) (x_pr_mem.mpr hv)⟩
theorem x_has_of {ls : Array Slot} {n : Nat} {L : List (Option Value)} {av : List (Nat × Value)} (h : lv_has ls n av) (e : x_pr L = av) : x_has ls n L := x_lv_has (e ▸ h)
def x_okS (L : List (Option Value)) (i : Nat) : Bool := match i with
  | 0 => true
  | j + 1 => match L[j]? with
    | some (some v) => v.category == 1
    | _ => true
theorem x_okS_use {L : List (Option Value)} {i j : Nat} {w : Value} (h : x_okS L i = true) (e : j + 1 = i) (hw : L[j]? = some (some w)) : ¬ w.category = 2 := by
  subst e
  unfold x_okS at h
  simp only [hw] at h
  intro h2
  rw [h2] at h
  cases h
theorem x_set1 {ls : Array Slot} {n i : Nat} {L : List (Option Value)} {v : Value} (ho : x_okS L i = true) (h : lv_has ls n ((i, v) :: (x_pr L).filter (fun q => !(q.1 == i) && !(q.1 + 1 == i && q.2.category == 2)))) : x_has ls n (L.set i (some v)) := by
  refine ⟨h.1, h.2.1, fun j w hj => ?_⟩
  by_cases e : i = j
  · subst e
    have hl : i < L.length := by
      have := (List.getElem?_eq_some_iff.mp hj).1
      rwa [List.length_set] at this
    rw [List.getElem?_set_self hl] at hj
    cases hj
    exact h.2.2 (i, v) List.mem_cons_self
  · rw [List.getElem?_set_ne e] at hj
    refine h.2.2 (j, w) (List.mem_cons_of_mem _ (List.mem_filter.mpr ⟨x_pr_mem.mpr hj, ?_⟩))
    have e2 : ¬ j = i := fun h => e h.symm
    by_cases e3 : j + 1 = i
    · have := x_okS_use ho e3 hj
      simp [e2, this]
    · simp [e2, e3]
theorem x_set2 {ls : Array Slot} {n i : Nat} {L : List (Option Value)} {v : Value} (ho : x_okS L i = true) (h : lv_has ls n ((i, v) :: (x_pr L).filter (fun q => !(q.1 == i) && (!(q.1 == i + 1) && !(q.1 + 1 == i && q.2.category == 2))))) : x_has ls n ((L.set i (some v)).set (i + 1) none) := by
  refine ⟨h.1, h.2.1, fun j w hj => ?_⟩
  by_cases e0 : i + 1 = j
  · subst e0
    by_cases hl : i + 1 < (L.set i (some v)).length
    · rw [List.getElem?_set_self hl] at hj; cases hj
    · have := (List.getElem?_eq_some_iff.mp hj).1
      rw [List.length_set] at this
      exact absurd this hl
  · rw [List.getElem?_set_ne e0] at hj
    by_cases e : i = j
    · subst e
      have hl : i < L.length := by
        have := (List.getElem?_eq_some_iff.mp hj).1
        rwa [List.length_set] at this
      rw [List.getElem?_set_self hl] at hj
      cases hj
      exact h.2.2 (i, v) List.mem_cons_self
    · rw [List.getElem?_set_ne e] at hj
      refine h.2.2 (j, w) (List.mem_cons_of_mem _ (List.mem_filter.mpr ⟨x_pr_mem.mpr hj, ?_⟩))
      have e2 : ¬ j = i := fun h => e h.symm
      have e4 : ¬ j = i + 1 := fun h => e0 h.symm
      by_cases e3 : j + 1 = i
      · have := x_okS_use ho e3 hj
        simp [e2, e4, this]
      · simp [e2, e3, e4]
def x_le : List (Option Value) → List (Option Value) → Prop
  | [], _ => True
  | none :: t, _ :: u => x_le t u
  | some v :: t, w :: u => w = some v ∧ x_le t u
  | _ :: _, [] => False
theorem x_le_use : ∀ {L L' : List (Option Value)}, x_le L' L → ∀ (i : Nat) (v : Value), L'[i]? = some (some v) → L[i]? = some (some v)
  | _, [], _, i, v, h => by simp at h
  | [], a :: t, hl, i, v, h => by cases a <;> cases hl
  | w :: u, none :: t, hl, i, v, h => by
    cases i with
    | zero => simp at h
    | succ i =>
      rw [List.getElem?_cons_succ] at h ⊢
      exact x_le_use (L := u) (L' := t) hl i v h
  | w :: u, some z :: t, hl, i, v, h => by
    cases i with
    | zero =>
      rw [List.getElem?_cons_zero] at h ⊢
      cases h
      rw [hl.1]
    | succ i =>
      rw [List.getElem?_cons_succ] at h ⊢
      exact x_le_use (L := u) (L' := t) hl.2 i v h
theorem x_has_le {ls : Array Slot} {n : Nat} {L L' : List (Option Value)} (h : x_has ls n L) (hl : x_le L' L) : x_has ls n L' := ⟨h.1, h.2.1, fun i v hv => h.2.2 i v (x_le_use hl i v hv)⟩
def x_G (p : Program) (l : Launch) (e : Env) (R : Room) (s : State) (m : MethodId) (args : Array Value) (below : List Frame) (meth : Method) (c : Code) (y : x_M) (ad : Nat → Nat) (D : va_G) (cI : ClassId) (A : Nat → Prop) (cells slots : Nat) (Q : State → Prop) (pc : Nat) (L : List (Option Value)) (st : List Value) (sc : Nat → Int32) (ar : Nat → Nat → Int32) : Prop :=
  ∀ (H : Heap) (locs : List Loc) (ls : Array Slot), x_has ls y.2.2.1 L → va_P D x_Cl (x_wd ad cI sc ar) H → va_S A s.heap H locs → W p l e R s m args below meth c H locs cells slots Q (F0 m pc ls st)
def x_Qc (ad : Nat → Nat) (D : va_G) (cI : ClassId) (Post : Option Value → (Nat → Int32) → (Nat → Nat → Int32) → Prop) : Array Value → State → Outcome → State → Prop := fun _ st o t => ∃ (r : Option Value) (sc : Nat → Int32) (ar : Nat → Nat → Int32), o = .returned r ∧ Post r sc ar ∧ va_P D x_Cl (x_wd ad cI sc ar) t.heap ∧ va_F (x_A ad) st t
def x_Pc (ad : Nat → Nat) (D : va_G) (cI : ClassId) (av : List Value) (sc : Nat → Int32) (ar : Nat → Nat → Int32) : Array Value → State → Prop := fun v U => v = av.toArray ∧ va_P D x_Cl (x_wd ad cI sc ar) U.heap ∧ va_K D x_Cl [(cI, .int)] U
def x_Con (l : Launch) (y : x_M) (fr lo : Nat) (ad : Nat → Nat) (D : va_G) (cI : ClassId) (av : List Value) (sc : Nat → Int32) (ar : Nat → Nat → Int32) (Post : Option Value → (Nat → Int32) → (Nat → Nat → Int32) → Prop) : Prop :=
  Met l y.1 (Cond.code y.1 y.2.1 y.2.2.1 y.2.2.2 :: x_tb) (x_rm fr lo) (x_Pc ad D cI av sc ar) (x_Qc ad D cI Post) 0 0 (x_A ad)
abbrev x_Q (below : List Frame) (args : Array Value) (s : State) (ad : Nat → Nat) (D : va_G) (cI : ClassId) (Post : Option Value → (Nat → Int32) → (Nat → Nat → Int32) → Prop) : State → Prop := MQ below (x_Qc ad D cI Post) args s 0 0 (x_A ad)
def x_E (r : Option Value) (sc : Nat → Int32) (ar : Nat → Nat → Int32) : Option Value → (Nat → Int32) → (Nat → Nat → Int32) → Prop := fun r' sc' ar' => r' = r ∧ sc' = sc ∧ ar' = ar

section XR
variable {p : Program} {l : Launch} {e : Env} {R : Room} {s : State} {m : MethodId} {args : Array Value} {below : List Frame} {meth : Method} {c : Code} {y : x_M} {ad : Nat → Nat} {D : va_G} {cI : ClassId} {A : Nat → Prop} {cells slots : Nat} {Q : State → Prop} {pc : Nat} {L : List (Option Value)} {rest : List Value} {sc : Nat → Int32} {ar : Nat → Nat → Int32}
theorem x_intro {fr lo : Nat} {av : List Value} {Post : Option Value → (Nat → Int32) → (Nat → Nat → Int32) → Prop} (hd : x_dis ad) (L0 : List (Option Value)) (hy : plainName y.1.cls = true) (hlen : (lg_sl av).length ≤ y.2.2.1) (hL0 : x_pr L0 = lv_args 0 av)
    (body : ∀ (p : Program) (e : Env) (s : State) (m : MethodId) (args : Array Value) (below : List Frame) (meth : Method) (c : Code), x_X p (x_rm fr lo) s m args meth c y ad D cI (x_A ad) 0 0 → x_G p l e (x_rm fr lo) s m args below meth c y ad D cI (x_A ad) 0 0 (x_Q below args s ad D cI Post) 0 L0 [] sc ar) : x_Con l y fr lo ad D cI av sc ar Post := by
  refine Met.ofW (cc := y.2.1) (maxL := y.2.2.1) (ret := y.2.2.2) hy rfl ?_
  intro p e s m args below meth c s₁ B hml hv
  obtain ⟨rfl, hP, hK⟩ := hv
  have hts : ∀ w ∈ x_tb, w.before av.toArray s = true := fun w h => atoms_spec (ws := Cond.code y.1 y.2.1 y.2.2.1 y.2.2.2 :: x_tb) B.pre w (List.mem_cons_of_mem _ h)
  have hl := lv_entry av (n := y.2.2.1) hlen
  rw [lg_entry_eq]
  exact body p e s m av.toArray below meth c ⟨B.exec, B.bytes, hml, findClass_of_methodNamed B.named, hts, hK, hd, fun i h => ⟨i, h, rfl⟩, B.returns, B.notSynchronized, Nat.le_refl _, Nat.le_refl _⟩ s.heap [] _ (x_has_of hl hL0) hP va_S.rf
theorem xg_weak (L' : List (Option Value)) (hl : x_le L' L) (k : x_G p l e R s m args below meth c y ad D cI A cells slots Q pc L' rest sc ar) : x_G p l e R s m args below meth c y ad D cI A cells slots Q pc L rest sc ar :=
  fun H locs ls h hP hS => k H locs ls (x_has_le h hl) hP hS
theorem xg_eq {sc' : Nat → Int32} {ar' : Nat → Nat → Int32} {st : List Value} (h1 : sc = sc') (h2 : ar = ar') (h3 : rest = st) (k : x_G p l e R s m args below meth c y ad D cI A cells slots Q pc L st sc' ar') : x_G p l e R s m args below meth c y ad D cI A cells slots Q pc L rest sc ar := by
  subst h1; subst h2; subst h3; exact k
theorem xg_iconst (X : x_X p R s m args meth c y ad D cI A cells slots) {n : Int} {v : Int32} (hdg : decode y.2.1 pc = .ok (.iconst n, 1)) (hv : Int32.ofInt n = v) (k : x_G p l e R s m args below meth c y ad D cI A cells slots Q (pc + 1) L (.int v :: rest) sc ar) : x_G p l e R s m args below meth c y ad D cI A cells slots Q pc L rest sc ar :=
  fun H locs ls hl hP hS => lv_iconst X.ex X.cd hdg hv (k H locs ls hl hP hS)
theorem xg_bipush (X : x_X p R s m args meth c y ad D cI A cells slots) {n : Int} {v : Int32} (hdg : decode y.2.1 pc = .ok (.bipush n, 2)) (hv : (Int8.ofInt n).toInt32 = v) (k : x_G p l e R s m args below meth c y ad D cI A cells slots Q (pc + 2) L (.int v :: rest) sc ar) : x_G p l e R s m args below meth c y ad D cI A cells slots Q pc L rest sc ar :=
  fun H locs ls hl hP hS => lv_bipush X.ex X.cd hdg hv (k H locs ls hl hP hS)
theorem xg_sipush (X : x_X p R s m args meth c y ad D cI A cells slots) {n : Int} {v : Int32} (hdg : decode y.2.1 pc = .ok (.sipush n, 3)) (hv : (Int16.ofInt n).toInt32 = v) (k : x_G p l e R s m args below meth c y ad D cI A cells slots Q (pc + 3) L (.int v :: rest) sc ar) : x_G p l e R s m args below meth c y ad D cI A cells slots Q pc L rest sc ar :=
  fun H locs ls hl hP hS => lv_sipush X.ex X.cd hdg hv (k H locs ls hl hP hS)
theorem xg_lconst (X : x_X p R s m args meth c y ad D cI A cells slots) {n : Fin 2} {v : Int64} (hdg : decode y.2.1 pc = .ok (.lconst n, 1)) (hv : Int64.ofNat (n : Nat) = v) (k : x_G p l e R s m args below meth c y ad D cI A cells slots Q (pc + 1) L (.long v :: rest) sc ar) : x_G p l e R s m args below meth c y ad D cI A cells slots Q pc L rest sc ar :=
  fun H locs ls hl hP hS => lv_lconst X.ex X.cd hdg hv (k H locs ls hl hP hS)
theorem xg_iload_n (X : x_X p R s m args meth c y ad D cI A cells slots) {k : Fin 4} {x : Int32} (hdg : decode y.2.1 pc = .ok (.iload_n k, 1)) (hx : L[k.val]? = some (some (.int x))) (k : x_G p l e R s m args below meth c y ad D cI A cells slots Q (pc + 1) L (.int x :: rest) sc ar) : x_G p l e R s m args below meth c y ad D cI A cells slots Q pc L rest sc ar :=
  fun H locs ls hl hP hS => lv_iload_n X.ex X.cd hdg rfl (hl.2.2 _ _ hx) (k H locs ls hl hP hS)
theorem xg_iload (X : x_X p R s m args meth c y ad D cI A cells slots) {i : Nat} {x : Int32} (hdg : decode y.2.1 pc = .ok (.iload i, 2)) (hx : L[i]? = some (some (.int x))) (k : x_G p l e R s m args below meth c y ad D cI A cells slots Q (pc + 2) L (.int x :: rest) sc ar) : x_G p l e R s m args below meth c y ad D cI A cells slots Q pc L rest sc ar :=
  fun H locs ls hl hP hS => lv_iload X.ex X.cd hdg (hl.2.2 _ _ hx) (k H locs ls hl hP hS)
theorem xg_lload_n (X : x_X p R s m args meth c y ad D cI A cells slots) {k : Fin 4} {x : Int64} (hdg : decode y.2.1 pc = .ok (.lload_n k, 1)) (hx : L[k.val]? = some (some (.long x))) (k : x_G p l e R s m args below meth c y ad D cI A cells slots Q (pc + 1) L (.long x :: rest) sc ar) : x_G p l e R s m args below meth c y ad D cI A cells slots Q pc L rest sc ar :=
  fun H locs ls hl hP hS => lv_lload_n X.ex X.cd hdg rfl (hl.2.2 _ _ hx) (k H locs ls hl hP hS)
theorem xg_lload (X : x_X p R s m args meth c y ad D cI A cells slots) {i : Nat} {x : Int64} (hdg : decode y.2.1 pc = .ok (.lload i, 2)) (hx : L[i]? = some (some (.long x))) (k : x_G p l e R s m args below meth c y ad D cI A cells slots Q (pc + 2) L (.long x :: rest) sc ar) : x_G p l e R s m args below meth c y ad D cI A cells slots Q pc L rest sc ar :=
  fun H locs ls hl hP hS => lv_lload X.ex X.cd hdg (hl.2.2 _ _ hx) (k H locs ls hl hP hS)
theorem xg_aload_n (X : x_X p R s m args meth c y ad D cI A cells slots) {k : Fin 4} {x : Nat} (hdg : decode y.2.1 pc = .ok (.aload_n k, 1)) (hx : L[k.val]? = some (some (.ref x))) (k : x_G p l e R s m args below meth c y ad D cI A cells slots Q (pc + 1) L (.ref x :: rest) sc ar) : x_G p l e R s m args below meth c y ad D cI A cells slots Q pc L rest sc ar :=
  fun H locs ls hl hP hS => lv_aload_n X.ex X.cd hdg rfl (hl.2.2 _ _ hx) (k H locs ls hl hP hS)
theorem xg_aload (X : x_X p R s m args meth c y ad D cI A cells slots) {i : Nat} {x : Nat} (hdg : decode y.2.1 pc = .ok (.aload i, 2)) (hx : L[i]? = some (some (.ref x))) (k : x_G p l e R s m args below meth c y ad D cI A cells slots Q (pc + 2) L (.ref x :: rest) sc ar) : x_G p l e R s m args below meth c y ad D cI A cells slots Q pc L rest sc ar :=
  fun H locs ls hl hP hS => lv_aload X.ex X.cd hdg (hl.2.2 _ _ hx) (k H locs ls hl hP hS)
theorem xg_istore_n (X : x_X p R s m args meth c y ad D cI A cells slots) {k : Fin 4} {x : Int32} (hdg : decode y.2.1 pc = .ok (.istore_n k, 1)) (hn : k.val < y.2.2.1) (ho : x_okS L k.val = true) (kk : x_G p l e R s m args below meth c y ad D cI A cells slots Q (pc + 1) (L.set k.val (some (.int x))) rest sc ar) : x_G p l e R s m args below meth c y ad D cI A cells slots Q pc L (.int x :: rest) sc ar :=
  fun H locs ls hl hP hS => lv_istore_n X.ex X.cd hdg rfl (x_has_lv hl) hn rfl (fun ls' h' => kk H locs ls' (x_set1 ho h') hP hS)
theorem xg_istore (X : x_X p R s m args meth c y ad D cI A cells slots) {i : Nat} {x : Int32} (hdg : decode y.2.1 pc = .ok (.istore i, 2)) (hn : i < y.2.2.1) (ho : x_okS L i = true) (kk : x_G p l e R s m args below meth c y ad D cI A cells slots Q (pc + 2) (L.set i (some (.int x))) rest sc ar) : x_G p l e R s m args below meth c y ad D cI A cells slots Q pc L (.int x :: rest) sc ar :=
  fun H locs ls hl hP hS => lv_istore X.ex X.cd hdg (x_has_lv hl) hn rfl (fun ls' h' => kk H locs ls' (x_set1 ho h') hP hS)
theorem xg_lstore_n (X : x_X p R s m args meth c y ad D cI A cells slots) {k : Fin 4} {x : Int64} (hdg : decode y.2.1 pc = .ok (.lstore_n k, 1)) (hn : k.val + 1 < y.2.2.1) (ho : x_okS L k.val = true) (kk : x_G p l e R s m args below meth c y ad D cI A cells slots Q (pc + 1) ((L.set k.val (some (.long x))).set (k.val + 1) none) rest sc ar) : x_G p l e R s m args below meth c y ad D cI A cells slots Q pc L (.long x :: rest) sc ar :=
  fun H locs ls hl hP hS => lv_lstore_n X.ex X.cd hdg rfl (x_has_lv hl) hn rfl (fun ls' h' => kk H locs ls' (x_set2 ho h') hP hS)
theorem xg_lstore (X : x_X p R s m args meth c y ad D cI A cells slots) {i : Nat} {x : Int64} (hdg : decode y.2.1 pc = .ok (.lstore i, 2)) (hn : i + 1 < y.2.2.1) (ho : x_okS L i = true) (kk : x_G p l e R s m args below meth c y ad D cI A cells slots Q (pc + 2) ((L.set i (some (.long x))).set (i + 1) none) rest sc ar) : x_G p l e R s m args below meth c y ad D cI A cells slots Q pc L (.long x :: rest) sc ar :=
  fun H locs ls hl hP hS => lv_lstore X.ex X.cd hdg (x_has_lv hl) hn rfl (fun ls' h' => kk H locs ls' (x_set2 ho h') hP hS)
theorem x_pr_at {i : Nat} {v : Value} (h : L[i]? = some (some v)) : ∃ k : Nat, (x_pr L)[k]? = some (i, v) := by
  obtain ⟨k, hk, e⟩ := List.getElem_of_mem (x_pr_mem.mpr h)
  exact ⟨k, by rw [List.getElem?_eq_getElem hk, e]⟩
theorem xg_iinc (X : x_X p R s m args meth c y ad D cI A cells slots) {i : Nat} {n : Int} {x v : Int32} (hdg : decode y.2.1 pc = .ok (.iinc i n, 3)) (hx : L[i]? = some (some (.int x))) (hv : x + Int32.ofInt n = v) (hn : i < y.2.2.1) (ho : x_okS L i = true) (kk : x_G p l e R s m args below meth c y ad D cI A cells slots Q (pc + 3) (L.set i (some (.int v))) rest sc ar) : x_G p l e R s m args below meth c y ad D cI A cells slots Q pc L rest sc ar := by
  intro H locs ls hl hP hS
  obtain ⟨k, hk⟩ := x_pr_at hx
  exact lv_iinc X.ex X.cd hdg (x_has_lv hl) hk hv hn rfl (fun ls' h' => kk H locs ls' (x_set1 ho h') hP hS)
theorem xg_iadd (X : x_X p R s m args meth c y ad D cI A cells slots) {x z : Int32} (hdg : decode y.2.1 pc = .ok (.iadd, 1)) (k : x_G p l e R s m args below meth c y ad D cI A cells slots Q (pc + 1) L (.int (x + z) :: rest) sc ar) : x_G p l e R s m args below meth c y ad D cI A cells slots Q pc L (.int z :: .int x :: rest) sc ar :=
  fun H locs ls hl hP hS => lv_iadd X.ex X.cd hdg (k H locs ls hl hP hS)
theorem xg_isub (X : x_X p R s m args meth c y ad D cI A cells slots) {x z : Int32} (hdg : decode y.2.1 pc = .ok (.isub, 1)) (k : x_G p l e R s m args below meth c y ad D cI A cells slots Q (pc + 1) L (.int (x - z) :: rest) sc ar) : x_G p l e R s m args below meth c y ad D cI A cells slots Q pc L (.int z :: .int x :: rest) sc ar :=
  fun H locs ls hl hP hS => lv_isub X.ex X.cd hdg (k H locs ls hl hP hS)
theorem xg_imul (X : x_X p R s m args meth c y ad D cI A cells slots) {x z : Int32} (hdg : decode y.2.1 pc = .ok (.imul, 1)) (k : x_G p l e R s m args below meth c y ad D cI A cells slots Q (pc + 1) L (.int (x * z) :: rest) sc ar) : x_G p l e R s m args below meth c y ad D cI A cells slots Q pc L (.int z :: .int x :: rest) sc ar :=
  fun H locs ls hl hP hS => lv_imul X.ex X.cd hdg (k H locs ls hl hP hS)
theorem xg_iand (X : x_X p R s m args meth c y ad D cI A cells slots) {x z : Int32} (hdg : decode y.2.1 pc = .ok (.iand, 1)) (k : x_G p l e R s m args below meth c y ad D cI A cells slots Q (pc + 1) L (.int (x &&& z) :: rest) sc ar) : x_G p l e R s m args below meth c y ad D cI A cells slots Q pc L (.int z :: .int x :: rest) sc ar :=
  fun H locs ls hl hP hS => lv_iand X.ex X.cd hdg (k H locs ls hl hP hS)
theorem xg_ishl (X : x_X p R s m args meth c y ad D cI A cells slots) {x z : Int32} (hdg : decode y.2.1 pc = .ok (.ishl, 1)) (k : x_G p l e R s m args below meth c y ad D cI A cells slots Q (pc + 1) L (.int (x <<< (z &&& 31)) :: rest) sc ar) : x_G p l e R s m args below meth c y ad D cI A cells slots Q pc L (.int z :: .int x :: rest) sc ar :=
  fun H locs ls hl hP hS => lv_ishl X.ex X.cd hdg (k H locs ls hl hP hS)
theorem xg_ishr (X : x_X p R s m args meth c y ad D cI A cells slots) {x z : Int32} (hdg : decode y.2.1 pc = .ok (.ishr, 1)) (k : x_G p l e R s m args below meth c y ad D cI A cells slots Q (pc + 1) L (.int (x >>> (z &&& 31)) :: rest) sc ar) : x_G p l e R s m args below meth c y ad D cI A cells slots Q pc L (.int z :: .int x :: rest) sc ar :=
  fun H locs ls hl hP hS => lv_ishr X.ex X.cd hdg (k H locs ls hl hP hS)
theorem xg_idiv (X : x_X p R s m args meth c y ad D cI A cells slots) {x z : Int32} (hdg : decode y.2.1 pc = .ok (.idiv, 1)) (hne : ¬ z = 0) (k : x_G p l e R s m args below meth c y ad D cI A cells slots Q (pc + 1) L (.int (x / z) :: rest) sc ar) : x_G p l e R s m args below meth c y ad D cI A cells slots Q pc L (.int z :: .int x :: rest) sc ar :=
  fun H locs ls hl hP hS => lv_idiv X.ex X.cd hdg hne (k H locs ls hl hP hS)
theorem xg_irem (X : x_X p R s m args meth c y ad D cI A cells slots) {x z : Int32} (hdg : decode y.2.1 pc = .ok (.irem, 1)) (hne : ¬ z = 0) (k : x_G p l e R s m args below meth c y ad D cI A cells slots Q (pc + 1) L (.int (x - x / z * z) :: rest) sc ar) : x_G p l e R s m args below meth c y ad D cI A cells slots Q pc L (.int z :: .int x :: rest) sc ar :=
  fun H locs ls hl hP hS => lv_irem X.ex X.cd hdg hne (k H locs ls hl hP hS)
theorem xg_ladd (X : x_X p R s m args meth c y ad D cI A cells slots) {x z : Int64} (hdg : decode y.2.1 pc = .ok (.ladd, 1)) (k : x_G p l e R s m args below meth c y ad D cI A cells slots Q (pc + 1) L (.long (x + z) :: rest) sc ar) : x_G p l e R s m args below meth c y ad D cI A cells slots Q pc L (.long z :: .long x :: rest) sc ar :=
  fun H locs ls hl hP hS => lv_ladd X.ex X.cd hdg (k H locs ls hl hP hS)
theorem xg_lsub (X : x_X p R s m args meth c y ad D cI A cells slots) {x z : Int64} (hdg : decode y.2.1 pc = .ok (.lsub, 1)) (k : x_G p l e R s m args below meth c y ad D cI A cells slots Q (pc + 1) L (.long (x - z) :: rest) sc ar) : x_G p l e R s m args below meth c y ad D cI A cells slots Q pc L (.long z :: .long x :: rest) sc ar :=
  fun H locs ls hl hP hS => lv_lsub X.ex X.cd hdg (k H locs ls hl hP hS)
theorem xg_lmul (X : x_X p R s m args meth c y ad D cI A cells slots) {x z : Int64} (hdg : decode y.2.1 pc = .ok (.lmul, 1)) (k : x_G p l e R s m args below meth c y ad D cI A cells slots Q (pc + 1) L (.long (x * z) :: rest) sc ar) : x_G p l e R s m args below meth c y ad D cI A cells slots Q pc L (.long z :: .long x :: rest) sc ar :=
  fun H locs ls hl hP hS => lv_lmul X.ex X.cd hdg (k H locs ls hl hP hS)
theorem xg_ldiv (X : x_X p R s m args meth c y ad D cI A cells slots) {x z : Int64} (hdg : decode y.2.1 pc = .ok (.ldiv, 1)) (hne : ¬ z = 0) (k : x_G p l e R s m args below meth c y ad D cI A cells slots Q (pc + 1) L (.long (x / z) :: rest) sc ar) : x_G p l e R s m args below meth c y ad D cI A cells slots Q pc L (.long z :: .long x :: rest) sc ar :=
  fun H locs ls hl hP hS => lv_ldiv X.ex X.cd hdg hne (k H locs ls hl hP hS)
theorem xg_lneg (X : x_X p R s m args meth c y ad D cI A cells slots) {x : Int64} (hdg : decode y.2.1 pc = .ok (.lneg, 1)) (k : x_G p l e R s m args below meth c y ad D cI A cells slots Q (pc + 1) L (.long (-x) :: rest) sc ar) : x_G p l e R s m args below meth c y ad D cI A cells slots Q pc L (.long x :: rest) sc ar :=
  fun H locs ls hl hP hS => lv_lneg X.ex X.cd hdg (k H locs ls hl hP hS)
theorem xg_lshl (X : x_X p R s m args meth c y ad D cI A cells slots) {x : Int64} {z : Int32} (hdg : decode y.2.1 pc = .ok (.lshl, 1)) (k : x_G p l e R s m args below meth c y ad D cI A cells slots Q (pc + 1) L (.long (x <<< (z.toInt64 &&& 63)) :: rest) sc ar) : x_G p l e R s m args below meth c y ad D cI A cells slots Q pc L (.int z :: .long x :: rest) sc ar :=
  fun H locs ls hl hP hS => lv_lshl X.ex X.cd hdg rfl (k H locs ls hl hP hS)
theorem xg_i2l (X : x_X p R s m args meth c y ad D cI A cells slots) {x : Int32} (hdg : decode y.2.1 pc = .ok (.i2l, 1)) (k : x_G p l e R s m args below meth c y ad D cI A cells slots Q (pc + 1) L (.long x.toInt64 :: rest) sc ar) : x_G p l e R s m args below meth c y ad D cI A cells slots Q pc L (.int x :: rest) sc ar :=
  fun H locs ls hl hP hS => lv_i2l X.ex X.cd hdg rfl (k H locs ls hl hP hS)
theorem xg_l2i (X : x_X p R s m args meth c y ad D cI A cells slots) {x : Int64} (hdg : decode y.2.1 pc = .ok (.l2i, 1)) (k : x_G p l e R s m args below meth c y ad D cI A cells slots Q (pc + 1) L (.int x.toInt32 :: rest) sc ar) : x_G p l e R s m args below meth c y ad D cI A cells slots Q pc L (.long x :: rest) sc ar :=
  fun H locs ls hl hP hS => lv_l2i X.ex X.cd hdg rfl (k H locs ls hl hP hS)
theorem xg_lcmp (X : x_X p R s m args meth c y ad D cI A cells slots) {x z : Int64} (hdg : decode y.2.1 pc = .ok (.lcmp, 1)) (k : x_G p l e R s m args below meth c y ad D cI A cells slots Q (pc + 1) L (.int (lg_cmp x z) :: rest) sc ar) : x_G p l e R s m args below meth c y ad D cI A cells slots Q pc L (.long z :: .long x :: rest) sc ar :=
  fun H locs ls hl hP hS => W.lcmp X.ex X.cd hdg (k H locs ls hl hP hS)
theorem xg_dup (X : x_X p R s m args meth c y ad D cI A cells slots) {va : Value} (hdg : decode y.2.1 pc = .ok (.dup, 1)) (h1 : va.category = 1) (k : x_G p l e R s m args below meth c y ad D cI A cells slots Q (pc + 1) L (va :: va :: rest) sc ar) : x_G p l e R s m args below meth c y ad D cI A cells slots Q pc L (va :: rest) sc ar :=
  fun H locs ls hl hP hS => lv_dup X.ex X.cd hdg h1 (k H locs ls hl hP hS)
theorem xg_dup2 (X : x_X p R s m args meth c y ad D cI A cells slots) {va vb : Value} (hdg : decode y.2.1 pc = .ok (.dup2, 1)) (h1 : va.category = 1) (h2 : vb.category = 1) (k : x_G p l e R s m args below meth c y ad D cI A cells slots Q (pc + 1) L (va :: vb :: va :: vb :: rest) sc ar) : x_G p l e R s m args below meth c y ad D cI A cells slots Q pc L (va :: vb :: rest) sc ar :=
  fun H locs ls hl hP hS => lv_dup2_11 X.ex X.cd hdg h1 h2 (k H locs ls hl hP hS)
theorem xg_ldc2 (X : x_X p R s m args meth c y ad D cI A cells slots) {index : Nat} {v : Int64} (hdg : decode y.2.1 pc = .ok (.ldc2_w index, 3)) (hc : Cond.constantLong y.1.cls index v ∈ x_tb) (k : x_G p l e R s m args below meth c y ad D cI A cells slots Q (pc + 3) L (.long v :: rest) sc ar) : x_G p l e R s m args below meth c y ad D cI A cells slots Q pc L rest sc ar :=
  fun H locs ls hl hP hS => lv_ldc2 X.ex X.cd X.own (X.ts _ hc) hdg (k H locs ls hl hP hS)
theorem xg_if_eq (X : x_X p R s m args meth c y ad D cI A cells slots) {x : Int32} {off : Int} {tgt : Nat} (hdg : decode y.2.1 pc = .ok (.ifCond .eq off, 3)) (ht : (pc : Int) + off = (tgt : Int)) (kt : x = 0 → x_G p l e R s m args below meth c y ad D cI A cells slots Q tgt L rest sc ar) (kf : ¬ x = 0 → x_G p l e R s m args below meth c y ad D cI A cells slots Q (pc + 3) L rest sc ar) : x_G p l e R s m args below meth c y ad D cI A cells slots Q pc L (.int x :: rest) sc ar :=
  fun H locs ls hl hP hS => lv_if_eq X.ex X.cd hdg ht (fun h => kt h H locs ls hl hP hS) (fun h => kf h H locs ls hl hP hS)
theorem xg_icmp_eq (X : x_X p R s m args meth c y ad D cI A cells slots) {x z : Int32} {off : Int} {tgt : Nat} (hdg : decode y.2.1 pc = .ok (.if_icmp .eq off, 3)) (ht : (pc : Int) + off = (tgt : Int)) (kt : x = z → x_G p l e R s m args below meth c y ad D cI A cells slots Q tgt L rest sc ar) (kf : ¬ x = z → x_G p l e R s m args below meth c y ad D cI A cells slots Q (pc + 3) L rest sc ar) : x_G p l e R s m args below meth c y ad D cI A cells slots Q pc L (.int z :: .int x :: rest) sc ar :=
  fun H locs ls hl hP hS => lv_icmp_eq X.ex X.cd hdg ht (fun h => kt h H locs ls hl hP hS) (fun h => kf h H locs ls hl hP hS)
theorem xg_if_ne (X : x_X p R s m args meth c y ad D cI A cells slots) {x : Int32} {off : Int} {tgt : Nat} (hdg : decode y.2.1 pc = .ok (.ifCond .ne off, 3)) (ht : (pc : Int) + off = (tgt : Int)) (kt : ¬ x = 0 → x_G p l e R s m args below meth c y ad D cI A cells slots Q tgt L rest sc ar) (kf : x = 0 → x_G p l e R s m args below meth c y ad D cI A cells slots Q (pc + 3) L rest sc ar) : x_G p l e R s m args below meth c y ad D cI A cells slots Q pc L (.int x :: rest) sc ar :=
  fun H locs ls hl hP hS => lv_if_ne X.ex X.cd hdg ht (fun h => kt h H locs ls hl hP hS) (fun h => kf h H locs ls hl hP hS)
theorem xg_icmp_ne (X : x_X p R s m args meth c y ad D cI A cells slots) {x z : Int32} {off : Int} {tgt : Nat} (hdg : decode y.2.1 pc = .ok (.if_icmp .ne off, 3)) (ht : (pc : Int) + off = (tgt : Int)) (kt : ¬ x = z → x_G p l e R s m args below meth c y ad D cI A cells slots Q tgt L rest sc ar) (kf : x = z → x_G p l e R s m args below meth c y ad D cI A cells slots Q (pc + 3) L rest sc ar) : x_G p l e R s m args below meth c y ad D cI A cells slots Q pc L (.int z :: .int x :: rest) sc ar :=
  fun H locs ls hl hP hS => lv_icmp_ne X.ex X.cd hdg ht (fun h => kt h H locs ls hl hP hS) (fun h => kf h H locs ls hl hP hS)
theorem xg_if_lt (X : x_X p R s m args meth c y ad D cI A cells slots) {x : Int32} {off : Int} {tgt : Nat} (hdg : decode y.2.1 pc = .ok (.ifCond .lt off, 3)) (ht : (pc : Int) + off = (tgt : Int)) (kt : x < 0 → x_G p l e R s m args below meth c y ad D cI A cells slots Q tgt L rest sc ar) (kf : ¬ x < 0 → x_G p l e R s m args below meth c y ad D cI A cells slots Q (pc + 3) L rest sc ar) : x_G p l e R s m args below meth c y ad D cI A cells slots Q pc L (.int x :: rest) sc ar :=
  fun H locs ls hl hP hS => lv_if_lt X.ex X.cd hdg ht (fun h => kt h H locs ls hl hP hS) (fun h => kf h H locs ls hl hP hS)
theorem xg_icmp_lt (X : x_X p R s m args meth c y ad D cI A cells slots) {x z : Int32} {off : Int} {tgt : Nat} (hdg : decode y.2.1 pc = .ok (.if_icmp .lt off, 3)) (ht : (pc : Int) + off = (tgt : Int)) (kt : x < z → x_G p l e R s m args below meth c y ad D cI A cells slots Q tgt L rest sc ar) (kf : ¬ x < z → x_G p l e R s m args below meth c y ad D cI A cells slots Q (pc + 3) L rest sc ar) : x_G p l e R s m args below meth c y ad D cI A cells slots Q pc L (.int z :: .int x :: rest) sc ar :=
  fun H locs ls hl hP hS => lv_icmp_lt X.ex X.cd hdg ht (fun h => kt h H locs ls hl hP hS) (fun h => kf h H locs ls hl hP hS)
theorem xg_if_ge (X : x_X p R s m args meth c y ad D cI A cells slots) {x : Int32} {off : Int} {tgt : Nat} (hdg : decode y.2.1 pc = .ok (.ifCond .ge off, 3)) (ht : (pc : Int) + off = (tgt : Int)) (kt : 0 ≤ x → x_G p l e R s m args below meth c y ad D cI A cells slots Q tgt L rest sc ar) (kf : ¬ 0 ≤ x → x_G p l e R s m args below meth c y ad D cI A cells slots Q (pc + 3) L rest sc ar) : x_G p l e R s m args below meth c y ad D cI A cells slots Q pc L (.int x :: rest) sc ar :=
  fun H locs ls hl hP hS => lv_if_ge X.ex X.cd hdg ht (fun h => kt h H locs ls hl hP hS) (fun h => kf h H locs ls hl hP hS)
theorem xg_icmp_ge (X : x_X p R s m args meth c y ad D cI A cells slots) {x z : Int32} {off : Int} {tgt : Nat} (hdg : decode y.2.1 pc = .ok (.if_icmp .ge off, 3)) (ht : (pc : Int) + off = (tgt : Int)) (kt : z ≤ x → x_G p l e R s m args below meth c y ad D cI A cells slots Q tgt L rest sc ar) (kf : ¬ z ≤ x → x_G p l e R s m args below meth c y ad D cI A cells slots Q (pc + 3) L rest sc ar) : x_G p l e R s m args below meth c y ad D cI A cells slots Q pc L (.int z :: .int x :: rest) sc ar :=
  fun H locs ls hl hP hS => lv_icmp_ge X.ex X.cd hdg ht (fun h => kt h H locs ls hl hP hS) (fun h => kf h H locs ls hl hP hS)
theorem xg_if_gt (X : x_X p R s m args meth c y ad D cI A cells slots) {x : Int32} {off : Int} {tgt : Nat} (hdg : decode y.2.1 pc = .ok (.ifCond .gt off, 3)) (ht : (pc : Int) + off = (tgt : Int)) (kt : 0 < x → x_G p l e R s m args below meth c y ad D cI A cells slots Q tgt L rest sc ar) (kf : ¬ 0 < x → x_G p l e R s m args below meth c y ad D cI A cells slots Q (pc + 3) L rest sc ar) : x_G p l e R s m args below meth c y ad D cI A cells slots Q pc L (.int x :: rest) sc ar :=
  fun H locs ls hl hP hS => lv_if_gt X.ex X.cd hdg ht (fun h => kt h H locs ls hl hP hS) (fun h => kf h H locs ls hl hP hS)
theorem xg_icmp_gt (X : x_X p R s m args meth c y ad D cI A cells slots) {x z : Int32} {off : Int} {tgt : Nat} (hdg : decode y.2.1 pc = .ok (.if_icmp .gt off, 3)) (ht : (pc : Int) + off = (tgt : Int)) (kt : z < x → x_G p l e R s m args below meth c y ad D cI A cells slots Q tgt L rest sc ar) (kf : ¬ z < x → x_G p l e R s m args below meth c y ad D cI A cells slots Q (pc + 3) L rest sc ar) : x_G p l e R s m args below meth c y ad D cI A cells slots Q pc L (.int z :: .int x :: rest) sc ar :=
  fun H locs ls hl hP hS => lv_icmp_gt X.ex X.cd hdg ht (fun h => kt h H locs ls hl hP hS) (fun h => kf h H locs ls hl hP hS)
theorem xg_if_le (X : x_X p R s m args meth c y ad D cI A cells slots) {x : Int32} {off : Int} {tgt : Nat} (hdg : decode y.2.1 pc = .ok (.ifCond .le off, 3)) (ht : (pc : Int) + off = (tgt : Int)) (kt : x ≤ 0 → x_G p l e R s m args below meth c y ad D cI A cells slots Q tgt L rest sc ar) (kf : ¬ x ≤ 0 → x_G p l e R s m args below meth c y ad D cI A cells slots Q (pc + 3) L rest sc ar) : x_G p l e R s m args below meth c y ad D cI A cells slots Q pc L (.int x :: rest) sc ar :=
  fun H locs ls hl hP hS => lv_if_le X.ex X.cd hdg ht (fun h => kt h H locs ls hl hP hS) (fun h => kf h H locs ls hl hP hS)
theorem xg_icmp_le (X : x_X p R s m args meth c y ad D cI A cells slots) {x z : Int32} {off : Int} {tgt : Nat} (hdg : decode y.2.1 pc = .ok (.if_icmp .le off, 3)) (ht : (pc : Int) + off = (tgt : Int)) (kt : x ≤ z → x_G p l e R s m args below meth c y ad D cI A cells slots Q tgt L rest sc ar) (kf : ¬ x ≤ z → x_G p l e R s m args below meth c y ad D cI A cells slots Q (pc + 3) L rest sc ar) : x_G p l e R s m args below meth c y ad D cI A cells slots Q pc L (.int z :: .int x :: rest) sc ar :=
  fun H locs ls hl hP hS => lv_icmp_le X.ex X.cd hdg ht (fun h => kt h H locs ls hl hP hS) (fun h => kf h H locs ls hl hP hS)
theorem xg_goto (X : x_X p R s m args meth c y ad D cI A cells slots) {off : Int} {tgt : Nat} (hdg : decode y.2.1 pc = .ok (.goto off, 3)) (ht : (pc : Int) + off = (tgt : Int)) (k : x_G p l e R s m args below meth c y ad D cI A cells slots Q tgt L rest sc ar) : x_G p l e R s m args below meth c y ad D cI A cells slots Q pc L rest sc ar :=
  fun H locs ls hl hP hS => lv_goto X.ex X.cd hdg ht (k H locs ls hl hP hS)
theorem xg_tableOut (X : x_X p R s m args meth c y ad D cI A cells slots) {dflt lo hi : Int} {offs : Array Int} {len : Nat} {x : Int32} {tgt : Nat} (hdg : decode y.2.1 pc = .ok (.tableswitch dflt lo hi offs, len)) (h : x.toInt < lo ∨ hi < x.toInt) (ht : (pc : Int) + dflt = (tgt : Int)) (k : x_G p l e R s m args below meth c y ad D cI A cells slots Q tgt L rest sc ar) : x_G p l e R s m args below meth c y ad D cI A cells slots Q pc L (.int x :: rest) sc ar :=
  fun H locs ls hl hP hS => lv_tableOut X.ex X.cd hdg h ht (k H locs ls hl hP hS)
theorem xg_tableIn (X : x_X p R s m args meth c y ad D cI A cells slots) {dflt lo hi : Int} {offs : Array Int} {len : Nat} {x : Int32} {off : Int} {tgt : Nat} (hdg : decode y.2.1 pc = .ok (.tableswitch dflt lo hi offs, len)) (h1 : ¬ x.toInt < lo) (h2 : ¬ hi < x.toInt) (ho : offs[(x.toInt - lo).toNat]? = some off) (ht : (pc : Int) + off = (tgt : Int)) (k : x_G p l e R s m args below meth c y ad D cI A cells slots Q tgt L rest sc ar) : x_G p l e R s m args below meth c y ad D cI A cells slots Q pc L (.int x :: rest) sc ar :=
  fun H locs ls hl hP hS => lv_tableIn X.ex X.cd hdg h1 h2 ho ht (k H locs ls hl hP hS)
theorem xg_lookup (X : x_X p R s m args meth c y ad D cI A cells slots) {dflt : Int} {ps : Array (Int × Int)} {len : Nat} {x : Int32} {off : Int} {tgt : Nat} (hdg : decode y.2.1 pc = .ok (.lookupswitch dflt ps, len)) (hp : (ps.toList.zip (ps.toList.drop 1)).all (fun (a, next) => a.1 < next.1) = true) (ho : Op.lookupswitch.offset ps.toList dflt x.toInt = off) (ht : (pc : Int) + off = (tgt : Int)) (k : x_G p l e R s m args below meth c y ad D cI A cells slots Q tgt L rest sc ar) : x_G p l e R s m args below meth c y ad D cI A cells slots Q pc L (.int x :: rest) sc ar :=
  fun H locs ls hl hP hS => lv_lookup X.ex X.cd hdg hp ho ht (k H locs ls hl hP hS)
theorem xg_get (X : x_X p R s m args meth c y ad D cI A cells slots) {a q0 ci index N k : Nat} {C : String} {T : u_T} {fs : List Value} {v : Value} (he : (x_wd ad cI sc ar)[q0]? = some (a, .inr (ci, fs))) (hc : x_Cl[ci]? = some (C, T, N)) (hin : ∀ w ∈ u_ws C T N, w ∈ x_tb) (hk : k < N) (hlink : Cond.fieldLink y.1.cls index (T k).1 (T k).2.1 (T k).2.2.1 ∈ x_tb) (hv : fs[k]? = some v) (hdg : decode y.2.1 pc = .ok (.getfield index, 3)) (kk : x_G p l e R s m args below meth c y ad D cI A cells slots Q (pc + 3) L (v :: rest) sc ar) : x_G p l e R s m args below meth c y ad D cI A cells slots Q pc L (.ref a :: rest) sc ar :=
  fun H locs ls hl hP hS => va_get X.ex X.cd X.ts hin X.own X.K hP q0 he hc k hk (X.ts _ hlink) (fun _ h => h) hv hdg (kk H locs ls hl hP hS)
theorem xg_put (X : x_X p R s m args meth c y ad D cI A cells slots) {a q0 ci index N k : Nat} {C : String} {T : u_T} {fs : List Value} {v : Value} {sc' : Nat → Int32} {ty : FieldType} {ty0 : Nat → FieldType} (he : (x_wd ad cI sc ar)[q0]? = some (a, .inr (ci, fs))) (hc : x_Cl[ci]? = some (C, T, N)) (hin : ∀ w ∈ u_ws C T N, w ∈ x_tb) (hty : ∀ k, k < N → parseFieldDescriptor (T k).2.2.1 = some (ty0 k)) (hnm : ∀ a, a < N → ∀ b, b < N → a ≠ b → (T a).2.1 ≠ (T b).2.1) (hk : k < N) (hlink : Cond.fieldLink y.1.cls index (T k).1 (T k).2.1 (T k).2.2.1 ∈ x_tb) (hfin : (T k).2.2.2 = false) (hd : parseFieldDescriptor (T k).2.2.1 = some ty) (hn : narrow ty v = v) (hfit : fits ty v = true) (hlen : k < fs.length) (hset : (x_wd ad cI sc ar).set q0 (a, .inr (ci, fs.set k v)) = x_wd ad cI sc' ar) (hdg : decode y.2.1 pc = .ok (.putfield index, 3)) (kk : x_G p l e R s m args below meth c y ad D cI A cells slots Q (pc + 3) L rest sc' ar) : x_G p l e R s m args below meth c y ad D cI A cells slots Q pc L (v :: .ref a :: rest) sc ar :=
  fun H locs ls hl hP hS => va_put X.ex X.cd X.ts hin ty0 hty hnm X.own X.K hP (x_D X.dis X.inA) hS q0 he hc k hk (X.ts _ hlink) (fun _ h => h) hfin hd hn hfit hlen hdg (fun H1 locs1 hP1 _ hS1 => kk H1 locs1 ls hl (hset ▸ hP1) hS1)
theorem xg_iald (X : x_X p R s m args meth c y ad D cI A cells slots) {a q0 n : Nat} {f : Nat → Int32} {i : Int32} (he : (x_wd ad cI sc ar)[q0]? = some (a, .inl (cI, n, .inl f))) (hdg : decode y.2.1 pc = .ok (.iaload, 1)) (hin : vp_in i n) (kk : x_G p l e R s m args below meth c y ad D cI A cells slots Q (pc + 1) L (.int (f i.toNatClampNeg) :: rest) sc ar) : x_G p l e R s m args below meth c y ad D cI A cells slots Q pc L (.int i :: .ref a :: rest) sc ar :=
  fun H locs ls hl hP hS => va_iald X.ex X.cd X.K hP q0 0 he rfl hin hdg (kk H locs ls hl hP hS)
theorem xg_iast (X : x_X p R s m args meth c y ad D cI A cells slots) {a q0 n : Nat} {f : Nat → Int32} {i x : Int32} {ar' : Nat → Nat → Int32} (he : (x_wd ad cI sc ar)[q0]? = some (a, .inl (cI, n, .inl f))) (hset : (x_wd ad cI sc ar).set q0 (a, .inl (cI, n, .inl (upd f i.toNatClampNeg x))) = x_wd ad cI sc ar') (hdg : decode y.2.1 pc = .ok (.iastore, 1)) (hin : vp_in i n) (kk : x_G p l e R s m args below meth c y ad D cI A cells slots Q (pc + 1) L rest sc ar') : x_G p l e R s m args below meth c y ad D cI A cells slots Q pc L (.int x :: .int i :: .ref a :: rest) sc ar :=
  fun H locs ls hl hP hS => va_iast X.ex X.cd X.K hP (x_D X.dis X.inA) hS q0 0 he rfl hin hdg (fun H1 locs1 hP1 _ hS1 => kk H1 locs1 ls hl (hset ▸ hP1) hS1)
theorem xg_alen (X : x_X p R s m args meth c y ad D cI A cells slots) {a q0 n : Nat} {f : Nat → Int32} {v : Int32} (he : (x_wd ad cI sc ar)[q0]? = some (a, .inl (cI, n, .inl f))) (hv : Int32.ofNat n = v) (hdg : decode y.2.1 pc = .ok (.arraylength, 1)) (kk : x_G p l e R s m args below meth c y ad D cI A cells slots Q (pc + 1) L (.int v :: rest) sc ar) : x_G p l e R s m args below meth c y ad D cI A cells slots Q pc L (.ref a :: rest) sc ar :=
  fun H locs ls hl hP hS => va_alen X.ex X.cd X.K hP q0 0 he rfl hv hdg (kk H locs ls hl hP hS)
theorem xg_iret (X : x_X p R s m args meth c y ad D cI (x_A ad) 0 0) {Post : Option Value → (Nat → Int32) → (Nat → Nat → Int32) → Prop} {v : Int32} {ty : FieldType} (hdg : decode y.2.1 pc = .ok (.ireturn, 1)) (hr : y.2.2.2 = some ty) (hn : narrow ty (.int v) = .int v) (hp : Post (some (.int v)) sc ar) : x_G p l e R s m args below meth c y ad D cI (x_A ad) 0 0 (x_Q below args s ad D cI Post) pc L [.int v] sc ar :=
  fun H locs ls hl hP hS => W.zret X.ex X.cd (X.ret.trans hr) hn (fun t ht hW => ⟨_, sc, ar, rfl, hp, by rw [ht]; exact hP, hS.F ht⟩) hS.2.2 hdg (hlocks := X.lk)
theorem xg_lret (X : x_X p R s m args meth c y ad D cI (x_A ad) 0 0) {Post : Option Value → (Nat → Int32) → (Nat → Nat → Int32) → Prop} {v : Int64} (hdg : decode y.2.1 pc = .ok (.lreturn, 1)) (hr : y.2.2.2 = some .long) (hp : Post (some (.long v)) sc ar) : x_G p l e R s m args below meth c y ad D cI (x_A ad) 0 0 (x_Q below args s ad D cI Post) pc L [.long v] sc ar :=
  fun H locs ls hl hP hS => W.lret X.ex X.cd (X.ret.trans hr) (fun t ht hW => ⟨_, sc, ar, rfl, hp, by rw [ht]; exact hP, hS.F ht⟩) hS.2.2 hdg (hlocks := X.lk)
theorem xg_vret (X : x_X p R s m args meth c y ad D cI (x_A ad) 0 0) {Post : Option Value → (Nat → Int32) → (Nat → Nat → Int32) → Prop} (hdg : decode y.2.1 pc = .ok (.return_, 1)) (hr : y.2.2.2 = none) (hp : Post none sc ar) : x_G p l e R s m args below meth c y ad D cI (x_A ad) 0 0 (x_Q below args s ad D cI Post) pc L [] sc ar :=
  fun H locs ls hl hP hS => W.vret X.ex X.cd (X.ret.trans hr) (fun t ht hW => ⟨_, sc, ar, rfl, hp, by rw [ht]; exact hP, hS.F ht⟩) hS.2.2 hdg (hlocks := X.lk)
theorem x_callW {Post : Option Value → (Nat → Int32) → (Nat → Nat → Int32) → Prop} {H : Heap} {locs : List Loc} {ls : Array Slot} {st0 : List Value} {a : Array Value} (hr : va_Run p l e R s m args below meth c H locs cells slots 0 0 (F0 m pc ls st0) rest (x_Qc ad D cI Post a) (x_A ad)) (hS : va_S A s.heap H locs) (hA : ∀ i, i < 12 → A (ad i))
    (kk : ∀ (r : Option Value) (sc' : Nat → Int32) (ar' : Nat → Nat → Int32) (H1 : Heap) (locs1 : List Loc), Post r sc' ar' → va_P D x_Cl (x_wd ad cI sc' ar') H1 → va_S A s.heap H1 locs1 → W p l e R s m args below meth c H1 locs1 cells slots Q (F0 m (pc + 3) ls (r.toList ++ rest))) : W p l e R s m args below meth c H locs cells slots Q (F0 m pc ls st0) := by
  have hAA : ∀ q, x_A ad q → A q := fun q hq => by
    obtain ⟨i, h1, h2⟩ := hq
    rw [h2]; exact hA i h1
  intro T hT X
  obtain ⟨v, st₀, t, T', L, h0, X', hL, e1, e2, ⟨r, sc', ar', hv, hp, hw, hz, hk⟩, st⟩ := hr T hT X
  cases hv
  rw [h0] at hz hk
  obtain ⟨t2, a1, b1⟩ := kk v sc' ar' T'.heap (locs ++ L) hp (by rw [e1]; exact hw)
    ⟨Nat.le_trans hS.1 (by rw [e1]; exact hz), fun q h1 h2 => by rw [e1, hk q (Nat.lt_of_lt_of_le h1 hS.1) (fun z => h2 (hAA q z))]; exact hS.2.1 q h1 h2, fun q hq => by
      rcases List.mem_append.mp hq with h | h
      · exact hS.2.2 q h
      · exact hAA _ (hL q h)⟩ T' rfl X'
  exact ⟨t2, st t2 a1, b1⟩
def x_good (ws : List Cond) : Bool := ws.all fun w => decide (w ∈ x_tb) && goodWord w
theorem x_pair {a : List Cond} {w : Cond} (h0 : GoodIn x_tb x_tb) (h : x_good (a ++ [w]) = true) : GoodIn x_tb (a ++ (w :: x_tb)) := by
  have h1 := goodIn_of (a ++ [w]) h
  intro z hz
  rcases List.mem_append.mp hz with h2 | h2
  · exact h1 z (List.mem_append_left _ h2)
  · rcases List.mem_cons.mp h2 with h3 | h3
    · exact h1 z (List.mem_append_right _ (by rw [h3]; exact List.mem_singleton_self _))
    · exact h0 z h3
def x_siteV (own : String) (index : Nat) (C : String) (y : x_M) (n : Nat) : Prop := x_good (wsV own index C y.1 [Cond.code y.1 y.2.1 y.2.2.1 y.2.2.2]) = true ∧ (y.1.cls = C ∧ y.1.cls ≠ "java/lang/invoke/MethodHandle" ∧ y.1.cls ≠ "java/lang/invoke/VarHandle" ∧ (parseMethodDescriptor y.1.desc).map (fun d => d.parameters.length) = some n)
def x_siteS (own : String) (index : Nat) (y : x_M) (n : Nat) : Prop := x_good (va_wsS own index y.1 [Cond.code y.1 y.2.1 y.2.2.1 y.2.2.2]) = true ∧ (y.1.cls ≠ "java/lang/invoke/MethodHandle" ∧ y.1.cls ≠ "java/lang/invoke/VarHandle" ∧ (parseMethodDescriptor y.1.desc).map (fun d => d.parameters.length) = some n)
theorem xg_callV (X : x_X p R s m args meth c y ad D cI A cells slots) {Post : Option Value → (Nat → Int32) → (Nat → Nat → Int32) → Prop} {y2 : x_M} {fr lo index n q0 ci N : Nat} {C : String} {T : u_T} {As st0 : List Value} (hC : x_Con l y2 fr lo ad D cI (.ref (ad q0) :: As) sc ar Post) (hs : x_siteV y.1.cls index C y2 n) (hrc : ∃ fs, (x_wd ad cI sc ar)[q0]? = some (ad q0, .inr (ci, fs))) (hcl : x_Cl[ci]? = some (C, T, N)) (hn : As.length = n) (hR : fr + 1 ≤ R.frames ∧ 8 + (y2.2.2.1 + 11) + lo ≤ R.locals) (hst : st0 = As.reverse ++ .ref (ad q0) :: rest) (hcat : (rest.map fun v => v.category).sum ≤ 8) (hdg : decode y.2.1 pc = .ok (.invokevirtual index, 3)) (k : ∀ r sc' ar', Post r sc' ar' → x_G p l e R s m args below meth c y ad D cI A cells slots Q (pc + 3) L (r.toList ++ rest) sc' ar') : x_G p l e R s m args below meth c y ad D cI A cells slots Q pc L st0 sc ar := by
  intro H locs ls hl hP hS
  obtain ⟨fs, he⟩ := hrc
  have cw := cwV (R := R) (mc := 0) (ms := 0) (rm := x_rm fr lo) (ws := Cond.code y2.1 y2.2.1 y2.2.2.1 y2.2.2.2 :: x_tb) (own := y.1.cls) (index := index) (C := C) (y := y2.1) n X.ts (x_pair x_g0 hs.1) rfl rfl rfl hs.2 hR
  refine x_callW (va_runV (As := As) (rest := rest) ⟨X.ex, X.cd, X.ml, X.own, X.ts⟩ hC cw ⟨fun a U g mk q => ⟨q.1, q.2.1, va_K.moved (u := U) (U := U.calling g mk a) (Vm.Alike.refl U.vm) q.2.2⟩, va_recv X.K hP hcl he, fun U hU hW => ⟨rfl, by rw [hU]; exact hP, va_K.moved hW.alike X.K⟩⟩ rfl hn hl.1 hst (lv_room hcat) hdg X.cl) hS X.inA ?_
  intro r sc' ar' H1 locs1 hp hP1 hS1
  exact k r sc' ar' hp H1 locs1 ls hl hP1 hS1
theorem xg_callS (X : x_X p R s m args meth c y ad D cI A cells slots) {Post : Option Value → (Nat → Int32) → (Nat → Nat → Int32) → Prop} {y2 : x_M} {fr lo index n : Nat} {As st0 : List Value} (hC : x_Con l y2 fr lo ad D cI As sc ar Post) (hs : x_siteS y.1.cls index y2 n) (hn : As.length = n) (hR : fr + 1 ≤ R.frames ∧ 8 + (y2.2.2.1 + 11) + lo ≤ R.locals) (hst : st0 = As.reverse ++ rest) (hcat : (rest.map fun v => v.category).sum ≤ 8) (hdg : decode y.2.1 pc = .ok (.invokestatic index, 3)) (k : ∀ r sc' ar', Post r sc' ar' → x_G p l e R s m args below meth c y ad D cI A cells slots Q (pc + 3) L (r.toList ++ rest) sc' ar') : x_G p l e R s m args below meth c y ad D cI A cells slots Q pc L st0 sc ar := by
  intro H locs ls hl hP hS
  have cw := va_cwS (R := R) (mc := 0) (ms := 0) (rm := x_rm fr lo) (ws := Cond.code y2.1 y2.2.1 y2.2.2.1 y2.2.2.2 :: x_tb) (own := y.1.cls) (index := index) (y := y2.1) n X.ts (x_pair x_g0 hs.1) rfl rfl rfl hs.2 hR
  refine x_callW (va_runS (As := As) (rest := rest) ⟨X.ex, X.cd, X.ml, X.own, X.ts⟩ hC cw ⟨fun a U g mk q => ⟨q.1, q.2.1, va_K.moved (u := U) (U := U.calling g mk a) (Vm.Alike.refl U.vm) q.2.2⟩, fun U hU hW => ⟨rfl, by rw [hU]; exact hP, va_K.moved hW.alike X.K⟩⟩ rfl hn hl.1 hst (lv_room hcat) hdg X.cl) hS X.inA ?_
  intro r sc' ar' H1 locs1 hp hP1 hS1
  exact k r sc' ar' hp H1 locs1 ls hl hP1 hS1
theorem xg_cV0 (X : x_X p R s m args meth c y ad D cI A cells slots) {Post : Option Value → (Nat → Int32) → (Nat → Nat → Int32) → Prop} {y2 : x_M} {fr lo index : Nat} {q0 ci N : Nat} {C : String} {T : u_T} (hdg : decode y.2.1 pc = .ok (.invokevirtual index, 3)) (hC : x_Con l y2 fr lo ad D cI (.ref (ad q0) :: []) sc ar Post) (hs : x_siteV y.1.cls index C y2 0) (hrc : ∃ fs, (x_wd ad cI sc ar)[q0]? = some (ad q0, .inr (ci, fs))) (hcl : x_Cl[ci]? = some (C, T, N)) (hR : fr + 1 ≤ R.frames ∧ 8 + (y2.2.2.1 + 11) + lo ≤ R.locals) (hcat : (rest.map fun v => v.category).sum ≤ 8) (k : ∀ r sc' ar', Post r sc' ar' → x_G p l e R s m args below meth c y ad D cI A cells slots Q (pc + 3) L (r.toList ++ rest) sc' ar') : x_G p l e R s m args below meth c y ad D cI A cells slots Q pc L (.ref (ad q0) :: rest) sc ar :=
  xg_callV X hC hs hrc hcl rfl hR rfl hcat hdg k
theorem xg_crV0 (X : x_X p R s m args meth c y ad D cI A cells slots) {v : Value} {sc2 : Nat → Int32} {ar2 : Nat → Nat → Int32} {y2 : x_M} {fr lo index : Nat} {q0 ci N : Nat} {C : String} {T : u_T} (hdg : decode y.2.1 pc = .ok (.invokevirtual index, 3)) (hC : x_Con l y2 fr lo ad D cI (.ref (ad q0) :: []) sc ar (x_E (some v) sc2 ar2)) (hs : x_siteV y.1.cls index C y2 0) (hrc : ∃ fs, (x_wd ad cI sc ar)[q0]? = some (ad q0, .inr (ci, fs))) (hcl : x_Cl[ci]? = some (C, T, N)) (hR : fr + 1 ≤ R.frames ∧ 8 + (y2.2.2.1 + 11) + lo ≤ R.locals) (hcat : (rest.map fun v => v.category).sum ≤ 8) (k : x_G p l e R s m args below meth c y ad D cI A cells slots Q (pc + 3) L (v :: rest) sc2 ar2) : x_G p l e R s m args below meth c y ad D cI A cells slots Q pc L (.ref (ad q0) :: rest) sc ar :=
  xg_callV X hC hs hrc hcl rfl hR rfl hcat hdg (fun r sc' ar' h => by obtain ⟨rfl, rfl, rfl⟩ := h; exact k)
theorem xg_cvV0 (X : x_X p R s m args meth c y ad D cI A cells slots) {sc2 : Nat → Int32} {ar2 : Nat → Nat → Int32} {y2 : x_M} {fr lo index : Nat} {q0 ci N : Nat} {C : String} {T : u_T} (hdg : decode y.2.1 pc = .ok (.invokevirtual index, 3)) (hC : x_Con l y2 fr lo ad D cI (.ref (ad q0) :: []) sc ar (x_E none sc2 ar2)) (hs : x_siteV y.1.cls index C y2 0) (hrc : ∃ fs, (x_wd ad cI sc ar)[q0]? = some (ad q0, .inr (ci, fs))) (hcl : x_Cl[ci]? = some (C, T, N)) (hR : fr + 1 ≤ R.frames ∧ 8 + (y2.2.2.1 + 11) + lo ≤ R.locals) (hcat : (rest.map fun v => v.category).sum ≤ 8) (k : x_G p l e R s m args below meth c y ad D cI A cells slots Q (pc + 3) L rest sc2 ar2) : x_G p l e R s m args below meth c y ad D cI A cells slots Q pc L (.ref (ad q0) :: rest) sc ar :=
  xg_callV X hC hs hrc hcl rfl hR rfl hcat hdg (fun r sc' ar' h => by obtain ⟨rfl, rfl, rfl⟩ := h; exact k)
theorem xg_cS0 (X : x_X p R s m args meth c y ad D cI A cells slots) {Post : Option Value → (Nat → Int32) → (Nat → Nat → Int32) → Prop} {y2 : x_M} {fr lo index : Nat} (hdg : decode y.2.1 pc = .ok (.invokestatic index, 3)) (hC : x_Con l y2 fr lo ad D cI [] sc ar Post) (hs : x_siteS y.1.cls index y2 0) (hR : fr + 1 ≤ R.frames ∧ 8 + (y2.2.2.1 + 11) + lo ≤ R.locals) (hcat : (rest.map fun v => v.category).sum ≤ 8) (k : ∀ r sc' ar', Post r sc' ar' → x_G p l e R s m args below meth c y ad D cI A cells slots Q (pc + 3) L (r.toList ++ rest) sc' ar') : x_G p l e R s m args below meth c y ad D cI A cells slots Q pc L (rest) sc ar :=
  xg_callS X hC hs rfl hR rfl hcat hdg k
theorem xg_crS0 (X : x_X p R s m args meth c y ad D cI A cells slots) {v : Value} {sc2 : Nat → Int32} {ar2 : Nat → Nat → Int32} {y2 : x_M} {fr lo index : Nat} (hdg : decode y.2.1 pc = .ok (.invokestatic index, 3)) (hC : x_Con l y2 fr lo ad D cI [] sc ar (x_E (some v) sc2 ar2)) (hs : x_siteS y.1.cls index y2 0) (hR : fr + 1 ≤ R.frames ∧ 8 + (y2.2.2.1 + 11) + lo ≤ R.locals) (hcat : (rest.map fun v => v.category).sum ≤ 8) (k : x_G p l e R s m args below meth c y ad D cI A cells slots Q (pc + 3) L (v :: rest) sc2 ar2) : x_G p l e R s m args below meth c y ad D cI A cells slots Q pc L (rest) sc ar :=
  xg_callS X hC hs rfl hR rfl hcat hdg (fun r sc' ar' h => by obtain ⟨rfl, rfl, rfl⟩ := h; exact k)
theorem xg_cvS0 (X : x_X p R s m args meth c y ad D cI A cells slots) {sc2 : Nat → Int32} {ar2 : Nat → Nat → Int32} {y2 : x_M} {fr lo index : Nat} (hdg : decode y.2.1 pc = .ok (.invokestatic index, 3)) (hC : x_Con l y2 fr lo ad D cI [] sc ar (x_E none sc2 ar2)) (hs : x_siteS y.1.cls index y2 0) (hR : fr + 1 ≤ R.frames ∧ 8 + (y2.2.2.1 + 11) + lo ≤ R.locals) (hcat : (rest.map fun v => v.category).sum ≤ 8) (k : x_G p l e R s m args below meth c y ad D cI A cells slots Q (pc + 3) L rest sc2 ar2) : x_G p l e R s m args below meth c y ad D cI A cells slots Q pc L (rest) sc ar :=
  xg_callS X hC hs rfl hR rfl hcat hdg (fun r sc' ar' h => by obtain ⟨rfl, rfl, rfl⟩ := h; exact k)
theorem xg_cV1 (X : x_X p R s m args meth c y ad D cI A cells slots) {Post : Option Value → (Nat → Int32) → (Nat → Nat → Int32) → Prop} {y2 : x_M} {fr lo index : Nat} {q0 ci N : Nat} {C : String} {T : u_T} {a1 : Value} (hdg : decode y.2.1 pc = .ok (.invokevirtual index, 3)) (hC : x_Con l y2 fr lo ad D cI (.ref (ad q0) :: [a1]) sc ar Post) (hs : x_siteV y.1.cls index C y2 1) (hrc : ∃ fs, (x_wd ad cI sc ar)[q0]? = some (ad q0, .inr (ci, fs))) (hcl : x_Cl[ci]? = some (C, T, N)) (hR : fr + 1 ≤ R.frames ∧ 8 + (y2.2.2.1 + 11) + lo ≤ R.locals) (hcat : (rest.map fun v => v.category).sum ≤ 8) (k : ∀ r sc' ar', Post r sc' ar' → x_G p l e R s m args below meth c y ad D cI A cells slots Q (pc + 3) L (r.toList ++ rest) sc' ar') : x_G p l e R s m args below meth c y ad D cI A cells slots Q pc L (a1 :: .ref (ad q0) :: rest) sc ar :=
  xg_callV X hC hs hrc hcl rfl hR rfl hcat hdg k
theorem xg_crV1 (X : x_X p R s m args meth c y ad D cI A cells slots) {v : Value} {sc2 : Nat → Int32} {ar2 : Nat → Nat → Int32} {y2 : x_M} {fr lo index : Nat} {q0 ci N : Nat} {C : String} {T : u_T} {a1 : Value} (hdg : decode y.2.1 pc = .ok (.invokevirtual index, 3)) (hC : x_Con l y2 fr lo ad D cI (.ref (ad q0) :: [a1]) sc ar (x_E (some v) sc2 ar2)) (hs : x_siteV y.1.cls index C y2 1) (hrc : ∃ fs, (x_wd ad cI sc ar)[q0]? = some (ad q0, .inr (ci, fs))) (hcl : x_Cl[ci]? = some (C, T, N)) (hR : fr + 1 ≤ R.frames ∧ 8 + (y2.2.2.1 + 11) + lo ≤ R.locals) (hcat : (rest.map fun v => v.category).sum ≤ 8) (k : x_G p l e R s m args below meth c y ad D cI A cells slots Q (pc + 3) L (v :: rest) sc2 ar2) : x_G p l e R s m args below meth c y ad D cI A cells slots Q pc L (a1 :: .ref (ad q0) :: rest) sc ar :=
  xg_callV X hC hs hrc hcl rfl hR rfl hcat hdg (fun r sc' ar' h => by obtain ⟨rfl, rfl, rfl⟩ := h; exact k)
theorem xg_cvV1 (X : x_X p R s m args meth c y ad D cI A cells slots) {sc2 : Nat → Int32} {ar2 : Nat → Nat → Int32} {y2 : x_M} {fr lo index : Nat} {q0 ci N : Nat} {C : String} {T : u_T} {a1 : Value} (hdg : decode y.2.1 pc = .ok (.invokevirtual index, 3)) (hC : x_Con l y2 fr lo ad D cI (.ref (ad q0) :: [a1]) sc ar (x_E none sc2 ar2)) (hs : x_siteV y.1.cls index C y2 1) (hrc : ∃ fs, (x_wd ad cI sc ar)[q0]? = some (ad q0, .inr (ci, fs))) (hcl : x_Cl[ci]? = some (C, T, N)) (hR : fr + 1 ≤ R.frames ∧ 8 + (y2.2.2.1 + 11) + lo ≤ R.locals) (hcat : (rest.map fun v => v.category).sum ≤ 8) (k : x_G p l e R s m args below meth c y ad D cI A cells slots Q (pc + 3) L rest sc2 ar2) : x_G p l e R s m args below meth c y ad D cI A cells slots Q pc L (a1 :: .ref (ad q0) :: rest) sc ar :=
  xg_callV X hC hs hrc hcl rfl hR rfl hcat hdg (fun r sc' ar' h => by obtain ⟨rfl, rfl, rfl⟩ := h; exact k)
theorem xg_cS1 (X : x_X p R s m args meth c y ad D cI A cells slots) {Post : Option Value → (Nat → Int32) → (Nat → Nat → Int32) → Prop} {y2 : x_M} {fr lo index : Nat} {a1 : Value} (hdg : decode y.2.1 pc = .ok (.invokestatic index, 3)) (hC : x_Con l y2 fr lo ad D cI [a1] sc ar Post) (hs : x_siteS y.1.cls index y2 1) (hR : fr + 1 ≤ R.frames ∧ 8 + (y2.2.2.1 + 11) + lo ≤ R.locals) (hcat : (rest.map fun v => v.category).sum ≤ 8) (k : ∀ r sc' ar', Post r sc' ar' → x_G p l e R s m args below meth c y ad D cI A cells slots Q (pc + 3) L (r.toList ++ rest) sc' ar') : x_G p l e R s m args below meth c y ad D cI A cells slots Q pc L (a1 :: rest) sc ar :=
  xg_callS X hC hs rfl hR rfl hcat hdg k
theorem xg_crS1 (X : x_X p R s m args meth c y ad D cI A cells slots) {v : Value} {sc2 : Nat → Int32} {ar2 : Nat → Nat → Int32} {y2 : x_M} {fr lo index : Nat} {a1 : Value} (hdg : decode y.2.1 pc = .ok (.invokestatic index, 3)) (hC : x_Con l y2 fr lo ad D cI [a1] sc ar (x_E (some v) sc2 ar2)) (hs : x_siteS y.1.cls index y2 1) (hR : fr + 1 ≤ R.frames ∧ 8 + (y2.2.2.1 + 11) + lo ≤ R.locals) (hcat : (rest.map fun v => v.category).sum ≤ 8) (k : x_G p l e R s m args below meth c y ad D cI A cells slots Q (pc + 3) L (v :: rest) sc2 ar2) : x_G p l e R s m args below meth c y ad D cI A cells slots Q pc L (a1 :: rest) sc ar :=
  xg_callS X hC hs rfl hR rfl hcat hdg (fun r sc' ar' h => by obtain ⟨rfl, rfl, rfl⟩ := h; exact k)
theorem xg_cvS1 (X : x_X p R s m args meth c y ad D cI A cells slots) {sc2 : Nat → Int32} {ar2 : Nat → Nat → Int32} {y2 : x_M} {fr lo index : Nat} {a1 : Value} (hdg : decode y.2.1 pc = .ok (.invokestatic index, 3)) (hC : x_Con l y2 fr lo ad D cI [a1] sc ar (x_E none sc2 ar2)) (hs : x_siteS y.1.cls index y2 1) (hR : fr + 1 ≤ R.frames ∧ 8 + (y2.2.2.1 + 11) + lo ≤ R.locals) (hcat : (rest.map fun v => v.category).sum ≤ 8) (k : x_G p l e R s m args below meth c y ad D cI A cells slots Q (pc + 3) L rest sc2 ar2) : x_G p l e R s m args below meth c y ad D cI A cells slots Q pc L (a1 :: rest) sc ar :=
  xg_callS X hC hs rfl hR rfl hcat hdg (fun r sc' ar' h => by obtain ⟨rfl, rfl, rfl⟩ := h; exact k)
theorem xg_cV2 (X : x_X p R s m args meth c y ad D cI A cells slots) {Post : Option Value → (Nat → Int32) → (Nat → Nat → Int32) → Prop} {y2 : x_M} {fr lo index : Nat} {q0 ci N : Nat} {C : String} {T : u_T} {a1 a2 : Value} (hdg : decode y.2.1 pc = .ok (.invokevirtual index, 3)) (hC : x_Con l y2 fr lo ad D cI (.ref (ad q0) :: [a1, a2]) sc ar Post) (hs : x_siteV y.1.cls index C y2 2) (hrc : ∃ fs, (x_wd ad cI sc ar)[q0]? = some (ad q0, .inr (ci, fs))) (hcl : x_Cl[ci]? = some (C, T, N)) (hR : fr + 1 ≤ R.frames ∧ 8 + (y2.2.2.1 + 11) + lo ≤ R.locals) (hcat : (rest.map fun v => v.category).sum ≤ 8) (k : ∀ r sc' ar', Post r sc' ar' → x_G p l e R s m args below meth c y ad D cI A cells slots Q (pc + 3) L (r.toList ++ rest) sc' ar') : x_G p l e R s m args below meth c y ad D cI A cells slots Q pc L (a2 :: a1 :: .ref (ad q0) :: rest) sc ar :=
  xg_callV X hC hs hrc hcl rfl hR rfl hcat hdg k
theorem xg_crV2 (X : x_X p R s m args meth c y ad D cI A cells slots) {v : Value} {sc2 : Nat → Int32} {ar2 : Nat → Nat → Int32} {y2 : x_M} {fr lo index : Nat} {q0 ci N : Nat} {C : String} {T : u_T} {a1 a2 : Value} (hdg : decode y.2.1 pc = .ok (.invokevirtual index, 3)) (hC : x_Con l y2 fr lo ad D cI (.ref (ad q0) :: [a1, a2]) sc ar (x_E (some v) sc2 ar2)) (hs : x_siteV y.1.cls index C y2 2) (hrc : ∃ fs, (x_wd ad cI sc ar)[q0]? = some (ad q0, .inr (ci, fs))) (hcl : x_Cl[ci]? = some (C, T, N)) (hR : fr + 1 ≤ R.frames ∧ 8 + (y2.2.2.1 + 11) + lo ≤ R.locals) (hcat : (rest.map fun v => v.category).sum ≤ 8) (k : x_G p l e R s m args below meth c y ad D cI A cells slots Q (pc + 3) L (v :: rest) sc2 ar2) : x_G p l e R s m args below meth c y ad D cI A cells slots Q pc L (a2 :: a1 :: .ref (ad q0) :: rest) sc ar :=
  xg_callV X hC hs hrc hcl rfl hR rfl hcat hdg (fun r sc' ar' h => by obtain ⟨rfl, rfl, rfl⟩ := h; exact k)
theorem xg_cvV2 (X : x_X p R s m args meth c y ad D cI A cells slots) {sc2 : Nat → Int32} {ar2 : Nat → Nat → Int32} {y2 : x_M} {fr lo index : Nat} {q0 ci N : Nat} {C : String} {T : u_T} {a1 a2 : Value} (hdg : decode y.2.1 pc = .ok (.invokevirtual index, 3)) (hC : x_Con l y2 fr lo ad D cI (.ref (ad q0) :: [a1, a2]) sc ar (x_E none sc2 ar2)) (hs : x_siteV y.1.cls index C y2 2) (hrc : ∃ fs, (x_wd ad cI sc ar)[q0]? = some (ad q0, .inr (ci, fs))) (hcl : x_Cl[ci]? = some (C, T, N)) (hR : fr + 1 ≤ R.frames ∧ 8 + (y2.2.2.1 + 11) + lo ≤ R.locals) (hcat : (rest.map fun v => v.category).sum ≤ 8) (k : x_G p l e R s m args below meth c y ad D cI A cells slots Q (pc + 3) L rest sc2 ar2) : x_G p l e R s m args below meth c y ad D cI A cells slots Q pc L (a2 :: a1 :: .ref (ad q0) :: rest) sc ar :=
  xg_callV X hC hs hrc hcl rfl hR rfl hcat hdg (fun r sc' ar' h => by obtain ⟨rfl, rfl, rfl⟩ := h; exact k)
theorem xg_cS2 (X : x_X p R s m args meth c y ad D cI A cells slots) {Post : Option Value → (Nat → Int32) → (Nat → Nat → Int32) → Prop} {y2 : x_M} {fr lo index : Nat} {a1 a2 : Value} (hdg : decode y.2.1 pc = .ok (.invokestatic index, 3)) (hC : x_Con l y2 fr lo ad D cI [a1, a2] sc ar Post) (hs : x_siteS y.1.cls index y2 2) (hR : fr + 1 ≤ R.frames ∧ 8 + (y2.2.2.1 + 11) + lo ≤ R.locals) (hcat : (rest.map fun v => v.category).sum ≤ 8) (k : ∀ r sc' ar', Post r sc' ar' → x_G p l e R s m args below meth c y ad D cI A cells slots Q (pc + 3) L (r.toList ++ rest) sc' ar') : x_G p l e R s m args below meth c y ad D cI A cells slots Q pc L (a2 :: a1 :: rest) sc ar :=
  xg_callS X hC hs rfl hR rfl hcat hdg k
theorem xg_crS2 (X : x_X p R s m args meth c y ad D cI A cells slots) {v : Value} {sc2 : Nat → Int32} {ar2 : Nat → Nat → Int32} {y2 : x_M} {fr lo index : Nat} {a1 a2 : Value} (hdg : decode y.2.1 pc = .ok (.invokestatic index, 3)) (hC : x_Con l y2 fr lo ad D cI [a1, a2] sc ar (x_E (some v) sc2 ar2)) (hs : x_siteS y.1.cls index y2 2) (hR : fr + 1 ≤ R.frames ∧ 8 + (y2.2.2.1 + 11) + lo ≤ R.locals) (hcat : (rest.map fun v => v.category).sum ≤ 8) (k : x_G p l e R s m args below meth c y ad D cI A cells slots Q (pc + 3) L (v :: rest) sc2 ar2) : x_G p l e R s m args below meth c y ad D cI A cells slots Q pc L (a2 :: a1 :: rest) sc ar :=
  xg_callS X hC hs rfl hR rfl hcat hdg (fun r sc' ar' h => by obtain ⟨rfl, rfl, rfl⟩ := h; exact k)
theorem xg_cvS2 (X : x_X p R s m args meth c y ad D cI A cells slots) {sc2 : Nat → Int32} {ar2 : Nat → Nat → Int32} {y2 : x_M} {fr lo index : Nat} {a1 a2 : Value} (hdg : decode y.2.1 pc = .ok (.invokestatic index, 3)) (hC : x_Con l y2 fr lo ad D cI [a1, a2] sc ar (x_E none sc2 ar2)) (hs : x_siteS y.1.cls index y2 2) (hR : fr + 1 ≤ R.frames ∧ 8 + (y2.2.2.1 + 11) + lo ≤ R.locals) (hcat : (rest.map fun v => v.category).sum ≤ 8) (k : x_G p l e R s m args below meth c y ad D cI A cells slots Q (pc + 3) L rest sc2 ar2) : x_G p l e R s m args below meth c y ad D cI A cells slots Q pc L (a2 :: a1 :: rest) sc ar :=
  xg_callS X hC hs rfl hR rfl hcat hdg (fun r sc' ar' h => by obtain ⟨rfl, rfl, rfl⟩ := h; exact k)
theorem xg_cV3 (X : x_X p R s m args meth c y ad D cI A cells slots) {Post : Option Value → (Nat → Int32) → (Nat → Nat → Int32) → Prop} {y2 : x_M} {fr lo index : Nat} {q0 ci N : Nat} {C : String} {T : u_T} {a1 a2 a3 : Value} (hdg : decode y.2.1 pc = .ok (.invokevirtual index, 3)) (hC : x_Con l y2 fr lo ad D cI (.ref (ad q0) :: [a1, a2, a3]) sc ar Post) (hs : x_siteV y.1.cls index C y2 3) (hrc : ∃ fs, (x_wd ad cI sc ar)[q0]? = some (ad q0, .inr (ci, fs))) (hcl : x_Cl[ci]? = some (C, T, N)) (hR : fr + 1 ≤ R.frames ∧ 8 + (y2.2.2.1 + 11) + lo ≤ R.locals) (hcat : (rest.map fun v => v.category).sum ≤ 8) (k : ∀ r sc' ar', Post r sc' ar' → x_G p l e R s m args below meth c y ad D cI A cells slots Q (pc + 3) L (r.toList ++ rest) sc' ar') : x_G p l e R s m args below meth c y ad D cI A cells slots Q pc L (a3 :: a2 :: a1 :: .ref (ad q0) :: rest) sc ar :=
  xg_callV X hC hs hrc hcl rfl hR rfl hcat hdg k
theorem xg_crV3 (X : x_X p R s m args meth c y ad D cI A cells slots) {v : Value} {sc2 : Nat → Int32} {ar2 : Nat → Nat → Int32} {y2 : x_M} {fr lo index : Nat} {q0 ci N : Nat} {C : String} {T : u_T} {a1 a2 a3 : Value} (hdg : decode y.2.1 pc = .ok (.invokevirtual index, 3)) (hC : x_Con l y2 fr lo ad D cI (.ref (ad q0) :: [a1, a2, a3]) sc ar (x_E (some v) sc2 ar2)) (hs : x_siteV y.1.cls index C y2 3) (hrc : ∃ fs, (x_wd ad cI sc ar)[q0]? = some (ad q0, .inr (ci, fs))) (hcl : x_Cl[ci]? = some (C, T, N)) (hR : fr + 1 ≤ R.frames ∧ 8 + (y2.2.2.1 + 11) + lo ≤ R.locals) (hcat : (rest.map fun v => v.category).sum ≤ 8) (k : x_G p l e R s m args below meth c y ad D cI A cells slots Q (pc + 3) L (v :: rest) sc2 ar2) : x_G p l e R s m args below meth c y ad D cI A cells slots Q pc L (a3 :: a2 :: a1 :: .ref (ad q0) :: rest) sc ar :=
  xg_callV X hC hs hrc hcl rfl hR rfl hcat hdg (fun r sc' ar' h => by obtain ⟨rfl, rfl, rfl⟩ := h; exact k)
theorem xg_cvV3 (X : x_X p R s m args meth c y ad D cI A cells slots) {sc2 : Nat → Int32} {ar2 : Nat → Nat → Int32} {y2 : x_M} {fr lo index : Nat} {q0 ci N : Nat} {C : String} {T : u_T} {a1 a2 a3 : Value} (hdg : decode y.2.1 pc = .ok (.invokevirtual index, 3)) (hC : x_Con l y2 fr lo ad D cI (.ref (ad q0) :: [a1, a2, a3]) sc ar (x_E none sc2 ar2)) (hs : x_siteV y.1.cls index C y2 3) (hrc : ∃ fs, (x_wd ad cI sc ar)[q0]? = some (ad q0, .inr (ci, fs))) (hcl : x_Cl[ci]? = some (C, T, N)) (hR : fr + 1 ≤ R.frames ∧ 8 + (y2.2.2.1 + 11) + lo ≤ R.locals) (hcat : (rest.map fun v => v.category).sum ≤ 8) (k : x_G p l e R s m args below meth c y ad D cI A cells slots Q (pc + 3) L rest sc2 ar2) : x_G p l e R s m args below meth c y ad D cI A cells slots Q pc L (a3 :: a2 :: a1 :: .ref (ad q0) :: rest) sc ar :=
  xg_callV X hC hs hrc hcl rfl hR rfl hcat hdg (fun r sc' ar' h => by obtain ⟨rfl, rfl, rfl⟩ := h; exact k)
theorem xg_cS3 (X : x_X p R s m args meth c y ad D cI A cells slots) {Post : Option Value → (Nat → Int32) → (Nat → Nat → Int32) → Prop} {y2 : x_M} {fr lo index : Nat} {a1 a2 a3 : Value} (hdg : decode y.2.1 pc = .ok (.invokestatic index, 3)) (hC : x_Con l y2 fr lo ad D cI [a1, a2, a3] sc ar Post) (hs : x_siteS y.1.cls index y2 3) (hR : fr + 1 ≤ R.frames ∧ 8 + (y2.2.2.1 + 11) + lo ≤ R.locals) (hcat : (rest.map fun v => v.category).sum ≤ 8) (k : ∀ r sc' ar', Post r sc' ar' → x_G p l e R s m args below meth c y ad D cI A cells slots Q (pc + 3) L (r.toList ++ rest) sc' ar') : x_G p l e R s m args below meth c y ad D cI A cells slots Q pc L (a3 :: a2 :: a1 :: rest) sc ar :=
  xg_callS X hC hs rfl hR rfl hcat hdg k
theorem xg_crS3 (X : x_X p R s m args meth c y ad D cI A cells slots) {v : Value} {sc2 : Nat → Int32} {ar2 : Nat → Nat → Int32} {y2 : x_M} {fr lo index : Nat} {a1 a2 a3 : Value} (hdg : decode y.2.1 pc = .ok (.invokestatic index, 3)) (hC : x_Con l y2 fr lo ad D cI [a1, a2, a3] sc ar (x_E (some v) sc2 ar2)) (hs : x_siteS y.1.cls index y2 3) (hR : fr + 1 ≤ R.frames ∧ 8 + (y2.2.2.1 + 11) + lo ≤ R.locals) (hcat : (rest.map fun v => v.category).sum ≤ 8) (k : x_G p l e R s m args below meth c y ad D cI A cells slots Q (pc + 3) L (v :: rest) sc2 ar2) : x_G p l e R s m args below meth c y ad D cI A cells slots Q pc L (a3 :: a2 :: a1 :: rest) sc ar :=
  xg_callS X hC hs rfl hR rfl hcat hdg (fun r sc' ar' h => by obtain ⟨rfl, rfl, rfl⟩ := h; exact k)
theorem xg_cvS3 (X : x_X p R s m args meth c y ad D cI A cells slots) {sc2 : Nat → Int32} {ar2 : Nat → Nat → Int32} {y2 : x_M} {fr lo index : Nat} {a1 a2 a3 : Value} (hdg : decode y.2.1 pc = .ok (.invokestatic index, 3)) (hC : x_Con l y2 fr lo ad D cI [a1, a2, a3] sc ar (x_E none sc2 ar2)) (hs : x_siteS y.1.cls index y2 3) (hR : fr + 1 ≤ R.frames ∧ 8 + (y2.2.2.1 + 11) + lo ≤ R.locals) (hcat : (rest.map fun v => v.category).sum ≤ 8) (k : x_G p l e R s m args below meth c y ad D cI A cells slots Q (pc + 3) L rest sc2 ar2) : x_G p l e R s m args below meth c y ad D cI A cells slots Q pc L (a3 :: a2 :: a1 :: rest) sc ar :=
  xg_callS X hC hs rfl hR rfl hcat hdg (fun r sc' ar' h => by obtain ⟨rfl, rfl, rfl⟩ := h; exact k)
theorem xg_cV4 (X : x_X p R s m args meth c y ad D cI A cells slots) {Post : Option Value → (Nat → Int32) → (Nat → Nat → Int32) → Prop} {y2 : x_M} {fr lo index : Nat} {q0 ci N : Nat} {C : String} {T : u_T} {a1 a2 a3 a4 : Value} (hdg : decode y.2.1 pc = .ok (.invokevirtual index, 3)) (hC : x_Con l y2 fr lo ad D cI (.ref (ad q0) :: [a1, a2, a3, a4]) sc ar Post) (hs : x_siteV y.1.cls index C y2 4) (hrc : ∃ fs, (x_wd ad cI sc ar)[q0]? = some (ad q0, .inr (ci, fs))) (hcl : x_Cl[ci]? = some (C, T, N)) (hR : fr + 1 ≤ R.frames ∧ 8 + (y2.2.2.1 + 11) + lo ≤ R.locals) (hcat : (rest.map fun v => v.category).sum ≤ 8) (k : ∀ r sc' ar', Post r sc' ar' → x_G p l e R s m args below meth c y ad D cI A cells slots Q (pc + 3) L (r.toList ++ rest) sc' ar') : x_G p l e R s m args below meth c y ad D cI A cells slots Q pc L (a4 :: a3 :: a2 :: a1 :: .ref (ad q0) :: rest) sc ar :=
  xg_callV X hC hs hrc hcl rfl hR rfl hcat hdg k
theorem xg_crV4 (X : x_X p R s m args meth c y ad D cI A cells slots) {v : Value} {sc2 : Nat → Int32} {ar2 : Nat → Nat → Int32} {y2 : x_M} {fr lo index : Nat} {q0 ci N : Nat} {C : String} {T : u_T} {a1 a2 a3 a4 : Value} (hdg : decode y.2.1 pc = .ok (.invokevirtual index, 3)) (hC : x_Con l y2 fr lo ad D cI (.ref (ad q0) :: [a1, a2, a3, a4]) sc ar (x_E (some v) sc2 ar2)) (hs : x_siteV y.1.cls index C y2 4) (hrc : ∃ fs, (x_wd ad cI sc ar)[q0]? = some (ad q0, .inr (ci, fs))) (hcl : x_Cl[ci]? = some (C, T, N)) (hR : fr + 1 ≤ R.frames ∧ 8 + (y2.2.2.1 + 11) + lo ≤ R.locals) (hcat : (rest.map fun v => v.category).sum ≤ 8) (k : x_G p l e R s m args below meth c y ad D cI A cells slots Q (pc + 3) L (v :: rest) sc2 ar2) : x_G p l e R s m args below meth c y ad D cI A cells slots Q pc L (a4 :: a3 :: a2 :: a1 :: .ref (ad q0) :: rest) sc ar :=
  xg_callV X hC hs hrc hcl rfl hR rfl hcat hdg (fun r sc' ar' h => by obtain ⟨rfl, rfl, rfl⟩ := h; exact k)
theorem xg_cvV4 (X : x_X p R s m args meth c y ad D cI A cells slots) {sc2 : Nat → Int32} {ar2 : Nat → Nat → Int32} {y2 : x_M} {fr lo index : Nat} {q0 ci N : Nat} {C : String} {T : u_T} {a1 a2 a3 a4 : Value} (hdg : decode y.2.1 pc = .ok (.invokevirtual index, 3)) (hC : x_Con l y2 fr lo ad D cI (.ref (ad q0) :: [a1, a2, a3, a4]) sc ar (x_E none sc2 ar2)) (hs : x_siteV y.1.cls index C y2 4) (hrc : ∃ fs, (x_wd ad cI sc ar)[q0]? = some (ad q0, .inr (ci, fs))) (hcl : x_Cl[ci]? = some (C, T, N)) (hR : fr + 1 ≤ R.frames ∧ 8 + (y2.2.2.1 + 11) + lo ≤ R.locals) (hcat : (rest.map fun v => v.category).sum ≤ 8) (k : x_G p l e R s m args below meth c y ad D cI A cells slots Q (pc + 3) L rest sc2 ar2) : x_G p l e R s m args below meth c y ad D cI A cells slots Q pc L (a4 :: a3 :: a2 :: a1 :: .ref (ad q0) :: rest) sc ar :=
  xg_callV X hC hs hrc hcl rfl hR rfl hcat hdg (fun r sc' ar' h => by obtain ⟨rfl, rfl, rfl⟩ := h; exact k)
theorem xg_cS4 (X : x_X p R s m args meth c y ad D cI A cells slots) {Post : Option Value → (Nat → Int32) → (Nat → Nat → Int32) → Prop} {y2 : x_M} {fr lo index : Nat} {a1 a2 a3 a4 : Value} (hdg : decode y.2.1 pc = .ok (.invokestatic index, 3)) (hC : x_Con l y2 fr lo ad D cI [a1, a2, a3, a4] sc ar Post) (hs : x_siteS y.1.cls index y2 4) (hR : fr + 1 ≤ R.frames ∧ 8 + (y2.2.2.1 + 11) + lo ≤ R.locals) (hcat : (rest.map fun v => v.category).sum ≤ 8) (k : ∀ r sc' ar', Post r sc' ar' → x_G p l e R s m args below meth c y ad D cI A cells slots Q (pc + 3) L (r.toList ++ rest) sc' ar') : x_G p l e R s m args below meth c y ad D cI A cells slots Q pc L (a4 :: a3 :: a2 :: a1 :: rest) sc ar :=
  xg_callS X hC hs rfl hR rfl hcat hdg k
theorem xg_crS4 (X : x_X p R s m args meth c y ad D cI A cells slots) {v : Value} {sc2 : Nat → Int32} {ar2 : Nat → Nat → Int32} {y2 : x_M} {fr lo index : Nat} {a1 a2 a3 a4 : Value} (hdg : decode y.2.1 pc = .ok (.invokestatic index, 3)) (hC : x_Con l y2 fr lo ad D cI [a1, a2, a3, a4] sc ar (x_E (some v) sc2 ar2)) (hs : x_siteS y.1.cls index y2 4) (hR : fr + 1 ≤ R.frames ∧ 8 + (y2.2.2.1 + 11) + lo ≤ R.locals) (hcat : (rest.map fun v => v.category).sum ≤ 8) (k : x_G p l e R s m args below meth c y ad D cI A cells slots Q (pc + 3) L (v :: rest) sc2 ar2) : x_G p l e R s m args below meth c y ad D cI A cells slots Q pc L (a4 :: a3 :: a2 :: a1 :: rest) sc ar :=
  xg_callS X hC hs rfl hR rfl hcat hdg (fun r sc' ar' h => by obtain ⟨rfl, rfl, rfl⟩ := h; exact k)
theorem xg_cvS4 (X : x_X p R s m args meth c y ad D cI A cells slots) {sc2 : Nat → Int32} {ar2 : Nat → Nat → Int32} {y2 : x_M} {fr lo index : Nat} {a1 a2 a3 a4 : Value} (hdg : decode y.2.1 pc = .ok (.invokestatic index, 3)) (hC : x_Con l y2 fr lo ad D cI [a1, a2, a3, a4] sc ar (x_E none sc2 ar2)) (hs : x_siteS y.1.cls index y2 4) (hR : fr + 1 ≤ R.frames ∧ 8 + (y2.2.2.1 + 11) + lo ≤ R.locals) (hcat : (rest.map fun v => v.category).sum ≤ 8) (k : x_G p l e R s m args below meth c y ad D cI A cells slots Q (pc + 3) L rest sc2 ar2) : x_G p l e R s m args below meth c y ad D cI A cells slots Q pc L (a4 :: a3 :: a2 :: a1 :: rest) sc ar :=
  xg_callS X hC hs rfl hR rfl hcat hdg (fun r sc' ar' h => by obtain ⟨rfl, rfl, rfl⟩ := h; exact k)
theorem xg_cV5 (X : x_X p R s m args meth c y ad D cI A cells slots) {Post : Option Value → (Nat → Int32) → (Nat → Nat → Int32) → Prop} {y2 : x_M} {fr lo index : Nat} {q0 ci N : Nat} {C : String} {T : u_T} {a1 a2 a3 a4 a5 : Value} (hdg : decode y.2.1 pc = .ok (.invokevirtual index, 3)) (hC : x_Con l y2 fr lo ad D cI (.ref (ad q0) :: [a1, a2, a3, a4, a5]) sc ar Post) (hs : x_siteV y.1.cls index C y2 5) (hrc : ∃ fs, (x_wd ad cI sc ar)[q0]? = some (ad q0, .inr (ci, fs))) (hcl : x_Cl[ci]? = some (C, T, N)) (hR : fr + 1 ≤ R.frames ∧ 8 + (y2.2.2.1 + 11) + lo ≤ R.locals) (hcat : (rest.map fun v => v.category).sum ≤ 8) (k : ∀ r sc' ar', Post r sc' ar' → x_G p l e R s m args below meth c y ad D cI A cells slots Q (pc + 3) L (r.toList ++ rest) sc' ar') : x_G p l e R s m args below meth c y ad D cI A cells slots Q pc L (a5 :: a4 :: a3 :: a2 :: a1 :: .ref (ad q0) :: rest) sc ar :=
  xg_callV X hC hs hrc hcl rfl hR rfl hcat hdg k
theorem xg_crV5 (X : x_X p R s m args meth c y ad D cI A cells slots) {v : Value} {sc2 : Nat → Int32} {ar2 : Nat → Nat → Int32} {y2 : x_M} {fr lo index : Nat} {q0 ci N : Nat} {C : String} {T : u_T} {a1 a2 a3 a4 a5 : Value} (hdg : decode y.2.1 pc = .ok (.invokevirtual index, 3)) (hC : x_Con l y2 fr lo ad D cI (.ref (ad q0) :: [a1, a2, a3, a4, a5]) sc ar (x_E (some v) sc2 ar2)) (hs : x_siteV y.1.cls index C y2 5) (hrc : ∃ fs, (x_wd ad cI sc ar)[q0]? = some (ad q0, .inr (ci, fs))) (hcl : x_Cl[ci]? = some (C, T, N)) (hR : fr + 1 ≤ R.frames ∧ 8 + (y2.2.2.1 + 11) + lo ≤ R.locals) (hcat : (rest.map fun v => v.category).sum ≤ 8) (k : x_G p l e R s m args below meth c y ad D cI A cells slots Q (pc + 3) L (v :: rest) sc2 ar2) : x_G p l e R s m args below meth c y ad D cI A cells slots Q pc L (a5 :: a4 :: a3 :: a2 :: a1 :: .ref (ad q0) :: rest) sc ar :=
  xg_callV X hC hs hrc hcl rfl hR rfl hcat hdg (fun r sc' ar' h => by obtain ⟨rfl, rfl, rfl⟩ := h; exact k)
theorem xg_cvV5 (X : x_X p R s m args meth c y ad D cI A cells slots) {sc2 : Nat → Int32} {ar2 : Nat → Nat → Int32} {y2 : x_M} {fr lo index : Nat} {q0 ci N : Nat} {C : String} {T : u_T} {a1 a2 a3 a4 a5 : Value} (hdg : decode y.2.1 pc = .ok (.invokevirtual index, 3)) (hC : x_Con l y2 fr lo ad D cI (.ref (ad q0) :: [a1, a2, a3, a4, a5]) sc ar (x_E none sc2 ar2)) (hs : x_siteV y.1.cls index C y2 5) (hrc : ∃ fs, (x_wd ad cI sc ar)[q0]? = some (ad q0, .inr (ci, fs))) (hcl : x_Cl[ci]? = some (C, T, N)) (hR : fr + 1 ≤ R.frames ∧ 8 + (y2.2.2.1 + 11) + lo ≤ R.locals) (hcat : (rest.map fun v => v.category).sum ≤ 8) (k : x_G p l e R s m args below meth c y ad D cI A cells slots Q (pc + 3) L rest sc2 ar2) : x_G p l e R s m args below meth c y ad D cI A cells slots Q pc L (a5 :: a4 :: a3 :: a2 :: a1 :: .ref (ad q0) :: rest) sc ar :=
  xg_callV X hC hs hrc hcl rfl hR rfl hcat hdg (fun r sc' ar' h => by obtain ⟨rfl, rfl, rfl⟩ := h; exact k)
theorem xg_cS5 (X : x_X p R s m args meth c y ad D cI A cells slots) {Post : Option Value → (Nat → Int32) → (Nat → Nat → Int32) → Prop} {y2 : x_M} {fr lo index : Nat} {a1 a2 a3 a4 a5 : Value} (hdg : decode y.2.1 pc = .ok (.invokestatic index, 3)) (hC : x_Con l y2 fr lo ad D cI [a1, a2, a3, a4, a5] sc ar Post) (hs : x_siteS y.1.cls index y2 5) (hR : fr + 1 ≤ R.frames ∧ 8 + (y2.2.2.1 + 11) + lo ≤ R.locals) (hcat : (rest.map fun v => v.category).sum ≤ 8) (k : ∀ r sc' ar', Post r sc' ar' → x_G p l e R s m args below meth c y ad D cI A cells slots Q (pc + 3) L (r.toList ++ rest) sc' ar') : x_G p l e R s m args below meth c y ad D cI A cells slots Q pc L (a5 :: a4 :: a3 :: a2 :: a1 :: rest) sc ar :=
  xg_callS X hC hs rfl hR rfl hcat hdg k
theorem xg_crS5 (X : x_X p R s m args meth c y ad D cI A cells slots) {v : Value} {sc2 : Nat → Int32} {ar2 : Nat → Nat → Int32} {y2 : x_M} {fr lo index : Nat} {a1 a2 a3 a4 a5 : Value} (hdg : decode y.2.1 pc = .ok (.invokestatic index, 3)) (hC : x_Con l y2 fr lo ad D cI [a1, a2, a3, a4, a5] sc ar (x_E (some v) sc2 ar2)) (hs : x_siteS y.1.cls index y2 5) (hR : fr + 1 ≤ R.frames ∧ 8 + (y2.2.2.1 + 11) + lo ≤ R.locals) (hcat : (rest.map fun v => v.category).sum ≤ 8) (k : x_G p l e R s m args below meth c y ad D cI A cells slots Q (pc + 3) L (v :: rest) sc2 ar2) : x_G p l e R s m args below meth c y ad D cI A cells slots Q pc L (a5 :: a4 :: a3 :: a2 :: a1 :: rest) sc ar :=
  xg_callS X hC hs rfl hR rfl hcat hdg (fun r sc' ar' h => by obtain ⟨rfl, rfl, rfl⟩ := h; exact k)
theorem xg_cvS5 (X : x_X p R s m args meth c y ad D cI A cells slots) {sc2 : Nat → Int32} {ar2 : Nat → Nat → Int32} {y2 : x_M} {fr lo index : Nat} {a1 a2 a3 a4 a5 : Value} (hdg : decode y.2.1 pc = .ok (.invokestatic index, 3)) (hC : x_Con l y2 fr lo ad D cI [a1, a2, a3, a4, a5] sc ar (x_E none sc2 ar2)) (hs : x_siteS y.1.cls index y2 5) (hR : fr + 1 ≤ R.frames ∧ 8 + (y2.2.2.1 + 11) + lo ≤ R.locals) (hcat : (rest.map fun v => v.category).sum ≤ 8) (k : x_G p l e R s m args below meth c y ad D cI A cells slots Q (pc + 3) L rest sc2 ar2) : x_G p l e R s m args below meth c y ad D cI A cells slots Q pc L (a5 :: a4 :: a3 :: a2 :: a1 :: rest) sc ar :=
  xg_callS X hC hs rfl hR rfl hcat hdg (fun r sc' ar' h => by obtain ⟨rfl, rfl, rfl⟩ := h; exact k)
theorem xg_labs (X : x_X p R s m args meth c y ad D cI A cells slots) {index : Nat} {x : Int64} (hdg : decode y.2.1 pc = .ok (.invokestatic index, 3)) (hs : x_good [Cond.methodLink y.1.cls index Lib.MathLoose.abs_long.x, Cond.static Lib.MathLoose.abs_long.x, Cond.initialized "java/lang/Math", Cond.code Lib.MathLoose.abs_long.x Lib.MathLoose.abs_long.code 2 (some .long)] = true) (hR : 1 ≤ R.frames ∧ (rest.map fun v => v.category).sum + 13 ≤ R.locals) (k : x_G p l e R s m args below meth c y ad D cI A cells slots Q (pc + 3) L (.long (if 0 < x then x else -x) :: rest) sc ar) : x_G p l e R s m args below meth c y ad D cI A cells slots Q pc L (.long x :: rest) sc ar := by
  intro H locs ls hl hP hS
  have h := goodIn_of _ hs
  exact va_mabs_long X.ex X.cd (X.ml.trans hl.1.symm) X.own (X.ts _ (h _ (by simp)).1) (X.ts _ (h _ (by simp)).1) (X.ts _ (h _ (by simp)).1) (X.ts _ (h _ (by simp)).1) hR.1 hR.2 X.cl.1 X.cl.2 hdg (k H locs ls hl hP hS)
end XR
theorem x_inc {n : Int} {v : Int32} (h : Int32.ofInt n = v) (x : Int32) : x + Int32.ofInt n = x + v := by rw [h]
def x_b (P : Prop) [Decidable P] : Int32 := if P then 1 else 0
def x_st (j : Nat) : Int32 := if j = 0 then 1 else 16
theorem x_bt {P : Prop} [Decidable P] (h : P) : x_b P = 1 := if_pos h
theorem x_bf {P : Prop} [Decidable P] (h : ¬ P) : x_b P = 0 := if_neg h
theorem x_b0 {P : Prop} [Decidable P] (h : x_b P = 0) : ¬ P := fun hp => by
  rw [x_bt hp] at h
  exact absurd h (by decide)
theorem x_bn {P : Prop} [Decidable P] (h : ¬ x_b P = 0) : P := Classical.byContradiction fun hp => h (x_bf hp)
theorem x_b01 {P : Prop} [Decidable P] : x_b P = 0 ∨ x_b P = 1 := by
  by_cases h : P
  · exact Or.inr (x_bt h)
  · exact Or.inl (x_bf h)
theorem x_nb {P : Prop} [Decidable P] : narrow .boolean (.int (x_b P)) = .int (x_b P) := by
  by_cases h : P
  · rw [x_bt h]; rfl
  · rw [x_bf h]; rfl
theorem x_ret1 {P : Prop} [Decidable P] {sc : Nat → Int32} {ar : Nat → Nat → Int32} (h : P) : x_E (some (.int (x_b P))) sc ar (some (.int 1)) sc ar := ⟨by rw [x_bt h], rfl, rfl⟩
theorem x_ret0 {P : Prop} [Decidable P] {sc : Nat → Int32} {ar : Nat → Nat → Int32} (h : ¬ P) : x_E (some (.int (x_b P))) sc ar (some (.int 0)) sc ar := ⟨by rw [x_bf h], rfl, rfl⟩
theorem x_rcS {ad : Nat → Nat} {cI : ClassId} {sc : Nat → Int32} {ar : Nat → Nat → Int32} {j : Nat} (hj : j < 2) : ∃ fs, (x_wd ad cI sc ar)[j + 2]? = some (ad (j + 2), .inr (1, fs)) := by
  match j, hj with
  | 0, _ => exact ⟨_, rfl⟩
  | 1, _ => exact ⟨_, rfl⟩
end
section
section XF
variable {p : Program} {l : Launch} {e : Env} {R : Room} {s : State} {m : MethodId} {args : Array Value} {below : List Frame} {meth : Method} {c : Code} {y : x_M} {ad : Nat → Nat} {D : va_G} {cI : ClassId} {A : Nat → Prop} {cells slots : Nat} {Q : State → Prop} {pc : Nat} {L : List (Option Value)} {rest : List Value} {sc : Nat → Int32} {ar : Nat → Nat → Int32}
theorem lk_L_9 : Cond.fieldLink R_L 9 (F_L 0).1 (F_L 0).2.1 (F_L 0).2.2.1 ∈ x_tb := by decide +kernel
theorem xf_L_9 (X : x_X p R s m args meth c y ad D cI A cells slots) (hy : y.1.cls = R_L) (hdg : decode y.2.1 pc = .ok (.getfield 9, 3)) (kk : x_G p l e R s m args below meth c y ad D cI A cells slots Q (pc + 3) L (.ref (ad 6) :: rest) sc ar) : x_G p l e R s m args below meth c y ad D cI A cells slots Q pc L (.ref (ad 4) :: rest) sc ar :=
  xg_get X (q0 := 4) (k := 0) rfl rfl in_L (by decide) (hy ▸ lk_L_9) rfl hdg kk
theorem lk_L_15 : Cond.fieldLink R_L 15 (F_L 1).1 (F_L 1).2.1 (F_L 1).2.2.1 ∈ x_tb := by decide +kernel
theorem xf_L_15 (X : x_X p R s m args meth c y ad D cI A cells slots) (hy : y.1.cls = R_L) (hdg : decode y.2.1 pc = .ok (.getfield 15, 3)) (kk : x_G p l e R s m args below meth c y ad D cI A cells slots Q (pc + 3) L (.int (sc 6) :: rest) sc ar) : x_G p l e R s m args below meth c y ad D cI A cells slots Q pc L (.ref (ad 4) :: rest) sc ar :=
  xg_get X (q0 := 4) (k := 1) rfl rfl in_L (by decide) (hy ▸ lk_L_15) rfl hdg kk
theorem xp_L_15 (X : x_X p R s m args meth c y ad D cI A cells slots) {v : Int32} (hy : y.1.cls = R_L) (hdg : decode y.2.1 pc = .ok (.putfield 15, 3)) (kk : x_G p l e R s m args below meth c y ad D cI A cells slots Q (pc + 3) L rest (upd sc 6 v) ar) : x_G p l e R s m args below meth c y ad D cI A cells slots Q pc L (.int v :: .ref (ad 4) :: rest) sc ar :=
  xg_put X (q0 := 4) (k := 1) (ty := .int) (ty0 := ft_L) (sc' := upd sc 6 v) rfl rfl in_L ft_L_ok n_L (by decide) (hy ▸ lk_L_15) rfl (by decide +kernel) rfl rfl (Nat.le_of_ble_eq_true rfl) rfl hdg kk
theorem lk_L_19 : Cond.fieldLink R_L 19 (F_L 2).1 (F_L 2).2.1 (F_L 2).2.2.1 ∈ x_tb := by decide +kernel
theorem xf_L_19 (X : x_X p R s m args meth c y ad D cI A cells slots) (hy : y.1.cls = R_L) (hdg : decode y.2.1 pc = .ok (.getfield 19, 3)) (kk : x_G p l e R s m args below meth c y ad D cI A cells slots Q (pc + 3) L (.int (sc 7) :: rest) sc ar) : x_G p l e R s m args below meth c y ad D cI A cells slots Q pc L (.ref (ad 4) :: rest) sc ar :=
  xg_get X (q0 := 4) (k := 2) rfl rfl in_L (by decide) (hy ▸ lk_L_19) rfl hdg kk
theorem xp_L_19 (X : x_X p R s m args meth c y ad D cI A cells slots) {v : Int32} (hy : y.1.cls = R_L) (hdg : decode y.2.1 pc = .ok (.putfield 19, 3)) (kk : x_G p l e R s m args below meth c y ad D cI A cells slots Q (pc + 3) L rest (upd sc 7 v) ar) : x_G p l e R s m args below meth c y ad D cI A cells slots Q pc L (.int v :: .ref (ad 4) :: rest) sc ar :=
  xg_put X (q0 := 4) (k := 2) (ty := .int) (ty0 := ft_L) (sc' := upd sc 7 v) rfl rfl in_L ft_L_ok n_L (by decide) (hy ▸ lk_L_19) rfl (by decide +kernel) rfl rfl (Nat.le_of_ble_eq_true rfl) rfl hdg kk
theorem lk_R_7 : Cond.fieldLink R_R 7 (F_R 7).1 (F_R 7).2.1 (F_R 7).2.2.1 ∈ x_tb := by decide +kernel
theorem xf_R_7 (X : x_X p R s m args meth c y ad D cI A cells slots) (hy : y.1.cls = R_R) (hdg : decode y.2.1 pc = .ok (.getfield 7, 3)) (kk : x_G p l e R s m args below meth c y ad D cI A cells slots Q (pc + 3) L (.ref (ad 8) :: rest) sc ar) : x_G p l e R s m args below meth c y ad D cI A cells slots Q pc L (.ref (ad 7) :: rest) sc ar :=
  xg_get X (q0 := 7) (k := 7) rfl rfl in_R (by decide) (hy ▸ lk_R_7) rfl hdg kk
theorem lk_R_13 : Cond.fieldLink R_R 13 (F_R 8).1 (F_R 8).2.1 (F_R 8).2.2.1 ∈ x_tb := by decide +kernel
theorem xf_R_13 (X : x_X p R s m args meth c y ad D cI A cells slots) (hy : y.1.cls = R_R) (hdg : decode y.2.1 pc = .ok (.getfield 13, 3)) (kk : x_G p l e R s m args below meth c y ad D cI A cells slots Q (pc + 3) L (.ref (ad 9) :: rest) sc ar) : x_G p l e R s m args below meth c y ad D cI A cells slots Q pc L (.ref (ad 7) :: rest) sc ar :=
  xg_get X (q0 := 7) (k := 8) rfl rfl in_R (by decide) (hy ▸ lk_R_13) rfl hdg kk
theorem lk_R_16 : Cond.fieldLink R_R 16 (F_R 12).1 (F_R 12).2.1 (F_R 12).2.2.1 ∈ x_tb := by decide +kernel
theorem xf_R_16 (X : x_X p R s m args meth c y ad D cI A cells slots) (hy : y.1.cls = R_R) (hdg : decode y.2.1 pc = .ok (.getfield 16, 3)) (kk : x_G p l e R s m args below meth c y ad D cI A cells slots Q (pc + 3) L (.ref (ad 10) :: rest) sc ar) : x_G p l e R s m args below meth c y ad D cI A cells slots Q pc L (.ref (ad 7) :: rest) sc ar :=
  xg_get X (q0 := 7) (k := 12) rfl rfl in_R (by decide) (hy ▸ lk_R_16) rfl hdg kk
theorem lk_R_19 : Cond.fieldLink R_R 19 (F_R 13).1 (F_R 13).2.1 (F_R 13).2.2.1 ∈ x_tb := by decide +kernel
theorem xf_R_19 (X : x_X p R s m args meth c y ad D cI A cells slots) (hy : y.1.cls = R_R) (hdg : decode y.2.1 pc = .ok (.getfield 19, 3)) (kk : x_G p l e R s m args below meth c y ad D cI A cells slots Q (pc + 3) L (.ref (ad 11) :: rest) sc ar) : x_G p l e R s m args below meth c y ad D cI A cells slots Q pc L (.ref (ad 7) :: rest) sc ar :=
  xg_get X (q0 := 7) (k := 13) rfl rfl in_R (by decide) (hy ▸ lk_R_19) rfl hdg kk
theorem lk_R_22 : Cond.fieldLink R_R 22 (F_R 0).1 (F_R 0).2.1 (F_R 0).2.2.1 ∈ x_tb := by decide +kernel
theorem xf_R_22 (X : x_X p R s m args meth c y ad D cI A cells slots) (hy : y.1.cls = R_R) (hdg : decode y.2.1 pc = .ok (.getfield 22, 3)) (kk : x_G p l e R s m args below meth c y ad D cI A cells slots Q (pc + 3) L (.int (sc 8) :: rest) sc ar) : x_G p l e R s m args below meth c y ad D cI A cells slots Q pc L (.ref (ad 7) :: rest) sc ar :=
  xg_get X (q0 := 7) (k := 0) rfl rfl in_R (by decide) (hy ▸ lk_R_22) rfl hdg kk
theorem xp_R_22 (X : x_X p R s m args meth c y ad D cI A cells slots) {v : Int32} (hy : y.1.cls = R_R) (hdg : decode y.2.1 pc = .ok (.putfield 22, 3)) (hb : v = 0 ∨ v = 1) (kk : x_G p l e R s m args below meth c y ad D cI A cells slots Q (pc + 3) L rest (upd sc 8 v) ar) : x_G p l e R s m args below meth c y ad D cI A cells slots Q pc L (.int v :: .ref (ad 7) :: rest) sc ar :=
  xg_put X (q0 := 7) (k := 0) (ty := .boolean) (ty0 := ft_R) (sc' := upd sc 8 v) rfl rfl in_R ft_R_ok n_R (by decide) (hy ▸ lk_R_22) rfl (by decide +kernel) (by rcases hb with rfl | rfl <;> rfl) (by rcases hb with rfl | rfl <;> rfl) (Nat.le_of_ble_eq_true rfl) rfl hdg kk
theorem lk_R_26 : Cond.fieldLink R_R 26 (F_R 1).1 (F_R 1).2.1 (F_R 1).2.2.1 ∈ x_tb := by decide +kernel
theorem xf_R_26 (X : x_X p R s m args meth c y ad D cI A cells slots) (hy : y.1.cls = R_R) (hdg : decode y.2.1 pc = .ok (.getfield 26, 3)) (kk : x_G p l e R s m args below meth c y ad D cI A cells slots Q (pc + 3) L (.int (sc 9) :: rest) sc ar) : x_G p l e R s m args below meth c y ad D cI A cells slots Q pc L (.ref (ad 7) :: rest) sc ar :=
  xg_get X (q0 := 7) (k := 1) rfl rfl in_R (by decide) (hy ▸ lk_R_26) rfl hdg kk
theorem xp_R_26 (X : x_X p R s m args meth c y ad D cI A cells slots) {v : Int32} (hy : y.1.cls = R_R) (hdg : decode y.2.1 pc = .ok (.putfield 26, 3)) (kk : x_G p l e R s m args below meth c y ad D cI A cells slots Q (pc + 3) L rest (upd sc 9 v) ar) : x_G p l e R s m args below meth c y ad D cI A cells slots Q pc L (.int v :: .ref (ad 7) :: rest) sc ar :=
  xg_put X (q0 := 7) (k := 1) (ty := .int) (ty0 := ft_R) (sc' := upd sc 9 v) rfl rfl in_R ft_R_ok n_R (by decide) (hy ▸ lk_R_26) rfl (by decide +kernel) rfl rfl (Nat.le_of_ble_eq_true rfl) rfl hdg kk
theorem lk_R_30 : Cond.fieldLink R_R 30 (F_R 3).1 (F_R 3).2.1 (F_R 3).2.2.1 ∈ x_tb := by decide +kernel
theorem xf_R_30 (X : x_X p R s m args meth c y ad D cI A cells slots) (hy : y.1.cls = R_R) (hdg : decode y.2.1 pc = .ok (.getfield 30, 3)) (kk : x_G p l e R s m args below meth c y ad D cI A cells slots Q (pc + 3) L (.int (sc 11) :: rest) sc ar) : x_G p l e R s m args below meth c y ad D cI A cells slots Q pc L (.ref (ad 7) :: rest) sc ar :=
  xg_get X (q0 := 7) (k := 3) rfl rfl in_R (by decide) (hy ▸ lk_R_30) rfl hdg kk
theorem xp_R_30 (X : x_X p R s m args meth c y ad D cI A cells slots) {v : Int32} (hy : y.1.cls = R_R) (hdg : decode y.2.1 pc = .ok (.putfield 30, 3)) (kk : x_G p l e R s m args below meth c y ad D cI A cells slots Q (pc + 3) L rest (upd sc 11 v) ar) : x_G p l e R s m args below meth c y ad D cI A cells slots Q pc L (.int v :: .ref (ad 7) :: rest) sc ar :=
  xg_put X (q0 := 7) (k := 3) (ty := .int) (ty0 := ft_R) (sc' := upd sc 11 v) rfl rfl in_R ft_R_ok n_R (by decide) (hy ▸ lk_R_30) rfl (by decide +kernel) rfl rfl (Nat.le_of_ble_eq_true rfl) rfl hdg kk
theorem lk_R_33 : Cond.fieldLink R_R 33 (F_R 2).1 (F_R 2).2.1 (F_R 2).2.2.1 ∈ x_tb := by decide +kernel
theorem xf_R_33 (X : x_X p R s m args meth c y ad D cI A cells slots) (hy : y.1.cls = R_R) (hdg : decode y.2.1 pc = .ok (.getfield 33, 3)) (kk : x_G p l e R s m args below meth c y ad D cI A cells slots Q (pc + 3) L (.int (sc 10) :: rest) sc ar) : x_G p l e R s m args below meth c y ad D cI A cells slots Q pc L (.ref (ad 7) :: rest) sc ar :=
  xg_get X (q0 := 7) (k := 2) rfl rfl in_R (by decide) (hy ▸ lk_R_33) rfl hdg kk
theorem xp_R_33 (X : x_X p R s m args meth c y ad D cI A cells slots) {v : Int32} (hy : y.1.cls = R_R) (hdg : decode y.2.1 pc = .ok (.putfield 33, 3)) (kk : x_G p l e R s m args below meth c y ad D cI A cells slots Q (pc + 3) L rest (upd sc 10 v) ar) : x_G p l e R s m args below meth c y ad D cI A cells slots Q pc L (.int v :: .ref (ad 7) :: rest) sc ar :=
  xg_put X (q0 := 7) (k := 2) (ty := .int) (ty0 := ft_R) (sc' := upd sc 10 v) rfl rfl in_R ft_R_ok n_R (by decide) (hy ▸ lk_R_33) rfl (by decide +kernel) rfl rfl (Nat.le_of_ble_eq_true rfl) rfl hdg kk
theorem lk_R_36 : Cond.fieldLink R_R 36 (F_R 4).1 (F_R 4).2.1 (F_R 4).2.2.1 ∈ x_tb := by decide +kernel
theorem xf_R_36 (X : x_X p R s m args meth c y ad D cI A cells slots) (hy : y.1.cls = R_R) (hdg : decode y.2.1 pc = .ok (.getfield 36, 3)) (kk : x_G p l e R s m args below meth c y ad D cI A cells slots Q (pc + 3) L (.int (sc 12) :: rest) sc ar) : x_G p l e R s m args below meth c y ad D cI A cells slots Q pc L (.ref (ad 7) :: rest) sc ar :=
  xg_get X (q0 := 7) (k := 4) rfl rfl in_R (by decide) (hy ▸ lk_R_36) rfl hdg kk
theorem xp_R_36 (X : x_X p R s m args meth c y ad D cI A cells slots) {v : Int32} (hy : y.1.cls = R_R) (hdg : decode y.2.1 pc = .ok (.putfield 36, 3)) (kk : x_G p l e R s m args below meth c y ad D cI A cells slots Q (pc + 3) L rest (upd sc 12 v) ar) : x_G p l e R s m args below meth c y ad D cI A cells slots Q pc L (.int v :: .ref (ad 7) :: rest) sc ar :=
  xg_put X (q0 := 7) (k := 4) (ty := .int) (ty0 := ft_R) (sc' := upd sc 12 v) rfl rfl in_R ft_R_ok n_R (by decide) (hy ▸ lk_R_36) rfl (by decide +kernel) rfl rfl (Nat.le_of_ble_eq_true rfl) rfl hdg kk
theorem lk_R_39 : Cond.fieldLink R_R 39 (F_R 5).1 (F_R 5).2.1 (F_R 5).2.2.1 ∈ x_tb := by decide +kernel
theorem xf_R_39 (X : x_X p R s m args meth c y ad D cI A cells slots) (hy : y.1.cls = R_R) (hdg : decode y.2.1 pc = .ok (.getfield 39, 3)) (kk : x_G p l e R s m args below meth c y ad D cI A cells slots Q (pc + 3) L (.int (sc 13) :: rest) sc ar) : x_G p l e R s m args below meth c y ad D cI A cells slots Q pc L (.ref (ad 7) :: rest) sc ar :=
  xg_get X (q0 := 7) (k := 5) rfl rfl in_R (by decide) (hy ▸ lk_R_39) rfl hdg kk
theorem xp_R_39 (X : x_X p R s m args meth c y ad D cI A cells slots) {v : Int32} (hy : y.1.cls = R_R) (hdg : decode y.2.1 pc = .ok (.putfield 39, 3)) (hb : v = 0 ∨ v = 1) (kk : x_G p l e R s m args below meth c y ad D cI A cells slots Q (pc + 3) L rest (upd sc 13 v) ar) : x_G p l e R s m args below meth c y ad D cI A cells slots Q pc L (.int v :: .ref (ad 7) :: rest) sc ar :=
  xg_put X (q0 := 7) (k := 5) (ty := .boolean) (ty0 := ft_R) (sc' := upd sc 13 v) rfl rfl in_R ft_R_ok n_R (by decide) (hy ▸ lk_R_39) rfl (by decide +kernel) (by rcases hb with rfl | rfl <;> rfl) (by rcases hb with rfl | rfl <;> rfl) (Nat.le_of_ble_eq_true rfl) rfl hdg kk
theorem lk_R_42 : Cond.fieldLink R_R 42 (F_R 6).1 (F_R 6).2.1 (F_R 6).2.2.1 ∈ x_tb := by decide +kernel
theorem xf_R_42 (X : x_X p R s m args meth c y ad D cI A cells slots) (hy : y.1.cls = R_R) (hdg : decode y.2.1 pc = .ok (.getfield 42, 3)) (kk : x_G p l e R s m args below meth c y ad D cI A cells slots Q (pc + 3) L (.int (sc 14) :: rest) sc ar) : x_G p l e R s m args below meth c y ad D cI A cells slots Q pc L (.ref (ad 7) :: rest) sc ar :=
  xg_get X (q0 := 7) (k := 6) rfl rfl in_R (by decide) (hy ▸ lk_R_42) rfl hdg kk
theorem xp_R_42 (X : x_X p R s m args meth c y ad D cI A cells slots) {v : Int32} (hy : y.1.cls = R_R) (hdg : decode y.2.1 pc = .ok (.putfield 42, 3)) (kk : x_G p l e R s m args below meth c y ad D cI A cells slots Q (pc + 3) L rest (upd sc 14 v) ar) : x_G p l e R s m args below meth c y ad D cI A cells slots Q pc L (.int v :: .ref (ad 7) :: rest) sc ar :=
  xg_put X (q0 := 7) (k := 6) (ty := .int) (ty0 := ft_R) (sc' := upd sc 14 v) rfl rfl in_R ft_R_ok n_R (by decide) (hy ▸ lk_R_42) rfl (by decide +kernel) rfl rfl (Nat.le_of_ble_eq_true rfl) rfl hdg kk
theorem lk_R_57 : Cond.fieldLink R_R 57 (F_R 9).1 (F_R 9).2.1 (F_R 9).2.2.1 ∈ x_tb := by decide +kernel
theorem xf_R_57 (X : x_X p R s m args meth c y ad D cI A cells slots) (hy : y.1.cls = R_R) (hdg : decode y.2.1 pc = .ok (.getfield 57, 3)) (kk : x_G p l e R s m args below meth c y ad D cI A cells slots Q (pc + 3) L (.int (sc 15) :: rest) sc ar) : x_G p l e R s m args below meth c y ad D cI A cells slots Q pc L (.ref (ad 7) :: rest) sc ar :=
  xg_get X (q0 := 7) (k := 9) rfl rfl in_R (by decide) (hy ▸ lk_R_57) rfl hdg kk
theorem xp_R_57 (X : x_X p R s m args meth c y ad D cI A cells slots) {v : Int32} (hy : y.1.cls = R_R) (hdg : decode y.2.1 pc = .ok (.putfield 57, 3)) (kk : x_G p l e R s m args below meth c y ad D cI A cells slots Q (pc + 3) L rest (upd sc 15 v) ar) : x_G p l e R s m args below meth c y ad D cI A cells slots Q pc L (.int v :: .ref (ad 7) :: rest) sc ar :=
  xg_put X (q0 := 7) (k := 9) (ty := .int) (ty0 := ft_R) (sc' := upd sc 15 v) rfl rfl in_R ft_R_ok n_R (by decide) (hy ▸ lk_R_57) rfl (by decide +kernel) rfl rfl (Nat.le_of_ble_eq_true rfl) rfl hdg kk
theorem lk_R_60 : Cond.fieldLink R_R 60 (F_R 10).1 (F_R 10).2.1 (F_R 10).2.2.1 ∈ x_tb := by decide +kernel
theorem xf_R_60 (X : x_X p R s m args meth c y ad D cI A cells slots) (hy : y.1.cls = R_R) (hdg : decode y.2.1 pc = .ok (.getfield 60, 3)) (kk : x_G p l e R s m args below meth c y ad D cI A cells slots Q (pc + 3) L (.int (sc 16) :: rest) sc ar) : x_G p l e R s m args below meth c y ad D cI A cells slots Q pc L (.ref (ad 7) :: rest) sc ar :=
  xg_get X (q0 := 7) (k := 10) rfl rfl in_R (by decide) (hy ▸ lk_R_60) rfl hdg kk
theorem xp_R_60 (X : x_X p R s m args meth c y ad D cI A cells slots) {v : Int32} (hy : y.1.cls = R_R) (hdg : decode y.2.1 pc = .ok (.putfield 60, 3)) (kk : x_G p l e R s m args below meth c y ad D cI A cells slots Q (pc + 3) L rest (upd sc 16 v) ar) : x_G p l e R s m args below meth c y ad D cI A cells slots Q pc L (.int v :: .ref (ad 7) :: rest) sc ar :=
  xg_put X (q0 := 7) (k := 10) (ty := .int) (ty0 := ft_R) (sc' := upd sc 16 v) rfl rfl in_R ft_R_ok n_R (by decide) (hy ▸ lk_R_60) rfl (by decide +kernel) rfl rfl (Nat.le_of_ble_eq_true rfl) rfl hdg kk
theorem lk_R_67 : Cond.fieldLink R_R 67 (F_R 11).1 (F_R 11).2.1 (F_R 11).2.2.1 ∈ x_tb := by decide +kernel
theorem xf_R_67 (X : x_X p R s m args meth c y ad D cI A cells slots) (hy : y.1.cls = R_R) (hdg : decode y.2.1 pc = .ok (.getfield 67, 3)) (kk : x_G p l e R s m args below meth c y ad D cI A cells slots Q (pc + 3) L (.int (sc 17) :: rest) sc ar) : x_G p l e R s m args below meth c y ad D cI A cells slots Q pc L (.ref (ad 7) :: rest) sc ar :=
  xg_get X (q0 := 7) (k := 11) rfl rfl in_R (by decide) (hy ▸ lk_R_67) rfl hdg kk
theorem xp_R_67 (X : x_X p R s m args meth c y ad D cI A cells slots) {v : Int32} (hy : y.1.cls = R_R) (hdg : decode y.2.1 pc = .ok (.putfield 67, 3)) (kk : x_G p l e R s m args below meth c y ad D cI A cells slots Q (pc + 3) L rest (upd sc 17 v) ar) : x_G p l e R s m args below meth c y ad D cI A cells slots Q pc L (.int v :: .ref (ad 7) :: rest) sc ar :=
  xg_put X (q0 := 7) (k := 11) (ty := .int) (ty0 := ft_R) (sc' := upd sc 17 v) rfl rfl in_R ft_R_ok n_R (by decide) (hy ▸ lk_R_67) rfl (by decide +kernel) rfl rfl (Nat.le_of_ble_eq_true rfl) rfl hdg kk
theorem lk_S_7 : Cond.fieldLink R_S 7 (F_S 0).1 (F_S 0).2.1 (F_S 0).2.2.1 ∈ x_tb := by decide +kernel
theorem xf_S_7_2 (X : x_X p R s m args meth c y ad D cI A cells slots) (hy : y.1.cls = R_S) (hdg : decode y.2.1 pc = .ok (.getfield 7, 3)) (kk : x_G p l e R s m args below meth c y ad D cI A cells slots Q (pc + 3) L (.int 1 :: rest) sc ar) : x_G p l e R s m args below meth c y ad D cI A cells slots Q pc L (.ref (ad 2) :: rest) sc ar :=
  xg_get X (q0 := 2) (k := 0) rfl rfl in_S (by decide) (hy ▸ lk_S_7) rfl hdg kk
theorem xf_S_7_3 (X : x_X p R s m args meth c y ad D cI A cells slots) (hy : y.1.cls = R_S) (hdg : decode y.2.1 pc = .ok (.getfield 7, 3)) (kk : x_G p l e R s m args below meth c y ad D cI A cells slots Q (pc + 3) L (.int 16 :: rest) sc ar) : x_G p l e R s m args below meth c y ad D cI A cells slots Q pc L (.ref (ad 3) :: rest) sc ar :=
  xg_get X (q0 := 3) (k := 0) rfl rfl in_S (by decide) (hy ▸ lk_S_7) rfl hdg kk
theorem xf_S_7_j (X : x_X p R s m args meth c y ad D cI A cells slots) {j : Nat} (hj : j < 2) (hy : y.1.cls = R_S) (hdg : decode y.2.1 pc = .ok (.getfield 7, 3)) (kk : x_G p l e R s m args below meth c y ad D cI A cells slots Q (pc + 3) L (.int (x_st j) :: rest) sc ar) : x_G p l e R s m args below meth c y ad D cI A cells slots Q pc L (.ref (ad (j + 2)) :: rest) sc ar := by
  match j, hj with
  | 0, _ => exact xf_S_7_2 X hy hdg kk
  | 1, _ => exact xf_S_7_3 X hy hdg kk
theorem lk_S_13 : Cond.fieldLink R_S 13 (F_S 1).1 (F_S 1).2.1 (F_S 1).2.2.1 ∈ x_tb := by decide +kernel
theorem xf_S_13_2 (X : x_X p R s m args meth c y ad D cI A cells slots) (hy : y.1.cls = R_S) (hdg : decode y.2.1 pc = .ok (.getfield 13, 3)) (kk : x_G p l e R s m args below meth c y ad D cI A cells slots Q (pc + 3) L (.int (sc 2) :: rest) sc ar) : x_G p l e R s m args below meth c y ad D cI A cells slots Q pc L (.ref (ad 2) :: rest) sc ar :=
  xg_get X (q0 := 2) (k := 1) rfl rfl in_S (by decide) (hy ▸ lk_S_13) rfl hdg kk
theorem xp_S_13_2 (X : x_X p R s m args meth c y ad D cI A cells slots) {v : Int32} (hy : y.1.cls = R_S) (hdg : decode y.2.1 pc = .ok (.putfield 13, 3)) (kk : x_G p l e R s m args below meth c y ad D cI A cells slots Q (pc + 3) L rest (upd sc 2 v) ar) : x_G p l e R s m args below meth c y ad D cI A cells slots Q pc L (.int v :: .ref (ad 2) :: rest) sc ar :=
  xg_put X (q0 := 2) (k := 1) (ty := .int) (ty0 := ft_S) (sc' := upd sc 2 v) rfl rfl in_S ft_S_ok n_S (by decide) (hy ▸ lk_S_13) rfl (by decide +kernel) rfl rfl (Nat.le_of_ble_eq_true rfl) rfl hdg kk
theorem xf_S_13_3 (X : x_X p R s m args meth c y ad D cI A cells slots) (hy : y.1.cls = R_S) (hdg : decode y.2.1 pc = .ok (.getfield 13, 3)) (kk : x_G p l e R s m args below meth c y ad D cI A cells slots Q (pc + 3) L (.int (sc 4) :: rest) sc ar) : x_G p l e R s m args below meth c y ad D cI A cells slots Q pc L (.ref (ad 3) :: rest) sc ar :=
  xg_get X (q0 := 3) (k := 1) rfl rfl in_S (by decide) (hy ▸ lk_S_13) rfl hdg kk
theorem xp_S_13_3 (X : x_X p R s m args meth c y ad D cI A cells slots) {v : Int32} (hy : y.1.cls = R_S) (hdg : decode y.2.1 pc = .ok (.putfield 13, 3)) (kk : x_G p l e R s m args below meth c y ad D cI A cells slots Q (pc + 3) L rest (upd sc 4 v) ar) : x_G p l e R s m args below meth c y ad D cI A cells slots Q pc L (.int v :: .ref (ad 3) :: rest) sc ar :=
  xg_put X (q0 := 3) (k := 1) (ty := .int) (ty0 := ft_S) (sc' := upd sc 4 v) rfl rfl in_S ft_S_ok n_S (by decide) (hy ▸ lk_S_13) rfl (by decide +kernel) rfl rfl (Nat.le_of_ble_eq_true rfl) rfl hdg kk
theorem xf_S_13_j (X : x_X p R s m args meth c y ad D cI A cells slots) {j : Nat} (hj : j < 2) (hy : y.1.cls = R_S) (hdg : decode y.2.1 pc = .ok (.getfield 13, 3)) (kk : x_G p l e R s m args below meth c y ad D cI A cells slots Q (pc + 3) L (.int (sc (2 * j + 2)) :: rest) sc ar) : x_G p l e R s m args below meth c y ad D cI A cells slots Q pc L (.ref (ad (j + 2)) :: rest) sc ar := by
  match j, hj with
  | 0, _ => exact xf_S_13_2 X hy hdg kk
  | 1, _ => exact xf_S_13_3 X hy hdg kk
theorem xp_S_13_j (X : x_X p R s m args meth c y ad D cI A cells slots) {v : Int32} {j : Nat} (hj : j < 2) (hy : y.1.cls = R_S) (hdg : decode y.2.1 pc = .ok (.putfield 13, 3)) (kk : x_G p l e R s m args below meth c y ad D cI A cells slots Q (pc + 3) L rest (upd sc (2 * j + 2) v) ar) : x_G p l e R s m args below meth c y ad D cI A cells slots Q pc L (.int v :: .ref (ad (j + 2)) :: rest) sc ar := by
  match j, hj with
  | 0, _ => exact xp_S_13_2 X hy hdg kk
  | 1, _ => exact xp_S_13_3 X hy hdg kk
theorem lk_S_16 : Cond.fieldLink R_S 16 (F_S 2).1 (F_S 2).2.1 (F_S 2).2.2.1 ∈ x_tb := by decide +kernel
theorem xf_S_16_2 (X : x_X p R s m args meth c y ad D cI A cells slots) (hy : y.1.cls = R_S) (hdg : decode y.2.1 pc = .ok (.getfield 16, 3)) (kk : x_G p l e R s m args below meth c y ad D cI A cells slots Q (pc + 3) L (.int (sc 3) :: rest) sc ar) : x_G p l e R s m args below meth c y ad D cI A cells slots Q pc L (.ref (ad 2) :: rest) sc ar :=
  xg_get X (q0 := 2) (k := 2) rfl rfl in_S (by decide) (hy ▸ lk_S_16) rfl hdg kk
theorem xp_S_16_2 (X : x_X p R s m args meth c y ad D cI A cells slots) {v : Int32} (hy : y.1.cls = R_S) (hdg : decode y.2.1 pc = .ok (.putfield 16, 3)) (kk : x_G p l e R s m args below meth c y ad D cI A cells slots Q (pc + 3) L rest (upd sc 3 v) ar) : x_G p l e R s m args below meth c y ad D cI A cells slots Q pc L (.int v :: .ref (ad 2) :: rest) sc ar :=
  xg_put X (q0 := 2) (k := 2) (ty := .int) (ty0 := ft_S) (sc' := upd sc 3 v) rfl rfl in_S ft_S_ok n_S (by decide) (hy ▸ lk_S_16) rfl (by decide +kernel) rfl rfl (Nat.le_of_ble_eq_true rfl) rfl hdg kk
theorem xf_S_16_3 (X : x_X p R s m args meth c y ad D cI A cells slots) (hy : y.1.cls = R_S) (hdg : decode y.2.1 pc = .ok (.getfield 16, 3)) (kk : x_G p l e R s m args below meth c y ad D cI A cells slots Q (pc + 3) L (.int (sc 5) :: rest) sc ar) : x_G p l e R s m args below meth c y ad D cI A cells slots Q pc L (.ref (ad 3) :: rest) sc ar :=
  xg_get X (q0 := 3) (k := 2) rfl rfl in_S (by decide) (hy ▸ lk_S_16) rfl hdg kk
theorem xp_S_16_3 (X : x_X p R s m args meth c y ad D cI A cells slots) {v : Int32} (hy : y.1.cls = R_S) (hdg : decode y.2.1 pc = .ok (.putfield 16, 3)) (kk : x_G p l e R s m args below meth c y ad D cI A cells slots Q (pc + 3) L rest (upd sc 5 v) ar) : x_G p l e R s m args below meth c y ad D cI A cells slots Q pc L (.int v :: .ref (ad 3) :: rest) sc ar :=
  xg_put X (q0 := 3) (k := 2) (ty := .int) (ty0 := ft_S) (sc' := upd sc 5 v) rfl rfl in_S ft_S_ok n_S (by decide) (hy ▸ lk_S_16) rfl (by decide +kernel) rfl rfl (Nat.le_of_ble_eq_true rfl) rfl hdg kk
theorem xf_S_16_j (X : x_X p R s m args meth c y ad D cI A cells slots) {j : Nat} (hj : j < 2) (hy : y.1.cls = R_S) (hdg : decode y.2.1 pc = .ok (.getfield 16, 3)) (kk : x_G p l e R s m args below meth c y ad D cI A cells slots Q (pc + 3) L (.int (sc (2 * j + 3)) :: rest) sc ar) : x_G p l e R s m args below meth c y ad D cI A cells slots Q pc L (.ref (ad (j + 2)) :: rest) sc ar := by
  match j, hj with
  | 0, _ => exact xf_S_16_2 X hy hdg kk
  | 1, _ => exact xf_S_16_3 X hy hdg kk
theorem xp_S_16_j (X : x_X p R s m args meth c y ad D cI A cells slots) {v : Int32} {j : Nat} (hj : j < 2) (hy : y.1.cls = R_S) (hdg : decode y.2.1 pc = .ok (.putfield 16, 3)) (kk : x_G p l e R s m args below meth c y ad D cI A cells slots Q (pc + 3) L rest (upd sc (2 * j + 3) v) ar) : x_G p l e R s m args below meth c y ad D cI A cells slots Q pc L (.int v :: .ref (ad (j + 2)) :: rest) sc ar := by
  match j, hj with
  | 0, _ => exact xp_S_16_2 X hy hdg kk
  | 1, _ => exact xp_S_16_3 X hy hdg kk
theorem lk_T_9 : Cond.fieldLink R_T 9 (F_T 0).1 (F_T 0).2.1 (F_T 0).2.2.1 ∈ x_tb := by decide +kernel
theorem xf_T_9 (X : x_X p R s m args meth c y ad D cI A cells slots) (hy : y.1.cls = R_T) (hdg : decode y.2.1 pc = .ok (.getfield 9, 3)) (kk : x_G p l e R s m args below meth c y ad D cI A cells slots Q (pc + 3) L (.ref (ad 1) :: rest) sc ar) : x_G p l e R s m args below meth c y ad D cI A cells slots Q pc L (.ref (ad 0) :: rest) sc ar :=
  xg_get X (q0 := 0) (k := 0) rfl rfl in_T (by decide) (hy ▸ lk_T_9) rfl hdg kk
theorem lk_T_18 : Cond.fieldLink R_T 18 (F_T 1).1 (F_T 1).2.1 (F_T 1).2.2.1 ∈ x_tb := by decide +kernel
theorem xf_T_18 (X : x_X p R s m args meth c y ad D cI A cells slots) (hy : y.1.cls = R_T) (hdg : decode y.2.1 pc = .ok (.getfield 18, 3)) (kk : x_G p l e R s m args below meth c y ad D cI A cells slots Q (pc + 3) L (.ref (ad 2) :: rest) sc ar) : x_G p l e R s m args below meth c y ad D cI A cells slots Q pc L (.ref (ad 0) :: rest) sc ar :=
  xg_get X (q0 := 0) (k := 1) rfl rfl in_T (by decide) (hy ▸ lk_T_18) rfl hdg kk
theorem lk_T_22 : Cond.fieldLink R_T 22 (F_T 2).1 (F_T 2).2.1 (F_T 2).2.2.1 ∈ x_tb := by decide +kernel
theorem xf_T_22 (X : x_X p R s m args meth c y ad D cI A cells slots) (hy : y.1.cls = R_T) (hdg : decode y.2.1 pc = .ok (.getfield 22, 3)) (kk : x_G p l e R s m args below meth c y ad D cI A cells slots Q (pc + 3) L (.ref (ad 3) :: rest) sc ar) : x_G p l e R s m args below meth c y ad D cI A cells slots Q pc L (.ref (ad 0) :: rest) sc ar :=
  xg_get X (q0 := 0) (k := 2) rfl rfl in_T (by decide) (hy ▸ lk_T_22) rfl hdg kk
theorem lk_T_28 : Cond.fieldLink R_T 28 (F_T 3).1 (F_T 3).2.1 (F_T 3).2.2.1 ∈ x_tb := by decide +kernel
theorem xf_T_28 (X : x_X p R s m args meth c y ad D cI A cells slots) (hy : y.1.cls = R_T) (hdg : decode y.2.1 pc = .ok (.getfield 28, 3)) (kk : x_G p l e R s m args below meth c y ad D cI A cells slots Q (pc + 3) L (.ref (ad 4) :: rest) sc ar) : x_G p l e R s m args below meth c y ad D cI A cells slots Q pc L (.ref (ad 0) :: rest) sc ar :=
  xg_get X (q0 := 0) (k := 3) rfl rfl in_T (by decide) (hy ▸ lk_T_28) rfl hdg kk
theorem lk_T_32 : Cond.fieldLink R_T 32 (F_T 4).1 (F_T 4).2.1 (F_T 4).2.2.1 ∈ x_tb := by decide +kernel
theorem xf_T_32 (X : x_X p R s m args meth c y ad D cI A cells slots) (hy : y.1.cls = R_T) (hdg : decode y.2.1 pc = .ok (.getfield 32, 3)) (kk : x_G p l e R s m args below meth c y ad D cI A cells slots Q (pc + 3) L (.ref (ad 5) :: rest) sc ar) : x_G p l e R s m args below meth c y ad D cI A cells slots Q pc L (.ref (ad 0) :: rest) sc ar :=
  xg_get X (q0 := 0) (k := 4) rfl rfl in_T (by decide) (hy ▸ lk_T_32) rfl hdg kk
theorem lk_T_35 : Cond.fieldLink R_T 35 (F_T 5).1 (F_T 5).2.1 (F_T 5).2.2.1 ∈ x_tb := by decide +kernel
theorem xf_T_35 (X : x_X p R s m args meth c y ad D cI A cells slots) (hy : y.1.cls = R_T) (hdg : decode y.2.1 pc = .ok (.getfield 35, 3)) (kk : x_G p l e R s m args below meth c y ad D cI A cells slots Q (pc + 3) L (.int (sc 0) :: rest) sc ar) : x_G p l e R s m args below meth c y ad D cI A cells slots Q pc L (.ref (ad 0) :: rest) sc ar :=
  xg_get X (q0 := 0) (k := 5) rfl rfl in_T (by decide) (hy ▸ lk_T_35) rfl hdg kk
theorem xp_T_35 (X : x_X p R s m args meth c y ad D cI A cells slots) {v : Int32} (hy : y.1.cls = R_T) (hdg : decode y.2.1 pc = .ok (.putfield 35, 3)) (kk : x_G p l e R s m args below meth c y ad D cI A cells slots Q (pc + 3) L rest (upd sc 0 v) ar) : x_G p l e R s m args below meth c y ad D cI A cells slots Q pc L (.int v :: .ref (ad 0) :: rest) sc ar :=
  xg_put X (q0 := 0) (k := 5) (ty := .int) (ty0 := ft_T) (sc' := upd sc 0 v) rfl rfl in_T ft_T_ok n_T (by decide) (hy ▸ lk_T_35) rfl (by decide +kernel) rfl rfl (Nat.le_of_ble_eq_true rfl) rfl hdg kk
theorem lk_T_39 : Cond.fieldLink R_T 39 (F_T 6).1 (F_T 6).2.1 (F_T 6).2.2.1 ∈ x_tb := by decide +kernel
theorem xf_T_39 (X : x_X p R s m args meth c y ad D cI A cells slots) (hy : y.1.cls = R_T) (hdg : decode y.2.1 pc = .ok (.getfield 39, 3)) (kk : x_G p l e R s m args below meth c y ad D cI A cells slots Q (pc + 3) L (.int (sc 1) :: rest) sc ar) : x_G p l e R s m args below meth c y ad D cI A cells slots Q pc L (.ref (ad 0) :: rest) sc ar :=
  xg_get X (q0 := 0) (k := 6) rfl rfl in_T (by decide) (hy ▸ lk_T_39) rfl hdg kk
theorem xp_T_39 (X : x_X p R s m args meth c y ad D cI A cells slots) {v : Int32} (hy : y.1.cls = R_T) (hdg : decode y.2.1 pc = .ok (.putfield 39, 3)) (hb : v = 0 ∨ v = 1) (kk : x_G p l e R s m args below meth c y ad D cI A cells slots Q (pc + 3) L rest (upd sc 1 v) ar) : x_G p l e R s m args below meth c y ad D cI A cells slots Q pc L (.int v :: .ref (ad 0) :: rest) sc ar :=
  xg_put X (q0 := 0) (k := 6) (ty := .boolean) (ty0 := ft_T) (sc' := upd sc 1 v) rfl rfl in_T ft_T_ok n_T (by decide) (hy ▸ lk_T_39) rfl (by decide +kernel) (by rcases hb with rfl | rfl <;> rfl) (by rcases hb with rfl | rfl <;> rfl) (Nat.le_of_ble_eq_true rfl) rfl hdg kk
theorem lk_T_124 : Cond.fieldLink R_T 124 (F_S 2).1 (F_S 2).2.1 (F_S 2).2.2.1 ∈ x_tb := by decide +kernel
theorem xf_T_124_2 (X : x_X p R s m args meth c y ad D cI A cells slots) (hy : y.1.cls = R_T) (hdg : decode y.2.1 pc = .ok (.getfield 124, 3)) (kk : x_G p l e R s m args below meth c y ad D cI A cells slots Q (pc + 3) L (.int (sc 3) :: rest) sc ar) : x_G p l e R s m args below meth c y ad D cI A cells slots Q pc L (.ref (ad 2) :: rest) sc ar :=
  xg_get X (q0 := 2) (k := 2) rfl rfl in_S (by decide) (hy ▸ lk_T_124) rfl hdg kk
theorem xf_T_124_3 (X : x_X p R s m args meth c y ad D cI A cells slots) (hy : y.1.cls = R_T) (hdg : decode y.2.1 pc = .ok (.getfield 124, 3)) (kk : x_G p l e R s m args below meth c y ad D cI A cells slots Q (pc + 3) L (.int (sc 5) :: rest) sc ar) : x_G p l e R s m args below meth c y ad D cI A cells slots Q pc L (.ref (ad 3) :: rest) sc ar :=
  xg_get X (q0 := 3) (k := 2) rfl rfl in_S (by decide) (hy ▸ lk_T_124) rfl hdg kk
theorem xf_T_124_j (X : x_X p R s m args meth c y ad D cI A cells slots) {j : Nat} (hj : j < 2) (hy : y.1.cls = R_T) (hdg : decode y.2.1 pc = .ok (.getfield 124, 3)) (kk : x_G p l e R s m args below meth c y ad D cI A cells slots Q (pc + 3) L (.int (sc (2 * j + 3)) :: rest) sc ar) : x_G p l e R s m args below meth c y ad D cI A cells slots Q pc L (.ref (ad (j + 2)) :: rest) sc ar := by
  match j, hj with
  | 0, _ => exact xf_T_124_2 X hy hdg kk
  | 1, _ => exact xf_T_124_3 X hy hdg kk
theorem lk_T_135 : Cond.fieldLink R_T 135 (F_S 1).1 (F_S 1).2.1 (F_S 1).2.2.1 ∈ x_tb := by decide +kernel
theorem xf_T_135_2 (X : x_X p R s m args meth c y ad D cI A cells slots) (hy : y.1.cls = R_T) (hdg : decode y.2.1 pc = .ok (.getfield 135, 3)) (kk : x_G p l e R s m args below meth c y ad D cI A cells slots Q (pc + 3) L (.int (sc 2) :: rest) sc ar) : x_G p l e R s m args below meth c y ad D cI A cells slots Q pc L (.ref (ad 2) :: rest) sc ar :=
  xg_get X (q0 := 2) (k := 1) rfl rfl in_S (by decide) (hy ▸ lk_T_135) rfl hdg kk
theorem xf_T_135_3 (X : x_X p R s m args meth c y ad D cI A cells slots) (hy : y.1.cls = R_T) (hdg : decode y.2.1 pc = .ok (.getfield 135, 3)) (kk : x_G p l e R s m args below meth c y ad D cI A cells slots Q (pc + 3) L (.int (sc 4) :: rest) sc ar) : x_G p l e R s m args below meth c y ad D cI A cells slots Q pc L (.ref (ad 3) :: rest) sc ar :=
  xg_get X (q0 := 3) (k := 1) rfl rfl in_S (by decide) (hy ▸ lk_T_135) rfl hdg kk
theorem xf_T_135_j (X : x_X p R s m args meth c y ad D cI A cells slots) {j : Nat} (hj : j < 2) (hy : y.1.cls = R_T) (hdg : decode y.2.1 pc = .ok (.getfield 135, 3)) (kk : x_G p l e R s m args below meth c y ad D cI A cells slots Q (pc + 3) L (.int (sc (2 * j + 2)) :: rest) sc ar) : x_G p l e R s m args below meth c y ad D cI A cells slots Q pc L (.ref (ad (j + 2)) :: rest) sc ar := by
  match j, hj with
  | 0, _ => exact xf_T_135_2 X hy hdg kk
  | 1, _ => exact xf_T_135_3 X hy hdg kk
theorem lk_T_138 : Cond.fieldLink R_T 138 (F_S 0).1 (F_S 0).2.1 (F_S 0).2.2.1 ∈ x_tb := by decide +kernel
theorem xf_T_138_2 (X : x_X p R s m args meth c y ad D cI A cells slots) (hy : y.1.cls = R_T) (hdg : decode y.2.1 pc = .ok (.getfield 138, 3)) (kk : x_G p l e R s m args below meth c y ad D cI A cells slots Q (pc + 3) L (.int 1 :: rest) sc ar) : x_G p l e R s m args below meth c y ad D cI A cells slots Q pc L (.ref (ad 2) :: rest) sc ar :=
  xg_get X (q0 := 2) (k := 0) rfl rfl in_S (by decide) (hy ▸ lk_T_138) rfl hdg kk
theorem xf_T_138_3 (X : x_X p R s m args meth c y ad D cI A cells slots) (hy : y.1.cls = R_T) (hdg : decode y.2.1 pc = .ok (.getfield 138, 3)) (kk : x_G p l e R s m args below meth c y ad D cI A cells slots Q (pc + 3) L (.int 16 :: rest) sc ar) : x_G p l e R s m args below meth c y ad D cI A cells slots Q pc L (.ref (ad 3) :: rest) sc ar :=
  xg_get X (q0 := 3) (k := 0) rfl rfl in_S (by decide) (hy ▸ lk_T_138) rfl hdg kk
theorem xf_T_138_j (X : x_X p R s m args meth c y ad D cI A cells slots) {j : Nat} (hj : j < 2) (hy : y.1.cls = R_T) (hdg : decode y.2.1 pc = .ok (.getfield 138, 3)) (kk : x_G p l e R s m args below meth c y ad D cI A cells slots Q (pc + 3) L (.int (x_st j) :: rest) sc ar) : x_G p l e R s m args below meth c y ad D cI A cells slots Q pc L (.ref (ad (j + 2)) :: rest) sc ar := by
  match j, hj with
  | 0, _ => exact xf_T_138_2 X hy hdg kk
  | 1, _ => exact xf_T_138_3 X hy hdg kk
theorem xa_ld1 (X : x_X p R s m args meth c y ad D cI A cells slots) {i : Int32} (hdg : decode y.2.1 pc = .ok (.iaload, 1)) (hin : vp_in i 768) (kk : x_G p l e R s m args below meth c y ad D cI A cells slots Q (pc + 1) L (.int (ar 0 i.toNatClampNeg) :: rest) sc ar) : x_G p l e R s m args below meth c y ad D cI A cells slots Q pc L (.int i :: .ref (ad 1) :: rest) sc ar :=
  xg_iald X (q0 := 1) rfl hdg hin kk
theorem xa_st1 (X : x_X p R s m args meth c y ad D cI A cells slots) {i x : Int32} (hdg : decode y.2.1 pc = .ok (.iastore, 1)) (hin : vp_in i 768) (kk : x_G p l e R s m args below meth c y ad D cI A cells slots Q (pc + 1) L rest sc (x_ua ar 0 (upd (ar 0) i.toNatClampNeg x))) : x_G p l e R s m args below meth c y ad D cI A cells slots Q pc L (.int x :: .int i :: .ref (ad 1) :: rest) sc ar :=
  xg_iast X (q0 := 1) (ar' := x_ua ar 0 (upd (ar 0) i.toNatClampNeg x)) rfl rfl hdg hin kk
theorem xa_len1 (X : x_X p R s m args meth c y ad D cI A cells slots) (hdg : decode y.2.1 pc = .ok (.arraylength, 1)) (kk : x_G p l e R s m args below meth c y ad D cI A cells slots Q (pc + 1) L (.int 768 :: rest) sc ar) : x_G p l e R s m args below meth c y ad D cI A cells slots Q pc L (.ref (ad 1) :: rest) sc ar :=
  xg_alen X (q0 := 1) rfl (by decide) hdg kk
theorem xa_ld5 (X : x_X p R s m args meth c y ad D cI A cells slots) {i : Int32} (hdg : decode y.2.1 pc = .ok (.iaload, 1)) (hin : vp_in i 4) (kk : x_G p l e R s m args below meth c y ad D cI A cells slots Q (pc + 1) L (.int (ar 1 i.toNatClampNeg) :: rest) sc ar) : x_G p l e R s m args below meth c y ad D cI A cells slots Q pc L (.int i :: .ref (ad 5) :: rest) sc ar :=
  xg_iald X (q0 := 5) rfl hdg hin kk
theorem xa_st5 (X : x_X p R s m args meth c y ad D cI A cells slots) {i x : Int32} (hdg : decode y.2.1 pc = .ok (.iastore, 1)) (hin : vp_in i 4) (kk : x_G p l e R s m args below meth c y ad D cI A cells slots Q (pc + 1) L rest sc (x_ua ar 1 (upd (ar 1) i.toNatClampNeg x))) : x_G p l e R s m args below meth c y ad D cI A cells slots Q pc L (.int x :: .int i :: .ref (ad 5) :: rest) sc ar :=
  xg_iast X (q0 := 5) (ar' := x_ua ar 1 (upd (ar 1) i.toNatClampNeg x)) rfl rfl hdg hin kk
theorem xa_len5 (X : x_X p R s m args meth c y ad D cI A cells slots) (hdg : decode y.2.1 pc = .ok (.arraylength, 1)) (kk : x_G p l e R s m args below meth c y ad D cI A cells slots Q (pc + 1) L (.int 4 :: rest) sc ar) : x_G p l e R s m args below meth c y ad D cI A cells slots Q pc L (.ref (ad 5) :: rest) sc ar :=
  xg_alen X (q0 := 5) rfl (by decide) hdg kk
theorem xa_ld6 (X : x_X p R s m args meth c y ad D cI A cells slots) {i : Int32} (hdg : decode y.2.1 pc = .ok (.iaload, 1)) (hin : vp_in i 16) (kk : x_G p l e R s m args below meth c y ad D cI A cells slots Q (pc + 1) L (.int (ar 2 i.toNatClampNeg) :: rest) sc ar) : x_G p l e R s m args below meth c y ad D cI A cells slots Q pc L (.int i :: .ref (ad 6) :: rest) sc ar :=
  xg_iald X (q0 := 6) rfl hdg hin kk
theorem xa_st6 (X : x_X p R s m args meth c y ad D cI A cells slots) {i x : Int32} (hdg : decode y.2.1 pc = .ok (.iastore, 1)) (hin : vp_in i 16) (kk : x_G p l e R s m args below meth c y ad D cI A cells slots Q (pc + 1) L rest sc (x_ua ar 2 (upd (ar 2) i.toNatClampNeg x))) : x_G p l e R s m args below meth c y ad D cI A cells slots Q pc L (.int x :: .int i :: .ref (ad 6) :: rest) sc ar :=
  xg_iast X (q0 := 6) (ar' := x_ua ar 2 (upd (ar 2) i.toNatClampNeg x)) rfl rfl hdg hin kk
theorem xa_len6 (X : x_X p R s m args meth c y ad D cI A cells slots) (hdg : decode y.2.1 pc = .ok (.arraylength, 1)) (kk : x_G p l e R s m args below meth c y ad D cI A cells slots Q (pc + 1) L (.int 16 :: rest) sc ar) : x_G p l e R s m args below meth c y ad D cI A cells slots Q pc L (.ref (ad 6) :: rest) sc ar :=
  xg_alen X (q0 := 6) rfl (by decide) hdg kk
theorem xa_ld8 (X : x_X p R s m args meth c y ad D cI A cells slots) {i : Int32} (hdg : decode y.2.1 pc = .ok (.iaload, 1)) (hin : vp_in i 4) (kk : x_G p l e R s m args below meth c y ad D cI A cells slots Q (pc + 1) L (.int (ar 3 i.toNatClampNeg) :: rest) sc ar) : x_G p l e R s m args below meth c y ad D cI A cells slots Q pc L (.int i :: .ref (ad 8) :: rest) sc ar :=
  xg_iald X (q0 := 8) rfl hdg hin kk
theorem xa_st8 (X : x_X p R s m args meth c y ad D cI A cells slots) {i x : Int32} (hdg : decode y.2.1 pc = .ok (.iastore, 1)) (hin : vp_in i 4) (kk : x_G p l e R s m args below meth c y ad D cI A cells slots Q (pc + 1) L rest sc (x_ua ar 3 (upd (ar 3) i.toNatClampNeg x))) : x_G p l e R s m args below meth c y ad D cI A cells slots Q pc L (.int x :: .int i :: .ref (ad 8) :: rest) sc ar :=
  xg_iast X (q0 := 8) (ar' := x_ua ar 3 (upd (ar 3) i.toNatClampNeg x)) rfl rfl hdg hin kk
theorem xa_len8 (X : x_X p R s m args meth c y ad D cI A cells slots) (hdg : decode y.2.1 pc = .ok (.arraylength, 1)) (kk : x_G p l e R s m args below meth c y ad D cI A cells slots Q (pc + 1) L (.int 4 :: rest) sc ar) : x_G p l e R s m args below meth c y ad D cI A cells slots Q pc L (.ref (ad 8) :: rest) sc ar :=
  xg_alen X (q0 := 8) rfl (by decide) hdg kk
theorem xa_ld9 (X : x_X p R s m args meth c y ad D cI A cells slots) {i : Int32} (hdg : decode y.2.1 pc = .ok (.iaload, 1)) (hin : vp_in i 768) (kk : x_G p l e R s m args below meth c y ad D cI A cells slots Q (pc + 1) L (.int (ar 4 i.toNatClampNeg) :: rest) sc ar) : x_G p l e R s m args below meth c y ad D cI A cells slots Q pc L (.int i :: .ref (ad 9) :: rest) sc ar :=
  xg_iald X (q0 := 9) rfl hdg hin kk
theorem xa_st9 (X : x_X p R s m args meth c y ad D cI A cells slots) {i x : Int32} (hdg : decode y.2.1 pc = .ok (.iastore, 1)) (hin : vp_in i 768) (kk : x_G p l e R s m args below meth c y ad D cI A cells slots Q (pc + 1) L rest sc (x_ua ar 4 (upd (ar 4) i.toNatClampNeg x))) : x_G p l e R s m args below meth c y ad D cI A cells slots Q pc L (.int x :: .int i :: .ref (ad 9) :: rest) sc ar :=
  xg_iast X (q0 := 9) (ar' := x_ua ar 4 (upd (ar 4) i.toNatClampNeg x)) rfl rfl hdg hin kk
theorem xa_len9 (X : x_X p R s m args meth c y ad D cI A cells slots) (hdg : decode y.2.1 pc = .ok (.arraylength, 1)) (kk : x_G p l e R s m args below meth c y ad D cI A cells slots Q (pc + 1) L (.int 768 :: rest) sc ar) : x_G p l e R s m args below meth c y ad D cI A cells slots Q pc L (.ref (ad 9) :: rest) sc ar :=
  xg_alen X (q0 := 9) rfl (by decide) hdg kk
theorem xa_ld10 (X : x_X p R s m args meth c y ad D cI A cells slots) {i : Int32} (hdg : decode y.2.1 pc = .ok (.iaload, 1)) (hin : vp_in i 16) (kk : x_G p l e R s m args below meth c y ad D cI A cells slots Q (pc + 1) L (.int (ar 5 i.toNatClampNeg) :: rest) sc ar) : x_G p l e R s m args below meth c y ad D cI A cells slots Q pc L (.int i :: .ref (ad 10) :: rest) sc ar :=
  xg_iald X (q0 := 10) rfl hdg hin kk
theorem xa_st10 (X : x_X p R s m args meth c y ad D cI A cells slots) {i x : Int32} (hdg : decode y.2.1 pc = .ok (.iastore, 1)) (hin : vp_in i 16) (kk : x_G p l e R s m args below meth c y ad D cI A cells slots Q (pc + 1) L rest sc (x_ua ar 5 (upd (ar 5) i.toNatClampNeg x))) : x_G p l e R s m args below meth c y ad D cI A cells slots Q pc L (.int x :: .int i :: .ref (ad 10) :: rest) sc ar :=
  xg_iast X (q0 := 10) (ar' := x_ua ar 5 (upd (ar 5) i.toNatClampNeg x)) rfl rfl hdg hin kk
theorem xa_len10 (X : x_X p R s m args meth c y ad D cI A cells slots) (hdg : decode y.2.1 pc = .ok (.arraylength, 1)) (kk : x_G p l e R s m args below meth c y ad D cI A cells slots Q (pc + 1) L (.int 16 :: rest) sc ar) : x_G p l e R s m args below meth c y ad D cI A cells slots Q pc L (.ref (ad 10) :: rest) sc ar :=
  xg_alen X (q0 := 10) rfl (by decide) hdg kk
theorem xa_ld11 (X : x_X p R s m args meth c y ad D cI A cells slots) {i : Int32} (hdg : decode y.2.1 pc = .ok (.iaload, 1)) (hin : vp_in i 16) (kk : x_G p l e R s m args below meth c y ad D cI A cells slots Q (pc + 1) L (.int (ar 6 i.toNatClampNeg) :: rest) sc ar) : x_G p l e R s m args below meth c y ad D cI A cells slots Q pc L (.int i :: .ref (ad 11) :: rest) sc ar :=
  xg_iald X (q0 := 11) rfl hdg hin kk
theorem xa_st11 (X : x_X p R s m args meth c y ad D cI A cells slots) {i x : Int32} (hdg : decode y.2.1 pc = .ok (.iastore, 1)) (hin : vp_in i 16) (kk : x_G p l e R s m args below meth c y ad D cI A cells slots Q (pc + 1) L rest sc (x_ua ar 6 (upd (ar 6) i.toNatClampNeg x))) : x_G p l e R s m args below meth c y ad D cI A cells slots Q pc L (.int x :: .int i :: .ref (ad 11) :: rest) sc ar :=
  xg_iast X (q0 := 11) (ar' := x_ua ar 6 (upd (ar 6) i.toNatClampNeg x)) rfl rfl hdg hin kk
theorem xa_len11 (X : x_X p R s m args meth c y ad D cI A cells slots) (hdg : decode y.2.1 pc = .ok (.arraylength, 1)) (kk : x_G p l e R s m args below meth c y ad D cI A cells slots Q (pc + 1) L (.int 16 :: rest) sc ar) : x_G p l e R s m args below meth c y ad D cI A cells slots Q pc L (.ref (ad 11) :: rest) sc ar :=
  xg_alen X (q0 := 11) rfl (by decide) hdg kk
end XF
end
section
theorem s_L_22 : x_siteS R_L 22 M_L_isOdd 1 := ⟨by decide +kernel, by decide +kernel⟩
theorem s_L_26 : x_siteV R_L 26 R_L M_L_firstOdd 0 := ⟨by decide +kernel, by decide +kernel⟩
theorem s_L_30 : x_siteV R_L 30 R_L M_L_prediction 2 := ⟨by decide +kernel, by decide +kernel⟩
theorem s_L_34 : x_siteV R_L 34 R_L M_L_firstEven 0 := ⟨by decide +kernel, by decide +kernel⟩
theorem s_L_37 : x_siteV R_L 37 R_L M_L_update 2 := ⟨by decide +kernel, by decide +kernel⟩
theorem s_L_40 : x_siteV R_L 40 R_L M_L_neighbours 2 := ⟨by decide +kernel, by decide +kernel⟩
theorem s_L_43 : x_siteV R_L 43 R_L M_L_value 1 := ⟨by decide +kernel, by decide +kernel⟩
theorem s_R_45 : x_siteS R_R 45 M_R_isPlane 1 := ⟨by decide +kernel, by decide +kernel⟩
theorem s_R_49 : x_siteV R_R 49 R_R M_R_isPlace 2 := ⟨by decide +kernel, by decide +kernel⟩
theorem s_R_53 : x_siteV R_R 53 R_R M_R_cell 3 := ⟨by decide +kernel, by decide +kernel⟩
theorem s_R_63 : x_siteV R_R 63 R_R M_R_inside 1 := ⟨by decide +kernel, by decide +kernel⟩
theorem s_R_70 : x_siteV R_R 70 R_R M_R_old 1 := ⟨by decide +kernel, by decide +kernel⟩
theorem s_R_73 : x_siteV R_R 73 R_R M_R_predicted 4 := ⟨by decide +kernel, by decide +kernel⟩
theorem s_R_77 : x_siteV R_R 77 R_R M_R_updated 2 := ⟨by decide +kernel, by decide +kernel⟩
theorem s_R_81 : x_siteS R_R 81 M_R_odd 1 := ⟨by decide +kernel, by decide +kernel⟩
theorem s_R_84 : x_siteV R_R 84 R_R M_R_high 1 := ⟨by decide +kernel, by decide +kernel⟩
theorem s_R_87 : x_siteV R_R 87 R_R M_R_low 1 := ⟨by decide +kernel, by decide +kernel⟩
theorem s_R_90 : x_siteV R_R 90 R_R M_R_liftedBack 1 := ⟨by decide +kernel, by decide +kernel⟩
theorem s_R_93 : x_siteV R_R 93 R_R M_R_lifted 1 := ⟨by decide +kernel, by decide +kernel⟩
theorem s_R_96 : x_siteS R_R 96 M_R_from 2 := ⟨by decide +kernel, by decide +kernel⟩
theorem s_R_99 : x_siteV R_R 99 R_R M_R_at 3 := ⟨by decide +kernel, by decide +kernel⟩
theorem s_R_102 : x_siteV R_R 102 R_R M_R_work 1 := ⟨by decide +kernel, by decide +kernel⟩
theorem s_R_106 : x_siteV R_R 106 R_R M_R_column 4 := ⟨by decide +kernel, by decide +kernel⟩
theorem s_R_110 : x_siteV R_R 110 R_R M_R_row 4 := ⟨by decide +kernel, by decide +kernel⟩
theorem s_R_113 : x_siteS R_R 113 M_R_scale 1 := ⟨by decide +kernel, by decide +kernel⟩
theorem s_R_116 : x_siteV R_R 116 R_R M_R_columns 3 := ⟨by decide +kernel, by decide +kernel⟩
theorem s_R_120 : x_siteV R_R 120 R_R M_R_rows 3 := ⟨by decide +kernel, by decide +kernel⟩
theorem s_R_123 : x_siteV R_R 123 R_R M_R_isLevel 1 := ⟨by decide +kernel, by decide +kernel⟩
theorem s_R_126 : x_siteS R_R 126 M_R_shift 3 := ⟨by decide +kernel, by decide +kernel⟩
theorem s_R_130 : x_siteS R_R 130 M_R_isBand 1 := ⟨by decide +kernel, by decide +kernel⟩
theorem s_R_133 : x_siteS R_R 133 M_R_least 4 := ⟨by decide +kernel, by decide +kernel⟩
theorem s_R_141 : x_siteS R_R 141 M_R_amount 1 := ⟨by decide +kernel, by decide +kernel⟩
theorem s_R_145 : x_siteS R_R 145 M_R_belongs 4 := ⟨by decide +kernel, by decide +kernel⟩
theorem s_R_149 : x_siteS R_R 149 M_R_thinned 2 := ⟨by decide +kernel, by decide +kernel⟩
theorem s_S_19 : x_siteS R_S 19 M_S_leastFrom 3 := ⟨by decide +kernel, by decide +kernel⟩
theorem s_T_43 : x_siteS R_T 43 M_T_isCorner 1 := ⟨by decide +kernel, by decide +kernel⟩
theorem s_T_47 : x_siteS R_T 47 M_T_isSide 1 := ⟨by decide +kernel, by decide +kernel⟩
theorem s_T_50 : x_siteV R_T 50 R_S M_S_cover 2 := ⟨by decide +kernel, by decide +kernel⟩
theorem s_T_54 : x_siteS R_T 54 M_J_fill 2 := ⟨by decide +kernel, by decide +kernel⟩
theorem s_T_60 : x_siteV R_T 60 R_T M_T_cellOfPlace 3 := ⟨by decide +kernel, by decide +kernel⟩
theorem s_T_64 : x_siteV R_T 64 R_T M_T_valueIn 1 := ⟨by decide +kernel, by decide +kernel⟩
theorem s_T_68 : x_siteV R_T 68 R_T M_T_hasTile 0 := ⟨by decide +kernel, by decide +kernel⟩
theorem s_T_72 : x_siteV R_T 72 R_T M_T_mixCell 1 := ⟨by decide +kernel, by decide +kernel⟩
theorem s_T_75 : x_siteV R_T 75 R_T M_T_unmixCell 1 := ⟨by decide +kernel, by decide +kernel⟩
theorem s_T_78 : x_siteV R_T 78 R_T M_T_liftLines 5 := ⟨by decide +kernel, by decide +kernel⟩
theorem s_T_82 : x_siteV R_T 82 R_T M_T_hasLevel 1 := ⟨by decide +kernel, by decide +kernel⟩
theorem s_T_85 : x_siteS R_T 85 M_T_isLevel 1 := ⟨by decide +kernel, by decide +kernel⟩
theorem s_T_88 : x_siteS R_T 88 M_T_isSubband 1 := ⟨by decide +kernel, by decide +kernel⟩
theorem s_T_91 : x_siteS R_T 91 M_T_shiftDown 2 := ⟨by decide +kernel, by decide +kernel⟩
theorem s_T_95 : x_siteV R_T 95 R_S M_S_firstOf 2 := ⟨by decide +kernel, by decide +kernel⟩
theorem s_T_98 : x_siteS R_T 98 M_T_shiftRight 2 := ⟨by decide +kernel, by decide +kernel⟩
theorem s_T_101 : x_siteV R_T 101 R_S M_S_countOf 2 := ⟨by decide +kernel, by decide +kernel⟩
theorem s_T_104 : x_siteV R_T 104 R_T M_T_cellOfCoordinates 5 := ⟨by decide +kernel, by decide +kernel⟩
theorem s_T_108 : x_siteV R_T 108 R_T M_T_isOfSubband 3 := ⟨by decide +kernel, by decide +kernel⟩
theorem s_T_112 : x_siteS R_T 112 M_T_thinned 2 := ⟨by decide +kernel, by decide +kernel⟩
theorem s_T_115 : x_siteS R_T 115 M_T_isPlane 1 := ⟨by decide +kernel, by decide +kernel⟩
theorem s_T_120 : x_siteS R_T 120 M_T_amountOf 1 := ⟨by decide +kernel, by decide +kernel⟩
theorem s_T_127 : x_siteV R_T 127 R_S M_S_holds 1 := ⟨by decide +kernel, by decide +kernel⟩
theorem s_T_131 : x_siteV R_T 131 R_S M_S_offsetOf 1 := ⟨by decide +kernel, by decide +kernel⟩
theorem s_T_141 : x_siteV R_T 141 R_L M_L_readFrom 5 := ⟨by decide +kernel, by decide +kernel⟩
theorem s_T_145 : x_siteV R_T 145 R_L M_L_liftForth 1 := ⟨by decide +kernel, by decide +kernel⟩
theorem s_T_148 : x_siteV R_T 148 R_L M_L_liftBack 1 := ⟨by decide +kernel, by decide +kernel⟩
theorem s_T_151 : x_siteV R_T 151 R_L M_L_writeTo 3 := ⟨by decide +kernel, by decide +kernel⟩
theorem s_W_13 : x_siteV R_W 13 R_T M_T_open 4 := ⟨by decide +kernel, by decide +kernel⟩
theorem s_W_17 : x_siteV R_W 17 R_R M_R_open 4 := ⟨by decide +kernel, by decide +kernel⟩
theorem s_W_18 : x_siteV R_W 18 R_T M_T_put 4 := ⟨by decide +kernel, by decide +kernel⟩
theorem s_W_21 : x_siteV R_W 21 R_R M_R_put 4 := ⟨by decide +kernel, by decide +kernel⟩
theorem s_W_22 : x_siteV R_W 22 R_T M_T_at 3 := ⟨by decide +kernel, by decide +kernel⟩
theorem s_W_26 : x_siteV R_W 26 R_R M_R_at 3 := ⟨by decide +kernel, by decide +kernel⟩
theorem s_W_27 : x_siteV R_W 27 R_T M_T_mix 0 := ⟨by decide +kernel, by decide +kernel⟩
theorem s_W_31 : x_siteV R_W 31 R_R M_R_mix 0 := ⟨by decide +kernel, by decide +kernel⟩
theorem s_W_32 : x_siteV R_W 32 R_T M_T_unmix 0 := ⟨by decide +kernel, by decide +kernel⟩
theorem s_W_35 : x_siteV R_W 35 R_R M_R_unmix 0 := ⟨by decide +kernel, by decide +kernel⟩
theorem s_W_36 : x_siteV R_W 36 R_T M_T_mixed 0 := ⟨by decide +kernel, by decide +kernel⟩
theorem s_W_39 : x_siteV R_W 39 R_R M_R_mixed 0 := ⟨by decide +kernel, by decide +kernel⟩
theorem s_W_40 : x_siteV R_W 40 R_T M_T_forward 1 := ⟨by decide +kernel, by decide +kernel⟩
theorem s_W_44 : x_siteV R_W 44 R_R M_R_forward 1 := ⟨by decide +kernel, by decide +kernel⟩
theorem s_W_45 : x_siteV R_W 45 R_T M_T_back 0 := ⟨by decide +kernel, by decide +kernel⟩
theorem s_W_48 : x_siteV R_W 48 R_R M_R_back 0 := ⟨by decide +kernel, by decide +kernel⟩
theorem s_W_49 : x_siteV R_W 49 R_T M_T_levels 0 := ⟨by decide +kernel, by decide +kernel⟩
theorem s_W_53 : x_siteV R_W 53 R_R M_R_levels 0 := ⟨by decide +kernel, by decide +kernel⟩
theorem s_W_54 : x_siteV R_W 54 R_T M_T_kernel 1 := ⟨by decide +kernel, by decide +kernel⟩
theorem s_W_58 : x_siteV R_W 58 R_R M_R_kernel 1 := ⟨by decide +kernel, by decide +kernel⟩
theorem s_W_59 : x_siteV R_W 59 R_T M_T_start 3 := ⟨by decide +kernel, by decide +kernel⟩
theorem s_W_63 : x_siteV R_W 63 R_R M_R_start 3 := ⟨by decide +kernel, by decide +kernel⟩
theorem s_W_64 : x_siteV R_W 64 R_T M_T_size 3 := ⟨by decide +kernel, by decide +kernel⟩
theorem s_W_67 : x_siteV R_W 67 R_R M_R_size 3 := ⟨by decide +kernel, by decide +kernel⟩
theorem s_W_68 : x_siteV R_W 68 R_T M_T_coefficient 5 := ⟨by decide +kernel, by decide +kernel⟩
theorem s_W_72 : x_siteV R_W 72 R_R M_R_coefficient 5 := ⟨by decide +kernel, by decide +kernel⟩
theorem s_W_73 : x_siteV R_W 73 R_T M_T_thin 3 := ⟨by decide +kernel, by decide +kernel⟩
theorem s_W_76 : x_siteV R_W 76 R_R M_R_thin 3 := ⟨by decide +kernel, by decide +kernel⟩
theorem s_W_77 : x_siteV R_W 77 R_T M_T_weight 3 := ⟨by decide +kernel, by decide +kernel⟩
theorem s_W_81 : x_siteV R_W 81 R_R M_R_weight 3 := ⟨by decide +kernel, by decide +kernel⟩
end
section
abbrev x_sR (d o : Int32) : Int32 := (o &&& 1) <<< ((d - 1) &&& 31)
abbrev x_sD (d o : Int32) : Int32 := (o >>> (1 &&& 31)) <<< ((d - 1) &&& 31)
abbrev x_sh (d o w : Int32) : Int32 := 1 <<< ((d - 1) &&& 31) * (if w = 0 then o &&& 1 else o >>> (1 &&& 31))
abbrev x_hol (sc : Nat → Int32) (j : Nat) (z : Int64) : Prop := ¬ lg_cmp z (sc (2 * j + 2)).toInt64 < 0 ∧ ¬ 0 ≤ lg_cmp z (sc (2 * j + 2) + sc (2 * j + 3)).toInt64
abbrev x_off (sc : Nat → Int32) (j : Nat) (z : Int64) : Int32 := (z - (sc (2 * j + 2)).toInt64).toInt32 * x_st j
abbrev x_pl (x : Int32) : Prop := ¬ x < 0 ∧ ¬ 3 ≤ x
abbrev x_os (sc : Nat → Int32) (i d o : Int32) : Prop := (sc 2 + (i - i / (16 : Int32) * (16 : Int32))) &&& ((1 : Int32) <<< (d &&& 31) - 1) = x_sR d o ∧ (sc 4 + (i / (16 : Int32) - i / (16 : Int32) / (16 : Int32) * (16 : Int32))) &&& ((1 : Int32) <<< (d &&& 31) - 1) = x_sD d o
abbrev x_rp (sc : Nat → Int32) (u v : Int32) : Prop := ¬ sc 8 = 0 ∧ ¬ u < sc 9 ∧ ¬ sc 9 + sc 11 ≤ u ∧ ¬ v < sc 10 ∧ ¬ sc 10 + sc 12 ≤ v
abbrev x_be (d o u v : Int32) : Prop := (u - x_sh d o 0) - (u - x_sh d o 0) / ((2 : Int32) * (1 : Int32) <<< ((d - 1) &&& 31)) * ((2 : Int32) * (1 : Int32) <<< ((d - 1) &&& 31)) = 0 ∧ (v - x_sh d o 1) - (v - x_sh d o 1) / ((2 : Int32) * (1 : Int32) <<< ((d - 1) &&& 31)) * ((2 : Int32) * (1 : Int32) <<< ((d - 1) &&& 31)) = 0
abbrev x_op (l0 t0 w0 h0 : Int32) : Prop := (¬ l0 < 0 ∧ ¬ 1000 < l0) ∧ (¬ t0 < 0 ∧ ¬ 1000 < t0) ∧ (¬ w0 < 1 ∧ ¬ 16 < w0) ∧ (¬ h0 < 1 ∧ ¬ 16 < h0)
section C1
variable {l : Launch} {ad : Nat → Nat} {D : va_G} {cI : ClassId} {sc : Nat → Int32} {ar : Nat → Nat → Int32}
set_option maxRecDepth 100000 in
set_option maxHeartbeats 4000000 in
theorem c_T_isCorner (hd : x_dis ad) {x : Int32} : x_Con l M_T_isCorner 0 0 ad D cI [.int x] sc ar (x_E (some (.int (x_b (¬ x < 0 ∧ ¬ 1000 < x)))) sc ar) := by
  refine x_intro hd [some (.int x)] (by decide) (Nat.le_of_ble_eq_true rfl) rfl ?_
  intro p e s m args below meth c X
  refine xg_iload_n X (pc := 0) d_T_isCorner_0 rfl ?_
  refine xg_if_lt X (pc := 1) (tgt := 15) d_T_isCorner_1 rfl (fun h1 => ?_) (fun h1 => ?_)
  · refine xg_iconst X (pc := 15) (v := 0) d_T_isCorner_15 (by decide) ?_
    exact xg_iret X (pc := 16) d_T_isCorner_16 rfl (rfl) (by first | exact x_ret1 (by simp_all [x_hol, x_pl, x_rp, x_be, x_op, x_os]) | exact x_ret0 (by simp_all [x_hol, x_pl, x_rp, x_be, x_op, x_os]))
  · refine xg_iload_n X (pc := 4) d_T_isCorner_4 rfl ?_
    refine xg_sipush X (pc := 5) (v := 1000) d_T_isCorner_5 (by decide) ?_
    refine xg_icmp_gt X (pc := 8) (tgt := 15) d_T_isCorner_8 rfl (fun h8 => ?_) (fun h8 => ?_)
    · refine xg_iconst X (pc := 15) (v := 0) d_T_isCorner_15 (by decide) ?_
      exact xg_iret X (pc := 16) d_T_isCorner_16 rfl (rfl) (by first | exact x_ret1 (by simp_all [x_hol, x_pl, x_rp, x_be, x_op, x_os]) | exact x_ret0 (by simp_all [x_hol, x_pl, x_rp, x_be, x_op, x_os]))
    · refine xg_iconst X (pc := 11) (v := 1) d_T_isCorner_11 (by decide) ?_
      refine xg_goto X (pc := 12) (tgt := 16) d_T_isCorner_12 rfl ?_
      exact xg_iret X (pc := 16) d_T_isCorner_16 rfl (rfl) (by first | exact x_ret1 (by simp_all [x_hol, x_pl, x_rp, x_be, x_op, x_os]) | exact x_ret0 (by simp_all [x_hol, x_pl, x_rp, x_be, x_op, x_os]))
set_option maxRecDepth 100000 in
set_option maxHeartbeats 4000000 in
theorem c_T_isSide (hd : x_dis ad) {x : Int32} : x_Con l M_T_isSide 0 0 ad D cI [.int x] sc ar (x_E (some (.int (x_b (¬ x < 1 ∧ ¬ 16 < x)))) sc ar) := by
  refine x_intro hd [some (.int x)] (by decide) (Nat.le_of_ble_eq_true rfl) rfl ?_
  intro p e s m args below meth c X
  refine xg_iload_n X (pc := 0) d_T_isSide_0 rfl ?_
  refine xg_iconst X (pc := 1) (v := 1) d_T_isSide_1 (by decide) ?_
  refine xg_icmp_lt X (pc := 2) (tgt := 15) d_T_isSide_2 rfl (fun h2 => ?_) (fun h2 => ?_)
  · refine xg_iconst X (pc := 15) (v := 0) d_T_isSide_15 (by decide) ?_
    exact xg_iret X (pc := 16) d_T_isSide_16 rfl (rfl) (by first | exact x_ret1 (by simp_all [x_hol, x_pl, x_rp, x_be, x_op, x_os]) | exact x_ret0 (by simp_all [x_hol, x_pl, x_rp, x_be, x_op, x_os]))
  · refine xg_iload_n X (pc := 5) d_T_isSide_5 rfl ?_
    refine xg_bipush X (pc := 6) (v := 16) d_T_isSide_6 (by decide) ?_
    refine xg_icmp_gt X (pc := 8) (tgt := 15) d_T_isSide_8 rfl (fun h8 => ?_) (fun h8 => ?_)
    · refine xg_iconst X (pc := 15) (v := 0) d_T_isSide_15 (by decide) ?_
      exact xg_iret X (pc := 16) d_T_isSide_16 rfl (rfl) (by first | exact x_ret1 (by simp_all [x_hol, x_pl, x_rp, x_be, x_op, x_os]) | exact x_ret0 (by simp_all [x_hol, x_pl, x_rp, x_be, x_op, x_os]))
    · refine xg_iconst X (pc := 11) (v := 1) d_T_isSide_11 (by decide) ?_
      refine xg_goto X (pc := 12) (tgt := 16) d_T_isSide_12 rfl ?_
      exact xg_iret X (pc := 16) d_T_isSide_16 rfl (rfl) (by first | exact x_ret1 (by simp_all [x_hol, x_pl, x_rp, x_be, x_op, x_os]) | exact x_ret0 (by simp_all [x_hol, x_pl, x_rp, x_be, x_op, x_os]))
set_option maxRecDepth 100000 in
set_option maxHeartbeats 4000000 in
theorem c_T_isPlane (hd : x_dis ad) {x : Int32} : x_Con l M_T_isPlane 0 0 ad D cI [.int x] sc ar (x_E (some (.int (x_b (¬ x < 0 ∧ ¬ 3 ≤ x)))) sc ar) := by
  refine x_intro hd [some (.int x)] (by decide) (Nat.le_of_ble_eq_true rfl) rfl ?_
  intro p e s m args below meth c X
  refine xg_iload_n X (pc := 0) d_T_isPlane_0 rfl ?_
  refine xg_if_lt X (pc := 1) (tgt := 13) d_T_isPlane_1 rfl (fun h1 => ?_) (fun h1 => ?_)
  · refine xg_iconst X (pc := 13) (v := 0) d_T_isPlane_13 (by decide) ?_
    exact xg_iret X (pc := 14) d_T_isPlane_14 rfl (rfl) (by first | exact x_ret1 (by simp_all [x_hol, x_pl, x_rp, x_be, x_op, x_os]) | exact x_ret0 (by simp_all [x_hol, x_pl, x_rp, x_be, x_op, x_os]))
  · refine xg_iload_n X (pc := 4) d_T_isPlane_4 rfl ?_
    refine xg_iconst X (pc := 5) (v := 3) d_T_isPlane_5 (by decide) ?_
    refine xg_icmp_ge X (pc := 6) (tgt := 13) d_T_isPlane_6 rfl (fun h6 => ?_) (fun h6 => ?_)
    · refine xg_iconst X (pc := 13) (v := 0) d_T_isPlane_13 (by decide) ?_
      exact xg_iret X (pc := 14) d_T_isPlane_14 rfl (rfl) (by first | exact x_ret1 (by simp_all [x_hol, x_pl, x_rp, x_be, x_op, x_os]) | exact x_ret0 (by simp_all [x_hol, x_pl, x_rp, x_be, x_op, x_os]))
    · refine xg_iconst X (pc := 9) (v := 1) d_T_isPlane_9 (by decide) ?_
      refine xg_goto X (pc := 10) (tgt := 14) d_T_isPlane_10 rfl ?_
      exact xg_iret X (pc := 14) d_T_isPlane_14 rfl (rfl) (by first | exact x_ret1 (by simp_all [x_hol, x_pl, x_rp, x_be, x_op, x_os]) | exact x_ret0 (by simp_all [x_hol, x_pl, x_rp, x_be, x_op, x_os]))
set_option maxRecDepth 100000 in
set_option maxHeartbeats 4000000 in
theorem c_T_isLevel (hd : x_dis ad) {x : Int32} : x_Con l M_T_isLevel 0 0 ad D cI [.int x] sc ar (x_E (some (.int (x_b (¬ x < 1 ∧ ¬ 4 < x)))) sc ar) := by
  refine x_intro hd [some (.int x)] (by decide) (Nat.le_of_ble_eq_true rfl) rfl ?_
  intro p e s m args below meth c X
  refine xg_iload_n X (pc := 0) d_T_isLevel_0 rfl ?_
  refine xg_iconst X (pc := 1) (v := 1) d_T_isLevel_1 (by decide) ?_
  refine xg_icmp_lt X (pc := 2) (tgt := 14) d_T_isLevel_2 rfl (fun h2 => ?_) (fun h2 => ?_)
  · refine xg_iconst X (pc := 14) (v := 0) d_T_isLevel_14 (by decide) ?_
    exact xg_iret X (pc := 15) d_T_isLevel_15 rfl (rfl) (by first | exact x_ret1 (by simp_all [x_hol, x_pl, x_rp, x_be, x_op, x_os]) | exact x_ret0 (by simp_all [x_hol, x_pl, x_rp, x_be, x_op, x_os]))
  · refine xg_iload_n X (pc := 5) d_T_isLevel_5 rfl ?_
    refine xg_iconst X (pc := 6) (v := 4) d_T_isLevel_6 (by decide) ?_
    refine xg_icmp_gt X (pc := 7) (tgt := 14) d_T_isLevel_7 rfl (fun h7 => ?_) (fun h7 => ?_)
    · refine xg_iconst X (pc := 14) (v := 0) d_T_isLevel_14 (by decide) ?_
      exact xg_iret X (pc := 15) d_T_isLevel_15 rfl (rfl) (by first | exact x_ret1 (by simp_all [x_hol, x_pl, x_rp, x_be, x_op, x_os]) | exact x_ret0 (by simp_all [x_hol, x_pl, x_rp, x_be, x_op, x_os]))
    · refine xg_iconst X (pc := 10) (v := 1) d_T_isLevel_10 (by decide) ?_
      refine xg_goto X (pc := 11) (tgt := 15) d_T_isLevel_11 rfl ?_
      exact xg_iret X (pc := 15) d_T_isLevel_15 rfl (rfl) (by first | exact x_ret1 (by simp_all [x_hol, x_pl, x_rp, x_be, x_op, x_os]) | exact x_ret0 (by simp_all [x_hol, x_pl, x_rp, x_be, x_op, x_os]))
set_option maxRecDepth 100000 in
set_option maxHeartbeats 4000000 in
theorem c_T_isSubband (hd : x_dis ad) {x : Int32} : x_Con l M_T_isSubband 0 0 ad D cI [.int x] sc ar (x_E (some (.int (x_b (¬ x < 0 ∧ ¬ 4 ≤ x)))) sc ar) := by
  refine x_intro hd [some (.int x)] (by decide) (Nat.le_of_ble_eq_true rfl) rfl ?_
  intro p e s m args below meth c X
  refine xg_iload_n X (pc := 0) d_T_isSubband_0 rfl ?_
  refine xg_if_lt X (pc := 1) (tgt := 13) d_T_isSubband_1 rfl (fun h1 => ?_) (fun h1 => ?_)
  · refine xg_iconst X (pc := 13) (v := 0) d_T_isSubband_13 (by decide) ?_
    exact xg_iret X (pc := 14) d_T_isSubband_14 rfl (rfl) (by first | exact x_ret1 (by simp_all [x_hol, x_pl, x_rp, x_be, x_op, x_os]) | exact x_ret0 (by simp_all [x_hol, x_pl, x_rp, x_be, x_op, x_os]))
  · refine xg_iload_n X (pc := 4) d_T_isSubband_4 rfl ?_
    refine xg_iconst X (pc := 5) (v := 4) d_T_isSubband_5 (by decide) ?_
    refine xg_icmp_ge X (pc := 6) (tgt := 13) d_T_isSubband_6 rfl (fun h6 => ?_) (fun h6 => ?_)
    · refine xg_iconst X (pc := 13) (v := 0) d_T_isSubband_13 (by decide) ?_
      exact xg_iret X (pc := 14) d_T_isSubband_14 rfl (rfl) (by first | exact x_ret1 (by simp_all [x_hol, x_pl, x_rp, x_be, x_op, x_os]) | exact x_ret0 (by simp_all [x_hol, x_pl, x_rp, x_be, x_op, x_os]))
    · refine xg_iconst X (pc := 9) (v := 1) d_T_isSubband_9 (by decide) ?_
      refine xg_goto X (pc := 10) (tgt := 14) d_T_isSubband_10 rfl ?_
      exact xg_iret X (pc := 14) d_T_isSubband_14 rfl (rfl) (by first | exact x_ret1 (by simp_all [x_hol, x_pl, x_rp, x_be, x_op, x_os]) | exact x_ret0 (by simp_all [x_hol, x_pl, x_rp, x_be, x_op, x_os]))
set_option maxRecDepth 100000 in
set_option maxHeartbeats 4000000 in
theorem c_T_hasTile (hd : x_dis ad) : x_Con l M_T_hasTile 0 0 ad D cI [.ref (ad 0)] sc ar (x_E (some (.int (x_b (¬ sc 3 ≤ 0)))) sc ar) := by
  refine x_intro hd [some (.ref (ad 0))] (by decide) (Nat.le_of_ble_eq_true rfl) rfl ?_
  intro p e s m args below meth c X
  refine xg_aload_n X (pc := 0) d_T_hasTile_0 rfl ?_
  refine xf_T_18 X (pc := 1) rfl d_T_hasTile_1 ?_
  refine xf_T_124_2 X (pc := 4) rfl d_T_hasTile_4 ?_
  refine xg_if_le X (pc := 7) (tgt := 14) d_T_hasTile_7 rfl (fun h7 => ?_) (fun h7 => ?_)
  · refine xg_iconst X (pc := 14) (v := 0) d_T_hasTile_14 (by decide) ?_
    exact xg_iret X (pc := 15) d_T_hasTile_15 rfl (rfl) (by first | exact x_ret1 (by simp_all [x_hol, x_pl, x_rp, x_be, x_op, x_os]) | exact x_ret0 (by simp_all [x_hol, x_pl, x_rp, x_be, x_op, x_os]))
  · refine xg_iconst X (pc := 10) (v := 1) d_T_hasTile_10 (by decide) ?_
    refine xg_goto X (pc := 11) (tgt := 15) d_T_hasTile_11 rfl ?_
    exact xg_iret X (pc := 15) d_T_hasTile_15 rfl (rfl) (by first | exact x_ret1 (by simp_all [x_hol, x_pl, x_rp, x_be, x_op, x_os]) | exact x_ret0 (by simp_all [x_hol, x_pl, x_rp, x_be, x_op, x_os]))
set_option maxRecDepth 100000 in
set_option maxHeartbeats 4000000 in
theorem c_T_hasLevel (hd : x_dis ad) {d : Int32} : x_Con l M_T_hasLevel 0 0 ad D cI [.ref (ad 0), .int d] sc ar (x_E (some (.int (x_b (¬ d < 1 ∧ ¬ sc 0 < d)))) sc ar) := by
  refine x_intro hd [some (.ref (ad 0)), some (.int d)] (by decide) (Nat.le_of_ble_eq_true rfl) rfl ?_
  intro p e s m args below meth c X
  refine xg_iload_n X (pc := 0) d_T_hasLevel_0 rfl ?_
  refine xg_iconst X (pc := 1) (v := 1) d_T_hasLevel_1 (by decide) ?_
  refine xg_icmp_lt X (pc := 2) (tgt := 17) d_T_hasLevel_2 rfl (fun h2 => ?_) (fun h2 => ?_)
  · refine xg_iconst X (pc := 17) (v := 0) d_T_hasLevel_17 (by decide) ?_
    exact xg_iret X (pc := 18) d_T_hasLevel_18 rfl (rfl) (by first | exact x_ret1 (by simp_all [x_hol, x_pl, x_rp, x_be, x_op, x_os]) | exact x_ret0 (by simp_all [x_hol, x_pl, x_rp, x_be, x_op, x_os]))
  · refine xg_iload_n X (pc := 5) d_T_hasLevel_5 rfl ?_
    refine xg_aload_n X (pc := 6) d_T_hasLevel_6 rfl ?_
    refine xf_T_35 X (pc := 7) rfl d_T_hasLevel_7 ?_
    refine xg_icmp_gt X (pc := 10) (tgt := 17) d_T_hasLevel_10 rfl (fun h10 => ?_) (fun h10 => ?_)
    · refine xg_iconst X (pc := 17) (v := 0) d_T_hasLevel_17 (by decide) ?_
      exact xg_iret X (pc := 18) d_T_hasLevel_18 rfl (rfl) (by first | exact x_ret1 (by simp_all [x_hol, x_pl, x_rp, x_be, x_op, x_os]) | exact x_ret0 (by simp_all [x_hol, x_pl, x_rp, x_be, x_op, x_os]))
    · refine xg_iconst X (pc := 13) (v := 1) d_T_hasLevel_13 (by decide) ?_
      refine xg_goto X (pc := 14) (tgt := 18) d_T_hasLevel_14 rfl ?_
      exact xg_iret X (pc := 18) d_T_hasLevel_18 rfl (rfl) (by first | exact x_ret1 (by simp_all [x_hol, x_pl, x_rp, x_be, x_op, x_os]) | exact x_ret0 (by simp_all [x_hol, x_pl, x_rp, x_be, x_op, x_os]))
set_option maxRecDepth 100000 in
set_option maxHeartbeats 4000000 in
theorem c_T_shiftRight (hd : x_dis ad) {d o : Int32} : x_Con l M_T_shiftRight 0 0 ad D cI [.int d, .int o] sc ar (x_E (some (.int ((o &&& 1) <<< ((d - 1) &&& 31)))) sc ar) := by
  refine x_intro hd [some (.int d), some (.int o)] (by decide) (Nat.le_of_ble_eq_true rfl) rfl ?_
  intro p e s m args below meth c X
  refine xg_iload_n X (pc := 0) d_T_shiftRight_0 rfl ?_
  refine xg_iconst X (pc := 1) (v := 1) d_T_shiftRight_1 (by decide) ?_
  refine xg_iand X (pc := 2) d_T_shiftRight_2 ?_
  refine xg_iload_n X (pc := 3) d_T_shiftRight_3 rfl ?_
  refine xg_iconst X (pc := 4) (v := 1) d_T_shiftRight_4 (by decide) ?_
  refine xg_isub X (pc := 5) d_T_shiftRight_5 ?_
  refine xg_ishl X (pc := 6) d_T_shiftRight_6 ?_
  exact xg_iret X (pc := 7) d_T_shiftRight_7 rfl (rfl) (⟨rfl, rfl, rfl⟩)
set_option maxRecDepth 100000 in
set_option maxHeartbeats 4000000 in
theorem c_T_shiftDown (hd : x_dis ad) {d o : Int32} : x_Con l M_T_shiftDown 0 0 ad D cI [.int d, .int o] sc ar (x_E (some (.int ((o >>> (1 &&& 31)) <<< ((d - 1) &&& 31)))) sc ar) := by
  refine x_intro hd [some (.int d), some (.int o)] (by decide) (Nat.le_of_ble_eq_true rfl) rfl ?_
  intro p e s m args below meth c X
  refine xg_iload_n X (pc := 0) d_T_shiftDown_0 rfl ?_
  refine xg_iconst X (pc := 1) (v := 1) d_T_shiftDown_1 (by decide) ?_
  refine xg_ishr X (pc := 2) d_T_shiftDown_2 ?_
  refine xg_iload_n X (pc := 3) d_T_shiftDown_3 rfl ?_
  refine xg_iconst X (pc := 4) (v := 1) d_T_shiftDown_4 (by decide) ?_
  refine xg_isub X (pc := 5) d_T_shiftDown_5 ?_
  refine xg_ishl X (pc := 6) d_T_shiftDown_6 ?_
  exact xg_iret X (pc := 7) d_T_shiftDown_7 rfl (rfl) (⟨rfl, rfl, rfl⟩)
def x_lf (b p t : Int32) : Int32 := (b - t + 1 <<< (p &&& 31) - 1) >>> (p &&& 31)
set_option maxRecDepth 100000 in
set_option maxHeartbeats 4000000 in
theorem c_S_leastFrom (hd : x_dis ad) {b p t : Int32} : x_Con l M_S_leastFrom 0 0 ad D cI [.int b, .int p, .int t] sc ar (x_E (some (.int (x_lf b p t))) sc ar) := by
  refine x_intro hd [some (.int b), some (.int p), some (.int t)] (by decide) (Nat.le_of_ble_eq_true rfl) rfl ?_
  intro p e s m args below meth c X
  refine xg_iload_n X (pc := 0) d_S_leastFrom_0 rfl ?_
  refine xg_iload_n X (pc := 1) d_S_leastFrom_1 rfl ?_
  refine xg_isub X (pc := 2) d_S_leastFrom_2 ?_
  refine xg_iconst X (pc := 3) (v := 1) d_S_leastFrom_3 (by decide) ?_
  refine xg_iload_n X (pc := 4) d_S_leastFrom_4 rfl ?_
  refine xg_ishl X (pc := 5) d_S_leastFrom_5 ?_
  refine xg_iadd X (pc := 6) d_S_leastFrom_6 ?_
  refine xg_iconst X (pc := 7) (v := 1) d_S_leastFrom_7 (by decide) ?_
  refine xg_isub X (pc := 8) d_S_leastFrom_8 ?_
  refine xg_iload_n X (pc := 9) d_S_leastFrom_9 rfl ?_
  refine xg_ishr X (pc := 10) d_S_leastFrom_10 ?_
  exact xg_iret X (pc := 11) d_S_leastFrom_11 rfl (rfl) (⟨rfl, rfl, rfl⟩)
set_option maxRecDepth 100000 in
set_option maxHeartbeats 4000000 in
theorem c_S_firstOf (hd : x_dis ad) {p t : Int32} {j : Nat} (hj : j < 2) : x_Con l M_S_firstOf 1 22 ad D cI [.ref (ad (j + 2)), .int p, .int t] sc ar (x_E (some (.int (x_lf (sc (2 * j + 2)) p t))) sc ar) := by
  refine x_intro hd [some (.ref (ad (j + 2))), some (.int p), some (.int t)] (by decide) (Nat.le_of_ble_eq_true rfl) rfl ?_
  intro p e s m args below meth c X
  refine xg_aload_n X (pc := 0) d_S_firstOf_0 rfl ?_
  refine xf_S_13_j X (pc := 1) hj rfl d_S_firstOf_1 ?_
  refine xg_iload_n X (pc := 4) d_S_firstOf_4 rfl ?_
  refine xg_iload_n X (pc := 5) d_S_firstOf_5 rfl ?_
  refine xg_crS3 X (pc := 6) d_S_firstOf_6 (c_S_leastFrom hd) s_S_19 ⟨by decide, by decide⟩ (Nat.le_of_ble_eq_true rfl) ?_
  exact xg_iret X (pc := 9) d_S_firstOf_9 rfl (rfl) (⟨rfl, rfl, rfl⟩)
set_option maxRecDepth 100000 in
set_option maxHeartbeats 4000000 in
theorem c_S_countOf (hd : x_dis ad) {p t : Int32} {j : Nat} (hj : j < 2) : x_Con l M_S_countOf 1 22 ad D cI [.ref (ad (j + 2)), .int p, .int t] sc ar (x_E (some (.int (x_lf (sc (2 * j + 2) + sc (2 * j + 3)) p t - x_lf (sc (2 * j + 2)) p t))) sc ar) := by
  refine x_intro hd [some (.ref (ad (j + 2))), some (.int p), some (.int t)] (by decide) (Nat.le_of_ble_eq_true rfl) rfl ?_
  intro p e s m args below meth c X
  refine xg_aload_n X (pc := 0) d_S_countOf_0 rfl ?_
  refine xf_S_13_j X (pc := 1) hj rfl d_S_countOf_1 ?_
  refine xg_aload_n X (pc := 4) d_S_countOf_4 rfl ?_
  refine xf_S_16_j X (pc := 5) hj rfl d_S_countOf_5 ?_
  refine xg_iadd X (pc := 8) d_S_countOf_8 ?_
  refine xg_iload_n X (pc := 9) d_S_countOf_9 rfl ?_
  refine xg_iload_n X (pc := 10) d_S_countOf_10 rfl ?_
  refine xg_crS3 X (pc := 11) d_S_countOf_11 (c_S_leastFrom hd) s_S_19 ⟨by decide, by decide⟩ (Nat.le_of_ble_eq_true rfl) ?_
  refine xg_aload_n X (pc := 14) d_S_countOf_14 rfl ?_
  refine xf_S_13_j X (pc := 15) hj rfl d_S_countOf_15 ?_
  refine xg_iload_n X (pc := 18) d_S_countOf_18 rfl ?_
  refine xg_iload_n X (pc := 19) d_S_countOf_19 rfl ?_
  refine xg_crS3 X (pc := 20) d_S_countOf_20 (c_S_leastFrom hd) s_S_19 ⟨by decide, by decide⟩ (Nat.le_of_ble_eq_true rfl) ?_
  refine xg_isub X (pc := 23) d_S_countOf_23 ?_
  exact xg_iret X (pc := 24) d_S_countOf_24 rfl (rfl) (⟨rfl, rfl, rfl⟩)
set_option maxRecDepth 100000 in
set_option maxHeartbeats 4000000 in
theorem c_S_offsetOf (hd : x_dis ad) {z : Int64} {j : Nat} (hj : j < 2) : x_Con l M_S_offsetOf 0 0 ad D cI [.ref (ad (j + 2)), .long z] sc ar (x_E (some (.int ((z - (sc (2 * j + 2)).toInt64).toInt32 * x_st j))) sc ar) := by
  refine x_intro hd [some (.ref (ad (j + 2))), some (.long z), none] (by decide) (Nat.le_of_ble_eq_true rfl) rfl ?_
  intro p e s m args below meth c X
  refine xg_lload_n X (pc := 0) d_S_offsetOf_0 rfl ?_
  refine xg_aload_n X (pc := 1) d_S_offsetOf_1 rfl ?_
  refine xf_S_13_j X (pc := 2) hj rfl d_S_offsetOf_2 ?_
  refine xg_i2l X (pc := 5) d_S_offsetOf_5 ?_
  refine xg_lsub X (pc := 6) d_S_offsetOf_6 ?_
  refine xg_l2i X (pc := 7) d_S_offsetOf_7 ?_
  refine xg_aload_n X (pc := 8) d_S_offsetOf_8 rfl ?_
  refine xf_S_7_j X (pc := 9) hj rfl d_S_offsetOf_9 ?_
  refine xg_imul X (pc := 12) d_S_offsetOf_12 ?_
  exact xg_iret X (pc := 13) d_S_offsetOf_13 rfl (rfl) (⟨rfl, rfl, rfl⟩)
set_option maxRecDepth 100000 in
set_option maxHeartbeats 4000000 in
theorem c_S_cover (hd : x_dis ad) {b n : Int32} {j : Nat} (hj : j < 2) : x_Con l M_S_cover 0 0 ad D cI [.ref (ad (j + 2)), .int b, .int n] sc ar (x_E none (upd (upd sc (2 * j + 2) b) (2 * j + 3) n) ar) := by
  refine x_intro hd [some (.ref (ad (j + 2))), some (.int b), some (.int n)] (by decide) (Nat.le_of_ble_eq_true rfl) rfl ?_
  intro p e s m args below meth c X
  refine xg_aload_n X (pc := 0) d_S_cover_0 rfl ?_
  refine xg_iload_n X (pc := 1) d_S_cover_1 rfl ?_
  refine xp_S_13_j X (pc := 2) hj rfl d_S_cover_2 ?_
  refine xg_aload_n X (pc := 5) d_S_cover_5 rfl ?_
  refine xg_iload_n X (pc := 6) d_S_cover_6 rfl ?_
  refine xp_S_16_j X (pc := 7) hj rfl d_S_cover_7 ?_
  exact xg_vret X (pc := 10) d_S_cover_10 rfl (⟨rfl, rfl, rfl⟩)
set_option maxRecDepth 100000 in
set_option maxHeartbeats 4000000 in
theorem c_L_isOdd (hd : x_dis ad) {n : Int32} : x_Con l M_L_isOdd 0 0 ad D cI [.int n] sc ar (x_E (some (.int (x_b (n &&& 1 = 1)))) sc ar) := by
  refine x_intro hd [some (.int n)] (by decide) (Nat.le_of_ble_eq_true rfl) rfl ?_
  intro p e s m args below meth c X
  refine xg_iload_n X (pc := 0) d_L_isOdd_0 rfl ?_
  refine xg_iconst X (pc := 1) (v := 1) d_L_isOdd_1 (by decide) ?_
  refine xg_iand X (pc := 2) d_L_isOdd_2 ?_
  refine xg_iconst X (pc := 3) (v := 1) d_L_isOdd_3 (by decide) ?_
  refine xg_icmp_ne X (pc := 4) (tgt := 11) d_L_isOdd_4 rfl (fun h4 => ?_) (fun h4 => ?_)
  · refine xg_iconst X (pc := 11) (v := 0) d_L_isOdd_11 (by decide) ?_
    exact xg_iret X (pc := 12) d_L_isOdd_12 rfl (rfl) (by first | exact x_ret1 (by simp_all [x_hol, x_pl, x_rp, x_be, x_op, x_os]) | exact x_ret0 (by simp_all [x_hol, x_pl, x_rp, x_be, x_op, x_os]))
  · refine xg_iconst X (pc := 7) (v := 1) d_L_isOdd_7 (by decide) ?_
    refine xg_goto X (pc := 8) (tgt := 12) d_L_isOdd_8 rfl ?_
    exact xg_iret X (pc := 12) d_L_isOdd_12 rfl (rfl) (by first | exact x_ret1 (by simp_all [x_hol, x_pl, x_rp, x_be, x_op, x_os]) | exact x_ret0 (by simp_all [x_hol, x_pl, x_rp, x_be, x_op, x_os]))
end C1
end
section
section C2
variable {l : Launch} {ad : Nat → Nat} {D : va_G} {cI : ClassId} {sc : Nat → Int32} {ar : Nat → Nat → Int32}
set_option maxRecDepth 100000 in
set_option maxHeartbeats 4000000 in
theorem c_S_holds (hd : x_dis ad) {z : Int64} {j : Nat} (hj : j < 2) : x_Con l M_S_holds 0 0 ad D cI [.ref (ad (j + 2)), .long z] sc ar (x_E (some (.int (x_b (x_hol sc j z)))) sc ar) := by
  refine x_intro hd [some (.ref (ad (j + 2))), some (.long z), none] (by decide) (Nat.le_of_ble_eq_true rfl) rfl ?_
  intro p e s m args below meth c X
  refine xg_lload_n X (pc := 0) d_S_holds_0 rfl ?_
  refine xg_aload_n X (pc := 1) d_S_holds_1 rfl ?_
  refine xf_S_13_j X (pc := 2) hj rfl d_S_holds_2 ?_
  refine xg_i2l X (pc := 5) d_S_holds_5 ?_
  refine xg_lcmp X (pc := 6) d_S_holds_6 ?_
  refine xg_if_lt X (pc := 7) (tgt := 29) d_S_holds_7 rfl (fun h7 => ?_) (fun h7 => ?_)
  · refine xg_iconst X (pc := 29) (v := 0) d_S_holds_29 (by decide) ?_
    exact xg_iret X (pc := 30) d_S_holds_30 rfl (rfl) (by first | exact x_ret1 (by simp_all [x_hol, x_pl, x_rp, x_be, x_op, x_os]) | exact x_ret0 (by simp_all [x_hol, x_pl, x_rp, x_be, x_op, x_os]))
  · refine xg_lload_n X (pc := 10) d_S_holds_10 rfl ?_
    refine xg_aload_n X (pc := 11) d_S_holds_11 rfl ?_
    refine xf_S_13_j X (pc := 12) hj rfl d_S_holds_12 ?_
    refine xg_aload_n X (pc := 15) d_S_holds_15 rfl ?_
    refine xf_S_16_j X (pc := 16) hj rfl d_S_holds_16 ?_
    refine xg_iadd X (pc := 19) d_S_holds_19 ?_
    refine xg_i2l X (pc := 20) d_S_holds_20 ?_
    refine xg_lcmp X (pc := 21) d_S_holds_21 ?_
    refine xg_if_ge X (pc := 22) (tgt := 29) d_S_holds_22 rfl (fun h22 => ?_) (fun h22 => ?_)
    · refine xg_iconst X (pc := 29) (v := 0) d_S_holds_29 (by decide) ?_
      exact xg_iret X (pc := 30) d_S_holds_30 rfl (rfl) (by first | exact x_ret1 (by simp_all [x_hol, x_pl, x_rp, x_be, x_op, x_os]) | exact x_ret0 (by simp_all [x_hol, x_pl, x_rp, x_be, x_op, x_os]))
    · refine xg_iconst X (pc := 25) (v := 1) d_S_holds_25 (by decide) ?_
      refine xg_goto X (pc := 26) (tgt := 30) d_S_holds_26 rfl ?_
      exact xg_iret X (pc := 30) d_S_holds_30 rfl (rfl) (by first | exact x_ret1 (by simp_all [x_hol, x_pl, x_rp, x_be, x_op, x_os]) | exact x_ret0 (by simp_all [x_hol, x_pl, x_rp, x_be, x_op, x_os]))
abbrev x_cp (sc : Nat → Int32) (pl : Int32) (u v : Int64) : Int32 := if x_pl pl ∧ x_hol sc 0 u ∧ x_hol sc 1 v then pl * 256 + x_off sc 0 u + x_off sc 1 v else -1
set_option maxRecDepth 100000 in
set_option maxHeartbeats 4000000 in
theorem c_T_cellOfPlace (hd : x_dis ad) {pl : Int32} {u v : Int64} : x_Con l M_T_cellOfPlace 1 22 ad D cI [.ref (ad 0), .int pl, .long u, .long v] sc ar (x_E (some (.int (x_cp sc pl u v))) sc ar) := by
  refine x_intro hd [some (.ref (ad 0)), some (.int pl), some (.long u), none, some (.long v), none] (by decide) (Nat.le_of_ble_eq_true rfl) rfl ?_
  intro p e s m args below meth c X
  refine xg_iload_n X (pc := 0) d_T_cellOfPlace_0 rfl ?_
  refine xg_crS1 X (pc := 1) d_T_cellOfPlace_1 (c_T_isPlane hd) s_T_115 ⟨by decide, by decide⟩ (Nat.le_of_ble_eq_true rfl) ?_
  refine xg_if_eq X (pc := 4) (tgt := 30) d_T_cellOfPlace_4 rfl (fun h4 => ?_) (fun h4 => ?_)
  · replace h4 := x_b0 h4
    refine xg_iconst X (pc := 30) (v := -1) d_T_cellOfPlace_30 (by decide) ?_
    exact xg_iret X (pc := 31) d_T_cellOfPlace_31 rfl (rfl) (⟨by unfold x_cp; (repeat' split) <;> first | rfl | (exfalso; simp_all [x_hol, x_pl, x_rp, x_be, x_op, x_os]), rfl, rfl⟩)
  · replace h4 := x_bn h4
    refine xg_aload_n X (pc := 7) d_T_cellOfPlace_7 rfl ?_
    refine xf_T_18 X (pc := 8) rfl d_T_cellOfPlace_8 ?_
    refine xg_lload_n X (pc := 11) d_T_cellOfPlace_11 rfl ?_
    refine xg_crV1 X (pc := 12) d_T_cellOfPlace_12 (c_S_holds hd (j := 0) (by decide)) s_T_127 ⟨_, rfl⟩ rfl ⟨by decide, by decide⟩ (Nat.le_of_ble_eq_true rfl) ?_
    refine xg_if_eq X (pc := 15) (tgt := 30) d_T_cellOfPlace_15 rfl (fun h15 => ?_) (fun h15 => ?_)
    · replace h15 := x_b0 h15
      refine xg_iconst X (pc := 30) (v := -1) d_T_cellOfPlace_30 (by decide) ?_
      exact xg_iret X (pc := 31) d_T_cellOfPlace_31 rfl (rfl) (⟨by unfold x_cp; (repeat' split) <;> first | rfl | (exfalso; simp_all [x_hol, x_pl, x_rp, x_be, x_op, x_os]), rfl, rfl⟩)
    · replace h15 := x_bn h15
      refine xg_aload_n X (pc := 18) d_T_cellOfPlace_18 rfl ?_
      refine xf_T_22 X (pc := 19) rfl d_T_cellOfPlace_19 ?_
      refine xg_lload X (pc := 22) d_T_cellOfPlace_22 rfl ?_
      refine xg_crV1 X (pc := 24) d_T_cellOfPlace_24 (c_S_holds hd (j := 1) (by decide)) s_T_127 ⟨_, rfl⟩ rfl ⟨by decide, by decide⟩ (Nat.le_of_ble_eq_true rfl) ?_
      refine xg_if_ne X (pc := 27) (tgt := 32) d_T_cellOfPlace_27 rfl (fun h27 => ?_) (fun h27 => ?_)
      · replace h27 := x_bn h27
        refine xg_iload_n X (pc := 32) d_T_cellOfPlace_32 rfl ?_
        refine xg_sipush X (pc := 33) (v := 256) d_T_cellOfPlace_33 (by decide) ?_
        refine xg_imul X (pc := 36) d_T_cellOfPlace_36 ?_
        refine xg_aload_n X (pc := 37) d_T_cellOfPlace_37 rfl ?_
        refine xf_T_18 X (pc := 38) rfl d_T_cellOfPlace_38 ?_
        refine xg_lload_n X (pc := 41) d_T_cellOfPlace_41 rfl ?_
        refine xg_crV1 X (pc := 42) d_T_cellOfPlace_42 (c_S_offsetOf hd (j := 0) (by decide)) s_T_131 ⟨_, rfl⟩ rfl ⟨by decide, by decide⟩ (Nat.le_of_ble_eq_true rfl) ?_
        refine xg_iadd X (pc := 45) d_T_cellOfPlace_45 ?_
        refine xg_aload_n X (pc := 46) d_T_cellOfPlace_46 rfl ?_
        refine xf_T_22 X (pc := 47) rfl d_T_cellOfPlace_47 ?_
        refine xg_lload X (pc := 50) d_T_cellOfPlace_50 rfl ?_
        refine xg_crV1 X (pc := 52) d_T_cellOfPlace_52 (c_S_offsetOf hd (j := 1) (by decide)) s_T_131 ⟨_, rfl⟩ rfl ⟨by decide, by decide⟩ (Nat.le_of_ble_eq_true rfl) ?_
        refine xg_iadd X (pc := 55) d_T_cellOfPlace_55 ?_
        exact xg_iret X (pc := 56) d_T_cellOfPlace_56 rfl (rfl) (⟨by unfold x_cp; (repeat' split) <;> first | rfl | (exfalso; simp_all [x_hol, x_pl, x_rp, x_be, x_op, x_os]), rfl, rfl⟩)
      · replace h27 := x_b0 h27
        refine xg_iconst X (pc := 30) (v := -1) d_T_cellOfPlace_30 (by decide) ?_
        exact xg_iret X (pc := 31) d_T_cellOfPlace_31 rfl (rfl) (⟨by unfold x_cp; (repeat' split) <;> first | rfl | (exfalso; simp_all [x_hol, x_pl, x_rp, x_be, x_op, x_os]), rfl, rfl⟩)
abbrev x_cc (sc : Nat → Int32) (pl d o u v : Int32) : Int32 := x_cp sc pl (u.toInt64 <<< (d.toInt64 &&& 63) + (x_sR d o).toInt64) (v.toInt64 <<< (d.toInt64 &&& 63) + (x_sD d o).toInt64)
set_option maxRecDepth 100000 in
set_option maxHeartbeats 4000000 in
theorem c_T_cellOfCoordinates (hd : x_dis ad) {pl d o u v : Int32} : x_Con l M_T_cellOfCoordinates 2 47 ad D cI [.ref (ad 0), .int pl, .int d, .int o, .int u, .int v] sc ar (x_E (some (.int (x_cc sc pl d o u v))) sc ar) := by
  refine x_intro hd [some (.ref (ad 0)), some (.int pl), some (.int d), some (.int o), some (.int u), some (.int v), none, none, none, none] (by decide) (Nat.le_of_ble_eq_true rfl) rfl ?_
  intro p e s m args below meth c X
  refine xg_iload X (pc := 0) d_T_cellOfCoordinates_0 rfl ?_
  refine xg_i2l X (pc := 2) d_T_cellOfCoordinates_2 ?_
  refine xg_iload_n X (pc := 3) d_T_cellOfCoordinates_3 rfl ?_
  refine xg_lshl X (pc := 4) d_T_cellOfCoordinates_4 ?_
  refine xg_iload_n X (pc := 5) d_T_cellOfCoordinates_5 rfl ?_
  refine xg_iload_n X (pc := 6) d_T_cellOfCoordinates_6 rfl ?_
  refine xg_crS2 X (pc := 7) d_T_cellOfCoordinates_7 (c_T_shiftRight hd) s_T_98 ⟨by decide, by decide⟩ (Nat.le_of_ble_eq_true rfl) ?_
  refine xg_i2l X (pc := 10) d_T_cellOfCoordinates_10 ?_
  refine xg_ladd X (pc := 11) d_T_cellOfCoordinates_11 ?_
  refine xg_lstore X (pc := 12) d_T_cellOfCoordinates_12 (by decide) rfl ?_
  refine xg_iload X (pc := 14) d_T_cellOfCoordinates_14 rfl ?_
  refine xg_i2l X (pc := 16) d_T_cellOfCoordinates_16 ?_
  refine xg_iload_n X (pc := 17) d_T_cellOfCoordinates_17 rfl ?_
  refine xg_lshl X (pc := 18) d_T_cellOfCoordinates_18 ?_
  refine xg_iload_n X (pc := 19) d_T_cellOfCoordinates_19 rfl ?_
  refine xg_iload_n X (pc := 20) d_T_cellOfCoordinates_20 rfl ?_
  refine xg_crS2 X (pc := 21) d_T_cellOfCoordinates_21 (c_T_shiftDown hd) s_T_91 ⟨by decide, by decide⟩ (Nat.le_of_ble_eq_true rfl) ?_
  refine xg_i2l X (pc := 24) d_T_cellOfCoordinates_24 ?_
  refine xg_ladd X (pc := 25) d_T_cellOfCoordinates_25 ?_
  refine xg_lstore X (pc := 26) d_T_cellOfCoordinates_26 (by decide) rfl ?_
  refine xg_aload_n X (pc := 28) d_T_cellOfCoordinates_28 rfl ?_
  refine xg_iload_n X (pc := 29) d_T_cellOfCoordinates_29 rfl ?_
  refine xg_lload X (pc := 30) d_T_cellOfCoordinates_30 rfl ?_
  refine xg_lload X (pc := 32) d_T_cellOfCoordinates_32 rfl ?_
  refine xg_crV3 X (pc := 34) d_T_cellOfCoordinates_34 (c_T_cellOfPlace hd) s_T_60 ⟨_, rfl⟩ rfl ⟨by decide, by decide⟩ (Nat.le_of_ble_eq_true rfl) ?_
  exact xg_iret X (pc := 37) d_T_cellOfCoordinates_37 rfl (rfl) (⟨rfl, rfl, rfl⟩)
set_option maxRecDepth 100000 in
set_option maxHeartbeats 4000000 in
theorem c_T_valueIn (hd : x_dis ad) {x : Int32} (hx : ¬ x = -1 → vp_in x 768) : x_Con l M_T_valueIn 0 0 ad D cI [.ref (ad 0), .int x] sc ar (x_E (some (.int (if x = -1 then 0 else ar 0 x.toNatClampNeg))) sc ar) := by
  refine x_intro hd [some (.ref (ad 0)), some (.int x)] (by decide) (Nat.le_of_ble_eq_true rfl) rfl ?_
  intro p e s m args below meth c X
  refine xg_iload_n X (pc := 0) d_T_valueIn_0 rfl ?_
  refine xg_iconst X (pc := 1) (v := -1) d_T_valueIn_1 (by decide) ?_
  refine xg_icmp_ne X (pc := 2) (tgt := 9) d_T_valueIn_2 rfl (fun h2 => ?_) (fun h2 => ?_)
  · refine xg_aload_n X (pc := 9) d_T_valueIn_9 rfl ?_
    refine xf_T_9 X (pc := 10) rfl d_T_valueIn_10 ?_
    refine xg_iload_n X (pc := 13) d_T_valueIn_13 rfl ?_
    refine xa_ld1 X (pc := 14) d_T_valueIn_14 (hx h2) ?_
    exact xg_iret X (pc := 15) d_T_valueIn_15 rfl (rfl) (⟨by (repeat' split) <;> first | rfl | (exfalso; simp_all [x_hol, x_pl, x_rp, x_be, x_op, x_os]), rfl, rfl⟩)
  · refine xg_iconst X (pc := 5) (v := 0) d_T_valueIn_5 (by decide) ?_
    refine xg_goto X (pc := 6) (tgt := 15) d_T_valueIn_6 rfl ?_
    exact xg_iret X (pc := 15) d_T_valueIn_15 rfl (rfl) (⟨by (repeat' split) <;> first | rfl | (exfalso; simp_all [x_hol, x_pl, x_rp, x_be, x_op, x_os]), rfl, rfl⟩)
set_option maxRecDepth 100000 in
set_option maxHeartbeats 4000000 in
theorem c_T_isOfSubband (hd : x_dis ad) {i d o : Int32} : x_Con l M_T_isOfSubband 1 21 ad D cI [.ref (ad 0), .int i, .int d, .int o] sc ar (x_E (some (.int (x_b (x_os sc i d o)))) sc ar) := by
  refine x_intro hd [some (.ref (ad 0)), some (.int i), some (.int d), some (.int o), none, none, none] (by decide) (Nat.le_of_ble_eq_true rfl) rfl ?_
  intro p e s m args below meth c X
  refine xg_aload_n X (pc := 0) d_T_isOfSubband_0 rfl ?_
  refine xf_T_18 X (pc := 1) rfl d_T_isOfSubband_1 ?_
  refine xf_T_135_2 X (pc := 4) rfl d_T_isOfSubband_4 ?_
  refine xg_iload_n X (pc := 7) d_T_isOfSubband_7 rfl ?_
  refine xg_bipush X (pc := 8) (v := 16) d_T_isOfSubband_8 (by decide) ?_
  refine xg_irem X (pc := 10) d_T_isOfSubband_10 (by decide) ?_
  refine xg_iadd X (pc := 11) d_T_isOfSubband_11 ?_
  refine xg_istore X (pc := 12) d_T_isOfSubband_12 (by decide) rfl ?_
  refine xg_aload_n X (pc := 14) d_T_isOfSubband_14 rfl ?_
  refine xf_T_22 X (pc := 15) rfl d_T_isOfSubband_15 ?_
  refine xf_T_135_3 X (pc := 18) rfl d_T_isOfSubband_18 ?_
  refine xg_iload_n X (pc := 21) d_T_isOfSubband_21 rfl ?_
  refine xg_bipush X (pc := 22) (v := 16) d_T_isOfSubband_22 (by decide) ?_
  refine xg_idiv X (pc := 24) d_T_isOfSubband_24 (by decide) ?_
  refine xg_bipush X (pc := 25) (v := 16) d_T_isOfSubband_25 (by decide) ?_
  refine xg_irem X (pc := 27) d_T_isOfSubband_27 (by decide) ?_
  refine xg_iadd X (pc := 28) d_T_isOfSubband_28 ?_
  refine xg_istore X (pc := 29) d_T_isOfSubband_29 (by decide) rfl ?_
  refine xg_iconst X (pc := 31) (v := 1) d_T_isOfSubband_31 (by decide) ?_
  refine xg_iload_n X (pc := 32) d_T_isOfSubband_32 rfl ?_
  refine xg_ishl X (pc := 33) d_T_isOfSubband_33 ?_
  refine xg_iconst X (pc := 34) (v := 1) d_T_isOfSubband_34 (by decide) ?_
  refine xg_isub X (pc := 35) d_T_isOfSubband_35 ?_
  refine xg_istore X (pc := 36) d_T_isOfSubband_36 (by decide) rfl ?_
  refine xg_iload X (pc := 38) d_T_isOfSubband_38 rfl ?_
  refine xg_iload X (pc := 40) d_T_isOfSubband_40 rfl ?_
  refine xg_iand X (pc := 42) d_T_isOfSubband_42 ?_
  refine xg_iload_n X (pc := 43) d_T_isOfSubband_43 rfl ?_
  refine xg_iload_n X (pc := 44) d_T_isOfSubband_44 rfl ?_
  refine xg_crS2 X (pc := 45) d_T_isOfSubband_45 (c_T_shiftRight hd) s_T_98 ⟨by decide, by decide⟩ (Nat.le_of_ble_eq_true rfl) ?_
  refine xg_icmp_ne X (pc := 48) (tgt := 68) d_T_isOfSubband_48 rfl (fun h48 => ?_) (fun h48 => ?_)
  · refine xg_iconst X (pc := 68) (v := 0) d_T_isOfSubband_68 (by decide) ?_
    exact xg_iret X (pc := 69) d_T_isOfSubband_69 rfl (rfl) (by first | exact x_ret1 (by simp_all [x_hol, x_pl, x_rp, x_be, x_op, x_os]) | exact x_ret0 (by simp_all [x_hol, x_pl, x_rp, x_be, x_op, x_os]))
  · refine xg_iload X (pc := 51) d_T_isOfSubband_51 rfl ?_
    refine xg_iload X (pc := 53) d_T_isOfSubband_53 rfl ?_
    refine xg_iand X (pc := 55) d_T_isOfSubband_55 ?_
    refine xg_iload_n X (pc := 56) d_T_isOfSubband_56 rfl ?_
    refine xg_iload_n X (pc := 57) d_T_isOfSubband_57 rfl ?_
    refine xg_crS2 X (pc := 58) d_T_isOfSubband_58 (c_T_shiftDown hd) s_T_91 ⟨by decide, by decide⟩ (Nat.le_of_ble_eq_true rfl) ?_
    refine xg_icmp_ne X (pc := 61) (tgt := 68) d_T_isOfSubband_61 rfl (fun h61 => ?_) (fun h61 => ?_)
    · refine xg_iconst X (pc := 68) (v := 0) d_T_isOfSubband_68 (by decide) ?_
      exact xg_iret X (pc := 69) d_T_isOfSubband_69 rfl (rfl) (by first | exact x_ret1 (by simp_all [x_hol, x_pl, x_rp, x_be, x_op, x_os]) | exact x_ret0 (by simp_all [x_hol, x_pl, x_rp, x_be, x_op, x_os]))
    · refine xg_iconst X (pc := 64) (v := 1) d_T_isOfSubband_64 (by decide) ?_
      refine xg_goto X (pc := 65) (tgt := 69) d_T_isOfSubband_65 rfl ?_
      exact xg_iret X (pc := 69) d_T_isOfSubband_69 rfl (rfl) (by first | exact x_ret1 (by simp_all [x_hol, x_pl, x_rp, x_be, x_op, x_os]) | exact x_ret0 (by simp_all [x_hol, x_pl, x_rp, x_be, x_op, x_os]))
def x_am (v : Int32) : Int64 := if 0 < v.toInt64 then v.toInt64 else -v.toInt64
set_option maxRecDepth 100000 in
set_option maxHeartbeats 4000000 in
theorem c_T_amountOf (hd : x_dis ad) {v : Int32} : x_Con l M_T_amountOf 1 21 ad D cI [.int v] sc ar (x_E (some (.long (x_am v))) sc ar) := by
  refine x_intro hd [some (.int v)] (by decide) (Nat.le_of_ble_eq_true rfl) rfl ?_
  intro p e s m args below meth c X
  refine xg_iload_n X (pc := 0) d_T_amountOf_0 rfl ?_
  refine xg_i2l X (pc := 1) d_T_amountOf_1 ?_
  refine xg_labs X (pc := 2) d_T_amountOf_2 (by decide +kernel) ⟨by decide, by decide⟩ ?_
  exact xg_lret X (pc := 5) d_T_amountOf_5 rfl (⟨rfl, rfl, rfl⟩)
abbrev x_th (v t : Int32) : Int32 := if lg_cmp (x_am v / t.toInt64) 0 = 0 then 0 else (if 0 ≤ v then x_am v / t.toInt64 * t.toInt64 + (t / 2).toInt64 else -(x_am v / t.toInt64 * t.toInt64 + (t / 2).toInt64)).toInt32
set_option maxRecDepth 100000 in
set_option maxHeartbeats 4000000 in
theorem c_T_thinned (hd : x_dis ad) {v t : Int32} (ht : ¬ t.toInt64 = 0) : x_Con l M_T_thinned 2 41 ad D cI [.int v, .int t] sc ar (x_E (some (.int (x_th v t))) sc ar) := by
  refine x_intro hd [some (.int v), some (.int t), none, none, none, none] (by decide) (Nat.le_of_ble_eq_true rfl) rfl ?_
  intro p e s m args below meth c X
  refine xg_iload_n X (pc := 0) d_T_thinned_0 rfl ?_
  refine xg_crS1 X (pc := 1) d_T_thinned_1 (c_T_amountOf hd) s_T_120 ⟨by decide, by decide⟩ (Nat.le_of_ble_eq_true rfl) ?_
  refine xg_iload_n X (pc := 4) d_T_thinned_4 rfl ?_
  refine xg_i2l X (pc := 5) d_T_thinned_5 ?_
  refine xg_ldiv X (pc := 6) d_T_thinned_6 (ht) ?_
  refine xg_lstore_n X (pc := 7) d_T_thinned_7 (by decide) rfl ?_
  refine xg_lload_n X (pc := 8) d_T_thinned_8 rfl ?_
  refine xg_lconst X (pc := 9) (v := 0) d_T_thinned_9 (by decide) ?_
  refine xg_lcmp X (pc := 10) d_T_thinned_10 ?_
  refine xg_if_ne X (pc := 11) (tgt := 16) d_T_thinned_11 rfl (fun h11 => ?_) (fun h11 => ?_)
  · refine xg_lload_n X (pc := 16) d_T_thinned_16 rfl ?_
    refine xg_iload_n X (pc := 17) d_T_thinned_17 rfl ?_
    refine xg_i2l X (pc := 18) d_T_thinned_18 ?_
    refine xg_lmul X (pc := 19) d_T_thinned_19 ?_
    refine xg_iload_n X (pc := 20) d_T_thinned_20 rfl ?_
    refine xg_iconst X (pc := 21) (v := 2) d_T_thinned_21 (by decide) ?_
    refine xg_idiv X (pc := 22) d_T_thinned_22 (by decide) ?_
    refine xg_i2l X (pc := 23) d_T_thinned_23 ?_
    refine xg_ladd X (pc := 24) d_T_thinned_24 ?_
    refine xg_lstore X (pc := 25) d_T_thinned_25 (by decide) rfl ?_
    refine xg_iload_n X (pc := 27) d_T_thinned_27 rfl ?_
    refine xg_if_ge X (pc := 28) (tgt := 37) d_T_thinned_28 rfl (fun h28 => ?_) (fun h28 => ?_)
    · refine xg_lload X (pc := 37) d_T_thinned_37 rfl ?_
      refine xg_l2i X (pc := 39) d_T_thinned_39 ?_
      exact xg_iret X (pc := 40) d_T_thinned_40 rfl (rfl) (⟨by unfold x_th; (repeat' split) <;> first | rfl | (exfalso; simp_all [x_hol, x_pl, x_rp, x_be, x_op, x_os]), rfl, rfl⟩)
    · refine xg_lload X (pc := 31) d_T_thinned_31 rfl ?_
      refine xg_lneg X (pc := 33) d_T_thinned_33 ?_
      refine xg_goto X (pc := 34) (tgt := 39) d_T_thinned_34 rfl ?_
      refine xg_l2i X (pc := 39) d_T_thinned_39 ?_
      exact xg_iret X (pc := 40) d_T_thinned_40 rfl (rfl) (⟨by unfold x_th; (repeat' split) <;> first | rfl | (exfalso; simp_all [x_hol, x_pl, x_rp, x_be, x_op, x_os]), rfl, rfl⟩)
  · refine xg_iconst X (pc := 14) (v := 0) d_T_thinned_14 (by decide) ?_
    exact xg_iret X (pc := 15) d_T_thinned_15 rfl (rfl) (⟨by unfold x_th; (repeat' split) <;> first | rfl | (exfalso; simp_all [x_hol, x_pl, x_rp, x_be, x_op, x_os]), rfl, rfl⟩)
set_option maxRecDepth 100000 in
set_option maxHeartbeats 4000000 in
theorem c_T_mixed (hd : x_dis ad) (hb : sc 1 = 0 ∨ sc 1 = 1) : x_Con l M_T_mixed 0 0 ad D cI [.ref (ad 0)] sc ar (x_E (some (.int (sc 1))) sc ar) := by
  refine x_intro hd [some (.ref (ad 0))] (by decide) (Nat.le_of_ble_eq_true rfl) rfl ?_
  intro p e s m args below meth c X
  refine xg_aload_n X (pc := 0) d_T_mixed_0 rfl ?_
  refine xf_T_39 X (pc := 1) rfl d_T_mixed_1 ?_
  exact xg_iret X (pc := 4) d_T_mixed_4 rfl (by rcases hb with h | h <;> rw [h] <;> rfl) (⟨rfl, rfl, rfl⟩)
set_option maxRecDepth 100000 in
set_option maxHeartbeats 4000000 in
theorem c_T_levels (hd : x_dis ad) : x_Con l M_T_levels 0 0 ad D cI [.ref (ad 0)] sc ar (x_E (some (.int (sc 0))) sc ar) := by
  refine x_intro hd [some (.ref (ad 0))] (by decide) (Nat.le_of_ble_eq_true rfl) rfl ?_
  intro p e s m args below meth c X
  refine xg_aload_n X (pc := 0) d_T_levels_0 rfl ?_
  refine xf_T_35 X (pc := 1) rfl d_T_levels_1 ?_
  exact xg_iret X (pc := 4) d_T_levels_4 rfl (rfl) (⟨rfl, rfl, rfl⟩)
set_option maxRecDepth 100000 in
set_option maxHeartbeats 4000000 in
theorem c_T_at (hd : x_dis ad) {pl u v : Int32} (hx : ¬ x_cp sc pl u.toInt64 v.toInt64 = -1 → vp_in (x_cp sc pl u.toInt64 v.toInt64) 768) : x_Con l M_T_at 2 47 ad D cI [.ref (ad 0), .int pl, .int u, .int v] sc ar (x_E (some (.int (if x_cp sc pl u.toInt64 v.toInt64 = -1 then 0 else ar 0 (x_cp sc pl u.toInt64 v.toInt64).toNatClampNeg))) sc ar) := by
  refine x_intro hd [some (.ref (ad 0)), some (.int pl), some (.int u), some (.int v)] (by decide) (Nat.le_of_ble_eq_true rfl) rfl ?_
  intro p e s m args below meth c X
  refine xg_aload_n X (pc := 0) d_T_at_0 rfl ?_
  refine xg_aload_n X (pc := 1) d_T_at_1 rfl ?_
  refine xg_iload_n X (pc := 2) d_T_at_2 rfl ?_
  refine xg_iload_n X (pc := 3) d_T_at_3 rfl ?_
  refine xg_i2l X (pc := 4) d_T_at_4 ?_
  refine xg_iload_n X (pc := 5) d_T_at_5 rfl ?_
  refine xg_i2l X (pc := 6) d_T_at_6 ?_
  refine xg_crV3 X (pc := 7) d_T_at_7 (c_T_cellOfPlace hd) s_T_60 ⟨_, rfl⟩ rfl ⟨by decide, by decide⟩ (Nat.le_of_ble_eq_true rfl) ?_
  refine xg_crV1 X (pc := 10) d_T_at_10 (c_T_valueIn hd hx) s_T_64 ⟨_, rfl⟩ rfl ⟨by decide, by decide⟩ (Nat.le_of_ble_eq_true rfl) ?_
  exact xg_iret X (pc := 13) d_T_at_13 rfl (rfl) (⟨rfl, rfl, rfl⟩)
set_option maxRecDepth 100000 in
set_option maxHeartbeats 4000000 in
theorem c_T_coefficient (hd : x_dis ad) {pl d o u v : Int32} (hx : ¬ x_cc sc pl d o u v = -1 → vp_in (x_cc sc pl d o u v) 768) : x_Con l M_T_coefficient 3 76 ad D cI [.ref (ad 0), .int pl, .int d, .int o, .int u, .int v] sc ar (x_E (some (.int (if (¬ d < 1 ∧ ¬ sc 0 < d) ∧ (¬ o < 0 ∧ ¬ 4 ≤ o) then (if x_cc sc pl d o u v = -1 then 0 else ar 0 (x_cc sc pl d o u v).toNatClampNeg) else 0))) sc ar) := by
  refine x_intro hd [some (.ref (ad 0)), some (.int pl), some (.int d), some (.int o), some (.int u), some (.int v)] (by decide) (Nat.le_of_ble_eq_true rfl) rfl ?_
  intro p e s m args below meth c X
  refine xg_aload_n X (pc := 0) d_T_coefficient_0 rfl ?_
  refine xg_iload_n X (pc := 1) d_T_coefficient_1 rfl ?_
  refine xg_crV1 X (pc := 2) d_T_coefficient_2 (c_T_hasLevel hd) s_T_82 ⟨_, rfl⟩ rfl ⟨by decide, by decide⟩ (Nat.le_of_ble_eq_true rfl) ?_
  refine xg_if_eq X (pc := 5) (tgt := 15) d_T_coefficient_5 rfl (fun h5 => ?_) (fun h5 => ?_)
  · replace h5 := x_b0 h5
    refine xg_iconst X (pc := 15) (v := 0) d_T_coefficient_15 (by decide) ?_
    exact xg_iret X (pc := 16) d_T_coefficient_16 rfl (rfl) (⟨by (repeat' split) <;> first | rfl | (exfalso; simp_all [x_hol, x_pl, x_rp, x_be, x_op, x_os]), rfl, rfl⟩)
  · replace h5 := x_bn h5
    refine xg_iload_n X (pc := 8) d_T_coefficient_8 rfl ?_
    refine xg_crS1 X (pc := 9) d_T_coefficient_9 (c_T_isSubband hd) s_T_88 ⟨by decide, by decide⟩ (Nat.le_of_ble_eq_true rfl) ?_
    refine xg_if_ne X (pc := 12) (tgt := 17) d_T_coefficient_12 rfl (fun h12 => ?_) (fun h12 => ?_)
    · replace h12 := x_bn h12
      refine xg_aload_n X (pc := 17) d_T_coefficient_17 rfl ?_
      refine xg_aload_n X (pc := 18) d_T_coefficient_18 rfl ?_
      refine xg_iload_n X (pc := 19) d_T_coefficient_19 rfl ?_
      refine xg_iload_n X (pc := 20) d_T_coefficient_20 rfl ?_
      refine xg_iload_n X (pc := 21) d_T_coefficient_21 rfl ?_
      refine xg_iload X (pc := 22) d_T_coefficient_22 rfl ?_
      refine xg_iload X (pc := 24) d_T_coefficient_24 rfl ?_
      refine xg_crV5 X (pc := 26) d_T_coefficient_26 (c_T_cellOfCoordinates hd) s_T_104 ⟨_, rfl⟩ rfl ⟨by decide, by decide⟩ (Nat.le_of_ble_eq_true rfl) ?_
      refine xg_crV1 X (pc := 29) d_T_coefficient_29 (c_T_valueIn hd hx) s_T_64 ⟨_, rfl⟩ rfl ⟨by decide, by decide⟩ (Nat.le_of_ble_eq_true rfl) ?_
      exact xg_iret X (pc := 32) d_T_coefficient_32 rfl (rfl) (⟨by (repeat' split) <;> first | rfl | (exfalso; simp_all [x_hol, x_pl, x_rp, x_be, x_op, x_os]), rfl, rfl⟩)
    · replace h12 := x_b0 h12
      refine xg_iconst X (pc := 15) (v := 0) d_T_coefficient_15 (by decide) ?_
      exact xg_iret X (pc := 16) d_T_coefficient_16 rfl (rfl) (⟨by (repeat' split) <;> first | rfl | (exfalso; simp_all [x_hol, x_pl, x_rp, x_be, x_op, x_os]), rfl, rfl⟩)
set_option maxRecDepth 100000 in
set_option maxHeartbeats 4000000 in
theorem c_T_kernel (hd : x_dis ad) {d : Int32} (hx : ¬ d < 1 ∧ ¬ sc 0 < d → vp_in (d - 1) 4) : x_Con l M_T_kernel 1 21 ad D cI [.ref (ad 0), .int d] sc ar (x_E (some (.int (if ¬ d < 1 ∧ ¬ sc 0 < d then ar 1 (d - 1).toNatClampNeg else -1))) sc ar) := by
  refine x_intro hd [some (.ref (ad 0)), some (.int d)] (by decide) (Nat.le_of_ble_eq_true rfl) rfl ?_
  intro p e s m args below meth c X
  refine xg_aload_n X (pc := 0) d_T_kernel_0 rfl ?_
  refine xg_iload_n X (pc := 1) d_T_kernel_1 rfl ?_
  refine xg_crV1 X (pc := 2) d_T_kernel_2 (c_T_hasLevel hd) s_T_82 ⟨_, rfl⟩ rfl ⟨by decide, by decide⟩ (Nat.le_of_ble_eq_true rfl) ?_
  refine xg_if_eq X (pc := 5) (tgt := 19) d_T_kernel_5 rfl (fun h5 => ?_) (fun h5 => ?_)
  · replace h5 := x_b0 h5
    refine xg_iconst X (pc := 19) (v := -1) d_T_kernel_19 (by decide) ?_
    exact xg_iret X (pc := 20) d_T_kernel_20 rfl (rfl) (⟨by (repeat' split) <;> first | rfl | (exfalso; simp_all [x_hol, x_pl, x_rp, x_be, x_op, x_os]), rfl, rfl⟩)
  · replace h5 := x_bn h5
    refine xg_aload_n X (pc := 8) d_T_kernel_8 rfl ?_
    refine xf_T_32 X (pc := 9) rfl d_T_kernel_9 ?_
    refine xg_iload_n X (pc := 12) d_T_kernel_12 rfl ?_
    refine xg_iconst X (pc := 13) (v := 1) d_T_kernel_13 (by decide) ?_
    refine xg_isub X (pc := 14) d_T_kernel_14 ?_
    refine xa_ld5 X (pc := 15) d_T_kernel_15 (hx h5) ?_
    refine xg_goto X (pc := 16) (tgt := 20) d_T_kernel_16 rfl ?_
    exact xg_iret X (pc := 20) d_T_kernel_20 rfl (rfl) (⟨by (repeat' split) <;> first | rfl | (exfalso; simp_all [x_hol, x_pl, x_rp, x_be, x_op, x_os]), rfl, rfl⟩)
set_option maxRecDepth 100000 in
set_option maxHeartbeats 4000000 in
theorem c_T_start (hd : x_dis ad) {d o w : Int32} : x_Con l M_T_start 2 44 ad D cI [.ref (ad 0), .int d, .int o, .int w] sc ar (x_E (some (.int (if ¬ sc 3 ≤ 0 ∧ (¬ d < 1 ∧ ¬ 4 < d) ∧ (¬ o < 0 ∧ ¬ 4 ≤ o) then (if w = 0 then x_lf (sc 2) d (x_sR d o) else x_lf (sc 4) d (x_sD d o)) else -1))) sc ar) := by
  refine x_intro hd [some (.ref (ad 0)), some (.int d), some (.int o), some (.int w)] (by decide) (Nat.le_of_ble_eq_true rfl) rfl ?_
  intro p e s m args below meth c X
  refine xg_aload_n X (pc := 0) d_T_start_0 rfl ?_
  refine xg_crV0 X (pc := 1) d_T_start_1 (c_T_hasTile hd) s_T_68 ⟨_, rfl⟩ rfl ⟨by decide, by decide⟩ (Nat.le_of_ble_eq_true rfl) ?_
  refine xg_if_eq X (pc := 4) (tgt := 21) d_T_start_4 rfl (fun h4 => ?_) (fun h4 => ?_)
  · replace h4 := x_b0 h4
    refine xg_iconst X (pc := 21) (v := -1) d_T_start_21 (by decide) ?_
    exact xg_iret X (pc := 22) d_T_start_22 rfl (rfl) (⟨by (repeat' split) <;> first | rfl | (exfalso; simp_all [x_hol, x_pl, x_rp, x_be, x_op, x_os]), rfl, rfl⟩)
  · replace h4 := x_bn h4
    refine xg_iload_n X (pc := 7) d_T_start_7 rfl ?_
    refine xg_crS1 X (pc := 8) d_T_start_8 (c_T_isLevel hd) s_T_85 ⟨by decide, by decide⟩ (Nat.le_of_ble_eq_true rfl) ?_
    refine xg_if_eq X (pc := 11) (tgt := 21) d_T_start_11 rfl (fun h11 => ?_) (fun h11 => ?_)
    · replace h11 := x_b0 h11
      refine xg_iconst X (pc := 21) (v := -1) d_T_start_21 (by decide) ?_
      exact xg_iret X (pc := 22) d_T_start_22 rfl (rfl) (⟨by (repeat' split) <;> first | rfl | (exfalso; simp_all [x_hol, x_pl, x_rp, x_be, x_op, x_os]), rfl, rfl⟩)
    · replace h11 := x_bn h11
      refine xg_iload_n X (pc := 14) d_T_start_14 rfl ?_
      refine xg_crS1 X (pc := 15) d_T_start_15 (c_T_isSubband hd) s_T_88 ⟨by decide, by decide⟩ (Nat.le_of_ble_eq_true rfl) ?_
      refine xg_if_ne X (pc := 18) (tgt := 23) d_T_start_18 rfl (fun h18 => ?_) (fun h18 => ?_)
      · replace h18 := x_bn h18
        refine xg_iload_n X (pc := 23) d_T_start_23 rfl ?_
        refine xg_if_eq X (pc := 24) (tgt := 43) d_T_start_24 rfl (fun h24 => ?_) (fun h24 => ?_)
        · refine xg_aload_n X (pc := 43) d_T_start_43 rfl ?_
          refine xf_T_18 X (pc := 44) rfl d_T_start_44 ?_
          refine xg_iload_n X (pc := 47) d_T_start_47 rfl ?_
          refine xg_iload_n X (pc := 48) d_T_start_48 rfl ?_
          refine xg_iload_n X (pc := 49) d_T_start_49 rfl ?_
          refine xg_crS2 X (pc := 50) d_T_start_50 (c_T_shiftRight hd) s_T_98 ⟨by decide, by decide⟩ (Nat.le_of_ble_eq_true rfl) ?_
          refine xg_crV2 X (pc := 53) d_T_start_53 (c_S_firstOf hd (j := 0) (by decide)) s_T_95 ⟨_, rfl⟩ rfl ⟨by decide, by decide⟩ (Nat.le_of_ble_eq_true rfl) ?_
          exact xg_iret X (pc := 56) d_T_start_56 rfl (rfl) (⟨by (repeat' split) <;> first | rfl | (exfalso; simp_all [x_hol, x_pl, x_rp, x_be, x_op, x_os]), rfl, rfl⟩)
        · refine xg_aload_n X (pc := 27) d_T_start_27 rfl ?_
          refine xf_T_22 X (pc := 28) rfl d_T_start_28 ?_
          refine xg_iload_n X (pc := 31) d_T_start_31 rfl ?_
          refine xg_iload_n X (pc := 32) d_T_start_32 rfl ?_
          refine xg_iload_n X (pc := 33) d_T_start_33 rfl ?_
          refine xg_crS2 X (pc := 34) d_T_start_34 (c_T_shiftDown hd) s_T_91 ⟨by decide, by decide⟩ (Nat.le_of_ble_eq_true rfl) ?_
          refine xg_crV2 X (pc := 37) d_T_start_37 (c_S_firstOf hd (j := 1) (by decide)) s_T_95 ⟨_, rfl⟩ rfl ⟨by decide, by decide⟩ (Nat.le_of_ble_eq_true rfl) ?_
          refine xg_goto X (pc := 40) (tgt := 56) d_T_start_40 rfl ?_
          exact xg_iret X (pc := 56) d_T_start_56 rfl (rfl) (⟨by (repeat' split) <;> first | rfl | (exfalso; simp_all [x_hol, x_pl, x_rp, x_be, x_op, x_os]), rfl, rfl⟩)
      · replace h18 := x_b0 h18
        refine xg_iconst X (pc := 21) (v := -1) d_T_start_21 (by decide) ?_
        exact xg_iret X (pc := 22) d_T_start_22 rfl (rfl) (⟨by (repeat' split) <;> first | rfl | (exfalso; simp_all [x_hol, x_pl, x_rp, x_be, x_op, x_os]), rfl, rfl⟩)
set_option maxRecDepth 100000 in
set_option maxHeartbeats 4000000 in
theorem c_T_size (hd : x_dis ad) {d o w : Int32} : x_Con l M_T_size 2 44 ad D cI [.ref (ad 0), .int d, .int o, .int w] sc ar (x_E (some (.int (if ¬ sc 3 ≤ 0 ∧ (¬ d < 1 ∧ ¬ 4 < d) ∧ (¬ o < 0 ∧ ¬ 4 ≤ o) then (if w = 0 then x_lf (sc 2 + sc 3) d (x_sR d o) - x_lf (sc 2) d (x_sR d o) else x_lf (sc 4 + sc 5) d (x_sD d o) - x_lf (sc 4) d (x_sD d o)) else -1))) sc ar) := by
  refine x_intro hd [some (.ref (ad 0)), some (.int d), some (.int o), some (.int w)] (by decide) (Nat.le_of_ble_eq_true rfl) rfl ?_
  intro p e s m args below meth c X
  refine xg_aload_n X (pc := 0) d_T_size_0 rfl ?_
  refine xg_crV0 X (pc := 1) d_T_size_1 (c_T_hasTile hd) s_T_68 ⟨_, rfl⟩ rfl ⟨by decide, by decide⟩ (Nat.le_of_ble_eq_true rfl) ?_
  refine xg_if_eq X (pc := 4) (tgt := 21) d_T_size_4 rfl (fun h4 => ?_) (fun h4 => ?_)
  · replace h4 := x_b0 h4
    refine xg_iconst X (pc := 21) (v := -1) d_T_size_21 (by decide) ?_
    exact xg_iret X (pc := 22) d_T_size_22 rfl (rfl) (⟨by (repeat' split) <;> first | rfl | (exfalso; simp_all [x_hol, x_pl, x_rp, x_be, x_op, x_os]), rfl, rfl⟩)
  · replace h4 := x_bn h4
    refine xg_iload_n X (pc := 7) d_T_size_7 rfl ?_
    refine xg_crS1 X (pc := 8) d_T_size_8 (c_T_isLevel hd) s_T_85 ⟨by decide, by decide⟩ (Nat.le_of_ble_eq_true rfl) ?_
    refine xg_if_eq X (pc := 11) (tgt := 21) d_T_size_11 rfl (fun h11 => ?_) (fun h11 => ?_)
    · replace h11 := x_b0 h11
      refine xg_iconst X (pc := 21) (v := -1) d_T_size_21 (by decide) ?_
      exact xg_iret X (pc := 22) d_T_size_22 rfl (rfl) (⟨by (repeat' split) <;> first | rfl | (exfalso; simp_all [x_hol, x_pl, x_rp, x_be, x_op, x_os]), rfl, rfl⟩)
    · replace h11 := x_bn h11
      refine xg_iload_n X (pc := 14) d_T_size_14 rfl ?_
      refine xg_crS1 X (pc := 15) d_T_size_15 (c_T_isSubband hd) s_T_88 ⟨by decide, by decide⟩ (Nat.le_of_ble_eq_true rfl) ?_
      refine xg_if_ne X (pc := 18) (tgt := 23) d_T_size_18 rfl (fun h18 => ?_) (fun h18 => ?_)
      · replace h18 := x_bn h18
        refine xg_iload_n X (pc := 23) d_T_size_23 rfl ?_
        refine xg_if_eq X (pc := 24) (tgt := 43) d_T_size_24 rfl (fun h24 => ?_) (fun h24 => ?_)
        · refine xg_aload_n X (pc := 43) d_T_size_43 rfl ?_
          refine xf_T_18 X (pc := 44) rfl d_T_size_44 ?_
          refine xg_iload_n X (pc := 47) d_T_size_47 rfl ?_
          refine xg_iload_n X (pc := 48) d_T_size_48 rfl ?_
          refine xg_iload_n X (pc := 49) d_T_size_49 rfl ?_
          refine xg_crS2 X (pc := 50) d_T_size_50 (c_T_shiftRight hd) s_T_98 ⟨by decide, by decide⟩ (Nat.le_of_ble_eq_true rfl) ?_
          refine xg_crV2 X (pc := 53) d_T_size_53 (c_S_countOf hd (j := 0) (by decide)) s_T_101 ⟨_, rfl⟩ rfl ⟨by decide, by decide⟩ (Nat.le_of_ble_eq_true rfl) ?_
          exact xg_iret X (pc := 56) d_T_size_56 rfl (rfl) (⟨by (repeat' split) <;> first | rfl | (exfalso; simp_all [x_hol, x_pl, x_rp, x_be, x_op, x_os]), rfl, rfl⟩)
        · refine xg_aload_n X (pc := 27) d_T_size_27 rfl ?_
          refine xf_T_22 X (pc := 28) rfl d_T_size_28 ?_
          refine xg_iload_n X (pc := 31) d_T_size_31 rfl ?_
          refine xg_iload_n X (pc := 32) d_T_size_32 rfl ?_
          refine xg_iload_n X (pc := 33) d_T_size_33 rfl ?_
          refine xg_crS2 X (pc := 34) d_T_size_34 (c_T_shiftDown hd) s_T_91 ⟨by decide, by decide⟩ (Nat.le_of_ble_eq_true rfl) ?_
          refine xg_crV2 X (pc := 37) d_T_size_37 (c_S_countOf hd (j := 1) (by decide)) s_T_101 ⟨_, rfl⟩ rfl ⟨by decide, by decide⟩ (Nat.le_of_ble_eq_true rfl) ?_
          refine xg_goto X (pc := 40) (tgt := 56) d_T_size_40 rfl ?_
          exact xg_iret X (pc := 56) d_T_size_56 rfl (rfl) (⟨by (repeat' split) <;> first | rfl | (exfalso; simp_all [x_hol, x_pl, x_rp, x_be, x_op, x_os]), rfl, rfl⟩)
      · replace h18 := x_b0 h18
        refine xg_iconst X (pc := 21) (v := -1) d_T_size_21 (by decide) ?_
        exact xg_iret X (pc := 22) d_T_size_22 rfl (rfl) (⟨by (repeat' split) <;> first | rfl | (exfalso; simp_all [x_hol, x_pl, x_rp, x_be, x_op, x_os]), rfl, rfl⟩)
set_option maxRecDepth 100000 in
set_option maxHeartbeats 4000000 in
theorem c_L_firstOdd (hd : x_dis ad) : x_Con l M_L_firstOdd 1 20 ad D cI [.ref (ad 4)] sc ar (x_E (some (.int (if sc 6 &&& 1 = 1 then sc 6 else sc 6 + 1))) sc ar) := by
  refine x_intro hd [some (.ref (ad 4))] (by decide) (Nat.le_of_ble_eq_true rfl) rfl ?_
  intro p e s m args below meth c X
  refine xg_aload_n X (pc := 0) d_L_firstOdd_0 rfl ?_
  refine xf_L_15 X (pc := 1) rfl d_L_firstOdd_1 ?_
  refine xg_crS1 X (pc := 4) d_L_firstOdd_4 (c_L_isOdd hd) s_L_22 ⟨by decide, by decide⟩ (Nat.le_of_ble_eq_true rfl) ?_
  refine xg_if_eq X (pc := 7) (tgt := 17) d_L_firstOdd_7 rfl (fun h7 => ?_) (fun h7 => ?_)
  · replace h7 := x_b0 h7
    refine xg_aload_n X (pc := 17) d_L_firstOdd_17 rfl ?_
    refine xf_L_15 X (pc := 18) rfl d_L_firstOdd_18 ?_
    refine xg_iconst X (pc := 21) (v := 1) d_L_firstOdd_21 (by decide) ?_
    refine xg_iadd X (pc := 22) d_L_firstOdd_22 ?_
    exact xg_iret X (pc := 23) d_L_firstOdd_23 rfl (rfl) (⟨by (repeat' split) <;> first | rfl | (exfalso; simp_all [x_hol, x_pl, x_rp, x_be, x_op, x_os]), rfl, rfl⟩)
  · replace h7 := x_bn h7
    refine xg_aload_n X (pc := 10) d_L_firstOdd_10 rfl ?_
    refine xf_L_15 X (pc := 11) rfl d_L_firstOdd_11 ?_
    refine xg_goto X (pc := 14) (tgt := 23) d_L_firstOdd_14 rfl ?_
    exact xg_iret X (pc := 23) d_L_firstOdd_23 rfl (rfl) (⟨by (repeat' split) <;> first | rfl | (exfalso; simp_all [x_hol, x_pl, x_rp, x_be, x_op, x_os]), rfl, rfl⟩)
set_option maxRecDepth 100000 in
set_option maxHeartbeats 4000000 in
theorem c_L_firstEven (hd : x_dis ad) : x_Con l M_L_firstEven 1 20 ad D cI [.ref (ad 4)] sc ar (x_E (some (.int (if sc 6 &&& 1 = 1 then sc 6 + 1 else sc 6))) sc ar) := by
  refine x_intro hd [some (.ref (ad 4))] (by decide) (Nat.le_of_ble_eq_true rfl) rfl ?_
  intro p e s m args below meth c X
  refine xg_aload_n X (pc := 0) d_L_firstEven_0 rfl ?_
  refine xf_L_15 X (pc := 1) rfl d_L_firstEven_1 ?_
  refine xg_crS1 X (pc := 4) d_L_firstEven_4 (c_L_isOdd hd) s_L_22 ⟨by decide, by decide⟩ (Nat.le_of_ble_eq_true rfl) ?_
  refine xg_if_eq X (pc := 7) (tgt := 19) d_L_firstEven_7 rfl (fun h7 => ?_) (fun h7 => ?_)
  · replace h7 := x_b0 h7
    refine xg_aload_n X (pc := 19) d_L_firstEven_19 rfl ?_
    refine xf_L_15 X (pc := 20) rfl d_L_firstEven_20 ?_
    exact xg_iret X (pc := 23) d_L_firstEven_23 rfl (rfl) (⟨by (repeat' split) <;> first | rfl | (exfalso; simp_all [x_hol, x_pl, x_rp, x_be, x_op, x_os]), rfl, rfl⟩)
  · replace h7 := x_bn h7
    refine xg_aload_n X (pc := 10) d_L_firstEven_10 rfl ?_
    refine xf_L_15 X (pc := 11) rfl d_L_firstEven_11 ?_
    refine xg_iconst X (pc := 14) (v := 1) d_L_firstEven_14 (by decide) ?_
    refine xg_iadd X (pc := 15) d_L_firstEven_15 ?_
    refine xg_goto X (pc := 16) (tgt := 23) d_L_firstEven_16 rfl ?_
    exact xg_iret X (pc := 23) d_L_firstEven_23 rfl (rfl) (⟨by (repeat' split) <;> first | rfl | (exfalso; simp_all [x_hol, x_pl, x_rp, x_be, x_op, x_os]), rfl, rfl⟩)
end C2
end
section
section C3
variable {l : Launch} {ad : Nat → Nat} {D : va_G} {cI : ClassId} {sc : Nat → Int32} {ar : Nat → Nat → Int32}
set_option maxRecDepth 100000 in
set_option maxHeartbeats 4000000 in
theorem c_R_isPlane (hd : x_dis ad) {x : Int32} : x_Con l M_R_isPlane 0 0 ad D cI [.int x] sc ar (x_E (some (.int (x_b (¬ x < 0 ∧ ¬ 2 < x)))) sc ar) := by
  refine x_intro hd [some (.int x)] (by decide) (Nat.le_of_ble_eq_true rfl) rfl ?_
  intro p e s m args below meth c X
  refine xg_iload_n X (pc := 0) d_R_isPlane_0 rfl ?_
  refine xg_if_lt X (pc := 1) (tgt := 13) d_R_isPlane_1 rfl (fun h1 => ?_) (fun h1 => ?_)
  · refine xg_iconst X (pc := 13) (v := 0) d_R_isPlane_13 (by decide) ?_
    exact xg_iret X (pc := 14) d_R_isPlane_14 rfl (rfl) (by first | exact x_ret1 (by simp_all [x_hol, x_pl, x_rp, x_be, x_op, x_os]) | exact x_ret0 (by simp_all [x_hol, x_pl, x_rp, x_be, x_op, x_os]))
  · refine xg_iload_n X (pc := 4) d_R_isPlane_4 rfl ?_
    refine xg_iconst X (pc := 5) (v := 2) d_R_isPlane_5 (by decide) ?_
    refine xg_icmp_gt X (pc := 6) (tgt := 13) d_R_isPlane_6 rfl (fun h6 => ?_) (fun h6 => ?_)
    · refine xg_iconst X (pc := 13) (v := 0) d_R_isPlane_13 (by decide) ?_
      exact xg_iret X (pc := 14) d_R_isPlane_14 rfl (rfl) (by first | exact x_ret1 (by simp_all [x_hol, x_pl, x_rp, x_be, x_op, x_os]) | exact x_ret0 (by simp_all [x_hol, x_pl, x_rp, x_be, x_op, x_os]))
    · refine xg_iconst X (pc := 9) (v := 1) d_R_isPlane_9 (by decide) ?_
      refine xg_goto X (pc := 10) (tgt := 14) d_R_isPlane_10 rfl ?_
      exact xg_iret X (pc := 14) d_R_isPlane_14 rfl (rfl) (by first | exact x_ret1 (by simp_all [x_hol, x_pl, x_rp, x_be, x_op, x_os]) | exact x_ret0 (by simp_all [x_hol, x_pl, x_rp, x_be, x_op, x_os]))
set_option maxRecDepth 100000 in
set_option maxHeartbeats 4000000 in
theorem c_R_isPlace (hd : x_dis ad) {u v : Int32} : x_Con l M_R_isPlace 0 0 ad D cI [.ref (ad 7), .int u, .int v] sc ar (x_E (some (.int (x_b (x_rp sc u v)))) sc ar) := by
  refine x_intro hd [some (.ref (ad 7)), some (.int u), some (.int v)] (by decide) (Nat.le_of_ble_eq_true rfl) rfl ?_
  intro p e s m args below meth c X
  refine xg_aload_n X (pc := 0) d_R_isPlace_0 rfl ?_
  refine xf_R_22 X (pc := 1) rfl d_R_isPlace_1 ?_
  refine xg_if_eq X (pc := 4) (tgt := 53) d_R_isPlace_4 rfl (fun h4 => ?_) (fun h4 => ?_)
  · refine xg_iconst X (pc := 53) (v := 0) d_R_isPlace_53 (by decide) ?_
    exact xg_iret X (pc := 54) d_R_isPlace_54 rfl (rfl) (by first | exact x_ret1 (by simp_all [x_hol, x_pl, x_rp, x_be, x_op, x_os]) | exact x_ret0 (by simp_all [x_hol, x_pl, x_rp, x_be, x_op, x_os]))
  · refine xg_iload_n X (pc := 7) d_R_isPlace_7 rfl ?_
    refine xg_aload_n X (pc := 8) d_R_isPlace_8 rfl ?_
    refine xf_R_26 X (pc := 9) rfl d_R_isPlace_9 ?_
    refine xg_icmp_lt X (pc := 12) (tgt := 53) d_R_isPlace_12 rfl (fun h12 => ?_) (fun h12 => ?_)
    · refine xg_iconst X (pc := 53) (v := 0) d_R_isPlace_53 (by decide) ?_
      exact xg_iret X (pc := 54) d_R_isPlace_54 rfl (rfl) (by first | exact x_ret1 (by simp_all [x_hol, x_pl, x_rp, x_be, x_op, x_os]) | exact x_ret0 (by simp_all [x_hol, x_pl, x_rp, x_be, x_op, x_os]))
    · refine xg_iload_n X (pc := 15) d_R_isPlace_15 rfl ?_
      refine xg_aload_n X (pc := 16) d_R_isPlace_16 rfl ?_
      refine xf_R_26 X (pc := 17) rfl d_R_isPlace_17 ?_
      refine xg_aload_n X (pc := 20) d_R_isPlace_20 rfl ?_
      refine xf_R_30 X (pc := 21) rfl d_R_isPlace_21 ?_
      refine xg_iadd X (pc := 24) d_R_isPlace_24 ?_
      refine xg_icmp_ge X (pc := 25) (tgt := 53) d_R_isPlace_25 rfl (fun h25 => ?_) (fun h25 => ?_)
      · refine xg_iconst X (pc := 53) (v := 0) d_R_isPlace_53 (by decide) ?_
        exact xg_iret X (pc := 54) d_R_isPlace_54 rfl (rfl) (by first | exact x_ret1 (by simp_all [x_hol, x_pl, x_rp, x_be, x_op, x_os]) | exact x_ret0 (by simp_all [x_hol, x_pl, x_rp, x_be, x_op, x_os]))
      · refine xg_iload_n X (pc := 28) d_R_isPlace_28 rfl ?_
        refine xg_aload_n X (pc := 29) d_R_isPlace_29 rfl ?_
        refine xf_R_33 X (pc := 30) rfl d_R_isPlace_30 ?_
        refine xg_icmp_lt X (pc := 33) (tgt := 53) d_R_isPlace_33 rfl (fun h33 => ?_) (fun h33 => ?_)
        · refine xg_iconst X (pc := 53) (v := 0) d_R_isPlace_53 (by decide) ?_
          exact xg_iret X (pc := 54) d_R_isPlace_54 rfl (rfl) (by first | exact x_ret1 (by simp_all [x_hol, x_pl, x_rp, x_be, x_op, x_os]) | exact x_ret0 (by simp_all [x_hol, x_pl, x_rp, x_be, x_op, x_os]))
        · refine xg_iload_n X (pc := 36) d_R_isPlace_36 rfl ?_
          refine xg_aload_n X (pc := 37) d_R_isPlace_37 rfl ?_
          refine xf_R_33 X (pc := 38) rfl d_R_isPlace_38 ?_
          refine xg_aload_n X (pc := 41) d_R_isPlace_41 rfl ?_
          refine xf_R_36 X (pc := 42) rfl d_R_isPlace_42 ?_
          refine xg_iadd X (pc := 45) d_R_isPlace_45 ?_
          refine xg_icmp_ge X (pc := 46) (tgt := 53) d_R_isPlace_46 rfl (fun h46 => ?_) (fun h46 => ?_)
          · refine xg_iconst X (pc := 53) (v := 0) d_R_isPlace_53 (by decide) ?_
            exact xg_iret X (pc := 54) d_R_isPlace_54 rfl (rfl) (by first | exact x_ret1 (by simp_all [x_hol, x_pl, x_rp, x_be, x_op, x_os]) | exact x_ret0 (by simp_all [x_hol, x_pl, x_rp, x_be, x_op, x_os]))
          · refine xg_iconst X (pc := 49) (v := 1) d_R_isPlace_49 (by decide) ?_
            refine xg_goto X (pc := 50) (tgt := 54) d_R_isPlace_50 rfl ?_
            exact xg_iret X (pc := 54) d_R_isPlace_54 rfl (rfl) (by first | exact x_ret1 (by simp_all [x_hol, x_pl, x_rp, x_be, x_op, x_os]) | exact x_ret0 (by simp_all [x_hol, x_pl, x_rp, x_be, x_op, x_os]))
abbrev x_rc (sc : Nat → Int32) (pl u v : Int32) : Int32 := 256 * pl + 16 * (v - sc 10) + u - sc 9
set_option maxRecDepth 100000 in
set_option maxHeartbeats 4000000 in
theorem c_R_cell (hd : x_dis ad) {pl u v : Int32} : x_Con l M_R_cell 0 0 ad D cI [.ref (ad 7), .int pl, .int u, .int v] sc ar (x_E (some (.int (x_rc sc pl u v))) sc ar) := by
  refine x_intro hd [some (.ref (ad 7)), some (.int pl), some (.int u), some (.int v)] (by decide) (Nat.le_of_ble_eq_true rfl) rfl ?_
  intro p e s m args below meth c X
  refine xg_sipush X (pc := 0) (v := 256) d_R_cell_0 (by decide) ?_
  refine xg_iload_n X (pc := 3) d_R_cell_3 rfl ?_
  refine xg_imul X (pc := 4) d_R_cell_4 ?_
  refine xg_bipush X (pc := 5) (v := 16) d_R_cell_5 (by decide) ?_
  refine xg_iload_n X (pc := 7) d_R_cell_7 rfl ?_
  refine xg_aload_n X (pc := 8) d_R_cell_8 rfl ?_
  refine xf_R_33 X (pc := 9) rfl d_R_cell_9 ?_
  refine xg_isub X (pc := 12) d_R_cell_12 ?_
  refine xg_imul X (pc := 13) d_R_cell_13 ?_
  refine xg_iadd X (pc := 14) d_R_cell_14 ?_
  refine xg_iload_n X (pc := 15) d_R_cell_15 rfl ?_
  refine xg_iadd X (pc := 16) d_R_cell_16 ?_
  refine xg_aload_n X (pc := 17) d_R_cell_17 rfl ?_
  refine xf_R_26 X (pc := 18) rfl d_R_cell_18 ?_
  refine xg_isub X (pc := 21) d_R_cell_21 ?_
  exact xg_iret X (pc := 22) d_R_cell_22 rfl (rfl) (⟨rfl, rfl, rfl⟩)
set_option maxRecDepth 100000 in
set_option maxHeartbeats 4000000 in
theorem c_R_at (hd : x_dis ad) {pl u v : Int32} (hx : (¬ pl < 0 ∧ ¬ 2 < pl) ∧ x_rp sc u v → vp_in (x_rc sc pl u v) 768) : x_Con l M_R_at 1 23 ad D cI [.ref (ad 7), .int pl, .int u, .int v] sc ar (x_E (some (.int (if (¬ pl < 0 ∧ ¬ 2 < pl) ∧ x_rp sc u v then ar 4 (x_rc sc pl u v).toNatClampNeg else 0))) sc ar) := by
  refine x_intro hd [some (.ref (ad 7)), some (.int pl), some (.int u), some (.int v)] (by decide) (Nat.le_of_ble_eq_true rfl) rfl ?_
  intro p e s m args below meth c X
  refine xg_iload_n X (pc := 0) d_R_at_0 rfl ?_
  refine xg_crS1 X (pc := 1) d_R_at_1 (c_R_isPlane hd) s_R_45 ⟨by decide, by decide⟩ (Nat.le_of_ble_eq_true rfl) ?_
  refine xg_if_eq X (pc := 4) (tgt := 31) d_R_at_4 rfl (fun h4 => ?_) (fun h4 => ?_)
  · replace h4 := x_b0 h4
    refine xg_iconst X (pc := 31) (v := 0) d_R_at_31 (by decide) ?_
    exact xg_iret X (pc := 32) d_R_at_32 rfl (rfl) (⟨by (repeat' split) <;> first | rfl | (exfalso; simp_all [x_hol, x_pl, x_rp, x_be, x_op, x_os]), rfl, rfl⟩)
  · replace h4 := x_bn h4
    refine xg_aload_n X (pc := 7) d_R_at_7 rfl ?_
    refine xg_iload_n X (pc := 8) d_R_at_8 rfl ?_
    refine xg_iload_n X (pc := 9) d_R_at_9 rfl ?_
    refine xg_crV2 X (pc := 10) d_R_at_10 (c_R_isPlace hd) s_R_49 ⟨_, rfl⟩ rfl ⟨by decide, by decide⟩ (Nat.le_of_ble_eq_true rfl) ?_
    refine xg_if_eq X (pc := 13) (tgt := 31) d_R_at_13 rfl (fun h13 => ?_) (fun h13 => ?_)
    · replace h13 := x_b0 h13
      refine xg_iconst X (pc := 31) (v := 0) d_R_at_31 (by decide) ?_
      exact xg_iret X (pc := 32) d_R_at_32 rfl (rfl) (⟨by (repeat' split) <;> first | rfl | (exfalso; simp_all [x_hol, x_pl, x_rp, x_be, x_op, x_os]), rfl, rfl⟩)
    · replace h13 := x_bn h13
      refine xg_aload_n X (pc := 16) d_R_at_16 rfl ?_
      refine xf_R_13 X (pc := 17) rfl d_R_at_17 ?_
      refine xg_aload_n X (pc := 20) d_R_at_20 rfl ?_
      refine xg_iload_n X (pc := 21) d_R_at_21 rfl ?_
      refine xg_iload_n X (pc := 22) d_R_at_22 rfl ?_
      refine xg_iload_n X (pc := 23) d_R_at_23 rfl ?_
      refine xg_crV3 X (pc := 24) d_R_at_24 (c_R_cell hd) s_R_53 ⟨_, rfl⟩ rfl ⟨by decide, by decide⟩ (Nat.le_of_ble_eq_true rfl) ?_
      refine xa_ld9 X (pc := 27) d_R_at_27 (hx ⟨h4, h13⟩) ?_
      refine xg_goto X (pc := 28) (tgt := 32) d_R_at_28 rfl ?_
      exact xg_iret X (pc := 32) d_R_at_32 rfl (rfl) (⟨by (repeat' split) <;> first | rfl | (exfalso; simp_all [x_hol, x_pl, x_rp, x_be, x_op, x_os]), rfl, rfl⟩)
set_option maxRecDepth 100000 in
set_option maxHeartbeats 4000000 in
theorem c_R_mixed (hd : x_dis ad) (hb : sc 13 = 0 ∨ sc 13 = 1) : x_Con l M_R_mixed 0 0 ad D cI [.ref (ad 7)] sc ar (x_E (some (.int (sc 13))) sc ar) := by
  refine x_intro hd [some (.ref (ad 7))] (by decide) (Nat.le_of_ble_eq_true rfl) rfl ?_
  intro p e s m args below meth c X
  refine xg_aload_n X (pc := 0) d_R_mixed_0 rfl ?_
  refine xf_R_39 X (pc := 1) rfl d_R_mixed_1 ?_
  exact xg_iret X (pc := 4) d_R_mixed_4 rfl (by rcases hb with h | h <;> rw [h] <;> rfl) (⟨rfl, rfl, rfl⟩)
set_option maxRecDepth 100000 in
set_option maxHeartbeats 4000000 in
theorem c_R_levels (hd : x_dis ad) : x_Con l M_R_levels 0 0 ad D cI [.ref (ad 7)] sc ar (x_E (some (.int (sc 14))) sc ar) := by
  refine x_intro hd [some (.ref (ad 7))] (by decide) (Nat.le_of_ble_eq_true rfl) rfl ?_
  intro p e s m args below meth c X
  refine xg_aload_n X (pc := 0) d_R_levels_0 rfl ?_
  refine xf_R_42 X (pc := 1) rfl d_R_levels_1 ?_
  exact xg_iret X (pc := 4) d_R_levels_4 rfl (rfl) (⟨rfl, rfl, rfl⟩)
set_option maxRecDepth 100000 in
set_option maxHeartbeats 4000000 in
theorem c_R_odd (hd : x_dis ad) {n : Int32} : x_Con l M_R_odd 0 0 ad D cI [.int n] sc ar (x_E (some (.int (x_b (¬ n - n / 2 * 2 = 0)))) sc ar) := by
  refine x_intro hd [some (.int n)] (by decide) (Nat.le_of_ble_eq_true rfl) rfl ?_
  intro p e s m args below meth c X
  refine xg_iload_n X (pc := 0) d_R_odd_0 rfl ?_
  refine xg_iconst X (pc := 1) (v := 2) d_R_odd_1 (by decide) ?_
  refine xg_irem X (pc := 2) d_R_odd_2 (by decide) ?_
  refine xg_if_eq X (pc := 3) (tgt := 10) d_R_odd_3 rfl (fun h3 => ?_) (fun h3 => ?_)
  · refine xg_iconst X (pc := 10) (v := 0) d_R_odd_10 (by decide) ?_
    exact xg_iret X (pc := 11) d_R_odd_11 rfl (rfl) (by first | exact x_ret1 (by simp_all [x_hol, x_pl, x_rp, x_be, x_op, x_os]) | exact x_ret0 (by simp_all [x_hol, x_pl, x_rp, x_be, x_op, x_os]))
  · refine xg_iconst X (pc := 6) (v := 1) d_R_odd_6 (by decide) ?_
    refine xg_goto X (pc := 7) (tgt := 11) d_R_odd_7 rfl ?_
    exact xg_iret X (pc := 11) d_R_odd_11 rfl (rfl) (by first | exact x_ret1 (by simp_all [x_hol, x_pl, x_rp, x_be, x_op, x_os]) | exact x_ret0 (by simp_all [x_hol, x_pl, x_rp, x_be, x_op, x_os]))
abbrev x_pd (k n0 n1 f0 f1 : Int32) : Int32 := if k = 0 then (n0 + n1) >>> (1 &&& 31) else if k = 1 then n0 else (9 * (n0 + n1) - f0 - f1 + 8) >>> (4 &&& 31)
set_option maxRecDepth 100000 in
set_option maxHeartbeats 4000000 in
theorem c_R_predicted (hd : x_dis ad) {n0 n1 f0 f1 : Int32} : x_Con l M_R_predicted 0 0 ad D cI [.ref (ad 7), .int n0, .int n1, .int f0, .int f1] sc ar (x_E (some (.int (x_pd (sc 17) n0 n1 f0 f1))) sc ar) := by
  refine x_intro hd [some (.ref (ad 7)), some (.int n0), some (.int n1), some (.int f0), some (.int f1)] (by decide) (Nat.le_of_ble_eq_true rfl) rfl ?_
  intro p e s m args below meth c X
  refine xg_aload_n X (pc := 0) d_R_predicted_0 rfl ?_
  refine xf_R_67 X (pc := 1) rfl d_R_predicted_1 ?_
  refine xg_if_ne X (pc := 4) (tgt := 13) d_R_predicted_4 rfl (fun h4 => ?_) (fun h4 => ?_)
  · refine xg_aload_n X (pc := 13) d_R_predicted_13 rfl ?_
    refine xf_R_67 X (pc := 14) rfl d_R_predicted_14 ?_
    refine xg_iconst X (pc := 17) (v := 1) d_R_predicted_17 (by decide) ?_
    refine xg_icmp_ne X (pc := 18) (tgt := 25) d_R_predicted_18 rfl (fun h18 => ?_) (fun h18 => ?_)
    · refine xg_bipush X (pc := 25) (v := 9) d_R_predicted_25 (by decide) ?_
      refine xg_iload_n X (pc := 27) d_R_predicted_27 rfl ?_
      refine xg_iload_n X (pc := 28) d_R_predicted_28 rfl ?_
      refine xg_iadd X (pc := 29) d_R_predicted_29 ?_
      refine xg_imul X (pc := 30) d_R_predicted_30 ?_
      refine xg_iload_n X (pc := 31) d_R_predicted_31 rfl ?_
      refine xg_isub X (pc := 32) d_R_predicted_32 ?_
      refine xg_iload X (pc := 33) d_R_predicted_33 rfl ?_
      refine xg_isub X (pc := 35) d_R_predicted_35 ?_
      refine xg_bipush X (pc := 36) (v := 8) d_R_predicted_36 (by decide) ?_
      refine xg_iadd X (pc := 38) d_R_predicted_38 ?_
      refine xg_iconst X (pc := 39) (v := 4) d_R_predicted_39 (by decide) ?_
      refine xg_ishr X (pc := 40) d_R_predicted_40 ?_
      exact xg_iret X (pc := 41) d_R_predicted_41 rfl (rfl) (⟨by unfold x_pd; (repeat' split) <;> first | rfl | (exfalso; simp_all [x_hol, x_pl, x_rp, x_be, x_op, x_os]), rfl, rfl⟩)
    · refine xg_iload_n X (pc := 21) d_R_predicted_21 rfl ?_
      refine xg_goto X (pc := 22) (tgt := 41) d_R_predicted_22 rfl ?_
      exact xg_iret X (pc := 41) d_R_predicted_41 rfl (rfl) (⟨by unfold x_pd; (repeat' split) <;> first | rfl | (exfalso; simp_all [x_hol, x_pl, x_rp, x_be, x_op, x_os]), rfl, rfl⟩)
  · refine xg_iload_n X (pc := 7) d_R_predicted_7 rfl ?_
    refine xg_iload_n X (pc := 8) d_R_predicted_8 rfl ?_
    refine xg_iadd X (pc := 9) d_R_predicted_9 ?_
    refine xg_iconst X (pc := 10) (v := 1) d_R_predicted_10 (by decide) ?_
    refine xg_ishr X (pc := 11) d_R_predicted_11 ?_
    exact xg_iret X (pc := 12) d_R_predicted_12 rfl (rfl) (⟨by unfold x_pd; (repeat' split) <;> first | rfl | (exfalso; simp_all [x_hol, x_pl, x_rp, x_be, x_op, x_os]), rfl, rfl⟩)
abbrev x_up (k n0 n1 : Int32) : Int32 := if k = 1 then n1 >>> (1 &&& 31) else (n0 + n1 + 2) >>> (2 &&& 31)
set_option maxRecDepth 100000 in
set_option maxHeartbeats 4000000 in
theorem c_R_updated (hd : x_dis ad) {n0 n1 : Int32} : x_Con l M_R_updated 0 0 ad D cI [.ref (ad 7), .int n0, .int n1] sc ar (x_E (some (.int (x_up (sc 17) n0 n1))) sc ar) := by
  refine x_intro hd [some (.ref (ad 7)), some (.int n0), some (.int n1)] (by decide) (Nat.le_of_ble_eq_true rfl) rfl ?_
  intro p e s m args below meth c X
  refine xg_aload_n X (pc := 0) d_R_updated_0 rfl ?_
  refine xf_R_67 X (pc := 1) rfl d_R_updated_1 ?_
  refine xg_iconst X (pc := 4) (v := 1) d_R_updated_4 (by decide) ?_
  refine xg_icmp_ne X (pc := 5) (tgt := 14) d_R_updated_5 rfl (fun h5 => ?_) (fun h5 => ?_)
  · refine xg_iload_n X (pc := 14) d_R_updated_14 rfl ?_
    refine xg_iload_n X (pc := 15) d_R_updated_15 rfl ?_
    refine xg_iadd X (pc := 16) d_R_updated_16 ?_
    refine xg_iconst X (pc := 17) (v := 2) d_R_updated_17 (by decide) ?_
    refine xg_iadd X (pc := 18) d_R_updated_18 ?_
    refine xg_iconst X (pc := 19) (v := 2) d_R_updated_19 (by decide) ?_
    refine xg_ishr X (pc := 20) d_R_updated_20 ?_
    exact xg_iret X (pc := 21) d_R_updated_21 rfl (rfl) (⟨by unfold x_up; (repeat' split) <;> first | rfl | (exfalso; simp_all [x_hol, x_pl, x_rp, x_be, x_op, x_os]), rfl, rfl⟩)
  · refine xg_iload_n X (pc := 8) d_R_updated_8 rfl ?_
    refine xg_iconst X (pc := 9) (v := 1) d_R_updated_9 (by decide) ?_
    refine xg_ishr X (pc := 10) d_R_updated_10 ?_
    refine xg_goto X (pc := 11) (tgt := 21) d_R_updated_11 rfl ?_
    exact xg_iret X (pc := 21) d_R_updated_21 rfl (rfl) (⟨by unfold x_up; (repeat' split) <;> first | rfl | (exfalso; simp_all [x_hol, x_pl, x_rp, x_be, x_op, x_os]), rfl, rfl⟩)
set_option maxRecDepth 100000 in
set_option maxHeartbeats 4000000 in
theorem c_R_scale (hd : x_dis ad) {d : Int32} : x_Con l M_R_scale 0 0 ad D cI [.int d] sc ar (x_E (some (.int (1 <<< ((d - 1) &&& 31)))) sc ar) := by
  refine x_intro hd [some (.int d)] (by decide) (Nat.le_of_ble_eq_true rfl) rfl ?_
  intro p e s m args below meth c X
  refine xg_iconst X (pc := 0) (v := 1) d_R_scale_0 (by decide) ?_
  refine xg_iload_n X (pc := 1) d_R_scale_1 rfl ?_
  refine xg_iconst X (pc := 2) (v := 1) d_R_scale_2 (by decide) ?_
  refine xg_isub X (pc := 3) d_R_scale_3 ?_
  refine xg_ishl X (pc := 4) d_R_scale_4 ?_
  exact xg_iret X (pc := 5) d_R_scale_5 rfl (rfl) (⟨rfl, rfl, rfl⟩)
set_option maxRecDepth 100000 in
set_option maxHeartbeats 4000000 in
theorem c_R_isLevel (hd : x_dis ad) {d : Int32} : x_Con l M_R_isLevel 0 0 ad D cI [.ref (ad 7), .int d] sc ar (x_E (some (.int (x_b (¬ d < 1 ∧ ¬ sc 14 < d)))) sc ar) := by
  refine x_intro hd [some (.ref (ad 7)), some (.int d)] (by decide) (Nat.le_of_ble_eq_true rfl) rfl ?_
  intro p e s m args below meth c X
  refine xg_iload_n X (pc := 0) d_R_isLevel_0 rfl ?_
  refine xg_iconst X (pc := 1) (v := 1) d_R_isLevel_1 (by decide) ?_
  refine xg_icmp_lt X (pc := 2) (tgt := 17) d_R_isLevel_2 rfl (fun h2 => ?_) (fun h2 => ?_)
  · refine xg_iconst X (pc := 17) (v := 0) d_R_isLevel_17 (by decide) ?_
    exact xg_iret X (pc := 18) d_R_isLevel_18 rfl (rfl) (by first | exact x_ret1 (by simp_all [x_hol, x_pl, x_rp, x_be, x_op, x_os]) | exact x_ret0 (by simp_all [x_hol, x_pl, x_rp, x_be, x_op, x_os]))
  · refine xg_iload_n X (pc := 5) d_R_isLevel_5 rfl ?_
    refine xg_aload_n X (pc := 6) d_R_isLevel_6 rfl ?_
    refine xf_R_42 X (pc := 7) rfl d_R_isLevel_7 ?_
    refine xg_icmp_gt X (pc := 10) (tgt := 17) d_R_isLevel_10 rfl (fun h10 => ?_) (fun h10 => ?_)
    · refine xg_iconst X (pc := 17) (v := 0) d_R_isLevel_17 (by decide) ?_
      exact xg_iret X (pc := 18) d_R_isLevel_18 rfl (rfl) (by first | exact x_ret1 (by simp_all [x_hol, x_pl, x_rp, x_be, x_op, x_os]) | exact x_ret0 (by simp_all [x_hol, x_pl, x_rp, x_be, x_op, x_os]))
    · refine xg_iconst X (pc := 13) (v := 1) d_R_isLevel_13 (by decide) ?_
      refine xg_goto X (pc := 14) (tgt := 18) d_R_isLevel_14 rfl ?_
      exact xg_iret X (pc := 18) d_R_isLevel_18 rfl (rfl) (by first | exact x_ret1 (by simp_all [x_hol, x_pl, x_rp, x_be, x_op, x_os]) | exact x_ret0 (by simp_all [x_hol, x_pl, x_rp, x_be, x_op, x_os]))
set_option maxRecDepth 100000 in
set_option maxHeartbeats 4000000 in
theorem c_R_isBand (hd : x_dis ad) {o : Int32} : x_Con l M_R_isBand 0 0 ad D cI [.int o] sc ar (x_E (some (.int (x_b (¬ o < 0 ∧ ¬ 3 < o)))) sc ar) := by
  refine x_intro hd [some (.int o)] (by decide) (Nat.le_of_ble_eq_true rfl) rfl ?_
  intro p e s m args below meth c X
  refine xg_iload_n X (pc := 0) d_R_isBand_0 rfl ?_
  refine xg_if_lt X (pc := 1) (tgt := 13) d_R_isBand_1 rfl (fun h1 => ?_) (fun h1 => ?_)
  · refine xg_iconst X (pc := 13) (v := 0) d_R_isBand_13 (by decide) ?_
    exact xg_iret X (pc := 14) d_R_isBand_14 rfl (rfl) (by first | exact x_ret1 (by simp_all [x_hol, x_pl, x_rp, x_be, x_op, x_os]) | exact x_ret0 (by simp_all [x_hol, x_pl, x_rp, x_be, x_op, x_os]))
  · refine xg_iload_n X (pc := 4) d_R_isBand_4 rfl ?_
    refine xg_iconst X (pc := 5) (v := 3) d_R_isBand_5 (by decide) ?_
    refine xg_icmp_gt X (pc := 6) (tgt := 13) d_R_isBand_6 rfl (fun h6 => ?_) (fun h6 => ?_)
    · refine xg_iconst X (pc := 13) (v := 0) d_R_isBand_13 (by decide) ?_
      exact xg_iret X (pc := 14) d_R_isBand_14 rfl (rfl) (by first | exact x_ret1 (by simp_all [x_hol, x_pl, x_rp, x_be, x_op, x_os]) | exact x_ret0 (by simp_all [x_hol, x_pl, x_rp, x_be, x_op, x_os]))
    · refine xg_iconst X (pc := 9) (v := 1) d_R_isBand_9 (by decide) ?_
      refine xg_goto X (pc := 10) (tgt := 14) d_R_isBand_10 rfl ?_
      exact xg_iret X (pc := 14) d_R_isBand_14 rfl (rfl) (by first | exact x_ret1 (by simp_all [x_hol, x_pl, x_rp, x_be, x_op, x_os]) | exact x_ret0 (by simp_all [x_hol, x_pl, x_rp, x_be, x_op, x_os]))
set_option maxRecDepth 100000 in
set_option maxHeartbeats 4000000 in
theorem c_R_shift (hd : x_dis ad) {d o w : Int32} : x_Con l M_R_shift 1 20 ad D cI [.int d, .int o, .int w] sc ar (x_E (some (.int (x_sh d o w))) sc ar) := by
  refine x_intro hd [some (.int d), some (.int o), some (.int w), none] (by decide) (Nat.le_of_ble_eq_true rfl) rfl ?_
  intro p e s m args below meth c X
  refine xg_iload_n X (pc := 0) d_R_shift_0 rfl ?_
  refine xg_if_eq X (pc := 1) (tgt := 10) d_R_shift_1 rfl (fun h1 => ?_) (fun h1 => ?_)
  · refine xg_iload_n X (pc := 10) d_R_shift_10 rfl ?_
    refine xg_iconst X (pc := 11) (v := 1) d_R_shift_11 (by decide) ?_
    refine xg_iand X (pc := 12) d_R_shift_12 ?_
    refine xg_istore_n X (pc := 13) d_R_shift_13 (by decide) rfl ?_
    refine xg_iload_n X (pc := 14) d_R_shift_14 rfl ?_
    refine xg_crS1 X (pc := 15) d_R_shift_15 (c_R_scale hd) s_R_113 ⟨by decide, by decide⟩ (Nat.le_of_ble_eq_true rfl) ?_
    refine xg_iload_n X (pc := 18) d_R_shift_18 rfl ?_
    refine xg_imul X (pc := 19) d_R_shift_19 ?_
    exact xg_iret X (pc := 20) d_R_shift_20 rfl (rfl) (⟨by unfold x_sh; (repeat' split) <;> first | rfl | (exfalso; simp_all [x_hol, x_pl, x_rp, x_be, x_op, x_os]), rfl, rfl⟩)
  · refine xg_iload_n X (pc := 4) d_R_shift_4 rfl ?_
    refine xg_iconst X (pc := 5) (v := 1) d_R_shift_5 (by decide) ?_
    refine xg_ishr X (pc := 6) d_R_shift_6 ?_
    refine xg_goto X (pc := 7) (tgt := 13) d_R_shift_7 rfl ?_
    refine xg_istore_n X (pc := 13) d_R_shift_13 (by decide) rfl ?_
    refine xg_iload_n X (pc := 14) d_R_shift_14 rfl ?_
    refine xg_crS1 X (pc := 15) d_R_shift_15 (c_R_scale hd) s_R_113 ⟨by decide, by decide⟩ (Nat.le_of_ble_eq_true rfl) ?_
    refine xg_iload_n X (pc := 18) d_R_shift_18 rfl ?_
    refine xg_imul X (pc := 19) d_R_shift_19 ?_
    exact xg_iret X (pc := 20) d_R_shift_20 rfl (rfl) (⟨by unfold x_sh; (repeat' split) <;> first | rfl | (exfalso; simp_all [x_hol, x_pl, x_rp, x_be, x_op, x_os]), rfl, rfl⟩)
set_option maxRecDepth 100000 in
set_option maxHeartbeats 4000000 in
theorem c_R_belongs (hd : x_dis ad) {d o u v : Int32} (hz : ¬ 2 * (1 : Int32) <<< ((d - 1) &&& 31) = 0) : x_Con l M_R_belongs 2 43 ad D cI [.int d, .int o, .int u, .int v] sc ar (x_E (some (.int (x_b (x_be d o u v)))) sc ar) := by
  refine x_intro hd [some (.int d), some (.int o), some (.int u), some (.int v), none] (by decide) (Nat.le_of_ble_eq_true rfl) rfl ?_
  intro p e s m args below meth c X
  refine xg_iconst X (pc := 0) (v := 2) d_R_belongs_0 (by decide) ?_
  refine xg_iload_n X (pc := 1) d_R_belongs_1 rfl ?_
  refine xg_crS1 X (pc := 2) d_R_belongs_2 (c_R_scale hd) s_R_113 ⟨by decide, by decide⟩ (Nat.le_of_ble_eq_true rfl) ?_
  refine xg_imul X (pc := 5) d_R_belongs_5 ?_
  refine xg_istore X (pc := 6) d_R_belongs_6 (by decide) rfl ?_
  refine xg_iload_n X (pc := 8) d_R_belongs_8 rfl ?_
  refine xg_iload_n X (pc := 9) d_R_belongs_9 rfl ?_
  refine xg_iload_n X (pc := 10) d_R_belongs_10 rfl ?_
  refine xg_iconst X (pc := 11) (v := 0) d_R_belongs_11 (by decide) ?_
  refine xg_crS3 X (pc := 12) d_R_belongs_12 (c_R_shift hd) s_R_126 ⟨by decide, by decide⟩ (Nat.le_of_ble_eq_true rfl) ?_
  refine xg_isub X (pc := 15) d_R_belongs_15 ?_
  refine xg_iload X (pc := 16) d_R_belongs_16 rfl ?_
  refine xg_irem X (pc := 18) d_R_belongs_18 (hz) ?_
  refine xg_if_ne X (pc := 19) (tgt := 40) d_R_belongs_19 rfl (fun h19 => ?_) (fun h19 => ?_)
  · refine xg_iconst X (pc := 40) (v := 0) d_R_belongs_40 (by decide) ?_
    exact xg_iret X (pc := 41) d_R_belongs_41 rfl (rfl) (by first | exact x_ret1 (by simp_all [x_hol, x_pl, x_rp, x_be, x_op, x_os]) | exact x_ret0 (by simp_all [x_hol, x_pl, x_rp, x_be, x_op, x_os]))
  · refine xg_iload_n X (pc := 22) d_R_belongs_22 rfl ?_
    refine xg_iload_n X (pc := 23) d_R_belongs_23 rfl ?_
    refine xg_iload_n X (pc := 24) d_R_belongs_24 rfl ?_
    refine xg_iconst X (pc := 25) (v := 1) d_R_belongs_25 (by decide) ?_
    refine xg_crS3 X (pc := 26) d_R_belongs_26 (c_R_shift hd) s_R_126 ⟨by decide, by decide⟩ (Nat.le_of_ble_eq_true rfl) ?_
    refine xg_isub X (pc := 29) d_R_belongs_29 ?_
    refine xg_iload X (pc := 30) d_R_belongs_30 rfl ?_
    refine xg_irem X (pc := 32) d_R_belongs_32 (hz) ?_
    refine xg_if_ne X (pc := 33) (tgt := 40) d_R_belongs_33 rfl (fun h33 => ?_) (fun h33 => ?_)
    · refine xg_iconst X (pc := 40) (v := 0) d_R_belongs_40 (by decide) ?_
      exact xg_iret X (pc := 41) d_R_belongs_41 rfl (rfl) (by first | exact x_ret1 (by simp_all [x_hol, x_pl, x_rp, x_be, x_op, x_os]) | exact x_ret0 (by simp_all [x_hol, x_pl, x_rp, x_be, x_op, x_os]))
    · refine xg_iconst X (pc := 36) (v := 1) d_R_belongs_36 (by decide) ?_
      refine xg_goto X (pc := 37) (tgt := 41) d_R_belongs_37 rfl ?_
      exact xg_iret X (pc := 41) d_R_belongs_41 rfl (rfl) (by first | exact x_ret1 (by simp_all [x_hol, x_pl, x_rp, x_be, x_op, x_os]) | exact x_ret0 (by simp_all [x_hol, x_pl, x_rp, x_be, x_op, x_os]))
def x_ram (v : Int32) : Int64 := if 0 ≤ v then v.toInt64 else -v.toInt64
set_option maxRecDepth 100000 in
set_option maxHeartbeats 4000000 in
theorem c_R_amount (hd : x_dis ad) {v : Int32} : x_Con l M_R_amount 0 0 ad D cI [.int v] sc ar (x_E (some (.long (x_ram v))) sc ar) := by
  refine x_intro hd [some (.int v)] (by decide) (Nat.le_of_ble_eq_true rfl) rfl ?_
  intro p e s m args below meth c X
  refine xg_iload_n X (pc := 0) d_R_amount_0 rfl ?_
  refine xg_if_ge X (pc := 1) (tgt := 10) d_R_amount_1 rfl (fun h1 => ?_) (fun h1 => ?_)
  · refine xg_iload_n X (pc := 10) d_R_amount_10 rfl ?_
    refine xg_i2l X (pc := 11) d_R_amount_11 ?_
    exact xg_lret X (pc := 12) d_R_amount_12 rfl (⟨by unfold x_ram; (repeat' split) <;> first | rfl | (exfalso; simp_all [x_hol, x_pl, x_rp, x_be, x_op, x_os]), rfl, rfl⟩)
  · refine xg_iload_n X (pc := 4) d_R_amount_4 rfl ?_
    refine xg_i2l X (pc := 5) d_R_amount_5 ?_
    refine xg_lneg X (pc := 6) d_R_amount_6 ?_
    refine xg_goto X (pc := 7) (tgt := 12) d_R_amount_7 rfl ?_
    exact xg_lret X (pc := 12) d_R_amount_12 rfl (⟨by unfold x_ram; (repeat' split) <;> first | rfl | (exfalso; simp_all [x_hol, x_pl, x_rp, x_be, x_op, x_os]), rfl, rfl⟩)
abbrev x_rth (v t : Int32) : Int32 := (if 0 ≤ v then (if lg_cmp (x_ram v / t.toInt64) 0 = 0 then 0 else x_ram v / t.toInt64 * t.toInt64 + (t / 2).toInt64) else -(if lg_cmp (x_ram v / t.toInt64) 0 = 0 then 0 else x_ram v / t.toInt64 * t.toInt64 + (t / 2).toInt64)).toInt32
set_option maxRecDepth 100000 in
set_option maxHeartbeats 4000000 in
theorem c_R_thinned (hd : x_dis ad) {v t : Int32} (ht : ¬ t.toInt64 = 0) : x_Con l M_R_thinned 1 20 ad D cI [.int v, .int t] sc ar (x_E (some (.int (x_rth v t))) sc ar) := by
  refine x_intro hd [some (.int v), some (.int t), none, none, none, none] (by decide) (Nat.le_of_ble_eq_true rfl) rfl ?_
  intro p e s m args below meth c X
  refine xg_iload_n X (pc := 0) d_R_thinned_0 rfl ?_
  refine xg_crS1 X (pc := 1) d_R_thinned_1 (c_R_amount hd) s_R_141 ⟨by decide, by decide⟩ (Nat.le_of_ble_eq_true rfl) ?_
  refine xg_iload_n X (pc := 4) d_R_thinned_4 rfl ?_
  refine xg_i2l X (pc := 5) d_R_thinned_5 ?_
  refine xg_ldiv X (pc := 6) d_R_thinned_6 (ht) ?_
  refine xg_lstore_n X (pc := 7) d_R_thinned_7 (by decide) rfl ?_
  refine xg_lload_n X (pc := 8) d_R_thinned_8 rfl ?_
  refine xg_lconst X (pc := 9) (v := 0) d_R_thinned_9 (by decide) ?_
  refine xg_lcmp X (pc := 10) d_R_thinned_10 ?_
  refine xg_if_ne X (pc := 11) (tgt := 18) d_R_thinned_11 rfl (fun h11 => ?_) (fun h11 => ?_)
  · refine xg_lload_n X (pc := 18) d_R_thinned_18 rfl ?_
    refine xg_iload_n X (pc := 19) d_R_thinned_19 rfl ?_
    refine xg_i2l X (pc := 20) d_R_thinned_20 ?_
    refine xg_lmul X (pc := 21) d_R_thinned_21 ?_
    refine xg_iload_n X (pc := 22) d_R_thinned_22 rfl ?_
    refine xg_iconst X (pc := 23) (v := 2) d_R_thinned_23 (by decide) ?_
    refine xg_idiv X (pc := 24) d_R_thinned_24 (by decide) ?_
    refine xg_i2l X (pc := 25) d_R_thinned_25 ?_
    refine xg_ladd X (pc := 26) d_R_thinned_26 ?_
    refine xg_lstore X (pc := 27) d_R_thinned_27 (by decide) rfl ?_
    refine xg_iload_n X (pc := 29) d_R_thinned_29 rfl ?_
    refine xg_if_ge X (pc := 30) (tgt := 39) d_R_thinned_30 rfl (fun h30 => ?_) (fun h30 => ?_)
    · refine xg_lload X (pc := 39) d_R_thinned_39 rfl ?_
      refine xg_l2i X (pc := 41) d_R_thinned_41 ?_
      exact xg_iret X (pc := 42) d_R_thinned_42 rfl (rfl) (⟨by unfold x_rth; (repeat' split) <;> first | rfl | (exfalso; simp_all [x_hol, x_pl, x_rp, x_be, x_op, x_os]), rfl, rfl⟩)
    · refine xg_lload X (pc := 33) d_R_thinned_33 rfl ?_
      refine xg_lneg X (pc := 35) d_R_thinned_35 ?_
      refine xg_goto X (pc := 36) (tgt := 41) d_R_thinned_36 rfl ?_
      refine xg_l2i X (pc := 41) d_R_thinned_41 ?_
      exact xg_iret X (pc := 42) d_R_thinned_42 rfl (rfl) (⟨by unfold x_rth; (repeat' split) <;> first | rfl | (exfalso; simp_all [x_hol, x_pl, x_rp, x_be, x_op, x_os]), rfl, rfl⟩)
  · refine xg_lconst X (pc := 14) (v := 0) d_R_thinned_14 (by decide) ?_
    refine xg_goto X (pc := 15) (tgt := 27) d_R_thinned_15 rfl ?_
    refine xg_lstore X (pc := 27) d_R_thinned_27 (by decide) rfl ?_
    refine xg_iload_n X (pc := 29) d_R_thinned_29 rfl ?_
    refine xg_if_ge X (pc := 30) (tgt := 39) d_R_thinned_30 rfl (fun h30 => ?_) (fun h30 => ?_)
    · refine xg_lload X (pc := 39) d_R_thinned_39 rfl ?_
      refine xg_l2i X (pc := 41) d_R_thinned_41 ?_
      exact xg_iret X (pc := 42) d_R_thinned_42 rfl (rfl) (⟨by unfold x_rth; (repeat' split) <;> first | rfl | (exfalso; simp_all [x_hol, x_pl, x_rp, x_be, x_op, x_os]), rfl, rfl⟩)
    · refine xg_lload X (pc := 33) d_R_thinned_33 rfl ?_
      refine xg_lneg X (pc := 35) d_R_thinned_35 ?_
      refine xg_goto X (pc := 36) (tgt := 41) d_R_thinned_36 rfl ?_
      refine xg_l2i X (pc := 41) d_R_thinned_41 ?_
      exact xg_iret X (pc := 42) d_R_thinned_42 rfl (rfl) (⟨by unfold x_rth; (repeat' split) <;> first | rfl | (exfalso; simp_all [x_hol, x_pl, x_rp, x_be, x_op, x_os]), rfl, rfl⟩)
set_option maxRecDepth 100000 in
set_option maxHeartbeats 4000000 in
theorem c_R_kernel (hd : x_dis ad) {d : Int32} (hx : ¬ d < 1 ∧ ¬ sc 14 < d → vp_in (d - 1) 4) : x_Con l M_R_kernel 1 21 ad D cI [.ref (ad 7), .int d] sc ar (x_E (some (.int (if ¬ d < 1 ∧ ¬ sc 14 < d then ar 3 (d - 1).toNatClampNeg else -1))) sc ar) := by
  refine x_intro hd [some (.ref (ad 7)), some (.int d)] (by decide) (Nat.le_of_ble_eq_true rfl) rfl ?_
  intro p e s m args below meth c X
  refine xg_aload_n X (pc := 0) d_R_kernel_0 rfl ?_
  refine xg_iload_n X (pc := 1) d_R_kernel_1 rfl ?_
  refine xg_crV1 X (pc := 2) d_R_kernel_2 (c_R_isLevel hd) s_R_123 ⟨_, rfl⟩ rfl ⟨by decide, by decide⟩ (Nat.le_of_ble_eq_true rfl) ?_
  refine xg_if_eq X (pc := 5) (tgt := 19) d_R_kernel_5 rfl (fun h5 => ?_) (fun h5 => ?_)
  · replace h5 := x_b0 h5
    refine xg_iconst X (pc := 19) (v := -1) d_R_kernel_19 (by decide) ?_
    exact xg_iret X (pc := 20) d_R_kernel_20 rfl (rfl) (⟨by (repeat' split) <;> first | rfl | (exfalso; simp_all [x_hol, x_pl, x_rp, x_be, x_op, x_os]), rfl, rfl⟩)
  · replace h5 := x_bn h5
    refine xg_aload_n X (pc := 8) d_R_kernel_8 rfl ?_
    refine xf_R_7 X (pc := 9) rfl d_R_kernel_9 ?_
    refine xg_iload_n X (pc := 12) d_R_kernel_12 rfl ?_
    refine xg_iconst X (pc := 13) (v := 1) d_R_kernel_13 (by decide) ?_
    refine xg_isub X (pc := 14) d_R_kernel_14 ?_
    refine xa_ld8 X (pc := 15) d_R_kernel_15 (hx h5) ?_
    refine xg_goto X (pc := 16) (tgt := 20) d_R_kernel_16 rfl ?_
    exact xg_iret X (pc := 20) d_R_kernel_20 rfl (rfl) (⟨by (repeat' split) <;> first | rfl | (exfalso; simp_all [x_hol, x_pl, x_rp, x_be, x_op, x_os]), rfl, rfl⟩)
end C3
end
section
theorem x_ua_ua {ar : Nat → Nat → Int32} {j : Nat} {f g : Nat → Int32} : x_ua (x_ua ar j f) j g = x_ua ar j g := by
  funext i
  unfold x_ua
  by_cases h : i = j
  · rw [if_pos h, if_pos h]
  · rw [if_neg h, if_neg h, if_neg h]
theorem x_ua_at {ar : Nat → Nat → Int32} {j : Nat} {f : Nat → Int32} : x_ua ar j f j = f := if_pos rfl
theorem x_ua_ne {ar : Nat → Nat → Int32} {i j : Nat} {f : Nat → Int32} (h : i ≠ j) : x_ua ar j f i = ar i := if_neg h
theorem x_ua_id {ar : Nat → Nat → Int32} {j : Nat} : x_ua ar j (ar j) = ar := by
  funext i
  unfold x_ua
  by_cases h : i = j
  · rw [if_pos h, h]
  · rw [if_neg h]
theorem x_ge {k n : Nat} {c : Int32} (hc : c = nI n) (hn : n < 2 ^ 31) (hk : k < 2 ^ 31) (h : c ≤ nI k) : n ≤ k := by
  rw [hc] at h
  exact (nI_leI hn hk).mp h
theorem x_nge {k n : Nat} {c : Int32} (hc : c = nI n) (hn : n < 2 ^ 31) (hk : k < 2 ^ 31) (h : ¬ c ≤ nI k) : k < n := by
  rw [hc] at h
  exact Nat.lt_of_not_le fun q => h ((nI_leI hn hk).mpr q)
theorem x_k1 (k : Nat) : nI k + 1 = nI (k + 1) := nI_1 k
theorem x_kc (k c : Nat) : nI k + nI c = nI (k + c) := nI_add k c
theorem x_in256 {k : Nat} (hk : k < 256) : vp_in (nI k + 256) 768 := by
  have e : nI k + (256 : Int32) = nI (k + 256) := nI_add k 256
  rw [e]; exact vp_in_nI (by omega) (by decide)
theorem x_in512 {k : Nat} (hk : k < 256) : vp_in (nI k + 512) 768 := by
  have e : nI k + (512 : Int32) = nI (k + 512) := nI_add k 512
  rw [e]; exact vp_in_nI (by omega) (by decide)
theorem x_in256' {k : Nat} (hk : k < 256) : vp_in (256 + nI k) 768 := by rw [Int32.add_comm]; exact x_in256 hk
theorem x_in512' {k : Nat} (hk : k < 256) : vp_in (512 + nI k) 768 := by rw [Int32.add_comm]; exact x_in512 hk
theorem x_cl0 {k : Nat} (hk : k < 256) : (nI k).toNatClampNeg = k := nI_clamp (by omega)
theorem x_cl256 {k : Nat} (hk : k < 256) : (nI k + 256).toNatClampNeg = k + 256 := by
  have e : nI k + (256 : Int32) = nI (k + 256) := nI_add k 256
  rw [e]; exact nI_clamp (by omega)
theorem x_cl512 {k : Nat} (hk : k < 256) : (nI k + 512).toNatClampNeg = k + 512 := by
  have e : nI k + (512 : Int32) = nI (k + 512) := nI_add k 512
  rw [e]; exact nI_clamp (by omega)
theorem x_cl256' {k : Nat} (hk : k < 256) : (256 + nI k).toNatClampNeg = k + 256 := by rw [Int32.add_comm]; exact x_cl256 hk
theorem x_cl512' {k : Nat} (hk : k < 256) : (512 + nI k).toNatClampNeg = k + 512 := by rw [Int32.add_comm]; exact x_cl512 hk
def x_mx (f : Nat → Int32) (k : Nat) : Nat → Int32 := upd (upd (upd f k ((f k + 2 * f (k + 256) + f (k + 512)) >>> (2 &&& 31))) (k + 256) (f (k + 512) - f (k + 256))) (k + 512) (f k - f (k + 256))
def x_um (f : Nat → Int32) (k : Nat) : Nat → Int32 := upd (upd (upd f k (f (k + 512) + (f k - (f (k + 256) + f (k + 512)) >>> (2 &&& 31)))) (k + 256) (f k - (f (k + 256) + f (k + 512)) >>> (2 &&& 31))) (k + 512) (f (k + 256) + (f k - (f (k + 256) + f (k + 512)) >>> (2 &&& 31)))
def x_mxs (f : Nat → Int32) : Nat → Nat → Int32
  | 0 => f
  | k + 1 => x_mx (x_mxs f k) k
def x_ums (f : Nat → Int32) : Nat → Nat → Int32
  | 0 => f
  | k + 1 => x_um (x_ums f k) k
def x_fl (f : Nat → Int32) (v : Int32) (k : Nat) : Nat → Int32 := fun i => if i < k then v else f i
theorem x_fl0 {f : Nat → Int32} {v : Int32} : x_fl f v 0 = f := by
  funext i
  unfold x_fl
  rw [if_neg (Nat.not_lt_zero i)]
theorem x_fls {f : Nat → Int32} {v : Int32} {k : Nat} : upd (x_fl f v k) k v = x_fl f v (k + 1) := by
  funext i
  unfold upd x_fl
  by_cases h : i = k
  · rw [if_pos h, if_pos (by omega)]
  · rw [if_neg h]
    by_cases h2 : i < k
    · rw [if_pos h2, if_pos (by omega)]
    · rw [if_neg h2, if_neg (by omega)]
section C4
variable {l : Launch} {ad : Nat → Nat} {D : va_G} {cI : ClassId} {sc : Nat → Int32} {ar : Nat → Nat → Int32}
set_option maxRecDepth 100000 in
set_option maxHeartbeats 4000000 in
theorem c_T_mixCell (hd : x_dis ad) {k : Nat} (hk : k < 256) : x_Con l M_T_mixCell 0 0 ad D cI [.ref (ad 0), .int (nI k)] sc ar (x_E none sc (x_ua ar 0 (x_mx (ar 0) k))) := by
  refine x_intro hd [some (.ref (ad 0)), some (.int (nI k)), none, none, none] (by decide) (Nat.le_of_ble_eq_true rfl) rfl ?_
  intro p e s m args below meth c X
  refine xg_aload_n X (pc := 0) d_T_mixCell_0 rfl ?_
  refine xf_T_9 X (pc := 1) rfl d_T_mixCell_1 ?_
  refine xg_iload_n X (pc := 4) d_T_mixCell_4 rfl ?_
  refine xa_ld1 X (pc := 5) d_T_mixCell_5 (vp_in_nI (by omega) (by decide)) ?_
  refine xg_istore_n X (pc := 6) d_T_mixCell_6 (by decide) rfl ?_
  refine xg_aload_n X (pc := 7) d_T_mixCell_7 rfl ?_
  refine xf_T_9 X (pc := 8) rfl d_T_mixCell_8 ?_
  refine xg_iload_n X (pc := 11) d_T_mixCell_11 rfl ?_
  refine xg_sipush X (pc := 12) (v := 256) d_T_mixCell_12 (by decide) ?_
  refine xg_iadd X (pc := 15) d_T_mixCell_15 ?_
  refine xa_ld1 X (pc := 16) d_T_mixCell_16 (x_in256 hk) ?_
  refine xg_istore_n X (pc := 17) d_T_mixCell_17 (by decide) rfl ?_
  refine xg_aload_n X (pc := 18) d_T_mixCell_18 rfl ?_
  refine xf_T_9 X (pc := 19) rfl d_T_mixCell_19 ?_
  refine xg_iload_n X (pc := 22) d_T_mixCell_22 rfl ?_
  refine xg_sipush X (pc := 23) (v := 512) d_T_mixCell_23 (by decide) ?_
  refine xg_iadd X (pc := 26) d_T_mixCell_26 ?_
  refine xa_ld1 X (pc := 27) d_T_mixCell_27 (x_in512 hk) ?_
  refine xg_istore X (pc := 28) d_T_mixCell_28 (by decide) rfl ?_
  refine xg_aload_n X (pc := 30) d_T_mixCell_30 rfl ?_
  refine xf_T_9 X (pc := 31) rfl d_T_mixCell_31 ?_
  refine xg_iload_n X (pc := 34) d_T_mixCell_34 rfl ?_
  refine xg_iload_n X (pc := 35) d_T_mixCell_35 rfl ?_
  refine xg_iconst X (pc := 36) (v := 2) d_T_mixCell_36 (by decide) ?_
  refine xg_iload_n X (pc := 37) d_T_mixCell_37 rfl ?_
  refine xg_imul X (pc := 38) d_T_mixCell_38 ?_
  refine xg_iadd X (pc := 39) d_T_mixCell_39 ?_
  refine xg_iload X (pc := 40) d_T_mixCell_40 rfl ?_
  refine xg_iadd X (pc := 42) d_T_mixCell_42 ?_
  refine xg_iconst X (pc := 43) (v := 2) d_T_mixCell_43 (by decide) ?_
  refine xg_ishr X (pc := 44) d_T_mixCell_44 ?_
  refine xa_st1 X (pc := 45) d_T_mixCell_45 (vp_in_nI (by omega) (by decide)) ?_
  refine xg_aload_n X (pc := 46) d_T_mixCell_46 rfl ?_
  refine xf_T_9 X (pc := 47) rfl d_T_mixCell_47 ?_
  refine xg_iload_n X (pc := 50) d_T_mixCell_50 rfl ?_
  refine xg_sipush X (pc := 51) (v := 256) d_T_mixCell_51 (by decide) ?_
  refine xg_iadd X (pc := 54) d_T_mixCell_54 ?_
  refine xg_iload X (pc := 55) d_T_mixCell_55 rfl ?_
  refine xg_iload_n X (pc := 57) d_T_mixCell_57 rfl ?_
  refine xg_isub X (pc := 58) d_T_mixCell_58 ?_
  refine xa_st1 X (pc := 59) d_T_mixCell_59 (x_in256 hk) ?_
  refine xg_aload_n X (pc := 60) d_T_mixCell_60 rfl ?_
  refine xf_T_9 X (pc := 61) rfl d_T_mixCell_61 ?_
  refine xg_iload_n X (pc := 64) d_T_mixCell_64 rfl ?_
  refine xg_sipush X (pc := 65) (v := 512) d_T_mixCell_65 (by decide) ?_
  refine xg_iadd X (pc := 68) d_T_mixCell_68 ?_
  refine xg_iload_n X (pc := 69) d_T_mixCell_69 rfl ?_
  refine xg_iload_n X (pc := 70) d_T_mixCell_70 rfl ?_
  refine xg_isub X (pc := 71) d_T_mixCell_71 ?_
  refine xa_st1 X (pc := 72) d_T_mixCell_72 (x_in512 hk) ?_
  exact xg_vret X (pc := 73) d_T_mixCell_73 rfl (⟨rfl, rfl, by simp only [x_ua_ua, x_ua_at, x_cl0 hk, x_cl256 hk, x_cl512 hk]; rfl⟩)
set_option maxRecDepth 100000 in
set_option maxHeartbeats 4000000 in
theorem c_T_unmixCell (hd : x_dis ad) {k : Nat} (hk : k < 256) : x_Con l M_T_unmixCell 0 0 ad D cI [.ref (ad 0), .int (nI k)] sc ar (x_E none sc (x_ua ar 0 (x_um (ar 0) k))) := by
  refine x_intro hd [some (.ref (ad 0)), some (.int (nI k)), none, none, none, none] (by decide) (Nat.le_of_ble_eq_true rfl) rfl ?_
  intro p e s m args below meth c X
  refine xg_aload_n X (pc := 0) d_T_unmixCell_0 rfl ?_
  refine xf_T_9 X (pc := 1) rfl d_T_unmixCell_1 ?_
  refine xg_iload_n X (pc := 4) d_T_unmixCell_4 rfl ?_
  refine xa_ld1 X (pc := 5) d_T_unmixCell_5 (vp_in_nI (by omega) (by decide)) ?_
  refine xg_istore_n X (pc := 6) d_T_unmixCell_6 (by decide) rfl ?_
  refine xg_aload_n X (pc := 7) d_T_unmixCell_7 rfl ?_
  refine xf_T_9 X (pc := 8) rfl d_T_unmixCell_8 ?_
  refine xg_iload_n X (pc := 11) d_T_unmixCell_11 rfl ?_
  refine xg_sipush X (pc := 12) (v := 256) d_T_unmixCell_12 (by decide) ?_
  refine xg_iadd X (pc := 15) d_T_unmixCell_15 ?_
  refine xa_ld1 X (pc := 16) d_T_unmixCell_16 (x_in256 hk) ?_
  refine xg_istore_n X (pc := 17) d_T_unmixCell_17 (by decide) rfl ?_
  refine xg_aload_n X (pc := 18) d_T_unmixCell_18 rfl ?_
  refine xf_T_9 X (pc := 19) rfl d_T_unmixCell_19 ?_
  refine xg_iload_n X (pc := 22) d_T_unmixCell_22 rfl ?_
  refine xg_sipush X (pc := 23) (v := 512) d_T_unmixCell_23 (by decide) ?_
  refine xg_iadd X (pc := 26) d_T_unmixCell_26 ?_
  refine xa_ld1 X (pc := 27) d_T_unmixCell_27 (x_in512 hk) ?_
  refine xg_istore X (pc := 28) d_T_unmixCell_28 (by decide) rfl ?_
  refine xg_iload_n X (pc := 30) d_T_unmixCell_30 rfl ?_
  refine xg_iload_n X (pc := 31) d_T_unmixCell_31 rfl ?_
  refine xg_iload X (pc := 32) d_T_unmixCell_32 rfl ?_
  refine xg_iadd X (pc := 34) d_T_unmixCell_34 ?_
  refine xg_iconst X (pc := 35) (v := 2) d_T_unmixCell_35 (by decide) ?_
  refine xg_ishr X (pc := 36) d_T_unmixCell_36 ?_
  refine xg_isub X (pc := 37) d_T_unmixCell_37 ?_
  refine xg_istore X (pc := 38) d_T_unmixCell_38 (by decide) rfl ?_
  refine xg_aload_n X (pc := 40) d_T_unmixCell_40 rfl ?_
  refine xf_T_9 X (pc := 41) rfl d_T_unmixCell_41 ?_
  refine xg_iload_n X (pc := 44) d_T_unmixCell_44 rfl ?_
  refine xg_iload X (pc := 45) d_T_unmixCell_45 rfl ?_
  refine xg_iload X (pc := 47) d_T_unmixCell_47 rfl ?_
  refine xg_iadd X (pc := 49) d_T_unmixCell_49 ?_
  refine xa_st1 X (pc := 50) d_T_unmixCell_50 (vp_in_nI (by omega) (by decide)) ?_
  refine xg_aload_n X (pc := 51) d_T_unmixCell_51 rfl ?_
  refine xf_T_9 X (pc := 52) rfl d_T_unmixCell_52 ?_
  refine xg_iload_n X (pc := 55) d_T_unmixCell_55 rfl ?_
  refine xg_sipush X (pc := 56) (v := 256) d_T_unmixCell_56 (by decide) ?_
  refine xg_iadd X (pc := 59) d_T_unmixCell_59 ?_
  refine xg_iload X (pc := 60) d_T_unmixCell_60 rfl ?_
  refine xa_st1 X (pc := 62) d_T_unmixCell_62 (x_in256 hk) ?_
  refine xg_aload_n X (pc := 63) d_T_unmixCell_63 rfl ?_
  refine xf_T_9 X (pc := 64) rfl d_T_unmixCell_64 ?_
  refine xg_iload_n X (pc := 67) d_T_unmixCell_67 rfl ?_
  refine xg_sipush X (pc := 68) (v := 512) d_T_unmixCell_68 (by decide) ?_
  refine xg_iadd X (pc := 71) d_T_unmixCell_71 ?_
  refine xg_iload_n X (pc := 72) d_T_unmixCell_72 rfl ?_
  refine xg_iload X (pc := 73) d_T_unmixCell_73 rfl ?_
  refine xg_iadd X (pc := 75) d_T_unmixCell_75 ?_
  refine xa_st1 X (pc := 76) d_T_unmixCell_76 (x_in512 hk) ?_
  exact xg_vret X (pc := 77) d_T_unmixCell_77 rfl (⟨rfl, rfl, by simp only [x_ua_ua, x_ua_at, x_cl0 hk, x_cl256 hk, x_cl512 hk]; rfl⟩)
set_option maxRecDepth 100000 in
set_option maxHeartbeats 4000000 in
theorem c_J_fill (hd : x_dis ad) {v : Int32} : x_Con l M_J_fill 0 0 ad D cI [.ref (ad 1), .int v] sc ar (x_E none sc (x_ua ar 0 (x_fl (ar 0) v 768))) := by
  refine x_intro hd [some (.ref (ad 1)), some (.int v), none, none] (by decide) (Nat.le_of_ble_eq_true rfl) rfl ?_
  intro p e s m args below meth c X
  have loop : ∀ n k : Nat, 768 - k < n → k ≤ 768 → x_G p l e (x_rm 0 0) s m args below meth c M_J_fill ad D cI (x_A ad) 0 0 (x_Q below args s ad D cI (x_E none sc (x_ua ar 0 (x_fl (ar 0) v 768)))) 5 [some (.ref (ad 1)), some (.int v), some (.int (nI k)), some (.int 768)] [] sc (x_ua ar 0 (x_fl (ar 0) v k)) := by
    intro n
    induction n with
    | zero => intro k h _; exact absurd h (Nat.not_lt_zero _)
    | succ n ih =>
      intro k hn hk
      refine xg_iload_n X (pc := 5) d_J_fill_5 rfl ?_
      refine xg_iload_n X (pc := 6) d_J_fill_6 rfl ?_
      refine xg_icmp_ge X (pc := 7) (tgt := 20) d_J_fill_7 rfl (fun h7 => ?_) (fun h7 => ?_)
      · have hk2 : k = 768 := Nat.le_antisymm hk (x_ge (n := 768) rfl (by decide) (by omega) h7)
        subst hk2
        exact xg_vret X (pc := 20) d_J_fill_20 rfl (⟨rfl, rfl, rfl⟩)
      · have hk3 : k < 768 := x_nge (n := 768) rfl (by decide) (by omega) h7
        refine xg_aload_n X (pc := 10) d_J_fill_10 rfl ?_
        refine xg_iload_n X (pc := 11) d_J_fill_11 rfl ?_
        refine xg_iload_n X (pc := 12) d_J_fill_12 rfl ?_
        refine xa_st1 X (pc := 13) d_J_fill_13 (vp_in_nI (by omega) (by decide)) ?_
        refine xg_iinc X (pc := 14) d_J_fill_14 rfl (x_inc (by decide : Int32.ofInt (1) = 1) _) (by decide) rfl ?_
        refine xg_goto X (pc := 17) (tgt := 5) d_J_fill_17 rfl ?_
        refine xg_weak [some (.ref (ad 1)), some (.int v), some (.int (nI (k + 1))), some (.int 768)] ⟨rfl, rfl, by rw [← x_k1], rfl, trivial⟩ ?_
        refine xg_eq rfl (by rw [x_ua_ua, x_ua_at, nI_clamp (by omega), x_fls]) rfl (ih (k + 1) (by omega) (by omega))
  refine xg_iconst X (pc := 0) (v := 0) d_J_fill_0 (by decide) ?_
  refine xg_istore_n X (pc := 1) d_J_fill_1 (by decide) rfl ?_
  refine xg_aload_n X (pc := 2) d_J_fill_2 rfl ?_
  refine xa_len1 X (pc := 3) d_J_fill_3 ?_
  refine xg_istore_n X (pc := 4) d_J_fill_4 (by decide) rfl ?_
  refine xg_weak [some (.ref (ad 1)), some (.int v), some (.int (nI 0)), some (.int 768)] ⟨rfl, rfl, rfl, rfl, trivial⟩ ?_
  exact xg_eq rfl (by rw [x_fl0, x_ua_id]) rfl (loop 769 0 (by omega) (by omega))
set_option maxRecDepth 100000 in
set_option maxHeartbeats 4000000 in
theorem c_T_mix (hd : x_dis ad) : x_Con l M_T_mix 1 24 ad D cI [.ref (ad 0)] sc ar (fun r sc2 ar2 => if ¬ sc 3 ≤ 0 ∧ ¬ 0 < sc 0 ∧ sc 1 = 0 then x_E (some (.int 1)) (upd sc 1 1) (x_ua ar 0 (x_mxs (ar 0) 256)) r sc2 ar2 else x_E (some (.int 0)) sc ar r sc2 ar2) := by
  refine x_intro hd [some (.ref (ad 0)), none] (by decide) (Nat.le_of_ble_eq_true rfl) rfl ?_
  intro p e s m args below meth c X
  have loop : ¬ sc 3 ≤ 0 ∧ ¬ 0 < sc 0 ∧ sc 1 = 0 → ∀ n k : Nat, 256 - k < n → k ≤ 256 → x_G p l e (x_rm 1 24) s m args below meth c M_T_mix ad D cI (x_A ad) 0 0 (x_Q below args s ad D cI (fun r sc2 ar2 => if ¬ sc 3 ≤ 0 ∧ ¬ 0 < sc 0 ∧ sc 1 = 0 then x_E (some (.int 1)) (upd sc 1 1) (x_ua ar 0 (x_mxs (ar 0) 256)) r sc2 ar2 else x_E (some (.int 0)) sc ar r sc2 ar2)) 25 [some (.ref (ad 0)), some (.int (nI k))] [] sc (x_ua ar 0 (x_mxs (ar 0) k)) := by
    intro hc n
    induction n with
    | zero => intro k h _; exact absurd h (Nat.not_lt_zero _)
    | succ n ih =>
      intro k hn hk
      refine xg_iload_n X (pc := 25) d_T_mix_25 rfl ?_
      refine xg_sipush X (pc := 26) (v := 256) d_T_mix_26 (by decide) ?_
      refine xg_icmp_ge X (pc := 29) (tgt := 43) d_T_mix_29 rfl (fun h29 => ?_) (fun h29 => ?_)
      · have hk2 : k = 256 := Nat.le_antisymm hk (x_ge (n := 256) rfl (by decide) (by omega) h29)
        subst hk2
        refine xg_aload_n X (pc := 43) d_T_mix_43 rfl ?_
        refine xg_iconst X (pc := 44) (v := 1) d_T_mix_44 (by decide) ?_
        refine xp_T_39 X (pc := 45) rfl d_T_mix_45 (by decide) ?_
        refine xg_iconst X (pc := 48) (v := 1) d_T_mix_48 (by decide) ?_
        exact xg_iret X (pc := 49) d_T_mix_49 rfl (rfl) (by show ite _ _ _; rw [if_pos hc]; exact ⟨rfl, rfl, rfl⟩)
      · have hk3 : k < 256 := x_nge (n := 256) rfl (by decide) (by omega) h29
        refine xg_aload_n X (pc := 32) d_T_mix_32 rfl ?_
        refine xg_iload_n X (pc := 33) d_T_mix_33 rfl ?_
        refine xg_cvV1 X (pc := 34) d_T_mix_34 (c_T_mixCell hd hk3) s_T_72 ⟨_, rfl⟩ rfl ⟨by decide, by decide⟩ (Nat.le_of_ble_eq_true rfl) ?_
        refine xg_iinc X (pc := 37) d_T_mix_37 rfl (x_inc (by decide : Int32.ofInt (1) = 1) _) (by decide) rfl ?_
        refine xg_goto X (pc := 40) (tgt := 25) d_T_mix_40 rfl ?_
        refine xg_weak [some (.ref (ad 0)), some (.int (nI (k + 1)))] ⟨rfl, by rw [← x_k1], trivial⟩ ?_
        exact xg_eq rfl (by rw [x_ua_ua, x_ua_at]; rfl) rfl (ih (k + 1) (by omega) (by omega))
  refine xg_aload_n X (pc := 0) d_T_mix_0 rfl ?_
  refine xg_crV0 X (pc := 1) d_T_mix_1 (c_T_hasTile hd) s_T_68 ⟨_, rfl⟩ rfl ⟨by decide, by decide⟩ (Nat.le_of_ble_eq_true rfl) ?_
  refine xg_if_eq X (pc := 4) (tgt := 21) d_T_mix_4 rfl (fun h4 => ?_) (fun h4 => ?_)
  · replace h4 := x_b0 h4
    refine xg_iconst X (pc := 21) (v := 0) d_T_mix_21 (by decide) ?_
    exact xg_iret X (pc := 22) d_T_mix_22 rfl (rfl) (by show ite _ _ _; rw [if_neg (by simp_all [x_hol, x_pl, x_rp, x_be, x_op, x_os])]; exact ⟨rfl, rfl, rfl⟩)
  · replace h4 := x_bn h4
    refine xg_aload_n X (pc := 7) d_T_mix_7 rfl ?_
    refine xf_T_35 X (pc := 8) rfl d_T_mix_8 ?_
    refine xg_if_gt X (pc := 11) (tgt := 21) d_T_mix_11 rfl (fun h11 => ?_) (fun h11 => ?_)
    · refine xg_iconst X (pc := 21) (v := 0) d_T_mix_21 (by decide) ?_
      exact xg_iret X (pc := 22) d_T_mix_22 rfl (rfl) (by show ite _ _ _; rw [if_neg (by simp_all [x_hol, x_pl, x_rp, x_be, x_op, x_os])]; exact ⟨rfl, rfl, rfl⟩)
    · refine xg_aload_n X (pc := 14) d_T_mix_14 rfl ?_
      refine xf_T_39 X (pc := 15) rfl d_T_mix_15 ?_
      refine xg_if_eq X (pc := 18) (tgt := 23) d_T_mix_18 rfl (fun h18 => ?_) (fun h18 => ?_)
      · refine xg_iconst X (pc := 23) (v := 0) d_T_mix_23 (by decide) ?_
        refine xg_istore_n X (pc := 24) d_T_mix_24 (by decide) rfl ?_
        refine xg_weak [some (.ref (ad 0)), some (.int (nI 0))] ⟨rfl, rfl, trivial⟩ ?_
        exact xg_eq rfl (x_ua_id).symm rfl (loop ⟨h4, h11, h18⟩ 257 0 (by omega) (by omega))
      · refine xg_iconst X (pc := 21) (v := 0) d_T_mix_21 (by decide) ?_
        exact xg_iret X (pc := 22) d_T_mix_22 rfl (rfl) (by show ite _ _ _; rw [if_neg (by simp_all [x_hol, x_pl, x_rp, x_be, x_op, x_os])]; exact ⟨rfl, rfl, rfl⟩)
set_option maxRecDepth 100000 in
set_option maxHeartbeats 4000000 in
theorem c_T_unmix (hd : x_dis ad) : x_Con l M_T_unmix 1 25 ad D cI [.ref (ad 0)] sc ar (fun r sc2 ar2 => if ¬ 0 < sc 0 ∧ ¬ sc 1 = 0 then x_E (some (.int 1)) (upd sc 1 0) (x_ua ar 0 (x_ums (ar 0) 256)) r sc2 ar2 else x_E (some (.int 0)) sc ar r sc2 ar2) := by
  refine x_intro hd [some (.ref (ad 0)), none] (by decide) (Nat.le_of_ble_eq_true rfl) rfl ?_
  intro p e s m args below meth c X
  have loop : ¬ 0 < sc 0 ∧ ¬ sc 1 = 0 → ∀ n k : Nat, 256 - k < n → k ≤ 256 → x_G p l e (x_rm 1 25) s m args below meth c M_T_unmix ad D cI (x_A ad) 0 0 (x_Q below args s ad D cI (fun r sc2 ar2 => if ¬ 0 < sc 0 ∧ ¬ sc 1 = 0 then x_E (some (.int 1)) (upd sc 1 0) (x_ua ar 0 (x_ums (ar 0) 256)) r sc2 ar2 else x_E (some (.int 0)) sc ar r sc2 ar2)) 18 [some (.ref (ad 0)), some (.int (nI k))] [] sc (x_ua ar 0 (x_ums (ar 0) k)) := by
    intro hc n
    induction n with
    | zero => intro k h _; exact absurd h (Nat.not_lt_zero _)
    | succ n ih =>
      intro k hn hk
      refine xg_iload_n X (pc := 18) d_T_unmix_18 rfl ?_
      refine xg_sipush X (pc := 19) (v := 256) d_T_unmix_19 (by decide) ?_
      refine xg_icmp_ge X (pc := 22) (tgt := 36) d_T_unmix_22 rfl (fun h22 => ?_) (fun h22 => ?_)
      · have hk2 : k = 256 := Nat.le_antisymm hk (x_ge (n := 256) rfl (by decide) (by omega) h22)
        subst hk2
        refine xg_aload_n X (pc := 36) d_T_unmix_36 rfl ?_
        refine xg_iconst X (pc := 37) (v := 0) d_T_unmix_37 (by decide) ?_
        refine xp_T_39 X (pc := 38) rfl d_T_unmix_38 (by decide) ?_
        refine xg_iconst X (pc := 41) (v := 1) d_T_unmix_41 (by decide) ?_
        exact xg_iret X (pc := 42) d_T_unmix_42 rfl (rfl) (by show ite _ _ _; rw [if_pos hc]; exact ⟨rfl, rfl, rfl⟩)
      · have hk3 : k < 256 := x_nge (n := 256) rfl (by decide) (by omega) h22
        refine xg_aload_n X (pc := 25) d_T_unmix_25 rfl ?_
        refine xg_iload_n X (pc := 26) d_T_unmix_26 rfl ?_
        refine xg_cvV1 X (pc := 27) d_T_unmix_27 (c_T_unmixCell hd hk3) s_T_75 ⟨_, rfl⟩ rfl ⟨by decide, by decide⟩ (Nat.le_of_ble_eq_true rfl) ?_
        refine xg_iinc X (pc := 30) d_T_unmix_30 rfl (x_inc (by decide : Int32.ofInt (1) = 1) _) (by decide) rfl ?_
        refine xg_goto X (pc := 33) (tgt := 18) d_T_unmix_33 rfl ?_
        refine xg_weak [some (.ref (ad 0)), some (.int (nI (k + 1)))] ⟨rfl, by rw [← x_k1], trivial⟩ ?_
        exact xg_eq rfl (by rw [x_ua_ua, x_ua_at]; rfl) rfl (ih (k + 1) (by omega) (by omega))
  refine xg_aload_n X (pc := 0) d_T_unmix_0 rfl ?_
  refine xf_T_35 X (pc := 1) rfl d_T_unmix_1 ?_
  refine xg_if_gt X (pc := 4) (tgt := 14) d_T_unmix_4 rfl (fun h4 => ?_) (fun h4 => ?_)
  · refine xg_iconst X (pc := 14) (v := 0) d_T_unmix_14 (by decide) ?_
    exact xg_iret X (pc := 15) d_T_unmix_15 rfl (rfl) (by show ite _ _ _; rw [if_neg (by simp_all [x_hol, x_pl, x_rp, x_be, x_op, x_os])]; exact ⟨rfl, rfl, rfl⟩)
  · refine xg_aload_n X (pc := 7) d_T_unmix_7 rfl ?_
    refine xf_T_39 X (pc := 8) rfl d_T_unmix_8 ?_
    refine xg_if_ne X (pc := 11) (tgt := 16) d_T_unmix_11 rfl (fun h11 => ?_) (fun h11 => ?_)
    · refine xg_iconst X (pc := 16) (v := 0) d_T_unmix_16 (by decide) ?_
      refine xg_istore_n X (pc := 17) d_T_unmix_17 (by decide) rfl ?_
      refine xg_weak [some (.ref (ad 0)), some (.int (nI 0))] ⟨rfl, rfl, trivial⟩ ?_
      exact xg_eq rfl (x_ua_id).symm rfl (loop ⟨h4, h11⟩ 257 0 (by omega) (by omega))
    · refine xg_iconst X (pc := 14) (v := 0) d_T_unmix_14 (by decide) ?_
      exact xg_iret X (pc := 15) d_T_unmix_15 rfl (rfl) (by show ite _ _ _; rw [if_neg (by simp_all [x_hol, x_pl, x_rp, x_be, x_op, x_os])]; exact ⟨rfl, rfl, rfl⟩)
end C4
end
section
section C5
variable {l : Launch} {ad : Nat → Nat} {D : va_G} {cI : ClassId} {sc : Nat → Int32} {ar : Nat → Nat → Int32}
set_option maxRecDepth 100000 in
set_option maxHeartbeats 4000000 in
theorem c_T_open (hd : x_dis ad) {l0 t0 w0 h0 : Int32} : x_Con l M_T_open 1 23 ad D cI [.ref (ad 0), .int l0, .int t0, .int w0, .int h0] sc ar (fun r sc2 ar2 => if x_op l0 t0 w0 h0 then x_E (some (.int 1)) (upd (upd (upd (upd (upd (upd sc 2 l0) 3 w0) 4 t0) 5 h0) 0 0) 1 0) (x_ua ar 0 (x_fl (ar 0) 0 768)) r sc2 ar2 else x_E (some (.int 0)) sc ar r sc2 ar2) := by
  refine x_intro hd [some (.ref (ad 0)), some (.int l0), some (.int t0), some (.int w0), some (.int h0)] (by decide) (Nat.le_of_ble_eq_true rfl) rfl ?_
  intro p e s m args below meth c X
  refine xg_iload_n X (pc := 0) d_T_open_0 rfl ?_
  refine xg_crS1 X (pc := 1) d_T_open_1 (c_T_isCorner hd) s_T_43 ⟨by decide, by decide⟩ (Nat.le_of_ble_eq_true rfl) ?_
  refine xg_if_eq X (pc := 4) (tgt := 29) d_T_open_4 rfl (fun h4 => ?_) (fun h4 => ?_)
  · replace h4 := x_b0 h4
    refine xg_iconst X (pc := 29) (v := 0) d_T_open_29 (by decide) ?_
    exact xg_iret X (pc := 30) d_T_open_30 rfl (rfl) (by show ite _ _ _; rw [if_neg (by first | (simp_all [x_hol, x_pl, x_rp, x_be, x_op, x_os]; done) | ((try simp only [x_op, x_rp, x_pl, x_hol] at *); grind))]; exact ⟨rfl, rfl, rfl⟩)
  · replace h4 := x_bn h4
    refine xg_iload_n X (pc := 7) d_T_open_7 rfl ?_
    refine xg_crS1 X (pc := 8) d_T_open_8 (c_T_isCorner hd) s_T_43 ⟨by decide, by decide⟩ (Nat.le_of_ble_eq_true rfl) ?_
    refine xg_if_eq X (pc := 11) (tgt := 29) d_T_open_11 rfl (fun h11 => ?_) (fun h11 => ?_)
    · replace h11 := x_b0 h11
      refine xg_iconst X (pc := 29) (v := 0) d_T_open_29 (by decide) ?_
      exact xg_iret X (pc := 30) d_T_open_30 rfl (rfl) (by show ite _ _ _; rw [if_neg (by first | (simp_all [x_hol, x_pl, x_rp, x_be, x_op, x_os]; done) | ((try simp only [x_op, x_rp, x_pl, x_hol] at *); grind))]; exact ⟨rfl, rfl, rfl⟩)
    · replace h11 := x_bn h11
      refine xg_iload_n X (pc := 14) d_T_open_14 rfl ?_
      refine xg_crS1 X (pc := 15) d_T_open_15 (c_T_isSide hd) s_T_47 ⟨by decide, by decide⟩ (Nat.le_of_ble_eq_true rfl) ?_
      refine xg_if_eq X (pc := 18) (tgt := 29) d_T_open_18 rfl (fun h18 => ?_) (fun h18 => ?_)
      · replace h18 := x_b0 h18
        refine xg_iconst X (pc := 29) (v := 0) d_T_open_29 (by decide) ?_
        exact xg_iret X (pc := 30) d_T_open_30 rfl (rfl) (by show ite _ _ _; rw [if_neg (by first | (simp_all [x_hol, x_pl, x_rp, x_be, x_op, x_os]; done) | ((try simp only [x_op, x_rp, x_pl, x_hol] at *); grind))]; exact ⟨rfl, rfl, rfl⟩)
      · replace h18 := x_bn h18
        refine xg_iload X (pc := 21) d_T_open_21 rfl ?_
        refine xg_crS1 X (pc := 23) d_T_open_23 (c_T_isSide hd) s_T_47 ⟨by decide, by decide⟩ (Nat.le_of_ble_eq_true rfl) ?_
        refine xg_if_ne X (pc := 26) (tgt := 31) d_T_open_26 rfl (fun h26 => ?_) (fun h26 => ?_)
        · replace h26 := x_bn h26
          refine xg_aload_n X (pc := 31) d_T_open_31 rfl ?_
          refine xf_T_18 X (pc := 32) rfl d_T_open_32 ?_
          refine xg_iload_n X (pc := 35) d_T_open_35 rfl ?_
          refine xg_iload_n X (pc := 36) d_T_open_36 rfl ?_
          refine xg_cvV2 X (pc := 37) d_T_open_37 (c_S_cover hd (j := 0) (by decide)) s_T_50 ⟨_, rfl⟩ rfl ⟨by decide, by decide⟩ (Nat.le_of_ble_eq_true rfl) ?_
          refine xg_aload_n X (pc := 40) d_T_open_40 rfl ?_
          refine xf_T_22 X (pc := 41) rfl d_T_open_41 ?_
          refine xg_iload_n X (pc := 44) d_T_open_44 rfl ?_
          refine xg_iload X (pc := 45) d_T_open_45 rfl ?_
          refine xg_cvV2 X (pc := 47) d_T_open_47 (c_S_cover hd (j := 1) (by decide)) s_T_50 ⟨_, rfl⟩ rfl ⟨by decide, by decide⟩ (Nat.le_of_ble_eq_true rfl) ?_
          refine xg_aload_n X (pc := 50) d_T_open_50 rfl ?_
          refine xf_T_9 X (pc := 51) rfl d_T_open_51 ?_
          refine xg_iconst X (pc := 54) (v := 0) d_T_open_54 (by decide) ?_
          refine xg_cvS2 X (pc := 55) d_T_open_55 (c_J_fill hd) s_T_54 ⟨by decide, by decide⟩ (Nat.le_of_ble_eq_true rfl) ?_
          refine xg_aload_n X (pc := 58) d_T_open_58 rfl ?_
          refine xg_iconst X (pc := 59) (v := 0) d_T_open_59 (by decide) ?_
          refine xp_T_35 X (pc := 60) rfl d_T_open_60 ?_
          refine xg_aload_n X (pc := 63) d_T_open_63 rfl ?_
          refine xg_iconst X (pc := 64) (v := 0) d_T_open_64 (by decide) ?_
          refine xp_T_39 X (pc := 65) rfl d_T_open_65 (by decide) ?_
          refine xg_iconst X (pc := 68) (v := 1) d_T_open_68 (by decide) ?_
          exact xg_iret X (pc := 69) d_T_open_69 rfl (rfl) (by show ite _ _ _; rw [if_pos ⟨h4, h11, h18, h26⟩]; exact ⟨rfl, rfl, rfl⟩)
        · replace h26 := x_b0 h26
          refine xg_iconst X (pc := 29) (v := 0) d_T_open_29 (by decide) ?_
          exact xg_iret X (pc := 30) d_T_open_30 rfl (rfl) (by show ite _ _ _; rw [if_neg (by first | (simp_all [x_hol, x_pl, x_rp, x_be, x_op, x_os]; done) | ((try simp only [x_op, x_rp, x_pl, x_hol] at *); grind))]; exact ⟨rfl, rfl, rfl⟩)
set_option maxRecDepth 100000 in
set_option maxHeartbeats 4000000 in
theorem c_T_put (hd : x_dis ad) {pl u v z : Int32} (hx : ¬ x_cp sc pl u.toInt64 v.toInt64 = -1 → vp_in (x_cp sc pl u.toInt64 v.toInt64) 768) : x_Con l M_T_put 2 47 ad D cI [.ref (ad 0), .int pl, .int u, .int v, .int z] sc ar (fun r sc2 ar2 => if ¬ x_cp sc pl u.toInt64 v.toInt64 = -1 ∧ ¬ z < -32768 ∧ z ≤ 32767 ∧ ¬ 0 < sc 0 ∧ sc 1 = 0 then x_E (some (.int 1)) sc (x_ua ar 0 (upd (ar 0) (x_cp sc pl u.toInt64 v.toInt64).toNatClampNeg z)) r sc2 ar2 else x_E (some (.int 0)) sc ar r sc2 ar2) := by
  refine x_intro hd [some (.ref (ad 0)), some (.int pl), some (.int u), some (.int v), some (.int z), none] (by decide) (Nat.le_of_ble_eq_true rfl) rfl ?_
  intro p e s m args below meth c X
  refine xg_aload_n X (pc := 0) d_T_put_0 rfl ?_
  refine xg_iload_n X (pc := 1) d_T_put_1 rfl ?_
  refine xg_iload_n X (pc := 2) d_T_put_2 rfl ?_
  refine xg_i2l X (pc := 3) d_T_put_3 ?_
  refine xg_iload_n X (pc := 4) d_T_put_4 rfl ?_
  refine xg_i2l X (pc := 5) d_T_put_5 ?_
  refine xg_crV3 X (pc := 6) d_T_put_6 (c_T_cellOfPlace hd) s_T_60 ⟨_, rfl⟩ rfl ⟨by decide, by decide⟩ (Nat.le_of_ble_eq_true rfl) ?_
  refine xg_istore X (pc := 9) d_T_put_9 (by decide) rfl ?_
  refine xg_iload X (pc := 11) d_T_put_11 rfl ?_
  refine xg_iconst X (pc := 13) (v := -1) d_T_put_13 (by decide) ?_
  refine xg_icmp_eq X (pc := 14) (tgt := 33) d_T_put_14 rfl (fun h14 => ?_) (fun h14 => ?_)
  · refine xg_iconst X (pc := 33) (v := 0) d_T_put_33 (by decide) ?_
    exact xg_iret X (pc := 34) d_T_put_34 rfl (rfl) (by show ite _ _ _; rw [if_neg (by first | (simp_all [x_hol, x_pl, x_rp, x_be, x_op, x_os]; done) | ((try simp only [x_op, x_rp, x_pl, x_hol] at *); grind))]; exact ⟨rfl, rfl, rfl⟩)
  · refine xg_iload X (pc := 17) d_T_put_17 rfl ?_
    refine xg_sipush X (pc := 19) (v := -32768) d_T_put_19 (by decide) ?_
    refine xg_icmp_lt X (pc := 22) (tgt := 33) d_T_put_22 rfl (fun h22 => ?_) (fun h22 => ?_)
    · refine xg_iconst X (pc := 33) (v := 0) d_T_put_33 (by decide) ?_
      exact xg_iret X (pc := 34) d_T_put_34 rfl (rfl) (by show ite _ _ _; rw [if_neg (by first | (simp_all [x_hol, x_pl, x_rp, x_be, x_op, x_os]; done) | ((try simp only [x_op, x_rp, x_pl, x_hol] at *); grind))]; exact ⟨rfl, rfl, rfl⟩)
    · refine xg_iload X (pc := 25) d_T_put_25 rfl ?_
      refine xg_sipush X (pc := 27) (v := 32767) d_T_put_27 (by decide) ?_
      refine xg_icmp_le X (pc := 30) (tgt := 35) d_T_put_30 rfl (fun h30 => ?_) (fun h30 => ?_)
      · refine xg_aload_n X (pc := 35) d_T_put_35 rfl ?_
        refine xf_T_35 X (pc := 36) rfl d_T_put_36 ?_
        refine xg_if_gt X (pc := 39) (tgt := 49) d_T_put_39 rfl (fun h39 => ?_) (fun h39 => ?_)
        · refine xg_iconst X (pc := 49) (v := 0) d_T_put_49 (by decide) ?_
          exact xg_iret X (pc := 50) d_T_put_50 rfl (rfl) (by show ite _ _ _; rw [if_neg (by first | (simp_all [x_hol, x_pl, x_rp, x_be, x_op, x_os]; done) | ((try simp only [x_op, x_rp, x_pl, x_hol] at *); grind))]; exact ⟨rfl, rfl, rfl⟩)
        · refine xg_aload_n X (pc := 42) d_T_put_42 rfl ?_
          refine xf_T_39 X (pc := 43) rfl d_T_put_43 ?_
          refine xg_if_eq X (pc := 46) (tgt := 51) d_T_put_46 rfl (fun h46 => ?_) (fun h46 => ?_)
          · refine xg_aload_n X (pc := 51) d_T_put_51 rfl ?_
            refine xf_T_9 X (pc := 52) rfl d_T_put_52 ?_
            refine xg_iload X (pc := 55) d_T_put_55 rfl ?_
            refine xg_iload X (pc := 57) d_T_put_57 rfl ?_
            refine xa_st1 X (pc := 59) d_T_put_59 (hx h14) ?_
            refine xg_iconst X (pc := 60) (v := 1) d_T_put_60 (by decide) ?_
            exact xg_iret X (pc := 61) d_T_put_61 rfl (rfl) (by show ite _ _ _; rw [if_pos ⟨h14, h22, h30, h39, h46⟩]; exact ⟨rfl, rfl, rfl⟩)
          · refine xg_iconst X (pc := 49) (v := 0) d_T_put_49 (by decide) ?_
            exact xg_iret X (pc := 50) d_T_put_50 rfl (rfl) (by show ite _ _ _; rw [if_neg (by first | (simp_all [x_hol, x_pl, x_rp, x_be, x_op, x_os]; done) | ((try simp only [x_op, x_rp, x_pl, x_hol] at *); grind))]; exact ⟨rfl, rfl, rfl⟩)
      · refine xg_iconst X (pc := 33) (v := 0) d_T_put_33 (by decide) ?_
        exact xg_iret X (pc := 34) d_T_put_34 rfl (rfl) (by show ite _ _ _; rw [if_neg (by first | (simp_all [x_hol, x_pl, x_rp, x_be, x_op, x_os]; done) | ((try simp only [x_op, x_rp, x_pl, x_hol] at *); grind))]; exact ⟨rfl, rfl, rfl⟩)
set_option maxRecDepth 100000 in
set_option maxHeartbeats 4000000 in
theorem c_R_open (hd : x_dis ad) {l0 t0 w0 h0 : Int32} : x_Con l M_R_open 0 0 ad D cI [.ref (ad 7), .int l0, .int t0, .int w0, .int h0] sc ar (fun r sc2 ar2 => if x_op l0 t0 w0 h0 then x_E (some (.int 1)) (upd (upd (upd (upd (upd (upd (upd sc 8 1) 9 l0) 10 t0) 11 w0) 12 h0) 13 0) 14 0) (x_ua ar 4 (x_fl (ar 4) 0 768)) r sc2 ar2 else x_E (some (.int 0)) sc ar r sc2 ar2) := by
  refine x_intro hd [some (.ref (ad 7)), some (.int l0), some (.int t0), some (.int w0), some (.int h0), none] (by decide) (Nat.le_of_ble_eq_true rfl) rfl ?_
  intro p e s m args below meth c X
  have loop : x_op l0 t0 w0 h0 → ∀ n k : Nat, 768 - k < n → k ≤ 768 → x_G p l e (x_rm 0 0) s m args below meth c M_R_open ad D cI (x_A ad) 0 0 (x_Q below args s ad D cI (fun r sc2 ar2 => if x_op l0 t0 w0 h0 then x_E (some (.int 1)) (upd (upd (upd (upd (upd (upd (upd sc 8 1) 9 l0) 10 t0) 11 w0) 12 h0) 13 0) 14 0) (x_ua ar 4 (x_fl (ar 4) 0 768)) r sc2 ar2 else x_E (some (.int 0)) sc ar r sc2 ar2)) 87 [some (.ref (ad 7)), some (.int l0), some (.int t0), some (.int w0), some (.int h0), some (.int (nI k))] [] (upd (upd (upd (upd (upd (upd (upd sc 8 1) 9 l0) 10 t0) 11 w0) 12 h0) 13 0) 14 0) (x_ua ar 4 (x_fl (ar 4) 0 k)) := by
    intro hc n
    induction n with
    | zero => intro k h _; exact absurd h (Nat.not_lt_zero _)
    | succ n ih =>
      intro k hn hk
      refine xg_iload X (pc := 87) d_R_open_87 rfl ?_
      refine xg_sipush X (pc := 89) (v := 768) d_R_open_89 (by decide) ?_
      refine xg_icmp_ge X (pc := 92) (tgt := 109) d_R_open_92 rfl (fun h92 => ?_) (fun h92 => ?_)
      · have hk2 : k = 768 := Nat.le_antisymm hk (x_ge (n := 768) rfl (by decide) (by omega) h92)
        subst hk2
        refine xg_iconst X (pc := 109) (v := 1) d_R_open_109 (by decide) ?_
        exact xg_iret X (pc := 110) d_R_open_110 rfl (rfl) (by show ite _ _ _; rw [if_pos hc]; exact ⟨rfl, rfl, rfl⟩)
      · have hk3 : k < 768 := x_nge (n := 768) rfl (by decide) (by omega) h92
        refine xg_aload_n X (pc := 95) d_R_open_95 rfl ?_
        refine xf_R_13 X (pc := 96) rfl d_R_open_96 ?_
        refine xg_iload X (pc := 99) d_R_open_99 rfl ?_
        refine xg_iconst X (pc := 101) (v := 0) d_R_open_101 (by decide) ?_
        refine xa_st9 X (pc := 102) d_R_open_102 (vp_in_nI (by omega) (by decide)) ?_
        refine xg_iinc X (pc := 103) d_R_open_103 rfl (x_inc (by decide : Int32.ofInt (1) = 1) _) (by decide) rfl ?_
        refine xg_goto X (pc := 106) (tgt := 87) d_R_open_106 rfl ?_
        refine xg_weak [some (.ref (ad 7)), some (.int l0), some (.int t0), some (.int w0), some (.int h0), some (.int (nI (k + 1)))] ⟨rfl, rfl, rfl, rfl, rfl, by rw [← x_k1], trivial⟩ ?_
        exact xg_eq rfl (by rw [x_ua_ua, x_ua_at, nI_clamp (by omega), x_fls]) rfl (ih (k + 1) (by omega) (by omega))
  refine xg_iload_n X (pc := 0) d_R_open_0 rfl ?_
  refine xg_if_lt X (pc := 1) (tgt := 46) d_R_open_1 rfl (fun h1 => ?_) (fun h1 => ?_)
  · refine xg_iconst X (pc := 46) (v := 0) d_R_open_46 (by decide) ?_
    exact xg_iret X (pc := 47) d_R_open_47 rfl (rfl) (by show ite _ _ _; rw [if_neg (by first | (simp_all [x_hol, x_pl, x_rp, x_be, x_op, x_os]; done) | ((try simp only [x_op, x_rp, x_pl, x_hol] at *); grind))]; exact ⟨rfl, rfl, rfl⟩)
  · refine xg_iload_n X (pc := 4) d_R_open_4 rfl ?_
    refine xg_sipush X (pc := 5) (v := 1000) d_R_open_5 (by decide) ?_
    refine xg_icmp_gt X (pc := 8) (tgt := 46) d_R_open_8 rfl (fun h8 => ?_) (fun h8 => ?_)
    · refine xg_iconst X (pc := 46) (v := 0) d_R_open_46 (by decide) ?_
      exact xg_iret X (pc := 47) d_R_open_47 rfl (rfl) (by show ite _ _ _; rw [if_neg (by first | (simp_all [x_hol, x_pl, x_rp, x_be, x_op, x_os]; done) | ((try simp only [x_op, x_rp, x_pl, x_hol] at *); grind))]; exact ⟨rfl, rfl, rfl⟩)
    · refine xg_iload_n X (pc := 11) d_R_open_11 rfl ?_
      refine xg_if_lt X (pc := 12) (tgt := 46) d_R_open_12 rfl (fun h12 => ?_) (fun h12 => ?_)
      · refine xg_iconst X (pc := 46) (v := 0) d_R_open_46 (by decide) ?_
        exact xg_iret X (pc := 47) d_R_open_47 rfl (rfl) (by show ite _ _ _; rw [if_neg (by first | (simp_all [x_hol, x_pl, x_rp, x_be, x_op, x_os]; done) | ((try simp only [x_op, x_rp, x_pl, x_hol] at *); grind))]; exact ⟨rfl, rfl, rfl⟩)
      · refine xg_iload_n X (pc := 15) d_R_open_15 rfl ?_
        refine xg_sipush X (pc := 16) (v := 1000) d_R_open_16 (by decide) ?_
        refine xg_icmp_gt X (pc := 19) (tgt := 46) d_R_open_19 rfl (fun h19 => ?_) (fun h19 => ?_)
        · refine xg_iconst X (pc := 46) (v := 0) d_R_open_46 (by decide) ?_
          exact xg_iret X (pc := 47) d_R_open_47 rfl (rfl) (by show ite _ _ _; rw [if_neg (by first | (simp_all [x_hol, x_pl, x_rp, x_be, x_op, x_os]; done) | ((try simp only [x_op, x_rp, x_pl, x_hol] at *); grind))]; exact ⟨rfl, rfl, rfl⟩)
        · refine xg_iload_n X (pc := 22) d_R_open_22 rfl ?_
          refine xg_iconst X (pc := 23) (v := 1) d_R_open_23 (by decide) ?_
          refine xg_icmp_lt X (pc := 24) (tgt := 46) d_R_open_24 rfl (fun h24 => ?_) (fun h24 => ?_)
          · refine xg_iconst X (pc := 46) (v := 0) d_R_open_46 (by decide) ?_
            exact xg_iret X (pc := 47) d_R_open_47 rfl (rfl) (by show ite _ _ _; rw [if_neg (by first | (simp_all [x_hol, x_pl, x_rp, x_be, x_op, x_os]; done) | ((try simp only [x_op, x_rp, x_pl, x_hol] at *); grind))]; exact ⟨rfl, rfl, rfl⟩)
          · refine xg_iload_n X (pc := 27) d_R_open_27 rfl ?_
            refine xg_bipush X (pc := 28) (v := 16) d_R_open_28 (by decide) ?_
            refine xg_icmp_gt X (pc := 30) (tgt := 46) d_R_open_30 rfl (fun h30 => ?_) (fun h30 => ?_)
            · refine xg_iconst X (pc := 46) (v := 0) d_R_open_46 (by decide) ?_
              exact xg_iret X (pc := 47) d_R_open_47 rfl (rfl) (by show ite _ _ _; rw [if_neg (by first | (simp_all [x_hol, x_pl, x_rp, x_be, x_op, x_os]; done) | ((try simp only [x_op, x_rp, x_pl, x_hol] at *); grind))]; exact ⟨rfl, rfl, rfl⟩)
            · refine xg_iload X (pc := 33) d_R_open_33 rfl ?_
              refine xg_iconst X (pc := 35) (v := 1) d_R_open_35 (by decide) ?_
              refine xg_icmp_lt X (pc := 36) (tgt := 46) d_R_open_36 rfl (fun h36 => ?_) (fun h36 => ?_)
              · refine xg_iconst X (pc := 46) (v := 0) d_R_open_46 (by decide) ?_
                exact xg_iret X (pc := 47) d_R_open_47 rfl (rfl) (by show ite _ _ _; rw [if_neg (by first | (simp_all [x_hol, x_pl, x_rp, x_be, x_op, x_os]; done) | ((try simp only [x_op, x_rp, x_pl, x_hol] at *); grind))]; exact ⟨rfl, rfl, rfl⟩)
              · refine xg_iload X (pc := 39) d_R_open_39 rfl ?_
                refine xg_bipush X (pc := 41) (v := 16) d_R_open_41 (by decide) ?_
                refine xg_icmp_le X (pc := 43) (tgt := 48) d_R_open_43 rfl (fun h43 => ?_) (fun h43 => ?_)
                · refine xg_aload_n X (pc := 48) d_R_open_48 rfl ?_
                  refine xg_iconst X (pc := 49) (v := 1) d_R_open_49 (by decide) ?_
                  refine xp_R_22 X (pc := 50) rfl d_R_open_50 (by decide) ?_
                  refine xg_aload_n X (pc := 53) d_R_open_53 rfl ?_
                  refine xg_iload_n X (pc := 54) d_R_open_54 rfl ?_
                  refine xp_R_26 X (pc := 55) rfl d_R_open_55 ?_
                  refine xg_aload_n X (pc := 58) d_R_open_58 rfl ?_
                  refine xg_iload_n X (pc := 59) d_R_open_59 rfl ?_
                  refine xp_R_33 X (pc := 60) rfl d_R_open_60 ?_
                  refine xg_aload_n X (pc := 63) d_R_open_63 rfl ?_
                  refine xg_iload_n X (pc := 64) d_R_open_64 rfl ?_
                  refine xp_R_30 X (pc := 65) rfl d_R_open_65 ?_
                  refine xg_aload_n X (pc := 68) d_R_open_68 rfl ?_
                  refine xg_iload X (pc := 69) d_R_open_69 rfl ?_
                  refine xp_R_36 X (pc := 71) rfl d_R_open_71 ?_
                  refine xg_aload_n X (pc := 74) d_R_open_74 rfl ?_
                  refine xg_iconst X (pc := 75) (v := 0) d_R_open_75 (by decide) ?_
                  refine xp_R_39 X (pc := 76) rfl d_R_open_76 (by decide) ?_
                  refine xg_aload_n X (pc := 79) d_R_open_79 rfl ?_
                  refine xg_iconst X (pc := 80) (v := 0) d_R_open_80 (by decide) ?_
                  refine xp_R_42 X (pc := 81) rfl d_R_open_81 ?_
                  refine xg_iconst X (pc := 84) (v := 0) d_R_open_84 (by decide) ?_
                  refine xg_istore X (pc := 85) d_R_open_85 (by decide) rfl ?_
                  refine xg_weak [some (.ref (ad 7)), some (.int l0), some (.int t0), some (.int w0), some (.int h0), some (.int (nI 0))] ⟨rfl, rfl, rfl, rfl, rfl, rfl, trivial⟩ ?_
                  exact xg_eq rfl (by rw [x_fl0, x_ua_id]) rfl (loop (by simp_all [x_op]) 769 0 (by omega) (by omega))
                · refine xg_iconst X (pc := 46) (v := 0) d_R_open_46 (by decide) ?_
                  exact xg_iret X (pc := 47) d_R_open_47 rfl (rfl) (by show ite _ _ _; rw [if_neg (by first | (simp_all [x_hol, x_pl, x_rp, x_be, x_op, x_os]; done) | ((try simp only [x_op, x_rp, x_pl, x_hol] at *); grind))]; exact ⟨rfl, rfl, rfl⟩)
set_option maxRecDepth 100000 in
set_option maxHeartbeats 4000000 in
theorem c_R_put (hd : x_dis ad) {pl u v z : Int32} (hx : (¬ pl < 0 ∧ ¬ 2 < pl) ∧ x_rp sc u v → vp_in (x_rc sc pl u v) 768) : x_Con l M_R_put 1 23 ad D cI [.ref (ad 7), .int pl, .int u, .int v, .int z] sc ar (fun r sc2 ar2 => if (¬ pl < 0 ∧ ¬ 2 < pl) ∧ x_rp sc u v ∧ ¬ z < -32768 ∧ ¬ 32767 < z ∧ ¬ 0 < sc 14 ∧ sc 13 = 0 then x_E (some (.int 1)) sc (x_ua ar 4 (upd (ar 4) (x_rc sc pl u v).toNatClampNeg z)) r sc2 ar2 else x_E (some (.int 0)) sc ar r sc2 ar2) := by
  refine x_intro hd [some (.ref (ad 7)), some (.int pl), some (.int u), some (.int v), some (.int z)] (by decide) (Nat.le_of_ble_eq_true rfl) rfl ?_
  intro p e s m args below meth c X
  refine xg_iload_n X (pc := 0) d_R_put_0 rfl ?_
  refine xg_crS1 X (pc := 1) d_R_put_1 (c_R_isPlane hd) s_R_45 ⟨by decide, by decide⟩ (Nat.le_of_ble_eq_true rfl) ?_
  refine xg_if_eq X (pc := 4) (tgt := 46) d_R_put_4 rfl (fun h4 => ?_) (fun h4 => ?_)
  · replace h4 := x_b0 h4
    refine xg_iconst X (pc := 46) (v := 0) d_R_put_46 (by decide) ?_
    exact xg_iret X (pc := 47) d_R_put_47 rfl (rfl) (by show ite _ _ _; rw [if_neg (by first | (simp_all [x_hol, x_pl, x_rp, x_be, x_op, x_os]; done) | ((try simp only [x_op, x_rp, x_pl, x_hol] at *); grind))]; exact ⟨rfl, rfl, rfl⟩)
  · replace h4 := x_bn h4
    refine xg_aload_n X (pc := 7) d_R_put_7 rfl ?_
    refine xg_iload_n X (pc := 8) d_R_put_8 rfl ?_
    refine xg_iload_n X (pc := 9) d_R_put_9 rfl ?_
    refine xg_crV2 X (pc := 10) d_R_put_10 (c_R_isPlace hd) s_R_49 ⟨_, rfl⟩ rfl ⟨by decide, by decide⟩ (Nat.le_of_ble_eq_true rfl) ?_
    refine xg_if_eq X (pc := 13) (tgt := 46) d_R_put_13 rfl (fun h13 => ?_) (fun h13 => ?_)
    · replace h13 := x_b0 h13
      refine xg_iconst X (pc := 46) (v := 0) d_R_put_46 (by decide) ?_
      exact xg_iret X (pc := 47) d_R_put_47 rfl (rfl) (by show ite _ _ _; rw [if_neg (by first | (simp_all [x_hol, x_pl, x_rp, x_be, x_op, x_os]; done) | ((try simp only [x_op, x_rp, x_pl, x_hol] at *); grind))]; exact ⟨rfl, rfl, rfl⟩)
    · replace h13 := x_bn h13
      refine xg_iload X (pc := 16) d_R_put_16 rfl ?_
      refine xg_sipush X (pc := 18) (v := -32768) d_R_put_18 (by decide) ?_
      refine xg_icmp_lt X (pc := 21) (tgt := 46) d_R_put_21 rfl (fun h21 => ?_) (fun h21 => ?_)
      · refine xg_iconst X (pc := 46) (v := 0) d_R_put_46 (by decide) ?_
        exact xg_iret X (pc := 47) d_R_put_47 rfl (rfl) (by show ite _ _ _; rw [if_neg (by first | (simp_all [x_hol, x_pl, x_rp, x_be, x_op, x_os]; done) | ((try simp only [x_op, x_rp, x_pl, x_hol] at *); grind))]; exact ⟨rfl, rfl, rfl⟩)
      · refine xg_iload X (pc := 24) d_R_put_24 rfl ?_
        refine xg_sipush X (pc := 26) (v := 32767) d_R_put_26 (by decide) ?_
        refine xg_icmp_gt X (pc := 29) (tgt := 46) d_R_put_29 rfl (fun h29 => ?_) (fun h29 => ?_)
        · refine xg_iconst X (pc := 46) (v := 0) d_R_put_46 (by decide) ?_
          exact xg_iret X (pc := 47) d_R_put_47 rfl (rfl) (by show ite _ _ _; rw [if_neg (by first | (simp_all [x_hol, x_pl, x_rp, x_be, x_op, x_os]; done) | ((try simp only [x_op, x_rp, x_pl, x_hol] at *); grind))]; exact ⟨rfl, rfl, rfl⟩)
        · refine xg_aload_n X (pc := 32) d_R_put_32 rfl ?_
          refine xf_R_42 X (pc := 33) rfl d_R_put_33 ?_
          refine xg_if_gt X (pc := 36) (tgt := 46) d_R_put_36 rfl (fun h36 => ?_) (fun h36 => ?_)
          · refine xg_iconst X (pc := 46) (v := 0) d_R_put_46 (by decide) ?_
            exact xg_iret X (pc := 47) d_R_put_47 rfl (rfl) (by show ite _ _ _; rw [if_neg (by first | (simp_all [x_hol, x_pl, x_rp, x_be, x_op, x_os]; done) | ((try simp only [x_op, x_rp, x_pl, x_hol] at *); grind))]; exact ⟨rfl, rfl, rfl⟩)
          · refine xg_aload_n X (pc := 39) d_R_put_39 rfl ?_
            refine xf_R_39 X (pc := 40) rfl d_R_put_40 ?_
            refine xg_if_eq X (pc := 43) (tgt := 48) d_R_put_43 rfl (fun h43 => ?_) (fun h43 => ?_)
            · refine xg_aload_n X (pc := 48) d_R_put_48 rfl ?_
              refine xf_R_13 X (pc := 49) rfl d_R_put_49 ?_
              refine xg_aload_n X (pc := 52) d_R_put_52 rfl ?_
              refine xg_iload_n X (pc := 53) d_R_put_53 rfl ?_
              refine xg_iload_n X (pc := 54) d_R_put_54 rfl ?_
              refine xg_iload_n X (pc := 55) d_R_put_55 rfl ?_
              refine xg_crV3 X (pc := 56) d_R_put_56 (c_R_cell hd) s_R_53 ⟨_, rfl⟩ rfl ⟨by decide, by decide⟩ (Nat.le_of_ble_eq_true rfl) ?_
              refine xg_iload X (pc := 59) d_R_put_59 rfl ?_
              refine xa_st9 X (pc := 61) d_R_put_61 (hx ⟨h4, h13⟩) ?_
              refine xg_iconst X (pc := 62) (v := 1) d_R_put_62 (by decide) ?_
              exact xg_iret X (pc := 63) d_R_put_63 rfl (rfl) (by show ite _ _ _; rw [if_pos ⟨h4, h13, h21, h29, h36, h43⟩]; exact ⟨rfl, rfl, rfl⟩)
            · refine xg_iconst X (pc := 46) (v := 0) d_R_put_46 (by decide) ?_
              exact xg_iret X (pc := 47) d_R_put_47 rfl (rfl) (by show ite _ _ _; rw [if_neg (by first | (simp_all [x_hol, x_pl, x_rp, x_be, x_op, x_os]; done) | ((try simp only [x_op, x_rp, x_pl, x_hol] at *); grind))]; exact ⟨rfl, rfl, rfl⟩)
set_option maxRecDepth 100000 in
set_option maxHeartbeats 4000000 in
theorem c_R_mix (hd : x_dis ad) : x_Con l M_R_mix 0 0 ad D cI [.ref (ad 7)] sc ar (fun r sc2 ar2 => if ¬ sc 8 = 0 ∧ ¬ 0 < sc 14 ∧ sc 13 = 0 then x_E (some (.int 1)) (upd sc 13 1) (x_ua ar 4 (x_mxs (ar 4) 256)) r sc2 ar2 else x_E (some (.int 0)) sc ar r sc2 ar2) := by
  refine x_intro hd [some (.ref (ad 7)), none, none, none, none] (by decide) (Nat.le_of_ble_eq_true rfl) rfl ?_
  intro p e s m args below meth c X
  have loop : ¬ sc 8 = 0 ∧ ¬ 0 < sc 14 ∧ sc 13 = 0 → ∀ n k : Nat, 256 - k < n → k ≤ 256 → x_G p l e (x_rm 0 0) s m args below meth c M_R_mix ad D cI (x_A ad) 0 0 (x_Q below args s ad D cI (fun r sc2 ar2 => if ¬ sc 8 = 0 ∧ ¬ 0 < sc 14 ∧ sc 13 = 0 then x_E (some (.int 1)) (upd sc 13 1) (x_ua ar 4 (x_mxs (ar 4) 256)) r sc2 ar2 else x_E (some (.int 0)) sc ar r sc2 ar2)) 25 [some (.ref (ad 7)), some (.int (nI k)), none, none, none] [] sc (x_ua ar 4 (x_mxs (ar 4) k)) := by
    intro hc n
    induction n with
    | zero => intro k h _; exact absurd h (Nat.not_lt_zero _)
    | succ n ih =>
      intro k hn hk
      refine xg_iload_n X (pc := 25) d_R_mix_25 rfl ?_
      refine xg_sipush X (pc := 26) (v := 256) d_R_mix_26 (by decide) ?_
      refine xg_icmp_ge X (pc := 29) (tgt := 111) d_R_mix_29 rfl (fun h29 => ?_) (fun h29 => ?_)
      · have hk2 : k = 256 := Nat.le_antisymm hk (x_ge (n := 256) rfl (by decide) (by omega) h29)
        subst hk2
        refine xg_aload_n X (pc := 111) d_R_mix_111 rfl ?_
        refine xg_iconst X (pc := 112) (v := 1) d_R_mix_112 (by decide) ?_
        refine xp_R_39 X (pc := 113) rfl d_R_mix_113 (by decide) ?_
        refine xg_iconst X (pc := 116) (v := 1) d_R_mix_116 (by decide) ?_
        exact xg_iret X (pc := 117) d_R_mix_117 rfl (rfl) (by show ite _ _ _; rw [if_pos hc]; exact ⟨rfl, rfl, rfl⟩)
      · have hk3 : k < 256 := x_nge (n := 256) rfl (by decide) (by omega) h29
        refine xg_aload_n X (pc := 32) d_R_mix_32 rfl ?_
        refine xf_R_13 X (pc := 33) rfl d_R_mix_33 ?_
        refine xg_iload_n X (pc := 36) d_R_mix_36 rfl ?_
        refine xa_ld9 X (pc := 37) d_R_mix_37 (vp_in_nI (by omega) (by decide)) ?_
        refine xg_istore_n X (pc := 38) d_R_mix_38 (by decide) rfl ?_
        refine xg_aload_n X (pc := 39) d_R_mix_39 rfl ?_
        refine xf_R_13 X (pc := 40) rfl d_R_mix_40 ?_
        refine xg_sipush X (pc := 43) (v := 256) d_R_mix_43 (by decide) ?_
        refine xg_iload_n X (pc := 46) d_R_mix_46 rfl ?_
        refine xg_iadd X (pc := 47) d_R_mix_47 ?_
        refine xa_ld9 X (pc := 48) d_R_mix_48 (x_in256' hk3) ?_
        refine xg_istore_n X (pc := 49) d_R_mix_49 (by decide) rfl ?_
        refine xg_aload_n X (pc := 50) d_R_mix_50 rfl ?_
        refine xf_R_13 X (pc := 51) rfl d_R_mix_51 ?_
        refine xg_sipush X (pc := 54) (v := 512) d_R_mix_54 (by decide) ?_
        refine xg_iload_n X (pc := 57) d_R_mix_57 rfl ?_
        refine xg_iadd X (pc := 58) d_R_mix_58 ?_
        refine xa_ld9 X (pc := 59) d_R_mix_59 (x_in512' hk3) ?_
        refine xg_istore X (pc := 60) d_R_mix_60 (by decide) rfl ?_
        refine xg_aload_n X (pc := 62) d_R_mix_62 rfl ?_
        refine xf_R_13 X (pc := 63) rfl d_R_mix_63 ?_
        refine xg_iload_n X (pc := 66) d_R_mix_66 rfl ?_
        refine xg_iload_n X (pc := 67) d_R_mix_67 rfl ?_
        refine xg_iconst X (pc := 68) (v := 2) d_R_mix_68 (by decide) ?_
        refine xg_iload_n X (pc := 69) d_R_mix_69 rfl ?_
        refine xg_imul X (pc := 70) d_R_mix_70 ?_
        refine xg_iadd X (pc := 71) d_R_mix_71 ?_
        refine xg_iload X (pc := 72) d_R_mix_72 rfl ?_
        refine xg_iadd X (pc := 74) d_R_mix_74 ?_
        refine xg_iconst X (pc := 75) (v := 2) d_R_mix_75 (by decide) ?_
        refine xg_ishr X (pc := 76) d_R_mix_76 ?_
        refine xa_st9 X (pc := 77) d_R_mix_77 (vp_in_nI (by omega) (by decide)) ?_
        refine xg_aload_n X (pc := 78) d_R_mix_78 rfl ?_
        refine xf_R_13 X (pc := 79) rfl d_R_mix_79 ?_
        refine xg_sipush X (pc := 82) (v := 256) d_R_mix_82 (by decide) ?_
        refine xg_iload_n X (pc := 85) d_R_mix_85 rfl ?_
        refine xg_iadd X (pc := 86) d_R_mix_86 ?_
        refine xg_iload X (pc := 87) d_R_mix_87 rfl ?_
        refine xg_iload_n X (pc := 89) d_R_mix_89 rfl ?_
        refine xg_isub X (pc := 90) d_R_mix_90 ?_
        refine xa_st9 X (pc := 91) d_R_mix_91 (x_in256' hk3) ?_
        refine xg_aload_n X (pc := 92) d_R_mix_92 rfl ?_
        refine xf_R_13 X (pc := 93) rfl d_R_mix_93 ?_
        refine xg_sipush X (pc := 96) (v := 512) d_R_mix_96 (by decide) ?_
        refine xg_iload_n X (pc := 99) d_R_mix_99 rfl ?_
        refine xg_iadd X (pc := 100) d_R_mix_100 ?_
        refine xg_iload_n X (pc := 101) d_R_mix_101 rfl ?_
        refine xg_iload_n X (pc := 102) d_R_mix_102 rfl ?_
        refine xg_isub X (pc := 103) d_R_mix_103 ?_
        refine xa_st9 X (pc := 104) d_R_mix_104 (x_in512' hk3) ?_
        refine xg_iinc X (pc := 105) d_R_mix_105 rfl (x_inc (by decide : Int32.ofInt (1) = 1) _) (by decide) rfl ?_
        refine xg_goto X (pc := 108) (tgt := 25) d_R_mix_108 rfl ?_
        refine xg_weak [some (.ref (ad 7)), some (.int (nI (k + 1))), none, none, none] ⟨rfl, by rw [← x_k1], trivial⟩ ?_
        exact xg_eq rfl (by simp only [x_ua_ua, x_ua_at, x_cl0 hk3, x_cl256' hk3, x_cl512' hk3]; rfl) rfl (ih (k + 1) (by omega) (by omega))
  refine xg_aload_n X (pc := 0) d_R_mix_0 rfl ?_
  refine xf_R_22 X (pc := 1) rfl d_R_mix_1 ?_
  refine xg_if_eq X (pc := 4) (tgt := 21) d_R_mix_4 rfl (fun h4 => ?_) (fun h4 => ?_)
  · refine xg_iconst X (pc := 21) (v := 0) d_R_mix_21 (by decide) ?_
    exact xg_iret X (pc := 22) d_R_mix_22 rfl (rfl) (by show ite _ _ _; rw [if_neg (by first | (simp_all [x_hol, x_pl, x_rp, x_be, x_op, x_os]; done) | ((try simp only [x_op, x_rp, x_pl, x_hol] at *); grind))]; exact ⟨rfl, rfl, rfl⟩)
  · refine xg_aload_n X (pc := 7) d_R_mix_7 rfl ?_
    refine xf_R_42 X (pc := 8) rfl d_R_mix_8 ?_
    refine xg_if_gt X (pc := 11) (tgt := 21) d_R_mix_11 rfl (fun h11 => ?_) (fun h11 => ?_)
    · refine xg_iconst X (pc := 21) (v := 0) d_R_mix_21 (by decide) ?_
      exact xg_iret X (pc := 22) d_R_mix_22 rfl (rfl) (by show ite _ _ _; rw [if_neg (by first | (simp_all [x_hol, x_pl, x_rp, x_be, x_op, x_os]; done) | ((try simp only [x_op, x_rp, x_pl, x_hol] at *); grind))]; exact ⟨rfl, rfl, rfl⟩)
    · refine xg_aload_n X (pc := 14) d_R_mix_14 rfl ?_
      refine xf_R_39 X (pc := 15) rfl d_R_mix_15 ?_
      refine xg_if_eq X (pc := 18) (tgt := 23) d_R_mix_18 rfl (fun h18 => ?_) (fun h18 => ?_)
      · refine xg_iconst X (pc := 23) (v := 0) d_R_mix_23 (by decide) ?_
        refine xg_istore_n X (pc := 24) d_R_mix_24 (by decide) rfl ?_
        refine xg_weak [some (.ref (ad 7)), some (.int (nI 0)), none, none, none] ⟨rfl, rfl, trivial⟩ ?_
        exact xg_eq rfl (x_ua_id).symm rfl (loop ⟨h4, h11, h18⟩ 257 0 (by omega) (by omega))
      · refine xg_iconst X (pc := 21) (v := 0) d_R_mix_21 (by decide) ?_
        exact xg_iret X (pc := 22) d_R_mix_22 rfl (rfl) (by show ite _ _ _; rw [if_neg (by first | (simp_all [x_hol, x_pl, x_rp, x_be, x_op, x_os]; done) | ((try simp only [x_op, x_rp, x_pl, x_hol] at *); grind))]; exact ⟨rfl, rfl, rfl⟩)
set_option maxRecDepth 100000 in
set_option maxHeartbeats 4000000 in
theorem c_R_unmix (hd : x_dis ad) : x_Con l M_R_unmix 0 0 ad D cI [.ref (ad 7)] sc ar (fun r sc2 ar2 => if ¬ 0 < sc 14 ∧ ¬ sc 13 = 0 then x_E (some (.int 1)) (upd sc 13 0) (x_ua ar 4 (x_ums (ar 4) 256)) r sc2 ar2 else x_E (some (.int 0)) sc ar r sc2 ar2) := by
  refine x_intro hd [some (.ref (ad 7)), none, none, none, none, none] (by decide) (Nat.le_of_ble_eq_true rfl) rfl ?_
  intro p e s m args below meth c X
  have loop : ¬ 0 < sc 14 ∧ ¬ sc 13 = 0 → ∀ n k : Nat, 256 - k < n → k ≤ 256 → x_G p l e (x_rm 0 0) s m args below meth c M_R_unmix ad D cI (x_A ad) 0 0 (x_Q below args s ad D cI (fun r sc2 ar2 => if ¬ 0 < sc 14 ∧ ¬ sc 13 = 0 then x_E (some (.int 1)) (upd sc 13 0) (x_ua ar 4 (x_ums (ar 4) 256)) r sc2 ar2 else x_E (some (.int 0)) sc ar r sc2 ar2)) 18 [some (.ref (ad 7)), some (.int (nI k)), none, none, none, none] [] sc (x_ua ar 4 (x_ums (ar 4) k)) := by
    intro hc n
    induction n with
    | zero => intro k h _; exact absurd h (Nat.not_lt_zero _)
    | succ n ih =>
      intro k hn hk
      refine xg_iload_n X (pc := 18) d_R_unmix_18 rfl ?_
      refine xg_sipush X (pc := 19) (v := 256) d_R_unmix_19 (by decide) ?_
      refine xg_icmp_ge X (pc := 22) (tgt := 108) d_R_unmix_22 rfl (fun h22 => ?_) (fun h22 => ?_)
      · have hk2 : k = 256 := Nat.le_antisymm hk (x_ge (n := 256) rfl (by decide) (by omega) h22)
        subst hk2
        refine xg_aload_n X (pc := 108) d_R_unmix_108 rfl ?_
        refine xg_iconst X (pc := 109) (v := 0) d_R_unmix_109 (by decide) ?_
        refine xp_R_39 X (pc := 110) rfl d_R_unmix_110 (by decide) ?_
        refine xg_iconst X (pc := 113) (v := 1) d_R_unmix_113 (by decide) ?_
        exact xg_iret X (pc := 114) d_R_unmix_114 rfl (rfl) (by show ite _ _ _; rw [if_pos hc]; exact ⟨rfl, rfl, rfl⟩)
      · have hk3 : k < 256 := x_nge (n := 256) rfl (by decide) (by omega) h22
        refine xg_aload_n X (pc := 25) d_R_unmix_25 rfl ?_
        refine xf_R_13 X (pc := 26) rfl d_R_unmix_26 ?_
        refine xg_iload_n X (pc := 29) d_R_unmix_29 rfl ?_
        refine xa_ld9 X (pc := 30) d_R_unmix_30 (vp_in_nI (by omega) (by decide)) ?_
        refine xg_istore_n X (pc := 31) d_R_unmix_31 (by decide) rfl ?_
        refine xg_aload_n X (pc := 32) d_R_unmix_32 rfl ?_
        refine xf_R_13 X (pc := 33) rfl d_R_unmix_33 ?_
        refine xg_sipush X (pc := 36) (v := 256) d_R_unmix_36 (by decide) ?_
        refine xg_iload_n X (pc := 39) d_R_unmix_39 rfl ?_
        refine xg_iadd X (pc := 40) d_R_unmix_40 ?_
        refine xa_ld9 X (pc := 41) d_R_unmix_41 (x_in256' hk3) ?_
        refine xg_istore_n X (pc := 42) d_R_unmix_42 (by decide) rfl ?_
        refine xg_aload_n X (pc := 43) d_R_unmix_43 rfl ?_
        refine xf_R_13 X (pc := 44) rfl d_R_unmix_44 ?_
        refine xg_sipush X (pc := 47) (v := 512) d_R_unmix_47 (by decide) ?_
        refine xg_iload_n X (pc := 50) d_R_unmix_50 rfl ?_
        refine xg_iadd X (pc := 51) d_R_unmix_51 ?_
        refine xa_ld9 X (pc := 52) d_R_unmix_52 (x_in512' hk3) ?_
        refine xg_istore X (pc := 53) d_R_unmix_53 (by decide) rfl ?_
        refine xg_iload_n X (pc := 55) d_R_unmix_55 rfl ?_
        refine xg_iload_n X (pc := 56) d_R_unmix_56 rfl ?_
        refine xg_iload X (pc := 57) d_R_unmix_57 rfl ?_
        refine xg_iadd X (pc := 59) d_R_unmix_59 ?_
        refine xg_iconst X (pc := 60) (v := 2) d_R_unmix_60 (by decide) ?_
        refine xg_ishr X (pc := 61) d_R_unmix_61 ?_
        refine xg_isub X (pc := 62) d_R_unmix_62 ?_
        refine xg_istore X (pc := 63) d_R_unmix_63 (by decide) rfl ?_
        refine xg_aload_n X (pc := 65) d_R_unmix_65 rfl ?_
        refine xf_R_13 X (pc := 66) rfl d_R_unmix_66 ?_
        refine xg_iload_n X (pc := 69) d_R_unmix_69 rfl ?_
        refine xg_iload X (pc := 70) d_R_unmix_70 rfl ?_
        refine xg_iload X (pc := 72) d_R_unmix_72 rfl ?_
        refine xg_iadd X (pc := 74) d_R_unmix_74 ?_
        refine xa_st9 X (pc := 75) d_R_unmix_75 (vp_in_nI (by omega) (by decide)) ?_
        refine xg_aload_n X (pc := 76) d_R_unmix_76 rfl ?_
        refine xf_R_13 X (pc := 77) rfl d_R_unmix_77 ?_
        refine xg_sipush X (pc := 80) (v := 256) d_R_unmix_80 (by decide) ?_
        refine xg_iload_n X (pc := 83) d_R_unmix_83 rfl ?_
        refine xg_iadd X (pc := 84) d_R_unmix_84 ?_
        refine xg_iload X (pc := 85) d_R_unmix_85 rfl ?_
        refine xa_st9 X (pc := 87) d_R_unmix_87 (x_in256' hk3) ?_
        refine xg_aload_n X (pc := 88) d_R_unmix_88 rfl ?_
        refine xf_R_13 X (pc := 89) rfl d_R_unmix_89 ?_
        refine xg_sipush X (pc := 92) (v := 512) d_R_unmix_92 (by decide) ?_
        refine xg_iload_n X (pc := 95) d_R_unmix_95 rfl ?_
        refine xg_iadd X (pc := 96) d_R_unmix_96 ?_
        refine xg_iload_n X (pc := 97) d_R_unmix_97 rfl ?_
        refine xg_iload X (pc := 98) d_R_unmix_98 rfl ?_
        refine xg_iadd X (pc := 100) d_R_unmix_100 ?_
        refine xa_st9 X (pc := 101) d_R_unmix_101 (x_in512' hk3) ?_
        refine xg_iinc X (pc := 102) d_R_unmix_102 rfl (x_inc (by decide : Int32.ofInt (1) = 1) _) (by decide) rfl ?_
        refine xg_goto X (pc := 105) (tgt := 18) d_R_unmix_105 rfl ?_
        refine xg_weak [some (.ref (ad 7)), some (.int (nI (k + 1))), none, none, none, none] ⟨rfl, by rw [← x_k1], trivial⟩ ?_
        exact xg_eq rfl (by simp only [x_ua_ua, x_ua_at, x_cl0 hk3, x_cl256' hk3, x_cl512' hk3]; rfl) rfl (ih (k + 1) (by omega) (by omega))
  refine xg_aload_n X (pc := 0) d_R_unmix_0 rfl ?_
  refine xf_R_42 X (pc := 1) rfl d_R_unmix_1 ?_
  refine xg_if_gt X (pc := 4) (tgt := 14) d_R_unmix_4 rfl (fun h4 => ?_) (fun h4 => ?_)
  · refine xg_iconst X (pc := 14) (v := 0) d_R_unmix_14 (by decide) ?_
    exact xg_iret X (pc := 15) d_R_unmix_15 rfl (rfl) (by show ite _ _ _; rw [if_neg (by first | (simp_all [x_hol, x_pl, x_rp, x_be, x_op, x_os]; done) | ((try simp only [x_op, x_rp, x_pl, x_hol] at *); grind))]; exact ⟨rfl, rfl, rfl⟩)
  · refine xg_aload_n X (pc := 7) d_R_unmix_7 rfl ?_
    refine xf_R_39 X (pc := 8) rfl d_R_unmix_8 ?_
    refine xg_if_ne X (pc := 11) (tgt := 16) d_R_unmix_11 rfl (fun h11 => ?_) (fun h11 => ?_)
    · refine xg_iconst X (pc := 16) (v := 0) d_R_unmix_16 (by decide) ?_
      refine xg_istore_n X (pc := 17) d_R_unmix_17 (by decide) rfl ?_
      refine xg_weak [some (.ref (ad 7)), some (.int (nI 0)), none, none, none, none] ⟨rfl, rfl, trivial⟩ ?_
      exact xg_eq rfl (x_ua_id).symm rfl (loop ⟨h4, h11⟩ 257 0 (by omega) (by omega))
    · refine xg_iconst X (pc := 14) (v := 0) d_R_unmix_14 (by decide) ?_
      exact xg_iret X (pc := 15) d_R_unmix_15 rfl (rfl) (by show ite _ _ _; rw [if_neg (by first | (simp_all [x_hol, x_pl, x_rp, x_be, x_op, x_os]; done) | ((try simp only [x_op, x_rp, x_pl, x_hol] at *); grind))]; exact ⟨rfl, rfl, rfl⟩)
end C5
end
section
def zI (z : Int) : Int32 := Int32.ofInt z
theorem zI_toInt (z : Int) (h1 : -2147483648 ≤ z := by omega) (h2 : z < 2147483648 := by omega) : (zI z).toInt = z := Int32.toInt_ofInt_of_le (by omega) (by omega)
theorem zI_add (a b : Int) : zI a + zI b = zI (a + b) := (Int32.ofInt_add a b).symm
theorem zI_sub (a b : Int) : zI a - zI b = zI (a - b) := (Int32.ofInt_sub a b).symm
theorem zI_mul (a b : Int) : zI a * zI b = zI (a * b) := (Int32.ofInt_mul a b).symm
theorem zI_lt (a b : Int) (h1 : -2147483648 ≤ a := by omega) (h2 : a < 2147483648 := by omega) (h3 : -2147483648 ≤ b := by omega) (h4 : b < 2147483648 := by omega) : zI a < zI b ↔ a < b := by
  rw [Int32.lt_iff_toInt_lt, zI_toInt a h1 h2, zI_toInt b h3 h4]
theorem zI_le (a b : Int) (h1 : -2147483648 ≤ a := by omega) (h2 : a < 2147483648 := by omega) (h3 : -2147483648 ≤ b := by omega) (h4 : b < 2147483648 := by omega) : zI a ≤ zI b ↔ a ≤ b := by
  rw [Int32.le_iff_toInt_le, zI_toInt a h1 h2, zI_toInt b h3 h4]
theorem zI_eq (a b : Int) (h1 : -2147483648 ≤ a := by omega) (h2 : a < 2147483648 := by omega) (h3 : -2147483648 ≤ b := by omega) (h4 : b < 2147483648 := by omega) : zI a = zI b ↔ a = b := by
  rw [← Int32.toInt_inj, zI_toInt a h1 h2, zI_toInt b h3 h4]
theorem zI_nI (n : Nat) : zI n = nI n := Int32.ofInt_eq_ofNat
theorem zI_in {z : Int} {n : Nat} (h1 : 0 ≤ z) (h2 : z < n) (h3 : n ≤ 1000000) : vp_in (zI z) n := by
  rw [vp_in_iff, zI_toInt z]
  exact ⟨h1, h2⟩
theorem zI_clamp {z : Int} (h1 : 0 ≤ z) (h2 : z < 1000000) : (zI z).toNatClampNeg = z.toNat := by
  have e : zI z = nI z.toNat := by
    rw [← zI_nI, Int.toNat_of_nonneg h1]
  rw [e]
  exact nI_clamp (by omega)
theorem z_1 : (1 : Int32) = zI 1 := by decide
theorem z_2 : (2 : Int32) = zI 2 := by decide
theorem z_3 : (3 : Int32) = zI 3 := by decide
theorem z_a1 (z : Int) : zI z + 1 = zI (z + 1) := by rw [z_1, zI_add]
theorem z_s1 (z : Int) : zI z - 1 = zI (z - 1) := by rw [z_1, zI_sub]
theorem z_a2 (z : Int) : zI z + 2 = zI (z + 2) := by rw [z_2, zI_add]
theorem z_a3 (z : Int) : zI z + 3 = zI (z + 3) := by rw [z_3, zI_add]
theorem z_s3 (z : Int) : zI z - 3 = zI (z - 3) := by rw [z_3, zI_sub]
def x_r1 (a b m : Int) : Int := if m < a then 2 * a - m else if b < m then 2 * b - m else m
def x_rn (a b : Int) : Nat → Int → Int
  | 0, m => m
  | n + 1, m => x_rn a b n (x_r1 a b m)
def x_in (a b m : Int) : Int := x_rn a b 3 m
theorem x_r1_in {a b m : Int} (h1 : a ≤ m) (h2 : m ≤ b) : x_r1 a b m = m := by
  unfold x_r1
  rw [if_neg (by omega), if_neg (by omega)]
theorem x_rn_in {a b m : Int} (h1 : a ≤ m) (h2 : m ≤ b) : ∀ n, x_rn a b n m = m
  | 0 => rfl
  | n + 1 => by
    show x_rn a b n (x_r1 a b m) = m
    rw [x_r1_in h1 h2]
    exact x_rn_in h1 h2 n
theorem x_in_ok {a b m : Int} (h : a < b) (h1 : a - 3 ≤ m) (h2 : m ≤ b + 3) : a ≤ x_in a b m ∧ x_in a b m ≤ b := by
  unfold x_in x_rn x_rn x_rn x_rn x_r1
  repeat' split
  all_goals omega
theorem x_r1_par (a b m : Int) : (x_r1 a b m - m) % 2 = 0 := by
  unfold x_r1
  repeat' split
  all_goals omega
theorem x_in_par (a b m : Int) : (x_in a b m - m) % 2 = 0 := by
  have h1 := x_r1_par a b m
  have h2 := x_r1_par a b (x_r1 a b m)
  have h3 := x_r1_par a b (x_r1 a b (x_r1 a b m))
  show (x_r1 a b (x_r1 a b (x_r1 a b m)) - m) % 2 = 0
  omega
def x_vl (v : Nat → Int32) (a b m : Int) : Int32 := v (x_in a b m - a).toNat
def x_P (k : Int32) (v : Nat → Int32) (a b n : Int) : Int32 := if k = 0 then (x_vl v a b (n - 1) + x_vl v a b (n + 1)) >>> (1 &&& 31) else if k = 1 then x_vl v a b (n - 1) else (9 * (x_vl v a b (n - 1) + x_vl v a b (n + 1)) - (x_vl v a b (n - 3) + x_vl v a b (n + 3)) + 8) >>> (4 &&& 31)
def x_U (k : Int32) (v : Nat → Int32) (a b n : Int) : Int32 := if k = 1 then x_vl v a b (n + 1) >>> (1 &&& 31) else (x_vl v a b (n - 1) + x_vl v a b (n + 1) + 2) >>> (2 &&& 31)
theorem x_vl_in {sc : Nat → Int32} {a m : Int} (ha : sc 6 = zI a) (h1 : a ≤ m) (h2 : m ≤ a + 15) : vp_in (zI m - sc 6) 16 := by
  rw [ha, zI_sub]
  exact zI_in (by omega) (by omega) (by decide)
theorem x_vl_cl {sc : Nat → Int32} {a m : Int} (ha : sc 6 = zI a) (h1 : a ≤ m) (h2 : m ≤ a + 15) : (zI m - sc 6).toNatClampNeg = (m - a).toNat := by
  rw [ha, zI_sub]
  exact zI_clamp (by omega) (by omega)
theorem x_refl {x : Int32} {a m : Int} (ha : x = zI a) : 2 * x - zI m = zI (2 * a - m) := by
  rw [ha, z_2, zI_mul, zI_sub]
section C6
variable {l : Launch} {ad : Nat → Nat} {D : va_G} {cI : ClassId} {sc : Nat → Int32} {ar : Nat → Nat → Int32}
set_option maxRecDepth 100000 in
set_option maxHeartbeats 4000000 in
theorem c_L_value (hd : x_dis ad) {a b : Int} (ha : sc 6 = zI a) (hb : sc 7 = zI b) (h0 : 0 ≤ a) (h1 : a < b) (h2 : b ≤ a + 15) (h3 : b ≤ 2000) {x0 : Int32} {m0 : Int} (hx : x0 = zI m0) (h4 : a - 3 ≤ m0) (h5 : m0 ≤ b + 3) : x_Con l M_L_value 0 0 ad D cI [.ref (ad 4), .int x0] sc ar (x_E (some (.int (x_vl (ar 2) a b m0))) sc ar) := by
  subst hx
  refine x_intro hd [some (.ref (ad 4)), some (.int (zI m0)), none, none] (by decide) (Nat.le_of_ble_eq_true rfl) rfl ?_
  intro p e s m args below meth c X
  have loop : ∀ (n j : Nat) (mm : Int), j + n ≤ 7 → a - 20 ≤ mm → mm ≤ b + 20 → x_rn a b n mm = x_in a b m0 → x_G p l e (x_rm 0 0) s m args below meth c M_L_value ad D cI (x_A ad) 0 0 (x_Q below args s ad D cI (x_E (some (.int (x_vl (ar 2) a b m0))) sc ar)) 4 [some (.ref (ad 4)), some (.int (zI m0)), some (.int (zI mm)), some (.int (nI j))] [] sc ar := by
    intro n
    induction n with
    | zero =>
      intro j mm hj hm1 hm2 he
      refine xg_iload_n X (pc := 4) d_L_value_4 rfl ?_
      refine xg_bipush X (pc := 5) (v := 8) d_L_value_5 (by decide) ?_
      refine xg_icmp_ge X (pc := 7) (tgt := 60) d_L_value_7 rfl (fun h7 => ?_) (fun h7 => ?_)
      · exact absurd (x_ge (n := 8) rfl (by decide) (by omega) h7) (by omega)
      refine xg_iload_n X (pc := 10) d_L_value_10 rfl ?_
      refine xg_aload_n X (pc := 11) d_L_value_11 rfl ?_
      refine xf_L_15 X (pc := 12) rfl d_L_value_12 ?_
      refine xg_icmp_lt X (pc := 15) (tgt := 26) d_L_value_15 rfl (fun h15 => ?_) (fun h15 => ?_)
      · rw [ha, zI_lt mm a] at h15
        exfalso
        have hm : a ≤ mm ∧ mm ≤ b := by have := x_in_ok h1 h4 h5; rw [← he] at this; exact this
        omega
      rw [ha, zI_lt mm a] at h15
      refine xg_iload_n X (pc := 18) d_L_value_18 rfl ?_
      refine xg_aload_n X (pc := 19) d_L_value_19 rfl ?_
      refine xf_L_19 X (pc := 20) rfl d_L_value_20 ?_
      refine xg_icmp_le X (pc := 23) (tgt := 60) d_L_value_23 rfl (fun h23 => ?_) (fun h23 => ?_)
      · rw [hb, zI_le mm b] at h23
        have e0 : x_in a b m0 = mm := by rw [← he]; exact rfl
        refine xg_aload_n X (pc := 60) d_L_value_60 rfl ?_
        refine xf_L_9 X (pc := 61) rfl d_L_value_61 ?_
        refine xg_iload_n X (pc := 64) d_L_value_64 rfl ?_
        refine xg_aload_n X (pc := 65) d_L_value_65 rfl ?_
        refine xf_L_15 X (pc := 66) rfl d_L_value_66 ?_
        refine xg_isub X (pc := 69) d_L_value_69 ?_
        refine xa_ld6 X (pc := 70) d_L_value_70 (x_vl_in ha (by omega) (by omega)) ?_
        exact xg_iret X (pc := 71) d_L_value_71 rfl (rfl) (by rw [x_vl_cl ha (by omega) (by omega)]; exact ⟨by unfold x_vl; rw [e0], rfl, rfl⟩)
      rw [hb, zI_le mm b] at h23
      exfalso
      have hm : a ≤ mm ∧ mm ≤ b := by have := x_in_ok h1 h4 h5; rw [← he] at this; exact this
      omega
    | succ n ih =>
      intro j mm hj hm1 hm2 he
      refine xg_iload_n X (pc := 4) d_L_value_4 rfl ?_
      refine xg_bipush X (pc := 5) (v := 8) d_L_value_5 (by decide) ?_
      refine xg_icmp_ge X (pc := 7) (tgt := 60) d_L_value_7 rfl (fun h7 => ?_) (fun h7 => ?_)
      · exact absurd (x_ge (n := 8) rfl (by decide) (by omega) h7) (by omega)
      refine xg_iload_n X (pc := 10) d_L_value_10 rfl ?_
      refine xg_aload_n X (pc := 11) d_L_value_11 rfl ?_
      refine xf_L_15 X (pc := 12) rfl d_L_value_12 ?_
      refine xg_icmp_lt X (pc := 15) (tgt := 26) d_L_value_15 rfl (fun h15 => ?_) (fun h15 => ?_)
      · rw [ha, zI_lt mm a] at h15
        refine xg_iload_n X (pc := 26) d_L_value_26 rfl ?_
        refine xg_aload_n X (pc := 27) d_L_value_27 rfl ?_
        refine xf_L_15 X (pc := 28) rfl d_L_value_28 ?_
        refine xg_icmp_ge X (pc := 31) (tgt := 45) d_L_value_31 rfl (fun h31 => ?_) (fun h31 => ?_)
        · rw [ha, zI_le a mm] at h31
          refine xg_iconst X (pc := 45) (v := 2) d_L_value_45 (by decide) ?_
          refine xg_aload_n X (pc := 46) d_L_value_46 rfl ?_
          refine xf_L_19 X (pc := 47) rfl d_L_value_47 ?_
          refine xg_imul X (pc := 50) d_L_value_50 ?_
          refine xg_iload_n X (pc := 51) d_L_value_51 rfl ?_
          refine xg_isub X (pc := 52) d_L_value_52 ?_
          refine xg_istore_n X (pc := 53) d_L_value_53 (by decide) rfl ?_
          refine xg_iinc X (pc := 54) d_L_value_54 rfl (x_inc (by decide : Int32.ofInt (1) = 1) _) (by decide) rfl ?_
          refine xg_goto X (pc := 57) (tgt := 4) d_L_value_57 rfl ?_
          refine xg_weak [some (.ref (ad 4)), some (.int (zI m0)), some (.int (zI (x_r1 a b mm))), some (.int (nI (j + 1)))] ⟨rfl, rfl, by rw [x_refl hb]; unfold x_r1; rw [if_neg (by omega), if_pos (by omega)], by rw [← x_k1], trivial⟩ ?_
          exact ih (j + 1) (x_r1 a b mm) (by omega) (by unfold x_r1; repeat' split; all_goals omega) (by unfold x_r1; repeat' split; all_goals omega) he
        rw [ha, zI_le a mm] at h31
        refine xg_iconst X (pc := 34) (v := 2) d_L_value_34 (by decide) ?_
        refine xg_aload_n X (pc := 35) d_L_value_35 rfl ?_
        refine xf_L_15 X (pc := 36) rfl d_L_value_36 ?_
        refine xg_imul X (pc := 39) d_L_value_39 ?_
        refine xg_iload_n X (pc := 40) d_L_value_40 rfl ?_
        refine xg_isub X (pc := 41) d_L_value_41 ?_
        refine xg_goto X (pc := 42) (tgt := 53) d_L_value_42 rfl ?_
        refine xg_istore_n X (pc := 53) d_L_value_53 (by decide) rfl ?_
        refine xg_iinc X (pc := 54) d_L_value_54 rfl (x_inc (by decide : Int32.ofInt (1) = 1) _) (by decide) rfl ?_
        refine xg_goto X (pc := 57) (tgt := 4) d_L_value_57 rfl ?_
        refine xg_weak [some (.ref (ad 4)), some (.int (zI m0)), some (.int (zI (x_r1 a b mm))), some (.int (nI (j + 1)))] ⟨rfl, rfl, by rw [x_refl ha]; unfold x_r1; rw [if_pos (by omega)], by rw [← x_k1], trivial⟩ ?_
        exact ih (j + 1) (x_r1 a b mm) (by omega) (by unfold x_r1; repeat' split; all_goals omega) (by unfold x_r1; repeat' split; all_goals omega) he
      rw [ha, zI_lt mm a] at h15
      refine xg_iload_n X (pc := 18) d_L_value_18 rfl ?_
      refine xg_aload_n X (pc := 19) d_L_value_19 rfl ?_
      refine xf_L_19 X (pc := 20) rfl d_L_value_20 ?_
      refine xg_icmp_le X (pc := 23) (tgt := 60) d_L_value_23 rfl (fun h23 => ?_) (fun h23 => ?_)
      · rw [hb, zI_le mm b] at h23
        have e0 : x_in a b m0 = mm := by rw [← he]; exact x_rn_in (by omega) (by omega) _
        refine xg_aload_n X (pc := 60) d_L_value_60 rfl ?_
        refine xf_L_9 X (pc := 61) rfl d_L_value_61 ?_
        refine xg_iload_n X (pc := 64) d_L_value_64 rfl ?_
        refine xg_aload_n X (pc := 65) d_L_value_65 rfl ?_
        refine xf_L_15 X (pc := 66) rfl d_L_value_66 ?_
        refine xg_isub X (pc := 69) d_L_value_69 ?_
        refine xa_ld6 X (pc := 70) d_L_value_70 (x_vl_in ha (by omega) (by omega)) ?_
        exact xg_iret X (pc := 71) d_L_value_71 rfl (rfl) (by rw [x_vl_cl ha (by omega) (by omega)]; exact ⟨by unfold x_vl; rw [e0], rfl, rfl⟩)
      rw [hb, zI_le mm b] at h23
      refine xg_iload_n X (pc := 26) d_L_value_26 rfl ?_
      refine xg_aload_n X (pc := 27) d_L_value_27 rfl ?_
      refine xf_L_15 X (pc := 28) rfl d_L_value_28 ?_
      refine xg_icmp_ge X (pc := 31) (tgt := 45) d_L_value_31 rfl (fun h31 => ?_) (fun h31 => ?_)
      · rw [ha, zI_le a mm] at h31
        refine xg_iconst X (pc := 45) (v := 2) d_L_value_45 (by decide) ?_
        refine xg_aload_n X (pc := 46) d_L_value_46 rfl ?_
        refine xf_L_19 X (pc := 47) rfl d_L_value_47 ?_
        refine xg_imul X (pc := 50) d_L_value_50 ?_
        refine xg_iload_n X (pc := 51) d_L_value_51 rfl ?_
        refine xg_isub X (pc := 52) d_L_value_52 ?_
        refine xg_istore_n X (pc := 53) d_L_value_53 (by decide) rfl ?_
        refine xg_iinc X (pc := 54) d_L_value_54 rfl (x_inc (by decide : Int32.ofInt (1) = 1) _) (by decide) rfl ?_
        refine xg_goto X (pc := 57) (tgt := 4) d_L_value_57 rfl ?_
        refine xg_weak [some (.ref (ad 4)), some (.int (zI m0)), some (.int (zI (x_r1 a b mm))), some (.int (nI (j + 1)))] ⟨rfl, rfl, by rw [x_refl hb]; unfold x_r1; rw [if_neg (by omega), if_pos (by omega)], by rw [← x_k1], trivial⟩ ?_
        exact ih (j + 1) (x_r1 a b mm) (by omega) (by unfold x_r1; repeat' split; all_goals omega) (by unfold x_r1; repeat' split; all_goals omega) he
      rw [ha, zI_le a mm] at h31
      refine xg_iconst X (pc := 34) (v := 2) d_L_value_34 (by decide) ?_
      refine xg_aload_n X (pc := 35) d_L_value_35 rfl ?_
      refine xf_L_15 X (pc := 36) rfl d_L_value_36 ?_
      refine xg_imul X (pc := 39) d_L_value_39 ?_
      refine xg_iload_n X (pc := 40) d_L_value_40 rfl ?_
      refine xg_isub X (pc := 41) d_L_value_41 ?_
      refine xg_goto X (pc := 42) (tgt := 53) d_L_value_42 rfl ?_
      refine xg_istore_n X (pc := 53) d_L_value_53 (by decide) rfl ?_
      refine xg_iinc X (pc := 54) d_L_value_54 rfl (x_inc (by decide : Int32.ofInt (1) = 1) _) (by decide) rfl ?_
      refine xg_goto X (pc := 57) (tgt := 4) d_L_value_57 rfl ?_
      refine xg_weak [some (.ref (ad 4)), some (.int (zI m0)), some (.int (zI (x_r1 a b mm))), some (.int (nI (j + 1)))] ⟨rfl, rfl, by rw [x_refl ha]; unfold x_r1; rw [if_pos (by omega)], by rw [← x_k1], trivial⟩ ?_
      exact ih (j + 1) (x_r1 a b mm) (by omega) (by unfold x_r1; repeat' split; all_goals omega) (by unfold x_r1; repeat' split; all_goals omega) he
  refine xg_iload_n X (pc := 0) d_L_value_0 rfl ?_
  refine xg_istore_n X (pc := 1) d_L_value_1 (by decide) rfl ?_
  refine xg_iconst X (pc := 2) (v := 0) d_L_value_2 (by decide) ?_
  refine xg_istore_n X (pc := 3) d_L_value_3 (by decide) rfl ?_
  refine xg_weak [some (.ref (ad 4)), some (.int (zI m0)), some (.int (zI m0)), some (.int (nI 0))] ⟨rfl, rfl, rfl, rfl, trivial⟩ ?_
  exact loop 3 0 m0 (by omega) (by omega) (by omega) rfl
set_option maxRecDepth 100000 in
set_option maxHeartbeats 4000000 in
theorem c_L_neighbours (hd : x_dis ad) {a b : Int} (ha : sc 6 = zI a) (hb : sc 7 = zI b) (h0 : 0 ≤ a) (h1 : a < b) (h2 : b ≤ a + 15) (h3 : b ≤ 2000) {n r : Int} {x0 y0 : Int32} (hx : x0 = zI n) (hy : y0 = zI r) (h4 : a ≤ n) (h5 : n ≤ b) (h6 : 0 ≤ r) (h7 : r ≤ 3) : x_Con l M_L_neighbours 1 23 ad D cI [.ref (ad 4), .int x0, .int y0] sc ar (x_E (some (.int (x_vl (ar 2) a b (n - r) + x_vl (ar 2) a b (n + r)))) sc ar) := by
  subst hx
  subst hy
  refine x_intro hd [some (.ref (ad 4)), some (.int (zI n)), some (.int (zI r))] (by decide) (Nat.le_of_ble_eq_true rfl) rfl ?_
  intro p e s m args below meth c X
  refine xg_aload_n X (pc := 0) d_L_neighbours_0 rfl ?_
  refine xg_iload_n X (pc := 1) d_L_neighbours_1 rfl ?_
  refine xg_iload_n X (pc := 2) d_L_neighbours_2 rfl ?_
  refine xg_isub X (pc := 3) d_L_neighbours_3 ?_
  refine xg_crV1 X (pc := 4) d_L_neighbours_4 (c_L_value hd ha hb h0 h1 h2 h3 (zI_sub n r) (by omega) (by omega)) s_L_43 ⟨_, rfl⟩ rfl ⟨by decide, by decide⟩ (Nat.le_of_ble_eq_true rfl) ?_
  refine xg_aload_n X (pc := 7) d_L_neighbours_7 rfl ?_
  refine xg_iload_n X (pc := 8) d_L_neighbours_8 rfl ?_
  refine xg_iload_n X (pc := 9) d_L_neighbours_9 rfl ?_
  refine xg_iadd X (pc := 10) d_L_neighbours_10 ?_
  refine xg_crV1 X (pc := 11) d_L_neighbours_11 (c_L_value hd ha hb h0 h1 h2 h3 (zI_add n r) (by omega) (by omega)) s_L_43 ⟨_, rfl⟩ rfl ⟨by decide, by decide⟩ (Nat.le_of_ble_eq_true rfl) ?_
  refine xg_iadd X (pc := 14) d_L_neighbours_14 ?_
  exact xg_iret X (pc := 15) d_L_neighbours_15 rfl (rfl) (⟨rfl, rfl, rfl⟩)
set_option maxRecDepth 100000 in
set_option maxHeartbeats 4000000 in
theorem c_L_update (hd : x_dis ad) {a b : Int} (ha : sc 6 = zI a) (hb : sc 7 = zI b) (h0 : 0 ≤ a) (h1 : a < b) (h2 : b ≤ a + 15) (h3 : b ≤ 2000) {n : Int} {k x0 : Int32} (hx : x0 = zI n) (h4 : a ≤ n) (h5 : n ≤ b) : x_Con l M_L_update 2 45 ad D cI [.ref (ad 4), .int k, .int x0] sc ar (x_E (some (.int (x_U k (ar 2) a b n))) sc ar) := by
  subst hx
  refine x_intro hd [some (.ref (ad 4)), some (.int k), some (.int (zI n))] (by decide) (Nat.le_of_ble_eq_true rfl) rfl ?_
  intro p e s m args below meth c X
  refine xg_iload_n X (pc := 0) d_L_update_0 rfl ?_
  refine xg_iconst X (pc := 1) (v := 1) d_L_update_1 (by decide) ?_
  refine xg_icmp_ne X (pc := 2) (tgt := 17) d_L_update_2 rfl (fun i2 => ?_) (fun i2 => ?_)
  · refine xg_aload_n X (pc := 17) d_L_update_17 rfl ?_
    refine xg_iload_n X (pc := 18) d_L_update_18 rfl ?_
    refine xg_iconst X (pc := 19) (v := 1) d_L_update_19 (by decide) ?_
    refine xg_crV2 X (pc := 20) d_L_update_20 (c_L_neighbours hd ha hb h0 h1 h2 h3 rfl z_1 h4 h5 (by omega) (by omega)) s_L_40 ⟨_, rfl⟩ rfl ⟨by decide, by decide⟩ (Nat.le_of_ble_eq_true rfl) ?_
    refine xg_iconst X (pc := 23) (v := 2) d_L_update_23 (by decide) ?_
    refine xg_iadd X (pc := 24) d_L_update_24 ?_
    refine xg_iconst X (pc := 25) (v := 2) d_L_update_25 (by decide) ?_
    refine xg_ishr X (pc := 26) d_L_update_26 ?_
    exact xg_iret X (pc := 27) d_L_update_27 rfl (rfl) (⟨by unfold x_U; (repeat' split) <;> first | rfl | (exfalso; simp_all), rfl, rfl⟩)
  · refine xg_aload_n X (pc := 5) d_L_update_5 rfl ?_
    refine xg_iload_n X (pc := 6) d_L_update_6 rfl ?_
    refine xg_iconst X (pc := 7) (v := 1) d_L_update_7 (by decide) ?_
    refine xg_iadd X (pc := 8) d_L_update_8 ?_
    refine xg_crV1 X (pc := 9) d_L_update_9 (c_L_value hd ha hb h0 h1 h2 h3 (z_a1 n) (by omega) (by omega)) s_L_43 ⟨_, rfl⟩ rfl ⟨by decide, by decide⟩ (Nat.le_of_ble_eq_true rfl) ?_
    refine xg_iconst X (pc := 12) (v := 1) d_L_update_12 (by decide) ?_
    refine xg_ishr X (pc := 13) d_L_update_13 ?_
    refine xg_goto X (pc := 14) (tgt := 27) d_L_update_14 rfl ?_
    exact xg_iret X (pc := 27) d_L_update_27 rfl (rfl) (⟨by unfold x_U; (repeat' split) <;> first | rfl | (exfalso; simp_all), rfl, rfl⟩)
end C6
end
section
theorem x_and1 {a : Int} (h0 : 0 ≤ a) (h1 : a < 1000000) : zI a &&& 1 = zI (a % 2) := by
  have e : zI a = nI a.toNat := by rw [← zI_nI, Int.toNat_of_nonneg h0]
  rw [e, pk_andN (by omega) 1 (by decide), ← zI_nI]
  congr 1
  omega
theorem x_odd {x : Int32} {a : Int} (ha : x = zI a) (h0 : 0 ≤ a) (h1 : a < 1000000) : x &&& 1 = 1 ↔ a % 2 = 1 := by
  rw [ha, x_and1 h0 h1]
  exact zI_eq (a % 2) 1
def x_fo (a : Int) : Int := if a % 2 = 1 then a else a + 1
def x_fe (a : Int) : Int := if a % 2 = 1 then a + 1 else a
theorem x_fo_eq {x : Int32} {a : Int} (ha : x = zI a) (h0 : 0 ≤ a) (h1 : a < 1000000) : (if x &&& 1 = 1 then x else x + 1) = zI (x_fo a) := by
  unfold x_fo
  by_cases h : a % 2 = 1
  · rw [if_pos ((x_odd ha h0 h1).mpr h), if_pos h, ha]
  · rw [if_neg (fun q => h ((x_odd ha h0 h1).mp q)), if_neg h, ha]
    exact z_a1 a
theorem x_fe_eq {x : Int32} {a : Int} (ha : x = zI a) (h0 : 0 ≤ a) (h1 : a < 1000000) : (if x &&& 1 = 1 then x + 1 else x) = zI (x_fe a) := by
  unfold x_fe
  by_cases h : a % 2 = 1
  · rw [if_pos ((x_odd ha h0 h1).mpr h), if_pos h, ha]
    exact z_a1 a
  · rw [if_neg (fun q => h ((x_odd ha h0 h1).mp q)), if_neg h, ha]
def x_lp (q : Int) (F : Int → Int32 → Int32) (v : Nat → Int32) (a n : Int) : Nat → Int32 := fun i => if (a + (i : Int)) % 2 = q ∧ a + (i : Int) < n then F (a + (i : Int)) (v i) else v i
theorem x_lp0 {q : Int} {F : Int → Int32 → Int32} {v : Nat → Int32} {a n : Int} (h : n ≤ a + 1) (hq : (a % 2 = q → n ≤ a)) : x_lp q F v a n = v := by
  funext i
  unfold x_lp
  rw [if_neg]
  rintro ⟨h1, h2⟩
  have h3 : (i : Int) = 0 := by omega
  rw [h3] at h1 h2
  have := hq (by simpa using h1)
  omega
theorem x_lp_end {q : Int} {F : Int → Int32 → Int32} {v : Nat → Int32} {a b n : Int} (h1 : b < n) (h2 : n ≤ b + 2) (h3 : n % 2 = q) : x_lp q F v a n = x_lp q F v a (b + 1) := by
  funext i
  unfold x_lp
  by_cases h : (a + (i : Int)) % 2 = q ∧ a + (i : Int) < n
  · rw [if_pos h, if_pos (by omega)]
  · rw [if_neg h, if_neg (by omega)]
theorem x_lp_vl {q : Int} {F : Int → Int32 → Int32} {v : Nat → Int32} {a b n z : Int} (h1 : a < b) (h2 : a - 3 ≤ z) (h3 : z ≤ b + 3) (hq : ¬ z % 2 = q) : x_vl (x_lp q F v a n) a b z = x_vl v a b z := by
  have e1 := x_in_ok h1 h2 h3
  have e2 := x_in_par a b z
  unfold x_vl x_lp
  rw [if_neg]
  rintro ⟨h4, -⟩
  omega
theorem x_lp_P {k : Int32} {F : Int → Int32 → Int32} {v : Nat → Int32} {a b n z : Int} (h1 : a < b) (h2 : a ≤ z) (h3 : z ≤ b) (hq : z % 2 = 1) : x_P k (x_lp 1 F v a n) a b z = x_P k v a b z := by
  unfold x_P
  rw [x_lp_vl h1 (by omega) (by omega) (by omega), x_lp_vl h1 (by omega) (by omega) (by omega), x_lp_vl h1 (by omega) (by omega) (by omega), x_lp_vl h1 (by omega) (by omega) (by omega)]
theorem x_lp_U {k : Int32} {F : Int → Int32 → Int32} {v : Nat → Int32} {a b n z : Int} (h1 : a < b) (h2 : a ≤ z) (h3 : z ≤ b) (hq : z % 2 = 0) : x_U k (x_lp 0 F v a n) a b z = x_U k v a b z := by
  unfold x_U
  rw [x_lp_vl h1 (by omega) (by omega) (by omega), x_lp_vl h1 (by omega) (by omega) (by omega)]
theorem x_lp_s {q : Int} {F : Int → Int32 → Int32} {v : Nat → Int32} {a n : Int} {y : Int32} (h1 : a ≤ n) (hq : n % 2 = q) (hy : F n (x_lp q F v a n (n - a).toNat) = y) : upd (x_lp q F v a n) (n - a).toNat y = x_lp q F v a (n + 2) := by
  have e0 : a + (((n - a).toNat : Nat) : Int) = n := by omega
  have e1 : x_lp q F v a n (n - a).toNat = v (n - a).toNat := by
    unfold x_lp
    rw [if_neg (by omega)]
  rw [e1] at hy
  funext i
  unfold upd
  by_cases h : i = (n - a).toNat
  · rw [if_pos h, h]
    unfold x_lp
    rw [if_pos (by omega), e0, hy]
  · rw [if_neg h]
    unfold x_lp
    by_cases h2 : (a + (i : Int)) % 2 = q ∧ a + (i : Int) < n
    · rw [if_pos h2, if_pos (by omega)]
    · rw [if_neg h2, if_neg (by omega)]
def x_f1 (k : Int32) (v : Nat → Int32) (a b : Int) : Nat → Int32 := x_lp 1 (fun n x => x - x_P k v a b n) v a (b + 1)
def x_f2 (k : Int32) (v : Nat → Int32) (a b : Int) : Nat → Int32 := x_lp 0 (fun n x => x + x_U k (x_f1 k v a b) a b n) (x_f1 k v a b) a (b + 1)
def x_g1 (k : Int32) (v : Nat → Int32) (a b : Int) : Nat → Int32 := x_lp 0 (fun n x => x - x_U k v a b n) v a (b + 1)
def x_g2 (k : Int32) (v : Nat → Int32) (a b : Int) : Nat → Int32 := x_lp 1 (fun n x => x + x_P k (x_g1 k v a b) a b n) (x_g1 k v a b) a (b + 1)
def x_fw (k : Int32) (v : Nat → Int32) (a b : Int) : Nat → Int32 := if a = b then upd v 0 (if a % 2 = 1 then v 0 * 2 else v 0) else x_f2 k v a b
def x_bw (k : Int32) (v : Nat → Int32) (a b : Int) : Nat → Int32 := if a = b then upd v 0 (if a % 2 = 1 then v 0 >>> (1 &&& 31) else v 0) else x_g2 k v a b
section C7
variable {l : Launch} {ad : Nat → Nat} {D : va_G} {cI : ClassId} {sc : Nat → Int32} {ar : Nat → Nat → Int32}
set_option maxRecDepth 100000 in
set_option maxHeartbeats 4000000 in
theorem c_L_prediction (hd : x_dis ad) {a b : Int} (ha : sc 6 = zI a) (hb : sc 7 = zI b) (h0 : 0 ≤ a) (h1 : a < b) (h2 : b ≤ a + 15) (h3 : b ≤ 2000) {n : Int} {k x0 : Int32} (hx : x0 = zI n) (h4 : a ≤ n) (h5 : n ≤ b) : x_Con l M_L_prediction 2 45 ad D cI [.ref (ad 4), .int k, .int x0] sc ar (x_E (some (.int (x_P k (ar 2) a b n))) sc ar) := by
  subst hx
  refine x_intro hd [some (.ref (ad 4)), some (.int k), some (.int (zI n))] (by decide) (Nat.le_of_ble_eq_true rfl) rfl ?_
  intro p e s m args below meth c X
  refine xg_iload_n X (pc := 0) d_L_prediction_0 rfl ?_
  by_cases hk0 : k = 0
  · refine xg_lookup X (pc := 1) (off := 27) (tgt := 28) d_L_prediction_1 rfl (by rw [hk0]; rfl) rfl ?_
    refine xg_aload_n X (pc := 28) d_L_prediction_28 rfl ?_
    refine xg_iload_n X (pc := 29) d_L_prediction_29 rfl ?_
    refine xg_iconst X (pc := 30) (v := 1) d_L_prediction_30 (by decide) ?_
    refine xg_crV2 X (pc := 31) d_L_prediction_31 (c_L_neighbours hd ha hb h0 h1 h2 h3 rfl z_1 h4 h5 (by omega) (by omega)) s_L_40 ⟨_, rfl⟩ rfl ⟨by decide, by decide⟩ (Nat.le_of_ble_eq_true rfl) ?_
    refine xg_iconst X (pc := 34) (v := 1) d_L_prediction_34 (by decide) ?_
    refine xg_ishr X (pc := 35) d_L_prediction_35 ?_
    exact xg_iret X (pc := 36) d_L_prediction_36 rfl (rfl) (⟨by unfold x_P; rw [if_pos hk0], rfl, rfl⟩)
  by_cases hk1 : k = 1
  · refine xg_lookup X (pc := 1) (off := 36) (tgt := 37) d_L_prediction_1 rfl (by rw [hk1]; rfl) rfl ?_
    refine xg_aload_n X (pc := 37) d_L_prediction_37 rfl ?_
    refine xg_iload_n X (pc := 38) d_L_prediction_38 rfl ?_
    refine xg_iconst X (pc := 39) (v := 1) d_L_prediction_39 (by decide) ?_
    refine xg_isub X (pc := 40) d_L_prediction_40 ?_
    refine xg_crV1 X (pc := 41) d_L_prediction_41 (c_L_value hd ha hb h0 h1 h2 h3 (z_s1 n) (by omega) (by omega)) s_L_43 ⟨_, rfl⟩ rfl ⟨by decide, by decide⟩ (Nat.le_of_ble_eq_true rfl) ?_
    exact xg_iret X (pc := 44) d_L_prediction_44 rfl (rfl) (⟨by unfold x_P; rw [if_neg hk0, if_pos hk1], rfl, rfl⟩)
  · refine xg_lookup X (pc := 1) (off := 44) (tgt := 45) d_L_prediction_1 rfl ((lv_osw hk0 rfl).trans (lv_osw hk1 rfl)) rfl ?_
    refine xg_bipush X (pc := 45) (v := 9) d_L_prediction_45 (by decide) ?_
    refine xg_aload_n X (pc := 47) d_L_prediction_47 rfl ?_
    refine xg_iload_n X (pc := 48) d_L_prediction_48 rfl ?_
    refine xg_iconst X (pc := 49) (v := 1) d_L_prediction_49 (by decide) ?_
    refine xg_crV2 X (pc := 50) d_L_prediction_50 (c_L_neighbours hd ha hb h0 h1 h2 h3 rfl z_1 h4 h5 (by omega) (by omega)) s_L_40 ⟨_, rfl⟩ rfl ⟨by decide, by decide⟩ (Nat.le_of_ble_eq_true rfl) ?_
    refine xg_imul X (pc := 53) d_L_prediction_53 ?_
    refine xg_aload_n X (pc := 54) d_L_prediction_54 rfl ?_
    refine xg_iload_n X (pc := 55) d_L_prediction_55 rfl ?_
    refine xg_iconst X (pc := 56) (v := 3) d_L_prediction_56 (by decide) ?_
    refine xg_crV2 X (pc := 57) d_L_prediction_57 (c_L_neighbours hd ha hb h0 h1 h2 h3 rfl z_3 h4 h5 (by omega) (by omega)) s_L_40 ⟨_, rfl⟩ rfl ⟨by decide, by decide⟩ (Nat.le_of_ble_eq_true rfl) ?_
    refine xg_isub X (pc := 60) d_L_prediction_60 ?_
    refine xg_bipush X (pc := 61) (v := 8) d_L_prediction_61 (by decide) ?_
    refine xg_iadd X (pc := 63) d_L_prediction_63 ?_
    refine xg_iconst X (pc := 64) (v := 4) d_L_prediction_64 (by decide) ?_
    refine xg_ishr X (pc := 65) d_L_prediction_65 ?_
    exact xg_iret X (pc := 66) d_L_prediction_66 rfl (rfl) (⟨by unfold x_P; rw [if_neg hk0, if_neg hk1], rfl, rfl⟩)
set_option maxRecDepth 100000 in
set_option maxHeartbeats 4000000 in
theorem c_L_liftForth (hd : x_dis ad) {a b : Int} (ha : sc 6 = zI a) (hb : sc 7 = zI b) (h0 : 0 ≤ a) (h1 : a ≤ b) (h2 : b ≤ a + 15) (h3 : b ≤ 2000) {k : Int32} : x_Con l M_L_liftForth 3 67 ad D cI [.ref (ad 4), .int k] sc ar (x_E none sc (x_ua ar 2 (x_fw k (ar 2) a b))) := by
  refine x_intro hd [some (.ref (ad 4)), some (.int k), none] (by decide) (Nat.le_of_ble_eq_true rfl) rfl ?_
  intro p e s m args below meth c X
  have loop1 : a < b → ∀ (n : Nat) (z : Int), (b + 3 - z).toNat < n → a ≤ z → z ≤ b + 2 → z % 2 = 0 → x_G p l e (x_rm 3 67) s m args below meth c M_L_liftForth ad D cI (x_A ad) 0 0 (x_Q below args s ad D cI (x_E none sc (x_ua ar 2 (x_fw k (ar 2) a b)))) 89 [some (.ref (ad 4)), some (.int k), some (.int (zI z))] [] sc (x_ua ar 2 (x_lp 0 (fun n x => x + x_U k (x_f1 k (ar 2) a b) a b n) (x_f1 k (ar 2) a b) a z)) := by
    intro h1 n
    induction n with
    | zero => intro z h; exact absurd h (Nat.not_lt_zero _)
    | succ n ih =>
      intro z hn hz1 hz2 hzq
      refine xg_iload_n X (pc := 89) d_L_liftForth_89 rfl ?_
      refine xg_aload_n X (pc := 90) d_L_liftForth_90 rfl ?_
      refine xf_L_19 X (pc := 91) rfl d_L_liftForth_91 ?_
      refine xg_icmp_gt X (pc := 94) (tgt := 123) d_L_liftForth_94 rfl (fun h94 => ?_) (fun h94 => ?_)
      · rw [hb, zI_lt b z] at h94
        refine xg_eq rfl (ar' := x_ua ar 2 (x_f2 k (ar 2) a b)) (by unfold x_f2; rw [x_lp_end (b := b) (by omega) (by omega) hzq]) rfl ?_
        exact xg_vret X (pc := 123) d_L_liftForth_123 rfl (⟨rfl, rfl, by unfold x_fw; rw [if_neg (by omega)]⟩)
      · rw [hb, zI_lt b z] at h94
        refine xg_aload_n X (pc := 97) d_L_liftForth_97 rfl ?_
        refine xf_L_9 X (pc := 98) rfl d_L_liftForth_98 ?_
        refine xg_iload_n X (pc := 101) d_L_liftForth_101 rfl ?_
        refine xg_aload_n X (pc := 102) d_L_liftForth_102 rfl ?_
        refine xf_L_15 X (pc := 103) rfl d_L_liftForth_103 ?_
        refine xg_isub X (pc := 106) d_L_liftForth_106 ?_
        refine xg_dup2 X (pc := 107) d_L_liftForth_107 rfl rfl ?_
        refine xa_ld6 X (pc := 108) d_L_liftForth_108 (x_vl_in ha (by omega) (by omega)) ?_
        refine xg_aload_n X (pc := 109) d_L_liftForth_109 rfl ?_
        refine xg_iload_n X (pc := 110) d_L_liftForth_110 rfl ?_
        refine xg_iload_n X (pc := 111) d_L_liftForth_111 rfl ?_
        refine xg_crV2 X (pc := 112) d_L_liftForth_112 (c_L_update hd ha hb h0 h1 h2 h3 rfl (by omega) (by omega)) s_L_37 ⟨_, rfl⟩ rfl ⟨by decide, by decide⟩ (Nat.le_of_ble_eq_true rfl) ?_
        refine xg_iadd X (pc := 115) d_L_liftForth_115 ?_
        refine xa_st6 X (pc := 116) d_L_liftForth_116 (x_vl_in ha (by omega) (by omega)) ?_
        refine xg_iinc X (pc := 117) d_L_liftForth_117 rfl (x_inc (by decide : Int32.ofInt (2) = 2) _) (by decide) rfl ?_
        refine xg_goto X (pc := 120) (tgt := 89) d_L_liftForth_120 rfl ?_
        refine xg_weak [some (.ref (ad 4)), some (.int k), some (.int (zI (z + 2)))] ⟨rfl, rfl, by rw [← z_a2], trivial⟩ ?_
        refine xg_eq rfl (ar' := x_ua ar 2 (x_lp 0 (fun n x => x + x_U k (x_f1 k (ar 2) a b) a b n) (x_f1 k (ar 2) a b) a (z + 2))) ?_ rfl (ih (z + 2) (by omega) (by omega) (by omega) (by omega))
        rw [x_ua_ua, x_ua_at, x_vl_cl ha (by omega) (by omega), x_lp_U h1 (by omega) (by omega) hzq]
        exact congrArg _ (x_lp_s (by omega) hzq rfl)
  have loop0 : a < b → x_G p l e (x_rm 3 67) s m args below meth c M_L_liftForth ad D cI (x_A ad) 0 0 (x_Q below args s ad D cI (x_E none sc (x_ua ar 2 (x_fw k (ar 2) a b)))) 84 [some (.ref (ad 4)), some (.int k), none] [] sc (x_ua ar 2 (x_f1 k (ar 2) a b)) → ∀ (n : Nat) (z : Int), (b + 3 - z).toNat < n → a ≤ z → z ≤ b + 2 → z % 2 = 1 → x_G p l e (x_rm 3 67) s m args below meth c M_L_liftForth ad D cI (x_A ad) 0 0 (x_Q below args s ad D cI (x_E none sc (x_ua ar 2 (x_fw k (ar 2) a b)))) 50 [some (.ref (ad 4)), some (.int k), some (.int (zI z))] [] sc (x_ua ar 2 (x_lp 1 (fun n x => x - x_P k (ar 2) a b n) (ar 2) a z)) := by
    intro h1 cont n
    induction n with
    | zero => intro z h; exact absurd h (Nat.not_lt_zero _)
    | succ n ih =>
      intro z hn hz1 hz2 hzq
      refine xg_iload_n X (pc := 50) d_L_liftForth_50 rfl ?_
      refine xg_aload_n X (pc := 51) d_L_liftForth_51 rfl ?_
      refine xf_L_19 X (pc := 52) rfl d_L_liftForth_52 ?_
      refine xg_icmp_gt X (pc := 55) (tgt := 84) d_L_liftForth_55 rfl (fun h55 => ?_) (fun h55 => ?_)
      · rw [hb, zI_lt b z] at h55
        refine xg_eq rfl (ar' := x_ua ar 2 (x_f1 k (ar 2) a b)) (by unfold x_f1; rw [x_lp_end (b := b) (by omega) (by omega) hzq]) rfl ?_
        exact xg_weak [some (.ref (ad 4)), some (.int k), none] ⟨rfl, rfl, trivial⟩ cont
      · rw [hb, zI_lt b z] at h55
        refine xg_aload_n X (pc := 58) d_L_liftForth_58 rfl ?_
        refine xf_L_9 X (pc := 59) rfl d_L_liftForth_59 ?_
        refine xg_iload_n X (pc := 62) d_L_liftForth_62 rfl ?_
        refine xg_aload_n X (pc := 63) d_L_liftForth_63 rfl ?_
        refine xf_L_15 X (pc := 64) rfl d_L_liftForth_64 ?_
        refine xg_isub X (pc := 67) d_L_liftForth_67 ?_
        refine xg_dup2 X (pc := 68) d_L_liftForth_68 rfl rfl ?_
        refine xa_ld6 X (pc := 69) d_L_liftForth_69 (x_vl_in ha (by omega) (by omega)) ?_
        refine xg_aload_n X (pc := 70) d_L_liftForth_70 rfl ?_
        refine xg_iload_n X (pc := 71) d_L_liftForth_71 rfl ?_
        refine xg_iload_n X (pc := 72) d_L_liftForth_72 rfl ?_
        refine xg_crV2 X (pc := 73) d_L_liftForth_73 (c_L_prediction hd ha hb h0 h1 h2 h3 rfl (by omega) (by omega)) s_L_30 ⟨_, rfl⟩ rfl ⟨by decide, by decide⟩ (Nat.le_of_ble_eq_true rfl) ?_
        refine xg_isub X (pc := 76) d_L_liftForth_76 ?_
        refine xa_st6 X (pc := 77) d_L_liftForth_77 (x_vl_in ha (by omega) (by omega)) ?_
        refine xg_iinc X (pc := 78) d_L_liftForth_78 rfl (x_inc (by decide : Int32.ofInt (2) = 2) _) (by decide) rfl ?_
        refine xg_goto X (pc := 81) (tgt := 50) d_L_liftForth_81 rfl ?_
        refine xg_weak [some (.ref (ad 4)), some (.int k), some (.int (zI (z + 2)))] ⟨rfl, rfl, by rw [← z_a2], trivial⟩ ?_
        refine xg_eq rfl (ar' := x_ua ar 2 (x_lp 1 (fun n x => x - x_P k (ar 2) a b n) (ar 2) a (z + 2))) ?_ rfl (ih (z + 2) (by omega) (by omega) (by omega) (by omega))
        rw [x_ua_ua, x_ua_at, x_vl_cl ha (by omega) (by omega), x_lp_P h1 (by omega) (by omega) hzq]
        exact congrArg _ (x_lp_s (by omega) hzq rfl)
  have cont : a < b → x_G p l e (x_rm 3 67) s m args below meth c M_L_liftForth ad D cI (x_A ad) 0 0 (x_Q below args s ad D cI (x_E none sc (x_ua ar 2 (x_fw k (ar 2) a b)))) 84 [some (.ref (ad 4)), some (.int k), none] [] sc (x_ua ar 2 (x_f1 k (ar 2) a b)) := by
    intro h1
    refine xg_aload_n X (pc := 84) d_L_liftForth_84 rfl ?_
    refine xg_crV0 X (pc := 85) d_L_liftForth_85 (c_L_firstEven hd) s_L_34 ⟨_, rfl⟩ rfl ⟨by decide, by decide⟩ (Nat.le_of_ble_eq_true rfl) ?_
    refine xg_istore_n X (pc := 88) d_L_liftForth_88 (by decide) rfl ?_
    refine xg_weak [some (.ref (ad 4)), some (.int k), some (.int (zI (x_fe a)))] ⟨rfl, rfl, by rw [x_fe_eq ha h0 (by omega)], trivial⟩ ?_
    refine xg_eq rfl (ar' := x_ua ar 2 (x_lp 0 (fun n x => x + x_U k (x_f1 k (ar 2) a b) a b n) (x_f1 k (ar 2) a b) a (x_fe a))) ?_ rfl (loop1 h1 _ (x_fe a) (Nat.lt_succ_self _) (by unfold x_fe; split <;> omega) (by unfold x_fe; split <;> omega) (by unfold x_fe; split <;> omega))
    rw [x_lp0 (by unfold x_fe; split <;> omega) (by unfold x_fe; split <;> omega)]
  refine xg_aload_n X (pc := 0) d_L_liftForth_0 rfl ?_
  refine xf_L_15 X (pc := 1) rfl d_L_liftForth_1 ?_
  refine xg_aload_n X (pc := 4) d_L_liftForth_4 rfl ?_
  refine xf_L_19 X (pc := 5) rfl d_L_liftForth_5 ?_
  refine xg_icmp_ne X (pc := 8) (tgt := 45) d_L_liftForth_8 rfl (fun h8 => ?_) (fun h8 => ?_)
  · rw [ha, hb, zI_eq a b] at h8
    have h1 : a < b := by omega
    refine xg_aload_n X (pc := 45) d_L_liftForth_45 rfl ?_
    refine xg_crV0 X (pc := 46) d_L_liftForth_46 (c_L_firstOdd hd) s_L_26 ⟨_, rfl⟩ rfl ⟨by decide, by decide⟩ (Nat.le_of_ble_eq_true rfl) ?_
    refine xg_istore_n X (pc := 49) d_L_liftForth_49 (by decide) rfl ?_
    have cont := cont h1
    refine xg_weak [some (.ref (ad 4)), some (.int k), some (.int (zI (x_fo a)))] ⟨rfl, rfl, by rw [x_fo_eq ha h0 (by omega)], trivial⟩ ?_
    refine xg_eq rfl (ar' := x_ua ar 2 (x_lp 1 (fun n x => x - x_P k (ar 2) a b n) (ar 2) a (x_fo a))) ?_ rfl (loop0 h1 cont _ (x_fo a) (Nat.lt_succ_self _) (by unfold x_fo; split <;> omega) (by unfold x_fo; split <;> omega) (by unfold x_fo; split <;> omega))
    rw [x_lp0 (by unfold x_fo; split <;> omega) (by unfold x_fo; split <;> omega), x_ua_id]
  · rw [ha, hb, zI_eq a b] at h8
    refine xg_aload_n X (pc := 11) d_L_liftForth_11 rfl ?_
    refine xf_L_9 X (pc := 12) rfl d_L_liftForth_12 ?_
    refine xg_iconst X (pc := 15) (v := 0) d_L_liftForth_15 (by decide) ?_
    refine xg_aload_n X (pc := 16) d_L_liftForth_16 rfl ?_
    refine xf_L_15 X (pc := 17) rfl d_L_liftForth_17 ?_
    refine xg_crS1 X (pc := 20) d_L_liftForth_20 (c_L_isOdd hd) s_L_22 ⟨by decide, by decide⟩ (Nat.le_of_ble_eq_true rfl) ?_
    refine xg_if_eq X (pc := 23) (tgt := 37) d_L_liftForth_23 rfl (fun h23 => ?_) (fun h23 => ?_)
    · replace h23 := x_b0 h23
      rw [x_odd ha h0 (by omega)] at h23
      refine xg_aload_n X (pc := 37) d_L_liftForth_37 rfl ?_
      refine xf_L_9 X (pc := 38) rfl d_L_liftForth_38 ?_
      refine xg_iconst X (pc := 41) (v := 0) d_L_liftForth_41 (by decide) ?_
      refine xa_ld6 X (pc := 42) d_L_liftForth_42 ((show vp_in (zI 0) 16 from zI_in (by omega) (by omega) (by decide))) ?_
      refine xa_st6 X (pc := 43) d_L_liftForth_43 ((show vp_in (zI 0) 16 from zI_in (by omega) (by omega) (by decide))) ?_
      exact xg_vret X (pc := 44) d_L_liftForth_44 rfl (⟨rfl, rfl, by unfold x_fw; rw [if_pos h8]; (first | rw [if_pos h23] | rw [if_neg h23]) <;> rfl⟩)
    · replace h23 := x_bn h23
      rw [x_odd ha h0 (by omega)] at h23
      refine xg_aload_n X (pc := 26) d_L_liftForth_26 rfl ?_
      refine xf_L_9 X (pc := 27) rfl d_L_liftForth_27 ?_
      refine xg_iconst X (pc := 30) (v := 0) d_L_liftForth_30 (by decide) ?_
      refine xa_ld6 X (pc := 31) d_L_liftForth_31 ((show vp_in (zI 0) 16 from zI_in (by omega) (by omega) (by decide))) ?_
      refine xg_iconst X (pc := 32) (v := 2) d_L_liftForth_32 (by decide) ?_
      refine xg_imul X (pc := 33) d_L_liftForth_33 ?_
      refine xg_goto X (pc := 34) (tgt := 43) d_L_liftForth_34 rfl ?_
      refine xa_st6 X (pc := 43) d_L_liftForth_43 ((show vp_in (zI 0) 16 from zI_in (by omega) (by omega) (by decide))) ?_
      exact xg_vret X (pc := 44) d_L_liftForth_44 rfl (⟨rfl, rfl, by unfold x_fw; rw [if_pos h8]; (first | rw [if_pos h23] | rw [if_neg h23]) <;> rfl⟩)
set_option maxRecDepth 100000 in
set_option maxHeartbeats 4000000 in
theorem c_L_liftBack (hd : x_dis ad) {a b : Int} (ha : sc 6 = zI a) (hb : sc 7 = zI b) (h0 : 0 ≤ a) (h1 : a ≤ b) (h2 : b ≤ a + 15) (h3 : b ≤ 2000) {k : Int32} : x_Con l M_L_liftBack 3 67 ad D cI [.ref (ad 4), .int k] sc ar (x_E none sc (x_ua ar 2 (x_bw k (ar 2) a b))) := by
  refine x_intro hd [some (.ref (ad 4)), some (.int k), none] (by decide) (Nat.le_of_ble_eq_true rfl) rfl ?_
  intro p e s m args below meth c X
  have loop1 : a < b → ∀ (n : Nat) (z : Int), (b + 3 - z).toNat < n → a ≤ z → z ≤ b + 2 → z % 2 = 1 → x_G p l e (x_rm 3 67) s m args below meth c M_L_liftBack ad D cI (x_A ad) 0 0 (x_Q below args s ad D cI (x_E none sc (x_ua ar 2 (x_bw k (ar 2) a b)))) 89 [some (.ref (ad 4)), some (.int k), some (.int (zI z))] [] sc (x_ua ar 2 (x_lp 1 (fun n x => x + x_P k (x_g1 k (ar 2) a b) a b n) (x_g1 k (ar 2) a b) a z)) := by
    intro h1 n
    induction n with
    | zero => intro z h; exact absurd h (Nat.not_lt_zero _)
    | succ n ih =>
      intro z hn hz1 hz2 hzq
      refine xg_iload_n X (pc := 89) d_L_liftBack_89 rfl ?_
      refine xg_aload_n X (pc := 90) d_L_liftBack_90 rfl ?_
      refine xf_L_19 X (pc := 91) rfl d_L_liftBack_91 ?_
      refine xg_icmp_gt X (pc := 94) (tgt := 123) d_L_liftBack_94 rfl (fun h94 => ?_) (fun h94 => ?_)
      · rw [hb, zI_lt b z] at h94
        refine xg_eq rfl (ar' := x_ua ar 2 (x_g2 k (ar 2) a b)) (by unfold x_g2; rw [x_lp_end (b := b) (by omega) (by omega) hzq]) rfl ?_
        exact xg_vret X (pc := 123) d_L_liftBack_123 rfl (⟨rfl, rfl, by unfold x_bw; rw [if_neg (by omega)]⟩)
      · rw [hb, zI_lt b z] at h94
        refine xg_aload_n X (pc := 97) d_L_liftBack_97 rfl ?_
        refine xf_L_9 X (pc := 98) rfl d_L_liftBack_98 ?_
        refine xg_iload_n X (pc := 101) d_L_liftBack_101 rfl ?_
        refine xg_aload_n X (pc := 102) d_L_liftBack_102 rfl ?_
        refine xf_L_15 X (pc := 103) rfl d_L_liftBack_103 ?_
        refine xg_isub X (pc := 106) d_L_liftBack_106 ?_
        refine xg_dup2 X (pc := 107) d_L_liftBack_107 rfl rfl ?_
        refine xa_ld6 X (pc := 108) d_L_liftBack_108 (x_vl_in ha (by omega) (by omega)) ?_
        refine xg_aload_n X (pc := 109) d_L_liftBack_109 rfl ?_
        refine xg_iload_n X (pc := 110) d_L_liftBack_110 rfl ?_
        refine xg_iload_n X (pc := 111) d_L_liftBack_111 rfl ?_
        refine xg_crV2 X (pc := 112) d_L_liftBack_112 (c_L_prediction hd ha hb h0 h1 h2 h3 rfl (by omega) (by omega)) s_L_30 ⟨_, rfl⟩ rfl ⟨by decide, by decide⟩ (Nat.le_of_ble_eq_true rfl) ?_
        refine xg_iadd X (pc := 115) d_L_liftBack_115 ?_
        refine xa_st6 X (pc := 116) d_L_liftBack_116 (x_vl_in ha (by omega) (by omega)) ?_
        refine xg_iinc X (pc := 117) d_L_liftBack_117 rfl (x_inc (by decide : Int32.ofInt (2) = 2) _) (by decide) rfl ?_
        refine xg_goto X (pc := 120) (tgt := 89) d_L_liftBack_120 rfl ?_
        refine xg_weak [some (.ref (ad 4)), some (.int k), some (.int (zI (z + 2)))] ⟨rfl, rfl, by rw [← z_a2], trivial⟩ ?_
        refine xg_eq rfl (ar' := x_ua ar 2 (x_lp 1 (fun n x => x + x_P k (x_g1 k (ar 2) a b) a b n) (x_g1 k (ar 2) a b) a (z + 2))) ?_ rfl (ih (z + 2) (by omega) (by omega) (by omega) (by omega))
        rw [x_ua_ua, x_ua_at, x_vl_cl ha (by omega) (by omega), x_lp_P h1 (by omega) (by omega) hzq]
        exact congrArg _ (x_lp_s (by omega) hzq rfl)
  have loop0 : a < b → x_G p l e (x_rm 3 67) s m args below meth c M_L_liftBack ad D cI (x_A ad) 0 0 (x_Q below args s ad D cI (x_E none sc (x_ua ar 2 (x_bw k (ar 2) a b)))) 84 [some (.ref (ad 4)), some (.int k), none] [] sc (x_ua ar 2 (x_g1 k (ar 2) a b)) → ∀ (n : Nat) (z : Int), (b + 3 - z).toNat < n → a ≤ z → z ≤ b + 2 → z % 2 = 0 → x_G p l e (x_rm 3 67) s m args below meth c M_L_liftBack ad D cI (x_A ad) 0 0 (x_Q below args s ad D cI (x_E none sc (x_ua ar 2 (x_bw k (ar 2) a b)))) 50 [some (.ref (ad 4)), some (.int k), some (.int (zI z))] [] sc (x_ua ar 2 (x_lp 0 (fun n x => x - x_U k (ar 2) a b n) (ar 2) a z)) := by
    intro h1 cont n
    induction n with
    | zero => intro z h; exact absurd h (Nat.not_lt_zero _)
    | succ n ih =>
      intro z hn hz1 hz2 hzq
      refine xg_iload_n X (pc := 50) d_L_liftBack_50 rfl ?_
      refine xg_aload_n X (pc := 51) d_L_liftBack_51 rfl ?_
      refine xf_L_19 X (pc := 52) rfl d_L_liftBack_52 ?_
      refine xg_icmp_gt X (pc := 55) (tgt := 84) d_L_liftBack_55 rfl (fun h55 => ?_) (fun h55 => ?_)
      · rw [hb, zI_lt b z] at h55
        refine xg_eq rfl (ar' := x_ua ar 2 (x_g1 k (ar 2) a b)) (by unfold x_g1; rw [x_lp_end (b := b) (by omega) (by omega) hzq]) rfl ?_
        exact xg_weak [some (.ref (ad 4)), some (.int k), none] ⟨rfl, rfl, trivial⟩ cont
      · rw [hb, zI_lt b z] at h55
        refine xg_aload_n X (pc := 58) d_L_liftBack_58 rfl ?_
        refine xf_L_9 X (pc := 59) rfl d_L_liftBack_59 ?_
        refine xg_iload_n X (pc := 62) d_L_liftBack_62 rfl ?_
        refine xg_aload_n X (pc := 63) d_L_liftBack_63 rfl ?_
        refine xf_L_15 X (pc := 64) rfl d_L_liftBack_64 ?_
        refine xg_isub X (pc := 67) d_L_liftBack_67 ?_
        refine xg_dup2 X (pc := 68) d_L_liftBack_68 rfl rfl ?_
        refine xa_ld6 X (pc := 69) d_L_liftBack_69 (x_vl_in ha (by omega) (by omega)) ?_
        refine xg_aload_n X (pc := 70) d_L_liftBack_70 rfl ?_
        refine xg_iload_n X (pc := 71) d_L_liftBack_71 rfl ?_
        refine xg_iload_n X (pc := 72) d_L_liftBack_72 rfl ?_
        refine xg_crV2 X (pc := 73) d_L_liftBack_73 (c_L_update hd ha hb h0 h1 h2 h3 rfl (by omega) (by omega)) s_L_37 ⟨_, rfl⟩ rfl ⟨by decide, by decide⟩ (Nat.le_of_ble_eq_true rfl) ?_
        refine xg_isub X (pc := 76) d_L_liftBack_76 ?_
        refine xa_st6 X (pc := 77) d_L_liftBack_77 (x_vl_in ha (by omega) (by omega)) ?_
        refine xg_iinc X (pc := 78) d_L_liftBack_78 rfl (x_inc (by decide : Int32.ofInt (2) = 2) _) (by decide) rfl ?_
        refine xg_goto X (pc := 81) (tgt := 50) d_L_liftBack_81 rfl ?_
        refine xg_weak [some (.ref (ad 4)), some (.int k), some (.int (zI (z + 2)))] ⟨rfl, rfl, by rw [← z_a2], trivial⟩ ?_
        refine xg_eq rfl (ar' := x_ua ar 2 (x_lp 0 (fun n x => x - x_U k (ar 2) a b n) (ar 2) a (z + 2))) ?_ rfl (ih (z + 2) (by omega) (by omega) (by omega) (by omega))
        rw [x_ua_ua, x_ua_at, x_vl_cl ha (by omega) (by omega), x_lp_U h1 (by omega) (by omega) hzq]
        exact congrArg _ (x_lp_s (by omega) hzq rfl)
  have cont : a < b → x_G p l e (x_rm 3 67) s m args below meth c M_L_liftBack ad D cI (x_A ad) 0 0 (x_Q below args s ad D cI (x_E none sc (x_ua ar 2 (x_bw k (ar 2) a b)))) 84 [some (.ref (ad 4)), some (.int k), none] [] sc (x_ua ar 2 (x_g1 k (ar 2) a b)) := by
    intro h1
    refine xg_aload_n X (pc := 84) d_L_liftBack_84 rfl ?_
    refine xg_crV0 X (pc := 85) d_L_liftBack_85 (c_L_firstOdd hd) s_L_26 ⟨_, rfl⟩ rfl ⟨by decide, by decide⟩ (Nat.le_of_ble_eq_true rfl) ?_
    refine xg_istore_n X (pc := 88) d_L_liftBack_88 (by decide) rfl ?_
    refine xg_weak [some (.ref (ad 4)), some (.int k), some (.int (zI (x_fo a)))] ⟨rfl, rfl, by rw [x_fo_eq ha h0 (by omega)], trivial⟩ ?_
    refine xg_eq rfl (ar' := x_ua ar 2 (x_lp 1 (fun n x => x + x_P k (x_g1 k (ar 2) a b) a b n) (x_g1 k (ar 2) a b) a (x_fo a))) ?_ rfl (loop1 h1 _ (x_fo a) (Nat.lt_succ_self _) (by unfold x_fo; split <;> omega) (by unfold x_fo; split <;> omega) (by unfold x_fo; split <;> omega))
    rw [x_lp0 (by unfold x_fo; split <;> omega) (by unfold x_fo; split <;> omega)]
  refine xg_aload_n X (pc := 0) d_L_liftBack_0 rfl ?_
  refine xf_L_15 X (pc := 1) rfl d_L_liftBack_1 ?_
  refine xg_aload_n X (pc := 4) d_L_liftBack_4 rfl ?_
  refine xf_L_19 X (pc := 5) rfl d_L_liftBack_5 ?_
  refine xg_icmp_ne X (pc := 8) (tgt := 45) d_L_liftBack_8 rfl (fun h8 => ?_) (fun h8 => ?_)
  · rw [ha, hb, zI_eq a b] at h8
    have h1 : a < b := by omega
    refine xg_aload_n X (pc := 45) d_L_liftBack_45 rfl ?_
    refine xg_crV0 X (pc := 46) d_L_liftBack_46 (c_L_firstEven hd) s_L_34 ⟨_, rfl⟩ rfl ⟨by decide, by decide⟩ (Nat.le_of_ble_eq_true rfl) ?_
    refine xg_istore_n X (pc := 49) d_L_liftBack_49 (by decide) rfl ?_
    have cont := cont h1
    refine xg_weak [some (.ref (ad 4)), some (.int k), some (.int (zI (x_fe a)))] ⟨rfl, rfl, by rw [x_fe_eq ha h0 (by omega)], trivial⟩ ?_
    refine xg_eq rfl (ar' := x_ua ar 2 (x_lp 0 (fun n x => x - x_U k (ar 2) a b n) (ar 2) a (x_fe a))) ?_ rfl (loop0 h1 cont _ (x_fe a) (Nat.lt_succ_self _) (by unfold x_fe; split <;> omega) (by unfold x_fe; split <;> omega) (by unfold x_fe; split <;> omega))
    rw [x_lp0 (by unfold x_fe; split <;> omega) (by unfold x_fe; split <;> omega), x_ua_id]
  · rw [ha, hb, zI_eq a b] at h8
    refine xg_aload_n X (pc := 11) d_L_liftBack_11 rfl ?_
    refine xf_L_9 X (pc := 12) rfl d_L_liftBack_12 ?_
    refine xg_iconst X (pc := 15) (v := 0) d_L_liftBack_15 (by decide) ?_
    refine xg_aload_n X (pc := 16) d_L_liftBack_16 rfl ?_
    refine xf_L_15 X (pc := 17) rfl d_L_liftBack_17 ?_
    refine xg_crS1 X (pc := 20) d_L_liftBack_20 (c_L_isOdd hd) s_L_22 ⟨by decide, by decide⟩ (Nat.le_of_ble_eq_true rfl) ?_
    refine xg_if_eq X (pc := 23) (tgt := 37) d_L_liftBack_23 rfl (fun h23 => ?_) (fun h23 => ?_)
    · replace h23 := x_b0 h23
      rw [x_odd ha h0 (by omega)] at h23
      refine xg_aload_n X (pc := 37) d_L_liftBack_37 rfl ?_
      refine xf_L_9 X (pc := 38) rfl d_L_liftBack_38 ?_
      refine xg_iconst X (pc := 41) (v := 0) d_L_liftBack_41 (by decide) ?_
      refine xa_ld6 X (pc := 42) d_L_liftBack_42 ((show vp_in (zI 0) 16 from zI_in (by omega) (by omega) (by decide))) ?_
      refine xa_st6 X (pc := 43) d_L_liftBack_43 ((show vp_in (zI 0) 16 from zI_in (by omega) (by omega) (by decide))) ?_
      exact xg_vret X (pc := 44) d_L_liftBack_44 rfl (⟨rfl, rfl, by unfold x_bw; rw [if_pos h8]; (first | rw [if_pos h23] | rw [if_neg h23]) <;> rfl⟩)
    · replace h23 := x_bn h23
      rw [x_odd ha h0 (by omega)] at h23
      refine xg_aload_n X (pc := 26) d_L_liftBack_26 rfl ?_
      refine xf_L_9 X (pc := 27) rfl d_L_liftBack_27 ?_
      refine xg_iconst X (pc := 30) (v := 0) d_L_liftBack_30 (by decide) ?_
      refine xa_ld6 X (pc := 31) d_L_liftBack_31 ((show vp_in (zI 0) 16 from zI_in (by omega) (by omega) (by decide))) ?_
      refine xg_iconst X (pc := 32) (v := 1) d_L_liftBack_32 (by decide) ?_
      refine xg_ishr X (pc := 33) d_L_liftBack_33 ?_
      refine xg_goto X (pc := 34) (tgt := 43) d_L_liftBack_34 rfl ?_
      refine xa_st6 X (pc := 43) d_L_liftBack_43 ((show vp_in (zI 0) 16 from zI_in (by omega) (by omega) (by decide))) ?_
      exact xg_vret X (pc := 44) d_L_liftBack_44 rfl (⟨rfl, rfl, by unfold x_bw; rw [if_pos h8]; (first | rw [if_pos h23] | rw [if_neg h23]) <;> rfl⟩)
end C7
end
section
def x_tf (cb : Nat → Bool) (g : Int32 → Int32) (f : Nat → Int32) (k : Nat) : Nat → Int32 := fun i => if i < k ∧ cb i = true then g (f i) else f i
def x_tc (cb : Nat → Bool) (g : Int32 → Int32) (f : Nat → Int32) : Nat → Int32
  | 0 => 0
  | k + 1 => x_tc cb g f k + (if cb k = true ∧ ¬ f k = 0 ∧ g (f k) = 0 then 1 else 0)
section TN
variable {cb : Nat → Bool} {g : Int32 → Int32} {f : Nat → Int32} {k : Nat}
theorem x_tf0 : x_tf cb g f 0 = f := by
  funext i
  unfold x_tf
  rw [if_neg (fun h => absurd h.1 (Nat.not_lt_zero i))]
theorem x_tf_at : x_tf cb g f k k = f k := if_neg (fun h => absurd h.1 (Nat.lt_irrefl k))
theorem x_tf_n (h : ¬ cb k = true) : x_tf cb g f k = x_tf cb g f (k + 1) := by
  funext i
  unfold x_tf
  by_cases h2 : i < k ∧ cb i = true
  · rw [if_pos h2, if_pos ⟨by omega, h2.2⟩]
  · rw [if_neg h2, if_neg]
    rintro ⟨h3, h4⟩
    by_cases h5 : i = k
    · rw [h5] at h4; exact h h4
    · exact h2 ⟨by omega, h4⟩
theorem x_tf_y (h : cb k = true) : upd (x_tf cb g f k) k (g (f k)) = x_tf cb g f (k + 1) := by
  funext i
  unfold upd
  by_cases h5 : i = k
  · rw [if_pos h5, h5]
    unfold x_tf
    rw [if_pos ⟨Nat.lt_succ_self k, h⟩]
  · rw [if_neg h5]
    unfold x_tf
    by_cases h2 : i < k ∧ cb i = true
    · rw [if_pos h2, if_pos ⟨by omega, h2.2⟩]
    · rw [if_neg h2, if_neg]
      rintro ⟨h3, h4⟩
      exact h2 ⟨by omega, h4⟩
theorem x_tc_n (h : ¬ cb k = true) : x_tc cb g f (k + 1) = x_tc cb g f k := by
  show _ + (if _ then _ else _) = _
  rw [if_neg (fun q => h q.1), Int32.add_zero]
theorem x_tc_z (h : f k = 0) : x_tc cb g f (k + 1) = x_tc cb g f k + 0 := by
  show _ + (if _ then _ else _) = _
  rw [if_neg (fun q => q.2.1 h)]
theorem x_tc_k (h : ¬ g (f k) = 0) : x_tc cb g f (k + 1) = x_tc cb g f k + 0 := by
  show _ + (if _ then _ else _) = _
  rw [if_neg (fun q => h q.2.2)]
theorem x_tc_v (h1 : cb k = true) (h2 : ¬ f k = 0) (h3 : g (f k) = 0) : x_tc cb g f (k + 1) = x_tc cb g f k + 1 := by
  show _ + (if _ then _ else _) = _
  rw [if_pos ⟨h1, h2, h3⟩]
end TN
def x_ws (cb : Nat → Bool) (f : Nat → Int32) (b : Nat) : Nat → Int64
  | 0 => 0
  | k + 1 => x_ws cb f b k + (if cb (b + k) = true then x_am (f (b + k)) else 0)
theorem x_ws_y {cb : Nat → Bool} {f : Nat → Int32} {b k : Nat} (h : cb (b + k) = true) : x_ws cb f b (k + 1) = x_ws cb f b k + x_am (f (b + k)) := by
  show _ + (if _ then _ else _) = _
  rw [if_pos h]
theorem x_ws_n {cb : Nat → Bool} {f : Nat → Int32} {b k : Nat} (h : ¬ cb (b + k) = true) : x_ws cb f b (k + 1) = x_ws cb f b k := by
  show _ + (if _ then _ else _) = _
  rw [if_neg h, Int64.add_zero]
theorem x_t0 {t : Int32} (h1 : ¬ t < 1) : ¬ t.toInt64 = 0 := by
  intro h
  have e : t.toInt64.toInt = 0 := by rw [h]; rfl
  rw [Int32.toInt_toInt64] at e
  apply h1
  rw [Int32.lt_iff_toInt_lt, e]
  decide
theorem x_plq {x : Int32} (h : x_pl x) : ∃ q : Nat, q < 3 ∧ x = nI q := by
  obtain ⟨j, h1, h2⟩ := nI_of h.1
  refine ⟨j, ?_, h2⟩
  have := h.2
  rw [h2] at this
  exact Nat.lt_of_not_le fun q => this ((nI_leI (a := 3) (by decide) h1).mpr q)
section C8
variable {l : Launch} {ad : Nat → Nat} {D : va_G} {cI : ClassId} {sc : Nat → Int32} {ar : Nat → Nat → Int32}
set_option maxRecDepth 100000 in
set_option maxHeartbeats 4000000 in
theorem c_T_thin (hd : x_dis ad) {d o t : Int32} : x_Con l M_T_thin 3 66 ad D cI [.ref (ad 0), .int d, .int o, .int t] sc ar (fun r sc2 ar2 => if (¬ d < 1 ∧ ¬ sc 0 < d) ∧ (¬ o < 0 ∧ ¬ 4 ≤ o) ∧ ¬ t < 1 ∧ t ≤ 32767 ∧ (¬ o = 0 ∨ d = sc 0) then x_E (some (.int (x_tc (fun i => decide (x_os sc (nI i) d o)) (fun x => x_th x t) (ar 0) 768))) sc (x_ua ar 0 (x_tf (fun i => decide (x_os sc (nI i) d o)) (fun x => x_th x t) (ar 0) 768)) r sc2 ar2 else x_E (some (.int (-1))) sc ar r sc2 ar2) := by
  refine x_intro hd [some (.ref (ad 0)), some (.int d), some (.int o), some (.int t), none, none, none] (by decide) (Nat.le_of_ble_eq_true rfl) rfl ?_
  intro p e s m args below meth c X
  have loop : (¬ d < 1 ∧ ¬ sc 0 < d) ∧ (¬ o < 0 ∧ ¬ 4 ≤ o) ∧ ¬ t < 1 ∧ t ≤ 32767 ∧ (¬ o = 0 ∨ d = sc 0) → ∀ n k : Nat, 768 - k < n → k ≤ 768 → x_G p l e (x_rm 3 66) s m args below meth c M_T_thin ad D cI (x_A ad) 0 0 (x_Q below args s ad D cI (fun r sc2 ar2 => if (¬ d < 1 ∧ ¬ sc 0 < d) ∧ (¬ o < 0 ∧ ¬ 4 ≤ o) ∧ ¬ t < 1 ∧ t ≤ 32767 ∧ (¬ o = 0 ∨ d = sc 0) then x_E (some (.int (x_tc (fun i => decide (x_os sc (nI i) d o)) (fun x => x_th x t) (ar 0) 768))) sc (x_ua ar 0 (x_tf (fun i => decide (x_os sc (nI i) d o)) (fun x => x_th x t) (ar 0) 768)) r sc2 ar2 else x_E (some (.int (-1))) sc ar r sc2 ar2)) 49 [some (.ref (ad 0)), some (.int d), some (.int o), some (.int t), some (.int (x_tc (fun i => decide (x_os sc (nI i) d o)) (fun x => x_th x t) (ar 0) k)), some (.int (nI k)), none] [] sc (x_ua ar 0 (x_tf (fun i => decide (x_os sc (nI i) d o)) (fun x => x_th x t) (ar 0) k)) := by
    intro hc n
    induction n with
    | zero => intro k h _; exact absurd h (Nat.not_lt_zero _)
    | succ n ih =>
      intro k hn hk
      refine xg_iload X (pc := 49) d_T_thin_49 rfl ?_
      refine xg_aload_n X (pc := 51) d_T_thin_51 rfl ?_
      refine xf_T_9 X (pc := 52) rfl d_T_thin_52 ?_
      refine xa_len1 X (pc := 55) d_T_thin_55 ?_
      refine xg_icmp_ge X (pc := 56) (tgt := 123) d_T_thin_56 rfl (fun h56 => ?_) (fun h56 => ?_)
      · have hk2 : k = 768 := Nat.le_antisymm hk (x_ge (n := 768) rfl (by decide) (by omega) h56)
        subst hk2
        refine xg_iload X (pc := 123) d_T_thin_123 rfl ?_
        exact xg_iret X (pc := 125) d_T_thin_125 rfl (rfl) (by show ite _ _ _; rw [if_pos hc]; exact ⟨rfl, rfl, rfl⟩)
      · have hk3 : k < 768 := x_nge (n := 768) rfl (by decide) (by omega) h56
        have hk4 : k < 2 ^ 31 := by omega
        refine xg_aload_n X (pc := 59) d_T_thin_59 rfl ?_
        refine xg_iload X (pc := 60) d_T_thin_60 rfl ?_
        refine xg_iload_n X (pc := 62) d_T_thin_62 rfl ?_
        refine xg_iload_n X (pc := 63) d_T_thin_63 rfl ?_
        refine xg_crV3 X (pc := 64) d_T_thin_64 (c_T_isOfSubband hd) s_T_108 ⟨_, rfl⟩ rfl ⟨by decide, by decide⟩ (Nat.le_of_ble_eq_true rfl) ?_
        refine xg_if_eq X (pc := 67) (tgt := 117) d_T_thin_67 rfl (fun h67 => ?_) (fun h67 => ?_)
        · replace h67 := x_b0 h67
          refine xg_weak [some (.ref (ad 0)), some (.int d), some (.int o), some (.int t), some (.int (x_tc (fun i => decide (x_os sc (nI i) d o)) (fun x => x_th x t) (ar 0) (k + 1))), some (.int (nI k)), none] ⟨rfl, rfl, rfl, rfl, congrArg (fun v => some (Value.int v)) (by first | exact (x_tc_n (by simpa using h67)).symm | exact (x_tc_v (by simpa using h67) h96 h106).symm | exact (x_tc_k h106).symm | exact (x_tc_z h96).symm), rfl, trivial⟩ ?_
          refine xg_eq rfl (ar' := x_ua ar 0 (x_tf (fun i => decide (x_os sc (nI i) d o)) (fun x => x_th x t) (ar 0) (k + 1))) (by first | (simp only [x_ua_ua, x_ua_at, nI_clamp hk4, x_tf_at]; exact congrArg _ (x_tf_y (by simpa using h67))) | exact congrArg _ (x_tf_n (by simpa using h67))) rfl ?_
          refine xg_iinc X (pc := 117) d_T_thin_117 rfl (x_inc (by decide : Int32.ofInt (1) = 1) _) (by decide) rfl ?_
          refine xg_goto X (pc := 120) (tgt := 49) d_T_thin_120 rfl ?_
          refine xg_weak [some (.ref (ad 0)), some (.int d), some (.int o), some (.int t), some (.int (x_tc (fun i => decide (x_os sc (nI i) d o)) (fun x => x_th x t) (ar 0) (k + 1))), some (.int (nI (k + 1))), none] ⟨rfl, rfl, rfl, rfl, rfl, by rw [← x_k1], trivial⟩ ?_
          exact ih (k + 1) (by omega) (by omega)
        · replace h67 := x_bn h67
          refine xg_aload_n X (pc := 70) d_T_thin_70 rfl ?_
          refine xf_T_9 X (pc := 71) rfl d_T_thin_71 ?_
          refine xg_iload X (pc := 74) d_T_thin_74 rfl ?_
          refine xa_ld1 X (pc := 76) d_T_thin_76 (vp_in_nI (by omega) (by decide)) ?_
          refine xg_istore X (pc := 77) d_T_thin_77 (by decide) rfl ?_
          refine xg_aload_n X (pc := 79) d_T_thin_79 rfl ?_
          refine xf_T_9 X (pc := 80) rfl d_T_thin_80 ?_
          refine xg_iload X (pc := 83) d_T_thin_83 rfl ?_
          refine xg_iload X (pc := 85) d_T_thin_85 rfl ?_
          refine xg_iload_n X (pc := 87) d_T_thin_87 rfl ?_
          refine xg_crS2 X (pc := 88) d_T_thin_88 (c_T_thinned hd (x_t0 hc.2.2.1)) s_T_112 ⟨by decide, by decide⟩ (Nat.le_of_ble_eq_true rfl) ?_
          refine xa_st1 X (pc := 91) d_T_thin_91 (vp_in_nI (by omega) (by decide)) ?_
          refine xg_iload X (pc := 92) d_T_thin_92 rfl ?_
          refine xg_iload X (pc := 94) d_T_thin_94 rfl ?_
          refine xg_if_eq X (pc := 96) (tgt := 113) d_T_thin_96 rfl (fun h96 => ?_) (fun h96 => ?_)
          · try simp only [x_ua_at, nI_clamp hk4, pk_us, x_tf_at] at h96
            try simp only [x_ua_at, nI_clamp hk4, pk_us, x_tf_at] at h106
            refine xg_iconst X (pc := 113) (v := 0) d_T_thin_113 (by decide) ?_
            refine xg_iadd X (pc := 114) d_T_thin_114 ?_
            refine xg_istore X (pc := 115) d_T_thin_115 (by decide) rfl ?_
            refine xg_weak [some (.ref (ad 0)), some (.int d), some (.int o), some (.int t), some (.int (x_tc (fun i => decide (x_os sc (nI i) d o)) (fun x => x_th x t) (ar 0) (k + 1))), some (.int (nI k)), none] ⟨rfl, rfl, rfl, rfl, congrArg (fun v => some (Value.int v)) (by first | exact (x_tc_n (by simpa using h67)).symm | exact (x_tc_v (by simpa using h67) h96 h106).symm | exact (x_tc_k h106).symm | exact (x_tc_z h96).symm), rfl, trivial⟩ ?_
            refine xg_eq rfl (ar' := x_ua ar 0 (x_tf (fun i => decide (x_os sc (nI i) d o)) (fun x => x_th x t) (ar 0) (k + 1))) (by first | (simp only [x_ua_ua, x_ua_at, nI_clamp hk4, x_tf_at]; exact congrArg _ (x_tf_y (by simpa using h67))) | exact congrArg _ (x_tf_n (by simpa using h67))) rfl ?_
            refine xg_iinc X (pc := 117) d_T_thin_117 rfl (x_inc (by decide : Int32.ofInt (1) = 1) _) (by decide) rfl ?_
            refine xg_goto X (pc := 120) (tgt := 49) d_T_thin_120 rfl ?_
            refine xg_weak [some (.ref (ad 0)), some (.int d), some (.int o), some (.int t), some (.int (x_tc (fun i => decide (x_os sc (nI i) d o)) (fun x => x_th x t) (ar 0) (k + 1))), some (.int (nI (k + 1))), none] ⟨rfl, rfl, rfl, rfl, rfl, by rw [← x_k1], trivial⟩ ?_
            exact ih (k + 1) (by omega) (by omega)
          · simp only [x_ua_at, nI_clamp hk4, pk_us, x_tf_at] at h96
            refine xg_aload_n X (pc := 99) d_T_thin_99 rfl ?_
            refine xf_T_9 X (pc := 100) rfl d_T_thin_100 ?_
            refine xg_iload X (pc := 103) d_T_thin_103 rfl ?_
            refine xa_ld1 X (pc := 105) d_T_thin_105 (vp_in_nI (by omega) (by decide)) ?_
            refine xg_if_ne X (pc := 106) (tgt := 113) d_T_thin_106 rfl (fun h106 => ?_) (fun h106 => ?_)
            · try simp only [x_ua_at, nI_clamp hk4, pk_us, x_tf_at] at h96
              try simp only [x_ua_at, nI_clamp hk4, pk_us, x_tf_at] at h106
              refine xg_iconst X (pc := 113) (v := 0) d_T_thin_113 (by decide) ?_
              refine xg_iadd X (pc := 114) d_T_thin_114 ?_
              refine xg_istore X (pc := 115) d_T_thin_115 (by decide) rfl ?_
              refine xg_weak [some (.ref (ad 0)), some (.int d), some (.int o), some (.int t), some (.int (x_tc (fun i => decide (x_os sc (nI i) d o)) (fun x => x_th x t) (ar 0) (k + 1))), some (.int (nI k)), none] ⟨rfl, rfl, rfl, rfl, congrArg (fun v => some (Value.int v)) (by first | exact (x_tc_n (by simpa using h67)).symm | exact (x_tc_v (by simpa using h67) h96 h106).symm | exact (x_tc_k h106).symm | exact (x_tc_z h96).symm), rfl, trivial⟩ ?_
              refine xg_eq rfl (ar' := x_ua ar 0 (x_tf (fun i => decide (x_os sc (nI i) d o)) (fun x => x_th x t) (ar 0) (k + 1))) (by first | (simp only [x_ua_ua, x_ua_at, nI_clamp hk4, x_tf_at]; exact congrArg _ (x_tf_y (by simpa using h67))) | exact congrArg _ (x_tf_n (by simpa using h67))) rfl ?_
              refine xg_iinc X (pc := 117) d_T_thin_117 rfl (x_inc (by decide : Int32.ofInt (1) = 1) _) (by decide) rfl ?_
              refine xg_goto X (pc := 120) (tgt := 49) d_T_thin_120 rfl ?_
              refine xg_weak [some (.ref (ad 0)), some (.int d), some (.int o), some (.int t), some (.int (x_tc (fun i => decide (x_os sc (nI i) d o)) (fun x => x_th x t) (ar 0) (k + 1))), some (.int (nI (k + 1))), none] ⟨rfl, rfl, rfl, rfl, rfl, by rw [← x_k1], trivial⟩ ?_
              exact ih (k + 1) (by omega) (by omega)
            · simp only [x_ua_at, nI_clamp hk4, pk_us, x_tf_at] at h106
              refine xg_iconst X (pc := 109) (v := 1) d_T_thin_109 (by decide) ?_
              refine xg_goto X (pc := 110) (tgt := 114) d_T_thin_110 rfl ?_
              refine xg_iadd X (pc := 114) d_T_thin_114 ?_
              refine xg_istore X (pc := 115) d_T_thin_115 (by decide) rfl ?_
              refine xg_weak [some (.ref (ad 0)), some (.int d), some (.int o), some (.int t), some (.int (x_tc (fun i => decide (x_os sc (nI i) d o)) (fun x => x_th x t) (ar 0) (k + 1))), some (.int (nI k)), none] ⟨rfl, rfl, rfl, rfl, congrArg (fun v => some (Value.int v)) (by first | exact (x_tc_n (by simpa using h67)).symm | exact (x_tc_v (by simpa using h67) h96 h106).symm | exact (x_tc_k h106).symm | exact (x_tc_z h96).symm), rfl, trivial⟩ ?_
              refine xg_eq rfl (ar' := x_ua ar 0 (x_tf (fun i => decide (x_os sc (nI i) d o)) (fun x => x_th x t) (ar 0) (k + 1))) (by first | (simp only [x_ua_ua, x_ua_at, nI_clamp hk4, x_tf_at]; exact congrArg _ (x_tf_y (by simpa using h67))) | exact congrArg _ (x_tf_n (by simpa using h67))) rfl ?_
              refine xg_iinc X (pc := 117) d_T_thin_117 rfl (x_inc (by decide : Int32.ofInt (1) = 1) _) (by decide) rfl ?_
              refine xg_goto X (pc := 120) (tgt := 49) d_T_thin_120 rfl ?_
              refine xg_weak [some (.ref (ad 0)), some (.int d), some (.int o), some (.int t), some (.int (x_tc (fun i => decide (x_os sc (nI i) d o)) (fun x => x_th x t) (ar 0) (k + 1))), some (.int (nI (k + 1))), none] ⟨rfl, rfl, rfl, rfl, rfl, by rw [← x_k1], trivial⟩ ?_
              exact ih (k + 1) (by omega) (by omega)
  refine xg_aload_n X (pc := 0) d_T_thin_0 rfl ?_
  refine xg_iload_n X (pc := 1) d_T_thin_1 rfl ?_
  refine xg_crV1 X (pc := 2) d_T_thin_2 (c_T_hasLevel hd) s_T_82 ⟨_, rfl⟩ rfl ⟨by decide, by decide⟩ (Nat.le_of_ble_eq_true rfl) ?_
  refine xg_if_eq X (pc := 5) (tgt := 27) d_T_thin_5 rfl (fun h5 => ?_) (fun h5 => ?_)
  · replace h5 := x_b0 h5
    refine xg_iconst X (pc := 27) (v := -1) d_T_thin_27 (by decide) ?_
    exact xg_iret X (pc := 28) d_T_thin_28 rfl (rfl) (by show ite _ _ _; rw [if_neg (by first | (simp_all [x_hol, x_pl, x_rp, x_be, x_op, x_os]; done) | ((try simp only [x_op, x_rp, x_pl, x_hol] at *); grind))]; exact ⟨rfl, rfl, rfl⟩)
  · replace h5 := x_bn h5
    refine xg_iload_n X (pc := 8) d_T_thin_8 rfl ?_
    refine xg_crS1 X (pc := 9) d_T_thin_9 (c_T_isSubband hd) s_T_88 ⟨by decide, by decide⟩ (Nat.le_of_ble_eq_true rfl) ?_
    refine xg_if_eq X (pc := 12) (tgt := 27) d_T_thin_12 rfl (fun h12 => ?_) (fun h12 => ?_)
    · replace h12 := x_b0 h12
      refine xg_iconst X (pc := 27) (v := -1) d_T_thin_27 (by decide) ?_
      exact xg_iret X (pc := 28) d_T_thin_28 rfl (rfl) (by show ite _ _ _; rw [if_neg (by first | (simp_all [x_hol, x_pl, x_rp, x_be, x_op, x_os]; done) | ((try simp only [x_op, x_rp, x_pl, x_hol] at *); grind))]; exact ⟨rfl, rfl, rfl⟩)
    · replace h12 := x_bn h12
      refine xg_iload_n X (pc := 15) d_T_thin_15 rfl ?_
      refine xg_iconst X (pc := 16) (v := 1) d_T_thin_16 (by decide) ?_
      refine xg_icmp_lt X (pc := 17) (tgt := 27) d_T_thin_17 rfl (fun h17 => ?_) (fun h17 => ?_)
      · refine xg_iconst X (pc := 27) (v := -1) d_T_thin_27 (by decide) ?_
        exact xg_iret X (pc := 28) d_T_thin_28 rfl (rfl) (by show ite _ _ _; rw [if_neg (by first | (simp_all [x_hol, x_pl, x_rp, x_be, x_op, x_os]; done) | ((try simp only [x_op, x_rp, x_pl, x_hol] at *); grind))]; exact ⟨rfl, rfl, rfl⟩)
      · refine xg_iload_n X (pc := 20) d_T_thin_20 rfl ?_
        refine xg_sipush X (pc := 21) (v := 32767) d_T_thin_21 (by decide) ?_
        refine xg_icmp_le X (pc := 24) (tgt := 29) d_T_thin_24 rfl (fun h24 => ?_) (fun h24 => ?_)
        · refine xg_iload_n X (pc := 29) d_T_thin_29 rfl ?_
          refine xg_if_ne X (pc := 30) (tgt := 43) d_T_thin_30 rfl (fun h30 => ?_) (fun h30 => ?_)
          · have hc : (¬ d < 1 ∧ ¬ sc 0 < d) ∧ (¬ o < 0 ∧ ¬ 4 ≤ o) ∧ ¬ t < 1 ∧ t ≤ 32767 ∧ (¬ o = 0 ∨ d = sc 0) := ⟨h5, h12, h17, h24, by first | exact Or.inl h30 | exact Or.inr h38⟩
            refine xg_iconst X (pc := 43) (v := 0) d_T_thin_43 (by decide) ?_
            refine xg_istore X (pc := 44) d_T_thin_44 (by decide) rfl ?_
            refine xg_iconst X (pc := 46) (v := 0) d_T_thin_46 (by decide) ?_
            refine xg_istore X (pc := 47) d_T_thin_47 (by decide) rfl ?_
            refine xg_weak [some (.ref (ad 0)), some (.int d), some (.int o), some (.int t), some (.int (x_tc (fun i => decide (x_os sc (nI i) d o)) (fun x => x_th x t) (ar 0) 0)), some (.int (nI 0)), none] ⟨rfl, rfl, rfl, rfl, rfl, rfl, trivial⟩ ?_
            exact xg_eq rfl (by rw [x_tf0, x_ua_id]) rfl (loop hc 769 0 (by omega) (by omega))
          · refine xg_iload_n X (pc := 33) d_T_thin_33 rfl ?_
            refine xg_aload_n X (pc := 34) d_T_thin_34 rfl ?_
            refine xf_T_35 X (pc := 35) rfl d_T_thin_35 ?_
            refine xg_icmp_eq X (pc := 38) (tgt := 43) d_T_thin_38 rfl (fun h38 => ?_) (fun h38 => ?_)
            · have hc : (¬ d < 1 ∧ ¬ sc 0 < d) ∧ (¬ o < 0 ∧ ¬ 4 ≤ o) ∧ ¬ t < 1 ∧ t ≤ 32767 ∧ (¬ o = 0 ∨ d = sc 0) := ⟨h5, h12, h17, h24, by first | exact Or.inl h30 | exact Or.inr h38⟩
              refine xg_iconst X (pc := 43) (v := 0) d_T_thin_43 (by decide) ?_
              refine xg_istore X (pc := 44) d_T_thin_44 (by decide) rfl ?_
              refine xg_iconst X (pc := 46) (v := 0) d_T_thin_46 (by decide) ?_
              refine xg_istore X (pc := 47) d_T_thin_47 (by decide) rfl ?_
              refine xg_weak [some (.ref (ad 0)), some (.int d), some (.int o), some (.int t), some (.int (x_tc (fun i => decide (x_os sc (nI i) d o)) (fun x => x_th x t) (ar 0) 0)), some (.int (nI 0)), none] ⟨rfl, rfl, rfl, rfl, rfl, rfl, trivial⟩ ?_
              exact xg_eq rfl (by rw [x_tf0, x_ua_id]) rfl (loop hc 769 0 (by omega) (by omega))
            · refine xg_iconst X (pc := 41) (v := -1) d_T_thin_41 (by decide) ?_
              exact xg_iret X (pc := 42) d_T_thin_42 rfl (rfl) (by show ite _ _ _; rw [if_neg (by first | (simp_all [x_hol, x_pl, x_rp, x_be, x_op, x_os]; done) | ((try simp only [x_op, x_rp, x_pl, x_hol] at *); grind))]; exact ⟨rfl, rfl, rfl⟩)
        · refine xg_iconst X (pc := 27) (v := -1) d_T_thin_27 (by decide) ?_
          exact xg_iret X (pc := 28) d_T_thin_28 rfl (rfl) (by show ite _ _ _; rw [if_neg (by first | (simp_all [x_hol, x_pl, x_rp, x_be, x_op, x_os]; done) | ((try simp only [x_op, x_rp, x_pl, x_hol] at *); grind))]; exact ⟨rfl, rfl, rfl⟩)
set_option maxRecDepth 100000 in
set_option maxHeartbeats 4000000 in
theorem c_T_weight (hd : x_dis ad) {pl d o : Int32} : x_Con l M_T_weight 2 47 ad D cI [.ref (ad 0), .int pl, .int d, .int o] sc ar (fun r sc2 ar2 => if (¬ d < 1 ∧ ¬ sc 0 < d) ∧ (¬ o < 0 ∧ ¬ 4 ≤ o) ∧ x_pl pl then x_E (some (.long (x_ws (fun i => decide (x_os sc (nI i) d o)) (ar 0) (pl.toNatClampNeg * 256) 256))) sc ar r sc2 ar2 else x_E (some (.long (-1))) sc ar r sc2 ar2) := by
  refine x_intro hd [some (.ref (ad 0)), some (.int pl), some (.int d), some (.int o), none, none, none, none] (by decide) (Nat.le_of_ble_eq_true rfl) rfl ?_
  intro p e s m args below meth c X
  have loop : ∀ q : Nat, q < 3 → (¬ d < 1 ∧ ¬ sc 0 < d) ∧ (¬ o < 0 ∧ ¬ 4 ≤ o) ∧ x_pl (nI q) → ∀ n k : Nat, 256 - k < n → k ≤ 256 → x_G p l e (x_rm 2 47) s m args below meth c M_T_weight ad D cI (x_A ad) 0 0 (x_Q below args s ad D cI (fun r sc2 ar2 => if (¬ d < 1 ∧ ¬ sc 0 < d) ∧ (¬ o < 0 ∧ ¬ 4 ≤ o) ∧ x_pl (nI q) then x_E (some (.long (x_ws (fun i => decide (x_os sc (nI i) d o)) (ar 0) ((nI q).toNatClampNeg * 256) 256))) sc ar r sc2 ar2 else x_E (some (.long (-1))) sc ar r sc2 ar2)) 40 [some (.ref (ad 0)), some (.int (nI q)), some (.int d), some (.int o), some (.long (x_ws (fun i => decide (x_os sc (nI i) d o)) (ar 0) (q * 256) k)), none, some (.int (nI (q * 256))), some (.int (nI (q * 256 + k)))] [] sc ar := by
    intro q hq hc n
    induction n with
    | zero => intro k h _; exact absurd h (Nat.not_lt_zero _)
    | succ n ih =>
      intro k hn hk
      refine xg_iload X (pc := 40) d_T_weight_40 rfl ?_
      refine xg_iload X (pc := 42) d_T_weight_42 rfl ?_
      refine xg_sipush X (pc := 44) (v := 256) d_T_weight_44 (by decide) ?_
      refine xg_iadd X (pc := 47) d_T_weight_47 ?_
      refine xg_icmp_ge X (pc := 48) (tgt := 83) d_T_weight_48 rfl (fun h48 => ?_) (fun h48 => ?_)
      · have e9 : nI (q * 256) + (256 : Int32) = nI (q * 256 + 256) := nI_add (q * 256) 256
        rw [e9] at h48
        have hk2 : k = 256 := by have := x_ge rfl (by omega) (by omega) h48; omega
        subst hk2
        refine xg_lload X (pc := 83) d_T_weight_83 rfl ?_
        exact xg_lret X (pc := 85) d_T_weight_85 rfl (by show ite _ _ _; rw [if_pos hc, nI_clamp (by omega)]; exact ⟨rfl, rfl, rfl⟩)
      · have e9 : nI (q * 256) + (256 : Int32) = nI (q * 256 + 256) := nI_add (q * 256) 256
        rw [e9] at h48
        have hk3 : k < 256 := by have := x_nge rfl (by omega) (by omega) h48; omega
        refine xg_aload_n X (pc := 51) d_T_weight_51 rfl ?_
        refine xg_iload X (pc := 52) d_T_weight_52 rfl ?_
        refine xg_iload_n X (pc := 54) d_T_weight_54 rfl ?_
        refine xg_iload_n X (pc := 55) d_T_weight_55 rfl ?_
        refine xg_crV3 X (pc := 56) d_T_weight_56 (c_T_isOfSubband hd) s_T_108 ⟨_, rfl⟩ rfl ⟨by decide, by decide⟩ (Nat.le_of_ble_eq_true rfl) ?_
        refine xg_if_eq X (pc := 59) (tgt := 77) d_T_weight_59 rfl (fun h59 => ?_) (fun h59 => ?_)
        · replace h59 := x_b0 h59
          refine xg_weak [some (.ref (ad 0)), some (.int (nI q)), some (.int d), some (.int o), some (.long (x_ws (fun i => decide (x_os sc (nI i) d o)) (ar 0) (q * 256) (k + 1))), none, some (.int (nI (q * 256))), some (.int (nI (q * 256 + k)))] ⟨rfl, rfl, rfl, rfl, congrArg (fun v => some (Value.long v)) (by first | exact (x_ws_n (by simpa using h59)).symm | (rw [nI_clamp (by omega)]; exact (x_ws_y (by simpa using h59)).symm)), rfl, rfl, trivial⟩ ?_
          refine xg_iinc X (pc := 77) d_T_weight_77 rfl (x_inc (by decide : Int32.ofInt (1) = 1) _) (by decide) rfl ?_
          refine xg_goto X (pc := 80) (tgt := 40) d_T_weight_80 rfl ?_
          refine xg_weak [some (.ref (ad 0)), some (.int (nI q)), some (.int d), some (.int o), some (.long (x_ws (fun i => decide (x_os sc (nI i) d o)) (ar 0) (q * 256) (k + 1))), none, some (.int (nI (q * 256))), some (.int (nI (q * 256 + (k + 1))))] ⟨rfl, rfl, rfl, rfl, rfl, rfl, by rw [x_k1] <;> rfl, trivial⟩ ?_
          exact ih (k + 1) (by omega) (by omega)
        · replace h59 := x_bn h59
          refine xg_lload X (pc := 62) d_T_weight_62 rfl ?_
          refine xg_aload_n X (pc := 64) d_T_weight_64 rfl ?_
          refine xf_T_9 X (pc := 65) rfl d_T_weight_65 ?_
          refine xg_iload X (pc := 68) d_T_weight_68 rfl ?_
          refine xa_ld1 X (pc := 70) d_T_weight_70 (vp_in_nI (by omega) (by decide)) ?_
          refine xg_crS1 X (pc := 71) d_T_weight_71 (c_T_amountOf hd) s_T_120 ⟨by decide, by decide⟩ (Nat.le_of_ble_eq_true rfl) ?_
          refine xg_ladd X (pc := 74) d_T_weight_74 ?_
          refine xg_lstore X (pc := 75) d_T_weight_75 (by decide) rfl ?_
          refine xg_weak [some (.ref (ad 0)), some (.int (nI q)), some (.int d), some (.int o), some (.long (x_ws (fun i => decide (x_os sc (nI i) d o)) (ar 0) (q * 256) (k + 1))), none, some (.int (nI (q * 256))), some (.int (nI (q * 256 + k)))] ⟨rfl, rfl, rfl, rfl, congrArg (fun v => some (Value.long v)) (by first | exact (x_ws_n (by simpa using h59)).symm | (rw [nI_clamp (by omega)]; exact (x_ws_y (by simpa using h59)).symm)), rfl, rfl, trivial⟩ ?_
          refine xg_iinc X (pc := 77) d_T_weight_77 rfl (x_inc (by decide : Int32.ofInt (1) = 1) _) (by decide) rfl ?_
          refine xg_goto X (pc := 80) (tgt := 40) d_T_weight_80 rfl ?_
          refine xg_weak [some (.ref (ad 0)), some (.int (nI q)), some (.int d), some (.int o), some (.long (x_ws (fun i => decide (x_os sc (nI i) d o)) (ar 0) (q * 256) (k + 1))), none, some (.int (nI (q * 256))), some (.int (nI (q * 256 + (k + 1))))] ⟨rfl, rfl, rfl, rfl, rfl, rfl, by rw [x_k1] <;> rfl, trivial⟩ ?_
          exact ih (k + 1) (by omega) (by omega)
  refine xg_aload_n X (pc := 0) d_T_weight_0 rfl ?_
  refine xg_iload_n X (pc := 1) d_T_weight_1 rfl ?_
  refine xg_crV1 X (pc := 2) d_T_weight_2 (c_T_hasLevel hd) s_T_82 ⟨_, rfl⟩ rfl ⟨by decide, by decide⟩ (Nat.le_of_ble_eq_true rfl) ?_
  refine xg_if_eq X (pc := 5) (tgt := 22) d_T_weight_5 rfl (fun h5 => ?_) (fun h5 => ?_)
  · replace h5 := x_b0 h5
    refine xg_ldc2 X (pc := 22) (v := -1) d_T_weight_22 (by decide +kernel) ?_
    exact xg_lret X (pc := 25) d_T_weight_25 rfl (by show ite _ _ _; rw [if_neg (by first | (simp_all [x_hol, x_pl, x_rp, x_be, x_op, x_os]; done) | ((try simp only [x_op, x_rp, x_pl, x_hol] at *); grind))]; exact ⟨rfl, rfl, rfl⟩)
  · replace h5 := x_bn h5
    refine xg_iload_n X (pc := 8) d_T_weight_8 rfl ?_
    refine xg_crS1 X (pc := 9) d_T_weight_9 (c_T_isSubband hd) s_T_88 ⟨by decide, by decide⟩ (Nat.le_of_ble_eq_true rfl) ?_
    refine xg_if_eq X (pc := 12) (tgt := 22) d_T_weight_12 rfl (fun h12 => ?_) (fun h12 => ?_)
    · replace h12 := x_b0 h12
      refine xg_ldc2 X (pc := 22) (v := -1) d_T_weight_22 (by decide +kernel) ?_
      exact xg_lret X (pc := 25) d_T_weight_25 rfl (by show ite _ _ _; rw [if_neg (by first | (simp_all [x_hol, x_pl, x_rp, x_be, x_op, x_os]; done) | ((try simp only [x_op, x_rp, x_pl, x_hol] at *); grind))]; exact ⟨rfl, rfl, rfl⟩)
    · replace h12 := x_bn h12
      refine xg_iload_n X (pc := 15) d_T_weight_15 rfl ?_
      refine xg_crS1 X (pc := 16) d_T_weight_16 (c_T_isPlane hd) s_T_115 ⟨by decide, by decide⟩ (Nat.le_of_ble_eq_true rfl) ?_
      refine xg_if_ne X (pc := 19) (tgt := 26) d_T_weight_19 rfl (fun h19 => ?_) (fun h19 => ?_)
      · replace h19 := x_bn h19
        obtain ⟨q, hq, rfl⟩ := x_plq h19
        refine xg_lconst X (pc := 26) (v := 0) d_T_weight_26 (by decide) ?_
        refine xg_lstore X (pc := 27) d_T_weight_27 (by decide) rfl ?_
        refine xg_iload_n X (pc := 29) d_T_weight_29 rfl ?_
        refine xg_sipush X (pc := 30) (v := 256) d_T_weight_30 (by decide) ?_
        refine xg_imul X (pc := 33) d_T_weight_33 ?_
        refine xg_istore X (pc := 34) d_T_weight_34 (by decide) rfl ?_
        refine xg_iload X (pc := 36) d_T_weight_36 rfl ?_
        refine xg_istore X (pc := 38) d_T_weight_38 (by decide) rfl ?_
        have e9 : nI q * (256 : Int32) = nI (q * 256) := pk_mul q 256
        refine xg_weak [some (.ref (ad 0)), some (.int (nI q)), some (.int d), some (.int o), some (.long (x_ws (fun i => decide (x_os sc (nI i) d o)) (ar 0) (q * 256) 0)), none, some (.int (nI (q * 256))), some (.int (nI (q * 256 + 0)))] ⟨rfl, rfl, rfl, rfl, rfl, by rw [← e9], by rw [Nat.add_zero, ← e9], trivial⟩ ?_
        exact loop q hq ⟨h5, h12, h19⟩ 257 0 (by omega) (by omega)
      · replace h19 := x_b0 h19
        refine xg_ldc2 X (pc := 22) (v := -1) d_T_weight_22 (by decide +kernel) ?_
        exact xg_lret X (pc := 25) d_T_weight_25 rfl (by show ite _ _ _; rw [if_neg (by first | (simp_all [x_hol, x_pl, x_rp, x_be, x_op, x_os]; done) | ((try simp only [x_op, x_rp, x_pl, x_hol] at *); grind))]; exact ⟨rfl, rfl, rfl⟩)
end C8
end
section
theorem x_wl_in {sc : Nat → Int32} {a m : Int} (ha : sc 15 = zI a) (h1 : a ≤ m) (h2 : m ≤ a + 15) : vp_in (zI m - sc 15) 16 := by
  rw [ha, zI_sub]
  exact zI_in (by omega) (by omega) (by decide)
theorem x_wl_cl {sc : Nat → Int32} {a m : Int} (ha : sc 15 = zI a) (h1 : a ≤ m) (h2 : m ≤ a + 15) : (zI m - sc 15).toNatClampNeg = (m - a).toNat := by
  rw [ha, zI_sub]
  exact zI_clamp (by omega) (by omega)
theorem x_pdP {k : Int32} {v : Nat → Int32} {a b n : Int} : x_pd k (x_vl v a b (n - 1)) (x_vl v a b (n + 1)) (x_vl v a b (n - 3)) (x_vl v a b (n + 3)) = x_P k v a b n := by
  unfold x_P x_pd
  by_cases h0 : k = 0
  · rw [if_pos h0, if_pos h0]
  · rw [if_neg h0, if_neg h0]
    by_cases h1 : k = 1
    · rw [if_pos h1, if_pos h1]
    · rw [if_neg h1, if_neg h1, Int32.sub_sub]
theorem x_upU {k : Int32} {v : Nat → Int32} {a b n : Int} : x_up k (x_vl v a b (n - 1)) (x_vl v a b (n + 1)) = x_U k v a b n := rfl
def x_hi (k : Int32) (v : Nat → Int32) (a b m : Int) : Int32 := x_vl v a b (x_in a b m) - x_P k v a b (x_in a b m)
def x_lo (k : Int32) (v : Nat → Int32) (a b m : Int) : Int32 := x_vl v a b (x_in a b m) - x_U k v a b (x_in a b m)
theorem x_in_id {a b m : Int} (h1 : a ≤ m) (h2 : m ≤ b) : x_in a b m = m := x_rn_in h1 h2 3
theorem x_vl_id {v : Nat → Int32} {a b m : Int} (h1 : a ≤ m) (h2 : m ≤ b) : x_vl v a b m = v (m - a).toNat := by
  unfold x_vl
  rw [x_in_id h1 h2]
theorem x_f1_vl {k : Int32} {v : Nat → Int32} {a b m : Int} (h : a < b) (h1 : a - 3 ≤ m) (h2 : m ≤ b + 3) (hq : m % 2 = 1) : x_vl (x_f1 k v a b) a b m = x_hi k v a b m := by
  have e1 := x_in_ok h h1 h2
  have e2 := x_in_par a b m
  have e3 : a + (((x_in a b m - a).toNat : Nat) : Int) = x_in a b m := by omega
  unfold x_hi
  rw [x_vl_id e1.1 e1.2]
  unfold x_f1 x_vl x_lp
  rw [if_pos (by omega), e3]
theorem x_g1_vl {k : Int32} {v : Nat → Int32} {a b m : Int} (h : a < b) (h1 : a - 3 ≤ m) (h2 : m ≤ b + 3) (hq : m % 2 = 0) : x_vl (x_g1 k v a b) a b m = x_lo k v a b m := by
  have e1 := x_in_ok h h1 h2
  have e2 := x_in_par a b m
  have e3 : a + (((x_in a b m - a).toNat : Nat) : Int) = x_in a b m := by omega
  unfold x_lo
  rw [x_vl_id e1.1 e1.2]
  unfold x_g1 x_vl x_lp
  rw [if_pos (by omega), e3]
theorem x_f2_o {k : Int32} {v : Nat → Int32} {a b n : Int} (h : a < b) (h1 : a ≤ n) (h2 : n ≤ b) (hq : n % 2 = 1) : x_f2 k v a b (n - a).toNat = x_hi k v a b n := by
  have e3 : a + (((n - a).toNat : Nat) : Int) = n := by omega
  unfold x_f2 x_lp
  rw [if_neg (by omega), ← x_f1_vl h (by omega) (by omega) hq, x_vl_id h1 h2]
theorem x_f2_e {k : Int32} {v : Nat → Int32} {a b n : Int} (h : a < b) (h1 : a ≤ n) (h2 : n ≤ b) (hq : n % 2 = 0) : x_f2 k v a b (n - a).toNat = x_vl v a b n + x_up k (x_hi k v a b (n - 1)) (x_hi k v a b (n + 1)) := by
  have e3 : a + (((n - a).toNat : Nat) : Int) = n := by omega
  have e4 : x_f1 k v a b (n - a).toNat = v (n - a).toNat := by
    unfold x_f1 x_lp
    rw [if_neg (by omega)]
  unfold x_f2 x_lp
  rw [if_pos (by omega), e3, e4, x_vl_id h1 h2, ← x_f1_vl h (by omega) (by omega) (by omega), ← x_f1_vl h (by omega) (by omega) (by omega), x_upU]
theorem x_g2_e {k : Int32} {v : Nat → Int32} {a b n : Int} (h : a < b) (h1 : a ≤ n) (h2 : n ≤ b) (hq : n % 2 = 0) : x_g2 k v a b (n - a).toNat = x_lo k v a b n := by
  have e3 : a + (((n - a).toNat : Nat) : Int) = n := by omega
  unfold x_g2 x_lp
  rw [if_neg (by omega), ← x_g1_vl h (by omega) (by omega) hq, x_vl_id h1 h2]
theorem x_g2_o {k : Int32} {v : Nat → Int32} {a b n : Int} (h : a < b) (h1 : a ≤ n) (h2 : n ≤ b) (hq : n % 2 = 1) : x_g2 k v a b (n - a).toNat = x_vl v a b n + x_pd k (x_lo k v a b (n - 1)) (x_lo k v a b (n + 1)) (x_lo k v a b (n - 3)) (x_lo k v a b (n + 3)) := by
  have e3 : a + (((n - a).toNat : Nat) : Int) = n := by omega
  have e4 : x_g1 k v a b (n - a).toNat = v (n - a).toNat := by
    unfold x_g1 x_lp
    rw [if_neg (by omega)]
  unfold x_g2 x_lp
  rw [if_pos (by omega), e3, e4, x_vl_id h1 h2, ← x_g1_vl h (by omega) (by omega) (by omega), ← x_g1_vl h (by omega) (by omega) (by omega), ← x_g1_vl h (by omega) (by omega) (by omega), ← x_g1_vl h (by omega) (by omega) (by omega), x_pdP]
theorem x_rodd {n : Int} (h0 : 0 ≤ n) (h1 : n < 1000000) : ¬ zI n - zI n / 2 * 2 = 0 ↔ n % 2 = 1 := by
  have e : zI n = nI n.toNat := by rw [← zI_nI, Int.toNat_of_nonneg h0]
  have e2 : zI n - zI n / 2 * 2 = nI (n.toNat % 2) := by
    rw [e]; exact pk_rem (d := 2) (by omega) (by decide) (by decide)
  rw [e2, show (0 : Int32) = nI 0 from rfl, nI_eq (by omega) (by decide)]
  omega
section C9
variable {l : Launch} {ad : Nat → Nat} {D : va_G} {cI : ClassId} {sc : Nat → Int32} {ar : Nat → Nat → Int32}
set_option maxRecDepth 100000 in
set_option maxHeartbeats 4000000 in
theorem c_R_inside (hd : x_dis ad) {a b : Int} (ha : sc 15 = zI a) (hb : sc 16 = zI b) (h0 : 0 ≤ a) (h1 : a ≤ b) (h2 : b ≤ a + 15) (h3 : b ≤ 2000) {x0 : Int32} {m0 : Int} (hx : x0 = zI m0) (h4 : a - 3 ≤ m0) (h5 : m0 ≤ b + 3) (h6 : a < b ∨ (a ≤ m0 ∧ m0 ≤ b)) : x_Con l M_R_inside 0 0 ad D cI [.ref (ad 7), .int x0] sc ar (x_E (some (.int (zI (x_in a b m0)))) sc ar) := by
  subst hx
  refine x_intro hd [some (.ref (ad 7)), some (.int (zI m0)), none] (by decide) (Nat.le_of_ble_eq_true rfl) rfl ?_
  intro p e s m args below meth c X
  have hok : a ≤ x_in a b m0 ∧ x_in a b m0 ≤ b := by
    rcases h6 with h6 | h6
    · exact x_in_ok h6 h4 h5
    · rw [x_in_id h6.1 h6.2]; exact h6
  have loop : ∀ (n : Nat) (mm : Int), a - 20 ≤ mm → mm ≤ b + 20 → x_rn a b n mm = x_in a b m0 → x_G p l e (x_rm 0 0) s m args below meth c M_R_inside ad D cI (x_A ad) 0 0 (x_Q below args s ad D cI (x_E (some (.int (zI (x_in a b m0)))) sc ar)) 2 [some (.ref (ad 7)), some (.int (zI m0)), some (.int (zI mm))] [] sc ar := by
    intro n
    induction n with
    | zero =>
      intro mm hm1 hm2 he
      refine xg_iload_n X (pc := 2) d_R_inside_2 rfl ?_
      refine xg_aload_n X (pc := 3) d_R_inside_3 rfl ?_
      refine xf_R_57 X (pc := 4) rfl d_R_inside_4 ?_
      refine xg_icmp_lt X (pc := 7) (tgt := 18) d_R_inside_7 rfl (fun h7 => ?_) (fun h7 => ?_)
      · rw [ha, zI_lt mm a] at h7
        exfalso
        have hm : a ≤ mm ∧ mm ≤ b := by have := hok; rw [← he] at this; exact this
        omega
      rw [ha, zI_lt mm a] at h7
      refine xg_iload_n X (pc := 10) d_R_inside_10 rfl ?_
      refine xg_aload_n X (pc := 11) d_R_inside_11 rfl ?_
      refine xf_R_60 X (pc := 12) rfl d_R_inside_12 ?_
      refine xg_icmp_le X (pc := 15) (tgt := 49) d_R_inside_15 rfl (fun h15 => ?_) (fun h15 => ?_)
      · rw [hb, zI_le mm b] at h15
        have e0 : x_in a b m0 = mm := by rw [← he]; exact rfl
        refine xg_iload_n X (pc := 49) d_R_inside_49 rfl ?_
        exact xg_iret X (pc := 50) d_R_inside_50 rfl (rfl) (⟨by rw [e0], rfl, rfl⟩)
      rw [hb, zI_le mm b] at h15
      exfalso
      have hm : a ≤ mm ∧ mm ≤ b := by have := hok; rw [← he] at this; exact this
      omega
    | succ n ih =>
      intro mm hm1 hm2 he
      refine xg_iload_n X (pc := 2) d_R_inside_2 rfl ?_
      refine xg_aload_n X (pc := 3) d_R_inside_3 rfl ?_
      refine xf_R_57 X (pc := 4) rfl d_R_inside_4 ?_
      refine xg_icmp_lt X (pc := 7) (tgt := 18) d_R_inside_7 rfl (fun h7 => ?_) (fun h7 => ?_)
      · rw [ha, zI_lt mm a] at h7
        refine xg_iload_n X (pc := 18) d_R_inside_18 rfl ?_
        refine xg_aload_n X (pc := 19) d_R_inside_19 rfl ?_
        refine xf_R_57 X (pc := 20) rfl d_R_inside_20 ?_
        refine xg_icmp_ge X (pc := 23) (tgt := 37) d_R_inside_23 rfl (fun h23 => ?_) (fun h23 => ?_)
        · rw [ha, zI_le a mm] at h23
          refine xg_iconst X (pc := 37) (v := 2) d_R_inside_37 (by decide) ?_
          refine xg_aload_n X (pc := 38) d_R_inside_38 rfl ?_
          refine xf_R_60 X (pc := 39) rfl d_R_inside_39 ?_
          refine xg_imul X (pc := 42) d_R_inside_42 ?_
          refine xg_iload_n X (pc := 43) d_R_inside_43 rfl ?_
          refine xg_isub X (pc := 44) d_R_inside_44 ?_
          refine xg_istore_n X (pc := 45) d_R_inside_45 (by decide) rfl ?_
          refine xg_goto X (pc := 46) (tgt := 2) d_R_inside_46 rfl ?_
          refine xg_weak [some (.ref (ad 7)), some (.int (zI m0)), some (.int (zI (x_r1 a b mm)))] ⟨rfl, rfl, by rw [x_refl hb]; unfold x_r1; rw [if_neg (by omega), if_pos (by omega)], trivial⟩ ?_
          exact ih (x_r1 a b mm) (by unfold x_r1; repeat' split; all_goals omega) (by unfold x_r1; repeat' split; all_goals omega) he
        rw [ha, zI_le a mm] at h23
        refine xg_iconst X (pc := 26) (v := 2) d_R_inside_26 (by decide) ?_
        refine xg_aload_n X (pc := 27) d_R_inside_27 rfl ?_
        refine xf_R_57 X (pc := 28) rfl d_R_inside_28 ?_
        refine xg_imul X (pc := 31) d_R_inside_31 ?_
        refine xg_iload_n X (pc := 32) d_R_inside_32 rfl ?_
        refine xg_isub X (pc := 33) d_R_inside_33 ?_
        refine xg_goto X (pc := 34) (tgt := 45) d_R_inside_34 rfl ?_
        refine xg_istore_n X (pc := 45) d_R_inside_45 (by decide) rfl ?_
        refine xg_goto X (pc := 46) (tgt := 2) d_R_inside_46 rfl ?_
        refine xg_weak [some (.ref (ad 7)), some (.int (zI m0)), some (.int (zI (x_r1 a b mm)))] ⟨rfl, rfl, by rw [x_refl ha]; unfold x_r1; rw [if_pos (by omega)], trivial⟩ ?_
        exact ih (x_r1 a b mm) (by unfold x_r1; repeat' split; all_goals omega) (by unfold x_r1; repeat' split; all_goals omega) he
      rw [ha, zI_lt mm a] at h7
      refine xg_iload_n X (pc := 10) d_R_inside_10 rfl ?_
      refine xg_aload_n X (pc := 11) d_R_inside_11 rfl ?_
      refine xf_R_60 X (pc := 12) rfl d_R_inside_12 ?_
      refine xg_icmp_le X (pc := 15) (tgt := 49) d_R_inside_15 rfl (fun h15 => ?_) (fun h15 => ?_)
      · rw [hb, zI_le mm b] at h15
        have e0 : x_in a b m0 = mm := by rw [← he]; exact x_rn_in (by omega) (by omega) _
        refine xg_iload_n X (pc := 49) d_R_inside_49 rfl ?_
        exact xg_iret X (pc := 50) d_R_inside_50 rfl (rfl) (⟨by rw [e0], rfl, rfl⟩)
      rw [hb, zI_le mm b] at h15
      refine xg_iload_n X (pc := 18) d_R_inside_18 rfl ?_
      refine xg_aload_n X (pc := 19) d_R_inside_19 rfl ?_
      refine xf_R_57 X (pc := 20) rfl d_R_inside_20 ?_
      refine xg_icmp_ge X (pc := 23) (tgt := 37) d_R_inside_23 rfl (fun h23 => ?_) (fun h23 => ?_)
      · rw [ha, zI_le a mm] at h23
        refine xg_iconst X (pc := 37) (v := 2) d_R_inside_37 (by decide) ?_
        refine xg_aload_n X (pc := 38) d_R_inside_38 rfl ?_
        refine xf_R_60 X (pc := 39) rfl d_R_inside_39 ?_
        refine xg_imul X (pc := 42) d_R_inside_42 ?_
        refine xg_iload_n X (pc := 43) d_R_inside_43 rfl ?_
        refine xg_isub X (pc := 44) d_R_inside_44 ?_
        refine xg_istore_n X (pc := 45) d_R_inside_45 (by decide) rfl ?_
        refine xg_goto X (pc := 46) (tgt := 2) d_R_inside_46 rfl ?_
        refine xg_weak [some (.ref (ad 7)), some (.int (zI m0)), some (.int (zI (x_r1 a b mm)))] ⟨rfl, rfl, by rw [x_refl hb]; unfold x_r1; rw [if_neg (by omega), if_pos (by omega)], trivial⟩ ?_
        exact ih (x_r1 a b mm) (by unfold x_r1; repeat' split; all_goals omega) (by unfold x_r1; repeat' split; all_goals omega) he
      rw [ha, zI_le a mm] at h23
      refine xg_iconst X (pc := 26) (v := 2) d_R_inside_26 (by decide) ?_
      refine xg_aload_n X (pc := 27) d_R_inside_27 rfl ?_
      refine xf_R_57 X (pc := 28) rfl d_R_inside_28 ?_
      refine xg_imul X (pc := 31) d_R_inside_31 ?_
      refine xg_iload_n X (pc := 32) d_R_inside_32 rfl ?_
      refine xg_isub X (pc := 33) d_R_inside_33 ?_
      refine xg_goto X (pc := 34) (tgt := 45) d_R_inside_34 rfl ?_
      refine xg_istore_n X (pc := 45) d_R_inside_45 (by decide) rfl ?_
      refine xg_goto X (pc := 46) (tgt := 2) d_R_inside_46 rfl ?_
      refine xg_weak [some (.ref (ad 7)), some (.int (zI m0)), some (.int (zI (x_r1 a b mm)))] ⟨rfl, rfl, by rw [x_refl ha]; unfold x_r1; rw [if_pos (by omega)], trivial⟩ ?_
      exact ih (x_r1 a b mm) (by unfold x_r1; repeat' split; all_goals omega) (by unfold x_r1; repeat' split; all_goals omega) he
  refine xg_iload_n X (pc := 0) d_R_inside_0 rfl ?_
  refine xg_istore_n X (pc := 1) d_R_inside_1 (by decide) rfl ?_
  refine xg_weak [some (.ref (ad 7)), some (.int (zI m0)), some (.int (zI m0))] ⟨rfl, rfl, rfl, trivial⟩ ?_
  exact loop 3 m0 (by omega) (by omega) rfl
set_option maxRecDepth 100000 in
set_option maxHeartbeats 4000000 in
theorem c_R_old (hd : x_dis ad) {a b : Int} (ha : sc 15 = zI a) (hb : sc 16 = zI b) (h0 : 0 ≤ a) (h1 : a ≤ b) (h2 : b ≤ a + 15) (h3 : b ≤ 2000) {x0 : Int32} {m0 : Int} (hx : x0 = zI m0) (h4 : a - 3 ≤ m0) (h5 : m0 ≤ b + 3) (h6 : a < b ∨ (a ≤ m0 ∧ m0 ≤ b)) : x_Con l M_R_old 1 22 ad D cI [.ref (ad 7), .int x0] sc ar (x_E (some (.int (x_vl (ar 5) a b m0))) sc ar) := by
  subst hx
  have hok : a ≤ x_in a b m0 ∧ x_in a b m0 ≤ b := by
    rcases h6 with h6 | h6
    · exact x_in_ok h6 h4 h5
    · rw [x_in_id h6.1 h6.2]; exact h6
  refine x_intro hd [some (.ref (ad 7)), some (.int (zI m0))] (by decide) (Nat.le_of_ble_eq_true rfl) rfl ?_
  intro p e s m args below meth c X
  refine xg_aload_n X (pc := 0) d_R_old_0 rfl ?_
  refine xf_R_16 X (pc := 1) rfl d_R_old_1 ?_
  refine xg_aload_n X (pc := 4) d_R_old_4 rfl ?_
  refine xg_iload_n X (pc := 5) d_R_old_5 rfl ?_
  refine xg_crV1 X (pc := 6) d_R_old_6 (c_R_inside hd ha hb h0 h1 h2 h3 rfl h4 h5 h6) s_R_63 ⟨_, rfl⟩ rfl ⟨by decide, by decide⟩ (Nat.le_of_ble_eq_true rfl) ?_
  refine xg_aload_n X (pc := 9) d_R_old_9 rfl ?_
  refine xf_R_57 X (pc := 10) rfl d_R_old_10 ?_
  refine xg_isub X (pc := 13) d_R_old_13 ?_
  refine xa_ld10 X (pc := 14) d_R_old_14 (x_wl_in ha (by omega) (by omega)) ?_
  exact xg_iret X (pc := 15) d_R_old_15 rfl (rfl) (⟨by rw [x_wl_cl ha (by omega) (by omega)]; rfl, rfl, rfl⟩)
set_option maxRecDepth 100000 in
set_option maxHeartbeats 4000000 in
theorem c_R_high (hd : x_dis ad) {a b : Int} (ha : sc 15 = zI a) (hb : sc 16 = zI b) (h0 : 0 ≤ a) (h1 : a < b) (h2 : b ≤ a + 15) (h3 : b ≤ 2000) {x0 : Int32} {m0 : Int} (hx : x0 = zI m0) (h4 : a - 3 ≤ m0) (h5 : m0 ≤ b + 3) : x_Con l M_R_high 2 43 ad D cI [.ref (ad 7), .int x0] sc ar (x_E (some (.int (x_hi (sc 17) (ar 5) a b m0))) sc ar) := by
  subst hx
  have hw := x_in_ok h1 h4 h5
  refine x_intro hd [some (.ref (ad 7)), some (.int (zI m0)), none] (by decide) (Nat.le_of_ble_eq_true rfl) rfl ?_
  intro p e s m args below meth c X
  refine xg_aload_n X (pc := 0) d_R_high_0 rfl ?_
  refine xg_iload_n X (pc := 1) d_R_high_1 rfl ?_
  refine xg_crV1 X (pc := 2) d_R_high_2 (c_R_inside hd ha hb h0 (by omega) h2 h3 rfl h4 h5 (Or.inl h1)) s_R_63 ⟨_, rfl⟩ rfl ⟨by decide, by decide⟩ (Nat.le_of_ble_eq_true rfl) ?_
  refine xg_istore_n X (pc := 5) d_R_high_5 (by decide) rfl ?_
  refine xg_aload_n X (pc := 6) d_R_high_6 rfl ?_
  refine xg_iload_n X (pc := 7) d_R_high_7 rfl ?_
  refine xg_crV1 X (pc := 8) d_R_high_8 (c_R_old hd ha hb h0 (by omega) h2 h3 rfl (by omega) (by omega) (Or.inl h1)) s_R_70 ⟨_, rfl⟩ rfl ⟨by decide, by decide⟩ (Nat.le_of_ble_eq_true rfl) ?_
  refine xg_aload_n X (pc := 11) d_R_high_11 rfl ?_
  refine xg_aload_n X (pc := 12) d_R_high_12 rfl ?_
  refine xg_iload_n X (pc := 13) d_R_high_13 rfl ?_
  refine xg_iconst X (pc := 14) (v := 1) d_R_high_14 (by decide) ?_
  refine xg_isub X (pc := 15) d_R_high_15 ?_
  refine xg_crV1 X (pc := 16) d_R_high_16 (c_R_old hd ha hb h0 (by omega) h2 h3 (z_s1 _) (by omega) (by omega) (Or.inl h1)) s_R_70 ⟨_, rfl⟩ rfl ⟨by decide, by decide⟩ (Nat.le_of_ble_eq_true rfl) ?_
  refine xg_aload_n X (pc := 19) d_R_high_19 rfl ?_
  refine xg_iload_n X (pc := 20) d_R_high_20 rfl ?_
  refine xg_iconst X (pc := 21) (v := 1) d_R_high_21 (by decide) ?_
  refine xg_iadd X (pc := 22) d_R_high_22 ?_
  refine xg_crV1 X (pc := 23) d_R_high_23 (c_R_old hd ha hb h0 (by omega) h2 h3 (z_a1 _) (by omega) (by omega) (Or.inl h1)) s_R_70 ⟨_, rfl⟩ rfl ⟨by decide, by decide⟩ (Nat.le_of_ble_eq_true rfl) ?_
  refine xg_aload_n X (pc := 26) d_R_high_26 rfl ?_
  refine xg_iload_n X (pc := 27) d_R_high_27 rfl ?_
  refine xg_iconst X (pc := 28) (v := 3) d_R_high_28 (by decide) ?_
  refine xg_isub X (pc := 29) d_R_high_29 ?_
  refine xg_crV1 X (pc := 30) d_R_high_30 (c_R_old hd ha hb h0 (by omega) h2 h3 (z_s3 _) (by omega) (by omega) (Or.inl h1)) s_R_70 ⟨_, rfl⟩ rfl ⟨by decide, by decide⟩ (Nat.le_of_ble_eq_true rfl) ?_
  refine xg_aload_n X (pc := 33) d_R_high_33 rfl ?_
  refine xg_iload_n X (pc := 34) d_R_high_34 rfl ?_
  refine xg_iconst X (pc := 35) (v := 3) d_R_high_35 (by decide) ?_
  refine xg_iadd X (pc := 36) d_R_high_36 ?_
  refine xg_crV1 X (pc := 37) d_R_high_37 (c_R_old hd ha hb h0 (by omega) h2 h3 (z_a3 _) (by omega) (by omega) (Or.inl h1)) s_R_70 ⟨_, rfl⟩ rfl ⟨by decide, by decide⟩ (Nat.le_of_ble_eq_true rfl) ?_
  refine xg_crV4 X (pc := 40) d_R_high_40 (c_R_predicted hd) s_R_73 ⟨_, rfl⟩ rfl ⟨by decide, by decide⟩ (Nat.le_of_ble_eq_true rfl) ?_
  refine xg_isub X (pc := 43) d_R_high_43 ?_
  exact xg_iret X (pc := 44) d_R_high_44 rfl (rfl) (⟨by rw [x_pdP]; rfl, rfl, rfl⟩)
set_option maxRecDepth 100000 in
set_option maxHeartbeats 4000000 in
theorem c_R_low (hd : x_dis ad) {a b : Int} (ha : sc 15 = zI a) (hb : sc 16 = zI b) (h0 : 0 ≤ a) (h1 : a < b) (h2 : b ≤ a + 15) (h3 : b ≤ 2000) {x0 : Int32} {m0 : Int} (hx : x0 = zI m0) (h4 : a - 3 ≤ m0) (h5 : m0 ≤ b + 3) : x_Con l M_R_low 2 43 ad D cI [.ref (ad 7), .int x0] sc ar (x_E (some (.int (x_lo (sc 17) (ar 5) a b m0))) sc ar) := by
  subst hx
  have hw := x_in_ok h1 h4 h5
  refine x_intro hd [some (.ref (ad 7)), some (.int (zI m0)), none] (by decide) (Nat.le_of_ble_eq_true rfl) rfl ?_
  intro p e s m args below meth c X
  refine xg_aload_n X (pc := 0) d_R_low_0 rfl ?_
  refine xg_iload_n X (pc := 1) d_R_low_1 rfl ?_
  refine xg_crV1 X (pc := 2) d_R_low_2 (c_R_inside hd ha hb h0 (by omega) h2 h3 rfl h4 h5 (Or.inl h1)) s_R_63 ⟨_, rfl⟩ rfl ⟨by decide, by decide⟩ (Nat.le_of_ble_eq_true rfl) ?_
  refine xg_istore_n X (pc := 5) d_R_low_5 (by decide) rfl ?_
  refine xg_aload_n X (pc := 6) d_R_low_6 rfl ?_
  refine xg_iload_n X (pc := 7) d_R_low_7 rfl ?_
  refine xg_crV1 X (pc := 8) d_R_low_8 (c_R_old hd ha hb h0 (by omega) h2 h3 rfl (by omega) (by omega) (Or.inl h1)) s_R_70 ⟨_, rfl⟩ rfl ⟨by decide, by decide⟩ (Nat.le_of_ble_eq_true rfl) ?_
  refine xg_aload_n X (pc := 11) d_R_low_11 rfl ?_
  refine xg_aload_n X (pc := 12) d_R_low_12 rfl ?_
  refine xg_iload_n X (pc := 13) d_R_low_13 rfl ?_
  refine xg_iconst X (pc := 14) (v := 1) d_R_low_14 (by decide) ?_
  refine xg_isub X (pc := 15) d_R_low_15 ?_
  refine xg_crV1 X (pc := 16) d_R_low_16 (c_R_old hd ha hb h0 (by omega) h2 h3 (z_s1 _) (by omega) (by omega) (Or.inl h1)) s_R_70 ⟨_, rfl⟩ rfl ⟨by decide, by decide⟩ (Nat.le_of_ble_eq_true rfl) ?_
  refine xg_aload_n X (pc := 19) d_R_low_19 rfl ?_
  refine xg_iload_n X (pc := 20) d_R_low_20 rfl ?_
  refine xg_iconst X (pc := 21) (v := 1) d_R_low_21 (by decide) ?_
  refine xg_iadd X (pc := 22) d_R_low_22 ?_
  refine xg_crV1 X (pc := 23) d_R_low_23 (c_R_old hd ha hb h0 (by omega) h2 h3 (z_a1 _) (by omega) (by omega) (Or.inl h1)) s_R_70 ⟨_, rfl⟩ rfl ⟨by decide, by decide⟩ (Nat.le_of_ble_eq_true rfl) ?_
  refine xg_crV2 X (pc := 26) d_R_low_26 (c_R_updated hd) s_R_77 ⟨_, rfl⟩ rfl ⟨by decide, by decide⟩ (Nat.le_of_ble_eq_true rfl) ?_
  refine xg_isub X (pc := 29) d_R_low_29 ?_
  exact xg_iret X (pc := 30) d_R_low_30 rfl (rfl) (⟨by rw [x_upU]; rfl, rfl, rfl⟩)
set_option maxRecDepth 100000 in
set_option maxHeartbeats 4000000 in
theorem c_R_lifted (hd : x_dis ad) {a b : Int} (ha : sc 15 = zI a) (hb : sc 16 = zI b) (h0 : 0 ≤ a) (h1 : a ≤ b) (h2 : b ≤ a + 15) (h3 : b ≤ 2000) {x0 : Int32} {n : Int} (hx : x0 = zI n) (h4 : a ≤ n) (h5 : n ≤ b) : x_Con l M_R_lifted 3 65 ad D cI [.ref (ad 7), .int x0] sc ar (x_E (some (.int (x_fw (sc 17) (ar 5) a b (n - a).toNat))) sc ar) := by
  subst hx
  refine x_intro hd [some (.ref (ad 7)), some (.int (zI n))] (by decide) (Nat.le_of_ble_eq_true rfl) rfl ?_
  intro p e s m args below meth c X
  refine xg_aload_n X (pc := 0) d_R_lifted_0 rfl ?_
  refine xf_R_57 X (pc := 1) rfl d_R_lifted_1 ?_
  refine xg_aload_n X (pc := 4) d_R_lifted_4 rfl ?_
  refine xf_R_60 X (pc := 5) rfl d_R_lifted_5 ?_
  refine xg_icmp_ne X (pc := 8) (tgt := 34) d_R_lifted_8 rfl (fun h8 => ?_) (fun h8 => ?_)
  · rw [ha, hb, zI_eq a b] at h8
    have h9 : a < b := by omega
    refine xg_iload_n X (pc := 34) d_R_lifted_34 rfl ?_
    refine xg_crS1 X (pc := 35) d_R_lifted_35 (c_R_odd hd) s_R_81 ⟨by decide, by decide⟩ (Nat.le_of_ble_eq_true rfl) ?_
    refine xg_if_eq X (pc := 38) (tgt := 49) d_R_lifted_38 rfl (fun h38 => ?_) (fun h38 => ?_)
    · replace h38 := x_b0 h38
      rw [x_rodd (by omega) (by omega)] at h38
      refine xg_aload_n X (pc := 49) d_R_lifted_49 rfl ?_
      refine xg_iload_n X (pc := 50) d_R_lifted_50 rfl ?_
      refine xg_crV1 X (pc := 51) d_R_lifted_51 (c_R_old hd ha hb h0 h1 h2 h3 rfl (by omega) (by omega) (Or.inr ⟨h4, h5⟩)) s_R_70 ⟨_, rfl⟩ rfl ⟨by decide, by decide⟩ (Nat.le_of_ble_eq_true rfl) ?_
      refine xg_aload_n X (pc := 54) d_R_lifted_54 rfl ?_
      refine xg_aload_n X (pc := 55) d_R_lifted_55 rfl ?_
      refine xg_iload_n X (pc := 56) d_R_lifted_56 rfl ?_
      refine xg_iconst X (pc := 57) (v := 1) d_R_lifted_57 (by decide) ?_
      refine xg_isub X (pc := 58) d_R_lifted_58 ?_
      refine xg_crV1 X (pc := 59) d_R_lifted_59 (c_R_high hd ha hb h0 h9 h2 h3 (z_s1 _) (by omega) (by omega)) s_R_84 ⟨_, rfl⟩ rfl ⟨by decide, by decide⟩ (Nat.le_of_ble_eq_true rfl) ?_
      refine xg_aload_n X (pc := 62) d_R_lifted_62 rfl ?_
      refine xg_iload_n X (pc := 63) d_R_lifted_63 rfl ?_
      refine xg_iconst X (pc := 64) (v := 1) d_R_lifted_64 (by decide) ?_
      refine xg_iadd X (pc := 65) d_R_lifted_65 ?_
      refine xg_crV1 X (pc := 66) d_R_lifted_66 (c_R_high hd ha hb h0 h9 h2 h3 (z_a1 _) (by omega) (by omega)) s_R_84 ⟨_, rfl⟩ rfl ⟨by decide, by decide⟩ (Nat.le_of_ble_eq_true rfl) ?_
      refine xg_crV2 X (pc := 69) d_R_lifted_69 (c_R_updated hd) s_R_77 ⟨_, rfl⟩ rfl ⟨by decide, by decide⟩ (Nat.le_of_ble_eq_true rfl) ?_
      refine xg_iadd X (pc := 72) d_R_lifted_72 ?_
      exact xg_iret X (pc := 73) d_R_lifted_73 rfl (rfl) (⟨by unfold x_fw; rw [if_neg h8]; first | rw [x_f2_o h9 h4 h5 (by omega)] | rw [x_f2_e h9 h4 h5 (by omega)], rfl, rfl⟩)
    · replace h38 := x_bn h38
      rw [x_rodd (by omega) (by omega)] at h38
      refine xg_aload_n X (pc := 41) d_R_lifted_41 rfl ?_
      refine xg_iload_n X (pc := 42) d_R_lifted_42 rfl ?_
      refine xg_crV1 X (pc := 43) d_R_lifted_43 (c_R_high hd ha hb h0 h9 h2 h3 rfl (by omega) (by omega)) s_R_84 ⟨_, rfl⟩ rfl ⟨by decide, by decide⟩ (Nat.le_of_ble_eq_true rfl) ?_
      refine xg_goto X (pc := 46) (tgt := 73) d_R_lifted_46 rfl ?_
      exact xg_iret X (pc := 73) d_R_lifted_73 rfl (rfl) (⟨by unfold x_fw; rw [if_neg h8]; first | rw [x_f2_o h9 h4 h5 (by omega)] | rw [x_f2_e h9 h4 h5 (by omega)], rfl, rfl⟩)
  · rw [ha, hb, zI_eq a b] at h8
    refine xg_iload_n X (pc := 11) d_R_lifted_11 rfl ?_
    refine xg_crS1 X (pc := 12) d_R_lifted_12 (c_R_odd hd) s_R_81 ⟨by decide, by decide⟩ (Nat.le_of_ble_eq_true rfl) ?_
    refine xg_if_eq X (pc := 15) (tgt := 28) d_R_lifted_15 rfl (fun h15 => ?_) (fun h15 => ?_)
    · replace h15 := x_b0 h15
      rw [x_rodd (by omega) (by omega)] at h15
      refine xg_aload_n X (pc := 28) d_R_lifted_28 rfl ?_
      refine xg_iload_n X (pc := 29) d_R_lifted_29 rfl ?_
      refine xg_crV1 X (pc := 30) d_R_lifted_30 (c_R_old hd ha hb h0 h1 h2 h3 rfl (by omega) (by omega) (Or.inr ⟨h4, h5⟩)) s_R_70 ⟨_, rfl⟩ rfl ⟨by decide, by decide⟩ (Nat.le_of_ble_eq_true rfl) ?_
      exact xg_iret X (pc := 33) d_R_lifted_33 rfl (rfl) (⟨by unfold x_fw; rw [if_pos h8, x_vl_id h4 h5, show (n - a).toNat = 0 by omega]; unfold upd; rw [if_pos rfl]; first | rw [if_pos (by omega), Int32.mul_comm] | rw [if_neg (by omega)], rfl, rfl⟩)
    · replace h15 := x_bn h15
      rw [x_rodd (by omega) (by omega)] at h15
      refine xg_iconst X (pc := 18) (v := 2) d_R_lifted_18 (by decide) ?_
      refine xg_aload_n X (pc := 19) d_R_lifted_19 rfl ?_
      refine xg_iload_n X (pc := 20) d_R_lifted_20 rfl ?_
      refine xg_crV1 X (pc := 21) d_R_lifted_21 (c_R_old hd ha hb h0 h1 h2 h3 rfl (by omega) (by omega) (Or.inr ⟨h4, h5⟩)) s_R_70 ⟨_, rfl⟩ rfl ⟨by decide, by decide⟩ (Nat.le_of_ble_eq_true rfl) ?_
      refine xg_imul X (pc := 24) d_R_lifted_24 ?_
      refine xg_goto X (pc := 25) (tgt := 33) d_R_lifted_25 rfl ?_
      exact xg_iret X (pc := 33) d_R_lifted_33 rfl (rfl) (⟨by unfold x_fw; rw [if_pos h8, x_vl_id h4 h5, show (n - a).toNat = 0 by omega]; unfold upd; rw [if_pos rfl]; first | rw [if_pos (by omega), Int32.mul_comm] | rw [if_neg (by omega)], rfl, rfl⟩)
set_option maxRecDepth 100000 in
set_option maxHeartbeats 4000000 in
theorem c_R_liftedBack (hd : x_dis ad) {a b : Int} (ha : sc 15 = zI a) (hb : sc 16 = zI b) (h0 : 0 ≤ a) (h1 : a ≤ b) (h2 : b ≤ a + 15) (h3 : b ≤ 2000) {x0 : Int32} {n : Int} (hx : x0 = zI n) (h4 : a ≤ n) (h5 : n ≤ b) : x_Con l M_R_liftedBack 3 65 ad D cI [.ref (ad 7), .int x0] sc ar (x_E (some (.int (x_bw (sc 17) (ar 5) a b (n - a).toNat))) sc ar) := by
  subst hx
  refine x_intro hd [some (.ref (ad 7)), some (.int (zI n))] (by decide) (Nat.le_of_ble_eq_true rfl) rfl ?_
  intro p e s m args below meth c X
  refine xg_aload_n X (pc := 0) d_R_liftedBack_0 rfl ?_
  refine xf_R_57 X (pc := 1) rfl d_R_liftedBack_1 ?_
  refine xg_aload_n X (pc := 4) d_R_liftedBack_4 rfl ?_
  refine xf_R_60 X (pc := 5) rfl d_R_liftedBack_5 ?_
  refine xg_icmp_ne X (pc := 8) (tgt := 34) d_R_liftedBack_8 rfl (fun h8 => ?_) (fun h8 => ?_)
  · rw [ha, hb, zI_eq a b] at h8
    have h9 : a < b := by omega
    refine xg_iload_n X (pc := 34) d_R_liftedBack_34 rfl ?_
    refine xg_crS1 X (pc := 35) d_R_liftedBack_35 (c_R_odd hd) s_R_81 ⟨by decide, by decide⟩ (Nat.le_of_ble_eq_true rfl) ?_
    refine xg_if_eq X (pc := 38) (tgt := 82) d_R_liftedBack_38 rfl (fun h38 => ?_) (fun h38 => ?_)
    · replace h38 := x_b0 h38
      rw [x_rodd (by omega) (by omega)] at h38
      refine xg_aload_n X (pc := 82) d_R_liftedBack_82 rfl ?_
      refine xg_iload_n X (pc := 83) d_R_liftedBack_83 rfl ?_
      refine xg_crV1 X (pc := 84) d_R_liftedBack_84 (c_R_low hd ha hb h0 h9 h2 h3 rfl (by omega) (by omega)) s_R_87 ⟨_, rfl⟩ rfl ⟨by decide, by decide⟩ (Nat.le_of_ble_eq_true rfl) ?_
      exact xg_iret X (pc := 87) d_R_liftedBack_87 rfl (rfl) (⟨by unfold x_bw; rw [if_neg h8]; first | rw [x_g2_o h9 h4 h5 (by omega)] | rw [x_g2_e h9 h4 h5 (by omega)], rfl, rfl⟩)
    · replace h38 := x_bn h38
      rw [x_rodd (by omega) (by omega)] at h38
      refine xg_aload_n X (pc := 41) d_R_liftedBack_41 rfl ?_
      refine xg_iload_n X (pc := 42) d_R_liftedBack_42 rfl ?_
      refine xg_crV1 X (pc := 43) d_R_liftedBack_43 (c_R_old hd ha hb h0 h1 h2 h3 rfl (by omega) (by omega) (Or.inr ⟨h4, h5⟩)) s_R_70 ⟨_, rfl⟩ rfl ⟨by decide, by decide⟩ (Nat.le_of_ble_eq_true rfl) ?_
      refine xg_aload_n X (pc := 46) d_R_liftedBack_46 rfl ?_
      refine xg_aload_n X (pc := 47) d_R_liftedBack_47 rfl ?_
      refine xg_iload_n X (pc := 48) d_R_liftedBack_48 rfl ?_
      refine xg_iconst X (pc := 49) (v := 1) d_R_liftedBack_49 (by decide) ?_
      refine xg_isub X (pc := 50) d_R_liftedBack_50 ?_
      refine xg_crV1 X (pc := 51) d_R_liftedBack_51 (c_R_low hd ha hb h0 h9 h2 h3 (z_s1 _) (by omega) (by omega)) s_R_87 ⟨_, rfl⟩ rfl ⟨by decide, by decide⟩ (Nat.le_of_ble_eq_true rfl) ?_
      refine xg_aload_n X (pc := 54) d_R_liftedBack_54 rfl ?_
      refine xg_iload_n X (pc := 55) d_R_liftedBack_55 rfl ?_
      refine xg_iconst X (pc := 56) (v := 1) d_R_liftedBack_56 (by decide) ?_
      refine xg_iadd X (pc := 57) d_R_liftedBack_57 ?_
      refine xg_crV1 X (pc := 58) d_R_liftedBack_58 (c_R_low hd ha hb h0 h9 h2 h3 (z_a1 _) (by omega) (by omega)) s_R_87 ⟨_, rfl⟩ rfl ⟨by decide, by decide⟩ (Nat.le_of_ble_eq_true rfl) ?_
      refine xg_aload_n X (pc := 61) d_R_liftedBack_61 rfl ?_
      refine xg_iload_n X (pc := 62) d_R_liftedBack_62 rfl ?_
      refine xg_iconst X (pc := 63) (v := 3) d_R_liftedBack_63 (by decide) ?_
      refine xg_isub X (pc := 64) d_R_liftedBack_64 ?_
      refine xg_crV1 X (pc := 65) d_R_liftedBack_65 (c_R_low hd ha hb h0 h9 h2 h3 (z_s3 _) (by omega) (by omega)) s_R_87 ⟨_, rfl⟩ rfl ⟨by decide, by decide⟩ (Nat.le_of_ble_eq_true rfl) ?_
      refine xg_aload_n X (pc := 68) d_R_liftedBack_68 rfl ?_
      refine xg_iload_n X (pc := 69) d_R_liftedBack_69 rfl ?_
      refine xg_iconst X (pc := 70) (v := 3) d_R_liftedBack_70 (by decide) ?_
      refine xg_iadd X (pc := 71) d_R_liftedBack_71 ?_
      refine xg_crV1 X (pc := 72) d_R_liftedBack_72 (c_R_low hd ha hb h0 h9 h2 h3 (z_a3 _) (by omega) (by omega)) s_R_87 ⟨_, rfl⟩ rfl ⟨by decide, by decide⟩ (Nat.le_of_ble_eq_true rfl) ?_
      refine xg_crV4 X (pc := 75) d_R_liftedBack_75 (c_R_predicted hd) s_R_73 ⟨_, rfl⟩ rfl ⟨by decide, by decide⟩ (Nat.le_of_ble_eq_true rfl) ?_
      refine xg_iadd X (pc := 78) d_R_liftedBack_78 ?_
      refine xg_goto X (pc := 79) (tgt := 87) d_R_liftedBack_79 rfl ?_
      exact xg_iret X (pc := 87) d_R_liftedBack_87 rfl (rfl) (⟨by unfold x_bw; rw [if_neg h8]; first | rw [x_g2_o h9 h4 h5 (by omega)] | rw [x_g2_e h9 h4 h5 (by omega)], rfl, rfl⟩)
  · rw [ha, hb, zI_eq a b] at h8
    refine xg_iload_n X (pc := 11) d_R_liftedBack_11 rfl ?_
    refine xg_crS1 X (pc := 12) d_R_liftedBack_12 (c_R_odd hd) s_R_81 ⟨by decide, by decide⟩ (Nat.le_of_ble_eq_true rfl) ?_
    refine xg_if_eq X (pc := 15) (tgt := 28) d_R_liftedBack_15 rfl (fun h15 => ?_) (fun h15 => ?_)
    · replace h15 := x_b0 h15
      rw [x_rodd (by omega) (by omega)] at h15
      refine xg_aload_n X (pc := 28) d_R_liftedBack_28 rfl ?_
      refine xg_iload_n X (pc := 29) d_R_liftedBack_29 rfl ?_
      refine xg_crV1 X (pc := 30) d_R_liftedBack_30 (c_R_old hd ha hb h0 h1 h2 h3 rfl (by omega) (by omega) (Or.inr ⟨h4, h5⟩)) s_R_70 ⟨_, rfl⟩ rfl ⟨by decide, by decide⟩ (Nat.le_of_ble_eq_true rfl) ?_
      exact xg_iret X (pc := 33) d_R_liftedBack_33 rfl (rfl) (⟨by unfold x_bw; rw [if_pos h8, x_vl_id h4 h5, show (n - a).toNat = 0 by omega]; unfold upd; rw [if_pos rfl]; first | rw [if_pos (by omega)] | rw [if_neg (by omega)], rfl, rfl⟩)
    · replace h15 := x_bn h15
      rw [x_rodd (by omega) (by omega)] at h15
      refine xg_aload_n X (pc := 18) d_R_liftedBack_18 rfl ?_
      refine xg_iload_n X (pc := 19) d_R_liftedBack_19 rfl ?_
      refine xg_crV1 X (pc := 20) d_R_liftedBack_20 (c_R_old hd ha hb h0 h1 h2 h3 rfl (by omega) (by omega) (Or.inr ⟨h4, h5⟩)) s_R_70 ⟨_, rfl⟩ rfl ⟨by decide, by decide⟩ (Nat.le_of_ble_eq_true rfl) ?_
      refine xg_iconst X (pc := 23) (v := 1) d_R_liftedBack_23 (by decide) ?_
      refine xg_ishr X (pc := 24) d_R_liftedBack_24 ?_
      refine xg_goto X (pc := 25) (tgt := 33) d_R_liftedBack_25 rfl ?_
      exact xg_iret X (pc := 33) d_R_liftedBack_33 rfl (rfl) (⟨by unfold x_bw; rw [if_pos h8, x_vl_id h4 h5, show (n - a).toNat = 0 by omega]; unfold upd; rw [if_pos rfl]; first | rw [if_pos (by omega)] | rw [if_neg (by omega)], rfl, rfl⟩)
end C9
end
section
def x_cd (x p : Nat) : Nat := (x + 2 ^ p - 1) / 2 ^ p
theorem x_cd_lt {x p k : Nat} : k * 2 ^ p < x ↔ k < x_cd x p := by
  have hs : 0 < 2 ^ p := Nat.two_pow_pos p
  unfold x_cd
  generalize 2 ^ p = t at hs
  rw [Nat.lt_iff_add_one_le (m := k), Nat.le_div_iff_mul_le hs, Nat.succ_mul]
  omega
theorem x_cd_le {x p k : Nat} : x_cd x p ≤ k ↔ x ≤ k * 2 ^ p := by
  have := @x_cd_lt x p k
  omega
theorem x_cd_mono {x y p : Nat} (h : x ≤ y) : x_cd x p ≤ x_cd y p := Nat.div_le_div_right (by omega)
def x_fg (f g : Nat → Int32) (n : Nat) : Nat → Int32 := fun i => if i < n then g i else f i
theorem x_fg0 {f g : Nat → Int32} : x_fg f g 0 = f := by
  funext i
  unfold x_fg
  rw [if_neg (Nat.not_lt_zero i)]
theorem x_fgs {f g : Nat → Int32} {k : Nat} : upd (x_fg f g k) k (g k) = x_fg f g (k + 1) := by
  funext i
  unfold upd x_fg
  by_cases h : i = k
  · rw [if_pos h, if_pos (by omega), h]
  · rw [if_neg h]
    by_cases h2 : i < k
    · rw [if_pos h2, if_pos (by omega)]
    · rw [if_neg h2, if_neg (by omega)]
theorem x_fg_lt {f g : Nat → Int32} {n i : Nat} (h : i < n) : x_fg f g n i = g i := if_pos h
def x_wr (f v : Nat → Int32) (c st : Nat) : Nat → Nat → Int32
  | 0 => f
  | k + 1 => upd (x_wr f v c st k) (c + k * st) (v k)
theorem x_ixI {c st k : Nat} : nI c + nI k * nI st = nI (c + k * st) := by rw [pk_mul, nI_add]
section C10
variable {l : Launch} {ad : Nat → Nat} {D : va_G} {cI : ClassId} {sc : Nat → Int32} {ar : Nat → Nat → Int32}
set_option maxRecDepth 100000 in
set_option maxHeartbeats 4000000 in
theorem c_L_readFrom (hd : x_dis ad) {a : Int} {cc0 st n0 : Nat} {y1 y2 y3 y4 : Int32} (e1 : y1 = nI cc0) (e2 : y2 = nI st) (e3 : y3 = zI a) (e4 : y4 = nI n0) (hn0 : n0 ≤ 16) (hin : ∀ k, k < n0 → cc0 + k * st < 768) : x_Con l M_L_readFrom 0 0 ad D cI [.ref (ad 4), .ref (ad 1), .int y1, .int y2, .int y3, .int y4] sc ar (x_E none (upd (upd sc 6 (zI a)) 7 (zI (a + (n0 : Int) - 1))) (x_ua ar 2 (x_fg (ar 2) (fun i => ar 0 (cc0 + i * st)) n0))) := by
  subst e1
  subst e2
  subst e3
  subst e4
  refine x_intro hd [some (.ref (ad 4)), some (.ref (ad 1)), some (.int (nI cc0)), some (.int (nI st)), some (.int (zI a)), some (.int (nI n0)), none] (by decide) (Nat.le_of_ble_eq_true rfl) rfl ?_
  intro p e s m args below meth c X
  have loop : ∀ n k : Nat, n0 - k < n → k ≤ n0 → x_G p l e (x_rm 0 0) s m args below meth c M_L_readFrom ad D cI (x_A ad) 0 0 (x_Q below args s ad D cI (x_E none (upd (upd sc 6 (zI a)) 7 (zI (a + (n0 : Int) - 1))) (x_ua ar 2 (x_fg (ar 2) (fun i => ar 0 (cc0 + i * st)) n0)))) 20 [some (.ref (ad 4)), some (.ref (ad 1)), some (.int (nI cc0)), some (.int (nI st)), some (.int (zI a)), some (.int (nI n0)), some (.int (nI k))] [] (upd (upd sc 6 (zI a)) 7 (zI (a + (n0 : Int) - 1))) (x_ua ar 2 (x_fg (ar 2) (fun i => ar 0 (cc0 + i * st)) k)) := by
    intro n
    induction n with
    | zero => intro k h _; exact absurd h (Nat.not_lt_zero _)
    | succ n ih =>
      intro k hn hk
      refine xg_iload X (pc := 20) d_L_readFrom_20 rfl ?_
      refine xg_iload X (pc := 22) d_L_readFrom_22 rfl ?_
      refine xg_icmp_ge X (pc := 24) (tgt := 48) d_L_readFrom_24 rfl (fun h24 => ?_) (fun h24 => ?_)
      · have hk2 : k = n0 := Nat.le_antisymm hk (x_ge rfl (by omega) (by omega) h24)
        subst hk2
        exact xg_vret X (pc := 48) d_L_readFrom_48 rfl (⟨rfl, rfl, rfl⟩)
      · have hk3 : k < n0 := x_nge rfl (by omega) (by omega) h24
        refine xg_aload_n X (pc := 27) d_L_readFrom_27 rfl ?_
        refine xf_L_9 X (pc := 28) rfl d_L_readFrom_28 ?_
        refine xg_iload X (pc := 31) d_L_readFrom_31 rfl ?_
        refine xg_aload_n X (pc := 33) d_L_readFrom_33 rfl ?_
        refine xg_iload_n X (pc := 34) d_L_readFrom_34 rfl ?_
        refine xg_iload X (pc := 35) d_L_readFrom_35 rfl ?_
        refine xg_iload_n X (pc := 37) d_L_readFrom_37 rfl ?_
        refine xg_imul X (pc := 38) d_L_readFrom_38 ?_
        refine xg_iadd X (pc := 39) d_L_readFrom_39 ?_
        refine xa_ld1 X (pc := 40) d_L_readFrom_40 (by rw [x_ixI]; exact vp_in_nI (hin k hk3) (by decide)) ?_
        refine xa_st6 X (pc := 41) d_L_readFrom_41 (vp_in_nI (by omega) (by decide)) ?_
        refine xg_iinc X (pc := 42) d_L_readFrom_42 rfl (x_inc (by decide : Int32.ofInt (1) = 1) _) (by decide) rfl ?_
        refine xg_goto X (pc := 45) (tgt := 20) d_L_readFrom_45 rfl ?_
        refine xg_weak [some (.ref (ad 4)), some (.ref (ad 1)), some (.int (nI cc0)), some (.int (nI st)), some (.int (zI a)), some (.int (nI n0)), some (.int (nI (k + 1)))] ⟨rfl, rfl, rfl, rfl, rfl, rfl, by rw [← x_k1], trivial⟩ ?_
        refine xg_eq rfl (ar' := x_ua ar 2 (x_fg (ar 2) (fun i => ar 0 (cc0 + i * st)) (k + 1))) ?_ rfl (ih (k + 1) (by omega) (by omega))
        rw [x_ua_ua, x_ua_at, x_ixI, nI_clamp (by omega), nI_clamp (by have := hin k hk3; omega)]
        exact congrArg _ x_fgs
  refine xg_aload_n X (pc := 0) d_L_readFrom_0 rfl ?_
  refine xg_iload X (pc := 1) d_L_readFrom_1 rfl ?_
  refine xp_L_15 X (pc := 3) rfl d_L_readFrom_3 ?_
  refine xg_aload_n X (pc := 6) d_L_readFrom_6 rfl ?_
  refine xg_iload X (pc := 7) d_L_readFrom_7 rfl ?_
  refine xg_iload X (pc := 9) d_L_readFrom_9 rfl ?_
  refine xg_iadd X (pc := 11) d_L_readFrom_11 ?_
  refine xg_iconst X (pc := 12) (v := 1) d_L_readFrom_12 (by decide) ?_
  refine xg_isub X (pc := 13) d_L_readFrom_13 ?_
  refine xp_L_19 X (pc := 14) rfl d_L_readFrom_14 ?_
  refine xg_iconst X (pc := 17) (v := 0) d_L_readFrom_17 (by decide) ?_
  refine xg_istore X (pc := 18) d_L_readFrom_18 (by decide) rfl ?_
  refine xg_weak [some (.ref (ad 4)), some (.ref (ad 1)), some (.int (nI cc0)), some (.int (nI st)), some (.int (zI a)), some (.int (nI n0)), some (.int (nI 0))] ⟨rfl, rfl, rfl, rfl, rfl, rfl, rfl, trivial⟩ ?_
  exact xg_eq (by rw [← zI_nI, zI_add, z_s1]) (by rw [x_fg0, x_ua_id]) rfl (loop (n0 + 1) 0 (by omega) (by omega))
set_option maxRecDepth 100000 in
set_option maxHeartbeats 4000000 in
theorem c_L_writeTo (hd : x_dis ad) {a : Int} {cc0 st n0 : Nat} {y1 y2 : Int32} (e1 : y1 = nI cc0) (e2 : y2 = nI st) (ha : sc 6 = zI a) (hb : sc 7 = zI (a + (n0 : Int) - 1)) (h0 : 0 ≤ a) (h3 : a ≤ 2000) (hn0 : n0 ≤ 16) (hin : ∀ k, k < n0 → cc0 + k * st < 768) : x_Con l M_L_writeTo 0 0 ad D cI [.ref (ad 4), .ref (ad 1), .int y1, .int y2] sc ar (x_E none sc (x_ua ar 0 (x_wr (ar 0) (ar 2) cc0 st n0))) := by
  subst e1
  subst e2
  refine x_intro hd [some (.ref (ad 4)), some (.ref (ad 1)), some (.int (nI cc0)), some (.int (nI st)), none] (by decide) (Nat.le_of_ble_eq_true rfl) rfl ?_
  intro p e s m args below meth c X
  have loop : ∀ n k : Nat, n0 - k < n → k ≤ n0 → x_G p l e (x_rm 0 0) s m args below meth c M_L_writeTo ad D cI (x_A ad) 0 0 (x_Q below args s ad D cI (x_E none sc (x_ua ar 0 (x_wr (ar 0) (ar 2) cc0 st n0)))) 3 [some (.ref (ad 4)), some (.ref (ad 1)), some (.int (nI cc0)), some (.int (nI st)), some (.int (nI k))] [] sc (x_ua ar 0 (x_wr (ar 0) (ar 2) cc0 st k)) := by
    intro n
    induction n with
    | zero => intro k h _; exact absurd h (Nat.not_lt_zero _)
    | succ n ih =>
      intro k hn hk
      refine xg_iload X (pc := 3) d_L_writeTo_3 rfl ?_
      refine xg_aload_n X (pc := 5) d_L_writeTo_5 rfl ?_
      refine xf_L_19 X (pc := 6) rfl d_L_writeTo_6 ?_
      refine xg_aload_n X (pc := 9) d_L_writeTo_9 rfl ?_
      refine xf_L_15 X (pc := 10) rfl d_L_writeTo_10 ?_
      refine xg_isub X (pc := 13) d_L_writeTo_13 ?_
      refine xg_icmp_gt X (pc := 14) (tgt := 38) d_L_writeTo_14 rfl (fun h14 => ?_) (fun h14 => ?_)
      · have e9 : sc 7 - sc 6 = zI ((n0 : Int) - 1) := by rw [ha, hb, zI_sub]; congr 1; omega
        rw [e9, ← zI_nI, zI_lt _ _] at h14
        have hk2 : k = n0 := by omega
        subst hk2
        exact xg_vret X (pc := 38) d_L_writeTo_38 rfl (⟨rfl, rfl, rfl⟩)
      · have e9 : sc 7 - sc 6 = zI ((n0 : Int) - 1) := by rw [ha, hb, zI_sub]; congr 1; omega
        rw [e9, ← zI_nI, zI_lt _ _] at h14
        have hk3 : k < n0 := by omega
        refine xg_aload_n X (pc := 17) d_L_writeTo_17 rfl ?_
        refine xg_iload_n X (pc := 18) d_L_writeTo_18 rfl ?_
        refine xg_iload X (pc := 19) d_L_writeTo_19 rfl ?_
        refine xg_iload_n X (pc := 21) d_L_writeTo_21 rfl ?_
        refine xg_imul X (pc := 22) d_L_writeTo_22 ?_
        refine xg_iadd X (pc := 23) d_L_writeTo_23 ?_
        refine xg_aload_n X (pc := 24) d_L_writeTo_24 rfl ?_
        refine xf_L_9 X (pc := 25) rfl d_L_writeTo_25 ?_
        refine xg_iload X (pc := 28) d_L_writeTo_28 rfl ?_
        refine xa_ld6 X (pc := 30) d_L_writeTo_30 (vp_in_nI (by omega) (by decide)) ?_
        refine xa_st1 X (pc := 31) d_L_writeTo_31 (by rw [x_ixI]; exact vp_in_nI (hin k hk3) (by decide)) ?_
        refine xg_iinc X (pc := 32) d_L_writeTo_32 rfl (x_inc (by decide : Int32.ofInt (1) = 1) _) (by decide) rfl ?_
        refine xg_goto X (pc := 35) (tgt := 3) d_L_writeTo_35 rfl ?_
        refine xg_weak [some (.ref (ad 4)), some (.ref (ad 1)), some (.int (nI cc0)), some (.int (nI st)), some (.int (nI (k + 1)))] ⟨rfl, rfl, rfl, rfl, by rw [← x_k1], trivial⟩ ?_
        refine xg_eq rfl (ar' := x_ua ar 0 (x_wr (ar 0) (ar 2) cc0 st (k + 1))) ?_ rfl (ih (k + 1) (by omega) (by omega))
        rw [x_ua_ua, x_ua_at, x_ixI, nI_clamp (n := cc0 + k * st) (by have := hin k hk3; omega), nI_clamp (n := k) (by omega)]
        rfl
  refine xg_iconst X (pc := 0) (v := 0) d_L_writeTo_0 (by decide) ?_
  refine xg_istore X (pc := 1) d_L_writeTo_1 (by decide) rfl ?_
  refine xg_weak [some (.ref (ad 4)), some (.ref (ad 1)), some (.int (nI cc0)), some (.int (nI st)), some (.int (nI 0))] ⟨rfl, rfl, rfl, rfl, rfl, trivial⟩ ?_
  exact xg_eq rfl (x_ua_id).symm rfl (loop (n0 + 1) 0 (by omega) (by omega))
set_option maxRecDepth 100000 in
set_option maxHeartbeats 4000000 in
theorem c_R_from (hd : x_dis ad) {n0 q : Nat} (hn : n0 ≤ 3000) (hq : q ≤ 4) : x_Con l M_R_from 0 0 ad D cI [.int (nI n0), .int (nI (2 ^ q))] sc ar (x_E (some (.int (nI (x_cd n0 q)))) sc ar) := by
  have hsm : ∀ k, k ≤ x_cd n0 q → k * 2 ^ q < 2 ^ 31 := by
    intro k hk
    have h9 : k ≤ 3000 := by
      have : x_cd n0 q ≤ n0 := x_cd_le.mpr (by have := Nat.mul_le_mul_left n0 (Nat.one_le_two_pow (n := q)); omega)
      omega
    have h8 : 2 ^ q ≤ 2 ^ 4 := Nat.pow_le_pow_right (by decide) hq
    have := Nat.mul_le_mul h9 h8
    omega
  refine x_intro hd [some (.int (nI n0)), some (.int (nI (2 ^ q))), none] (by decide) (Nat.le_of_ble_eq_true rfl) rfl ?_
  intro p e s m args below meth c X
  have loop : ∀ n k : Nat, (x_cd n0 q) - k < n → k ≤ (x_cd n0 q) → x_G p l e (x_rm 0 0) s m args below meth c M_R_from ad D cI (x_A ad) 0 0 (x_Q below args s ad D cI (x_E (some (.int (nI (x_cd n0 q)))) sc ar)) 2 [some (.int (nI n0)), some (.int (nI (2 ^ q))), some (.int (nI k))] [] sc ar := by
    intro n
    induction n with
    | zero => intro k h _; exact absurd h (Nat.not_lt_zero _)
    | succ n ih =>
      intro k hn hk
      refine xg_iload_n X (pc := 2) d_R_from_2 rfl ?_
      refine xg_iload_n X (pc := 3) d_R_from_3 rfl ?_
      refine xg_imul X (pc := 4) d_R_from_4 ?_
      refine xg_iload_n X (pc := 5) d_R_from_5 rfl ?_
      refine xg_icmp_ge X (pc := 6) (tgt := 15) d_R_from_6 rfl (fun h6 => ?_) (fun h6 => ?_)
      · rw [pk_mul] at h6
        have hk2 : k = x_cd n0 q := by
          have h9 := x_cd_le.mpr ((nI_leI (by omega) (hsm k hk)).mp h6)
          omega
        subst hk2
        refine xg_iload_n X (pc := 15) d_R_from_15 rfl ?_
        exact xg_iret X (pc := 16) d_R_from_16 rfl (rfl) (⟨rfl, rfl, rfl⟩)
      · rw [pk_mul] at h6
        have hk3 : k < x_cd n0 q := x_cd_lt.mp (Nat.lt_of_not_le fun q9 => h6 ((nI_leI (by omega) (hsm k hk)).mpr q9))
        refine xg_iinc X (pc := 9) d_R_from_9 rfl (x_inc (by decide : Int32.ofInt (1) = 1) _) (by decide) rfl ?_
        refine xg_goto X (pc := 12) (tgt := 2) d_R_from_12 rfl ?_
        refine xg_weak [some (.int (nI n0)), some (.int (nI (2 ^ q))), some (.int (nI (k + 1)))] ⟨rfl, rfl, by rw [← x_k1], trivial⟩ ?_
        exact ih (k + 1) (by omega) (by omega)
  refine xg_iconst X (pc := 0) (v := 0) d_R_from_0 (by decide) ?_
  refine xg_istore_n X (pc := 1) d_R_from_1 (by decide) rfl ?_
  refine xg_weak [some (.int (nI n0)), some (.int (nI (2 ^ q))), some (.int (nI 0))] ⟨rfl, rfl, rfl, trivial⟩ ?_
  exact loop (x_cd n0 q + 1) 0 (by omega) (by omega)
set_option maxRecDepth 100000 in
set_option maxHeartbeats 4000000 in
theorem c_R_work (hd : x_dis ad) {a : Int} {n0 : Nat} {w : Int32} (ha : sc 15 = zI a) (hb : sc 16 = zI (a + (n0 : Int) - 1)) (h0 : 0 ≤ a) (h3 : a + (n0 : Int) - 1 ≤ 2000) (hn0 : n0 ≤ 16) : x_Con l M_R_work 4 86 ad D cI [.ref (ad 7), .int w] sc ar (x_E none sc (x_ua ar 6 (x_fg (ar 6) (if w = 0 then x_fw (sc 17) (ar 5) a (a + (n0 : Int) - 1) else x_bw (sc 17) (ar 5) a (a + (n0 : Int) - 1)) n0))) := by
  refine x_intro hd [some (.ref (ad 7)), some (.int w), none] (by decide) (Nat.le_of_ble_eq_true rfl) rfl ?_
  intro p e s m args below meth c X
  have loop : ∀ n k : Nat, n0 - k < n → k ≤ n0 → x_G p l e (x_rm 4 86) s m args below meth c M_R_work ad D cI (x_A ad) 0 0 (x_Q below args s ad D cI (x_E none sc (x_ua ar 6 (x_fg (ar 6) (if w = 0 then x_fw (sc 17) (ar 5) a (a + (n0 : Int) - 1) else x_bw (sc 17) (ar 5) a (a + (n0 : Int) - 1)) n0)))) 5 [some (.ref (ad 7)), some (.int w), some (.int (zI (a + (k : Int))))] [] sc (x_ua ar 6 (x_fg (ar 6) (if w = 0 then x_fw (sc 17) (ar 5) a (a + (n0 : Int) - 1) else x_bw (sc 17) (ar 5) a (a + (n0 : Int) - 1)) k)) := by
    intro n
    induction n with
    | zero => intro k h _; exact absurd h (Nat.not_lt_zero _)
    | succ n ih =>
      intro k hn hk
      refine xg_iload_n X (pc := 5) d_R_work_5 rfl ?_
      refine xg_aload_n X (pc := 6) d_R_work_6 rfl ?_
      refine xf_R_60 X (pc := 7) rfl d_R_work_7 ?_
      refine xg_icmp_gt X (pc := 10) (tgt := 47) d_R_work_10 rfl (fun h10 => ?_) (fun h10 => ?_)
      · rw [hb, zI_lt _ _] at h10
        have hk2 : k = n0 := by omega
        subst hk2
        exact xg_vret X (pc := 47) d_R_work_47 rfl (⟨rfl, rfl, rfl⟩)
      · rw [hb, zI_lt _ _] at h10
        have hk3 : k < n0 := by omega
        refine xg_aload_n X (pc := 13) d_R_work_13 rfl ?_
        refine xf_R_19 X (pc := 14) rfl d_R_work_14 ?_
        refine xg_iload_n X (pc := 17) d_R_work_17 rfl ?_
        refine xg_aload_n X (pc := 18) d_R_work_18 rfl ?_
        refine xf_R_57 X (pc := 19) rfl d_R_work_19 ?_
        refine xg_isub X (pc := 22) d_R_work_22 ?_
        refine xg_iload_n X (pc := 23) d_R_work_23 rfl ?_
        refine xg_if_eq X (pc := 24) (tgt := 35) d_R_work_24 rfl (fun h24 => ?_) (fun h24 => ?_)
        · refine xg_aload_n X (pc := 35) d_R_work_35 rfl ?_
          refine xg_iload_n X (pc := 36) d_R_work_36 rfl ?_
          refine xg_crV1 X (pc := 37) d_R_work_37 (c_R_lifted hd ha hb h0 (by omega) (by omega) h3 rfl (by omega) (by omega)) s_R_93 ⟨_, rfl⟩ rfl ⟨by decide, by decide⟩ (Nat.le_of_ble_eq_true rfl) ?_
          refine xa_st11 X (pc := 40) d_R_work_40 (x_wl_in ha (by omega) (by omega)) ?_
          refine xg_iinc X (pc := 41) d_R_work_41 rfl (x_inc (by decide : Int32.ofInt (1) = 1) _) (by decide) rfl ?_
          refine xg_goto X (pc := 44) (tgt := 5) d_R_work_44 rfl ?_
          refine xg_weak [some (.ref (ad 7)), some (.int w), some (.int (zI (a + ((k + 1 : Nat) : Int))))] ⟨rfl, rfl, by rw [z_a1]; congr 3; omega, trivial⟩ ?_
          refine xg_eq rfl (ar' := x_ua ar 6 (x_fg (ar 6) (if w = 0 then x_fw (sc 17) (ar 5) a (a + (n0 : Int) - 1) else x_bw (sc 17) (ar 5) a (a + (n0 : Int) - 1)) (k + 1))) ?_ rfl (ih (k + 1) (by omega) (by omega))
          rw [x_ua_ua, x_ua_at, x_wl_cl ha (by omega) (by omega), show (a + (k : Int) - a).toNat = k by omega]
          refine congrArg _ (Eq.trans (congrArg _ ?_) x_fgs)
          first | (rw [if_pos h24]; rfl) | (rw [if_neg h24]; rfl)
        · refine xg_aload_n X (pc := 27) d_R_work_27 rfl ?_
          refine xg_iload_n X (pc := 28) d_R_work_28 rfl ?_
          refine xg_crV1 X (pc := 29) d_R_work_29 (c_R_liftedBack hd ha hb h0 (by omega) (by omega) h3 rfl (by omega) (by omega)) s_R_90 ⟨_, rfl⟩ rfl ⟨by decide, by decide⟩ (Nat.le_of_ble_eq_true rfl) ?_
          refine xg_goto X (pc := 32) (tgt := 40) d_R_work_32 rfl ?_
          refine xa_st11 X (pc := 40) d_R_work_40 (x_wl_in ha (by omega) (by omega)) ?_
          refine xg_iinc X (pc := 41) d_R_work_41 rfl (x_inc (by decide : Int32.ofInt (1) = 1) _) (by decide) rfl ?_
          refine xg_goto X (pc := 44) (tgt := 5) d_R_work_44 rfl ?_
          refine xg_weak [some (.ref (ad 7)), some (.int w), some (.int (zI (a + ((k + 1 : Nat) : Int))))] ⟨rfl, rfl, by rw [z_a1]; congr 3; omega, trivial⟩ ?_
          refine xg_eq rfl (ar' := x_ua ar 6 (x_fg (ar 6) (if w = 0 then x_fw (sc 17) (ar 5) a (a + (n0 : Int) - 1) else x_bw (sc 17) (ar 5) a (a + (n0 : Int) - 1)) (k + 1))) ?_ rfl (ih (k + 1) (by omega) (by omega))
          rw [x_ua_ua, x_ua_at, x_wl_cl ha (by omega) (by omega), show (a + (k : Int) - a).toNat = k by omega]
          refine congrArg _ (Eq.trans (congrArg _ ?_) x_fgs)
          first | (rw [if_pos h24]; rfl) | (rw [if_neg h24]; rfl)
  refine xg_aload_n X (pc := 0) d_R_work_0 rfl ?_
  refine xf_R_57 X (pc := 1) rfl d_R_work_1 ?_
  refine xg_istore_n X (pc := 4) d_R_work_4 (by decide) rfl ?_
  refine xg_weak [some (.ref (ad 7)), some (.int w), some (.int (zI (a + ((0 : Nat) : Int))))] ⟨rfl, rfl, by rw [ha]; congr 3; omega, trivial⟩ ?_
  exact xg_eq rfl (by rw [x_fg0, x_ua_id]) rfl (loop (n0 + 1) 0 (by omega) (by omega))
end C10
end
section
def x_sN (j : Nat) : Nat := if j = 0 then 1 else 16
theorem x_st_N {j : Nat} (hj : j < 2) : x_st j = nI (x_sN j) := by
  match j, hj with
  | 0, _ => rfl
  | 1, _ => rfl
theorem x_p31 {p : Nat} (hp : p ≤ 4) : nI p &&& 31 = nI p := by
  match p, hp with
  | 0, _ => decide
  | 1, _ => decide
  | 2, _ => decide
  | 3, _ => decide
  | 4, _ => decide
theorem x_psm {p : Nat} (hp : p ≤ 4) : ((nI p).toBitVec.smod 32).toNat = p := by
  match p, hp with
  | 0, _ => decide
  | 1, _ => decide
  | 2, _ => decide
  | 3, _ => decide
  | 4, _ => decide
theorem x_shl {x p : Nat} (hp : p ≤ 4) (hx : x ≤ 3000) : nI x <<< (nI p &&& 31) = nI (x * 2 ^ p) := by
  rw [x_p31 hp]
  refine pk_shlN (nI p) p (x_psm hp) ?_
  have h8 : 2 ^ p ≤ 2 ^ 4 := Nat.pow_le_pow_right (by decide) hp
  have := Nat.mul_le_mul hx h8
  omega
theorem x_shr {x p : Nat} (hp : p ≤ 4) (hx : x < 2 ^ 31) : nI x >>> (nI p &&& 31) = nI (x / 2 ^ p) := by
  rw [x_p31 hp]
  exact pk_shrN hx (nI p) p (x_psm hp)
theorem x_lfN {x p t : Nat} (hp : p ≤ 4) (hx : x ≤ 3000) (ht : t < 2 ^ p) : x_lf (nI x) (nI p) (nI t) = nI ((x + 2 ^ p - 1 - t) / 2 ^ p) := by
  have h8 : 2 ^ p ≤ 2 ^ 4 := Nat.pow_le_pow_right (by decide) hp
  have e1 : (1 : Int32) <<< (nI p &&& 31) = nI (2 ^ p) := by
    have := x_shl (x := 1) hp (by decide)
    rw [Nat.one_mul] at this
    exact this
  have e2 : nI x - nI t + nI (2 ^ p) - 1 = nI (x + 2 ^ p - 1 - t) := by
    show nI x - nI t + nI (2 ^ p) - nI 1 = _
    rw [← zI_nI, ← zI_nI, ← zI_nI, ← zI_nI, ← zI_nI, zI_sub, zI_add, zI_sub]
    congr 1
    omega
  unfold x_lf
  rw [e1, e2]
  exact x_shr hp (by omega)
theorem x_lf0 {x p : Nat} (hp : p ≤ 4) (hx : x ≤ 3000) : x_lf (nI x) (nI p) 0 = nI (x_cd x p) := by
  have := x_lfN (t := 0) hp hx (Nat.two_pow_pos p)
  rw [Nat.sub_zero] at this
  exact this
theorem x_offN {sc : Nat → Int32} {j b z : Nat} (hj : j < 2) (hb : sc (2 * j + 2) = nI b) (h : b ≤ z) (hz : z < 2 ^ 31) : (lN z - (sc (2 * j + 2)).toInt64).toInt32 * x_st j = nI ((z - b) * x_sN j) := by
  rw [hb, nI_l (by omega), lN_sub h, lN_i, x_st_N hj, pk_mul]
theorem x_m256 (q : Nat) : nI q * 256 = nI (q * 256) := pk_mul q 256
def x_LF (fwd : Bool) (kn : Int32) (v : Nat → Int32) (a b : Int) : Nat → Int32 := if fwd = true then x_fw kn v a b else x_bw kn v a b
def x_ln (fwd : Bool) (kn : Int32) (f : Nat → Int32) (c st : Nat) (a : Int) (n : Nat) : Nat → Int32 := x_wr f (x_LF fwd kn (fun i => f (c + i * st)) a (a + (n : Int) - 1)) c st n
def x_it (G : Nat → (Nat → Int32) → Nat → Int32) (f : Nat → Int32) : Nat → Nat → Int32
  | 0 => f
  | k + 1 => G k (x_it G f k)
theorem x_wr_ext {f v v' : Nat → Int32} {c st : Nat} : ∀ {n : Nat}, (∀ i, i < n → v i = v' i) → x_wr f v c st n = x_wr f v' c st n
  | 0, _ => rfl
  | n + 1, h => by
    show upd _ _ _ = upd _ _ _
    rw [x_wr_ext (n := n) (fun i hi => h i (by omega)), h n (by omega)]
section EXT
variable {v v' : Nat → Int32} {a b : Int} {k : Int32}
theorem x_vl_ext (h : a < b) (hv : ∀ i : Nat, (i : Int) ≤ b - a → v i = v' i) {z : Int} (h1 : a - 3 ≤ z) (h2 : z ≤ b + 3) : x_vl v a b z = x_vl v' a b z := by
  have := x_in_ok h h1 h2
  exact hv _ (by omega)
theorem x_P_ext (h : a < b) (hv : ∀ i : Nat, (i : Int) ≤ b - a → v i = v' i) {z : Int} (h1 : a ≤ z) (h2 : z ≤ b) : x_P k v a b z = x_P k v' a b z := by
  unfold x_P
  rw [x_vl_ext h hv (z := z - 1) (by omega) (by omega), x_vl_ext h hv (z := z + 1) (by omega) (by omega), x_vl_ext h hv (z := z - 3) (by omega) (by omega), x_vl_ext h hv (z := z + 3) (by omega) (by omega)]
theorem x_U_ext (h : a < b) (hv : ∀ i : Nat, (i : Int) ≤ b - a → v i = v' i) {z : Int} (h1 : a ≤ z) (h2 : z ≤ b) : x_U k v a b z = x_U k v' a b z := by
  unfold x_U
  rw [x_vl_ext h hv (z := z - 1) (by omega) (by omega), x_vl_ext h hv (z := z + 1) (by omega) (by omega)]
theorem x_lp_ext {q : Int} {F F' : Int → Int32 → Int32} (hv : ∀ i : Nat, (i : Int) ≤ b - a → v i = v' i) (hF : ∀ (z : Int) (x : Int32), a ≤ z → z ≤ b → F z x = F' z x) : ∀ i : Nat, (i : Int) ≤ b - a → x_lp q F v a (b + 1) i = x_lp q F' v' a (b + 1) i := by
  intro i hi
  unfold x_lp
  rw [hv i hi]
  by_cases h : (a + (i : Int)) % 2 = q ∧ a + (i : Int) < b + 1
  · rw [if_pos h, if_pos h, hF _ _ (by omega) (by omega)]
  · rw [if_neg h, if_neg h]
theorem x_LF_ext {fwd : Bool} (h : a ≤ b) (hv : ∀ i : Nat, (i : Int) ≤ b - a → v i = v' i) : ∀ i : Nat, (i : Int) ≤ b - a → x_LF fwd k v a b i = x_LF fwd k v' a b i := by
  intro i hi
  unfold x_LF x_fw x_bw
  by_cases e : a = b
  · have hi0 : i = 0 := by omega
    rw [if_pos e, if_pos e, if_pos e, if_pos e, hi0]
    have := hv 0 (by omega)
    cases fwd
    · have e0 : ∀ (P Q : Nat → Int32), (if false = true then P else Q) = Q := fun _ _ => rfl
      rw [e0, e0, pk_us, pk_us, this]
    · have e0 : ∀ (P Q : Nat → Int32), (if true = true then P else Q) = P := fun _ _ => rfl
      rw [e0, e0, pk_us, pk_us, this]
  · have hl : a < b := by omega
    rw [if_neg e, if_neg e, if_neg e, if_neg e]
    cases fwd
    · show x_g2 k v a b i = x_g2 k v' a b i
      have h1 : ∀ i : Nat, (i : Int) ≤ b - a → x_g1 k v a b i = x_g1 k v' a b i := x_lp_ext hv (fun z x h1 h2 => by rw [x_U_ext hl hv h1 h2])
      exact x_lp_ext h1 (fun z x h3 h4 => by rw [x_P_ext hl h1 h3 h4]) i hi
    · show x_f2 k v a b i = x_f2 k v' a b i
      have h1 : ∀ i : Nat, (i : Int) ≤ b - a → x_f1 k v a b i = x_f1 k v' a b i := x_lp_ext hv (fun z x h1 h2 => by rw [x_P_ext hl hv h1 h2])
      exact x_lp_ext h1 (fun z x h3 h4 => by rw [x_U_ext hl h1 h3 h4]) i hi
end EXT
theorem x_ln_eq {fwd : Bool} {kn : Int32} {f v : Nat → Int32} {c st n : Nat} {a : Int} (hn : 0 < n) : x_wr f (x_LF fwd kn (x_fg v (fun i => f (c + i * st)) n) a (a + (n : Int) - 1)) c st n = x_ln fwd kn f c st a n := by
  unfold x_ln
  exact x_wr_ext (fun i hi => x_LF_ext (by omega) (fun i hi => x_fg_lt (by omega)) i (by omega))
def x_lc (q p ba sa bc sb k : Nat) : Nat := q * 256 + (x_cd ba p * 2 ^ p - ba) * sa + ((x_cd bc p + k) * 2 ^ p - bc) * sb
def x_LL (fwd : Bool) (kn : Int32) (q p ba na sa bc sb : Nat) (f : Nat → Int32) (m : Nat) : Nat → Int32 := x_it (fun k g => x_ln fwd kn g (x_lc q p ba sa bc sb k) (sa * 2 ^ p) (x_cd ba p : Int) (x_cd (ba + na) p - x_cd ba p)) f m
theorem x_it_id {G : Nat → (Nat → Int32) → Nat → Int32} {f : Nat → Int32} (h : ∀ k g, G k g = g) : ∀ n, x_it G f n = f
  | 0 => rfl
  | n + 1 => by
    show G n _ = f
    rw [h, x_it_id h n]
theorem x_cin {q p ba na sa bc nc sb k i : Nat} (hp : p ≤ 3) (hq : q < 3) (hs : sa = 1 ∧ sb = 16 ∨ sa = 16 ∧ sb = 1) (hna : na ≤ 16) (hnc : nc ≤ 16) (hi : i < x_cd (ba + na) p - x_cd ba p) (hk : k < x_cd (bc + nc) p - x_cd bc p) : x_lc q p ba sa bc sb k + i * (sa * 2 ^ p) < 768 := by
  have h1 : (x_cd ba p + i) * 2 ^ p < ba + na := x_cd_lt.mpr (by omega)
  have h2 : (x_cd bc p + k) * 2 ^ p < bc + nc := x_cd_lt.mpr (by omega)
  have h3 : ba ≤ x_cd ba p * 2 ^ p := x_cd_le.mp (Nat.le_refl _)
  have h4 : bc ≤ x_cd bc p * 2 ^ p := x_cd_le.mp (Nat.le_refl _)
  unfold x_lc
  generalize x_cd ba p = A at *
  generalize x_cd bc p = B at *
  match p, hp with
  | 0, _ => rcases hs with ⟨rfl, rfl⟩ | ⟨rfl, rfl⟩ <;> omega
  | 1, _ => rcases hs with ⟨rfl, rfl⟩ | ⟨rfl, rfl⟩ <;> omega
  | 2, _ => rcases hs with ⟨rfl, rfl⟩ | ⟨rfl, rfl⟩ <;> omega
  | 3, _ => rcases hs with ⟨rfl, rfl⟩ | ⟨rfl, rfl⟩ <;> omega
theorem x_cdn {x n p : Nat} (hn : n ≤ 16) : x_cd (x + n) p - x_cd x p ≤ 16 := by
  by_cases h : x_cd (x + n) p ≤ x_cd x p
  · omega
  · have h1 : (x_cd (x + n) p - 1) * 2 ^ p < x + n := x_cd_lt.mpr (by omega)
    have h3 : x ≤ x_cd x p * 2 ^ p := x_cd_le.mp (Nat.le_refl _)
    have h4 : x_cd (x + n) p - 1 = x_cd x p + (x_cd (x + n) p - x_cd x p - 1) := by omega
    rw [h4, Nat.add_mul] at h1
    have h5 := Nat.mul_le_mul_left (x_cd (x + n) p - x_cd x p - 1) (Nat.one_le_two_pow (n := p))
    omega
theorem x_cdb {x p : Nat} : x_cd x p ≤ x := x_cd_le.mpr (by have := Nat.mul_le_mul_left x (Nat.one_le_two_pow (n := p)); omega)
theorem x_cds {x p n : Nat} (h : n < x) : x_cd n p * 2 ^ p ≤ n + 2 ^ p - 1 := by
  unfold x_cd
  exact Nat.div_mul_le_self _ _
abbrev x_LP (sc : Nat → Int32) (ar : Nat → Nat → Int32) (F : Nat → Int32) : Option Value → (Nat → Int32) → (Nat → Nat → Int32) → Prop := fun r sc' ar' => r = none ∧ (∀ i, i ≠ 6 → i ≠ 7 → sc' i = sc i) ∧ (∀ i, i ≠ 0 → i ≠ 2 → ar' i = ar i) ∧ ar' 0 = F
section SN
variable {l : Launch} {ad : Nat → Nat} {D : va_G} {cI : ClassId} {sc : Nat → Int32} {ar : Nat → Nat → Int32}
theorem c_S_countN (hd : x_dis ad) {j b n p : Nat} {p0 t0 : Int32} (hj : j < 2) (hb : sc (2 * j + 2) = nI b) (hn : sc (2 * j + 3) = nI n) (hp : p ≤ 4) (hbb : b ≤ 1000) (hnn : n ≤ 16) (ep : p0 = nI p) (et : t0 = 0) : x_Con l M_S_countOf 1 22 ad D cI [.ref (ad (j + 2)), .int p0, .int t0] sc ar (x_E (some (.int (nI (x_cd (b + n) p - x_cd b p)))) sc ar) := by
  subst ep
  subst et
  have e : x_lf (sc (2 * j + 2) + sc (2 * j + 3)) (nI p) 0 - x_lf (sc (2 * j + 2)) (nI p) 0 = nI (x_cd (b + n) p - x_cd b p) := by
    rw [hb, hn, nI_add, x_lf0 hp (by omega), x_lf0 hp (by omega), pk_sub (x_cd_mono (by omega))]
  rw [← e]
  exact c_S_countOf hd hj
theorem c_S_firstN (hd : x_dis ad) {j b p : Nat} {p0 t0 : Int32} (hj : j < 2) (hb : sc (2 * j + 2) = nI b) (hp : p ≤ 4) (hbb : b ≤ 1000) (ep : p0 = nI p) (et : t0 = 0) : x_Con l M_S_firstOf 1 22 ad D cI [.ref (ad (j + 2)), .int p0, .int t0] sc ar (x_E (some (.int (nI (x_cd b p)))) sc ar) := by
  subst ep
  subst et
  have e : x_lf (sc (2 * j + 2)) (nI p) 0 = nI (x_cd b p) := by rw [hb, x_lf0 hp (by omega)]
  rw [← e]
  exact c_S_firstOf hd hj
theorem c_S_offsetN (hd : x_dis ad) {j b z : Nat} {z0 : Int64} (hj : j < 2) (hb : sc (2 * j + 2) = nI b) (ez : z0 = lN z) (h : b ≤ z) (hz : z < 2 ^ 31) : x_Con l M_S_offsetOf 0 0 ad D cI [.ref (ad (j + 2)), .long z0] sc ar (x_E (some (.int (nI ((z - b) * x_sN j)))) sc ar) := by
  subst ez
  rw [← x_offN hj hb h hz]
  exact c_S_offsetOf hd hj
end SN
section C11
variable {l : Launch} {ad : Nat → Nat} {D : va_G} {cI : ClassId} {sc : Nat → Int32} {ar : Nat → Nat → Int32}
set_option maxRecDepth 100000 in
set_option maxHeartbeats 4000000 in
theorem c_T_liftLines (hd : x_dis ad) {j i q p0 ba na bc nc : Nat} {fwd : Bool} {kn w : Int32} (hj : j < 2) (hi : i < 2) (hij : i + j = 1) (hq : q < 3) (hp : p0 ≤ 3) (hp0 : sc 0 = nI p0) (hba : sc (2 * j + 2) = nI ba) (hna : sc (2 * j + 3) = nI na) (hbc : sc (2 * i + 2) = nI bc) (hnc : sc (2 * i + 3) = nI nc) (h1 : ba ≤ 1000) (h2 : na ≤ 16) (h3 : bc ≤ 1000) (h4 : nc ≤ 16) (hw : w = 0 ∧ fwd = false ∨ w = 1 ∧ fwd = true) : x_Con l M_T_liftLines 4 89 ad D cI [.ref (ad 0), .int (nI q), .ref (ad (j + 2)), .ref (ad (i + 2)), .int kn, .int w] sc ar (x_LP sc ar (x_LL fwd kn q p0 ba na (x_sN j) bc (x_sN i) (ar 0) (x_cd (bc + nc) p0 - x_cd bc p0))) := by
  have hs : x_sN j = 1 ∧ x_sN i = 16 ∨ x_sN j = 16 ∧ x_sN i = 1 := by
    match j, i, hj, hi, hij with
    | 0, 1, _, _, _ => exact Or.inl ⟨rfl, rfl⟩
    | 1, 0, _, _, _ => exact Or.inr ⟨rfl, rfl⟩
  have hA := x_cdb (x := ba) (p := p0)
  have hB := x_cdb (x := bc) (p := p0)
  have hE := x_cdb (x := bc + nc) (p := p0)
  have hN := x_cdn (x := ba) (p := p0) h2
  have hM := x_cd_mono (x := bc) (y := bc + nc) (p := p0) (by omega)
  have ga : ba ≤ x_cd ba p0 * 2 ^ p0 := x_cd_le.mp (Nat.le_refl _)
  have h16 : 2 ^ p0 ≤ 2 ^ 3 := Nat.pow_le_pow_right (by decide) hp
  refine x_intro hd [some (.ref (ad 0)), some (.int (nI q)), some (.ref (ad (j + 2))), some (.ref (ad (i + 2))), some (.int kn), some (.int w), none, none, none, none, none, none, none] (by decide) (Nat.le_of_ble_eq_true rfl) rfl ?_
  intro p e s m args below meth c X
  have loop : 0 < (x_cd (ba + na) p0 - x_cd ba p0) → ∀ (n k : Nat) (sc' : Nat → Int32) (ar' : Nat → Nat → Int32), (x_cd (bc + nc) p0 - x_cd bc p0) - k < n → k ≤ (x_cd (bc + nc) p0 - x_cd bc p0) → (∀ z, z ≠ 6 → z ≠ 7 → sc' z = sc z) → (∀ z, z ≠ 0 → z ≠ 2 → ar' z = ar z) → ar' 0 = x_LL fwd kn q p0 ba na (x_sN j) bc (x_sN i) (ar 0) k → x_G p l e (x_rm 4 89) s m args below meth c M_T_liftLines ad D cI (x_A ad) 0 0 (x_Q below args s ad D cI (x_LP sc ar (x_LL fwd kn q p0 ba na (x_sN j) bc (x_sN i) (ar 0) (x_cd (bc + nc) p0 - x_cd bc p0)))) 55 [some (.ref (ad 0)), some (.int (nI q)), some (.ref (ad (j + 2))), some (.ref (ad (i + 2))), some (.int kn), some (.int w), some (.int (nI p0)), some (.int (nI (x_cd (ba + na) p0 - x_cd ba p0))), some (.int (nI (x_cd ba p0))), some (.int (nI (x_cd bc p0))), some (.int (nI (x_cd (bc + nc) p0))), some (.int (nI (x_cd bc p0 + k))), none] [] sc' ar' := by
    intro hN0 n
    induction n with
    | zero => intro k sc' ar' h; exact absurd h (Nat.not_lt_zero _)
    | succ n ih =>
      intro k sc' ar' hn hk hsc har hf
      refine xg_iload X (pc := 55) d_T_liftLines_55 rfl ?_
      refine xg_iload X (pc := 57) d_T_liftLines_57 rfl ?_
      refine xg_icmp_ge X (pc := 59) (tgt := 167) d_T_liftLines_59 rfl (fun h59 => ?_) (fun h59 => ?_)
      · have hk2 : k = (x_cd (bc + nc) p0 - x_cd bc p0) := by
          have := x_ge rfl (by omega) (by omega) h59
          omega
        subst hk2
        exact xg_vret X (pc := 167) d_T_liftLines_167 rfl (⟨rfl, hsc, har, hf⟩)
      · have hk3 : k < (x_cd (bc + nc) p0 - x_cd bc p0) := by
          have := x_nge rfl (by omega) (by omega) h59
          omega
        have gk : bc ≤ (x_cd bc p0 + k) * 2 ^ p0 := x_cd_le.mp (by omega)
        have gk2 : (x_cd bc p0 + k) * 2 ^ p0 < bc + nc := x_cd_lt.mpr (by omega)
        have ga2 : x_cd ba p0 * 2 ^ p0 < ba + na := x_cd_lt.mpr (by omega)
        have hba' : sc' (2 * j + 2) = nI ba := by rw [hsc _ (by omega) (by omega)]; exact hba
        have hbc' : sc' (2 * i + 2) = nI bc := by rw [hsc _ (by omega) (by omega)]; exact hbc
        have est : x_st j <<< (nI p0 &&& 31) = nI (x_sN j * 2 ^ p0) := by rw [x_st_N hj, x_shl (by omega) (by omega)]
        refine xg_iload_n X (pc := 62) d_T_liftLines_62 rfl ?_
        refine xg_sipush X (pc := 63) (v := 256) d_T_liftLines_63 (by decide) ?_
        refine xg_imul X (pc := 66) d_T_liftLines_66 ?_
        refine xg_aload_n X (pc := 67) d_T_liftLines_67 rfl ?_
        refine xg_iload X (pc := 68) d_T_liftLines_68 rfl ?_
        refine xg_iload X (pc := 70) d_T_liftLines_70 rfl ?_
        refine xg_ishl X (pc := 72) d_T_liftLines_72 ?_
        refine xg_i2l X (pc := 73) d_T_liftLines_73 ?_
        refine xg_crV1 X (pc := 74) d_T_liftLines_74 (c_S_offsetN hd hj hba' (by rw [x_shl (by omega) (by omega), nI_l (by omega)]) ga (by omega)) s_T_131 (x_rcS hj) rfl ⟨by decide, by decide⟩ (Nat.le_of_ble_eq_true rfl) ?_
        refine xg_iadd X (pc := 77) d_T_liftLines_77 ?_
        refine xg_aload_n X (pc := 78) d_T_liftLines_78 rfl ?_
        refine xg_iload X (pc := 79) d_T_liftLines_79 rfl ?_
        refine xg_iload X (pc := 81) d_T_liftLines_81 rfl ?_
        refine xg_ishl X (pc := 83) d_T_liftLines_83 ?_
        refine xg_i2l X (pc := 84) d_T_liftLines_84 ?_
        refine xg_crV1 X (pc := 85) d_T_liftLines_85 (c_S_offsetN hd hi hbc' (by rw [x_shl (by omega) (by omega), nI_l (by omega)]) gk (by omega)) s_T_131 (x_rcS hi) rfl ⟨by decide, by decide⟩ (Nat.le_of_ble_eq_true rfl) ?_
        refine xg_iadd X (pc := 88) d_T_liftLines_88 ?_
        refine xg_istore X (pc := 89) d_T_liftLines_89 (by decide) rfl ?_
        refine xg_weak [some (.ref (ad 0)), some (.int (nI q)), some (.ref (ad (j + 2))), some (.ref (ad (i + 2))), some (.int kn), some (.int w), some (.int (nI p0)), some (.int (nI (x_cd (ba + na) p0 - x_cd ba p0))), some (.int (nI (x_cd ba p0))), some (.int (nI (x_cd bc p0))), some (.int (nI (x_cd (bc + nc) p0))), some (.int (nI (x_cd bc p0 + k))), some (.int (nI (x_lc q p0 ba (x_sN j) bc (x_sN i) k)))] ⟨rfl, rfl, rfl, rfl, rfl, rfl, rfl, rfl, rfl, rfl, rfl, rfl, by rw [x_m256, nI_add, nI_add]; rfl, trivial⟩ ?_
        refine xg_aload_n X (pc := 91) d_T_liftLines_91 rfl ?_
        refine xf_T_28 X (pc := 92) rfl d_T_liftLines_92 ?_
        refine xg_aload_n X (pc := 95) d_T_liftLines_95 rfl ?_
        refine xf_T_9 X (pc := 96) rfl d_T_liftLines_96 ?_
        refine xg_iload X (pc := 99) d_T_liftLines_99 rfl ?_
        refine xg_aload_n X (pc := 101) d_T_liftLines_101 rfl ?_
        refine xf_T_138_j X (pc := 102) hj rfl d_T_liftLines_102 ?_
        refine xg_iload X (pc := 105) d_T_liftLines_105 rfl ?_
        refine xg_ishl X (pc := 107) d_T_liftLines_107 ?_
        refine xg_iload X (pc := 108) d_T_liftLines_108 rfl ?_
        refine xg_iload X (pc := 110) d_T_liftLines_110 rfl ?_
        refine xg_cvV5 X (pc := 112) d_T_liftLines_112 (c_L_readFrom hd rfl est (zI_nI _).symm rfl hN (fun i hi9 => x_cin hp hq hs h2 h4 hi9 hk3)) s_T_141 ⟨_, rfl⟩ rfl ⟨by decide, by decide⟩ (Nat.le_of_ble_eq_true rfl) ?_
        refine xg_iload X (pc := 115) d_T_liftLines_115 rfl ?_
        refine xg_if_eq X (pc := 117) (tgt := 132) d_T_liftLines_117 rfl (fun h117 => ?_) (fun h117 => ?_)
        · have hfw0 : fwd = false := by
            rcases hw with ⟨-, h⟩ | ⟨h, -⟩
            · exact h
            · rw [h] at h117; exact absurd h117 (by decide)
          subst hfw0
          refine xg_aload_n X (pc := 132) d_T_liftLines_132 rfl ?_
          refine xf_T_28 X (pc := 133) rfl d_T_liftLines_133 ?_
          refine xg_iload X (pc := 136) d_T_liftLines_136 rfl ?_
          refine xg_cvV1 X (pc := 138) d_T_liftLines_138 (c_L_liftBack hd rfl rfl (by omega) (by omega) (by omega) (by omega)) s_T_148 ⟨_, rfl⟩ rfl ⟨by decide, by decide⟩ (Nat.le_of_ble_eq_true rfl) ?_
          refine xg_aload_n X (pc := 141) d_T_liftLines_141 rfl ?_
          refine xf_T_28 X (pc := 142) rfl d_T_liftLines_142 ?_
          refine xg_aload_n X (pc := 145) d_T_liftLines_145 rfl ?_
          refine xf_T_9 X (pc := 146) rfl d_T_liftLines_146 ?_
          refine xg_iload X (pc := 149) d_T_liftLines_149 rfl ?_
          refine xg_aload_n X (pc := 151) d_T_liftLines_151 rfl ?_
          refine xf_T_138_j X (pc := 152) hj rfl d_T_liftLines_152 ?_
          refine xg_iload X (pc := 155) d_T_liftLines_155 rfl ?_
          refine xg_ishl X (pc := 157) d_T_liftLines_157 ?_
          refine xg_cvV3 X (pc := 158) d_T_liftLines_158 (c_L_writeTo hd rfl est rfl rfl (by omega) (by omega) hN (fun i hi9 => x_cin hp hq hs h2 h4 hi9 hk3)) s_T_151 ⟨_, rfl⟩ rfl ⟨by decide, by decide⟩ (Nat.le_of_ble_eq_true rfl) ?_
          refine xg_iinc X (pc := 161) d_T_liftLines_161 rfl (x_inc (by decide : Int32.ofInt (1) = 1) _) (by decide) rfl ?_
          refine xg_goto X (pc := 164) (tgt := 55) d_T_liftLines_164 rfl ?_
          refine xg_weak [some (.ref (ad 0)), some (.int (nI q)), some (.ref (ad (j + 2))), some (.ref (ad (i + 2))), some (.int kn), some (.int w), some (.int (nI p0)), some (.int (nI (x_cd (ba + na) p0 - x_cd ba p0))), some (.int (nI (x_cd ba p0))), some (.int (nI (x_cd bc p0))), some (.int (nI (x_cd (bc + nc) p0))), some (.int (nI (x_cd bc p0 + (k + 1)))), none] ⟨rfl, rfl, rfl, rfl, rfl, rfl, rfl, rfl, rfl, rfl, rfl, by rw [x_k1] <;> rfl, trivial⟩ ?_
          refine ih (k + 1) _ _ (by omega) (by omega) ?_ ?_ ?_
          · intro z h6 h7
            rw [← hsc z h6 h7]
            show upd (upd sc' 6 _) 7 _ z = _
            rw [pk_un h7, pk_un h6]
          · intro z h6 h7
            rw [← har z h6 h7]
            rw [x_ua_ne h6, x_ua_ne h7, x_ua_ne h7]
          · show x_wr (ar' 0) _ _ _ _ = x_ln _ _ (x_LL _ kn q p0 ba na (x_sN j) bc (x_sN i) (ar 0) k) _ _ _ _
            rw [← hf, x_ua_at, x_ua_at]
            first
            | exact x_ln_eq (fwd := true) hN0
            | exact x_ln_eq (fwd := false) hN0
        · have hfw0 : fwd = true := by
            rcases hw with ⟨h, -⟩ | ⟨-, h⟩
            · exact absurd h h117
            · exact h
          subst hfw0
          refine xg_aload_n X (pc := 120) d_T_liftLines_120 rfl ?_
          refine xf_T_28 X (pc := 121) rfl d_T_liftLines_121 ?_
          refine xg_iload X (pc := 124) d_T_liftLines_124 rfl ?_
          refine xg_cvV1 X (pc := 126) d_T_liftLines_126 (c_L_liftForth hd rfl rfl (by omega) (by omega) (by omega) (by omega)) s_T_145 ⟨_, rfl⟩ rfl ⟨by decide, by decide⟩ (Nat.le_of_ble_eq_true rfl) ?_
          refine xg_goto X (pc := 129) (tgt := 141) d_T_liftLines_129 rfl ?_
          refine xg_aload_n X (pc := 141) d_T_liftLines_141 rfl ?_
          refine xf_T_28 X (pc := 142) rfl d_T_liftLines_142 ?_
          refine xg_aload_n X (pc := 145) d_T_liftLines_145 rfl ?_
          refine xf_T_9 X (pc := 146) rfl d_T_liftLines_146 ?_
          refine xg_iload X (pc := 149) d_T_liftLines_149 rfl ?_
          refine xg_aload_n X (pc := 151) d_T_liftLines_151 rfl ?_
          refine xf_T_138_j X (pc := 152) hj rfl d_T_liftLines_152 ?_
          refine xg_iload X (pc := 155) d_T_liftLines_155 rfl ?_
          refine xg_ishl X (pc := 157) d_T_liftLines_157 ?_
          refine xg_cvV3 X (pc := 158) d_T_liftLines_158 (c_L_writeTo hd rfl est rfl rfl (by omega) (by omega) hN (fun i hi9 => x_cin hp hq hs h2 h4 hi9 hk3)) s_T_151 ⟨_, rfl⟩ rfl ⟨by decide, by decide⟩ (Nat.le_of_ble_eq_true rfl) ?_
          refine xg_iinc X (pc := 161) d_T_liftLines_161 rfl (x_inc (by decide : Int32.ofInt (1) = 1) _) (by decide) rfl ?_
          refine xg_goto X (pc := 164) (tgt := 55) d_T_liftLines_164 rfl ?_
          refine xg_weak [some (.ref (ad 0)), some (.int (nI q)), some (.ref (ad (j + 2))), some (.ref (ad (i + 2))), some (.int kn), some (.int w), some (.int (nI p0)), some (.int (nI (x_cd (ba + na) p0 - x_cd ba p0))), some (.int (nI (x_cd ba p0))), some (.int (nI (x_cd bc p0))), some (.int (nI (x_cd (bc + nc) p0))), some (.int (nI (x_cd bc p0 + (k + 1)))), none] ⟨rfl, rfl, rfl, rfl, rfl, rfl, rfl, rfl, rfl, rfl, rfl, by rw [x_k1] <;> rfl, trivial⟩ ?_
          refine ih (k + 1) _ _ (by omega) (by omega) ?_ ?_ ?_
          · intro z h6 h7
            rw [← hsc z h6 h7]
            show upd (upd sc' 6 _) 7 _ z = _
            rw [pk_un h7, pk_un h6]
          · intro z h6 h7
            rw [← har z h6 h7]
            rw [x_ua_ne h6, x_ua_ne h7, x_ua_ne h7]
          · show x_wr (ar' 0) _ _ _ _ = x_ln _ _ (x_LL _ kn q p0 ba na (x_sN j) bc (x_sN i) (ar 0) k) _ _ _ _
            rw [← hf, x_ua_at, x_ua_at]
            first
            | exact x_ln_eq (fwd := true) hN0
            | exact x_ln_eq (fwd := false) hN0
  refine xg_aload_n X (pc := 0) d_T_liftLines_0 rfl ?_
  refine xf_T_35 X (pc := 1) rfl d_T_liftLines_1 ?_
  rw [hp0]
  refine xg_istore X (pc := 4) d_T_liftLines_4 (by decide) rfl ?_
  refine xg_aload_n X (pc := 6) d_T_liftLines_6 rfl ?_
  refine xg_iload X (pc := 7) d_T_liftLines_7 rfl ?_
  refine xg_iconst X (pc := 9) (v := 0) d_T_liftLines_9 (by decide) ?_
  refine xg_crV2 X (pc := 10) d_T_liftLines_10 (c_S_countN hd hj hba hna (by omega) h1 h2 rfl rfl) s_T_101 (x_rcS hj) rfl ⟨by decide, by decide⟩ (Nat.le_of_ble_eq_true rfl) ?_
  refine xg_istore X (pc := 13) d_T_liftLines_13 (by decide) rfl ?_
  refine xg_iload X (pc := 15) d_T_liftLines_15 rfl ?_
  refine xg_if_ne X (pc := 17) (tgt := 21) d_T_liftLines_17 rfl (fun h17 => ?_) (fun h17 => ?_)
  · have hN0 : 0 < (x_cd (ba + na) p0 - x_cd ba p0) := Nat.pos_of_ne_zero fun q9 => h17 (by rw [q9]; rfl)
    refine xg_aload_n X (pc := 21) d_T_liftLines_21 rfl ?_
    refine xg_iload X (pc := 22) d_T_liftLines_22 rfl ?_
    refine xg_iconst X (pc := 24) (v := 0) d_T_liftLines_24 (by decide) ?_
    refine xg_crV2 X (pc := 25) d_T_liftLines_25 (c_S_firstN hd hj hba (by omega) h1 rfl rfl) s_T_95 (x_rcS hj) rfl ⟨by decide, by decide⟩ (Nat.le_of_ble_eq_true rfl) ?_
    refine xg_istore X (pc := 28) d_T_liftLines_28 (by decide) rfl ?_
    refine xg_aload_n X (pc := 30) d_T_liftLines_30 rfl ?_
    refine xg_iload X (pc := 31) d_T_liftLines_31 rfl ?_
    refine xg_iconst X (pc := 33) (v := 0) d_T_liftLines_33 (by decide) ?_
    refine xg_crV2 X (pc := 34) d_T_liftLines_34 (c_S_firstN hd hi hbc (by omega) h3 rfl rfl) s_T_95 (x_rcS hi) rfl ⟨by decide, by decide⟩ (Nat.le_of_ble_eq_true rfl) ?_
    refine xg_istore X (pc := 37) d_T_liftLines_37 (by decide) rfl ?_
    refine xg_iload X (pc := 39) d_T_liftLines_39 rfl ?_
    refine xg_aload_n X (pc := 41) d_T_liftLines_41 rfl ?_
    refine xg_iload X (pc := 42) d_T_liftLines_42 rfl ?_
    refine xg_iconst X (pc := 44) (v := 0) d_T_liftLines_44 (by decide) ?_
    refine xg_crV2 X (pc := 45) d_T_liftLines_45 (c_S_countN hd hi hbc hnc (by omega) h3 h4 rfl rfl) s_T_101 (x_rcS hi) rfl ⟨by decide, by decide⟩ (Nat.le_of_ble_eq_true rfl) ?_
    refine xg_iadd X (pc := 48) d_T_liftLines_48 ?_
    refine xg_istore X (pc := 49) d_T_liftLines_49 (by decide) rfl ?_
    refine xg_iload X (pc := 51) d_T_liftLines_51 rfl ?_
    refine xg_istore X (pc := 53) d_T_liftLines_53 (by decide) rfl ?_
    refine xg_weak [some (.ref (ad 0)), some (.int (nI q)), some (.ref (ad (j + 2))), some (.ref (ad (i + 2))), some (.int kn), some (.int w), some (.int (nI p0)), some (.int (nI (x_cd (ba + na) p0 - x_cd ba p0))), some (.int (nI (x_cd ba p0))), some (.int (nI (x_cd bc p0))), some (.int (nI (x_cd (bc + nc) p0))), some (.int (nI (x_cd bc p0 + 0))), none] ⟨rfl, rfl, rfl, rfl, rfl, rfl, rfl, rfl, rfl, rfl, by rw [nI_add]; congr 3; omega, by rw [Nat.add_zero], trivial⟩ ?_
    exact loop hN0 _ 0 sc ar (Nat.lt_succ_self _) (by omega) (fun _ _ _ => rfl) (fun _ _ _ => rfl) rfl
  · have hN0 : (x_cd (ba + na) p0 - x_cd ba p0) = 0 := (nI_eq (by omega) (by decide)).mp h17
    exact xg_vret X (pc := 20) d_T_liftLines_20 rfl (⟨rfl, fun _ _ _ => rfl, fun _ _ _ => rfl, by unfold x_LL; rw [x_it_id]; intro k g; unfold x_ln; rw [hN0]; rfl⟩)
end C11
end
section
theorem c_R_fromN {l : Launch} {ad : Nat → Nat} {D : va_G} {cI : ClassId} {sc : Nat → Int32} {ar : Nat → Nat → Int32} (hd : x_dis ad) {n0 q : Nat} {y1 y2 : Int32} (e1 : y1 = nI n0) (e2 : y2 = nI (2 ^ q)) (hn : n0 ≤ 3000) (hq : q ≤ 4) : x_Con l M_R_from 0 0 ad D cI [.int y1, .int y2] sc ar (x_E (some (.int (nI (x_cd n0 q)))) sc ar) := by
  subst e1
  subst e2
  exact c_R_from hd hn hq
def x_ix (q lf tp u v : Nat) : Nat := q * 256 + (v - tp) * 16 + (u - lf)
theorem x_rcN {sc : Nat → Int32} {q lf tp u v : Nat} (h9 : sc 9 = nI lf) (h10 : sc 10 = nI tp) (hu : lf ≤ u) (hv : tp ≤ v) : x_rc sc (nI q) (nI u) (nI v) = nI (x_ix q lf tp u v) := by
  show 256 * nI q + 16 * (nI v - sc 10) + nI u - sc 9 = _
  rw [h9, h10, pk_sub hv]
  show nI 256 * nI q + nI 16 * nI (v - tp) + nI u - nI lf = _
  rw [pk_mul, pk_mul, nI_add, nI_add, pk_sub (by omega)]
  unfold x_ix
  congr 1
  omega
abbrev x_RC (sc : Nat → Int32) (lf tp ww hh : Nat) : Prop := ¬ sc 8 = 0 ∧ sc 9 = nI lf ∧ sc 10 = nI tp ∧ sc 11 = nI ww ∧ sc 12 = nI hh ∧ lf ≤ 1000 ∧ tp ≤ 1000 ∧ ww ≤ 16 ∧ hh ≤ 16
theorem x_rpN {sc : Nat → Int32} {lf tp ww hh u v : Nat} (hc : x_RC sc lf tp ww hh) (hu : u < 2 ^ 30) (hv : v < 2 ^ 30) : x_rp sc (nI u) (nI v) ↔ (lf ≤ u ∧ u < lf + ww ∧ tp ≤ v ∧ v < tp + hh) := by
  obtain ⟨h8, h9, h10, h11, h12, b1, b2, b3, b4⟩ := hc
  unfold x_rp
  rw [h9, h10, h11, h12, nI_add, nI_add, nI_ltI (by omega) (by omega), nI_leI (by omega) (by omega), nI_ltI (by omega) (by omega), nI_leI (by omega) (by omega)]
  constructor
  · rintro ⟨-, a1, a2, a3, a4⟩
    omega
  · intro h
    exact ⟨h8, by omega, by omega, by omega, by omega⟩
theorem x_plN {q : Nat} (hq : q < 3) : ¬ nI q < 0 ∧ ¬ 2 < nI q := by
  match q, hq with
  | 0, _ => decide
  | 1, _ => decide
  | 2, _ => decide
section RN
variable {l : Launch} {ad : Nat → Nat} {D : va_G} {cI : ClassId} {sc : Nat → Int32} {ar : Nat → Nat → Int32}
theorem c_R_cellN (hd : x_dis ad) {q lf tp u v : Nat} {u0 v0 : Int32} (h9 : sc 9 = nI lf) (h10 : sc 10 = nI tp) (hu : lf ≤ u) (hv : tp ≤ v) (eu : u0 = nI u) (ev : v0 = nI v) : x_Con l M_R_cell 0 0 ad D cI [.ref (ad 7), .int (nI q), .int u0, .int v0] sc ar (x_E (some (.int (nI (x_ix q lf tp u v)))) sc ar) := by
  subst eu
  subst ev
  rw [← x_rcN h9 h10 hu hv]
  exact c_R_cell hd
theorem c_R_atN (hd : x_dis ad) {q lf tp ww hh u v : Nat} {u0 v0 : Int32} (hc : x_RC sc lf tp ww hh) (hq : q < 3) (hu : lf ≤ u) (hu2 : u < lf + ww) (hv : tp ≤ v) (hv2 : v < tp + hh) (eu : u0 = nI u) (ev : v0 = nI v) : x_Con l M_R_at 1 23 ad D cI [.ref (ad 7), .int (nI q), .int u0, .int v0] sc ar (x_E (some (.int (ar 4 (x_ix q lf tp u v)))) sc ar) := by
  subst eu
  subst ev
  have hc' := hc
  obtain ⟨h8, h9, h10, h11, h12, b1, b2, b3, b4⟩ := hc'
  have hr := x_rcN (q := q) h9 h10 hu hv
  have hlt : x_ix q lf tp u v < 768 := by unfold x_ix; omega
  have hcd : (¬ nI q < 0 ∧ ¬ 2 < nI q) ∧ x_rp sc (nI u) (nI v) := ⟨x_plN hq, (x_rpN hc (by omega) (by omega)).mpr ⟨hu, hu2, hv, hv2⟩⟩
  have h := c_R_at (l := l) (D := D) (cI := cI) (sc := sc) (ar := ar) hd (pl := nI q) (u := nI u) (v := nI v) (fun _ => by rw [hr]; exact vp_in_nI hlt (by decide))
  rw [if_pos hcd, hr, nI_clamp (by omega)] at h
  exact h
end RN
theorem x_wr0 {f v : Nat → Int32} {c st : Nat} : x_wr f v c st 0 = f := rfl
theorem x_ln_eq0 {fwd : Bool} {kn : Int32} {f v : Nat → Int32} {c st : Nat} {a : Int} : ∀ {n : Nat}, x_wr f (x_LF fwd kn (x_fg v (fun i => f (c + i * st)) n) a (a + (n : Int) - 1)) c st n = x_ln fwd kn f c st a n
  | 0 => by
    rw [x_wr0]
    unfold x_ln
    rw [x_wr0]
  | _ + 1 => x_ln_eq (Nat.succ_pos _)
abbrev x_RP (sc : Nat → Int32) (ar : Nat → Nat → Int32) (F : Nat → Int32) : Option Value → (Nat → Int32) → (Nat → Nat → Int32) → Prop := fun r sc' ar' => r = none ∧ (∀ i, i ≠ 15 → i ≠ 16 → sc' i = sc i) ∧ (∀ i, i ≠ 4 → i ≠ 5 → i ≠ 6 → ar' i = ar i) ∧ ar' 4 = F
theorem x_cdpos {x n p : Nat} (h : 0 < n) : 1 ≤ x_cd (x + n) p := by
  have := @x_cd_lt (x + n) p 0
  omega
theorem x_ixc {q lf tp u A k p : Nat} (hp : p ≤ 3) (h : tp ≤ A * 2 ^ p) : x_ix q lf tp u ((A + k) * 2 ^ p) = (q * 256 + (A * 2 ^ p - tp) * 16 + (u - lf)) + k * (16 * 2 ^ p) := by
  unfold x_ix
  match p, hp with
  | 0, _ => omega
  | 1, _ => omega
  | 2, _ => omega
  | 3, _ => omega
theorem x_ixr {q lf tp v A k p : Nat} (hp : p ≤ 3) (h : lf ≤ A * 2 ^ p) : x_ix q lf tp ((A + k) * 2 ^ p) v = (q * 256 + (A * 2 ^ p - lf) * 1 + (v - tp) * 16) + k * (1 * 2 ^ p) := by
  unfold x_ix
  match p, hp with
  | 0, _ => omega
  | 1, _ => omega
  | 2, _ => omega
  | 3, _ => omega
section C12
variable {l : Launch} {ad : Nat → Nat} {D : va_G} {cI : ClassId} {sc : Nat → Int32} {ar : Nat → Nat → Int32}
set_option maxRecDepth 100000 in
set_option maxHeartbeats 800000 in
theorem c_R_column (hd : x_dis ad) {q p0 xx lf tp ww hh : Nat} {fwd : Bool} {w : Int32} (hc : x_RC sc lf tp ww hh) (hq : q < 3) (hp : p0 ≤ 3) (hx1 : lf ≤ xx) (hx2 : xx < lf + ww) (hpos : 0 < hh) (hw : w = 0 ∧ fwd = true ∨ ¬ w = 0 ∧ fwd = false) : x_Con l M_R_column 5 108 ad D cI [.ref (ad 7), .int (nI q), .int (nI xx), .int (nI (2 ^ p0)), .int w] sc ar (x_RP sc ar (x_ln fwd (sc 17) (ar 4) (q * 256 + (x_cd tp p0 * 2 ^ p0 - tp) * 16 + (xx - lf)) (16 * 2 ^ p0) ((x_cd tp p0) : Int) (x_cd (tp + hh) p0 - x_cd tp p0))) := by
  obtain ⟨h8, h9, h10, h11, h12, b1, b2, b3, b4⟩ := id hc
  have hA := x_cdb (x := tp) (p := p0)
  have hE := x_cdb (x := tp + hh) (p := p0)
  have hN := x_cdn (x := tp) (n := hh) (p := p0) (by omega)
  have hM := x_cd_mono (x := tp) (y := tp + hh) (p := p0) (by omega)
  have hB1 := x_cdpos (x := tp) (p := p0) hpos
  have ga : tp ≤ x_cd tp p0 * 2 ^ p0 := x_cd_le.mp (Nat.le_refl _)
  have h16 : 2 ^ p0 ≤ 2 ^ 3 := Nat.pow_le_pow_right (by decide) hp
  have hc1 : x_RC (upd (upd sc 15 (nI (x_cd tp p0))) 16 (nI (x_cd (tp + hh) p0 - 1))) lf tp ww hh := ⟨h8, h9, h10, h11, h12, b1, b2, b3, b4⟩
  refine x_intro hd [some (.ref (ad 7)), some (.int (nI q)), some (.int (nI xx)), some (.int (nI (2 ^ p0))), some (.int w), none] (by decide) (Nat.le_of_ble_eq_true rfl) rfl ?_
  intro p e s m args below meth c X
  have hlt : ∀ k, k < (x_cd (tp + hh) p0 - x_cd tp p0) → (q * 256 + (x_cd tp p0 * 2 ^ p0 - tp) * 16 + (xx - lf)) + k * (16 * 2 ^ p0) < 768 := by
    intro k hk3
    have gk : tp ≤ ((x_cd tp p0) + k) * 2 ^ p0 := x_cd_le.mp (by omega)
    have gk2 : ((x_cd tp p0) + k) * 2 ^ p0 < tp + hh := x_cd_lt.mpr (by omega)
    rw [← x_ixc (k := k) hp ga]
    unfold x_ix
    omega
  have hfin : x_wr (ar 4) (x_LF fwd (sc 17) (x_fg (ar 5) (fun i => ar 4 ((q * 256 + (x_cd tp p0 * 2 ^ p0 - tp) * 16 + (xx - lf)) + i * (16 * 2 ^ p0))) (x_cd (tp + hh) p0 - x_cd tp p0)) ((x_cd tp p0) : Int) (((x_cd tp p0) : Int) + ((x_cd (tp + hh) p0 - x_cd tp p0) : Nat) - 1)) (q * 256 + (x_cd tp p0 * 2 ^ p0 - tp) * 16 + (xx - lf)) (16 * 2 ^ p0) (x_cd (tp + hh) p0 - x_cd tp p0) = (x_ln fwd (sc 17) (ar 4) (q * 256 + (x_cd tp p0 * 2 ^ p0 - tp) * 16 + (xx - lf)) (16 * 2 ^ p0) ((x_cd tp p0) : Int) (x_cd (tp + hh) p0 - x_cd tp p0)) := x_ln_eq0
  have loop2 : ∀ n k : Nat, (x_cd (tp + hh) p0 - x_cd tp p0) - k < n → k ≤ (x_cd (tp + hh) p0 - x_cd tp p0) → x_G p l e (x_rm 5 108) s m args below meth c M_R_column ad D cI (x_A ad) 0 0 (x_Q below args s ad D cI (x_RP sc ar (x_ln fwd (sc 17) (ar 4) (q * 256 + (x_cd tp p0 * 2 ^ p0 - tp) * 16 + (xx - lf)) (16 * 2 ^ p0) ((x_cd tp p0) : Int) (x_cd (tp + hh) p0 - x_cd tp p0)))) 86 [some (.ref (ad 7)), some (.int (nI q)), some (.int (nI xx)), some (.int (nI (2 ^ p0))), some (.int w), some (.int (nI ((x_cd tp p0) + k)))] [] (upd (upd sc 15 (nI (x_cd tp p0))) 16 (nI (x_cd (tp + hh) p0 - 1))) (x_ua (x_ua (x_ua ar 5 (x_fg (ar 5) (fun i => ar 4 ((q * 256 + (x_cd tp p0 * 2 ^ p0 - tp) * 16 + (xx - lf)) + i * (16 * 2 ^ p0))) (x_cd (tp + hh) p0 - x_cd tp p0))) 6 (x_fg (ar 6) (x_LF fwd (sc 17) (x_fg (ar 5) (fun i => ar 4 ((q * 256 + (x_cd tp p0 * 2 ^ p0 - tp) * 16 + (xx - lf)) + i * (16 * 2 ^ p0))) (x_cd (tp + hh) p0 - x_cd tp p0)) ((x_cd tp p0) : Int) (((x_cd tp p0) : Int) + ((x_cd (tp + hh) p0 - x_cd tp p0) : Nat) - 1)) (x_cd (tp + hh) p0 - x_cd tp p0))) 4 (x_wr (ar 4) (x_fg (ar 6) (x_LF fwd (sc 17) (x_fg (ar 5) (fun i => ar 4 ((q * 256 + (x_cd tp p0 * 2 ^ p0 - tp) * 16 + (xx - lf)) + i * (16 * 2 ^ p0))) (x_cd (tp + hh) p0 - x_cd tp p0)) ((x_cd tp p0) : Int) (((x_cd tp p0) : Int) + ((x_cd (tp + hh) p0 - x_cd tp p0) : Nat) - 1)) (x_cd (tp + hh) p0 - x_cd tp p0)) (q * 256 + (x_cd tp p0 * 2 ^ p0 - tp) * 16 + (xx - lf)) (16 * 2 ^ p0) k)) := by
    intro n
    induction n with
    | zero => intro k h _; exact absurd h (Nat.not_lt_zero _)
    | succ n ih =>
      intro k hn hk
      refine xg_iload X (pc := 86) d_R_column_86 rfl ?_
      refine xg_aload_n X (pc := 88) d_R_column_88 rfl ?_
      refine xf_R_60 X (pc := 89) rfl d_R_column_89 ?_
      refine xg_icmp_gt X (pc := 92) (tgt := 128) d_R_column_92 rfl (fun h92 => ?_) (fun h92 => ?_)
      · have hk2 : k = (x_cd (tp + hh) p0 - x_cd tp p0) := by
          have q9 : nI (x_cd (tp + hh) p0 - 1) < nI ((x_cd tp p0) + k) := h92
          rw [nI_ltI (by omega) (by omega)] at q9
          omega
        subst hk2
        exact xg_vret X (pc := 128) d_R_column_128 rfl (⟨rfl, fun z z1 z2 => by rw [pk_un z2, pk_un z1], fun z z1 z2 z3 => by rw [x_ua_ne z1, x_ua_ne z3, x_ua_ne z2], (x_wr_ext (fun i hi => x_fg_lt hi)).trans (hfin)⟩)
      · have hk3 : k < (x_cd (tp + hh) p0 - x_cd tp p0) := by
          have q9 : ¬ nI (x_cd (tp + hh) p0 - 1) < nI ((x_cd tp p0) + k) := h92
          rw [nI_ltI (by omega) (by omega)] at q9
          omega
        have gk : tp ≤ ((x_cd tp p0) + k) * 2 ^ p0 := x_cd_le.mp (by omega)
        have gk2 : ((x_cd tp p0) + k) * 2 ^ p0 < tp + hh := x_cd_lt.mpr (by omega)
        refine xg_aload_n X (pc := 95) d_R_column_95 rfl ?_
        refine xf_R_13 X (pc := 96) rfl d_R_column_96 ?_
        refine xg_aload_n X (pc := 99) d_R_column_99 rfl ?_
        refine xg_iload_n X (pc := 100) d_R_column_100 rfl ?_
        refine xg_iload_n X (pc := 101) d_R_column_101 rfl ?_
        refine xg_iload X (pc := 102) d_R_column_102 rfl ?_
        refine xg_iload_n X (pc := 104) d_R_column_104 rfl ?_
        refine xg_imul X (pc := 105) d_R_column_105 ?_
        refine xg_crV3 X (pc := 106) d_R_column_106 (c_R_cellN hd hc1.2.1 hc1.2.2.1 (by omega) gk rfl (pk_mul _ _)) s_R_53 ⟨_, rfl⟩ rfl ⟨by decide, by decide⟩ (Nat.le_of_ble_eq_true rfl) ?_
        refine xg_aload_n X (pc := 109) d_R_column_109 rfl ?_
        refine xf_R_19 X (pc := 110) rfl d_R_column_110 ?_
        refine xg_iload X (pc := 113) d_R_column_113 rfl ?_
        refine xg_aload_n X (pc := 115) d_R_column_115 rfl ?_
        refine xf_R_57 X (pc := 116) rfl d_R_column_116 ?_
        refine xg_isub X (pc := 119) d_R_column_119 ?_
        refine xa_ld11 X (pc := 120) d_R_column_120 (by show vp_in (nI ((x_cd tp p0) + k) - nI (x_cd tp p0)) 16; rw [(show nI ((x_cd tp p0) + k) - nI (x_cd tp p0) = nI k by rw [pk_sub (by omega)]; congr 1; omega)]; exact vp_in_nI (by omega) (by decide)) ?_
        refine xa_st9 X (pc := 121) d_R_column_121 (by rw [x_ixc hp ga]; exact vp_in_nI (hlt k hk3) (by decide)) ?_
        refine xg_iinc X (pc := 122) d_R_column_122 rfl (x_inc (by decide : Int32.ofInt (1) = 1) _) (by decide) rfl ?_
        refine xg_goto X (pc := 125) (tgt := 86) d_R_column_125 rfl ?_
        refine xg_weak [some (.ref (ad 7)), some (.int (nI q)), some (.int (nI xx)), some (.int (nI (2 ^ p0))), some (.int w), some (.int (nI ((x_cd tp p0) + (k + 1))))] ⟨rfl, rfl, rfl, rfl, rfl, by rw [x_k1] <;> rfl, trivial⟩ ?_
        refine xg_eq rfl (ar' := (x_ua (x_ua (x_ua ar 5 (x_fg (ar 5) (fun i => ar 4 ((q * 256 + (x_cd tp p0 * 2 ^ p0 - tp) * 16 + (xx - lf)) + i * (16 * 2 ^ p0))) (x_cd (tp + hh) p0 - x_cd tp p0))) 6 (x_fg (ar 6) (x_LF fwd (sc 17) (x_fg (ar 5) (fun i => ar 4 ((q * 256 + (x_cd tp p0 * 2 ^ p0 - tp) * 16 + (xx - lf)) + i * (16 * 2 ^ p0))) (x_cd (tp + hh) p0 - x_cd tp p0)) ((x_cd tp p0) : Int) (((x_cd tp p0) : Int) + ((x_cd (tp + hh) p0 - x_cd tp p0) : Nat) - 1)) (x_cd (tp + hh) p0 - x_cd tp p0))) 4 (x_wr (ar 4) (x_fg (ar 6) (x_LF fwd (sc 17) (x_fg (ar 5) (fun i => ar 4 ((q * 256 + (x_cd tp p0 * 2 ^ p0 - tp) * 16 + (xx - lf)) + i * (16 * 2 ^ p0))) (x_cd (tp + hh) p0 - x_cd tp p0)) ((x_cd tp p0) : Int) (((x_cd tp p0) : Int) + ((x_cd (tp + hh) p0 - x_cd tp p0) : Nat) - 1)) (x_cd (tp + hh) p0 - x_cd tp p0)) (q * 256 + (x_cd tp p0 * 2 ^ p0 - tp) * 16 + (xx - lf)) (16 * 2 ^ p0) (k + 1)))) ?_ rfl (ih (k + 1) (by omega) (by omega))
        rw [x_ua_ua, x_ua_at]
        refine congrArg _ ?_
        rw [show (nI ((x_cd tp p0) + k) - (upd (upd sc 15 (nI (x_cd tp p0))) 16 (nI (x_cd (tp + hh) p0 - 1))) 15).toNatClampNeg = k from by show (nI ((x_cd tp p0) + k) - nI (x_cd tp p0)).toNatClampNeg = k; rw [(show nI ((x_cd tp p0) + k) - nI (x_cd tp p0) = nI k by rw [pk_sub (by omega)]; congr 1; omega), nI_clamp (by omega)], x_ixc hp ga, nI_clamp (by have := hlt k hk3; omega)]
        rfl
  have loop1 : x_G p l e (x_rm 5 108) s m args below meth c M_R_column ad D cI (x_A ad) 0 0 (x_Q below args s ad D cI (x_RP sc ar (x_ln fwd (sc 17) (ar 4) (q * 256 + (x_cd tp p0 * 2 ^ p0 - tp) * 16 + (xx - lf)) (16 * 2 ^ p0) ((x_cd tp p0) : Int) (x_cd (tp + hh) p0 - x_cd tp p0)))) 74 [some (.ref (ad 7)), some (.int (nI q)), some (.int (nI xx)), some (.int (nI (2 ^ p0))), some (.int w), some (.int (nI ((x_cd tp p0) + (x_cd (tp + hh) p0 - x_cd tp p0))))] [] (upd (upd sc 15 (nI (x_cd tp p0))) 16 (nI (x_cd (tp + hh) p0 - 1))) (x_ua ar 5 (x_fg (ar 5) (fun i => ar 4 ((q * 256 + (x_cd tp p0 * 2 ^ p0 - tp) * 16 + (xx - lf)) + i * (16 * 2 ^ p0))) (x_cd (tp + hh) p0 - x_cd tp p0))) → ∀ n k : Nat, (x_cd (tp + hh) p0 - x_cd tp p0) - k < n → k ≤ (x_cd (tp + hh) p0 - x_cd tp p0) → x_G p l e (x_rm 5 108) s m args below meth c M_R_column ad D cI (x_A ad) 0 0 (x_Q below args s ad D cI (x_RP sc ar (x_ln fwd (sc 17) (ar 4) (q * 256 + (x_cd tp p0 * 2 ^ p0 - tp) * 16 + (xx - lf)) (16 * 2 ^ p0) ((x_cd tp p0) : Int) (x_cd (tp + hh) p0 - x_cd tp p0)))) 37 [some (.ref (ad 7)), some (.int (nI q)), some (.int (nI xx)), some (.int (nI (2 ^ p0))), some (.int w), some (.int (nI ((x_cd tp p0) + k)))] [] (upd (upd sc 15 (nI (x_cd tp p0))) 16 (nI (x_cd (tp + hh) p0 - 1))) (x_ua ar 5 (x_fg (ar 5) (fun i => ar 4 ((q * 256 + (x_cd tp p0 * 2 ^ p0 - tp) * 16 + (xx - lf)) + i * (16 * 2 ^ p0))) k)) := by
    intro cont n
    induction n with
    | zero => intro k h _; exact absurd h (Nat.not_lt_zero _)
    | succ n ih =>
      intro k hn hk
      refine xg_iload X (pc := 37) d_R_column_37 rfl ?_
      refine xg_aload_n X (pc := 39) d_R_column_39 rfl ?_
      refine xf_R_60 X (pc := 40) rfl d_R_column_40 ?_
      refine xg_icmp_gt X (pc := 43) (tgt := 74) d_R_column_43 rfl (fun h43 => ?_) (fun h43 => ?_)
      · have hk2 : k = (x_cd (tp + hh) p0 - x_cd tp p0) := by
          have q9 : nI (x_cd (tp + hh) p0 - 1) < nI ((x_cd tp p0) + k) := h43
          rw [nI_ltI (by omega) (by omega)] at q9
          omega
        subst hk2
        exact cont
      · have hk3 : k < (x_cd (tp + hh) p0 - x_cd tp p0) := by
          have q9 : ¬ nI (x_cd (tp + hh) p0 - 1) < nI ((x_cd tp p0) + k) := h43
          rw [nI_ltI (by omega) (by omega)] at q9
          omega
        have gk : tp ≤ ((x_cd tp p0) + k) * 2 ^ p0 := x_cd_le.mp (by omega)
        have gk2 : ((x_cd tp p0) + k) * 2 ^ p0 < tp + hh := x_cd_lt.mpr (by omega)
        refine xg_aload_n X (pc := 46) d_R_column_46 rfl ?_
        refine xf_R_16 X (pc := 47) rfl d_R_column_47 ?_
        refine xg_iload X (pc := 50) d_R_column_50 rfl ?_
        refine xg_aload_n X (pc := 52) d_R_column_52 rfl ?_
        refine xf_R_57 X (pc := 53) rfl d_R_column_53 ?_
        refine xg_isub X (pc := 56) d_R_column_56 ?_
        refine xg_aload_n X (pc := 57) d_R_column_57 rfl ?_
        refine xg_iload_n X (pc := 58) d_R_column_58 rfl ?_
        refine xg_iload_n X (pc := 59) d_R_column_59 rfl ?_
        refine xg_iload X (pc := 60) d_R_column_60 rfl ?_
        refine xg_iload_n X (pc := 62) d_R_column_62 rfl ?_
        refine xg_imul X (pc := 63) d_R_column_63 ?_
        refine xg_crV3 X (pc := 64) d_R_column_64 (c_R_atN hd hc1 hq (by omega) (by omega) gk gk2 rfl (pk_mul _ _)) s_R_99 ⟨_, rfl⟩ rfl ⟨by decide, by decide⟩ (Nat.le_of_ble_eq_true rfl) ?_
        refine xa_st10 X (pc := 67) d_R_column_67 (by show vp_in (nI ((x_cd tp p0) + k) - nI (x_cd tp p0)) 16; rw [(show nI ((x_cd tp p0) + k) - nI (x_cd tp p0) = nI k by rw [pk_sub (by omega)]; congr 1; omega)]; exact vp_in_nI (by omega) (by decide)) ?_
        refine xg_iinc X (pc := 68) d_R_column_68 rfl (x_inc (by decide : Int32.ofInt (1) = 1) _) (by decide) rfl ?_
        refine xg_goto X (pc := 71) (tgt := 37) d_R_column_71 rfl ?_
        refine xg_weak [some (.ref (ad 7)), some (.int (nI q)), some (.int (nI xx)), some (.int (nI (2 ^ p0))), some (.int w), some (.int (nI ((x_cd tp p0) + (k + 1))))] ⟨rfl, rfl, rfl, rfl, rfl, by rw [x_k1] <;> rfl, trivial⟩ ?_
        refine xg_eq rfl (ar' := (x_ua ar 5 (x_fg (ar 5) (fun i => ar 4 ((q * 256 + (x_cd tp p0 * 2 ^ p0 - tp) * 16 + (xx - lf)) + i * (16 * 2 ^ p0))) (k + 1)))) ?_ rfl (ih (k + 1) (by omega) (by omega))
        rw [x_ua_ua, x_ua_at]
        refine congrArg _ (Eq.trans ?_ x_fgs)
        rw [show (nI ((x_cd tp p0) + k) - (upd (upd sc 15 (nI (x_cd tp p0))) 16 (nI (x_cd (tp + hh) p0 - 1))) 15).toNatClampNeg = k from by show (nI ((x_cd tp p0) + k) - nI (x_cd tp p0)).toNatClampNeg = k; rw [(show nI ((x_cd tp p0) + k) - nI (x_cd tp p0) = nI k by rw [pk_sub (by omega)]; congr 1; omega), nI_clamp (by omega)]]
        refine congrArg _ ?_
        show ar 4 _ = ar 4 _
        rw [x_ixc hp ga]
  have cont : x_G p l e (x_rm 5 108) s m args below meth c M_R_column ad D cI (x_A ad) 0 0 (x_Q below args s ad D cI (x_RP sc ar (x_ln fwd (sc 17) (ar 4) (q * 256 + (x_cd tp p0 * 2 ^ p0 - tp) * 16 + (xx - lf)) (16 * 2 ^ p0) ((x_cd tp p0) : Int) (x_cd (tp + hh) p0 - x_cd tp p0)))) 74 [some (.ref (ad 7)), some (.int (nI q)), some (.int (nI xx)), some (.int (nI (2 ^ p0))), some (.int w), some (.int (nI ((x_cd tp p0) + (x_cd (tp + hh) p0 - x_cd tp p0))))] [] (upd (upd sc 15 (nI (x_cd tp p0))) 16 (nI (x_cd (tp + hh) p0 - 1))) (x_ua ar 5 (x_fg (ar 5) (fun i => ar 4 ((q * 256 + (x_cd tp p0 * 2 ^ p0 - tp) * 16 + (xx - lf)) + i * (16 * 2 ^ p0))) (x_cd (tp + hh) p0 - x_cd tp p0))) := by
    refine xg_aload_n X (pc := 74) d_R_column_74 rfl ?_
    refine xg_iload X (pc := 75) d_R_column_75 rfl ?_
    refine xg_cvV1 X (pc := 77) d_R_column_77 (c_R_work hd (zI_nI _).symm (by show nI (x_cd (tp + hh) p0 - 1) = _; rw [← zI_nI]; congr 1; omega) (by omega) (by omega) hN) s_R_102 ⟨_, rfl⟩ rfl ⟨by decide, by decide⟩ (Nat.le_of_ble_eq_true rfl) ?_
    refine xg_aload_n X (pc := 80) d_R_column_80 rfl ?_
    refine xf_R_57 X (pc := 81) rfl d_R_column_81 ?_
    refine xg_istore X (pc := 84) d_R_column_84 (by decide) rfl ?_
    refine xg_weak [some (.ref (ad 7)), some (.int (nI q)), some (.int (nI xx)), some (.int (nI (2 ^ p0))), some (.int w), some (.int (nI ((x_cd tp p0) + 0)))] ⟨rfl, rfl, rfl, rfl, rfl, rfl, trivial⟩ ?_
    refine xg_eq rfl (ar' := (x_ua (x_ua (x_ua ar 5 (x_fg (ar 5) (fun i => ar 4 ((q * 256 + (x_cd tp p0 * 2 ^ p0 - tp) * 16 + (xx - lf)) + i * (16 * 2 ^ p0))) (x_cd (tp + hh) p0 - x_cd tp p0))) 6 (x_fg (ar 6) (x_LF fwd (sc 17) (x_fg (ar 5) (fun i => ar 4 ((q * 256 + (x_cd tp p0 * 2 ^ p0 - tp) * 16 + (xx - lf)) + i * (16 * 2 ^ p0))) (x_cd (tp + hh) p0 - x_cd tp p0)) ((x_cd tp p0) : Int) (((x_cd tp p0) : Int) + ((x_cd (tp + hh) p0 - x_cd tp p0) : Nat) - 1)) (x_cd (tp + hh) p0 - x_cd tp p0))) 4 (x_wr (ar 4) (x_fg (ar 6) (x_LF fwd (sc 17) (x_fg (ar 5) (fun i => ar 4 ((q * 256 + (x_cd tp p0 * 2 ^ p0 - tp) * 16 + (xx - lf)) + i * (16 * 2 ^ p0))) (x_cd (tp + hh) p0 - x_cd tp p0)) ((x_cd tp p0) : Int) (((x_cd tp p0) : Int) + ((x_cd (tp + hh) p0 - x_cd tp p0) : Nat) - 1)) (x_cd (tp + hh) p0 - x_cd tp p0)) (q * 256 + (x_cd tp p0 * 2 ^ p0 - tp) * 16 + (xx - lf)) (16 * 2 ^ p0) 0))) ?_ rfl (loop2 _ 0 (Nat.lt_succ_self _) (by omega))
    have e8 : (if w = 0 then x_fw (sc 17) (x_fg (ar 5) (fun i => ar 4 ((q * 256 + (x_cd tp p0 * 2 ^ p0 - tp) * 16 + (xx - lf)) + i * (16 * 2 ^ p0))) (x_cd (tp + hh) p0 - x_cd tp p0)) ((x_cd tp p0) : Int) (((x_cd tp p0) : Int) + ((x_cd (tp + hh) p0 - x_cd tp p0) : Nat) - 1) else x_bw (sc 17) (x_fg (ar 5) (fun i => ar 4 ((q * 256 + (x_cd tp p0 * 2 ^ p0 - tp) * 16 + (xx - lf)) + i * (16 * 2 ^ p0))) (x_cd (tp + hh) p0 - x_cd tp p0)) ((x_cd tp p0) : Int) (((x_cd tp p0) : Int) + ((x_cd (tp + hh) p0 - x_cd tp p0) : Nat) - 1)) = (x_LF fwd (sc 17) (x_fg (ar 5) (fun i => ar 4 ((q * 256 + (x_cd tp p0 * 2 ^ p0 - tp) * 16 + (xx - lf)) + i * (16 * 2 ^ p0))) (x_cd (tp + hh) p0 - x_cd tp p0)) ((x_cd tp p0) : Int) (((x_cd tp p0) : Int) + ((x_cd (tp + hh) p0 - x_cd tp p0) : Nat) - 1)) := by
      unfold x_LF
      rcases hw with ⟨e5, e6⟩ | ⟨e5, e6⟩
      · rw [if_pos e5, e6, if_pos rfl]
      · rw [if_neg e5, e6, if_neg (by decide)]
    show x_ua (x_ua ar 5 (x_fg (ar 5) (fun i => ar 4 ((q * 256 + (x_cd tp p0 * 2 ^ p0 - tp) * 16 + (xx - lf)) + i * (16 * 2 ^ p0))) (x_cd (tp + hh) p0 - x_cd tp p0))) 6 (x_fg (ar 6) (if w = 0 then x_fw (sc 17) (x_fg (ar 5) (fun i => ar 4 ((q * 256 + (x_cd tp p0 * 2 ^ p0 - tp) * 16 + (xx - lf)) + i * (16 * 2 ^ p0))) (x_cd (tp + hh) p0 - x_cd tp p0)) ((x_cd tp p0) : Int) (((x_cd tp p0) : Int) + ((x_cd (tp + hh) p0 - x_cd tp p0) : Nat) - 1) else x_bw (sc 17) (x_fg (ar 5) (fun i => ar 4 ((q * 256 + (x_cd tp p0 * 2 ^ p0 - tp) * 16 + (xx - lf)) + i * (16 * 2 ^ p0))) (x_cd (tp + hh) p0 - x_cd tp p0)) ((x_cd tp p0) : Int) (((x_cd tp p0) : Int) + ((x_cd (tp + hh) p0 - x_cd tp p0) : Nat) - 1)) (x_cd (tp + hh) p0 - x_cd tp p0)) = x_ua (x_ua (x_ua ar 5 (x_fg (ar 5) (fun i => ar 4 ((q * 256 + (x_cd tp p0 * 2 ^ p0 - tp) * 16 + (xx - lf)) + i * (16 * 2 ^ p0))) (x_cd (tp + hh) p0 - x_cd tp p0))) 6 (x_fg (ar 6) (x_LF fwd (sc 17) (x_fg (ar 5) (fun i => ar 4 ((q * 256 + (x_cd tp p0 * 2 ^ p0 - tp) * 16 + (xx - lf)) + i * (16 * 2 ^ p0))) (x_cd (tp + hh) p0 - x_cd tp p0)) ((x_cd tp p0) : Int) (((x_cd tp p0) : Int) + ((x_cd (tp + hh) p0 - x_cd tp p0) : Nat) - 1)) (x_cd (tp + hh) p0 - x_cd tp p0))) 4 (ar 4)
    rw [e8]
    exact (x_ua_id (ar := (x_ua (x_ua ar 5 (x_fg (ar 5) (fun i => ar 4 ((q * 256 + (x_cd tp p0 * 2 ^ p0 - tp) * 16 + (xx - lf)) + i * (16 * 2 ^ p0))) (x_cd (tp + hh) p0 - x_cd tp p0))) 6 (x_fg (ar 6) (x_LF fwd (sc 17) (x_fg (ar 5) (fun i => ar 4 ((q * 256 + (x_cd tp p0 * 2 ^ p0 - tp) * 16 + (xx - lf)) + i * (16 * 2 ^ p0))) (x_cd (tp + hh) p0 - x_cd tp p0)) ((x_cd tp p0) : Int) (((x_cd tp p0) : Int) + ((x_cd (tp + hh) p0 - x_cd tp p0) : Nat) - 1)) (x_cd (tp + hh) p0 - x_cd tp p0)))) (j := 4)).symm
  refine xg_aload_n X (pc := 0) d_R_column_0 rfl ?_
  refine xg_aload_n X (pc := 1) d_R_column_1 rfl ?_
  refine xf_R_33 X (pc := 2) rfl d_R_column_2 ?_
  refine xg_iload_n X (pc := 5) d_R_column_5 rfl ?_
  refine xg_crS2 X (pc := 6) d_R_column_6 (c_R_fromN hd h10 rfl (by omega) (by omega)) s_R_96 ⟨by decide, by decide⟩ (Nat.le_of_ble_eq_true rfl) ?_
  refine xp_R_57 X (pc := 9) rfl d_R_column_9 ?_
  refine xg_aload_n X (pc := 12) d_R_column_12 rfl ?_
  refine xg_aload_n X (pc := 13) d_R_column_13 rfl ?_
  refine xf_R_33 X (pc := 14) rfl d_R_column_14 ?_
  refine xg_aload_n X (pc := 17) d_R_column_17 rfl ?_
  refine xf_R_36 X (pc := 18) rfl d_R_column_18 ?_
  refine xg_iadd X (pc := 21) d_R_column_21 ?_
  refine xg_iload_n X (pc := 22) d_R_column_22 rfl ?_
  refine xg_crS2 X (pc := 23) d_R_column_23 (c_R_fromN hd (by show sc _ + sc _ = _; rw [h10, h12, nI_add]) rfl (by omega) (by omega)) s_R_96 ⟨by decide, by decide⟩ (Nat.le_of_ble_eq_true rfl) ?_
  refine xg_iconst X (pc := 26) (v := 1) d_R_column_26 (by decide) ?_
  refine xg_isub X (pc := 27) d_R_column_27 ?_
  refine xg_eq rfl rfl (st := [.int (nI (x_cd (tp + hh) p0 - 1)), .ref (ad 7)]) (by show [Value.int (nI _ - nI 1), _] = _; rw [pk_sub hB1]) ?_
  refine xp_R_60 X (pc := 28) rfl d_R_column_28 ?_
  refine xg_aload_n X (pc := 31) d_R_column_31 rfl ?_
  refine xf_R_57 X (pc := 32) rfl d_R_column_32 ?_
  refine xg_istore X (pc := 35) d_R_column_35 (by decide) rfl ?_
  refine xg_weak [some (.ref (ad 7)), some (.int (nI q)), some (.int (nI xx)), some (.int (nI (2 ^ p0))), some (.int w), some (.int (nI ((x_cd tp p0) + 0)))] ⟨rfl, rfl, rfl, rfl, rfl, rfl, trivial⟩ ?_
  exact xg_eq rfl (by rw [x_fg0, x_ua_id]) rfl (loop1 cont _ 0 (Nat.lt_succ_self _) (by omega))
set_option maxRecDepth 100000 in
set_option maxHeartbeats 800000 in
theorem c_R_row (hd : x_dis ad) {q p0 xx lf tp ww hh : Nat} {fwd : Bool} {w : Int32} (hc : x_RC sc lf tp ww hh) (hq : q < 3) (hp : p0 ≤ 3) (hx1 : tp ≤ xx) (hx2 : xx < tp + hh) (hpos : 0 < ww) (hw : w = 0 ∧ fwd = true ∨ ¬ w = 0 ∧ fwd = false) : x_Con l M_R_row 5 108 ad D cI [.ref (ad 7), .int (nI q), .int (nI xx), .int (nI (2 ^ p0)), .int w] sc ar (x_RP sc ar (x_ln fwd (sc 17) (ar 4) (q * 256 + (x_cd lf p0 * 2 ^ p0 - lf) * 1 + (xx - tp) * 16) (1 * 2 ^ p0) ((x_cd lf p0) : Int) (x_cd (lf + ww) p0 - x_cd lf p0))) := by
  obtain ⟨h8, h9, h10, h11, h12, b1, b2, b3, b4⟩ := id hc
  have hA := x_cdb (x := lf) (p := p0)
  have hE := x_cdb (x := lf + ww) (p := p0)
  have hN := x_cdn (x := lf) (n := ww) (p := p0) (by omega)
  have hM := x_cd_mono (x := lf) (y := lf + ww) (p := p0) (by omega)
  have hB1 := x_cdpos (x := lf) (p := p0) hpos
  have ga : lf ≤ x_cd lf p0 * 2 ^ p0 := x_cd_le.mp (Nat.le_refl _)
  have h16 : 2 ^ p0 ≤ 2 ^ 3 := Nat.pow_le_pow_right (by decide) hp
  have hc1 : x_RC (upd (upd sc 15 (nI (x_cd lf p0))) 16 (nI (x_cd (lf + ww) p0 - 1))) lf tp ww hh := ⟨h8, h9, h10, h11, h12, b1, b2, b3, b4⟩
  refine x_intro hd [some (.ref (ad 7)), some (.int (nI q)), some (.int (nI xx)), some (.int (nI (2 ^ p0))), some (.int w), none] (by decide) (Nat.le_of_ble_eq_true rfl) rfl ?_
  intro p e s m args below meth c X
  have hlt : ∀ k, k < (x_cd (lf + ww) p0 - x_cd lf p0) → (q * 256 + (x_cd lf p0 * 2 ^ p0 - lf) * 1 + (xx - tp) * 16) + k * (1 * 2 ^ p0) < 768 := by
    intro k hk3
    have gk : lf ≤ ((x_cd lf p0) + k) * 2 ^ p0 := x_cd_le.mp (by omega)
    have gk2 : ((x_cd lf p0) + k) * 2 ^ p0 < lf + ww := x_cd_lt.mpr (by omega)
    rw [← x_ixr (k := k) hp ga]
    unfold x_ix
    omega
  have hfin : x_wr (ar 4) (x_LF fwd (sc 17) (x_fg (ar 5) (fun i => ar 4 ((q * 256 + (x_cd lf p0 * 2 ^ p0 - lf) * 1 + (xx - tp) * 16) + i * (1 * 2 ^ p0))) (x_cd (lf + ww) p0 - x_cd lf p0)) ((x_cd lf p0) : Int) (((x_cd lf p0) : Int) + ((x_cd (lf + ww) p0 - x_cd lf p0) : Nat) - 1)) (q * 256 + (x_cd lf p0 * 2 ^ p0 - lf) * 1 + (xx - tp) * 16) (1 * 2 ^ p0) (x_cd (lf + ww) p0 - x_cd lf p0) = (x_ln fwd (sc 17) (ar 4) (q * 256 + (x_cd lf p0 * 2 ^ p0 - lf) * 1 + (xx - tp) * 16) (1 * 2 ^ p0) ((x_cd lf p0) : Int) (x_cd (lf + ww) p0 - x_cd lf p0)) := x_ln_eq0
  have loop2 : ∀ n k : Nat, (x_cd (lf + ww) p0 - x_cd lf p0) - k < n → k ≤ (x_cd (lf + ww) p0 - x_cd lf p0) → x_G p l e (x_rm 5 108) s m args below meth c M_R_row ad D cI (x_A ad) 0 0 (x_Q below args s ad D cI (x_RP sc ar (x_ln fwd (sc 17) (ar 4) (q * 256 + (x_cd lf p0 * 2 ^ p0 - lf) * 1 + (xx - tp) * 16) (1 * 2 ^ p0) ((x_cd lf p0) : Int) (x_cd (lf + ww) p0 - x_cd lf p0)))) 86 [some (.ref (ad 7)), some (.int (nI q)), some (.int (nI xx)), some (.int (nI (2 ^ p0))), some (.int w), some (.int (nI ((x_cd lf p0) + k)))] [] (upd (upd sc 15 (nI (x_cd lf p0))) 16 (nI (x_cd (lf + ww) p0 - 1))) (x_ua (x_ua (x_ua ar 5 (x_fg (ar 5) (fun i => ar 4 ((q * 256 + (x_cd lf p0 * 2 ^ p0 - lf) * 1 + (xx - tp) * 16) + i * (1 * 2 ^ p0))) (x_cd (lf + ww) p0 - x_cd lf p0))) 6 (x_fg (ar 6) (x_LF fwd (sc 17) (x_fg (ar 5) (fun i => ar 4 ((q * 256 + (x_cd lf p0 * 2 ^ p0 - lf) * 1 + (xx - tp) * 16) + i * (1 * 2 ^ p0))) (x_cd (lf + ww) p0 - x_cd lf p0)) ((x_cd lf p0) : Int) (((x_cd lf p0) : Int) + ((x_cd (lf + ww) p0 - x_cd lf p0) : Nat) - 1)) (x_cd (lf + ww) p0 - x_cd lf p0))) 4 (x_wr (ar 4) (x_fg (ar 6) (x_LF fwd (sc 17) (x_fg (ar 5) (fun i => ar 4 ((q * 256 + (x_cd lf p0 * 2 ^ p0 - lf) * 1 + (xx - tp) * 16) + i * (1 * 2 ^ p0))) (x_cd (lf + ww) p0 - x_cd lf p0)) ((x_cd lf p0) : Int) (((x_cd lf p0) : Int) + ((x_cd (lf + ww) p0 - x_cd lf p0) : Nat) - 1)) (x_cd (lf + ww) p0 - x_cd lf p0)) (q * 256 + (x_cd lf p0 * 2 ^ p0 - lf) * 1 + (xx - tp) * 16) (1 * 2 ^ p0) k)) := by
    intro n
    induction n with
    | zero => intro k h _; exact absurd h (Nat.not_lt_zero _)
    | succ n ih =>
      intro k hn hk
      refine xg_iload X (pc := 86) d_R_row_86 rfl ?_
      refine xg_aload_n X (pc := 88) d_R_row_88 rfl ?_
      refine xf_R_60 X (pc := 89) rfl d_R_row_89 ?_
      refine xg_icmp_gt X (pc := 92) (tgt := 128) d_R_row_92 rfl (fun h92 => ?_) (fun h92 => ?_)
      · have hk2 : k = (x_cd (lf + ww) p0 - x_cd lf p0) := by
          have q9 : nI (x_cd (lf + ww) p0 - 1) < nI ((x_cd lf p0) + k) := h92
          rw [nI_ltI (by omega) (by omega)] at q9
          omega
        subst hk2
        exact xg_vret X (pc := 128) d_R_row_128 rfl (⟨rfl, fun z z1 z2 => by rw [pk_un z2, pk_un z1], fun z z1 z2 z3 => by rw [x_ua_ne z1, x_ua_ne z3, x_ua_ne z2], (x_wr_ext (fun i hi => x_fg_lt hi)).trans (hfin)⟩)
      · have hk3 : k < (x_cd (lf + ww) p0 - x_cd lf p0) := by
          have q9 : ¬ nI (x_cd (lf + ww) p0 - 1) < nI ((x_cd lf p0) + k) := h92
          rw [nI_ltI (by omega) (by omega)] at q9
          omega
        have gk : lf ≤ ((x_cd lf p0) + k) * 2 ^ p0 := x_cd_le.mp (by omega)
        have gk2 : ((x_cd lf p0) + k) * 2 ^ p0 < lf + ww := x_cd_lt.mpr (by omega)
        refine xg_aload_n X (pc := 95) d_R_row_95 rfl ?_
        refine xf_R_13 X (pc := 96) rfl d_R_row_96 ?_
        refine xg_aload_n X (pc := 99) d_R_row_99 rfl ?_
        refine xg_iload_n X (pc := 100) d_R_row_100 rfl ?_
        refine xg_iload X (pc := 101) d_R_row_101 rfl ?_
        refine xg_iload_n X (pc := 103) d_R_row_103 rfl ?_
        refine xg_imul X (pc := 104) d_R_row_104 ?_
        refine xg_iload_n X (pc := 105) d_R_row_105 rfl ?_
        refine xg_crV3 X (pc := 106) d_R_row_106 (c_R_cellN hd hc1.2.1 hc1.2.2.1 gk (by omega) (pk_mul _ _) rfl) s_R_53 ⟨_, rfl⟩ rfl ⟨by decide, by decide⟩ (Nat.le_of_ble_eq_true rfl) ?_
        refine xg_aload_n X (pc := 109) d_R_row_109 rfl ?_
        refine xf_R_19 X (pc := 110) rfl d_R_row_110 ?_
        refine xg_iload X (pc := 113) d_R_row_113 rfl ?_
        refine xg_aload_n X (pc := 115) d_R_row_115 rfl ?_
        refine xf_R_57 X (pc := 116) rfl d_R_row_116 ?_
        refine xg_isub X (pc := 119) d_R_row_119 ?_
        refine xa_ld11 X (pc := 120) d_R_row_120 (by show vp_in (nI ((x_cd lf p0) + k) - nI (x_cd lf p0)) 16; rw [(show nI ((x_cd lf p0) + k) - nI (x_cd lf p0) = nI k by rw [pk_sub (by omega)]; congr 1; omega)]; exact vp_in_nI (by omega) (by decide)) ?_
        refine xa_st9 X (pc := 121) d_R_row_121 (by rw [x_ixr hp ga]; exact vp_in_nI (hlt k hk3) (by decide)) ?_
        refine xg_iinc X (pc := 122) d_R_row_122 rfl (x_inc (by decide : Int32.ofInt (1) = 1) _) (by decide) rfl ?_
        refine xg_goto X (pc := 125) (tgt := 86) d_R_row_125 rfl ?_
        refine xg_weak [some (.ref (ad 7)), some (.int (nI q)), some (.int (nI xx)), some (.int (nI (2 ^ p0))), some (.int w), some (.int (nI ((x_cd lf p0) + (k + 1))))] ⟨rfl, rfl, rfl, rfl, rfl, by rw [x_k1] <;> rfl, trivial⟩ ?_
        refine xg_eq rfl (ar' := (x_ua (x_ua (x_ua ar 5 (x_fg (ar 5) (fun i => ar 4 ((q * 256 + (x_cd lf p0 * 2 ^ p0 - lf) * 1 + (xx - tp) * 16) + i * (1 * 2 ^ p0))) (x_cd (lf + ww) p0 - x_cd lf p0))) 6 (x_fg (ar 6) (x_LF fwd (sc 17) (x_fg (ar 5) (fun i => ar 4 ((q * 256 + (x_cd lf p0 * 2 ^ p0 - lf) * 1 + (xx - tp) * 16) + i * (1 * 2 ^ p0))) (x_cd (lf + ww) p0 - x_cd lf p0)) ((x_cd lf p0) : Int) (((x_cd lf p0) : Int) + ((x_cd (lf + ww) p0 - x_cd lf p0) : Nat) - 1)) (x_cd (lf + ww) p0 - x_cd lf p0))) 4 (x_wr (ar 4) (x_fg (ar 6) (x_LF fwd (sc 17) (x_fg (ar 5) (fun i => ar 4 ((q * 256 + (x_cd lf p0 * 2 ^ p0 - lf) * 1 + (xx - tp) * 16) + i * (1 * 2 ^ p0))) (x_cd (lf + ww) p0 - x_cd lf p0)) ((x_cd lf p0) : Int) (((x_cd lf p0) : Int) + ((x_cd (lf + ww) p0 - x_cd lf p0) : Nat) - 1)) (x_cd (lf + ww) p0 - x_cd lf p0)) (q * 256 + (x_cd lf p0 * 2 ^ p0 - lf) * 1 + (xx - tp) * 16) (1 * 2 ^ p0) (k + 1)))) ?_ rfl (ih (k + 1) (by omega) (by omega))
        rw [x_ua_ua, x_ua_at]
        refine congrArg _ ?_
        rw [show (nI ((x_cd lf p0) + k) - (upd (upd sc 15 (nI (x_cd lf p0))) 16 (nI (x_cd (lf + ww) p0 - 1))) 15).toNatClampNeg = k from by show (nI ((x_cd lf p0) + k) - nI (x_cd lf p0)).toNatClampNeg = k; rw [(show nI ((x_cd lf p0) + k) - nI (x_cd lf p0) = nI k by rw [pk_sub (by omega)]; congr 1; omega), nI_clamp (by omega)], x_ixr hp ga, nI_clamp (by have := hlt k hk3; omega)]
        rfl
  have loop1 : x_G p l e (x_rm 5 108) s m args below meth c M_R_row ad D cI (x_A ad) 0 0 (x_Q below args s ad D cI (x_RP sc ar (x_ln fwd (sc 17) (ar 4) (q * 256 + (x_cd lf p0 * 2 ^ p0 - lf) * 1 + (xx - tp) * 16) (1 * 2 ^ p0) ((x_cd lf p0) : Int) (x_cd (lf + ww) p0 - x_cd lf p0)))) 74 [some (.ref (ad 7)), some (.int (nI q)), some (.int (nI xx)), some (.int (nI (2 ^ p0))), some (.int w), some (.int (nI ((x_cd lf p0) + (x_cd (lf + ww) p0 - x_cd lf p0))))] [] (upd (upd sc 15 (nI (x_cd lf p0))) 16 (nI (x_cd (lf + ww) p0 - 1))) (x_ua ar 5 (x_fg (ar 5) (fun i => ar 4 ((q * 256 + (x_cd lf p0 * 2 ^ p0 - lf) * 1 + (xx - tp) * 16) + i * (1 * 2 ^ p0))) (x_cd (lf + ww) p0 - x_cd lf p0))) → ∀ n k : Nat, (x_cd (lf + ww) p0 - x_cd lf p0) - k < n → k ≤ (x_cd (lf + ww) p0 - x_cd lf p0) → x_G p l e (x_rm 5 108) s m args below meth c M_R_row ad D cI (x_A ad) 0 0 (x_Q below args s ad D cI (x_RP sc ar (x_ln fwd (sc 17) (ar 4) (q * 256 + (x_cd lf p0 * 2 ^ p0 - lf) * 1 + (xx - tp) * 16) (1 * 2 ^ p0) ((x_cd lf p0) : Int) (x_cd (lf + ww) p0 - x_cd lf p0)))) 37 [some (.ref (ad 7)), some (.int (nI q)), some (.int (nI xx)), some (.int (nI (2 ^ p0))), some (.int w), some (.int (nI ((x_cd lf p0) + k)))] [] (upd (upd sc 15 (nI (x_cd lf p0))) 16 (nI (x_cd (lf + ww) p0 - 1))) (x_ua ar 5 (x_fg (ar 5) (fun i => ar 4 ((q * 256 + (x_cd lf p0 * 2 ^ p0 - lf) * 1 + (xx - tp) * 16) + i * (1 * 2 ^ p0))) k)) := by
    intro cont n
    induction n with
    | zero => intro k h _; exact absurd h (Nat.not_lt_zero _)
    | succ n ih =>
      intro k hn hk
      refine xg_iload X (pc := 37) d_R_row_37 rfl ?_
      refine xg_aload_n X (pc := 39) d_R_row_39 rfl ?_
      refine xf_R_60 X (pc := 40) rfl d_R_row_40 ?_
      refine xg_icmp_gt X (pc := 43) (tgt := 74) d_R_row_43 rfl (fun h43 => ?_) (fun h43 => ?_)
      · have hk2 : k = (x_cd (lf + ww) p0 - x_cd lf p0) := by
          have q9 : nI (x_cd (lf + ww) p0 - 1) < nI ((x_cd lf p0) + k) := h43
          rw [nI_ltI (by omega) (by omega)] at q9
          omega
        subst hk2
        exact cont
      · have hk3 : k < (x_cd (lf + ww) p0 - x_cd lf p0) := by
          have q9 : ¬ nI (x_cd (lf + ww) p0 - 1) < nI ((x_cd lf p0) + k) := h43
          rw [nI_ltI (by omega) (by omega)] at q9
          omega
        have gk : lf ≤ ((x_cd lf p0) + k) * 2 ^ p0 := x_cd_le.mp (by omega)
        have gk2 : ((x_cd lf p0) + k) * 2 ^ p0 < lf + ww := x_cd_lt.mpr (by omega)
        refine xg_aload_n X (pc := 46) d_R_row_46 rfl ?_
        refine xf_R_16 X (pc := 47) rfl d_R_row_47 ?_
        refine xg_iload X (pc := 50) d_R_row_50 rfl ?_
        refine xg_aload_n X (pc := 52) d_R_row_52 rfl ?_
        refine xf_R_57 X (pc := 53) rfl d_R_row_53 ?_
        refine xg_isub X (pc := 56) d_R_row_56 ?_
        refine xg_aload_n X (pc := 57) d_R_row_57 rfl ?_
        refine xg_iload_n X (pc := 58) d_R_row_58 rfl ?_
        refine xg_iload X (pc := 59) d_R_row_59 rfl ?_
        refine xg_iload_n X (pc := 61) d_R_row_61 rfl ?_
        refine xg_imul X (pc := 62) d_R_row_62 ?_
        refine xg_iload_n X (pc := 63) d_R_row_63 rfl ?_
        refine xg_crV3 X (pc := 64) d_R_row_64 (c_R_atN hd hc1 hq gk gk2 (by omega) (by omega) (pk_mul _ _) rfl) s_R_99 ⟨_, rfl⟩ rfl ⟨by decide, by decide⟩ (Nat.le_of_ble_eq_true rfl) ?_
        refine xa_st10 X (pc := 67) d_R_row_67 (by show vp_in (nI ((x_cd lf p0) + k) - nI (x_cd lf p0)) 16; rw [(show nI ((x_cd lf p0) + k) - nI (x_cd lf p0) = nI k by rw [pk_sub (by omega)]; congr 1; omega)]; exact vp_in_nI (by omega) (by decide)) ?_
        refine xg_iinc X (pc := 68) d_R_row_68 rfl (x_inc (by decide : Int32.ofInt (1) = 1) _) (by decide) rfl ?_
        refine xg_goto X (pc := 71) (tgt := 37) d_R_row_71 rfl ?_
        refine xg_weak [some (.ref (ad 7)), some (.int (nI q)), some (.int (nI xx)), some (.int (nI (2 ^ p0))), some (.int w), some (.int (nI ((x_cd lf p0) + (k + 1))))] ⟨rfl, rfl, rfl, rfl, rfl, by rw [x_k1] <;> rfl, trivial⟩ ?_
        refine xg_eq rfl (ar' := (x_ua ar 5 (x_fg (ar 5) (fun i => ar 4 ((q * 256 + (x_cd lf p0 * 2 ^ p0 - lf) * 1 + (xx - tp) * 16) + i * (1 * 2 ^ p0))) (k + 1)))) ?_ rfl (ih (k + 1) (by omega) (by omega))
        rw [x_ua_ua, x_ua_at]
        refine congrArg _ (Eq.trans ?_ x_fgs)
        rw [show (nI ((x_cd lf p0) + k) - (upd (upd sc 15 (nI (x_cd lf p0))) 16 (nI (x_cd (lf + ww) p0 - 1))) 15).toNatClampNeg = k from by show (nI ((x_cd lf p0) + k) - nI (x_cd lf p0)).toNatClampNeg = k; rw [(show nI ((x_cd lf p0) + k) - nI (x_cd lf p0) = nI k by rw [pk_sub (by omega)]; congr 1; omega), nI_clamp (by omega)]]
        refine congrArg _ ?_
        show ar 4 _ = ar 4 _
        rw [x_ixr hp ga]
  have cont : x_G p l e (x_rm 5 108) s m args below meth c M_R_row ad D cI (x_A ad) 0 0 (x_Q below args s ad D cI (x_RP sc ar (x_ln fwd (sc 17) (ar 4) (q * 256 + (x_cd lf p0 * 2 ^ p0 - lf) * 1 + (xx - tp) * 16) (1 * 2 ^ p0) ((x_cd lf p0) : Int) (x_cd (lf + ww) p0 - x_cd lf p0)))) 74 [some (.ref (ad 7)), some (.int (nI q)), some (.int (nI xx)), some (.int (nI (2 ^ p0))), some (.int w), some (.int (nI ((x_cd lf p0) + (x_cd (lf + ww) p0 - x_cd lf p0))))] [] (upd (upd sc 15 (nI (x_cd lf p0))) 16 (nI (x_cd (lf + ww) p0 - 1))) (x_ua ar 5 (x_fg (ar 5) (fun i => ar 4 ((q * 256 + (x_cd lf p0 * 2 ^ p0 - lf) * 1 + (xx - tp) * 16) + i * (1 * 2 ^ p0))) (x_cd (lf + ww) p0 - x_cd lf p0))) := by
    refine xg_aload_n X (pc := 74) d_R_row_74 rfl ?_
    refine xg_iload X (pc := 75) d_R_row_75 rfl ?_
    refine xg_cvV1 X (pc := 77) d_R_row_77 (c_R_work hd (zI_nI _).symm (by show nI (x_cd (lf + ww) p0 - 1) = _; rw [← zI_nI]; congr 1; omega) (by omega) (by omega) hN) s_R_102 ⟨_, rfl⟩ rfl ⟨by decide, by decide⟩ (Nat.le_of_ble_eq_true rfl) ?_
    refine xg_aload_n X (pc := 80) d_R_row_80 rfl ?_
    refine xf_R_57 X (pc := 81) rfl d_R_row_81 ?_
    refine xg_istore X (pc := 84) d_R_row_84 (by decide) rfl ?_
    refine xg_weak [some (.ref (ad 7)), some (.int (nI q)), some (.int (nI xx)), some (.int (nI (2 ^ p0))), some (.int w), some (.int (nI ((x_cd lf p0) + 0)))] ⟨rfl, rfl, rfl, rfl, rfl, rfl, trivial⟩ ?_
    refine xg_eq rfl (ar' := (x_ua (x_ua (x_ua ar 5 (x_fg (ar 5) (fun i => ar 4 ((q * 256 + (x_cd lf p0 * 2 ^ p0 - lf) * 1 + (xx - tp) * 16) + i * (1 * 2 ^ p0))) (x_cd (lf + ww) p0 - x_cd lf p0))) 6 (x_fg (ar 6) (x_LF fwd (sc 17) (x_fg (ar 5) (fun i => ar 4 ((q * 256 + (x_cd lf p0 * 2 ^ p0 - lf) * 1 + (xx - tp) * 16) + i * (1 * 2 ^ p0))) (x_cd (lf + ww) p0 - x_cd lf p0)) ((x_cd lf p0) : Int) (((x_cd lf p0) : Int) + ((x_cd (lf + ww) p0 - x_cd lf p0) : Nat) - 1)) (x_cd (lf + ww) p0 - x_cd lf p0))) 4 (x_wr (ar 4) (x_fg (ar 6) (x_LF fwd (sc 17) (x_fg (ar 5) (fun i => ar 4 ((q * 256 + (x_cd lf p0 * 2 ^ p0 - lf) * 1 + (xx - tp) * 16) + i * (1 * 2 ^ p0))) (x_cd (lf + ww) p0 - x_cd lf p0)) ((x_cd lf p0) : Int) (((x_cd lf p0) : Int) + ((x_cd (lf + ww) p0 - x_cd lf p0) : Nat) - 1)) (x_cd (lf + ww) p0 - x_cd lf p0)) (q * 256 + (x_cd lf p0 * 2 ^ p0 - lf) * 1 + (xx - tp) * 16) (1 * 2 ^ p0) 0))) ?_ rfl (loop2 _ 0 (Nat.lt_succ_self _) (by omega))
    have e8 : (if w = 0 then x_fw (sc 17) (x_fg (ar 5) (fun i => ar 4 ((q * 256 + (x_cd lf p0 * 2 ^ p0 - lf) * 1 + (xx - tp) * 16) + i * (1 * 2 ^ p0))) (x_cd (lf + ww) p0 - x_cd lf p0)) ((x_cd lf p0) : Int) (((x_cd lf p0) : Int) + ((x_cd (lf + ww) p0 - x_cd lf p0) : Nat) - 1) else x_bw (sc 17) (x_fg (ar 5) (fun i => ar 4 ((q * 256 + (x_cd lf p0 * 2 ^ p0 - lf) * 1 + (xx - tp) * 16) + i * (1 * 2 ^ p0))) (x_cd (lf + ww) p0 - x_cd lf p0)) ((x_cd lf p0) : Int) (((x_cd lf p0) : Int) + ((x_cd (lf + ww) p0 - x_cd lf p0) : Nat) - 1)) = (x_LF fwd (sc 17) (x_fg (ar 5) (fun i => ar 4 ((q * 256 + (x_cd lf p0 * 2 ^ p0 - lf) * 1 + (xx - tp) * 16) + i * (1 * 2 ^ p0))) (x_cd (lf + ww) p0 - x_cd lf p0)) ((x_cd lf p0) : Int) (((x_cd lf p0) : Int) + ((x_cd (lf + ww) p0 - x_cd lf p0) : Nat) - 1)) := by
      unfold x_LF
      rcases hw with ⟨e5, e6⟩ | ⟨e5, e6⟩
      · rw [if_pos e5, e6, if_pos rfl]
      · rw [if_neg e5, e6, if_neg (by decide)]
    show x_ua (x_ua ar 5 (x_fg (ar 5) (fun i => ar 4 ((q * 256 + (x_cd lf p0 * 2 ^ p0 - lf) * 1 + (xx - tp) * 16) + i * (1 * 2 ^ p0))) (x_cd (lf + ww) p0 - x_cd lf p0))) 6 (x_fg (ar 6) (if w = 0 then x_fw (sc 17) (x_fg (ar 5) (fun i => ar 4 ((q * 256 + (x_cd lf p0 * 2 ^ p0 - lf) * 1 + (xx - tp) * 16) + i * (1 * 2 ^ p0))) (x_cd (lf + ww) p0 - x_cd lf p0)) ((x_cd lf p0) : Int) (((x_cd lf p0) : Int) + ((x_cd (lf + ww) p0 - x_cd lf p0) : Nat) - 1) else x_bw (sc 17) (x_fg (ar 5) (fun i => ar 4 ((q * 256 + (x_cd lf p0 * 2 ^ p0 - lf) * 1 + (xx - tp) * 16) + i * (1 * 2 ^ p0))) (x_cd (lf + ww) p0 - x_cd lf p0)) ((x_cd lf p0) : Int) (((x_cd lf p0) : Int) + ((x_cd (lf + ww) p0 - x_cd lf p0) : Nat) - 1)) (x_cd (lf + ww) p0 - x_cd lf p0)) = x_ua (x_ua (x_ua ar 5 (x_fg (ar 5) (fun i => ar 4 ((q * 256 + (x_cd lf p0 * 2 ^ p0 - lf) * 1 + (xx - tp) * 16) + i * (1 * 2 ^ p0))) (x_cd (lf + ww) p0 - x_cd lf p0))) 6 (x_fg (ar 6) (x_LF fwd (sc 17) (x_fg (ar 5) (fun i => ar 4 ((q * 256 + (x_cd lf p0 * 2 ^ p0 - lf) * 1 + (xx - tp) * 16) + i * (1 * 2 ^ p0))) (x_cd (lf + ww) p0 - x_cd lf p0)) ((x_cd lf p0) : Int) (((x_cd lf p0) : Int) + ((x_cd (lf + ww) p0 - x_cd lf p0) : Nat) - 1)) (x_cd (lf + ww) p0 - x_cd lf p0))) 4 (ar 4)
    rw [e8]
    exact (x_ua_id (ar := (x_ua (x_ua ar 5 (x_fg (ar 5) (fun i => ar 4 ((q * 256 + (x_cd lf p0 * 2 ^ p0 - lf) * 1 + (xx - tp) * 16) + i * (1 * 2 ^ p0))) (x_cd (lf + ww) p0 - x_cd lf p0))) 6 (x_fg (ar 6) (x_LF fwd (sc 17) (x_fg (ar 5) (fun i => ar 4 ((q * 256 + (x_cd lf p0 * 2 ^ p0 - lf) * 1 + (xx - tp) * 16) + i * (1 * 2 ^ p0))) (x_cd (lf + ww) p0 - x_cd lf p0)) ((x_cd lf p0) : Int) (((x_cd lf p0) : Int) + ((x_cd (lf + ww) p0 - x_cd lf p0) : Nat) - 1)) (x_cd (lf + ww) p0 - x_cd lf p0)))) (j := 4)).symm
  refine xg_aload_n X (pc := 0) d_R_row_0 rfl ?_
  refine xg_aload_n X (pc := 1) d_R_row_1 rfl ?_
  refine xf_R_26 X (pc := 2) rfl d_R_row_2 ?_
  refine xg_iload_n X (pc := 5) d_R_row_5 rfl ?_
  refine xg_crS2 X (pc := 6) d_R_row_6 (c_R_fromN hd h9 rfl (by omega) (by omega)) s_R_96 ⟨by decide, by decide⟩ (Nat.le_of_ble_eq_true rfl) ?_
  refine xp_R_57 X (pc := 9) rfl d_R_row_9 ?_
  refine xg_aload_n X (pc := 12) d_R_row_12 rfl ?_
  refine xg_aload_n X (pc := 13) d_R_row_13 rfl ?_
  refine xf_R_26 X (pc := 14) rfl d_R_row_14 ?_
  refine xg_aload_n X (pc := 17) d_R_row_17 rfl ?_
  refine xf_R_30 X (pc := 18) rfl d_R_row_18 ?_
  refine xg_iadd X (pc := 21) d_R_row_21 ?_
  refine xg_iload_n X (pc := 22) d_R_row_22 rfl ?_
  refine xg_crS2 X (pc := 23) d_R_row_23 (c_R_fromN hd (by show sc _ + sc _ = _; rw [h9, h11, nI_add]) rfl (by omega) (by omega)) s_R_96 ⟨by decide, by decide⟩ (Nat.le_of_ble_eq_true rfl) ?_
  refine xg_iconst X (pc := 26) (v := 1) d_R_row_26 (by decide) ?_
  refine xg_isub X (pc := 27) d_R_row_27 ?_
  refine xg_eq rfl rfl (st := [.int (nI (x_cd (lf + ww) p0 - 1)), .ref (ad 7)]) (by show [Value.int (nI _ - nI 1), _] = _; rw [pk_sub hB1]) ?_
  refine xp_R_60 X (pc := 28) rfl d_R_row_28 ?_
  refine xg_aload_n X (pc := 31) d_R_row_31 rfl ?_
  refine xf_R_57 X (pc := 32) rfl d_R_row_32 ?_
  refine xg_istore X (pc := 35) d_R_row_35 (by decide) rfl ?_
  refine xg_weak [some (.ref (ad 7)), some (.int (nI q)), some (.int (nI xx)), some (.int (nI (2 ^ p0))), some (.int w), some (.int (nI ((x_cd lf p0) + 0)))] ⟨rfl, rfl, rfl, rfl, rfl, rfl, trivial⟩ ?_
  exact xg_eq rfl (by rw [x_fg0, x_ua_id]) rfl (loop1 cont _ 0 (Nat.lt_succ_self _) (by omega))
end C12
end
section
theorem x_cd_s0 {x p : Nat} (h : x % 2 ^ p = 0) : x_cd x p * 2 ^ p = x ∧ x_cd (x + 1) p = x_cd x p + 1 := by
  have hs : 0 < 2 ^ p := Nat.two_pow_pos p
  have e : x_cd x p * 2 ^ p = x := by
    have h1 := @x_cd_le x p (x / 2 ^ p)
    have h2 : x / 2 ^ p * 2 ^ p = x := Nat.div_mul_cancel (Nat.dvd_of_mod_eq_zero h)
    have h3 : x_cd x p ≤ x / 2 ^ p := h1.mpr (by omega)
    have h4 : x ≤ x_cd x p * 2 ^ p := x_cd_le.mp (Nat.le_refl _)
    have h5 := Nat.mul_le_mul_right (2 ^ p) h3
    omega
  refine ⟨e, ?_⟩
  have h6 : x_cd (x + 1) p ≤ x_cd x p + 1 := x_cd_le.mpr (by rw [Nat.add_mul]; omega)
  have h7 : x_cd x p < x_cd (x + 1) p := x_cd_lt.mp (by omega)
  omega
theorem x_cd_s1 {x p : Nat} (h : ¬ x % 2 ^ p = 0) : x_cd (x + 1) p = x_cd x p := by
  have h4 : x ≤ x_cd x p * 2 ^ p := x_cd_le.mp (Nat.le_refl _)
  have h5 : ¬ x = x_cd x p * 2 ^ p := fun q => h (by rw [q]; exact Nat.mul_mod_left _ _)
  have h6 : x_cd (x + 1) p ≤ x_cd x p := x_cd_le.mpr (by omega)
  have h7 := x_cd_mono (x := x) (y := x + 1) (p := p) (by omega)
  omega
theorem x_irem {x p : Nat} (hx : x < 2 ^ 31) (hp : p ≤ 4) : nI x - nI x / nI (2 ^ p) * nI (2 ^ p) = nI (x % 2 ^ p) := by
  have h16 : 2 ^ p ≤ 2 ^ 4 := Nat.pow_le_pow_right (by decide) hp
  exact pk_rem hx (Nat.two_pow_pos p) (by omega)
theorem x_pne {p : Nat} (hp : p ≤ 4) : ¬ nI (2 ^ p) = 0 := by
  have h16 : 2 ^ p ≤ 2 ^ 4 := Nat.pow_le_pow_right (by decide) hp
  exact nI_ne0 (Nat.two_pow_pos p) (by omega)
def x_C1 (fwd : Bool) (kn : Int32) (q p lf tp ww hh : Nat) (f : Nat → Int32) : Nat → Int32 := x_LL fwd kn q p tp hh 16 lf 1 f (x_cd (lf + ww) p - x_cd lf p)
def x_R1 (fwd : Bool) (kn : Int32) (q p lf tp ww hh : Nat) (f : Nat → Int32) : Nat → Int32 := x_LL fwd kn q p lf ww 1 tp 16 f (x_cd (tp + hh) p - x_cd tp p)
def x_FW (kn : Int32) (p lf tp ww hh : Nat) (f : Nat → Int32) : Nat → Nat → Int32
  | 0 => f
  | q + 1 => x_R1 true kn q p lf tp ww hh (x_C1 true kn q p lf tp ww hh (x_FW kn p lf tp ww hh f q))
def x_BK (kn : Int32) (p lf tp ww hh : Nat) (f : Nat → Int32) : Nat → Nat → Int32
  | 0 => f
  | q + 1 => x_C1 false kn q p lf tp ww hh (x_R1 false kn q p lf tp ww hh (x_BK kn p lf tp ww hh f q))
section C13
variable {l : Launch} {ad : Nat → Nat} {D : va_G} {cI : ClassId} {sc : Nat → Int32} {ar : Nat → Nat → Int32}
set_option maxRecDepth 100000 in
set_option maxHeartbeats 800000 in
theorem c_R_columns (hd : x_dis ad) {q p0 lf tp ww hh : Nat} {fwd : Bool} {w : Int32} (hc : x_RC sc lf tp ww hh) (hq : q < 3) (hp : p0 ≤ 3) (hpos : 0 < ww ∧ 0 < hh) (hw : w = 0 ∧ fwd = true ∨ ¬ w = 0 ∧ fwd = false) : x_Con l M_R_columns 6 133 ad D cI [.ref (ad 7), .int (nI q), .int (nI (2 ^ p0)), .int w] sc ar (x_RP sc ar (x_C1 fwd (sc 17) q p0 lf tp ww hh (ar 4))) := by
  refine x_intro hd [some (.ref (ad 7)), some (.int (nI q)), some (.int (nI (2 ^ p0))), some (.int w), none] (by decide) (Nat.le_of_ble_eq_true rfl) rfl ?_
  intro p e s m args below meth c X
  have loop : ∀ (n k : Nat) (sc' : Nat → Int32) (ar' : Nat → Nat → Int32), ww - k < n → k ≤ ww → (∀ z, z ≠ 15 → z ≠ 16 → sc' z = sc z) → (∀ z, z ≠ 4 → z ≠ 5 → z ≠ 6 → ar' z = ar z) → ar' 4 = x_LL fwd (sc 17) q p0 tp hh 16 lf 1 (ar 4) (x_cd (lf + k) p0 - x_cd lf p0) → x_G p l e (x_rm 6 133) s m args below meth c M_R_columns ad D cI (x_A ad) 0 0 (x_Q below args s ad D cI (x_RP sc ar (x_C1 fwd (sc 17) q p0 lf tp ww hh (ar 4)))) 6 [some (.ref (ad 7)), some (.int (nI q)), some (.int (nI (2 ^ p0))), some (.int w), some (.int (nI (lf + k)))] [] sc' ar' := by
    intro n
    induction n with
    | zero => intro k sc' ar' h; exact absurd h (Nat.not_lt_zero _)
    | succ n ih =>
      intro k sc' ar' hn hk hsc har hf
      have ⟨b1, b2, b3, b4⟩ := hc.2.2.2.2.2
      have hc1 : x_RC sc' lf tp ww hh := by
        obtain ⟨h8, h9, h10, h11, h12, b⟩ := hc
        refine ⟨?_, ?_, ?_, ?_, ?_, b⟩
        · rw [hsc 8 (by decide) (by decide)]; exact h8
        · rw [hsc 9 (by decide) (by decide)]; exact h9
        · rw [hsc 10 (by decide) (by decide)]; exact h10
        · rw [hsc 11 (by decide) (by decide)]; exact h11
        · rw [hsc 12 (by decide) (by decide)]; exact h12
      refine xg_iload X (pc := 6) d_R_columns_6 rfl ?_
      refine xg_aload_n X (pc := 8) d_R_columns_8 rfl ?_
      refine xf_R_26 X (pc := 9) rfl d_R_columns_9 ?_
      refine xg_aload_n X (pc := 12) d_R_columns_12 rfl ?_
      refine xf_R_30 X (pc := 13) rfl d_R_columns_13 ?_
      refine xg_iadd X (pc := 16) d_R_columns_16 ?_
      refine xg_icmp_ge X (pc := 17) (tgt := 42) d_R_columns_17 rfl (fun h17 => ?_) (fun h17 => ?_)
      · rw [hc1.2.1, hc1.2.2.2.1, nI_add, nI_leI (by omega) (by omega)] at h17
        have hk2 : k = ww := by omega
        subst hk2
        exact xg_vret X (pc := 42) d_R_columns_42 rfl (⟨rfl, hsc, har, hf⟩)
      · rw [hc1.2.1, hc1.2.2.2.1, nI_add, nI_leI (by omega) (by omega)] at h17
        refine xg_iload X (pc := 20) d_R_columns_20 rfl ?_
        refine xg_iload_n X (pc := 22) d_R_columns_22 rfl ?_
        refine xg_irem X (pc := 23) d_R_columns_23 (x_pne (by omega)) ?_
        refine xg_if_ne X (pc := 24) (tgt := 36) d_R_columns_24 rfl (fun h24 => ?_) (fun h24 => ?_)
        · rw [x_irem (by omega) (by omega)] at h24
          have h24 : ¬ (lf + k) % 2 ^ p0 = 0 := fun q9 => h24 (by rw [q9]; rfl)
          refine xg_iinc X (pc := 36) d_R_columns_36 rfl (x_inc (by decide : Int32.ofInt (1) = 1) _) (by decide) rfl ?_
          refine xg_goto X (pc := 39) (tgt := 6) d_R_columns_39 rfl ?_
          refine xg_weak [some (.ref (ad 7)), some (.int (nI q)), some (.int (nI (2 ^ p0))), some (.int w), some (.int (nI (lf + (k + 1))))] ⟨rfl, rfl, rfl, rfl, by rw [x_k1] <;> rfl, trivial⟩ ?_
          refine ih (k + 1) _ _ (by omega) (by omega) hsc har ?_
          rw [hf, ← Nat.add_assoc, x_cd_s1 h24]
        · rw [x_irem (by omega) (by omega)] at h24
          have h24 := (nI_eq (Nat.lt_of_le_of_lt (Nat.mod_le _ _) (by omega)) (by decide)).mp h24
          refine xg_aload_n X (pc := 27) d_R_columns_27 rfl ?_
          refine xg_iload_n X (pc := 28) d_R_columns_28 rfl ?_
          refine xg_iload X (pc := 29) d_R_columns_29 rfl ?_
          refine xg_iload_n X (pc := 31) d_R_columns_31 rfl ?_
          refine xg_iload_n X (pc := 32) d_R_columns_32 rfl ?_
          refine xg_cV4 X (pc := 33) d_R_columns_33 (c_R_column hd hc1 hq hp (by omega) (by omega) hpos.2 hw) s_R_106 ⟨_, rfl⟩ rfl ⟨by decide, by decide⟩ (Nat.le_of_ble_eq_true rfl) ?_
          rintro _ sc1 ar1 ⟨rfl, hs1, ha1, hf1⟩
          refine xg_iinc X (pc := 36) d_R_columns_36 rfl (x_inc (by decide : Int32.ofInt (1) = 1) _) (by decide) rfl ?_
          refine xg_goto X (pc := 39) (tgt := 6) d_R_columns_39 rfl ?_
          refine xg_weak [some (.ref (ad 7)), some (.int (nI q)), some (.int (nI (2 ^ p0))), some (.int w), some (.int (nI (lf + (k + 1))))] ⟨rfl, rfl, rfl, rfl, by rw [x_k1] <;> rfl, trivial⟩ ?_
          refine ih (k + 1) _ _ (by omega) (by omega) (fun z z1 z2 => (hs1 z z1 z2).trans (hsc z z1 z2)) (fun z z1 z2 z3 => (ha1 z z1 z2 z3).trans (har z z1 z2 z3)) ?_
          obtain ⟨g1, g2⟩ := x_cd_s0 h24
          have g3 := x_cd_mono (x := lf) (y := lf + k) (p := p0) (by omega)
          rw [hf1, ← Nat.add_assoc, g2, show x_cd (lf + k) p0 + 1 - x_cd lf p0 = (x_cd (lf + k) p0 - x_cd lf p0) + 1 by omega]
          show x_ln _ (sc' 17) (ar' 4) _ _ _ _ = x_ln _ _ (x_LL fwd (sc 17) q p0 tp hh 16 lf 1 (ar 4) (x_cd (lf + k) p0 - x_cd lf p0)) _ _ _ _
          rw [hf, hsc 17 (by decide) (by decide)]
          refine congrArg (fun c9 => x_ln fwd (sc 17) (x_LL fwd (sc 17) q p0 tp hh 16 lf 1 (ar 4) (x_cd (lf + k) p0 - x_cd lf p0)) c9 _ _ _) ?_
          unfold x_lc
          rw [show x_cd lf p0 + (x_cd (lf + k) p0 - x_cd lf p0) = x_cd (lf + k) p0 by omega, g1]
          first | done | omega
  refine xg_aload_n X (pc := 0) d_R_columns_0 rfl ?_
  refine xf_R_26 X (pc := 1) rfl d_R_columns_1 ?_
  refine xg_istore X (pc := 4) d_R_columns_4 (by decide) rfl ?_
  refine xg_weak [some (.ref (ad 7)), some (.int (nI q)), some (.int (nI (2 ^ p0))), some (.int w), some (.int (nI (lf + 0)))] ⟨rfl, rfl, rfl, rfl, by rw [hc.2.1]; rfl, trivial⟩ ?_
  exact loop _ 0 sc ar (Nat.lt_succ_self _) (by omega) (fun _ _ _ => rfl) (fun _ _ _ _ => rfl) (by rw [Nat.add_zero, Nat.sub_self]; rfl)
set_option maxRecDepth 100000 in
set_option maxHeartbeats 800000 in
theorem c_R_rows (hd : x_dis ad) {q p0 lf tp ww hh : Nat} {fwd : Bool} {w : Int32} (hc : x_RC sc lf tp ww hh) (hq : q < 3) (hp : p0 ≤ 3) (hpos : 0 < ww ∧ 0 < hh) (hw : w = 0 ∧ fwd = true ∨ ¬ w = 0 ∧ fwd = false) : x_Con l M_R_rows 6 133 ad D cI [.ref (ad 7), .int (nI q), .int (nI (2 ^ p0)), .int w] sc ar (x_RP sc ar (x_R1 fwd (sc 17) q p0 lf tp ww hh (ar 4))) := by
  refine x_intro hd [some (.ref (ad 7)), some (.int (nI q)), some (.int (nI (2 ^ p0))), some (.int w), none] (by decide) (Nat.le_of_ble_eq_true rfl) rfl ?_
  intro p e s m args below meth c X
  have loop : ∀ (n k : Nat) (sc' : Nat → Int32) (ar' : Nat → Nat → Int32), hh - k < n → k ≤ hh → (∀ z, z ≠ 15 → z ≠ 16 → sc' z = sc z) → (∀ z, z ≠ 4 → z ≠ 5 → z ≠ 6 → ar' z = ar z) → ar' 4 = x_LL fwd (sc 17) q p0 lf ww 1 tp 16 (ar 4) (x_cd (tp + k) p0 - x_cd tp p0) → x_G p l e (x_rm 6 133) s m args below meth c M_R_rows ad D cI (x_A ad) 0 0 (x_Q below args s ad D cI (x_RP sc ar (x_R1 fwd (sc 17) q p0 lf tp ww hh (ar 4)))) 6 [some (.ref (ad 7)), some (.int (nI q)), some (.int (nI (2 ^ p0))), some (.int w), some (.int (nI (tp + k)))] [] sc' ar' := by
    intro n
    induction n with
    | zero => intro k sc' ar' h; exact absurd h (Nat.not_lt_zero _)
    | succ n ih =>
      intro k sc' ar' hn hk hsc har hf
      have ⟨b1, b2, b3, b4⟩ := hc.2.2.2.2.2
      have hc1 : x_RC sc' lf tp ww hh := by
        obtain ⟨h8, h9, h10, h11, h12, b⟩ := hc
        refine ⟨?_, ?_, ?_, ?_, ?_, b⟩
        · rw [hsc 8 (by decide) (by decide)]; exact h8
        · rw [hsc 9 (by decide) (by decide)]; exact h9
        · rw [hsc 10 (by decide) (by decide)]; exact h10
        · rw [hsc 11 (by decide) (by decide)]; exact h11
        · rw [hsc 12 (by decide) (by decide)]; exact h12
      refine xg_iload X (pc := 6) d_R_rows_6 rfl ?_
      refine xg_aload_n X (pc := 8) d_R_rows_8 rfl ?_
      refine xf_R_33 X (pc := 9) rfl d_R_rows_9 ?_
      refine xg_aload_n X (pc := 12) d_R_rows_12 rfl ?_
      refine xf_R_36 X (pc := 13) rfl d_R_rows_13 ?_
      refine xg_iadd X (pc := 16) d_R_rows_16 ?_
      refine xg_icmp_ge X (pc := 17) (tgt := 42) d_R_rows_17 rfl (fun h17 => ?_) (fun h17 => ?_)
      · rw [hc1.2.2.1, hc1.2.2.2.2.1, nI_add, nI_leI (by omega) (by omega)] at h17
        have hk2 : k = hh := by omega
        subst hk2
        exact xg_vret X (pc := 42) d_R_rows_42 rfl (⟨rfl, hsc, har, hf⟩)
      · rw [hc1.2.2.1, hc1.2.2.2.2.1, nI_add, nI_leI (by omega) (by omega)] at h17
        refine xg_iload X (pc := 20) d_R_rows_20 rfl ?_
        refine xg_iload_n X (pc := 22) d_R_rows_22 rfl ?_
        refine xg_irem X (pc := 23) d_R_rows_23 (x_pne (by omega)) ?_
        refine xg_if_ne X (pc := 24) (tgt := 36) d_R_rows_24 rfl (fun h24 => ?_) (fun h24 => ?_)
        · rw [x_irem (by omega) (by omega)] at h24
          have h24 : ¬ (tp + k) % 2 ^ p0 = 0 := fun q9 => h24 (by rw [q9]; rfl)
          refine xg_iinc X (pc := 36) d_R_rows_36 rfl (x_inc (by decide : Int32.ofInt (1) = 1) _) (by decide) rfl ?_
          refine xg_goto X (pc := 39) (tgt := 6) d_R_rows_39 rfl ?_
          refine xg_weak [some (.ref (ad 7)), some (.int (nI q)), some (.int (nI (2 ^ p0))), some (.int w), some (.int (nI (tp + (k + 1))))] ⟨rfl, rfl, rfl, rfl, by rw [x_k1] <;> rfl, trivial⟩ ?_
          refine ih (k + 1) _ _ (by omega) (by omega) hsc har ?_
          rw [hf, ← Nat.add_assoc, x_cd_s1 h24]
        · rw [x_irem (by omega) (by omega)] at h24
          have h24 := (nI_eq (Nat.lt_of_le_of_lt (Nat.mod_le _ _) (by omega)) (by decide)).mp h24
          refine xg_aload_n X (pc := 27) d_R_rows_27 rfl ?_
          refine xg_iload_n X (pc := 28) d_R_rows_28 rfl ?_
          refine xg_iload X (pc := 29) d_R_rows_29 rfl ?_
          refine xg_iload_n X (pc := 31) d_R_rows_31 rfl ?_
          refine xg_iload_n X (pc := 32) d_R_rows_32 rfl ?_
          refine xg_cV4 X (pc := 33) d_R_rows_33 (c_R_row hd hc1 hq hp (by omega) (by omega) hpos.1 hw) s_R_110 ⟨_, rfl⟩ rfl ⟨by decide, by decide⟩ (Nat.le_of_ble_eq_true rfl) ?_
          rintro _ sc1 ar1 ⟨rfl, hs1, ha1, hf1⟩
          refine xg_iinc X (pc := 36) d_R_rows_36 rfl (x_inc (by decide : Int32.ofInt (1) = 1) _) (by decide) rfl ?_
          refine xg_goto X (pc := 39) (tgt := 6) d_R_rows_39 rfl ?_
          refine xg_weak [some (.ref (ad 7)), some (.int (nI q)), some (.int (nI (2 ^ p0))), some (.int w), some (.int (nI (tp + (k + 1))))] ⟨rfl, rfl, rfl, rfl, by rw [x_k1] <;> rfl, trivial⟩ ?_
          refine ih (k + 1) _ _ (by omega) (by omega) (fun z z1 z2 => (hs1 z z1 z2).trans (hsc z z1 z2)) (fun z z1 z2 z3 => (ha1 z z1 z2 z3).trans (har z z1 z2 z3)) ?_
          obtain ⟨g1, g2⟩ := x_cd_s0 h24
          have g3 := x_cd_mono (x := tp) (y := tp + k) (p := p0) (by omega)
          rw [hf1, ← Nat.add_assoc, g2, show x_cd (tp + k) p0 + 1 - x_cd tp p0 = (x_cd (tp + k) p0 - x_cd tp p0) + 1 by omega]
          show x_ln _ (sc' 17) (ar' 4) _ _ _ _ = x_ln _ _ (x_LL fwd (sc 17) q p0 lf ww 1 tp 16 (ar 4) (x_cd (tp + k) p0 - x_cd tp p0)) _ _ _ _
          rw [hf, hsc 17 (by decide) (by decide)]
          refine congrArg (fun c9 => x_ln fwd (sc 17) (x_LL fwd (sc 17) q p0 lf ww 1 tp 16 (ar 4) (x_cd (tp + k) p0 - x_cd tp p0)) c9 _ _ _) ?_
          unfold x_lc
          rw [show x_cd tp p0 + (x_cd (tp + k) p0 - x_cd tp p0) = x_cd (tp + k) p0 by omega, g1]
          first | done | omega
  refine xg_aload_n X (pc := 0) d_R_rows_0 rfl ?_
  refine xf_R_33 X (pc := 1) rfl d_R_rows_1 ?_
  refine xg_istore X (pc := 4) d_R_rows_4 (by decide) rfl ?_
  refine xg_weak [some (.ref (ad 7)), some (.int (nI q)), some (.int (nI (2 ^ p0))), some (.int w), some (.int (nI (tp + 0)))] ⟨rfl, rfl, rfl, rfl, by rw [hc.2.2.1]; rfl, trivial⟩ ?_
  exact loop _ 0 sc ar (Nat.lt_succ_self _) (by omega) (fun _ _ _ => rfl) (fun _ _ _ _ => rfl) (by rw [Nat.add_zero, Nat.sub_self]; rfl)
end C13
end
section
section C14
variable {l : Launch} {ad : Nat → Nat} {D : va_G} {cI : ClassId} {sc : Nat → Int32} {ar : Nat → Nat → Int32}
abbrev x_TC (sc : Nat → Int32) (lf tp ww hh p0 : Nat) : Prop := sc 2 = nI lf ∧ sc 3 = nI ww ∧ sc 4 = nI tp ∧ sc 5 = nI hh ∧ sc 0 = nI p0 ∧ lf ≤ 1000 ∧ tp ≤ 1000 ∧ ww ≤ 16 ∧ hh ≤ 16
set_option maxRecDepth 100000 in
set_option maxHeartbeats 800000 in
theorem c_T_forward (hd : x_dis ad) {lf tp ww hh p0 : Nat} (hc : x_TC sc lf tp ww hh p0) (hpb : p0 < 2 ^ 31) {kn : Int32} : x_Con l M_T_forward 5 121 ad D cI [.ref (ad 0), .int kn] sc ar (fun r sc2 ar2 => if ¬ sc 3 ≤ 0 ∧ ¬ kn < 0 ∧ ¬ 3 ≤ kn ∧ sc 0 < 4 then (r = some (.int 1) ∧ sc2 0 = sc 0 + 1 ∧ (∀ z, z ≠ 0 → z ≠ 6 → z ≠ 7 → sc2 z = sc z) ∧ (∀ z, z ≠ 0 → z ≠ 1 → z ≠ 2 → ar2 z = ar z) ∧ ar2 0 = x_FW kn p0 lf tp ww hh (ar 0) 3 ∧ ar2 1 = upd (ar 1) p0 kn) else x_E (some (.int 0)) sc ar r sc2 ar2) := by
  refine x_intro hd [some (.ref (ad 0)), some (.int kn), none] (by decide) (Nat.le_of_ble_eq_true rfl) rfl ?_
  intro p e s m args below meth c X
  have loop : ¬ sc 3 ≤ 0 ∧ ¬ kn < 0 ∧ ¬ 3 ≤ kn ∧ sc 0 < 4 → ∀ (n k : Nat) (sc' : Nat → Int32) (ar' : Nat → Nat → Int32), 3 - k < n → k ≤ 3 → (∀ z, z ≠ 6 → z ≠ 7 → sc' z = sc z) → (∀ z, z ≠ 0 → z ≠ 2 → ar' z = ar z) → ar' 0 = x_FW kn p0 lf tp ww hh (ar 0) k → x_G p l e (x_rm 5 121) s m args below meth c M_T_forward ad D cI (x_A ad) 0 0 (x_Q below args s ad D cI (fun r sc2 ar2 => if ¬ sc 3 ≤ 0 ∧ ¬ kn < 0 ∧ ¬ 3 ≤ kn ∧ sc 0 < 4 then (r = some (.int 1) ∧ sc2 0 = sc 0 + 1 ∧ (∀ z, z ≠ 0 → z ≠ 6 → z ≠ 7 → sc2 z = sc z) ∧ (∀ z, z ≠ 0 → z ≠ 1 → z ≠ 2 → ar2 z = ar z) ∧ ar2 0 = x_FW kn p0 lf tp ww hh (ar 0) 3 ∧ ar2 1 = upd (ar 1) p0 kn) else x_E (some (.int 0)) sc ar r sc2 ar2)) 28 [some (.ref (ad 0)), some (.int kn), some (.int (nI k))] [] sc' ar' := by
    intro hcd n
    induction n with
    | zero => intro k sc' ar' h; exact absurd h (Nat.not_lt_zero _)
    | succ n ih =>
      intro k sc' ar' hn hk hsc har hf
      have hc1 : x_TC sc' lf tp ww hh p0 := by
        obtain ⟨h2, h3, h4, h5, h0, b⟩ := hc
        refine ⟨?_, ?_, ?_, ?_, ?_, b⟩
        · rw [hsc 2 (by decide) (by decide)]; exact h2
        · rw [hsc 3 (by decide) (by decide)]; exact h3
        · rw [hsc 4 (by decide) (by decide)]; exact h4
        · rw [hsc 5 (by decide) (by decide)]; exact h5
        · rw [hsc 0 (by decide) (by decide)]; exact h0
      have hp3 : p0 ≤ 3 := by
        have h9 := hcd.2.2.2
        rw [hc.2.2.2.2.1] at h9
        exact Nat.le_of_lt_succ ((nI_ltI (b := 4) hpb (by decide)).mp h9)
      obtain ⟨g2, g3, g4, g5, g0, b1, b2, b3, b4⟩ := id hc1
      refine xg_iload_n X (pc := 28) d_T_forward_28 rfl ?_
      refine xg_iconst X (pc := 29) (v := 3) d_T_forward_29 (by decide) ?_
      refine xg_icmp_ge X (pc := 30) (tgt := 69) d_T_forward_30 rfl (fun h30 => ?_) (fun h30 => ?_)
      · have hk2 : k = 3 := Nat.le_antisymm hk (x_ge (n := 3) rfl (by decide) (by omega) h30)
        subst hk2
        refine xg_aload_n X (pc := 69) d_T_forward_69 rfl ?_
        refine xf_T_32 X (pc := 70) rfl d_T_forward_70 ?_
        refine xg_aload_n X (pc := 73) d_T_forward_73 rfl ?_
        refine xf_T_35 X (pc := 74) rfl d_T_forward_74 ?_
        refine xg_iload_n X (pc := 77) d_T_forward_77 rfl ?_
        refine xa_st5 X (pc := 78) d_T_forward_78 (by rw [g0]; exact vp_in_nI (by omega) (by decide)) ?_
        refine xg_aload_n X (pc := 79) d_T_forward_79 rfl ?_
        refine xg_dup X (pc := 80) d_T_forward_80 rfl ?_
        refine xf_T_35 X (pc := 81) rfl d_T_forward_81 ?_
        refine xg_iconst X (pc := 84) (v := 1) d_T_forward_84 (by decide) ?_
        refine xg_iadd X (pc := 85) d_T_forward_85 ?_
        refine xp_T_35 X (pc := 86) rfl d_T_forward_86 ?_
        refine xg_iconst X (pc := 89) (v := 1) d_T_forward_89 (by decide) ?_
        exact xg_iret X (pc := 90) d_T_forward_90 rfl (rfl) (by
            show ite _ _ _
            rw [if_pos hcd]
            refine ⟨rfl, ?_, ?_, ?_, ?_, ?_⟩
            · show sc' 0 + 1 = _
              rw [hsc 0 (by decide) (by decide)]
            · intro z z0 z6 z7
              rw [pk_un z0]; exact hsc z z6 z7
            · intro z z0 z1 z2
              rw [x_ua_ne z1]; exact har z z0 z2
            · exact hf
            · show upd (ar' 1) (sc' 0).toNatClampNeg kn = _
              rw [har 1 (by decide) (by decide), g0, nI_clamp (by omega)])
      · have hk3 : k < 3 := x_nge (n := 3) rfl (by decide) (by omega) h30
        refine xg_aload_n X (pc := 33) d_T_forward_33 rfl ?_
        refine xg_iload_n X (pc := 34) d_T_forward_34 rfl ?_
        refine xg_aload_n X (pc := 35) d_T_forward_35 rfl ?_
        refine xf_T_22 X (pc := 36) rfl d_T_forward_36 ?_
        refine xg_aload_n X (pc := 39) d_T_forward_39 rfl ?_
        refine xf_T_18 X (pc := 40) rfl d_T_forward_40 ?_
        refine xg_iload_n X (pc := 43) d_T_forward_43 rfl ?_
        refine xg_iconst X (pc := 44) (v := 1) d_T_forward_44 (by decide) ?_
        refine xg_cV5 X (pc := 45) d_T_forward_45 (c_T_liftLines hd (j := 1) (i := 0) (q := k) (p0 := p0) (fwd := true) (by decide) (by decide) (by decide) hk3 hp3 g0 g4 g5 g2 g3 b2 b4 b1 b3 (Or.inr ⟨rfl, rfl⟩)) s_T_78 ⟨_, rfl⟩ rfl ⟨by decide, by decide⟩ (Nat.le_of_ble_eq_true rfl) ?_
        rintro _ sc1 ar1 ⟨rfl, hs1, ha1, hf1⟩
        refine xg_aload_n X (pc := 48) d_T_forward_48 rfl ?_
        refine xg_iload_n X (pc := 49) d_T_forward_49 rfl ?_
        refine xg_aload_n X (pc := 50) d_T_forward_50 rfl ?_
        refine xf_T_18 X (pc := 51) rfl d_T_forward_51 ?_
        refine xg_aload_n X (pc := 54) d_T_forward_54 rfl ?_
        refine xf_T_22 X (pc := 55) rfl d_T_forward_55 ?_
        refine xg_iload_n X (pc := 58) d_T_forward_58 rfl ?_
        refine xg_iconst X (pc := 59) (v := 1) d_T_forward_59 (by decide) ?_
        refine xg_cV5 X (pc := 60) d_T_forward_60 (c_T_liftLines hd (j := 0) (i := 1) (q := k) (p0 := p0) (fwd := true) (by decide) (by decide) (by decide) hk3 hp3 (by rw [hs1 0 (by decide) (by decide)]; exact g0) (by rw [hs1 2 (by decide) (by decide)]; exact g2) (by rw [hs1 3 (by decide) (by decide)]; exact g3) (by rw [hs1 4 (by decide) (by decide)]; exact g4) (by rw [hs1 5 (by decide) (by decide)]; exact g5) b1 b3 b2 b4 (Or.inr ⟨rfl, rfl⟩)) s_T_78 ⟨_, rfl⟩ rfl ⟨by decide, by decide⟩ (Nat.le_of_ble_eq_true rfl) ?_
        rintro _ sc2 ar2 ⟨rfl, hs2, ha2, hf2⟩
        refine xg_iinc X (pc := 63) d_T_forward_63 rfl (x_inc (by decide : Int32.ofInt (1) = 1) _) (by decide) rfl ?_
        refine xg_goto X (pc := 66) (tgt := 28) d_T_forward_66 rfl ?_
        refine xg_weak [some (.ref (ad 0)), some (.int kn), some (.int (nI (k + 1)))] ⟨rfl, rfl, by rw [x_k1] <;> rfl, trivial⟩ ?_
        refine ih (k + 1) _ _ (by omega) (by omega) (fun z z1 z2 => (hs2 z z1 z2).trans ((hs1 z z1 z2).trans (hsc z z1 z2))) (fun z z1 z2 => (ha2 z z1 z2).trans ((ha1 z z1 z2).trans (har z z1 z2))) ?_
        rw [hf2, hf1, hf]
        rfl
  refine xg_aload_n X (pc := 0) d_T_forward_0 rfl ?_
  refine xg_crV0 X (pc := 1) d_T_forward_1 (c_T_hasTile hd) s_T_68 ⟨_, rfl⟩ rfl ⟨by decide, by decide⟩ (Nat.le_of_ble_eq_true rfl) ?_
  refine xg_if_eq X (pc := 4) (tgt := 24) d_T_forward_4 rfl (fun h4 => ?_) (fun h4 => ?_)
  · replace h4 := x_b0 h4
    refine xg_iconst X (pc := 24) (v := 0) d_T_forward_24 (by decide) ?_
    exact xg_iret X (pc := 25) d_T_forward_25 rfl (rfl) (by show ite _ _ _; rw [if_neg (by clear loop; (try clear hc); (try clear h00); (try clear hp3); (try clear hc0); (try clear hp0); first | (simp_all; done) | grind)]; exact ⟨rfl, rfl, rfl⟩)
  · replace h4 := x_bn h4
    refine xg_iload_n X (pc := 7) d_T_forward_7 rfl ?_
    refine xg_if_lt X (pc := 8) (tgt := 24) d_T_forward_8 rfl (fun h8 => ?_) (fun h8 => ?_)
    · refine xg_iconst X (pc := 24) (v := 0) d_T_forward_24 (by decide) ?_
      exact xg_iret X (pc := 25) d_T_forward_25 rfl (rfl) (by show ite _ _ _; rw [if_neg (by clear loop; (try clear hc); (try clear h00); (try clear hp3); (try clear hc0); (try clear hp0); first | (simp_all; done) | grind)]; exact ⟨rfl, rfl, rfl⟩)
    · refine xg_iload_n X (pc := 11) d_T_forward_11 rfl ?_
      refine xg_iconst X (pc := 12) (v := 3) d_T_forward_12 (by decide) ?_
      refine xg_icmp_ge X (pc := 13) (tgt := 24) d_T_forward_13 rfl (fun h13 => ?_) (fun h13 => ?_)
      · refine xg_iconst X (pc := 24) (v := 0) d_T_forward_24 (by decide) ?_
        exact xg_iret X (pc := 25) d_T_forward_25 rfl (rfl) (by show ite _ _ _; rw [if_neg (by clear loop; (try clear hc); (try clear h00); (try clear hp3); (try clear hc0); (try clear hp0); first | (simp_all; done) | grind)]; exact ⟨rfl, rfl, rfl⟩)
      · refine xg_aload_n X (pc := 16) d_T_forward_16 rfl ?_
        refine xf_T_35 X (pc := 17) rfl d_T_forward_17 ?_
        refine xg_iconst X (pc := 20) (v := 4) d_T_forward_20 (by decide) ?_
        refine xg_icmp_lt X (pc := 21) (tgt := 26) d_T_forward_21 rfl (fun h21 => ?_) (fun h21 => ?_)
        · refine xg_iconst X (pc := 26) (v := 0) d_T_forward_26 (by decide) ?_
          refine xg_istore_n X (pc := 27) d_T_forward_27 (by decide) rfl ?_
          refine xg_weak [some (.ref (ad 0)), some (.int kn), some (.int (nI 0))] ⟨rfl, rfl, rfl, trivial⟩ ?_
          exact loop ⟨h4, h8, h13, h21⟩ _ 0 sc ar (Nat.lt_succ_self _) (by omega) (fun _ _ _ => rfl) (fun _ _ _ => rfl) rfl
        · refine xg_iconst X (pc := 24) (v := 0) d_T_forward_24 (by decide) ?_
          exact xg_iret X (pc := 25) d_T_forward_25 rfl (rfl) (by show ite _ _ _; rw [if_neg (by clear loop; (try clear hc); (try clear h00); (try clear hp3); (try clear hc0); (try clear hp0); first | (simp_all; done) | grind)]; exact ⟨rfl, rfl, rfl⟩)
set_option maxRecDepth 100000 in
set_option maxHeartbeats 800000 in
theorem c_T_back (hd : x_dis ad) {lf tp ww hh p0 : Nat} (hc : x_TC (upd sc 0 (nI p0)) lf tp ww hh p0) (hp3 : p0 ≤ 3) (h00 : ¬ sc 0 = 0 → sc 0 - 1 = nI p0) : x_Con l M_T_back 5 121 ad D cI [.ref (ad 0)] sc ar (fun r sc2 ar2 => if ¬ sc 0 = 0 then (r = some (.int 1) ∧ sc2 0 = sc 0 - 1 ∧ (∀ z, z ≠ 0 → z ≠ 6 → z ≠ 7 → sc2 z = sc z) ∧ (∀ z, z ≠ 0 → z ≠ 2 → ar2 z = ar z) ∧ ar2 0 = x_BK (ar 1 p0) p0 lf tp ww hh (ar 0) 3) else x_E (some (.int 0)) sc ar r sc2 ar2) := by
  refine x_intro hd [some (.ref (ad 0)), none, none] (by decide) (Nat.le_of_ble_eq_true rfl) rfl ?_
  intro p e s m args below meth c X
  have loop : ¬ sc 0 = 0 → sc 0 - 1 = nI p0 → ∀ (n k : Nat) (sc' : Nat → Int32) (ar' : Nat → Nat → Int32), 3 - k < n → k ≤ 3 → (∀ z, z ≠ 6 → z ≠ 7 → sc' z = (upd sc 0 (nI p0)) z) → (∀ z, z ≠ 0 → z ≠ 2 → ar' z = ar z) → ar' 0 = x_BK (ar 1 p0) p0 lf tp ww hh (ar 0) k → x_G p l e (x_rm 5 121) s m args below meth c M_T_back ad D cI (x_A ad) 0 0 (x_Q below args s ad D cI (fun r sc2 ar2 => if ¬ sc 0 = 0 then (r = some (.int 1) ∧ sc2 0 = sc 0 - 1 ∧ (∀ z, z ≠ 0 → z ≠ 6 → z ≠ 7 → sc2 z = sc z) ∧ (∀ z, z ≠ 0 → z ≠ 2 → ar2 z = ar z) ∧ ar2 0 = x_BK (ar 1 p0) p0 lf tp ww hh (ar 0) 3) else x_E (some (.int 0)) sc ar r sc2 ar2)) 31 [some (.ref (ad 0)), some (.int (ar 1 p0)), some (.int (nI k))] [] sc' ar' := by
    intro hcd h0' n
    induction n with
    | zero => intro k sc' ar' h; exact absurd h (Nat.not_lt_zero _)
    | succ n ih =>
      intro k sc' ar' hn hk hsc har hf
      have hc1 : x_TC sc' lf tp ww hh p0 := by
        obtain ⟨h2, h3, h4, h5, h0, b⟩ := id hc
        refine ⟨?_, ?_, ?_, ?_, ?_, b⟩
        · rw [hsc 2 (by decide) (by decide)]; exact h2
        · rw [hsc 3 (by decide) (by decide)]; exact h3
        · rw [hsc 4 (by decide) (by decide)]; exact h4
        · rw [hsc 5 (by decide) (by decide)]; exact h5
        · rw [hsc 0 (by decide) (by decide)]; rfl
      obtain ⟨g2, g3, g4, g5, g0, b1, b2, b3, b4⟩ := id hc1
      refine xg_iload_n X (pc := 31) d_T_back_31 rfl ?_
      refine xg_iconst X (pc := 32) (v := 3) d_T_back_32 (by decide) ?_
      refine xg_icmp_ge X (pc := 33) (tgt := 72) d_T_back_33 rfl (fun h33 => ?_) (fun h33 => ?_)
      · have hk2 : k = 3 := Nat.le_antisymm hk (x_ge (n := 3) rfl (by decide) (by omega) h33)
        subst hk2
        refine xg_iconst X (pc := 72) (v := 1) d_T_back_72 (by decide) ?_
        exact xg_iret X (pc := 73) d_T_back_73 rfl (rfl) (by
            show ite _ _ _
            rw [if_pos hcd]
            refine ⟨rfl, ?_, ?_, har, hf⟩
            · rw [hsc 0 (by decide) (by decide)]; exact h0'.symm
            · intro z z0 z6 z7
              rw [hsc z z6 z7]; exact pk_un z0)
      · have hk3 : k < 3 := x_nge (n := 3) rfl (by decide) (by omega) h33
        refine xg_aload_n X (pc := 36) d_T_back_36 rfl ?_
        refine xg_iload_n X (pc := 37) d_T_back_37 rfl ?_
        refine xg_aload_n X (pc := 38) d_T_back_38 rfl ?_
        refine xf_T_18 X (pc := 39) rfl d_T_back_39 ?_
        refine xg_aload_n X (pc := 42) d_T_back_42 rfl ?_
        refine xf_T_22 X (pc := 43) rfl d_T_back_43 ?_
        refine xg_iload_n X (pc := 46) d_T_back_46 rfl ?_
        refine xg_iconst X (pc := 47) (v := 0) d_T_back_47 (by decide) ?_
        refine xg_cV5 X (pc := 48) d_T_back_48 (c_T_liftLines hd (j := 0) (i := 1) (q := k) (p0 := p0) (fwd := false) (by decide) (by decide) (by decide) hk3 hp3 g0 g2 g3 g4 g5 b1 b3 b2 b4 (Or.inl ⟨rfl, rfl⟩)) s_T_78 ⟨_, rfl⟩ rfl ⟨by decide, by decide⟩ (Nat.le_of_ble_eq_true rfl) ?_
        rintro _ sc1 ar1 ⟨rfl, hs1, ha1, hf1⟩
        refine xg_aload_n X (pc := 51) d_T_back_51 rfl ?_
        refine xg_iload_n X (pc := 52) d_T_back_52 rfl ?_
        refine xg_aload_n X (pc := 53) d_T_back_53 rfl ?_
        refine xf_T_22 X (pc := 54) rfl d_T_back_54 ?_
        refine xg_aload_n X (pc := 57) d_T_back_57 rfl ?_
        refine xf_T_18 X (pc := 58) rfl d_T_back_58 ?_
        refine xg_iload_n X (pc := 61) d_T_back_61 rfl ?_
        refine xg_iconst X (pc := 62) (v := 0) d_T_back_62 (by decide) ?_
        refine xg_cV5 X (pc := 63) d_T_back_63 (c_T_liftLines hd (j := 1) (i := 0) (q := k) (p0 := p0) (fwd := false) (by decide) (by decide) (by decide) hk3 hp3 (by rw [hs1 0 (by decide) (by decide)]; exact g0) (by rw [hs1 4 (by decide) (by decide)]; exact g4) (by rw [hs1 5 (by decide) (by decide)]; exact g5) (by rw [hs1 2 (by decide) (by decide)]; exact g2) (by rw [hs1 3 (by decide) (by decide)]; exact g3) b2 b4 b1 b3 (Or.inl ⟨rfl, rfl⟩)) s_T_78 ⟨_, rfl⟩ rfl ⟨by decide, by decide⟩ (Nat.le_of_ble_eq_true rfl) ?_
        rintro _ sc2 ar2 ⟨rfl, hs2, ha2, hf2⟩
        refine xg_iinc X (pc := 66) d_T_back_66 rfl (x_inc (by decide : Int32.ofInt (1) = 1) _) (by decide) rfl ?_
        refine xg_goto X (pc := 69) (tgt := 31) d_T_back_69 rfl ?_
        refine xg_weak [some (.ref (ad 0)), some (.int (ar 1 p0)), some (.int (nI (k + 1)))] ⟨rfl, rfl, by rw [x_k1] <;> rfl, trivial⟩ ?_
        refine ih (k + 1) _ _ (by omega) (by omega) (fun z z1 z2 => (hs2 z z1 z2).trans ((hs1 z z1 z2).trans (hsc z z1 z2))) (fun z z1 z2 => (ha2 z z1 z2).trans ((ha1 z z1 z2).trans (har z z1 z2))) ?_
        rw [hf2, hf1, hf]
        rfl
  refine xg_aload_n X (pc := 0) d_T_back_0 rfl ?_
  refine xf_T_35 X (pc := 1) rfl d_T_back_1 ?_
  refine xg_if_ne X (pc := 4) (tgt := 9) d_T_back_4 rfl (fun h4 => ?_) (fun h4 => ?_)
  · refine xg_aload_n X (pc := 9) d_T_back_9 rfl ?_
    refine xg_dup X (pc := 10) d_T_back_10 rfl ?_
    refine xf_T_35 X (pc := 11) rfl d_T_back_11 ?_
    refine xg_iconst X (pc := 14) (v := 1) d_T_back_14 (by decide) ?_
    refine xg_isub X (pc := 15) d_T_back_15 ?_
    refine xp_T_35 X (pc := 16) rfl d_T_back_16 ?_
    refine xg_aload_n X (pc := 19) d_T_back_19 rfl ?_
    refine xf_T_32 X (pc := 20) rfl d_T_back_20 ?_
    refine xg_aload_n X (pc := 23) d_T_back_23 rfl ?_
    refine xf_T_35 X (pc := 24) rfl d_T_back_24 ?_
    refine xa_ld5 X (pc := 27) d_T_back_27 (by show vp_in (sc 0 - 1) 4; rw [h00 h4]; exact vp_in_nI (by omega) (by decide)) ?_
    refine xg_istore_n X (pc := 28) d_T_back_28 (by decide) rfl ?_
    refine xg_iconst X (pc := 29) (v := 0) d_T_back_29 (by decide) ?_
    refine xg_istore_n X (pc := 30) d_T_back_30 (by decide) rfl ?_
    refine xg_weak [some (.ref (ad 0)), some (.int (ar 1 p0)), some (.int (nI 0))] ⟨rfl, by show some (Value.int (ar 1 (sc 0 - 1).toNatClampNeg)) = _; rw [h00 h4, nI_clamp (by omega)], rfl, trivial⟩ ?_
    exact xg_eq (by show upd sc 0 (sc 0 - 1) = _; rw [h00 h4]) rfl rfl (loop h4 (h00 h4) _ 0 (upd sc 0 (nI p0)) ar (Nat.lt_succ_self _) (by omega) (fun _ _ _ => rfl) (fun _ _ _ => rfl) rfl)
  · refine xg_iconst X (pc := 7) (v := 0) d_T_back_7 (by decide) ?_
    exact xg_iret X (pc := 8) d_T_back_8 rfl (rfl) (by show ite _ _ _; rw [if_neg (by clear loop; (try clear hc); (try clear h00); (try clear hp3); (try clear hc0); (try clear hp0); first | (simp_all; done) | grind)]; exact ⟨rfl, rfl, rfl⟩)
end C14
end
section
theorem x_scN {x : Int32} {p : Nat} (hp : p ≤ 4) (h : x - 1 = nI p) : 1 <<< ((x - 1) &&& 31) = nI (2 ^ p) := by
  rw [h]
  have := x_shl (x := 1) hp (by decide)
  rw [Nat.one_mul] at this
  exact this
section C15
variable {l : Launch} {ad : Nat → Nat} {D : va_G} {cI : ClassId} {sc : Nat → Int32} {ar : Nat → Nat → Int32}
set_option maxRecDepth 100000 in
set_option maxHeartbeats 800000 in
theorem c_R_forward (hd : x_dis ad) {lf tp ww hh p0 : Nat} {kn : Int32} (hc0 : ¬ sc 8 = 0 → x_RC sc lf tp ww hh ∧ 0 < ww ∧ 0 < hh) (hp0 : sc 14 = nI p0) (hp3 : sc 14 < 4 → p0 ≤ 3) : x_Con l M_R_forward 7 157 ad D cI [.ref (ad 7), .int kn] sc ar (fun r sc2 ar2 => if ¬ sc 8 = 0 ∧ ¬ kn < 0 ∧ ¬ 2 < kn ∧ sc 14 < 4 then (r = some (.int 1) ∧ sc2 14 = sc 14 + 1 ∧ (∀ z, z ≠ 14 → z ≠ 15 → z ≠ 16 → z ≠ 17 → sc2 z = sc z) ∧ (∀ z, z ≠ 3 → z ≠ 4 → z ≠ 5 → z ≠ 6 → ar2 z = ar z) ∧ ar2 4 = x_FW kn p0 lf tp ww hh (ar 4) 3 ∧ ar2 3 = upd (ar 3) p0 kn) else x_E (some (.int 0)) sc ar r sc2 ar2) := by
  refine x_intro hd [some (.ref (ad 7)), some (.int kn), none, none] (by decide) (Nat.le_of_ble_eq_true rfl) rfl ?_
  intro p e s m args below meth c X
  have loop : ¬ sc 8 = 0 ∧ ¬ kn < 0 ∧ ¬ 2 < kn ∧ sc 14 < 4 → (x_RC sc lf tp ww hh ∧ 0 < ww ∧ 0 < hh) → p0 ≤ 3 → ∀ (n k : Nat) (sc' : Nat → Int32) (ar' : Nat → Nat → Int32), 3 - k < n → k ≤ 3 → (∀ z, z ≠ 15 → z ≠ 16 → sc' z = (upd (upd sc 14 (sc 14 + 1)) 17 kn) z) → (∀ z, z ≠ 4 → z ≠ 5 → z ≠ 6 → ar' z = (x_ua ar 3 (upd (ar 3) p0 kn)) z) → ar' 4 = x_FW kn p0 lf tp ww hh (ar 4) k → x_G p l e (x_rm 7 157) s m args below meth c M_R_forward ad D cI (x_A ad) 0 0 (x_Q below args s ad D cI (fun r sc2 ar2 => if ¬ sc 8 = 0 ∧ ¬ kn < 0 ∧ ¬ 2 < kn ∧ sc 14 < 4 then (r = some (.int 1) ∧ sc2 14 = sc 14 + 1 ∧ (∀ z, z ≠ 14 → z ≠ 15 → z ≠ 16 → z ≠ 17 → sc2 z = sc z) ∧ (∀ z, z ≠ 3 → z ≠ 4 → z ≠ 5 → z ≠ 6 → ar2 z = ar z) ∧ ar2 4 = x_FW kn p0 lf tp ww hh (ar 4) 3 ∧ ar2 3 = upd (ar 3) p0 kn) else x_E (some (.int 0)) sc ar r sc2 ar2)) 61 [some (.ref (ad 7)), some (.int kn), some (.int (nI (2 ^ p0))), some (.int (nI k))] [] sc' ar' := by
    intro hcd hcR hp9 n
    induction n with
    | zero => intro k sc' ar' h; exact absurd h (Nat.not_lt_zero _)
    | succ n ih =>
      intro k sc' ar' hn hk hsc har hf
      refine xg_iload_n X (pc := 61) d_R_forward_61 rfl ?_
      refine xg_iconst X (pc := 62) (v := 3) d_R_forward_62 (by decide) ?_
      refine xg_icmp_ge X (pc := 63) (tgt := 86) d_R_forward_63 rfl (fun h63 => ?_) (fun h63 => ?_)
      · have hk2 : k = 3 := Nat.le_antisymm hk (x_ge (n := 3) rfl (by decide) (by omega) h63)
        subst hk2
        refine xg_iconst X (pc := 86) (v := 1) d_R_forward_86 (by decide) ?_
        exact xg_iret X (pc := 87) d_R_forward_87 rfl (rfl) (by
            show ite _ _ _
            rw [if_pos hcd]
            refine ⟨rfl, ?_, ?_, ?_, hf, ?_⟩
            · rw [hsc 14 (by decide) (by decide)]; rfl
            · intro z z0 z1 z2 z3
              rw [hsc z z1 z2, pk_un z3, pk_un z0]
            · intro z z0 z1 z2 z3
              rw [har z z1 z2 z3, x_ua_ne z0]
            · rw [har 3 (by decide) (by decide) (by decide), x_ua_at])
      · have hk3 : k < 3 := x_nge (n := 3) rfl (by decide) (by omega) h63
        have hc1 : x_RC sc' lf tp ww hh := by
          obtain ⟨h8, h9, h10, h11, h12, b⟩ := hcR.1
          refine ⟨?_, ?_, ?_, ?_, ?_, b⟩
          · rw [hsc 8 (by decide) (by decide)]; exact h8
          · rw [hsc 9 (by decide) (by decide)]; exact h9
          · rw [hsc 10 (by decide) (by decide)]; exact h10
          · rw [hsc 11 (by decide) (by decide)]; exact h11
          · rw [hsc 12 (by decide) (by decide)]; exact h12
        refine xg_aload_n X (pc := 66) d_R_forward_66 rfl ?_
        refine xg_iload_n X (pc := 67) d_R_forward_67 rfl ?_
        refine xg_iload_n X (pc := 68) d_R_forward_68 rfl ?_
        refine xg_iconst X (pc := 69) (v := 0) d_R_forward_69 (by decide) ?_
        refine xg_cV3 X (pc := 70) d_R_forward_70 (c_R_columns hd hc1 hk3 hp9 hcR.2 (fwd := true) (Or.inl ⟨rfl, rfl⟩)) s_R_116 ⟨_, rfl⟩ rfl ⟨by decide, by decide⟩ (Nat.le_of_ble_eq_true rfl) ?_
        rintro _ sc1 ar1 ⟨rfl, hs1, ha1, hf1⟩
        have hc2 : x_RC sc1 lf tp ww hh := by
          obtain ⟨h8, h9, h10, h11, h12, b⟩ := hc1
          refine ⟨?_, ?_, ?_, ?_, ?_, b⟩
          · rw [hs1 8 (by decide) (by decide)]; exact h8
          · rw [hs1 9 (by decide) (by decide)]; exact h9
          · rw [hs1 10 (by decide) (by decide)]; exact h10
          · rw [hs1 11 (by decide) (by decide)]; exact h11
          · rw [hs1 12 (by decide) (by decide)]; exact h12
        refine xg_aload_n X (pc := 73) d_R_forward_73 rfl ?_
        refine xg_iload_n X (pc := 74) d_R_forward_74 rfl ?_
        refine xg_iload_n X (pc := 75) d_R_forward_75 rfl ?_
        refine xg_iconst X (pc := 76) (v := 0) d_R_forward_76 (by decide) ?_
        refine xg_cV3 X (pc := 77) d_R_forward_77 (c_R_rows hd hc2 hk3 hp9 hcR.2 (fwd := true) (Or.inl ⟨rfl, rfl⟩)) s_R_120 ⟨_, rfl⟩ rfl ⟨by decide, by decide⟩ (Nat.le_of_ble_eq_true rfl) ?_
        rintro _ sc2 ar2 ⟨rfl, hs2, ha2, hf2⟩
        refine xg_iinc X (pc := 80) d_R_forward_80 rfl (x_inc (by decide : Int32.ofInt (1) = 1) _) (by decide) rfl ?_
        refine xg_goto X (pc := 83) (tgt := 61) d_R_forward_83 rfl ?_
        refine xg_weak [some (.ref (ad 7)), some (.int kn), some (.int (nI (2 ^ p0))), some (.int (nI (k + 1)))] ⟨rfl, rfl, rfl, by rw [x_k1] <;> rfl, trivial⟩ ?_
        refine ih (k + 1) _ _ (by omega) (by omega) (fun z z1 z2 => (hs2 z z1 z2).trans ((hs1 z z1 z2).trans (hsc z z1 z2))) (fun z z1 z2 z3 => (ha2 z z1 z2 z3).trans ((ha1 z z1 z2 z3).trans (har z z1 z2 z3))) ?_
        rw [hf2, hf1, hf, hs1 17 (by decide) (by decide), hsc 17 (by decide) (by decide)]
        rfl
  refine xg_aload_n X (pc := 0) d_R_forward_0 rfl ?_
  refine xf_R_22 X (pc := 1) rfl d_R_forward_1 ?_
  refine xg_if_eq X (pc := 4) (tgt := 24) d_R_forward_4 rfl (fun h4 => ?_) (fun h4 => ?_)
  · refine xg_iconst X (pc := 24) (v := 0) d_R_forward_24 (by decide) ?_
    exact xg_iret X (pc := 25) d_R_forward_25 rfl (rfl) (by show ite _ _ _; rw [if_neg (by clear loop; (try clear hc); (try clear h00); (try clear hp3); (try clear hc0); (try clear hp0); first | (simp_all; done) | grind)]; exact ⟨rfl, rfl, rfl⟩)
  · refine xg_iload_n X (pc := 7) d_R_forward_7 rfl ?_
    refine xg_if_lt X (pc := 8) (tgt := 24) d_R_forward_8 rfl (fun h8 => ?_) (fun h8 => ?_)
    · refine xg_iconst X (pc := 24) (v := 0) d_R_forward_24 (by decide) ?_
      exact xg_iret X (pc := 25) d_R_forward_25 rfl (rfl) (by show ite _ _ _; rw [if_neg (by clear loop; (try clear hc); (try clear h00); (try clear hp3); (try clear hc0); (try clear hp0); first | (simp_all; done) | grind)]; exact ⟨rfl, rfl, rfl⟩)
    · refine xg_iload_n X (pc := 11) d_R_forward_11 rfl ?_
      refine xg_iconst X (pc := 12) (v := 2) d_R_forward_12 (by decide) ?_
      refine xg_icmp_gt X (pc := 13) (tgt := 24) d_R_forward_13 rfl (fun h13 => ?_) (fun h13 => ?_)
      · refine xg_iconst X (pc := 24) (v := 0) d_R_forward_24 (by decide) ?_
        exact xg_iret X (pc := 25) d_R_forward_25 rfl (rfl) (by show ite _ _ _; rw [if_neg (by clear loop; (try clear hc); (try clear h00); (try clear hp3); (try clear hc0); (try clear hp0); first | (simp_all; done) | grind)]; exact ⟨rfl, rfl, rfl⟩)
      · refine xg_aload_n X (pc := 16) d_R_forward_16 rfl ?_
        refine xf_R_42 X (pc := 17) rfl d_R_forward_17 ?_
        refine xg_iconst X (pc := 20) (v := 4) d_R_forward_20 (by decide) ?_
        refine xg_icmp_lt X (pc := 21) (tgt := 26) d_R_forward_21 rfl (fun h21 => ?_) (fun h21 => ?_)
        · refine xg_aload_n X (pc := 26) d_R_forward_26 rfl ?_
          refine xf_R_7 X (pc := 27) rfl d_R_forward_27 ?_
          refine xg_aload_n X (pc := 30) d_R_forward_30 rfl ?_
          refine xf_R_42 X (pc := 31) rfl d_R_forward_31 ?_
          refine xg_iload_n X (pc := 34) d_R_forward_34 rfl ?_
          refine xa_st8 X (pc := 35) d_R_forward_35 (by rw [hp0]; exact vp_in_nI (by have := hp3 h21; omega) (by decide)) ?_
          refine xg_aload_n X (pc := 36) d_R_forward_36 rfl ?_
          refine xg_dup X (pc := 37) d_R_forward_37 rfl ?_
          refine xf_R_42 X (pc := 38) rfl d_R_forward_38 ?_
          refine xg_iconst X (pc := 41) (v := 1) d_R_forward_41 (by decide) ?_
          refine xg_iadd X (pc := 42) d_R_forward_42 ?_
          refine xp_R_42 X (pc := 43) rfl d_R_forward_43 ?_
          refine xg_aload_n X (pc := 46) d_R_forward_46 rfl ?_
          refine xg_iload_n X (pc := 47) d_R_forward_47 rfl ?_
          refine xp_R_67 X (pc := 48) rfl d_R_forward_48 ?_
          refine xg_aload_n X (pc := 51) d_R_forward_51 rfl ?_
          refine xf_R_42 X (pc := 52) rfl d_R_forward_52 ?_
          refine xg_crS1 X (pc := 55) d_R_forward_55 (c_R_scale hd) s_R_113 ⟨by decide, by decide⟩ (Nat.le_of_ble_eq_true rfl) ?_
          refine xg_istore_n X (pc := 58) d_R_forward_58 (by decide) rfl ?_
          refine xg_iconst X (pc := 59) (v := 0) d_R_forward_59 (by decide) ?_
          refine xg_istore_n X (pc := 60) d_R_forward_60 (by decide) rfl ?_
          have hp9 := hp3 h21
          refine xg_weak [some (.ref (ad 7)), some (.int kn), some (.int (nI (2 ^ p0))), some (.int (nI 0))] ⟨rfl, rfl, by show some (Value.int (1 <<< ((sc 14 + 1 - 1) &&& 31))) = _; rw [x_scN (p := p0) (by omega) (by rw [hp0, x_k1, nI_pred])], rfl, trivial⟩ ?_
          exact xg_eq rfl (by rw [hp0, nI_clamp (by omega)]) rfl (loop ⟨h4, h8, h13, h21⟩ (hc0 h4) hp9 _ 0 (upd (upd sc 14 (sc 14 + 1)) 17 kn) (x_ua ar 3 (upd (ar 3) p0 kn)) (Nat.lt_succ_self _) (by omega) (fun _ _ _ => rfl) (fun _ _ _ _ => rfl) rfl)
        · refine xg_iconst X (pc := 24) (v := 0) d_R_forward_24 (by decide) ?_
          exact xg_iret X (pc := 25) d_R_forward_25 rfl (rfl) (by show ite _ _ _; rw [if_neg (by clear loop; (try clear hc); (try clear h00); (try clear hp3); (try clear hc0); (try clear hp0); first | (simp_all; done) | grind)]; exact ⟨rfl, rfl, rfl⟩)
set_option maxRecDepth 100000 in
set_option maxHeartbeats 800000 in
theorem c_R_back (hd : x_dis ad) {lf tp ww hh p0 : Nat} (hc0 : ¬ sc 14 = 0 → (x_RC sc lf tp ww hh ∧ 0 < ww ∧ 0 < hh) ∧ sc 14 - 1 = nI p0 ∧ p0 ≤ 3) : x_Con l M_R_back 7 157 ad D cI [.ref (ad 7)] sc ar (fun r sc2 ar2 => if ¬ sc 14 = 0 then (r = some (.int 1) ∧ sc2 14 = sc 14 - 1 ∧ (∀ z, z ≠ 14 → z ≠ 15 → z ≠ 16 → z ≠ 17 → sc2 z = sc z) ∧ (∀ z, z ≠ 4 → z ≠ 5 → z ≠ 6 → ar2 z = ar z) ∧ ar2 4 = x_BK (ar 3 p0) p0 lf tp ww hh (ar 4) 3) else x_E (some (.int 0)) sc ar r sc2 ar2) := by
  refine x_intro hd [some (.ref (ad 7)), none, none] (by decide) (Nat.le_of_ble_eq_true rfl) rfl ?_
  intro p e s m args below meth c X
  have loop : ¬ sc 14 = 0 → (x_RC sc lf tp ww hh ∧ 0 < ww ∧ 0 < hh) → p0 ≤ 3 → ∀ (n k : Nat) (sc' : Nat → Int32) (ar' : Nat → Nat → Int32), 3 - k < n → k ≤ 3 → (∀ z, z ≠ 15 → z ≠ 16 → sc' z = (upd sc 17 (ar 3 p0)) z) → (∀ z, z ≠ 4 → z ≠ 5 → z ≠ 6 → ar' z = ar z) → ar' 4 = x_BK (ar 3 p0) p0 lf tp ww hh (ar 4) k → x_G p l e (x_rm 7 157) s m args below meth c M_R_back ad D cI (x_A ad) 0 0 (x_Q below args s ad D cI (fun r sc2 ar2 => if ¬ sc 14 = 0 then (r = some (.int 1) ∧ sc2 14 = sc 14 - 1 ∧ (∀ z, z ≠ 14 → z ≠ 15 → z ≠ 16 → z ≠ 17 → sc2 z = sc z) ∧ (∀ z, z ≠ 4 → z ≠ 5 → z ≠ 6 → ar2 z = ar z) ∧ ar2 4 = x_BK (ar 3 p0) p0 lf tp ww hh (ar 4) 3) else x_E (some (.int 0)) sc ar r sc2 ar2)) 34 [some (.ref (ad 7)), some (.int (nI (2 ^ p0))), some (.int (nI k))] [] sc' ar' := by
    intro hcd hcR hp9 n
    induction n with
    | zero => intro k sc' ar' h; exact absurd h (Nat.not_lt_zero _)
    | succ n ih =>
      intro k sc' ar' hn hk hsc har hf
      refine xg_iload_n X (pc := 34) d_R_back_34 rfl ?_
      refine xg_iconst X (pc := 35) (v := 3) d_R_back_35 (by decide) ?_
      refine xg_icmp_ge X (pc := 36) (tgt := 59) d_R_back_36 rfl (fun h36 => ?_) (fun h36 => ?_)
      · have hk2 : k = 3 := Nat.le_antisymm hk (x_ge (n := 3) rfl (by decide) (by omega) h36)
        subst hk2
        refine xg_aload_n X (pc := 59) d_R_back_59 rfl ?_
        refine xg_dup X (pc := 60) d_R_back_60 rfl ?_
        refine xf_R_42 X (pc := 61) rfl d_R_back_61 ?_
        refine xg_iconst X (pc := 64) (v := 1) d_R_back_64 (by decide) ?_
        refine xg_isub X (pc := 65) d_R_back_65 ?_
        refine xp_R_42 X (pc := 66) rfl d_R_back_66 ?_
        refine xg_iconst X (pc := 69) (v := 1) d_R_back_69 (by decide) ?_
        exact xg_iret X (pc := 70) d_R_back_70 rfl (rfl) (by
            show ite _ _ _
            rw [if_pos hcd]
            refine ⟨rfl, ?_, ?_, har, hf⟩
            · show sc' 14 - 1 = _
              rw [hsc 14 (by decide) (by decide)]; rfl
            · intro z z0 z1 z2 z3
              rw [pk_un z0, hsc z z1 z2, pk_un z3])
      · have hk3 : k < 3 := x_nge (n := 3) rfl (by decide) (by omega) h36
        have hc1 : x_RC sc' lf tp ww hh := by
          obtain ⟨h8, h9, h10, h11, h12, b⟩ := hcR.1
          refine ⟨?_, ?_, ?_, ?_, ?_, b⟩
          · rw [hsc 8 (by decide) (by decide)]; exact h8
          · rw [hsc 9 (by decide) (by decide)]; exact h9
          · rw [hsc 10 (by decide) (by decide)]; exact h10
          · rw [hsc 11 (by decide) (by decide)]; exact h11
          · rw [hsc 12 (by decide) (by decide)]; exact h12
        refine xg_aload_n X (pc := 39) d_R_back_39 rfl ?_
        refine xg_iload_n X (pc := 40) d_R_back_40 rfl ?_
        refine xg_iload_n X (pc := 41) d_R_back_41 rfl ?_
        refine xg_iconst X (pc := 42) (v := 1) d_R_back_42 (by decide) ?_
        refine xg_cV3 X (pc := 43) d_R_back_43 (c_R_rows hd hc1 hk3 hp9 hcR.2 (fwd := false) (Or.inr ⟨by decide, rfl⟩)) s_R_120 ⟨_, rfl⟩ rfl ⟨by decide, by decide⟩ (Nat.le_of_ble_eq_true rfl) ?_
        rintro _ sc1 ar1 ⟨rfl, hs1, ha1, hf1⟩
        have hc2 : x_RC sc1 lf tp ww hh := by
          obtain ⟨h8, h9, h10, h11, h12, b⟩ := hc1
          refine ⟨?_, ?_, ?_, ?_, ?_, b⟩
          · rw [hs1 8 (by decide) (by decide)]; exact h8
          · rw [hs1 9 (by decide) (by decide)]; exact h9
          · rw [hs1 10 (by decide) (by decide)]; exact h10
          · rw [hs1 11 (by decide) (by decide)]; exact h11
          · rw [hs1 12 (by decide) (by decide)]; exact h12
        refine xg_aload_n X (pc := 46) d_R_back_46 rfl ?_
        refine xg_iload_n X (pc := 47) d_R_back_47 rfl ?_
        refine xg_iload_n X (pc := 48) d_R_back_48 rfl ?_
        refine xg_iconst X (pc := 49) (v := 1) d_R_back_49 (by decide) ?_
        refine xg_cV3 X (pc := 50) d_R_back_50 (c_R_columns hd hc2 hk3 hp9 hcR.2 (fwd := false) (Or.inr ⟨by decide, rfl⟩)) s_R_116 ⟨_, rfl⟩ rfl ⟨by decide, by decide⟩ (Nat.le_of_ble_eq_true rfl) ?_
        rintro _ sc2 ar2 ⟨rfl, hs2, ha2, hf2⟩
        refine xg_iinc X (pc := 53) d_R_back_53 rfl (x_inc (by decide : Int32.ofInt (1) = 1) _) (by decide) rfl ?_
        refine xg_goto X (pc := 56) (tgt := 34) d_R_back_56 rfl ?_
        refine xg_weak [some (.ref (ad 7)), some (.int (nI (2 ^ p0))), some (.int (nI (k + 1)))] ⟨rfl, rfl, by rw [x_k1] <;> rfl, trivial⟩ ?_
        refine ih (k + 1) _ _ (by omega) (by omega) (fun z z1 z2 => (hs2 z z1 z2).trans ((hs1 z z1 z2).trans (hsc z z1 z2))) (fun z z1 z2 z3 => (ha2 z z1 z2 z3).trans ((ha1 z z1 z2 z3).trans (har z z1 z2 z3))) ?_
        rw [hf2, hf1, hf, hs1 17 (by decide) (by decide), hsc 17 (by decide) (by decide)]
        rfl
  refine xg_aload_n X (pc := 0) d_R_back_0 rfl ?_
  refine xf_R_42 X (pc := 1) rfl d_R_back_1 ?_
  refine xg_if_ne X (pc := 4) (tgt := 9) d_R_back_4 rfl (fun h4 => ?_) (fun h4 => ?_)
  · refine xg_aload_n X (pc := 9) d_R_back_9 rfl ?_
    refine xg_aload_n X (pc := 10) d_R_back_10 rfl ?_
    refine xf_R_7 X (pc := 11) rfl d_R_back_11 ?_
    refine xg_aload_n X (pc := 14) d_R_back_14 rfl ?_
    refine xf_R_42 X (pc := 15) rfl d_R_back_15 ?_
    refine xg_iconst X (pc := 18) (v := 1) d_R_back_18 (by decide) ?_
    refine xg_isub X (pc := 19) d_R_back_19 ?_
    refine xa_ld8 X (pc := 20) d_R_back_20 (by obtain ⟨-, h9, hp9⟩ := hc0 h4; rw [h9]; exact vp_in_nI (by omega) (by decide)) ?_
    refine xp_R_67 X (pc := 21) rfl d_R_back_21 ?_
    refine xg_aload_n X (pc := 24) d_R_back_24 rfl ?_
    refine xf_R_42 X (pc := 25) rfl d_R_back_25 ?_
    refine xg_crS1 X (pc := 28) d_R_back_28 (c_R_scale hd) s_R_113 ⟨by decide, by decide⟩ (Nat.le_of_ble_eq_true rfl) ?_
    refine xg_istore_n X (pc := 31) d_R_back_31 (by decide) rfl ?_
    refine xg_iconst X (pc := 32) (v := 0) d_R_back_32 (by decide) ?_
    refine xg_istore_n X (pc := 33) d_R_back_33 (by decide) rfl ?_
    obtain ⟨hcR, h9, hp9⟩ := hc0 h4
    refine xg_weak [some (.ref (ad 7)), some (.int (nI (2 ^ p0))), some (.int (nI 0))] ⟨rfl, by show some (Value.int (1 <<< ((sc 14 - 1) &&& 31))) = _; rw [x_scN (by omega) h9], rfl, trivial⟩ ?_
    exact xg_eq (by show upd sc 17 (ar 3 (sc 14 - 1).toNatClampNeg) = _; rw [h9, nI_clamp (by omega)]) rfl rfl (loop h4 hcR hp9 _ 0 (upd sc 17 (ar 3 p0)) ar (Nat.lt_succ_self _) (by omega) (fun _ _ _ => rfl) (fun _ _ _ _ => rfl) rfl)
  · refine xg_iconst X (pc := 7) (v := 0) d_R_back_7 (by decide) ?_
    exact xg_iret X (pc := 8) d_R_back_8 rfl (rfl) (by show ite _ _ _; rw [if_neg (by clear loop; (try clear hc); (try clear h00); (try clear hp3); (try clear hc0); (try clear hp0); first | (simp_all; done) | grind)]; exact ⟨rfl, rfl, rfl⟩)
end C15
end
section
theorem d_T_init_0 : decode M_T_init.2.1 0 = .ok (.aload_n 0, 1) := by decide +kernel
theorem d_T_init_1 : decode M_T_init.2.1 1 = .ok (.invokespecial 3, 3) := by decide +kernel
theorem d_T_init_4 : decode M_T_init.2.1 4 = .ok (.aload_n 0, 1) := by decide +kernel
theorem d_T_init_5 : decode M_T_init.2.1 5 = .ok (.sipush (768), 3) := by decide +kernel
theorem d_T_init_8 : decode M_T_init.2.1 8 = .ok (.newarray .int, 2) := by decide +kernel
theorem d_T_init_10 : decode M_T_init.2.1 10 = .ok (.putfield 9, 3) := by decide +kernel
theorem d_T_init_13 : decode M_T_init.2.1 13 = .ok (.aload_n 0, 1) := by decide +kernel
theorem d_T_init_14 : decode M_T_init.2.1 14 = .ok (.new 13, 3) := by decide +kernel
theorem d_T_init_17 : decode M_T_init.2.1 17 = .ok (.dup, 1) := by decide +kernel
theorem d_T_init_18 : decode M_T_init.2.1 18 = .ok (.iconst 1, 1) := by decide +kernel
theorem d_T_init_19 : decode M_T_init.2.1 19 = .ok (.invokespecial 15, 3) := by decide +kernel
theorem d_T_init_22 : decode M_T_init.2.1 22 = .ok (.putfield 18, 3) := by decide +kernel
theorem d_T_init_25 : decode M_T_init.2.1 25 = .ok (.aload_n 0, 1) := by decide +kernel
theorem d_T_init_26 : decode M_T_init.2.1 26 = .ok (.new 13, 3) := by decide +kernel
theorem d_T_init_29 : decode M_T_init.2.1 29 = .ok (.dup, 1) := by decide +kernel
theorem d_T_init_30 : decode M_T_init.2.1 30 = .ok (.bipush (16), 2) := by decide +kernel
theorem d_T_init_32 : decode M_T_init.2.1 32 = .ok (.invokespecial 15, 3) := by decide +kernel
theorem d_T_init_35 : decode M_T_init.2.1 35 = .ok (.putfield 22, 3) := by decide +kernel
theorem d_T_init_38 : decode M_T_init.2.1 38 = .ok (.aload_n 0, 1) := by decide +kernel
theorem d_T_init_39 : decode M_T_init.2.1 39 = .ok (.new 25, 3) := by decide +kernel
theorem d_T_init_42 : decode M_T_init.2.1 42 = .ok (.dup, 1) := by decide +kernel
theorem d_T_init_43 : decode M_T_init.2.1 43 = .ok (.invokespecial 27, 3) := by decide +kernel
theorem d_T_init_46 : decode M_T_init.2.1 46 = .ok (.putfield 28, 3) := by decide +kernel
theorem d_T_init_49 : decode M_T_init.2.1 49 = .ok (.aload_n 0, 1) := by decide +kernel
theorem d_T_init_50 : decode M_T_init.2.1 50 = .ok (.iconst 4, 1) := by decide +kernel
theorem d_T_init_51 : decode M_T_init.2.1 51 = .ok (.newarray .int, 2) := by decide +kernel
theorem d_T_init_53 : decode M_T_init.2.1 53 = .ok (.putfield 32, 3) := by decide +kernel
theorem d_T_init_56 : decode M_T_init.2.1 56 = .ok (.aload_n 0, 1) := by decide +kernel
theorem d_T_init_57 : decode M_T_init.2.1 57 = .ok (.iconst 0, 1) := by decide +kernel
theorem d_T_init_58 : decode M_T_init.2.1 58 = .ok (.putfield 35, 3) := by decide +kernel
theorem d_T_init_61 : decode M_T_init.2.1 61 = .ok (.aload_n 0, 1) := by decide +kernel
theorem d_T_init_62 : decode M_T_init.2.1 62 = .ok (.iconst 0, 1) := by decide +kernel
theorem d_T_init_63 : decode M_T_init.2.1 63 = .ok (.putfield 39, 3) := by decide +kernel
theorem d_T_init_66 : decode M_T_init.2.1 66 = .ok (.return_, 1) := by decide +kernel
theorem d_S_init_0 : decode M_S_init.2.1 0 = .ok (.aload_n 0, 1) := by decide +kernel
theorem d_S_init_1 : decode M_S_init.2.1 1 = .ok (.invokespecial 1, 3) := by decide +kernel
theorem d_S_init_4 : decode M_S_init.2.1 4 = .ok (.aload_n 0, 1) := by decide +kernel
theorem d_S_init_5 : decode M_S_init.2.1 5 = .ok (.iload_n 1, 1) := by decide +kernel
theorem d_S_init_6 : decode M_S_init.2.1 6 = .ok (.putfield 7, 3) := by decide +kernel
theorem d_S_init_9 : decode M_S_init.2.1 9 = .ok (.aload_n 0, 1) := by decide +kernel
theorem d_S_init_10 : decode M_S_init.2.1 10 = .ok (.iconst 0, 1) := by decide +kernel
theorem d_S_init_11 : decode M_S_init.2.1 11 = .ok (.putfield 13, 3) := by decide +kernel
theorem d_S_init_14 : decode M_S_init.2.1 14 = .ok (.aload_n 0, 1) := by decide +kernel
theorem d_S_init_15 : decode M_S_init.2.1 15 = .ok (.iconst 0, 1) := by decide +kernel
theorem d_S_init_16 : decode M_S_init.2.1 16 = .ok (.putfield 16, 3) := by decide +kernel
theorem d_S_init_19 : decode M_S_init.2.1 19 = .ok (.return_, 1) := by decide +kernel
theorem d_L_init_0 : decode M_L_init.2.1 0 = .ok (.aload_n 0, 1) := by decide +kernel
theorem d_L_init_1 : decode M_L_init.2.1 1 = .ok (.invokespecial 3, 3) := by decide +kernel
theorem d_L_init_4 : decode M_L_init.2.1 4 = .ok (.aload_n 0, 1) := by decide +kernel
theorem d_L_init_5 : decode M_L_init.2.1 5 = .ok (.bipush (16), 2) := by decide +kernel
theorem d_L_init_7 : decode M_L_init.2.1 7 = .ok (.newarray .int, 2) := by decide +kernel
theorem d_L_init_9 : decode M_L_init.2.1 9 = .ok (.putfield 9, 3) := by decide +kernel
theorem d_L_init_12 : decode M_L_init.2.1 12 = .ok (.aload_n 0, 1) := by decide +kernel
theorem d_L_init_13 : decode M_L_init.2.1 13 = .ok (.iconst 0, 1) := by decide +kernel
theorem d_L_init_14 : decode M_L_init.2.1 14 = .ok (.putfield 15, 3) := by decide +kernel
theorem d_L_init_17 : decode M_L_init.2.1 17 = .ok (.aload_n 0, 1) := by decide +kernel
theorem d_L_init_18 : decode M_L_init.2.1 18 = .ok (.iconst 0, 1) := by decide +kernel
theorem d_L_init_19 : decode M_L_init.2.1 19 = .ok (.putfield 19, 3) := by decide +kernel
theorem d_L_init_22 : decode M_L_init.2.1 22 = .ok (.return_, 1) := by decide +kernel
theorem d_R_init_0 : decode M_R_init.2.1 0 = .ok (.aload_n 0, 1) := by decide +kernel
theorem d_R_init_1 : decode M_R_init.2.1 1 = .ok (.invokespecial 1, 3) := by decide +kernel
theorem d_R_init_4 : decode M_R_init.2.1 4 = .ok (.aload_n 0, 1) := by decide +kernel
theorem d_R_init_5 : decode M_R_init.2.1 5 = .ok (.iconst 4, 1) := by decide +kernel
theorem d_R_init_6 : decode M_R_init.2.1 6 = .ok (.newarray .int, 2) := by decide +kernel
theorem d_R_init_8 : decode M_R_init.2.1 8 = .ok (.putfield 7, 3) := by decide +kernel
theorem d_R_init_11 : decode M_R_init.2.1 11 = .ok (.aload_n 0, 1) := by decide +kernel
theorem d_R_init_12 : decode M_R_init.2.1 12 = .ok (.sipush (768), 3) := by decide +kernel
theorem d_R_init_15 : decode M_R_init.2.1 15 = .ok (.newarray .int, 2) := by decide +kernel
theorem d_R_init_17 : decode M_R_init.2.1 17 = .ok (.putfield 13, 3) := by decide +kernel
theorem d_R_init_20 : decode M_R_init.2.1 20 = .ok (.aload_n 0, 1) := by decide +kernel
theorem d_R_init_21 : decode M_R_init.2.1 21 = .ok (.bipush (16), 2) := by decide +kernel
theorem d_R_init_23 : decode M_R_init.2.1 23 = .ok (.newarray .int, 2) := by decide +kernel
theorem d_R_init_25 : decode M_R_init.2.1 25 = .ok (.putfield 16, 3) := by decide +kernel
theorem d_R_init_28 : decode M_R_init.2.1 28 = .ok (.aload_n 0, 1) := by decide +kernel
theorem d_R_init_29 : decode M_R_init.2.1 29 = .ok (.bipush (16), 2) := by decide +kernel
theorem d_R_init_31 : decode M_R_init.2.1 31 = .ok (.newarray .int, 2) := by decide +kernel
theorem d_R_init_33 : decode M_R_init.2.1 33 = .ok (.putfield 19, 3) := by decide +kernel
theorem d_R_init_36 : decode M_R_init.2.1 36 = .ok (.return_, 1) := by decide +kernel
end
section
theorem x_goodc {w : Cond} (h : x_good [w] = true) : GoodIn x_tb (w :: x_tb) := x_pair (a := []) x_g0 h
set_option maxRecDepth 100000 in
set_option maxHeartbeats 800000 in
theorem c_S_init (l : Launch) (dC : Nat → ClassId) (dI : Nat → Nat → Nat) (h0 : Nat) (sz : Nat) (st : Int32) : Met l M_S_init.1 (Cond.code M_S_init.1 M_S_init.2.1 M_S_init.2.2.1 M_S_init.2.2.2 :: x_tb) ({ frames := 1, cells := 0, slots := 0, locals := 12 }) (va_Pc [.ref h0, .int st] (fun U => U.heap.size = sz ∧ va_P (dC, dI) x_Cl [(h0, .inr (1, [.int 0, .int 0, .int 0]))] U.heap ∧ va_K (dC, dI) x_Cl [] U ∧ va_D (fun _ => True) [(h0, .inr (1, [.int 0, .int 0, .int 0]))])) (va_Qv (fun (_ : Unit) => True) (fun (_ : Unit) (t : State) => va_P (dC, dI) x_Cl [(h0, .inr (1, [.int st, .int 0, .int 0]))] t.heap ∧ va_K (dC, dI) x_Cl [] t ∧ va_D (va_A [(h0, .inr (1, [.int 0, .int 0, .int 0]))] sz) [(h0, .inr (1, [.int st, .int 0, .int 0]))]) (va_A [(h0, .inr (1, [.int 0, .int 0, .int 0]))] sz)) 0 0 (va_A [(h0, .inr (1, [.int 0, .int 0, .int 0]))] sz) := by
  refine Met.ofW (cc := M_S_init.2.1) (maxL := 2) (ret := none) (by decide) rfl ?_
  intro p e s m args below meth c s₁ B hml hv
  obtain ⟨rfl, hsz, hP, hK, hD0⟩ := hv
  have hx := B.exec
  have hb := B.bytes
  have hr := B.returns
  have hts : ∀ w ∈ x_tb, w.before _ s = true := fun w h => atoms_spec (ws := Cond.code M_S_init.1 M_S_init.2.1 M_S_init.2.2.1 M_S_init.2.2.2 :: x_tb) B.pre w (List.mem_cons_of_mem _ h)
  have hown : s.vm.findClass R_S = some m.cls := findClass_of_methodNamed B.named
  have hlocks := B.notSynchronized
  have hin : meth.name = "<init>" := (name_of_methodNamed B.named B.method).1
  subst hsz
  have hD := hD0.self (sz := s.heap.size)
  generalize hAe : va_A [(h0, .inr (1, [.int 0, .int 0, .int 0]))] s.heap.size = A at hD ⊢
  have hA : ∀ q : Nat, s.heap.size ≤ q → A q := fun q h => by rw [← hAe]; exact Or.inr h
  have hS : va_S A s.heap s.heap [] := va_S.rf
  have hP : va_P (dC, dI) x_Cl [(h0, .inr (1, [.int 0, .int 0, .int 0]))] s.heap := hP
  have hl := lv_entry ([.ref h0, .int st]) (n := 2) (Nat.le_of_ble_eq_true rfl)
  rw [lg_entry_eq]
  generalize (lg_sl ([.ref h0, .int st]) ++ List.replicate (2 - (lg_sl ([.ref h0, .int st])).length) Slot.unset).toArray = ls at hl ⊢
  have hl : lv_has ls 2 [(0, .ref h0), (1, .int st)] := hl
  refine lv_aload_n hx hb d_S_init_0 rfl (lv_at hl 0 rfl) ?_
  refine W.objInit hx hb hown (hts (.methodLink R_S 1 objectInit) (by decide +kernel)) (hts (.instanceMethod objectInit) (by decide +kernel)) (hts (.code objectInit ⟨#[0xb1]⟩ 1 none) (by decide +kernel)) rfl (by rw [hml]; exact hl.1) rfl d_S_init_1 (Nat.le_of_ble_eq_true rfl) (Nat.le_of_ble_eq_true rfl) ?_
  refine W.eq (g2 := F0 m 4 ls []) rfl ?_
  refine lv_aload_n hx hb d_S_init_4 rfl (lv_at hl 0 rfl) ?_
  refine lv_iload_n hx hb d_S_init_5 rfl (lv_at hl 1 rfl) ?_
  refine va_putF (D := (dC, dI)) (ci := 1) (v := .int st) (ty := .int) (C := R_S) (T := F_S) (N := 3) hx hb hts in_S ft_S ft_S_ok n_S hown hK hP hD hS 0 rfl rfl 0 (by decide) (hts (.fieldLink R_S 7 (F_S 0).1 (F_S 0).2.1 (F_S 0).2.2.1) (by decide +kernel)) (fun _ h9 => h9) rfl hin rfl (by decide +kernel) rfl rfl (Nat.le_of_ble_eq_true rfl) d_S_init_6 (fun H locs hP hD hS => ?_)
  have hP : va_P (dC, dI) x_Cl [(h0, .inr (1, [.int st, .int 0, .int 0]))] H := hP
  have hD : va_D A [(h0, .inr (1, [.int st, .int 0, .int 0]))] := hD
  refine lv_aload_n hx hb d_S_init_9 rfl (lv_at hl 0 rfl) ?_
  refine lv_iconst (v := 0) hx hb d_S_init_10 (by decide) ?_
  refine va_put (D := (dC, dI)) (ci := 1) (v := .int 0) (ty := .int) (C := R_S) (T := F_S) (N := 3) hx hb hts in_S ft_S ft_S_ok n_S hown hK hP hD hS 0 rfl rfl 1 (by decide) (hts (.fieldLink R_S 13 (F_S 1).1 (F_S 1).2.1 (F_S 1).2.2.1) (by decide +kernel)) (fun _ h9 => h9) rfl (by decide +kernel) rfl rfl (Nat.le_of_ble_eq_true rfl) d_S_init_11 (fun H locs hP hD hS => ?_)
  have hP : va_P (dC, dI) x_Cl [(h0, .inr (1, [.int st, .int 0, .int 0]))] H := hP
  have hD : va_D A [(h0, .inr (1, [.int st, .int 0, .int 0]))] := hD
  refine lv_aload_n hx hb d_S_init_14 rfl (lv_at hl 0 rfl) ?_
  refine lv_iconst (v := 0) hx hb d_S_init_15 (by decide) ?_
  refine va_put (D := (dC, dI)) (ci := 1) (v := .int 0) (ty := .int) (C := R_S) (T := F_S) (N := 3) hx hb hts in_S ft_S ft_S_ok n_S hown hK hP hD hS 0 rfl rfl 2 (by decide) (hts (.fieldLink R_S 16 (F_S 2).1 (F_S 2).2.1 (F_S 2).2.2.1) (by decide +kernel)) (fun _ h9 => h9) rfl (by decide +kernel) rfl rfl (Nat.le_of_ble_eq_true rfl) d_S_init_16 (fun H locs hP hD hS => ?_)
  have hP : va_P (dC, dI) x_Cl [(h0, .inr (1, [.int st, .int 0, .int 0]))] H := hP
  have hD : va_D A [(h0, .inr (1, [.int st, .int 0, .int 0]))] := hD
  have hK9 := hK.sub (tys' := []) [] rfl
  refine W.widen (k := 0) (n := 0) (by decide) (by decide) ?_
  exact W.vret hx hb hr (fun t ht hW => ⟨⟨(), rfl, trivial, by rw [ht]; exact hP, va_K.moved hW.alike hK9, hD⟩, hS.F ht⟩) hS.2.2 d_S_init_19
set_option maxRecDepth 100000 in
set_option maxHeartbeats 800000 in
theorem c_L_init (l : Launch) (dC : Nat → ClassId) (dI : Nat → Nat → Nat) (h0 : Nat) (sz : Nat) : Met l M_L_init.1 (Cond.code M_L_init.1 M_L_init.2.1 M_L_init.2.2.1 M_L_init.2.2.2 :: x_tb) ({ frames := 1, cells := 1, slots := 16, locals := 12 }) (va_Pc [.ref h0] (fun U => U.heap.size = sz ∧ va_P (dC, dI) x_Cl [(h0, .inr (2, [.null, .int 0, .int 0]))] U.heap ∧ va_K (dC, dI) x_Cl [] U ∧ va_D (fun _ => True) [(h0, .inr (2, [.null, .int 0, .int 0]))])) (va_Qv (fun (_ : Unit) => True) (fun (_ : Unit) (t : State) => ∃ (q7 : Nat) (k7 : ClassId), va_P (dC, dI) x_Cl [(h0, .inr (2, [.ref q7, .int 0, .int 0])), (q7, .inl (k7, 16, .inl (fun _ => 0)))] t.heap ∧ va_K (dC, dI) x_Cl [(k7, .int)] t ∧ va_D (va_A [(h0, .inr (2, [.null, .int 0, .int 0]))] sz) [(h0, .inr (2, [.ref q7, .int 0, .int 0])), (q7, .inl (k7, 16, .inl (fun _ => 0)))]) (va_A [(h0, .inr (2, [.null, .int 0, .int 0]))] sz)) 1 16 (va_A [(h0, .inr (2, [.null, .int 0, .int 0]))] sz) := by
  refine Met.ofW (cc := M_L_init.2.1) (maxL := 1) (ret := none) (by decide) rfl ?_
  intro p e s m args below meth c s₁ B hml hv
  obtain ⟨rfl, hsz, hP, hK, hD0⟩ := hv
  have hx := B.exec
  have hb := B.bytes
  have hr := B.returns
  have hts : ∀ w ∈ x_tb, w.before _ s = true := fun w h => atoms_spec (ws := Cond.code M_L_init.1 M_L_init.2.1 M_L_init.2.2.1 M_L_init.2.2.2 :: x_tb) B.pre w (List.mem_cons_of_mem _ h)
  have hown : s.vm.findClass R_L = some m.cls := findClass_of_methodNamed B.named
  have hlocks := B.notSynchronized
  have hin : meth.name = "<init>" := (name_of_methodNamed B.named B.method).1
  subst hsz
  have hD := hD0.self (sz := s.heap.size)
  generalize hAe : va_A [(h0, .inr (2, [.null, .int 0, .int 0]))] s.heap.size = A at hD ⊢
  have hA : ∀ q : Nat, s.heap.size ≤ q → A q := fun q h => by rw [← hAe]; exact Or.inr h
  have hS : va_S A s.heap s.heap [] := va_S.rf
  have hP : va_P (dC, dI) x_Cl [(h0, .inr (2, [.null, .int 0, .int 0]))] s.heap := hP
  have hl := lv_entry ([.ref h0]) (n := 1) (Nat.le_of_ble_eq_true rfl)
  rw [lg_entry_eq]
  generalize (lg_sl ([.ref h0]) ++ List.replicate (1 - (lg_sl ([.ref h0])).length) Slot.unset).toArray = ls at hl ⊢
  have hl : lv_has ls 1 [(0, .ref h0)] := hl
  refine lv_aload_n hx hb d_L_init_0 rfl (lv_at hl 0 rfl) ?_
  refine W.objInit hx hb hown (hts (.methodLink R_L 3 objectInit) (by decide +kernel)) (hts (.instanceMethod objectInit) (by decide +kernel)) (hts (.code objectInit ⟨#[0xb1]⟩ 1 none) (by decide +kernel)) rfl (by rw [hml]; exact hl.1) rfl d_L_init_1 (Nat.le_of_ble_eq_true rfl) (Nat.le_of_ble_eq_true rfl) ?_
  refine W.eq (g2 := F0 m 4 ls []) rfl ?_
  refine lv_aload_n hx hb d_L_init_4 rfl (lv_at hl 0 rfl) ?_
  refine lv_bipush (v := 16) hx hb d_L_init_5 (by decide) ?_
  refine va_newa (atype := .int) (n := 16) (ty := .int) (N' := 16) (a0 := (16, .inl (fun _ => 0))) hx hb (hts (.arrayClass .int) (by decide +kernel)) rfl hK hP hD hS hA (fun _ => rfl) (by decide +kernel) (by decide +kernel) (by decide +kernel) (by decide) (by decide) d_L_init_7 (fun q7 k7 H hK hP hD hS => ?_)
  have hK : va_K (dC, dI) x_Cl [(k7, .int)] s := hK
  have hP : va_P (dC, dI) x_Cl [(h0, .inr (2, [.null, .int 0, .int 0])), (q7, .inl (k7, 16, .inl (fun _ => 0)))] H := hP
  have hD : va_D A [(h0, .inr (2, [.null, .int 0, .int 0])), (q7, .inl (k7, 16, .inl (fun _ => 0)))] := hD
  refine W.widen (k := 1) (n := 16) (by decide) (by decide) ?_
  refine va_putF (D := (dC, dI)) (ci := 2) (v := .ref q7) (ty := .array .int) (C := R_L) (T := F_L) (N := 3) hx hb hts in_L ft_L ft_L_ok n_L hown hK hP hD hS 0 rfl rfl 0 (by decide) (hts (.fieldLink R_L 9 (F_L 0).1 (F_L 0).2.1 (F_L 0).2.2.1) (by decide +kernel)) (fun _ h9 => h9) rfl hin rfl (by decide +kernel) rfl rfl (Nat.le_of_ble_eq_true rfl) d_L_init_9 (fun H locs hP hD hS => ?_)
  have hP : va_P (dC, dI) x_Cl [(h0, .inr (2, [.ref q7, .int 0, .int 0])), (q7, .inl (k7, 16, .inl (fun _ => 0)))] H := hP
  have hD : va_D A [(h0, .inr (2, [.ref q7, .int 0, .int 0])), (q7, .inl (k7, 16, .inl (fun _ => 0)))] := hD
  refine lv_aload_n hx hb d_L_init_12 rfl (lv_at hl 0 rfl) ?_
  refine lv_iconst (v := 0) hx hb d_L_init_13 (by decide) ?_
  refine va_put (D := (dC, dI)) (ci := 2) (v := .int 0) (ty := .int) (C := R_L) (T := F_L) (N := 3) hx hb hts in_L ft_L ft_L_ok n_L hown hK hP hD hS 0 rfl rfl 1 (by decide) (hts (.fieldLink R_L 15 (F_L 1).1 (F_L 1).2.1 (F_L 1).2.2.1) (by decide +kernel)) (fun _ h9 => h9) rfl (by decide +kernel) rfl rfl (Nat.le_of_ble_eq_true rfl) d_L_init_14 (fun H locs hP hD hS => ?_)
  have hP : va_P (dC, dI) x_Cl [(h0, .inr (2, [.ref q7, .int 0, .int 0])), (q7, .inl (k7, 16, .inl (fun _ => 0)))] H := hP
  have hD : va_D A [(h0, .inr (2, [.ref q7, .int 0, .int 0])), (q7, .inl (k7, 16, .inl (fun _ => 0)))] := hD
  refine lv_aload_n hx hb d_L_init_17 rfl (lv_at hl 0 rfl) ?_
  refine lv_iconst (v := 0) hx hb d_L_init_18 (by decide) ?_
  refine va_put (D := (dC, dI)) (ci := 2) (v := .int 0) (ty := .int) (C := R_L) (T := F_L) (N := 3) hx hb hts in_L ft_L ft_L_ok n_L hown hK hP hD hS 0 rfl rfl 2 (by decide) (hts (.fieldLink R_L 19 (F_L 2).1 (F_L 2).2.1 (F_L 2).2.2.1) (by decide +kernel)) (fun _ h9 => h9) rfl (by decide +kernel) rfl rfl (Nat.le_of_ble_eq_true rfl) d_L_init_19 (fun H locs hP hD hS => ?_)
  have hP : va_P (dC, dI) x_Cl [(h0, .inr (2, [.ref q7, .int 0, .int 0])), (q7, .inl (k7, 16, .inl (fun _ => 0)))] H := hP
  have hD : va_D A [(h0, .inr (2, [.ref q7, .int 0, .int 0])), (q7, .inl (k7, 16, .inl (fun _ => 0)))] := hD
  have hK9 := hK.sub (tys' := [(k7, .int)]) [0] rfl
  refine W.widen (k := 1) (n := 16) (by decide) (by decide) ?_
  exact W.vret hx hb hr (fun t ht hW => ⟨⟨(), rfl, trivial, q7, k7, by rw [ht]; exact hP, va_K.moved hW.alike hK9, hD⟩, hS.F ht⟩) hS.2.2 d_L_init_22
set_option maxRecDepth 100000 in
set_option maxHeartbeats 800000 in
theorem c_T_init (l : Launch) (dC : Nat → ClassId) (dI : Nat → Nat → Nat) (h0 : Nat) (sz : Nat) : Met l M_T_init.1 (Cond.code M_T_init.1 M_T_init.2.1 M_T_init.2.2.1 M_T_init.2.2.2 :: x_tb) ({ frames := 2, cells := 6, slots := 797, locals := 33 }) (va_Pc [.ref h0] (fun U => U.heap.size = sz ∧ va_P (dC, dI) x_Cl [(h0, .inr (0, [.null, .null, .null, .null, .null, .int 0, .int 0]))] U.heap ∧ va_K (dC, dI) x_Cl [] U ∧ va_D (fun _ => True) [(h0, .inr (0, [.null, .null, .null, .null, .null, .int 0, .int 0]))])) (va_Qv (fun (_ : Unit) => True) (fun (_ : Unit) (t : State) => ∃ (q8 q14 q26 q39 q43 q51 : Nat) (k8 k43 k51 : ClassId), va_P (dC, dI) x_Cl [(h0, .inr (0, [.ref q8, .ref q14, .ref q26, .ref q39, .ref q51, .int 0, .int 0])), (q8, .inl (k8, 768, .inl (fun _ => 0))), (q14, .inr (1, [.int 1, .int 0, .int 0])), (q26, .inr (1, [.int 16, .int 0, .int 0])), (q39, .inr (2, [.ref q43, .int 0, .int 0])), (q43, .inl (k43, 16, .inl (fun _ => 0))), (q51, .inl (k51, 4, .inl (fun _ => 0)))] t.heap ∧ va_K (dC, dI) x_Cl [(k8, .int), (k43, .int), (k51, .int)] t ∧ va_D (va_A [(h0, .inr (0, [.null, .null, .null, .null, .null, .int 0, .int 0]))] sz) [(h0, .inr (0, [.ref q8, .ref q14, .ref q26, .ref q39, .ref q51, .int 0, .int 0])), (q8, .inl (k8, 768, .inl (fun _ => 0))), (q14, .inr (1, [.int 1, .int 0, .int 0])), (q26, .inr (1, [.int 16, .int 0, .int 0])), (q39, .inr (2, [.ref q43, .int 0, .int 0])), (q43, .inl (k43, 16, .inl (fun _ => 0))), (q51, .inl (k51, 4, .inl (fun _ => 0)))]) (va_A [(h0, .inr (0, [.null, .null, .null, .null, .null, .int 0, .int 0]))] sz)) 6 797 (va_A [(h0, .inr (0, [.null, .null, .null, .null, .null, .int 0, .int 0]))] sz) := by
  refine Met.ofW (cc := M_T_init.2.1) (maxL := 1) (ret := none) (by decide) rfl ?_
  intro p e s m args below meth c s₁ B hml hv
  obtain ⟨rfl, hsz, hP, hK, hD0⟩ := hv
  have hx := B.exec
  have hb := B.bytes
  have hr := B.returns
  have hts : ∀ w ∈ x_tb, w.before _ s = true := fun w h => atoms_spec (ws := Cond.code M_T_init.1 M_T_init.2.1 M_T_init.2.2.1 M_T_init.2.2.2 :: x_tb) B.pre w (List.mem_cons_of_mem _ h)
  have hown : s.vm.findClass R_T = some m.cls := findClass_of_methodNamed B.named
  have hlocks := B.notSynchronized
  have hin : meth.name = "<init>" := (name_of_methodNamed B.named B.method).1
  subst hsz
  have hD := hD0.self (sz := s.heap.size)
  generalize hAe : va_A [(h0, .inr (0, [.null, .null, .null, .null, .null, .int 0, .int 0]))] s.heap.size = A at hD ⊢
  have hA : ∀ q : Nat, s.heap.size ≤ q → A q := fun q h => by rw [← hAe]; exact Or.inr h
  have hS : va_S A s.heap s.heap [] := va_S.rf
  have hP : va_P (dC, dI) x_Cl [(h0, .inr (0, [.null, .null, .null, .null, .null, .int 0, .int 0]))] s.heap := hP
  have hl := lv_entry ([.ref h0]) (n := 1) (Nat.le_of_ble_eq_true rfl)
  rw [lg_entry_eq]
  generalize (lg_sl ([.ref h0]) ++ List.replicate (1 - (lg_sl ([.ref h0])).length) Slot.unset).toArray = ls at hl ⊢
  have hl : lv_has ls 1 [(0, .ref h0)] := hl
  refine lv_aload_n hx hb d_T_init_0 rfl (lv_at hl 0 rfl) ?_
  refine W.objInit hx hb hown (hts (.methodLink R_T 3 objectInit) (by decide +kernel)) (hts (.instanceMethod objectInit) (by decide +kernel)) (hts (.code objectInit ⟨#[0xb1]⟩ 1 none) (by decide +kernel)) rfl (by rw [hml]; exact hl.1) rfl d_T_init_1 (Nat.le_of_ble_eq_true rfl) (Nat.le_of_ble_eq_true rfl) ?_
  refine W.eq (g2 := F0 m 4 ls []) rfl ?_
  refine lv_aload_n hx hb d_T_init_4 rfl (lv_at hl 0 rfl) ?_
  refine lv_sipush (v := 768) hx hb d_T_init_5 (by decide) ?_
  refine va_newa (atype := .int) (n := 768) (ty := .int) (N' := 768) (a0 := (768, .inl (fun _ => 0))) hx hb (hts (.arrayClass .int) (by decide +kernel)) rfl hK hP hD hS hA (fun _ => rfl) (by decide +kernel) (by decide +kernel) (by decide +kernel) (by decide) (by decide) d_T_init_8 (fun q8 k8 H hK hP hD hS => ?_)
  have hK : va_K (dC, dI) x_Cl [(k8, .int)] s := hK
  have hP : va_P (dC, dI) x_Cl [(h0, .inr (0, [.null, .null, .null, .null, .null, .int 0, .int 0])), (q8, .inl (k8, 768, .inl (fun _ => 0)))] H := hP
  have hD : va_D A [(h0, .inr (0, [.null, .null, .null, .null, .null, .int 0, .int 0])), (q8, .inl (k8, 768, .inl (fun _ => 0)))] := hD
  refine W.widen (k := 1) (n := 768) (by decide) (by decide) ?_
  refine va_putF (D := (dC, dI)) (ci := 0) (v := .ref q8) (ty := .array .int) (C := R_T) (T := F_T) (N := 7) hx hb hts in_T ft_T ft_T_ok n_T hown hK hP hD hS 0 rfl rfl 0 (by decide) (hts (.fieldLink R_T 9 (F_T 0).1 (F_T 0).2.1 (F_T 0).2.2.1) (by decide +kernel)) (fun _ h9 => h9) rfl hin rfl (by decide +kernel) rfl rfl (Nat.le_of_ble_eq_true rfl) d_T_init_10 (fun H locs hP hD hS => ?_)
  have hP : va_P (dC, dI) x_Cl [(h0, .inr (0, [.ref q8, .null, .null, .null, .null, .int 0, .int 0])), (q8, .inl (k8, 768, .inl (fun _ => 0)))] H := hP
  have hD : va_D A [(h0, .inr (0, [.ref q8, .null, .null, .null, .null, .int 0, .int 0])), (q8, .inl (k8, 768, .inl (fun _ => 0)))] := hD
  refine lv_aload_n hx hb d_T_init_13 rfl (lv_at hl 0 rfl) ?_
  refine va_new (ci := 1) (fs := [.int 0, .int 0, .int 0]) (C := R_S) (T := F_S) (N := 3) hx hb hts in_S ft_S ft_S_ok hown (hts (.classLink R_T 13 R_S) (by decide +kernel)) (hts (.instantiable R_S 3) (by decide +kernel)) (hts (.initialized R_S) (by decide +kernel)) hK hP hD hS hA rfl (fun j hj => by match j, hj with | 0, _ => rfl | 1, _ => rfl | 2, _ => rfl) (by decide) (by decide) d_T_init_14 (fun q14 H hP hD hS => ?_)
  have hP : va_P (dC, dI) x_Cl [(h0, .inr (0, [.ref q8, .null, .null, .null, .null, .int 0, .int 0])), (q8, .inl (k8, 768, .inl (fun _ => 0))), (q14, .inr (1, [.int 0, .int 0, .int 0]))] H := hP
  have hD : va_D A [(h0, .inr (0, [.ref q8, .null, .null, .null, .null, .int 0, .int 0])), (q8, .inl (k8, 768, .inl (fun _ => 0))), (q14, .inr (1, [.int 0, .int 0, .int 0]))] := hD
  refine W.widen (k := 2) (n := 771) (by decide) (by decide) ?_
  refine lv_dup hx hb d_T_init_17 rfl ?_
  refine lv_iconst (v := 1) hx hb d_T_init_18 (by decide) ?_
  have hPc := hP.sub (ws' := [(q14, .inr (1, [.int 0, .int 0, .int 0]))]) [2] rfl
  have hDc := hD.sub (ws' := [(q14, .inr (1, [.int 0, .int 0, .int 0]))]) [2] (by decide) rfl
  have hKc := hK.sub (tys' := []) [] rfl
  have hFc := va_free (wc := [(q14, .inr (1, [.int 0, .int 0, .int 0]))]) hD hS hA [2] rfl
  refine va_callv (va_runI (As := [.int 1]) (rest := [.ref q14, .ref h0]) ⟨hx, hb, hml, hown, hts⟩ (c_S_init l dC dI q14 H.size 1) (cwI 1 hts (x_goodc (by decide +kernel)) rfl rfl rfl (hts (.initialized R_S) (by decide +kernel)) (hts (.methodLink R_T 15 M_S_init.1) (by decide +kernel)) (hts (.instanceMethod M_S_init.1) (by decide +kernel)) rfl (by decide +kernel) ⟨Nat.le_of_ble_eq_true rfl, Nat.le_of_ble_eq_true rfl⟩) ⟨fun a U g mk q => by obtain ⟨q0, q1, qP, qK, qD⟩ := q; exact ⟨q0, q1, qP, va_K.moved (u := U) (U := U.calling g mk a) (Vm.Alike.refl U.vm) qK, qD⟩, fun U hU hW => ⟨rfl, by rw [hU], by rw [hU]; exact hPc, va_K.moved hW.alike hKc, hDc.weaken (fun _ _ _ _ => trivial)⟩⟩ rfl rfl hl.1 rfl (lv_room (Nat.le_of_ble_eq_true rfl)) d_T_init_19 ⟨by decide, by decide⟩) hS (fun q _ h => hFc q h) hFc (fun u t H1 locs ht hvm hw hB hz1 hk1 hS => ?_)
  obtain ⟨hP1, hK1, hD1⟩ := hB
  rw [ht] at hP1
  have hK1 := va_K.moved hvm.symm hK1
  obtain ⟨hP, hD⟩ := va_join (wr := [(h0, .inr (0, [.ref q8, .null, .null, .null, .null, .int 0, .int 0])), (q8, .inl (k8, 768, .inl (fun _ => 0)))]) (w1 := [(q14, .inr (1, [.int 1, .int 0, .int 0]))]) hP hD [2] [0, 1] rfl rfl (by decide) (by decide) hk1 hFc hP1 hD1
  have hK := hK.app hK1
  generalize H1 = H at hP hS ⊢
  have hP : va_P (dC, dI) x_Cl [(h0, .inr (0, [.ref q8, .null, .null, .null, .null, .int 0, .int 0])), (q8, .inl (k8, 768, .inl (fun _ => 0))), (q14, .inr (1, [.int 1, .int 0, .int 0]))] H := hP
  have hD : va_D A [(h0, .inr (0, [.ref q8, .null, .null, .null, .null, .int 0, .int 0])), (q8, .inl (k8, 768, .inl (fun _ => 0))), (q14, .inr (1, [.int 1, .int 0, .int 0]))] := hD
  have hK : va_K (dC, dI) x_Cl [(k8, .int)] s := hK
  refine W.widen (k := 2) (n := 771) (by decide) (by decide) ?_
  refine va_putF (D := (dC, dI)) (ci := 0) (v := .ref q14) (ty := .object "LiftedTile$Span") (C := R_T) (T := F_T) (N := 7) hx hb hts in_T ft_T ft_T_ok n_T hown hK hP hD hS 0 rfl rfl 1 (by decide) (hts (.fieldLink R_T 18 (F_T 1).1 (F_T 1).2.1 (F_T 1).2.2.1) (by decide +kernel)) (fun _ h9 => h9) rfl hin rfl (by decide +kernel) rfl rfl (Nat.le_of_ble_eq_true rfl) d_T_init_22 (fun H locs hP hD hS => ?_)
  have hP : va_P (dC, dI) x_Cl [(h0, .inr (0, [.ref q8, .ref q14, .null, .null, .null, .int 0, .int 0])), (q8, .inl (k8, 768, .inl (fun _ => 0))), (q14, .inr (1, [.int 1, .int 0, .int 0]))] H := hP
  have hD : va_D A [(h0, .inr (0, [.ref q8, .ref q14, .null, .null, .null, .int 0, .int 0])), (q8, .inl (k8, 768, .inl (fun _ => 0))), (q14, .inr (1, [.int 1, .int 0, .int 0]))] := hD
  refine lv_aload_n hx hb d_T_init_25 rfl (lv_at hl 0 rfl) ?_
  refine va_new (ci := 1) (fs := [.int 0, .int 0, .int 0]) (C := R_S) (T := F_S) (N := 3) hx hb hts in_S ft_S ft_S_ok hown (hts (.classLink R_T 13 R_S) (by decide +kernel)) (hts (.instantiable R_S 3) (by decide +kernel)) (hts (.initialized R_S) (by decide +kernel)) hK hP hD hS hA rfl (fun j hj => by match j, hj with | 0, _ => rfl | 1, _ => rfl | 2, _ => rfl) (by decide) (by decide) d_T_init_26 (fun q26 H hP hD hS => ?_)
  have hP : va_P (dC, dI) x_Cl [(h0, .inr (0, [.ref q8, .ref q14, .null, .null, .null, .int 0, .int 0])), (q8, .inl (k8, 768, .inl (fun _ => 0))), (q14, .inr (1, [.int 1, .int 0, .int 0])), (q26, .inr (1, [.int 0, .int 0, .int 0]))] H := hP
  have hD : va_D A [(h0, .inr (0, [.ref q8, .ref q14, .null, .null, .null, .int 0, .int 0])), (q8, .inl (k8, 768, .inl (fun _ => 0))), (q14, .inr (1, [.int 1, .int 0, .int 0])), (q26, .inr (1, [.int 0, .int 0, .int 0]))] := hD
  refine W.widen (k := 3) (n := 774) (by decide) (by decide) ?_
  refine lv_dup hx hb d_T_init_29 rfl ?_
  refine lv_bipush (v := 16) hx hb d_T_init_30 (by decide) ?_
  have hPc := hP.sub (ws' := [(q26, .inr (1, [.int 0, .int 0, .int 0]))]) [3] rfl
  have hDc := hD.sub (ws' := [(q26, .inr (1, [.int 0, .int 0, .int 0]))]) [3] (by decide) rfl
  have hKc := hK.sub (tys' := []) [] rfl
  have hFc := va_free (wc := [(q26, .inr (1, [.int 0, .int 0, .int 0]))]) hD hS hA [3] rfl
  refine va_callv (va_runI (As := [.int 16]) (rest := [.ref q26, .ref h0]) ⟨hx, hb, hml, hown, hts⟩ (c_S_init l dC dI q26 H.size 16) (cwI 1 hts (x_goodc (by decide +kernel)) rfl rfl rfl (hts (.initialized R_S) (by decide +kernel)) (hts (.methodLink R_T 15 M_S_init.1) (by decide +kernel)) (hts (.instanceMethod M_S_init.1) (by decide +kernel)) rfl (by decide +kernel) ⟨Nat.le_of_ble_eq_true rfl, Nat.le_of_ble_eq_true rfl⟩) ⟨fun a U g mk q => by obtain ⟨q0, q1, qP, qK, qD⟩ := q; exact ⟨q0, q1, qP, va_K.moved (u := U) (U := U.calling g mk a) (Vm.Alike.refl U.vm) qK, qD⟩, fun U hU hW => ⟨rfl, by rw [hU], by rw [hU]; exact hPc, va_K.moved hW.alike hKc, hDc.weaken (fun _ _ _ _ => trivial)⟩⟩ rfl rfl hl.1 rfl (lv_room (Nat.le_of_ble_eq_true rfl)) d_T_init_32 ⟨by decide, by decide⟩) hS (fun q _ h => hFc q h) hFc (fun u t H1 locs ht hvm hw hB hz1 hk1 hS => ?_)
  obtain ⟨hP1, hK1, hD1⟩ := hB
  rw [ht] at hP1
  have hK1 := va_K.moved hvm.symm hK1
  obtain ⟨hP, hD⟩ := va_join (wr := [(h0, .inr (0, [.ref q8, .ref q14, .null, .null, .null, .int 0, .int 0])), (q8, .inl (k8, 768, .inl (fun _ => 0))), (q14, .inr (1, [.int 1, .int 0, .int 0]))]) (w1 := [(q26, .inr (1, [.int 16, .int 0, .int 0]))]) hP hD [3] [0, 1, 2] rfl rfl (by decide) (by decide) hk1 hFc hP1 hD1
  have hK := hK.app hK1
  generalize H1 = H at hP hS ⊢
  have hP : va_P (dC, dI) x_Cl [(h0, .inr (0, [.ref q8, .ref q14, .null, .null, .null, .int 0, .int 0])), (q8, .inl (k8, 768, .inl (fun _ => 0))), (q14, .inr (1, [.int 1, .int 0, .int 0])), (q26, .inr (1, [.int 16, .int 0, .int 0]))] H := hP
  have hD : va_D A [(h0, .inr (0, [.ref q8, .ref q14, .null, .null, .null, .int 0, .int 0])), (q8, .inl (k8, 768, .inl (fun _ => 0))), (q14, .inr (1, [.int 1, .int 0, .int 0])), (q26, .inr (1, [.int 16, .int 0, .int 0]))] := hD
  have hK : va_K (dC, dI) x_Cl [(k8, .int)] s := hK
  refine W.widen (k := 3) (n := 774) (by decide) (by decide) ?_
  refine va_putF (D := (dC, dI)) (ci := 0) (v := .ref q26) (ty := .object "LiftedTile$Span") (C := R_T) (T := F_T) (N := 7) hx hb hts in_T ft_T ft_T_ok n_T hown hK hP hD hS 0 rfl rfl 2 (by decide) (hts (.fieldLink R_T 22 (F_T 2).1 (F_T 2).2.1 (F_T 2).2.2.1) (by decide +kernel)) (fun _ h9 => h9) rfl hin rfl (by decide +kernel) rfl rfl (Nat.le_of_ble_eq_true rfl) d_T_init_35 (fun H locs hP hD hS => ?_)
  have hP : va_P (dC, dI) x_Cl [(h0, .inr (0, [.ref q8, .ref q14, .ref q26, .null, .null, .int 0, .int 0])), (q8, .inl (k8, 768, .inl (fun _ => 0))), (q14, .inr (1, [.int 1, .int 0, .int 0])), (q26, .inr (1, [.int 16, .int 0, .int 0]))] H := hP
  have hD : va_D A [(h0, .inr (0, [.ref q8, .ref q14, .ref q26, .null, .null, .int 0, .int 0])), (q8, .inl (k8, 768, .inl (fun _ => 0))), (q14, .inr (1, [.int 1, .int 0, .int 0])), (q26, .inr (1, [.int 16, .int 0, .int 0]))] := hD
  refine lv_aload_n hx hb d_T_init_38 rfl (lv_at hl 0 rfl) ?_
  refine va_new (ci := 2) (fs := [.null, .int 0, .int 0]) (C := R_L) (T := F_L) (N := 3) hx hb hts in_L ft_L ft_L_ok hown (hts (.classLink R_T 25 R_L) (by decide +kernel)) (hts (.instantiable R_L 3) (by decide +kernel)) (hts (.initialized R_L) (by decide +kernel)) hK hP hD hS hA rfl (fun j hj => by match j, hj with | 0, _ => rfl | 1, _ => rfl | 2, _ => rfl) (by decide) (by decide) d_T_init_39 (fun q39 H hP hD hS => ?_)
  have hP : va_P (dC, dI) x_Cl [(h0, .inr (0, [.ref q8, .ref q14, .ref q26, .null, .null, .int 0, .int 0])), (q8, .inl (k8, 768, .inl (fun _ => 0))), (q14, .inr (1, [.int 1, .int 0, .int 0])), (q26, .inr (1, [.int 16, .int 0, .int 0])), (q39, .inr (2, [.null, .int 0, .int 0]))] H := hP
  have hD : va_D A [(h0, .inr (0, [.ref q8, .ref q14, .ref q26, .null, .null, .int 0, .int 0])), (q8, .inl (k8, 768, .inl (fun _ => 0))), (q14, .inr (1, [.int 1, .int 0, .int 0])), (q26, .inr (1, [.int 16, .int 0, .int 0])), (q39, .inr (2, [.null, .int 0, .int 0]))] := hD
  refine W.widen (k := 4) (n := 777) (by decide) (by decide) ?_
  refine lv_dup hx hb d_T_init_42 rfl ?_
  have hPc := hP.sub (ws' := [(q39, .inr (2, [.null, .int 0, .int 0]))]) [4] rfl
  have hDc := hD.sub (ws' := [(q39, .inr (2, [.null, .int 0, .int 0]))]) [4] (by decide) rfl
  have hKc := hK.sub (tys' := []) [] rfl
  have hFc := va_free (wc := [(q39, .inr (2, [.null, .int 0, .int 0]))]) hD hS hA [4] rfl
  refine va_callv (va_runI (As := []) (rest := [.ref q39, .ref h0]) ⟨hx, hb, hml, hown, hts⟩ (c_L_init l dC dI q39 H.size) (cwI 0 hts (x_goodc (by decide +kernel)) rfl rfl rfl (hts (.initialized R_L) (by decide +kernel)) (hts (.methodLink R_T 27 M_L_init.1) (by decide +kernel)) (hts (.instanceMethod M_L_init.1) (by decide +kernel)) rfl (by decide +kernel) ⟨Nat.le_of_ble_eq_true rfl, Nat.le_of_ble_eq_true rfl⟩) ⟨fun a U g mk q => by obtain ⟨q0, q1, qP, qK, qD⟩ := q; exact ⟨q0, q1, qP, va_K.moved (u := U) (U := U.calling g mk a) (Vm.Alike.refl U.vm) qK, qD⟩, fun U hU hW => ⟨rfl, by rw [hU], by rw [hU]; exact hPc, va_K.moved hW.alike hKc, hDc.weaken (fun _ _ _ _ => trivial)⟩⟩ rfl rfl hl.1 rfl (lv_room (Nat.le_of_ble_eq_true rfl)) d_T_init_43 ⟨by decide, by decide⟩) hS (fun q _ h => hFc q h) hFc (fun u t H1 locs ht hvm hw hB hz1 hk1 hS => ?_)
  obtain ⟨q43, k43, hP1, hK1, hD1⟩ := hB
  rw [ht] at hP1
  have hK1 := va_K.moved hvm.symm hK1
  obtain ⟨hP, hD⟩ := va_join (wr := [(h0, .inr (0, [.ref q8, .ref q14, .ref q26, .null, .null, .int 0, .int 0])), (q8, .inl (k8, 768, .inl (fun _ => 0))), (q14, .inr (1, [.int 1, .int 0, .int 0])), (q26, .inr (1, [.int 16, .int 0, .int 0]))]) (w1 := [(q39, .inr (2, [.ref q43, .int 0, .int 0])), (q43, .inl (k43, 16, .inl (fun _ => 0)))]) hP hD [4] [0, 1, 2, 3] rfl rfl (by decide) (by decide) hk1 hFc hP1 hD1
  have hK := hK.app hK1
  generalize H1 = H at hP hS ⊢
  have hP : va_P (dC, dI) x_Cl [(h0, .inr (0, [.ref q8, .ref q14, .ref q26, .null, .null, .int 0, .int 0])), (q8, .inl (k8, 768, .inl (fun _ => 0))), (q14, .inr (1, [.int 1, .int 0, .int 0])), (q26, .inr (1, [.int 16, .int 0, .int 0])), (q39, .inr (2, [.ref q43, .int 0, .int 0])), (q43, .inl (k43, 16, .inl (fun _ => 0)))] H := hP
  have hD : va_D A [(h0, .inr (0, [.ref q8, .ref q14, .ref q26, .null, .null, .int 0, .int 0])), (q8, .inl (k8, 768, .inl (fun _ => 0))), (q14, .inr (1, [.int 1, .int 0, .int 0])), (q26, .inr (1, [.int 16, .int 0, .int 0])), (q39, .inr (2, [.ref q43, .int 0, .int 0])), (q43, .inl (k43, 16, .inl (fun _ => 0)))] := hD
  have hK : va_K (dC, dI) x_Cl [(k8, .int), (k43, .int)] s := hK
  refine W.widen (k := 5) (n := 793) (by decide) (by decide) ?_
  refine va_putF (D := (dC, dI)) (ci := 0) (v := .ref q39) (ty := .object "LiftedTile$Line") (C := R_T) (T := F_T) (N := 7) hx hb hts in_T ft_T ft_T_ok n_T hown hK hP hD hS 0 rfl rfl 3 (by decide) (hts (.fieldLink R_T 28 (F_T 3).1 (F_T 3).2.1 (F_T 3).2.2.1) (by decide +kernel)) (fun _ h9 => h9) rfl hin rfl (by decide +kernel) rfl rfl (Nat.le_of_ble_eq_true rfl) d_T_init_46 (fun H locs hP hD hS => ?_)
  have hP : va_P (dC, dI) x_Cl [(h0, .inr (0, [.ref q8, .ref q14, .ref q26, .ref q39, .null, .int 0, .int 0])), (q8, .inl (k8, 768, .inl (fun _ => 0))), (q14, .inr (1, [.int 1, .int 0, .int 0])), (q26, .inr (1, [.int 16, .int 0, .int 0])), (q39, .inr (2, [.ref q43, .int 0, .int 0])), (q43, .inl (k43, 16, .inl (fun _ => 0)))] H := hP
  have hD : va_D A [(h0, .inr (0, [.ref q8, .ref q14, .ref q26, .ref q39, .null, .int 0, .int 0])), (q8, .inl (k8, 768, .inl (fun _ => 0))), (q14, .inr (1, [.int 1, .int 0, .int 0])), (q26, .inr (1, [.int 16, .int 0, .int 0])), (q39, .inr (2, [.ref q43, .int 0, .int 0])), (q43, .inl (k43, 16, .inl (fun _ => 0)))] := hD
  refine lv_aload_n hx hb d_T_init_49 rfl (lv_at hl 0 rfl) ?_
  refine lv_iconst (v := 4) hx hb d_T_init_50 (by decide) ?_
  refine va_newa (atype := .int) (n := 4) (ty := .int) (N' := 4) (a0 := (4, .inl (fun _ => 0))) hx hb (hts (.arrayClass .int) (by decide +kernel)) rfl hK hP hD hS hA (fun _ => rfl) (by decide +kernel) (by decide +kernel) (by decide +kernel) (by decide) (by decide) d_T_init_51 (fun q51 k51 H hK hP hD hS => ?_)
  have hK : va_K (dC, dI) x_Cl [(k8, .int), (k43, .int), (k51, .int)] s := hK
  have hP : va_P (dC, dI) x_Cl [(h0, .inr (0, [.ref q8, .ref q14, .ref q26, .ref q39, .null, .int 0, .int 0])), (q8, .inl (k8, 768, .inl (fun _ => 0))), (q14, .inr (1, [.int 1, .int 0, .int 0])), (q26, .inr (1, [.int 16, .int 0, .int 0])), (q39, .inr (2, [.ref q43, .int 0, .int 0])), (q43, .inl (k43, 16, .inl (fun _ => 0))), (q51, .inl (k51, 4, .inl (fun _ => 0)))] H := hP
  have hD : va_D A [(h0, .inr (0, [.ref q8, .ref q14, .ref q26, .ref q39, .null, .int 0, .int 0])), (q8, .inl (k8, 768, .inl (fun _ => 0))), (q14, .inr (1, [.int 1, .int 0, .int 0])), (q26, .inr (1, [.int 16, .int 0, .int 0])), (q39, .inr (2, [.ref q43, .int 0, .int 0])), (q43, .inl (k43, 16, .inl (fun _ => 0))), (q51, .inl (k51, 4, .inl (fun _ => 0)))] := hD
  refine W.widen (k := 6) (n := 797) (by decide) (by decide) ?_
  refine va_putF (D := (dC, dI)) (ci := 0) (v := .ref q51) (ty := .array .int) (C := R_T) (T := F_T) (N := 7) hx hb hts in_T ft_T ft_T_ok n_T hown hK hP hD hS 0 rfl rfl 4 (by decide) (hts (.fieldLink R_T 32 (F_T 4).1 (F_T 4).2.1 (F_T 4).2.2.1) (by decide +kernel)) (fun _ h9 => h9) rfl hin rfl (by decide +kernel) rfl rfl (Nat.le_of_ble_eq_true rfl) d_T_init_53 (fun H locs hP hD hS => ?_)
  have hP : va_P (dC, dI) x_Cl [(h0, .inr (0, [.ref q8, .ref q14, .ref q26, .ref q39, .ref q51, .int 0, .int 0])), (q8, .inl (k8, 768, .inl (fun _ => 0))), (q14, .inr (1, [.int 1, .int 0, .int 0])), (q26, .inr (1, [.int 16, .int 0, .int 0])), (q39, .inr (2, [.ref q43, .int 0, .int 0])), (q43, .inl (k43, 16, .inl (fun _ => 0))), (q51, .inl (k51, 4, .inl (fun _ => 0)))] H := hP
  have hD : va_D A [(h0, .inr (0, [.ref q8, .ref q14, .ref q26, .ref q39, .ref q51, .int 0, .int 0])), (q8, .inl (k8, 768, .inl (fun _ => 0))), (q14, .inr (1, [.int 1, .int 0, .int 0])), (q26, .inr (1, [.int 16, .int 0, .int 0])), (q39, .inr (2, [.ref q43, .int 0, .int 0])), (q43, .inl (k43, 16, .inl (fun _ => 0))), (q51, .inl (k51, 4, .inl (fun _ => 0)))] := hD
  refine lv_aload_n hx hb d_T_init_56 rfl (lv_at hl 0 rfl) ?_
  refine lv_iconst (v := 0) hx hb d_T_init_57 (by decide) ?_
  refine va_put (D := (dC, dI)) (ci := 0) (v := .int 0) (ty := .int) (C := R_T) (T := F_T) (N := 7) hx hb hts in_T ft_T ft_T_ok n_T hown hK hP hD hS 0 rfl rfl 5 (by decide) (hts (.fieldLink R_T 35 (F_T 5).1 (F_T 5).2.1 (F_T 5).2.2.1) (by decide +kernel)) (fun _ h9 => h9) rfl (by decide +kernel) rfl rfl (Nat.le_of_ble_eq_true rfl) d_T_init_58 (fun H locs hP hD hS => ?_)
  have hP : va_P (dC, dI) x_Cl [(h0, .inr (0, [.ref q8, .ref q14, .ref q26, .ref q39, .ref q51, .int 0, .int 0])), (q8, .inl (k8, 768, .inl (fun _ => 0))), (q14, .inr (1, [.int 1, .int 0, .int 0])), (q26, .inr (1, [.int 16, .int 0, .int 0])), (q39, .inr (2, [.ref q43, .int 0, .int 0])), (q43, .inl (k43, 16, .inl (fun _ => 0))), (q51, .inl (k51, 4, .inl (fun _ => 0)))] H := hP
  have hD : va_D A [(h0, .inr (0, [.ref q8, .ref q14, .ref q26, .ref q39, .ref q51, .int 0, .int 0])), (q8, .inl (k8, 768, .inl (fun _ => 0))), (q14, .inr (1, [.int 1, .int 0, .int 0])), (q26, .inr (1, [.int 16, .int 0, .int 0])), (q39, .inr (2, [.ref q43, .int 0, .int 0])), (q43, .inl (k43, 16, .inl (fun _ => 0))), (q51, .inl (k51, 4, .inl (fun _ => 0)))] := hD
  refine lv_aload_n hx hb d_T_init_61 rfl (lv_at hl 0 rfl) ?_
  refine lv_iconst (v := 0) hx hb d_T_init_62 (by decide) ?_
  refine va_put (D := (dC, dI)) (ci := 0) (v := .int 0) (ty := .boolean) (C := R_T) (T := F_T) (N := 7) hx hb hts in_T ft_T ft_T_ok n_T hown hK hP hD hS 0 rfl rfl 6 (by decide) (hts (.fieldLink R_T 39 (F_T 6).1 (F_T 6).2.1 (F_T 6).2.2.1) (by decide +kernel)) (fun _ h9 => h9) rfl (by decide +kernel) rfl rfl (Nat.le_of_ble_eq_true rfl) d_T_init_63 (fun H locs hP hD hS => ?_)
  have hP : va_P (dC, dI) x_Cl [(h0, .inr (0, [.ref q8, .ref q14, .ref q26, .ref q39, .ref q51, .int 0, .int 0])), (q8, .inl (k8, 768, .inl (fun _ => 0))), (q14, .inr (1, [.int 1, .int 0, .int 0])), (q26, .inr (1, [.int 16, .int 0, .int 0])), (q39, .inr (2, [.ref q43, .int 0, .int 0])), (q43, .inl (k43, 16, .inl (fun _ => 0))), (q51, .inl (k51, 4, .inl (fun _ => 0)))] H := hP
  have hD : va_D A [(h0, .inr (0, [.ref q8, .ref q14, .ref q26, .ref q39, .ref q51, .int 0, .int 0])), (q8, .inl (k8, 768, .inl (fun _ => 0))), (q14, .inr (1, [.int 1, .int 0, .int 0])), (q26, .inr (1, [.int 16, .int 0, .int 0])), (q39, .inr (2, [.ref q43, .int 0, .int 0])), (q43, .inl (k43, 16, .inl (fun _ => 0))), (q51, .inl (k51, 4, .inl (fun _ => 0)))] := hD
  have hK9 := hK.sub (tys' := [(k8, .int), (k43, .int), (k51, .int)]) [0, 1, 2] rfl
  refine W.widen (k := 6) (n := 797) (by decide) (by decide) ?_
  exact W.vret hx hb hr (fun t ht hW => ⟨⟨(), rfl, trivial, q8, q14, q26, q39, q43, q51, k8, k43, k51, by rw [ht]; exact hP, va_K.moved hW.alike hK9, hD⟩, hS.F ht⟩) hS.2.2 d_T_init_66
set_option maxRecDepth 100000 in
set_option maxHeartbeats 800000 in
theorem c_R_init (l : Launch) (dC : Nat → ClassId) (dI : Nat → Nat → Nat) (h0 : Nat) (sz : Nat) : Met l M_R_init.1 (Cond.code M_R_init.1 M_R_init.2.1 M_R_init.2.2.1 M_R_init.2.2.2 :: x_tb) ({ frames := 1, cells := 4, slots := 804, locals := 12 }) (va_Pc [.ref h0] (fun U => U.heap.size = sz ∧ va_P (dC, dI) x_Cl [(h0, .inr (3, [.int 0, .int 0, .int 0, .int 0, .int 0, .int 0, .int 0, .null, .null, .int 0, .int 0, .int 0, .null, .null]))] U.heap ∧ va_K (dC, dI) x_Cl [] U ∧ va_D (fun _ => True) [(h0, .inr (3, [.int 0, .int 0, .int 0, .int 0, .int 0, .int 0, .int 0, .null, .null, .int 0, .int 0, .int 0, .null, .null]))])) (va_Qv (fun (_ : Unit) => True) (fun (_ : Unit) (t : State) => ∃ (q6 q15 q23 q31 : Nat) (k6 k15 k23 k31 : ClassId), va_P (dC, dI) x_Cl [(h0, .inr (3, [.int 0, .int 0, .int 0, .int 0, .int 0, .int 0, .int 0, .ref q6, .ref q15, .int 0, .int 0, .int 0, .ref q23, .ref q31])), (q6, .inl (k6, 4, .inl (fun _ => 0))), (q15, .inl (k15, 768, .inl (fun _ => 0))), (q23, .inl (k23, 16, .inl (fun _ => 0))), (q31, .inl (k31, 16, .inl (fun _ => 0)))] t.heap ∧ va_K (dC, dI) x_Cl [(k6, .int), (k15, .int), (k23, .int), (k31, .int)] t ∧ va_D (va_A [(h0, .inr (3, [.int 0, .int 0, .int 0, .int 0, .int 0, .int 0, .int 0, .null, .null, .int 0, .int 0, .int 0, .null, .null]))] sz) [(h0, .inr (3, [.int 0, .int 0, .int 0, .int 0, .int 0, .int 0, .int 0, .ref q6, .ref q15, .int 0, .int 0, .int 0, .ref q23, .ref q31])), (q6, .inl (k6, 4, .inl (fun _ => 0))), (q15, .inl (k15, 768, .inl (fun _ => 0))), (q23, .inl (k23, 16, .inl (fun _ => 0))), (q31, .inl (k31, 16, .inl (fun _ => 0)))]) (va_A [(h0, .inr (3, [.int 0, .int 0, .int 0, .int 0, .int 0, .int 0, .int 0, .null, .null, .int 0, .int 0, .int 0, .null, .null]))] sz)) 4 804 (va_A [(h0, .inr (3, [.int 0, .int 0, .int 0, .int 0, .int 0, .int 0, .int 0, .null, .null, .int 0, .int 0, .int 0, .null, .null]))] sz) := by
  refine Met.ofW (cc := M_R_init.2.1) (maxL := 1) (ret := none) (by decide) rfl ?_
  intro p e s m args below meth c s₁ B hml hv
  obtain ⟨rfl, hsz, hP, hK, hD0⟩ := hv
  have hx := B.exec
  have hb := B.bytes
  have hr := B.returns
  have hts : ∀ w ∈ x_tb, w.before _ s = true := fun w h => atoms_spec (ws := Cond.code M_R_init.1 M_R_init.2.1 M_R_init.2.2.1 M_R_init.2.2.2 :: x_tb) B.pre w (List.mem_cons_of_mem _ h)
  have hown : s.vm.findClass R_R = some m.cls := findClass_of_methodNamed B.named
  have hlocks := B.notSynchronized
  have hin : meth.name = "<init>" := (name_of_methodNamed B.named B.method).1
  subst hsz
  have hD := hD0.self (sz := s.heap.size)
  generalize hAe : va_A [(h0, .inr (3, [.int 0, .int 0, .int 0, .int 0, .int 0, .int 0, .int 0, .null, .null, .int 0, .int 0, .int 0, .null, .null]))] s.heap.size = A at hD ⊢
  have hA : ∀ q : Nat, s.heap.size ≤ q → A q := fun q h => by rw [← hAe]; exact Or.inr h
  have hS : va_S A s.heap s.heap [] := va_S.rf
  have hP : va_P (dC, dI) x_Cl [(h0, .inr (3, [.int 0, .int 0, .int 0, .int 0, .int 0, .int 0, .int 0, .null, .null, .int 0, .int 0, .int 0, .null, .null]))] s.heap := hP
  have hl := lv_entry ([.ref h0]) (n := 1) (Nat.le_of_ble_eq_true rfl)
  rw [lg_entry_eq]
  generalize (lg_sl ([.ref h0]) ++ List.replicate (1 - (lg_sl ([.ref h0])).length) Slot.unset).toArray = ls at hl ⊢
  have hl : lv_has ls 1 [(0, .ref h0)] := hl
  refine lv_aload_n hx hb d_R_init_0 rfl (lv_at hl 0 rfl) ?_
  refine W.objInit hx hb hown (hts (.methodLink R_R 1 objectInit) (by decide +kernel)) (hts (.instanceMethod objectInit) (by decide +kernel)) (hts (.code objectInit ⟨#[0xb1]⟩ 1 none) (by decide +kernel)) rfl (by rw [hml]; exact hl.1) rfl d_R_init_1 (Nat.le_of_ble_eq_true rfl) (Nat.le_of_ble_eq_true rfl) ?_
  refine W.eq (g2 := F0 m 4 ls []) rfl ?_
  refine lv_aload_n hx hb d_R_init_4 rfl (lv_at hl 0 rfl) ?_
  refine lv_iconst (v := 4) hx hb d_R_init_5 (by decide) ?_
  refine va_newa (atype := .int) (n := 4) (ty := .int) (N' := 4) (a0 := (4, .inl (fun _ => 0))) hx hb (hts (.arrayClass .int) (by decide +kernel)) rfl hK hP hD hS hA (fun _ => rfl) (by decide +kernel) (by decide +kernel) (by decide +kernel) (by decide) (by decide) d_R_init_6 (fun q6 k6 H hK hP hD hS => ?_)
  have hK : va_K (dC, dI) x_Cl [(k6, .int)] s := hK
  have hP : va_P (dC, dI) x_Cl [(h0, .inr (3, [.int 0, .int 0, .int 0, .int 0, .int 0, .int 0, .int 0, .null, .null, .int 0, .int 0, .int 0, .null, .null])), (q6, .inl (k6, 4, .inl (fun _ => 0)))] H := hP
  have hD : va_D A [(h0, .inr (3, [.int 0, .int 0, .int 0, .int 0, .int 0, .int 0, .int 0, .null, .null, .int 0, .int 0, .int 0, .null, .null])), (q6, .inl (k6, 4, .inl (fun _ => 0)))] := hD
  refine W.widen (k := 1) (n := 4) (by decide) (by decide) ?_
  refine va_put (D := (dC, dI)) (ci := 3) (v := .ref q6) (ty := .array .int) (C := R_R) (T := F_R) (N := 14) hx hb hts in_R ft_R ft_R_ok n_R hown hK hP hD hS 0 rfl rfl 7 (by decide) (hts (.fieldLink R_R 7 (F_R 7).1 (F_R 7).2.1 (F_R 7).2.2.1) (by decide +kernel)) (fun _ h9 => h9) rfl (by decide +kernel) rfl rfl (Nat.le_of_ble_eq_true rfl) d_R_init_8 (fun H locs hP hD hS => ?_)
  have hP : va_P (dC, dI) x_Cl [(h0, .inr (3, [.int 0, .int 0, .int 0, .int 0, .int 0, .int 0, .int 0, .ref q6, .null, .int 0, .int 0, .int 0, .null, .null])), (q6, .inl (k6, 4, .inl (fun _ => 0)))] H := hP
  have hD : va_D A [(h0, .inr (3, [.int 0, .int 0, .int 0, .int 0, .int 0, .int 0, .int 0, .ref q6, .null, .int 0, .int 0, .int 0, .null, .null])), (q6, .inl (k6, 4, .inl (fun _ => 0)))] := hD
  refine lv_aload_n hx hb d_R_init_11 rfl (lv_at hl 0 rfl) ?_
  refine lv_sipush (v := 768) hx hb d_R_init_12 (by decide) ?_
  refine va_newa (atype := .int) (n := 768) (ty := .int) (N' := 768) (a0 := (768, .inl (fun _ => 0))) hx hb (hts (.arrayClass .int) (by decide +kernel)) rfl hK hP hD hS hA (fun _ => rfl) (by decide +kernel) (by decide +kernel) (by decide +kernel) (by decide) (by decide) d_R_init_15 (fun q15 k15 H hK hP hD hS => ?_)
  have hK : va_K (dC, dI) x_Cl [(k6, .int), (k15, .int)] s := hK
  have hP : va_P (dC, dI) x_Cl [(h0, .inr (3, [.int 0, .int 0, .int 0, .int 0, .int 0, .int 0, .int 0, .ref q6, .null, .int 0, .int 0, .int 0, .null, .null])), (q6, .inl (k6, 4, .inl (fun _ => 0))), (q15, .inl (k15, 768, .inl (fun _ => 0)))] H := hP
  have hD : va_D A [(h0, .inr (3, [.int 0, .int 0, .int 0, .int 0, .int 0, .int 0, .int 0, .ref q6, .null, .int 0, .int 0, .int 0, .null, .null])), (q6, .inl (k6, 4, .inl (fun _ => 0))), (q15, .inl (k15, 768, .inl (fun _ => 0)))] := hD
  refine W.widen (k := 2) (n := 772) (by decide) (by decide) ?_
  refine va_put (D := (dC, dI)) (ci := 3) (v := .ref q15) (ty := .array .int) (C := R_R) (T := F_R) (N := 14) hx hb hts in_R ft_R ft_R_ok n_R hown hK hP hD hS 0 rfl rfl 8 (by decide) (hts (.fieldLink R_R 13 (F_R 8).1 (F_R 8).2.1 (F_R 8).2.2.1) (by decide +kernel)) (fun _ h9 => h9) rfl (by decide +kernel) rfl rfl (Nat.le_of_ble_eq_true rfl) d_R_init_17 (fun H locs hP hD hS => ?_)
  have hP : va_P (dC, dI) x_Cl [(h0, .inr (3, [.int 0, .int 0, .int 0, .int 0, .int 0, .int 0, .int 0, .ref q6, .ref q15, .int 0, .int 0, .int 0, .null, .null])), (q6, .inl (k6, 4, .inl (fun _ => 0))), (q15, .inl (k15, 768, .inl (fun _ => 0)))] H := hP
  have hD : va_D A [(h0, .inr (3, [.int 0, .int 0, .int 0, .int 0, .int 0, .int 0, .int 0, .ref q6, .ref q15, .int 0, .int 0, .int 0, .null, .null])), (q6, .inl (k6, 4, .inl (fun _ => 0))), (q15, .inl (k15, 768, .inl (fun _ => 0)))] := hD
  refine lv_aload_n hx hb d_R_init_20 rfl (lv_at hl 0 rfl) ?_
  refine lv_bipush (v := 16) hx hb d_R_init_21 (by decide) ?_
  refine va_newa (atype := .int) (n := 16) (ty := .int) (N' := 16) (a0 := (16, .inl (fun _ => 0))) hx hb (hts (.arrayClass .int) (by decide +kernel)) rfl hK hP hD hS hA (fun _ => rfl) (by decide +kernel) (by decide +kernel) (by decide +kernel) (by decide) (by decide) d_R_init_23 (fun q23 k23 H hK hP hD hS => ?_)
  have hK : va_K (dC, dI) x_Cl [(k6, .int), (k15, .int), (k23, .int)] s := hK
  have hP : va_P (dC, dI) x_Cl [(h0, .inr (3, [.int 0, .int 0, .int 0, .int 0, .int 0, .int 0, .int 0, .ref q6, .ref q15, .int 0, .int 0, .int 0, .null, .null])), (q6, .inl (k6, 4, .inl (fun _ => 0))), (q15, .inl (k15, 768, .inl (fun _ => 0))), (q23, .inl (k23, 16, .inl (fun _ => 0)))] H := hP
  have hD : va_D A [(h0, .inr (3, [.int 0, .int 0, .int 0, .int 0, .int 0, .int 0, .int 0, .ref q6, .ref q15, .int 0, .int 0, .int 0, .null, .null])), (q6, .inl (k6, 4, .inl (fun _ => 0))), (q15, .inl (k15, 768, .inl (fun _ => 0))), (q23, .inl (k23, 16, .inl (fun _ => 0)))] := hD
  refine W.widen (k := 3) (n := 788) (by decide) (by decide) ?_
  refine va_put (D := (dC, dI)) (ci := 3) (v := .ref q23) (ty := .array .int) (C := R_R) (T := F_R) (N := 14) hx hb hts in_R ft_R ft_R_ok n_R hown hK hP hD hS 0 rfl rfl 12 (by decide) (hts (.fieldLink R_R 16 (F_R 12).1 (F_R 12).2.1 (F_R 12).2.2.1) (by decide +kernel)) (fun _ h9 => h9) rfl (by decide +kernel) rfl rfl (Nat.le_of_ble_eq_true rfl) d_R_init_25 (fun H locs hP hD hS => ?_)
  have hP : va_P (dC, dI) x_Cl [(h0, .inr (3, [.int 0, .int 0, .int 0, .int 0, .int 0, .int 0, .int 0, .ref q6, .ref q15, .int 0, .int 0, .int 0, .ref q23, .null])), (q6, .inl (k6, 4, .inl (fun _ => 0))), (q15, .inl (k15, 768, .inl (fun _ => 0))), (q23, .inl (k23, 16, .inl (fun _ => 0)))] H := hP
  have hD : va_D A [(h0, .inr (3, [.int 0, .int 0, .int 0, .int 0, .int 0, .int 0, .int 0, .ref q6, .ref q15, .int 0, .int 0, .int 0, .ref q23, .null])), (q6, .inl (k6, 4, .inl (fun _ => 0))), (q15, .inl (k15, 768, .inl (fun _ => 0))), (q23, .inl (k23, 16, .inl (fun _ => 0)))] := hD
  refine lv_aload_n hx hb d_R_init_28 rfl (lv_at hl 0 rfl) ?_
  refine lv_bipush (v := 16) hx hb d_R_init_29 (by decide) ?_
  refine va_newa (atype := .int) (n := 16) (ty := .int) (N' := 16) (a0 := (16, .inl (fun _ => 0))) hx hb (hts (.arrayClass .int) (by decide +kernel)) rfl hK hP hD hS hA (fun _ => rfl) (by decide +kernel) (by decide +kernel) (by decide +kernel) (by decide) (by decide) d_R_init_31 (fun q31 k31 H hK hP hD hS => ?_)
  have hK : va_K (dC, dI) x_Cl [(k6, .int), (k15, .int), (k23, .int), (k31, .int)] s := hK
  have hP : va_P (dC, dI) x_Cl [(h0, .inr (3, [.int 0, .int 0, .int 0, .int 0, .int 0, .int 0, .int 0, .ref q6, .ref q15, .int 0, .int 0, .int 0, .ref q23, .null])), (q6, .inl (k6, 4, .inl (fun _ => 0))), (q15, .inl (k15, 768, .inl (fun _ => 0))), (q23, .inl (k23, 16, .inl (fun _ => 0))), (q31, .inl (k31, 16, .inl (fun _ => 0)))] H := hP
  have hD : va_D A [(h0, .inr (3, [.int 0, .int 0, .int 0, .int 0, .int 0, .int 0, .int 0, .ref q6, .ref q15, .int 0, .int 0, .int 0, .ref q23, .null])), (q6, .inl (k6, 4, .inl (fun _ => 0))), (q15, .inl (k15, 768, .inl (fun _ => 0))), (q23, .inl (k23, 16, .inl (fun _ => 0))), (q31, .inl (k31, 16, .inl (fun _ => 0)))] := hD
  refine W.widen (k := 4) (n := 804) (by decide) (by decide) ?_
  refine va_put (D := (dC, dI)) (ci := 3) (v := .ref q31) (ty := .array .int) (C := R_R) (T := F_R) (N := 14) hx hb hts in_R ft_R ft_R_ok n_R hown hK hP hD hS 0 rfl rfl 13 (by decide) (hts (.fieldLink R_R 19 (F_R 13).1 (F_R 13).2.1 (F_R 13).2.2.1) (by decide +kernel)) (fun _ h9 => h9) rfl (by decide +kernel) rfl rfl (Nat.le_of_ble_eq_true rfl) d_R_init_33 (fun H locs hP hD hS => ?_)
  have hP : va_P (dC, dI) x_Cl [(h0, .inr (3, [.int 0, .int 0, .int 0, .int 0, .int 0, .int 0, .int 0, .ref q6, .ref q15, .int 0, .int 0, .int 0, .ref q23, .ref q31])), (q6, .inl (k6, 4, .inl (fun _ => 0))), (q15, .inl (k15, 768, .inl (fun _ => 0))), (q23, .inl (k23, 16, .inl (fun _ => 0))), (q31, .inl (k31, 16, .inl (fun _ => 0)))] H := hP
  have hD : va_D A [(h0, .inr (3, [.int 0, .int 0, .int 0, .int 0, .int 0, .int 0, .int 0, .ref q6, .ref q15, .int 0, .int 0, .int 0, .ref q23, .ref q31])), (q6, .inl (k6, 4, .inl (fun _ => 0))), (q15, .inl (k15, 768, .inl (fun _ => 0))), (q23, .inl (k23, 16, .inl (fun _ => 0))), (q31, .inl (k31, 16, .inl (fun _ => 0)))] := hD
  have hK9 := hK.sub (tys' := [(k6, .int), (k15, .int), (k23, .int), (k31, .int)]) [0, 1, 2, 3] rfl
  refine W.widen (k := 4) (n := 804) (by decide) (by decide) ?_
  exact W.vret hx hb hr (fun t ht hW => ⟨⟨(), rfl, trivial, q6, q15, q23, q31, k6, k15, k23, k31, by rw [ht]; exact hP, va_K.moved hW.alike hK9, hD⟩, hS.F ht⟩) hS.2.2 d_R_init_36
end
section
theorem x_stepN {d : Int32} {dd : Nat} (ed : d = nI dd) (h1 : 1 ≤ dd) (h4 : dd ≤ 4) : 2 * (1 : Int32) <<< ((d - 1) &&& 31) = nI (2 ^ dd) := by
  match dd, h1, h4 with
  | e + 1, _, h4 =>
    rw [x_scN (p := e) (by omega) (by rw [ed, nI_pred])]
    have : (2 : Int32) * nI (2 ^ e) = nI (2 * 2 ^ e) := pk_mul 2 (2 ^ e)
    rw [this, Nat.pow_succ, Nat.mul_comm]
theorem x_p24 {dd : Nat} (h4 : dd ≤ 4) : 2 ^ dd ≤ 16 := Nat.pow_le_pow_right (n := 2) (by decide) h4
theorem x_iremz {z : Int} {dd : Nat} (h4 : dd ≤ 4) (h1 : -100000 ≤ z) (h2 : z ≤ 100000) : zI z - zI z / nI (2 ^ dd) * nI (2 ^ dd) = 0 ↔ z % (2 ^ dd : Nat) = 0 := by
  have h16 := x_p24 h4
  rw [← Int32.toInt_inj, rem_toInt, zI_toInt z, nI_toInt (by omega)]
  show z.tmod _ = 0 ↔ _
  constructor
  · intro h
    exact Int.emod_eq_zero_of_dvd (Int.dvd_of_tmod_eq_zero h)
  · intro h
    exact Int.tmod_eq_zero_of_dvd (Int.dvd_of_emod_eq_zero h)
def x_cs (x t p : Nat) : Nat := x_cd (x - t) p
theorem x_cs_s0 {x t p : Nat} (ht : t < 2 ^ p) (h : ((x : Int) - t) % (2 ^ p : Nat) = 0) : x_cs (x + 1) t p = x_cs x t p + 1 := by
  unfold x_cs
  by_cases hx : t ≤ x
  · rw [Nat.sub_add_comm hx]
    refine (x_cd_s0 ?_).2
    have e : ((x - t : Nat) : Int) = (x : Int) - t := by omega
    rw [← e] at h
    have := Int.natCast_emod (x - t) (2 ^ p)
    omega
  · exfalso
    have h3 : ((x : Int) - t + (2 ^ p : Nat)) % (2 ^ p : Nat) = 0 := by rw [Int.add_emod_right]; exact h
    rw [Int.emod_eq_of_lt (by omega) (by omega)] at h3
    omega
theorem x_cs_s1 {x t p : Nat} (h : ¬ ((x : Int) - t) % (2 ^ p : Nat) = 0) : x_cs (x + 1) t p = x_cs x t p := by
  unfold x_cs
  by_cases hx : t ≤ x
  · rw [Nat.sub_add_comm hx]
    refine x_cd_s1 ?_
    intro h2
    apply h
    have e : ((x - t : Nat) : Int) = (x : Int) - t := by omega
    rw [← e]
    have := Int.natCast_emod (x - t) (2 ^ p)
    omega
  · rw [show x + 1 - t = 0 by omega, show x - t = 0 by omega]
theorem x_cs_mono {x y t p : Nat} (h : x ≤ y) : x_cs x t p ≤ x_cs y t p := x_cd_mono (by omega)
theorem x_cs_b {x t p : Nat} : x_cs x t p ≤ x := Nat.le_trans x_cdb (Nat.sub_le _ _)
abbrev x_bd (sc : Nat → Int32) (d o : Int32) : Prop := ¬ sc 8 = 0 ∧ ¬ d < 1 ∧ ¬ 4 < d ∧ (¬ o < 0 ∧ ¬ 3 < o)
abbrev x_DN (d o w : Int32) (dd t : Nat) : Prop := d = nI dd ∧ 1 ≤ dd ∧ dd ≤ 4 ∧ x_sh d o w = nI t ∧ t < 2 ^ dd
section C16
variable {l : Launch} {ad : Nat → Nat} {D : va_G} {cI : ClassId} {sc : Nat → Int32} {ar : Nat → Nat → Int32}
set_option maxRecDepth 100000 in
set_option maxHeartbeats 800000 in
theorem c_R_least (hd : x_dis ad) {d o w x3 : Int32} {dd t n0 : Nat} (hD : x_DN d o w dd t) (e3 : x3 = nI n0) (hn : n0 ≤ 2000) : x_Con l M_R_least 2 43 ad D cI [.int d, .int o, .int w, .int x3] sc ar (x_E (some (.int (nI (x_cs n0 t dd)))) sc ar) := by
  subst e3
  have h16 := x_p24 hD.2.2.1
  have ht := hD.2.2.2.2
  have hcb : x_cs n0 t dd ≤ n0 := x_cs_b
  have hsm : ∀ k, k ≤ x_cs n0 t dd → 2 ^ dd * k ≤ 16 * 3000 := by
    intro k hk
    exact Nat.mul_le_mul h16 (by omega)
  refine x_intro hd [some (.int d), some (.int o), some (.int w), some (.int (nI n0)), none, none] (by decide) (Nat.le_of_ble_eq_true rfl) rfl ?_
  intro p e s m args below meth c X
  have loop : ∀ n k : Nat, (x_cs n0 t dd) - k < n → k ≤ (x_cs n0 t dd) → x_G p l e (x_rm 2 43) s m args below meth c M_R_least ad D cI (x_A ad) 0 0 (x_Q below args s ad D cI (x_E (some (.int (nI (x_cs n0 t dd)))) sc ar)) 11 [some (.int d), some (.int o), some (.int w), some (.int (nI n0)), some (.int (nI (2 ^ dd))), some (.int (nI k))] [] sc ar := by
    intro n
    induction n with
    | zero => intro k h _; exact absurd h (Nat.not_lt_zero _)
    | succ n ih =>
      intro k hn hk
      refine xg_iload X (pc := 11) d_R_least_11 rfl ?_
      refine xg_iload X (pc := 13) d_R_least_13 rfl ?_
      refine xg_imul X (pc := 15) d_R_least_15 ?_
      refine xg_iload_n X (pc := 16) d_R_least_16 rfl ?_
      refine xg_iload_n X (pc := 17) d_R_least_17 rfl ?_
      refine xg_iload_n X (pc := 18) d_R_least_18 rfl ?_
      refine xg_crS3 X (pc := 19) d_R_least_19 (c_R_shift hd) s_R_126 ⟨by decide, by decide⟩ (Nat.le_of_ble_eq_true rfl) ?_
      refine xg_iadd X (pc := 22) d_R_least_22 ?_
      refine xg_iload_n X (pc := 23) d_R_least_23 rfl ?_
      refine xg_icmp_ge X (pc := 24) (tgt := 33) d_R_least_24 rfl (fun h24 => ?_) (fun h24 => ?_)
      · rw [hD.2.2.2.1, pk_mul, nI_add, nI_leI (by omega) (by have := hsm k hk; omega)] at h24
        have hk2 : k = x_cs n0 t dd := by
          have : x_cs n0 t dd ≤ k := x_cd_le.mpr (by rw [Nat.mul_comm]; omega)
          omega
        subst hk2
        refine xg_iload X (pc := 33) d_R_least_33 rfl ?_
        exact xg_iret X (pc := 35) d_R_least_35 rfl (rfl) (⟨rfl, rfl, rfl⟩)
      · rw [hD.2.2.2.1, pk_mul, nI_add, nI_leI (by omega) (by have := hsm k hk; omega)] at h24
        have hk3 : k < x_cs n0 t dd := x_cd_lt.mp (by rw [Nat.mul_comm]; omega)
        refine xg_iinc X (pc := 27) d_R_least_27 rfl (x_inc (by decide : Int32.ofInt (1) = 1) _) (by decide) rfl ?_
        refine xg_goto X (pc := 30) (tgt := 11) d_R_least_30 rfl ?_
        refine xg_weak [some (.int d), some (.int o), some (.int w), some (.int (nI n0)), some (.int (nI (2 ^ dd))), some (.int (nI (k + 1)))] ⟨rfl, rfl, rfl, rfl, rfl, by rw [← x_k1], trivial⟩ ?_
        exact ih (k + 1) (by omega) (by omega)
  refine xg_iconst X (pc := 0) (v := 2) d_R_least_0 (by decide) ?_
  refine xg_iload_n X (pc := 1) d_R_least_1 rfl ?_
  refine xg_crS1 X (pc := 2) d_R_least_2 (c_R_scale hd) s_R_113 ⟨by decide, by decide⟩ (Nat.le_of_ble_eq_true rfl) ?_
  refine xg_imul X (pc := 5) d_R_least_5 ?_
  refine xg_istore X (pc := 6) d_R_least_6 (by decide) rfl ?_
  refine xg_iconst X (pc := 8) (v := 0) d_R_least_8 (by decide) ?_
  refine xg_istore X (pc := 9) d_R_least_9 (by decide) rfl ?_
  refine xg_weak [some (.int d), some (.int o), some (.int w), some (.int (nI n0)), some (.int (nI (2 ^ dd))), some (.int (nI 0))] ⟨rfl, rfl, rfl, rfl, by rw [x_stepN hD.1 hD.2.1 hD.2.2.1], rfl, trivial⟩ ?_
  exact loop (x_cs n0 t dd + 1) 0 (by omega) (by omega)
set_option maxRecDepth 100000 in
set_option maxHeartbeats 800000 in
theorem c_R_start (hd : x_dis ad) {d o w : Int32} {dd t lf tp : Nat} (hc : x_bd sc d o → x_DN d o w dd t ∧ sc 9 = nI lf ∧ sc 10 = nI tp ∧ lf ≤ 1000 ∧ tp ≤ 1000) : x_Con l M_R_start 3 68 ad D cI [.ref (ad 7), .int d, .int o, .int w] sc ar (x_E (some (.int (if x_bd sc d o then (if w = 0 then nI (x_cs lf t dd) else nI (x_cs tp t dd)) else -1))) sc ar) := by
  refine x_intro hd [some (.ref (ad 7)), some (.int d), some (.int o), some (.int w)] (by decide) (Nat.le_of_ble_eq_true rfl) rfl ?_
  intro p e s m args below meth c X
  refine xg_aload_n X (pc := 0) d_R_start_0 rfl ?_
  refine xf_R_22 X (pc := 1) rfl d_R_start_1 ?_
  refine xg_if_eq X (pc := 4) (tgt := 24) d_R_start_4 rfl (fun h4 => ?_) (fun h4 => ?_)
  · clear hc
    refine xg_iconst X (pc := 24) (v := -1) d_R_start_24 (by decide) ?_
    refine xg_goto X (pc := 25) (tgt := 49) d_R_start_25 rfl ?_
    exact xg_iret X (pc := 49) d_R_start_49 rfl (rfl) (⟨by (try clear hc); (try clear hD); (try clear h9x); (try clear h10x); (repeat' split) <;> first | rfl | (exfalso; simp_all [x_bd]), rfl, rfl⟩)
  · refine xg_iload_n X (pc := 7) d_R_start_7 rfl ?_
    refine xg_iconst X (pc := 8) (v := 1) d_R_start_8 (by decide) ?_
    refine xg_icmp_lt X (pc := 9) (tgt := 24) d_R_start_9 rfl (fun h9 => ?_) (fun h9 => ?_)
    · clear hc
      refine xg_iconst X (pc := 24) (v := -1) d_R_start_24 (by decide) ?_
      refine xg_goto X (pc := 25) (tgt := 49) d_R_start_25 rfl ?_
      exact xg_iret X (pc := 49) d_R_start_49 rfl (rfl) (⟨by (try clear hc); (try clear hD); (try clear h9x); (try clear h10x); (repeat' split) <;> first | rfl | (exfalso; simp_all [x_bd]), rfl, rfl⟩)
    · refine xg_iload_n X (pc := 12) d_R_start_12 rfl ?_
      refine xg_iconst X (pc := 13) (v := 4) d_R_start_13 (by decide) ?_
      refine xg_icmp_gt X (pc := 14) (tgt := 24) d_R_start_14 rfl (fun h14 => ?_) (fun h14 => ?_)
      · clear hc
        refine xg_iconst X (pc := 24) (v := -1) d_R_start_24 (by decide) ?_
        refine xg_goto X (pc := 25) (tgt := 49) d_R_start_25 rfl ?_
        exact xg_iret X (pc := 49) d_R_start_49 rfl (rfl) (⟨by (try clear hc); (try clear hD); (try clear h9x); (try clear h10x); (repeat' split) <;> first | rfl | (exfalso; simp_all [x_bd]), rfl, rfl⟩)
      · refine xg_iload_n X (pc := 17) d_R_start_17 rfl ?_
        refine xg_crS1 X (pc := 18) d_R_start_18 (c_R_isBand hd) s_R_130 ⟨by decide, by decide⟩ (Nat.le_of_ble_eq_true rfl) ?_
        refine xg_if_ne X (pc := 21) (tgt := 28) d_R_start_21 rfl (fun h21 => ?_) (fun h21 => ?_)
        · replace h21 := x_bn h21
          refine xg_iload_n X (pc := 28) d_R_start_28 rfl ?_
          refine xg_iload_n X (pc := 29) d_R_start_29 rfl ?_
          refine xg_iload_n X (pc := 30) d_R_start_30 rfl ?_
          refine xg_iload_n X (pc := 31) d_R_start_31 rfl ?_
          refine xg_if_eq X (pc := 32) (tgt := 42) d_R_start_32 rfl (fun h32 => ?_) (fun h32 => ?_)
          · obtain ⟨hD, h9x, h10x, b1, b2⟩ := hc ⟨h4, h9, h14, h21⟩
            refine xg_aload_n X (pc := 42) d_R_start_42 rfl ?_
            refine xf_R_26 X (pc := 43) rfl d_R_start_43 ?_
            refine xg_crS4 X (pc := 46) d_R_start_46 (c_R_least hd hD (by first | exact h9x | exact h10x) (by omega)) s_R_133 ⟨by decide, by decide⟩ (Nat.le_of_ble_eq_true rfl) ?_
            exact xg_iret X (pc := 49) d_R_start_49 rfl (rfl) (⟨by (try clear hc); (try clear hD); (try clear h9x); (try clear h10x); (repeat' split) <;> first | rfl | (exfalso; simp_all [x_bd]), rfl, rfl⟩)
          · obtain ⟨hD, h9x, h10x, b1, b2⟩ := hc ⟨h4, h9, h14, h21⟩
            refine xg_aload_n X (pc := 35) d_R_start_35 rfl ?_
            refine xf_R_33 X (pc := 36) rfl d_R_start_36 ?_
            refine xg_goto X (pc := 39) (tgt := 46) d_R_start_39 rfl ?_
            refine xg_crS4 X (pc := 46) d_R_start_46 (c_R_least hd hD (by first | exact h9x | exact h10x) (by omega)) s_R_133 ⟨by decide, by decide⟩ (Nat.le_of_ble_eq_true rfl) ?_
            exact xg_iret X (pc := 49) d_R_start_49 rfl (rfl) (⟨by (try clear hc); (try clear hD); (try clear h9x); (try clear h10x); (repeat' split) <;> first | rfl | (exfalso; simp_all [x_bd]), rfl, rfl⟩)
        · replace h21 := x_b0 h21
          clear hc
          refine xg_iconst X (pc := 24) (v := -1) d_R_start_24 (by decide) ?_
          refine xg_goto X (pc := 25) (tgt := 49) d_R_start_25 rfl ?_
          exact xg_iret X (pc := 49) d_R_start_49 rfl (rfl) (⟨by (try clear hc); (try clear hD); (try clear h9x); (try clear h10x); (repeat' split) <;> first | rfl | (exfalso; simp_all [x_bd]), rfl, rfl⟩)
set_option maxRecDepth 100000 in
set_option maxHeartbeats 800000 in
theorem c_R_size (hd : x_dis ad) {d o w : Int32} {dd t lf tp ww hh : Nat} (hc : x_bd sc d o → x_DN d o w dd t ∧ sc 9 = nI lf ∧ sc 10 = nI tp ∧ sc 11 = nI ww ∧ sc 12 = nI hh ∧ lf ≤ 1000 ∧ tp ≤ 1000 ∧ ww ≤ 16 ∧ hh ≤ 16) : x_Con l M_R_size 2 43 ad D cI [.ref (ad 7), .int d, .int o, .int w] sc ar (x_E (some (.int (if x_bd sc d o then (if w = 0 then nI (x_cs (lf + ww) t dd - x_cs lf t dd) else nI (x_cs (tp + hh) t dd - x_cs tp t dd)) else -1))) sc ar) := by
  refine x_intro hd [some (.ref (ad 7)), some (.int d), some (.int o), some (.int w), none, none, none] (by decide) (Nat.le_of_ble_eq_true rfl) rfl ?_
  intro p e s m args below meth c X
  have loop0 : w = 0 → x_bd sc d o → ∀ n k : Nat, ww - k < n → k ≤ ww → x_G p l e (x_rm 2 43) s m args below meth c M_R_size ad D cI (x_A ad) 0 0 (x_Q below args s ad D cI (x_E (some (.int (if x_bd sc d o then (if w = 0 then nI (x_cs (lf + ww) t dd - x_cs lf t dd) else nI (x_cs (tp + hh) t dd - x_cs tp t dd)) else -1))) sc ar)) 32 [some (.ref (ad 7)), some (.int d), some (.int o), some (.int w), some (.int (nI (x_cs (lf + k) t dd - x_cs lf t dd))), some (.int (nI k)), none] [] sc ar := by
    intro hw hbd n
    obtain ⟨hD, g9, g10, g11, g12, b1, b2, b3, b4⟩ := hc hbd
    have ht := hD.2.2.2.2
    have h16 := x_p24 hD.2.2.1
    induction n with
    | zero => intro k h _; exact absurd h (Nat.not_lt_zero _)
    | succ n ih =>
      intro k hn hk
      refine xg_iload X (pc := 32) d_R_size_32 rfl ?_
      refine xg_iload_n X (pc := 34) d_R_size_34 rfl ?_
      refine xg_if_eq X (pc := 35) (tgt := 45) d_R_size_35 rfl (fun h35 => ?_) (fun h35 => ?_)
      · refine xg_aload_n X (pc := 45) d_R_size_45 rfl ?_
        refine xf_R_30 X (pc := 46) rfl d_R_size_46 ?_
        refine xg_icmp_ge X (pc := 49) (tgt := 108) d_R_size_49 rfl (fun h49 => ?_) (fun h49 => ?_)
        · rw [g11, nI_leI (by omega) (by omega)] at h49
          have hk2 : k = ww := by omega
          subst hk2
          refine xg_iload X (pc := 108) d_R_size_108 rfl ?_
          exact xg_iret X (pc := 110) d_R_size_110 rfl (rfl) (⟨by rw [if_pos hbd, if_pos hw], rfl, rfl⟩)
        · rw [g11, nI_leI (by omega) (by omega)] at h49
          refine xg_iload_n X (pc := 52) d_R_size_52 rfl ?_
          refine xg_if_eq X (pc := 53) (tgt := 63) d_R_size_53 rfl (fun h53 => ?_) (fun h53 => ?_)
          · refine xg_aload_n X (pc := 63) d_R_size_63 rfl ?_
            refine xf_R_26 X (pc := 64) rfl d_R_size_64 ?_
            refine xg_iload X (pc := 67) d_R_size_67 rfl ?_
            refine xg_iadd X (pc := 69) d_R_size_69 ?_
            refine xg_iload_n X (pc := 70) d_R_size_70 rfl ?_
            refine xg_iload_n X (pc := 71) d_R_size_71 rfl ?_
            refine xg_iload_n X (pc := 72) d_R_size_72 rfl ?_
            refine xg_crS3 X (pc := 73) d_R_size_73 (c_R_shift hd) s_R_126 ⟨by decide, by decide⟩ (Nat.le_of_ble_eq_true rfl) ?_
            refine xg_isub X (pc := 76) d_R_size_76 ?_
            refine xg_istore X (pc := 77) d_R_size_77 (by decide) rfl ?_
            refine xg_iload X (pc := 79) d_R_size_79 rfl ?_
            refine xg_iconst X (pc := 81) (v := 2) d_R_size_81 (by decide) ?_
            refine xg_iload_n X (pc := 82) d_R_size_82 rfl ?_
            refine xg_crS1 X (pc := 83) d_R_size_83 (c_R_scale hd) s_R_113 ⟨by decide, by decide⟩ (Nat.le_of_ble_eq_true rfl) ?_
            refine xg_imul X (pc := 86) d_R_size_86 ?_
            refine xg_irem X (pc := 87) d_R_size_87 (by rw [x_stepN hD.1 hD.2.1 hD.2.2.1]; exact x_pne hD.2.2.1) ?_
            refine xg_if_ne X (pc := 88) (tgt := 98) d_R_size_88 rfl (fun h88 => ?_) (fun h88 => ?_)
            · rw [g9, hD.2.2.2.1, nI_add, x_stepN hD.1 hD.2.1 hD.2.2.1, ← zI_nI, ← zI_nI, zI_sub, x_iremz hD.2.2.1 (by omega) (by omega)] at h88
              have hm9 := x_cs_mono (x := lf) (y := lf + k) (t := t) (p := dd) (by omega)
              refine xg_iload X (pc := 98) d_R_size_98 rfl ?_
              refine xg_istore X (pc := 100) d_R_size_100 (by decide) rfl ?_
              refine xg_weak [some (.ref (ad 7)), some (.int d), some (.int o), some (.int w), some (.int (nI (x_cs (lf + (k + 1)) t dd - x_cs lf t dd))), some (.int (nI k)), none] ⟨rfl, rfl, rfl, rfl, congrArg (fun v => some (Value.int v)) (by rw [← Nat.add_assoc, x_cs_s1 (by push_cast; exact h88)]), rfl, trivial⟩ ?_
              refine xg_iinc X (pc := 102) d_R_size_102 rfl (x_inc (by decide : Int32.ofInt (1) = 1) _) (by decide) rfl ?_
              refine xg_goto X (pc := 105) (tgt := 32) d_R_size_105 rfl ?_
              refine xg_weak [some (.ref (ad 7)), some (.int d), some (.int o), some (.int w), some (.int (nI (x_cs (lf + (k + 1)) t dd - x_cs lf t dd))), some (.int (nI (k + 1))), none] ⟨rfl, rfl, rfl, rfl, rfl, by rw [← x_k1], trivial⟩ ?_
              exact ih (k + 1) (by omega) (by omega)
            · rw [g9, hD.2.2.2.1, nI_add, x_stepN hD.1 hD.2.1 hD.2.2.1, ← zI_nI, ← zI_nI, zI_sub, x_iremz hD.2.2.1 (by omega) (by omega)] at h88
              have hm9 := x_cs_mono (x := lf) (y := lf + k) (t := t) (p := dd) (by omega)
              refine xg_iload X (pc := 91) d_R_size_91 rfl ?_
              refine xg_iconst X (pc := 93) (v := 1) d_R_size_93 (by decide) ?_
              refine xg_iadd X (pc := 94) d_R_size_94 ?_
              refine xg_goto X (pc := 95) (tgt := 100) d_R_size_95 rfl ?_
              refine xg_istore X (pc := 100) d_R_size_100 (by decide) rfl ?_
              refine xg_weak [some (.ref (ad 7)), some (.int d), some (.int o), some (.int w), some (.int (nI (x_cs (lf + (k + 1)) t dd - x_cs lf t dd))), some (.int (nI k)), none] ⟨rfl, rfl, rfl, rfl, congrArg (fun v => some (Value.int v)) (by rw [← Nat.add_assoc, x_cs_s0 hD.2.2.2.2 (by push_cast; exact h88), show x_cs (lf + k) t dd + 1 - x_cs lf t dd = (x_cs (lf + k) t dd - x_cs lf t dd) + 1 by omega, x_k1]), rfl, trivial⟩ ?_
              refine xg_iinc X (pc := 102) d_R_size_102 rfl (x_inc (by decide : Int32.ofInt (1) = 1) _) (by decide) rfl ?_
              refine xg_goto X (pc := 105) (tgt := 32) d_R_size_105 rfl ?_
              refine xg_weak [some (.ref (ad 7)), some (.int d), some (.int o), some (.int w), some (.int (nI (x_cs (lf + (k + 1)) t dd - x_cs lf t dd))), some (.int (nI (k + 1))), none] ⟨rfl, rfl, rfl, rfl, rfl, by rw [← x_k1], trivial⟩ ?_
              exact ih (k + 1) (by omega) (by omega)
          · exact absurd hw h53
      · exact absurd hw h35
  have loop1 : ¬ w = 0 → x_bd sc d o → ∀ n k : Nat, hh - k < n → k ≤ hh → x_G p l e (x_rm 2 43) s m args below meth c M_R_size ad D cI (x_A ad) 0 0 (x_Q below args s ad D cI (x_E (some (.int (if x_bd sc d o then (if w = 0 then nI (x_cs (lf + ww) t dd - x_cs lf t dd) else nI (x_cs (tp + hh) t dd - x_cs tp t dd)) else -1))) sc ar)) 32 [some (.ref (ad 7)), some (.int d), some (.int o), some (.int w), some (.int (nI (x_cs (tp + k) t dd - x_cs tp t dd))), some (.int (nI k)), none] [] sc ar := by
    intro hw hbd n
    obtain ⟨hD, g9, g10, g11, g12, b1, b2, b3, b4⟩ := hc hbd
    have ht := hD.2.2.2.2
    have h16 := x_p24 hD.2.2.1
    induction n with
    | zero => intro k h _; exact absurd h (Nat.not_lt_zero _)
    | succ n ih =>
      intro k hn hk
      refine xg_iload X (pc := 32) d_R_size_32 rfl ?_
      refine xg_iload_n X (pc := 34) d_R_size_34 rfl ?_
      refine xg_if_eq X (pc := 35) (tgt := 45) d_R_size_35 rfl (fun h35 => ?_) (fun h35 => ?_)
      · exact absurd h35 hw
      · refine xg_aload_n X (pc := 38) d_R_size_38 rfl ?_
        refine xf_R_36 X (pc := 39) rfl d_R_size_39 ?_
        refine xg_goto X (pc := 42) (tgt := 49) d_R_size_42 rfl ?_
        refine xg_icmp_ge X (pc := 49) (tgt := 108) d_R_size_49 rfl (fun h49 => ?_) (fun h49 => ?_)
        · rw [g12, nI_leI (by omega) (by omega)] at h49
          have hk2 : k = hh := by omega
          subst hk2
          refine xg_iload X (pc := 108) d_R_size_108 rfl ?_
          exact xg_iret X (pc := 110) d_R_size_110 rfl (rfl) (⟨by rw [if_pos hbd, if_neg hw], rfl, rfl⟩)
        · rw [g12, nI_leI (by omega) (by omega)] at h49
          refine xg_iload_n X (pc := 52) d_R_size_52 rfl ?_
          refine xg_if_eq X (pc := 53) (tgt := 63) d_R_size_53 rfl (fun h53 => ?_) (fun h53 => ?_)
          · exact absurd h53 hw
          · refine xg_aload_n X (pc := 56) d_R_size_56 rfl ?_
            refine xf_R_33 X (pc := 57) rfl d_R_size_57 ?_
            refine xg_goto X (pc := 60) (tgt := 67) d_R_size_60 rfl ?_
            refine xg_iload X (pc := 67) d_R_size_67 rfl ?_
            refine xg_iadd X (pc := 69) d_R_size_69 ?_
            refine xg_iload_n X (pc := 70) d_R_size_70 rfl ?_
            refine xg_iload_n X (pc := 71) d_R_size_71 rfl ?_
            refine xg_iload_n X (pc := 72) d_R_size_72 rfl ?_
            refine xg_crS3 X (pc := 73) d_R_size_73 (c_R_shift hd) s_R_126 ⟨by decide, by decide⟩ (Nat.le_of_ble_eq_true rfl) ?_
            refine xg_isub X (pc := 76) d_R_size_76 ?_
            refine xg_istore X (pc := 77) d_R_size_77 (by decide) rfl ?_
            refine xg_iload X (pc := 79) d_R_size_79 rfl ?_
            refine xg_iconst X (pc := 81) (v := 2) d_R_size_81 (by decide) ?_
            refine xg_iload_n X (pc := 82) d_R_size_82 rfl ?_
            refine xg_crS1 X (pc := 83) d_R_size_83 (c_R_scale hd) s_R_113 ⟨by decide, by decide⟩ (Nat.le_of_ble_eq_true rfl) ?_
            refine xg_imul X (pc := 86) d_R_size_86 ?_
            refine xg_irem X (pc := 87) d_R_size_87 (by rw [x_stepN hD.1 hD.2.1 hD.2.2.1]; exact x_pne hD.2.2.1) ?_
            refine xg_if_ne X (pc := 88) (tgt := 98) d_R_size_88 rfl (fun h88 => ?_) (fun h88 => ?_)
            · rw [g10, hD.2.2.2.1, nI_add, x_stepN hD.1 hD.2.1 hD.2.2.1, ← zI_nI, ← zI_nI, zI_sub, x_iremz hD.2.2.1 (by omega) (by omega)] at h88
              have hm9 := x_cs_mono (x := tp) (y := tp + k) (t := t) (p := dd) (by omega)
              refine xg_iload X (pc := 98) d_R_size_98 rfl ?_
              refine xg_istore X (pc := 100) d_R_size_100 (by decide) rfl ?_
              refine xg_weak [some (.ref (ad 7)), some (.int d), some (.int o), some (.int w), some (.int (nI (x_cs (tp + (k + 1)) t dd - x_cs tp t dd))), some (.int (nI k)), none] ⟨rfl, rfl, rfl, rfl, congrArg (fun v => some (Value.int v)) (by rw [← Nat.add_assoc, x_cs_s1 (by push_cast; exact h88)]), rfl, trivial⟩ ?_
              refine xg_iinc X (pc := 102) d_R_size_102 rfl (x_inc (by decide : Int32.ofInt (1) = 1) _) (by decide) rfl ?_
              refine xg_goto X (pc := 105) (tgt := 32) d_R_size_105 rfl ?_
              refine xg_weak [some (.ref (ad 7)), some (.int d), some (.int o), some (.int w), some (.int (nI (x_cs (tp + (k + 1)) t dd - x_cs tp t dd))), some (.int (nI (k + 1))), none] ⟨rfl, rfl, rfl, rfl, rfl, by rw [← x_k1], trivial⟩ ?_
              exact ih (k + 1) (by omega) (by omega)
            · rw [g10, hD.2.2.2.1, nI_add, x_stepN hD.1 hD.2.1 hD.2.2.1, ← zI_nI, ← zI_nI, zI_sub, x_iremz hD.2.2.1 (by omega) (by omega)] at h88
              have hm9 := x_cs_mono (x := tp) (y := tp + k) (t := t) (p := dd) (by omega)
              refine xg_iload X (pc := 91) d_R_size_91 rfl ?_
              refine xg_iconst X (pc := 93) (v := 1) d_R_size_93 (by decide) ?_
              refine xg_iadd X (pc := 94) d_R_size_94 ?_
              refine xg_goto X (pc := 95) (tgt := 100) d_R_size_95 rfl ?_
              refine xg_istore X (pc := 100) d_R_size_100 (by decide) rfl ?_
              refine xg_weak [some (.ref (ad 7)), some (.int d), some (.int o), some (.int w), some (.int (nI (x_cs (tp + (k + 1)) t dd - x_cs tp t dd))), some (.int (nI k)), none] ⟨rfl, rfl, rfl, rfl, congrArg (fun v => some (Value.int v)) (by rw [← Nat.add_assoc, x_cs_s0 hD.2.2.2.2 (by push_cast; exact h88), show x_cs (tp + k) t dd + 1 - x_cs tp t dd = (x_cs (tp + k) t dd - x_cs tp t dd) + 1 by omega, x_k1]), rfl, trivial⟩ ?_
              refine xg_iinc X (pc := 102) d_R_size_102 rfl (x_inc (by decide : Int32.ofInt (1) = 1) _) (by decide) rfl ?_
              refine xg_goto X (pc := 105) (tgt := 32) d_R_size_105 rfl ?_
              refine xg_weak [some (.ref (ad 7)), some (.int d), some (.int o), some (.int w), some (.int (nI (x_cs (tp + (k + 1)) t dd - x_cs tp t dd))), some (.int (nI (k + 1))), none] ⟨rfl, rfl, rfl, rfl, rfl, by rw [← x_k1], trivial⟩ ?_
              exact ih (k + 1) (by omega) (by omega)
  refine xg_aload_n X (pc := 0) d_R_size_0 rfl ?_
  refine xf_R_22 X (pc := 1) rfl d_R_size_1 ?_
  refine xg_if_eq X (pc := 4) (tgt := 24) d_R_size_4 rfl (fun h4 => ?_) (fun h4 => ?_)
  · refine xg_iconst X (pc := 24) (v := -1) d_R_size_24 (by decide) ?_
    exact xg_iret X (pc := 25) d_R_size_25 rfl (rfl) (⟨by rw [if_neg (by clear hc loop0 loop1; simp_all [x_bd])], rfl, rfl⟩)
  · refine xg_iload_n X (pc := 7) d_R_size_7 rfl ?_
    refine xg_iconst X (pc := 8) (v := 1) d_R_size_8 (by decide) ?_
    refine xg_icmp_lt X (pc := 9) (tgt := 24) d_R_size_9 rfl (fun h9 => ?_) (fun h9 => ?_)
    · refine xg_iconst X (pc := 24) (v := -1) d_R_size_24 (by decide) ?_
      exact xg_iret X (pc := 25) d_R_size_25 rfl (rfl) (⟨by rw [if_neg (by clear hc loop0 loop1; simp_all [x_bd])], rfl, rfl⟩)
    · refine xg_iload_n X (pc := 12) d_R_size_12 rfl ?_
      refine xg_iconst X (pc := 13) (v := 4) d_R_size_13 (by decide) ?_
      refine xg_icmp_gt X (pc := 14) (tgt := 24) d_R_size_14 rfl (fun h14 => ?_) (fun h14 => ?_)
      · refine xg_iconst X (pc := 24) (v := -1) d_R_size_24 (by decide) ?_
        exact xg_iret X (pc := 25) d_R_size_25 rfl (rfl) (⟨by rw [if_neg (by clear hc loop0 loop1; simp_all [x_bd])], rfl, rfl⟩)
      · refine xg_iload_n X (pc := 17) d_R_size_17 rfl ?_
        refine xg_crS1 X (pc := 18) d_R_size_18 (c_R_isBand hd) s_R_130 ⟨by decide, by decide⟩ (Nat.le_of_ble_eq_true rfl) ?_
        refine xg_if_ne X (pc := 21) (tgt := 26) d_R_size_21 rfl (fun h21 => ?_) (fun h21 => ?_)
        · replace h21 := x_bn h21
          refine xg_iconst X (pc := 26) (v := 0) d_R_size_26 (by decide) ?_
          refine xg_istore X (pc := 27) d_R_size_27 (by decide) rfl ?_
          refine xg_iconst X (pc := 29) (v := 0) d_R_size_29 (by decide) ?_
          refine xg_istore X (pc := 30) d_R_size_30 (by decide) rfl ?_
          by_cases hw : w = 0
          · refine xg_weak [some (.ref (ad 7)), some (.int d), some (.int o), some (.int w), some (.int (nI (x_cs (lf + 0) t dd - x_cs lf t dd))), some (.int (nI 0)), none] ⟨rfl, rfl, rfl, rfl, by rw [Nat.add_zero, Nat.sub_self]; rfl, rfl, trivial⟩ ?_
            exact loop0 hw ⟨h4, h9, h14, h21⟩ _ 0 (Nat.lt_succ_self _) (by omega)
          · refine xg_weak [some (.ref (ad 7)), some (.int d), some (.int o), some (.int w), some (.int (nI (x_cs (tp + 0) t dd - x_cs tp t dd))), some (.int (nI 0)), none] ⟨rfl, rfl, rfl, rfl, by rw [Nat.add_zero, Nat.sub_self]; rfl, rfl, trivial⟩ ?_
            exact loop1 hw ⟨h4, h9, h14, h21⟩ _ 0 (Nat.lt_succ_self _) (by omega)
        · replace h21 := x_b0 h21
          refine xg_iconst X (pc := 24) (v := -1) d_R_size_24 (by decide) ?_
          exact xg_iret X (pc := 25) d_R_size_25 rfl (rfl) (⟨by rw [if_neg (by clear hc loop0 loop1; simp_all [x_bd])], rfl, rfl⟩)
abbrev x_rX (d o u : Int32) : Int64 := (2 * ((1 : Int32) <<< ((d - 1) &&& 31)).toInt64 * u.toInt64 + (x_sh d o 0).toInt64)
abbrev x_rY (d o v : Int32) : Int64 := (2 * ((1 : Int32) <<< ((d - 1) &&& 31)).toInt64 * v.toInt64 + (x_sh d o 1).toInt64)
set_option maxRecDepth 100000 in
set_option maxHeartbeats 800000 in
theorem c_R_coefficient (hd : x_dis ad) {pl d o u v : Int32} (hx : ∀ u v : Int32, (¬ pl < 0 ∧ ¬ 2 < pl) ∧ x_rp sc u v → vp_in (x_rc sc pl u v) 768) : x_Con l M_R_coefficient 2 46 ad D cI [.ref (ad 7), .int pl, .int d, .int o, .int u, .int v] sc ar (x_E (some (.int (if (¬ d < 1 ∧ ¬ sc 14 < d) ∧ (¬ o < 0 ∧ ¬ 3 < o) ∧ (¬ pl < 0 ∧ ¬ 2 < pl) then (if ¬ lg_cmp (x_rX d o u) 0 < 0 ∧ ¬ 0 < lg_cmp (x_rX d o u) 2000 ∧ ¬ lg_cmp (x_rY d o v) 0 < 0 ∧ lg_cmp (x_rY d o v) 2000 ≤ 0 then (if (¬ pl < 0 ∧ ¬ 2 < pl) ∧ x_rp sc (x_rX d o u).toInt32 (x_rY d o v).toInt32 then ar 4 (x_rc sc pl (x_rX d o u).toInt32 (x_rY d o v).toInt32).toNatClampNeg else 0) else 0) else 0))) sc ar) := by
  refine x_intro hd [some (.ref (ad 7)), some (.int pl), some (.int d), some (.int o), some (.int u), some (.int v), none, none, none, none, none] (by decide) (Nat.le_of_ble_eq_true rfl) rfl ?_
  intro p e s m args below meth c X
  refine xg_aload_n X (pc := 0) d_R_coefficient_0 rfl ?_
  refine xg_iload_n X (pc := 1) d_R_coefficient_1 rfl ?_
  refine xg_crV1 X (pc := 2) d_R_coefficient_2 (c_R_isLevel hd) s_R_123 ⟨_, rfl⟩ rfl ⟨by decide, by decide⟩ (Nat.le_of_ble_eq_true rfl) ?_
  refine xg_if_eq X (pc := 5) (tgt := 22) d_R_coefficient_5 rfl (fun h5 => ?_) (fun h5 => ?_)
  · replace h5 := x_b0 h5
    refine xg_iconst X (pc := 22) (v := 0) d_R_coefficient_22 (by decide) ?_
    exact xg_iret X (pc := 23) d_R_coefficient_23 rfl (rfl) (⟨congrArg (fun v => some (Value.int v)) (if_neg (fun q => h5 q.1)).symm, rfl, rfl⟩)
  · replace h5 := x_bn h5
    refine xg_iload_n X (pc := 8) d_R_coefficient_8 rfl ?_
    refine xg_crS1 X (pc := 9) d_R_coefficient_9 (c_R_isBand hd) s_R_130 ⟨by decide, by decide⟩ (Nat.le_of_ble_eq_true rfl) ?_
    refine xg_if_eq X (pc := 12) (tgt := 22) d_R_coefficient_12 rfl (fun h12 => ?_) (fun h12 => ?_)
    · replace h12 := x_b0 h12
      refine xg_iconst X (pc := 22) (v := 0) d_R_coefficient_22 (by decide) ?_
      exact xg_iret X (pc := 23) d_R_coefficient_23 rfl (rfl) (⟨congrArg (fun v => some (Value.int v)) (if_neg (fun q => h12 q.2.1)).symm, rfl, rfl⟩)
    · replace h12 := x_bn h12
      refine xg_iload_n X (pc := 15) d_R_coefficient_15 rfl ?_
      refine xg_crS1 X (pc := 16) d_R_coefficient_16 (c_R_isPlane hd) s_R_45 ⟨by decide, by decide⟩ (Nat.le_of_ble_eq_true rfl) ?_
      refine xg_if_ne X (pc := 19) (tgt := 24) d_R_coefficient_19 rfl (fun h19 => ?_) (fun h19 => ?_)
      · replace h19 := x_bn h19
        refine xg_ldc2 X (pc := 24) (v := 2) d_R_coefficient_24 (by decide +kernel) ?_
        refine xg_iload_n X (pc := 27) d_R_coefficient_27 rfl ?_
        refine xg_crS1 X (pc := 28) d_R_coefficient_28 (c_R_scale hd) s_R_113 ⟨by decide, by decide⟩ (Nat.le_of_ble_eq_true rfl) ?_
        refine xg_i2l X (pc := 31) d_R_coefficient_31 ?_
        refine xg_lmul X (pc := 32) d_R_coefficient_32 ?_
        refine xg_iload X (pc := 33) d_R_coefficient_33 rfl ?_
        refine xg_i2l X (pc := 35) d_R_coefficient_35 ?_
        refine xg_lmul X (pc := 36) d_R_coefficient_36 ?_
        refine xg_iload_n X (pc := 37) d_R_coefficient_37 rfl ?_
        refine xg_iload_n X (pc := 38) d_R_coefficient_38 rfl ?_
        refine xg_iconst X (pc := 39) (v := 0) d_R_coefficient_39 (by decide) ?_
        refine xg_crS3 X (pc := 40) d_R_coefficient_40 (c_R_shift hd) s_R_126 ⟨by decide, by decide⟩ (Nat.le_of_ble_eq_true rfl) ?_
        refine xg_i2l X (pc := 43) d_R_coefficient_43 ?_
        refine xg_ladd X (pc := 44) d_R_coefficient_44 ?_
        refine xg_lstore X (pc := 45) d_R_coefficient_45 (by decide) rfl ?_
        refine xg_ldc2 X (pc := 47) (v := 2) d_R_coefficient_47 (by decide +kernel) ?_
        refine xg_iload_n X (pc := 50) d_R_coefficient_50 rfl ?_
        refine xg_crS1 X (pc := 51) d_R_coefficient_51 (c_R_scale hd) s_R_113 ⟨by decide, by decide⟩ (Nat.le_of_ble_eq_true rfl) ?_
        refine xg_i2l X (pc := 54) d_R_coefficient_54 ?_
        refine xg_lmul X (pc := 55) d_R_coefficient_55 ?_
        refine xg_iload X (pc := 56) d_R_coefficient_56 rfl ?_
        refine xg_i2l X (pc := 58) d_R_coefficient_58 ?_
        refine xg_lmul X (pc := 59) d_R_coefficient_59 ?_
        refine xg_iload_n X (pc := 60) d_R_coefficient_60 rfl ?_
        refine xg_iload_n X (pc := 61) d_R_coefficient_61 rfl ?_
        refine xg_iconst X (pc := 62) (v := 1) d_R_coefficient_62 (by decide) ?_
        refine xg_crS3 X (pc := 63) d_R_coefficient_63 (c_R_shift hd) s_R_126 ⟨by decide, by decide⟩ (Nat.le_of_ble_eq_true rfl) ?_
        refine xg_i2l X (pc := 66) d_R_coefficient_66 ?_
        refine xg_ladd X (pc := 67) d_R_coefficient_67 ?_
        refine xg_lstore X (pc := 68) d_R_coefficient_68 (by decide) rfl ?_
        refine xg_lload X (pc := 70) d_R_coefficient_70 rfl ?_
        refine xg_lconst X (pc := 72) (v := 0) d_R_coefficient_72 (by decide) ?_
        refine xg_lcmp X (pc := 73) d_R_coefficient_73 ?_
        refine xg_if_lt X (pc := 74) (tgt := 102) d_R_coefficient_74 rfl (fun h74 => ?_) (fun h74 => ?_)
        · refine xg_iconst X (pc := 102) (v := 1) d_R_coefficient_102 (by decide) ?_
          refine xg_goto X (pc := 103) (tgt := 107) d_R_coefficient_103 rfl ?_
          refine xg_istore X (pc := 107) d_R_coefficient_107 (by decide) rfl ?_
          refine xg_iload X (pc := 109) d_R_coefficient_109 rfl ?_
          refine xg_if_eq X (pc := 111) (tgt := 118) d_R_coefficient_111 rfl (fun h111 => ?_) (fun h111 => ?_)
          · exact absurd h111 (by decide)
          · refine xg_iconst X (pc := 114) (v := 0) d_R_coefficient_114 (by decide) ?_
            refine xg_goto X (pc := 115) (tgt := 129) d_R_coefficient_115 rfl ?_
            exact xg_iret X (pc := 129) d_R_coefficient_129 rfl (rfl) (⟨congrArg (fun v => some (Value.int v)) ((if_pos ⟨h5, h12, h19⟩).trans (if_neg (fun q => q.1 h74))).symm, rfl, rfl⟩)
        · refine xg_lload X (pc := 77) d_R_coefficient_77 rfl ?_
          refine xg_ldc2 X (pc := 79) (v := 2000) d_R_coefficient_79 (by decide +kernel) ?_
          refine xg_lcmp X (pc := 82) d_R_coefficient_82 ?_
          refine xg_if_gt X (pc := 83) (tgt := 102) d_R_coefficient_83 rfl (fun h83 => ?_) (fun h83 => ?_)
          · refine xg_iconst X (pc := 102) (v := 1) d_R_coefficient_102 (by decide) ?_
            refine xg_goto X (pc := 103) (tgt := 107) d_R_coefficient_103 rfl ?_
            refine xg_istore X (pc := 107) d_R_coefficient_107 (by decide) rfl ?_
            refine xg_iload X (pc := 109) d_R_coefficient_109 rfl ?_
            refine xg_if_eq X (pc := 111) (tgt := 118) d_R_coefficient_111 rfl (fun h111 => ?_) (fun h111 => ?_)
            · exact absurd h111 (by decide)
            · refine xg_iconst X (pc := 114) (v := 0) d_R_coefficient_114 (by decide) ?_
              refine xg_goto X (pc := 115) (tgt := 129) d_R_coefficient_115 rfl ?_
              exact xg_iret X (pc := 129) d_R_coefficient_129 rfl (rfl) (⟨congrArg (fun v => some (Value.int v)) ((if_pos ⟨h5, h12, h19⟩).trans (if_neg (fun q => q.2.1 h83))).symm, rfl, rfl⟩)
          · refine xg_lload X (pc := 86) d_R_coefficient_86 rfl ?_
            refine xg_lconst X (pc := 88) (v := 0) d_R_coefficient_88 (by decide) ?_
            refine xg_lcmp X (pc := 89) d_R_coefficient_89 ?_
            refine xg_if_lt X (pc := 90) (tgt := 102) d_R_coefficient_90 rfl (fun h90 => ?_) (fun h90 => ?_)
            · refine xg_iconst X (pc := 102) (v := 1) d_R_coefficient_102 (by decide) ?_
              refine xg_goto X (pc := 103) (tgt := 107) d_R_coefficient_103 rfl ?_
              refine xg_istore X (pc := 107) d_R_coefficient_107 (by decide) rfl ?_
              refine xg_iload X (pc := 109) d_R_coefficient_109 rfl ?_
              refine xg_if_eq X (pc := 111) (tgt := 118) d_R_coefficient_111 rfl (fun h111 => ?_) (fun h111 => ?_)
              · exact absurd h111 (by decide)
              · refine xg_iconst X (pc := 114) (v := 0) d_R_coefficient_114 (by decide) ?_
                refine xg_goto X (pc := 115) (tgt := 129) d_R_coefficient_115 rfl ?_
                exact xg_iret X (pc := 129) d_R_coefficient_129 rfl (rfl) (⟨congrArg (fun v => some (Value.int v)) ((if_pos ⟨h5, h12, h19⟩).trans (if_neg (fun q => q.2.2.1 h90))).symm, rfl, rfl⟩)
            · refine xg_lload X (pc := 93) d_R_coefficient_93 rfl ?_
              refine xg_ldc2 X (pc := 95) (v := 2000) d_R_coefficient_95 (by decide +kernel) ?_
              refine xg_lcmp X (pc := 98) d_R_coefficient_98 ?_
              refine xg_if_le X (pc := 99) (tgt := 106) d_R_coefficient_99 rfl (fun h99 => ?_) (fun h99 => ?_)
              · refine xg_iconst X (pc := 106) (v := 0) d_R_coefficient_106 (by decide) ?_
                refine xg_istore X (pc := 107) d_R_coefficient_107 (by decide) rfl ?_
                refine xg_iload X (pc := 109) d_R_coefficient_109 rfl ?_
                refine xg_if_eq X (pc := 111) (tgt := 118) d_R_coefficient_111 rfl (fun h111 => ?_) (fun h111 => ?_)
                · refine xg_aload_n X (pc := 118) d_R_coefficient_118 rfl ?_
                  refine xg_iload_n X (pc := 119) d_R_coefficient_119 rfl ?_
                  refine xg_lload X (pc := 120) d_R_coefficient_120 rfl ?_
                  refine xg_l2i X (pc := 122) d_R_coefficient_122 ?_
                  refine xg_lload X (pc := 123) d_R_coefficient_123 rfl ?_
                  refine xg_l2i X (pc := 125) d_R_coefficient_125 ?_
                  refine xg_crV3 X (pc := 126) d_R_coefficient_126 (c_R_at hd (hx _ _)) s_R_99 ⟨_, rfl⟩ rfl ⟨by decide, by decide⟩ (Nat.le_of_ble_eq_true rfl) ?_
                  exact xg_iret X (pc := 129) d_R_coefficient_129 rfl (rfl) (⟨congrArg (fun v => some (Value.int v)) ((if_pos ⟨h5, h12, h19⟩).trans (if_pos ⟨h74, h83, h90, h99⟩)).symm, rfl, rfl⟩)
                · exact absurd h111 (by decide)
              · refine xg_iconst X (pc := 102) (v := 1) d_R_coefficient_102 (by decide) ?_
                refine xg_goto X (pc := 103) (tgt := 107) d_R_coefficient_103 rfl ?_
                refine xg_istore X (pc := 107) d_R_coefficient_107 (by decide) rfl ?_
                refine xg_iload X (pc := 109) d_R_coefficient_109 rfl ?_
                refine xg_if_eq X (pc := 111) (tgt := 118) d_R_coefficient_111 rfl (fun h111 => ?_) (fun h111 => ?_)
                · exact absurd h111 (by decide)
                · refine xg_iconst X (pc := 114) (v := 0) d_R_coefficient_114 (by decide) ?_
                  refine xg_goto X (pc := 115) (tgt := 129) d_R_coefficient_115 rfl ?_
                  exact xg_iret X (pc := 129) d_R_coefficient_129 rfl (rfl) (⟨congrArg (fun v => some (Value.int v)) ((if_pos ⟨h5, h12, h19⟩).trans (if_neg (fun q => h99 q.2.2.2))).symm, rfl, rfl⟩)
      · replace h19 := x_b0 h19
        refine xg_iconst X (pc := 22) (v := 0) d_R_coefficient_22 (by decide) ?_
        exact xg_iret X (pc := 23) d_R_coefficient_23 rfl (rfl) (⟨congrArg (fun v => some (Value.int v)) (if_neg (fun q => h19 q.2.2)).symm, rfl, rfl⟩)
end C16
end
section
theorem x_tc_z0 {cb : Nat → Bool} {g : Int32 → Int32} {f : Nat → Int32} {k : Nat} (h : f k = 0) : x_tc cb g f (k + 1) = x_tc cb g f k := by
  rw [x_tc_z h, Int32.add_zero]
theorem x_tc_k0 {cb : Nat → Bool} {g : Int32 → Int32} {f : Nat → Int32} {k : Nat} (h : ¬ g (f k) = 0) : x_tc cb g f (k + 1) = x_tc cb g f k := by
  rw [x_tc_k h, Int32.add_zero]
abbrev x_ux (sc : Nat → Int32) (i : Nat) : Int32 := sc 9 + (nI i - nI i / (16 : Int32) * (16 : Int32))
abbrev x_vx (sc : Nat → Int32) (i : Nat) : Int32 := sc 10 + (nI i / (16 : Int32) - nI i / (16 : Int32) / (16 : Int32) * (16 : Int32))
def x_wi (G : Nat → Int64) (a : Int64) : Nat → Int64
  | 0 => a
  | m + 1 => x_wi G a m + G m
def x_wo (G : Nat → Nat → Int64) (w : Nat) : Nat → Int64
  | 0 => 0
  | k + 1 => x_wi (G k) (x_wo G w k) w
section C17
variable {l : Launch} {ad : Nat → Nat} {D : va_G} {cI : ClassId} {sc : Nat → Int32} {ar : Nat → Nat → Int32}
set_option maxRecDepth 100000 in
set_option maxHeartbeats 800000 in
theorem c_R_thin (hd : x_dis ad) {d o t : Int32} (hz : ¬ d < 1 ∧ ¬ sc 14 < d → ¬ 2 * (1 : Int32) <<< ((d - 1) &&& 31) = 0) : x_Con l M_R_thin 3 67 ad D cI [.ref (ad 7), .int d, .int o, .int t] sc ar (fun r sc2 ar2 => if (¬ d < 1 ∧ ¬ sc 14 < d) ∧ (¬ o < 0 ∧ ¬ 3 < o) ∧ (¬ o = 0 ∨ d = sc 14) ∧ ¬ t < 1 ∧ t ≤ 32767 then x_E (some (.int (x_tc (fun i => decide (x_rp sc (x_ux sc i) (x_vx sc i) ∧ x_be d o (x_ux sc i) (x_vx sc i))) (fun x => x_rth x t) (ar 4) 768))) sc (x_ua ar 4 (x_tf (fun i => decide (x_rp sc (x_ux sc i) (x_vx sc i) ∧ x_be d o (x_ux sc i) (x_vx sc i))) (fun x => x_rth x t) (ar 4) 768)) r sc2 ar2 else x_E (some (.int (-1))) sc ar r sc2 ar2) := by
  refine x_intro hd [some (.ref (ad 7)), some (.int d), some (.int o), some (.int t), none, none, none, none, none] (by decide) (Nat.le_of_ble_eq_true rfl) rfl ?_
  intro p e s m args below meth c X
  have loop : (¬ d < 1 ∧ ¬ sc 14 < d) ∧ (¬ o < 0 ∧ ¬ 3 < o) ∧ (¬ o = 0 ∨ d = sc 14) ∧ ¬ t < 1 ∧ t ≤ 32767 → ∀ n k : Nat, 768 - k < n → k ≤ 768 → x_G p l e (x_rm 3 67) s m args below meth c M_R_thin ad D cI (x_A ad) 0 0 (x_Q below args s ad D cI (fun r sc2 ar2 => if (¬ d < 1 ∧ ¬ sc 14 < d) ∧ (¬ o < 0 ∧ ¬ 3 < o) ∧ (¬ o = 0 ∨ d = sc 14) ∧ ¬ t < 1 ∧ t ≤ 32767 then x_E (some (.int (x_tc (fun i => decide (x_rp sc (x_ux sc i) (x_vx sc i) ∧ x_be d o (x_ux sc i) (x_vx sc i))) (fun x => x_rth x t) (ar 4) 768))) sc (x_ua ar 4 (x_tf (fun i => decide (x_rp sc (x_ux sc i) (x_vx sc i) ∧ x_be d o (x_ux sc i) (x_vx sc i))) (fun x => x_rth x t) (ar 4) 768)) r sc2 ar2 else x_E (some (.int (-1))) sc ar r sc2 ar2)) 47 [some (.ref (ad 7)), some (.int d), some (.int o), some (.int t), some (.int (x_tc (fun i => decide (x_rp sc (x_ux sc i) (x_vx sc i) ∧ x_be d o (x_ux sc i) (x_vx sc i))) (fun x => x_rth x t) (ar 4) k)), some (.int (nI k)), none, none, none] [] sc (x_ua ar 4 (x_tf (fun i => decide (x_rp sc (x_ux sc i) (x_vx sc i) ∧ x_be d o (x_ux sc i) (x_vx sc i))) (fun x => x_rth x t) (ar 4) k)) := by
    intro hc n
    induction n with
    | zero => intro k h _; exact absurd h (Nat.not_lt_zero _)
    | succ n ih =>
      intro k hn hk
      refine xg_iload X (pc := 47) d_R_thin_47 rfl ?_
      refine xg_sipush X (pc := 49) (v := 768) d_R_thin_49 (by decide) ?_
      refine xg_icmp_ge X (pc := 52) (tgt := 159) d_R_thin_52 rfl (fun h52 => ?_) (fun h52 => ?_)
      · have hk2 : k = 768 := Nat.le_antisymm hk (x_ge (n := 768) rfl (by decide) (by omega) h52)
        subst hk2
        refine xg_iload X (pc := 159) d_R_thin_159 rfl ?_
        exact xg_iret X (pc := 161) d_R_thin_161 rfl (rfl) (by show ite _ _ _; rw [if_pos hc]; exact ⟨rfl, rfl, rfl⟩)
      · have hk3 : k < 768 := x_nge (n := 768) rfl (by decide) (by omega) h52
        have hk4 : k < 2 ^ 31 := by omega
        refine xg_aload_n X (pc := 55) d_R_thin_55 rfl ?_
        refine xf_R_26 X (pc := 56) rfl d_R_thin_56 ?_
        refine xg_iload X (pc := 59) d_R_thin_59 rfl ?_
        refine xg_bipush X (pc := 61) (v := 16) d_R_thin_61 (by decide) ?_
        refine xg_irem X (pc := 63) d_R_thin_63 (by decide) ?_
        refine xg_iadd X (pc := 64) d_R_thin_64 ?_
        refine xg_istore X (pc := 65) d_R_thin_65 (by decide) rfl ?_
        refine xg_aload_n X (pc := 67) d_R_thin_67 rfl ?_
        refine xf_R_33 X (pc := 68) rfl d_R_thin_68 ?_
        refine xg_iload X (pc := 71) d_R_thin_71 rfl ?_
        refine xg_bipush X (pc := 73) (v := 16) d_R_thin_73 (by decide) ?_
        refine xg_idiv X (pc := 75) d_R_thin_75 (by decide) ?_
        refine xg_bipush X (pc := 76) (v := 16) d_R_thin_76 (by decide) ?_
        refine xg_irem X (pc := 78) d_R_thin_78 (by decide) ?_
        refine xg_iadd X (pc := 79) d_R_thin_79 ?_
        refine xg_istore X (pc := 80) d_R_thin_80 (by decide) rfl ?_
        refine xg_aload_n X (pc := 82) d_R_thin_82 rfl ?_
        refine xg_iload X (pc := 83) d_R_thin_83 rfl ?_
        refine xg_iload X (pc := 85) d_R_thin_85 rfl ?_
        refine xg_crV2 X (pc := 87) d_R_thin_87 (c_R_isPlace hd) s_R_49 ⟨_, rfl⟩ rfl ⟨by decide, by decide⟩ (Nat.le_of_ble_eq_true rfl) ?_
        refine xg_if_eq X (pc := 90) (tgt := 153) d_R_thin_90 rfl (fun h90 => ?_) (fun h90 => ?_)
        · replace h90 := x_b0 h90
          refine xg_weak [some (.ref (ad 7)), some (.int d), some (.int o), some (.int t), some (.int (x_tc (fun i => decide (x_rp sc (x_ux sc i) (x_vx sc i) ∧ x_be d o (x_ux sc i) (x_vx sc i))) (fun x => x_rth x t) (ar 4) (k + 1))), some (.int (nI k)), none, none, none] ⟨rfl, rfl, rfl, rfl, congrArg (fun v => some (Value.int v)) (x_tc_n (by simp only [decide_eq_true_eq]; exact fun q => h90 q.1)).symm, rfl, trivial⟩ ?_
          refine xg_eq rfl (ar' := x_ua ar 4 (x_tf (fun i => decide (x_rp sc (x_ux sc i) (x_vx sc i) ∧ x_be d o (x_ux sc i) (x_vx sc i))) (fun x => x_rth x t) (ar 4) (k + 1))) (congrArg _ (x_tf_n (by simp only [decide_eq_true_eq]; exact fun q => h90 q.1))) rfl ?_
          refine xg_iinc X (pc := 153) d_R_thin_153 rfl (x_inc (by decide : Int32.ofInt (1) = 1) _) (by decide) rfl ?_
          refine xg_goto X (pc := 156) (tgt := 47) d_R_thin_156 rfl ?_
          refine xg_weak [some (.ref (ad 7)), some (.int d), some (.int o), some (.int t), some (.int (x_tc (fun i => decide (x_rp sc (x_ux sc i) (x_vx sc i) ∧ x_be d o (x_ux sc i) (x_vx sc i))) (fun x => x_rth x t) (ar 4) (k + 1))), some (.int (nI (k + 1))), none, none, none] ⟨rfl, rfl, rfl, rfl, rfl, by rw [← x_k1], trivial⟩ ?_
          exact ih (k + 1) (by omega) (by omega)
        · replace h90 := x_bn h90
          refine xg_iload_n X (pc := 93) d_R_thin_93 rfl ?_
          refine xg_iload_n X (pc := 94) d_R_thin_94 rfl ?_
          refine xg_iload X (pc := 95) d_R_thin_95 rfl ?_
          refine xg_iload X (pc := 97) d_R_thin_97 rfl ?_
          refine xg_crS4 X (pc := 99) d_R_thin_99 (c_R_belongs hd (hz hc.1)) s_R_145 ⟨by decide, by decide⟩ (Nat.le_of_ble_eq_true rfl) ?_
          refine xg_if_eq X (pc := 102) (tgt := 153) d_R_thin_102 rfl (fun h102 => ?_) (fun h102 => ?_)
          · replace h102 := x_b0 h102
            refine xg_weak [some (.ref (ad 7)), some (.int d), some (.int o), some (.int t), some (.int (x_tc (fun i => decide (x_rp sc (x_ux sc i) (x_vx sc i) ∧ x_be d o (x_ux sc i) (x_vx sc i))) (fun x => x_rth x t) (ar 4) (k + 1))), some (.int (nI k)), none, none, none] ⟨rfl, rfl, rfl, rfl, congrArg (fun v => some (Value.int v)) (x_tc_n (by simp only [decide_eq_true_eq]; exact fun q => h102 q.2)).symm, rfl, trivial⟩ ?_
            refine xg_eq rfl (ar' := x_ua ar 4 (x_tf (fun i => decide (x_rp sc (x_ux sc i) (x_vx sc i) ∧ x_be d o (x_ux sc i) (x_vx sc i))) (fun x => x_rth x t) (ar 4) (k + 1))) (congrArg _ (x_tf_n (by simp only [decide_eq_true_eq]; exact fun q => h102 q.2))) rfl ?_
            refine xg_iinc X (pc := 153) d_R_thin_153 rfl (x_inc (by decide : Int32.ofInt (1) = 1) _) (by decide) rfl ?_
            refine xg_goto X (pc := 156) (tgt := 47) d_R_thin_156 rfl ?_
            refine xg_weak [some (.ref (ad 7)), some (.int d), some (.int o), some (.int t), some (.int (x_tc (fun i => decide (x_rp sc (x_ux sc i) (x_vx sc i) ∧ x_be d o (x_ux sc i) (x_vx sc i))) (fun x => x_rth x t) (ar 4) (k + 1))), some (.int (nI (k + 1))), none, none, none] ⟨rfl, rfl, rfl, rfl, rfl, by rw [← x_k1], trivial⟩ ?_
            exact ih (k + 1) (by omega) (by omega)
          · replace h102 := x_bn h102
            refine xg_aload_n X (pc := 105) d_R_thin_105 rfl ?_
            refine xf_R_13 X (pc := 106) rfl d_R_thin_106 ?_
            refine xg_iload X (pc := 109) d_R_thin_109 rfl ?_
            refine xa_ld9 X (pc := 111) d_R_thin_111 (vp_in_nI (by omega) (by decide)) ?_
            refine xg_istore X (pc := 112) d_R_thin_112 (by decide) rfl ?_
            refine xg_aload_n X (pc := 114) d_R_thin_114 rfl ?_
            refine xf_R_13 X (pc := 115) rfl d_R_thin_115 ?_
            refine xg_iload X (pc := 118) d_R_thin_118 rfl ?_
            refine xg_iload X (pc := 120) d_R_thin_120 rfl ?_
            refine xg_iload_n X (pc := 122) d_R_thin_122 rfl ?_
            refine xg_crS2 X (pc := 123) d_R_thin_123 (c_R_thinned hd (x_t0 hc.2.2.2.1)) s_R_149 ⟨by decide, by decide⟩ (Nat.le_of_ble_eq_true rfl) ?_
            refine xa_st9 X (pc := 126) d_R_thin_126 (vp_in_nI (by omega) (by decide)) ?_
            refine xg_iload X (pc := 127) d_R_thin_127 rfl ?_
            refine xg_if_eq X (pc := 129) (tgt := 149) d_R_thin_129 rfl (fun h129 => ?_) (fun h129 => ?_)
            · try simp only [x_ua_at, nI_clamp hk4, pk_us, x_tf_at] at h129
              try simp only [x_ua_at, nI_clamp hk4, pk_us, x_tf_at] at h139
              refine xg_iload X (pc := 149) d_R_thin_149 rfl ?_
              refine xg_istore X (pc := 151) d_R_thin_151 (by decide) rfl ?_
              refine xg_weak [some (.ref (ad 7)), some (.int d), some (.int o), some (.int t), some (.int (x_tc (fun i => decide (x_rp sc (x_ux sc i) (x_vx sc i) ∧ x_be d o (x_ux sc i) (x_vx sc i))) (fun x => x_rth x t) (ar 4) (k + 1))), some (.int (nI k)), none, none, none] ⟨rfl, rfl, rfl, rfl, congrArg (fun v => some (Value.int v)) (x_tc_z0 h129).symm, rfl, trivial⟩ ?_
              refine xg_eq rfl (ar' := x_ua ar 4 (x_tf (fun i => decide (x_rp sc (x_ux sc i) (x_vx sc i) ∧ x_be d o (x_ux sc i) (x_vx sc i))) (fun x => x_rth x t) (ar 4) (k + 1))) ((by simp only [x_ua_ua, x_ua_at, nI_clamp hk4, x_tf_at]; exact congrArg _ (x_tf_y (by simp only [decide_eq_true_eq]; exact ⟨h90, h102⟩)))) rfl ?_
              refine xg_iinc X (pc := 153) d_R_thin_153 rfl (x_inc (by decide : Int32.ofInt (1) = 1) _) (by decide) rfl ?_
              refine xg_goto X (pc := 156) (tgt := 47) d_R_thin_156 rfl ?_
              refine xg_weak [some (.ref (ad 7)), some (.int d), some (.int o), some (.int t), some (.int (x_tc (fun i => decide (x_rp sc (x_ux sc i) (x_vx sc i) ∧ x_be d o (x_ux sc i) (x_vx sc i))) (fun x => x_rth x t) (ar 4) (k + 1))), some (.int (nI (k + 1))), none, none, none] ⟨rfl, rfl, rfl, rfl, rfl, by rw [← x_k1], trivial⟩ ?_
              exact ih (k + 1) (by omega) (by omega)
            · simp only [x_ua_at, nI_clamp hk4, pk_us, x_tf_at] at h129
              refine xg_aload_n X (pc := 132) d_R_thin_132 rfl ?_
              refine xf_R_13 X (pc := 133) rfl d_R_thin_133 ?_
              refine xg_iload X (pc := 136) d_R_thin_136 rfl ?_
              refine xa_ld9 X (pc := 138) d_R_thin_138 (vp_in_nI (by omega) (by decide)) ?_
              refine xg_if_ne X (pc := 139) (tgt := 149) d_R_thin_139 rfl (fun h139 => ?_) (fun h139 => ?_)
              · try simp only [x_ua_at, nI_clamp hk4, pk_us, x_tf_at] at h129
                try simp only [x_ua_at, nI_clamp hk4, pk_us, x_tf_at] at h139
                refine xg_iload X (pc := 149) d_R_thin_149 rfl ?_
                refine xg_istore X (pc := 151) d_R_thin_151 (by decide) rfl ?_
                refine xg_weak [some (.ref (ad 7)), some (.int d), some (.int o), some (.int t), some (.int (x_tc (fun i => decide (x_rp sc (x_ux sc i) (x_vx sc i) ∧ x_be d o (x_ux sc i) (x_vx sc i))) (fun x => x_rth x t) (ar 4) (k + 1))), some (.int (nI k)), none, none, none] ⟨rfl, rfl, rfl, rfl, congrArg (fun v => some (Value.int v)) (x_tc_k0 h139).symm, rfl, trivial⟩ ?_
                refine xg_eq rfl (ar' := x_ua ar 4 (x_tf (fun i => decide (x_rp sc (x_ux sc i) (x_vx sc i) ∧ x_be d o (x_ux sc i) (x_vx sc i))) (fun x => x_rth x t) (ar 4) (k + 1))) ((by simp only [x_ua_ua, x_ua_at, nI_clamp hk4, x_tf_at]; exact congrArg _ (x_tf_y (by simp only [decide_eq_true_eq]; exact ⟨h90, h102⟩)))) rfl ?_
                refine xg_iinc X (pc := 153) d_R_thin_153 rfl (x_inc (by decide : Int32.ofInt (1) = 1) _) (by decide) rfl ?_
                refine xg_goto X (pc := 156) (tgt := 47) d_R_thin_156 rfl ?_
                refine xg_weak [some (.ref (ad 7)), some (.int d), some (.int o), some (.int t), some (.int (x_tc (fun i => decide (x_rp sc (x_ux sc i) (x_vx sc i) ∧ x_be d o (x_ux sc i) (x_vx sc i))) (fun x => x_rth x t) (ar 4) (k + 1))), some (.int (nI (k + 1))), none, none, none] ⟨rfl, rfl, rfl, rfl, rfl, by rw [← x_k1], trivial⟩ ?_
                exact ih (k + 1) (by omega) (by omega)
              · simp only [x_ua_at, nI_clamp hk4, pk_us, x_tf_at] at h139
                refine xg_iload X (pc := 142) d_R_thin_142 rfl ?_
                refine xg_iconst X (pc := 144) (v := 1) d_R_thin_144 (by decide) ?_
                refine xg_iadd X (pc := 145) d_R_thin_145 ?_
                refine xg_goto X (pc := 146) (tgt := 151) d_R_thin_146 rfl ?_
                refine xg_istore X (pc := 151) d_R_thin_151 (by decide) rfl ?_
                refine xg_weak [some (.ref (ad 7)), some (.int d), some (.int o), some (.int t), some (.int (x_tc (fun i => decide (x_rp sc (x_ux sc i) (x_vx sc i) ∧ x_be d o (x_ux sc i) (x_vx sc i))) (fun x => x_rth x t) (ar 4) (k + 1))), some (.int (nI k)), none, none, none] ⟨rfl, rfl, rfl, rfl, congrArg (fun v => some (Value.int v)) (x_tc_v (by simp only [decide_eq_true_eq]; exact ⟨h90, h102⟩) h129 h139).symm, rfl, trivial⟩ ?_
                refine xg_eq rfl (ar' := x_ua ar 4 (x_tf (fun i => decide (x_rp sc (x_ux sc i) (x_vx sc i) ∧ x_be d o (x_ux sc i) (x_vx sc i))) (fun x => x_rth x t) (ar 4) (k + 1))) ((by simp only [x_ua_ua, x_ua_at, nI_clamp hk4, x_tf_at]; exact congrArg _ (x_tf_y (by simp only [decide_eq_true_eq]; exact ⟨h90, h102⟩)))) rfl ?_
                refine xg_iinc X (pc := 153) d_R_thin_153 rfl (x_inc (by decide : Int32.ofInt (1) = 1) _) (by decide) rfl ?_
                refine xg_goto X (pc := 156) (tgt := 47) d_R_thin_156 rfl ?_
                refine xg_weak [some (.ref (ad 7)), some (.int d), some (.int o), some (.int t), some (.int (x_tc (fun i => decide (x_rp sc (x_ux sc i) (x_vx sc i) ∧ x_be d o (x_ux sc i) (x_vx sc i))) (fun x => x_rth x t) (ar 4) (k + 1))), some (.int (nI (k + 1))), none, none, none] ⟨rfl, rfl, rfl, rfl, rfl, by rw [← x_k1], trivial⟩ ?_
                exact ih (k + 1) (by omega) (by omega)
  refine xg_aload_n X (pc := 0) d_R_thin_0 rfl ?_
  refine xg_iload_n X (pc := 1) d_R_thin_1 rfl ?_
  refine xg_crV1 X (pc := 2) d_R_thin_2 (c_R_isLevel hd) s_R_123 ⟨_, rfl⟩ rfl ⟨by decide, by decide⟩ (Nat.le_of_ble_eq_true rfl) ?_
  refine xg_if_eq X (pc := 5) (tgt := 39) d_R_thin_5 rfl (fun h5 => ?_) (fun h5 => ?_)
  · replace h5 := x_b0 h5
    refine xg_iconst X (pc := 39) (v := -1) d_R_thin_39 (by decide) ?_
    exact xg_iret X (pc := 40) d_R_thin_40 rfl (rfl) (by clear loop hz; show ite _ _ _; rw [if_neg (by first | (simp_all; done) | grind)]; exact ⟨rfl, rfl, rfl⟩)
  · replace h5 := x_bn h5
    refine xg_iload_n X (pc := 8) d_R_thin_8 rfl ?_
    refine xg_crS1 X (pc := 9) d_R_thin_9 (c_R_isBand hd) s_R_130 ⟨by decide, by decide⟩ (Nat.le_of_ble_eq_true rfl) ?_
    refine xg_if_eq X (pc := 12) (tgt := 39) d_R_thin_12 rfl (fun h12 => ?_) (fun h12 => ?_)
    · replace h12 := x_b0 h12
      refine xg_iconst X (pc := 39) (v := -1) d_R_thin_39 (by decide) ?_
      exact xg_iret X (pc := 40) d_R_thin_40 rfl (rfl) (by clear loop hz; show ite _ _ _; rw [if_neg (by first | (simp_all; done) | grind)]; exact ⟨rfl, rfl, rfl⟩)
    · replace h12 := x_bn h12
      refine xg_iload_n X (pc := 15) d_R_thin_15 rfl ?_
      refine xg_if_ne X (pc := 16) (tgt := 27) d_R_thin_16 rfl (fun h16 => ?_) (fun h16 => ?_)
      · refine xg_iload_n X (pc := 27) d_R_thin_27 rfl ?_
        refine xg_iconst X (pc := 28) (v := 1) d_R_thin_28 (by decide) ?_
        refine xg_icmp_lt X (pc := 29) (tgt := 39) d_R_thin_29 rfl (fun h29 => ?_) (fun h29 => ?_)
        · refine xg_iconst X (pc := 39) (v := -1) d_R_thin_39 (by decide) ?_
          exact xg_iret X (pc := 40) d_R_thin_40 rfl (rfl) (by clear loop hz; show ite _ _ _; rw [if_neg (by first | (simp_all; done) | grind)]; exact ⟨rfl, rfl, rfl⟩)
        · refine xg_iload_n X (pc := 32) d_R_thin_32 rfl ?_
          refine xg_sipush X (pc := 33) (v := 32767) d_R_thin_33 (by decide) ?_
          refine xg_icmp_le X (pc := 36) (tgt := 41) d_R_thin_36 rfl (fun h36 => ?_) (fun h36 => ?_)
          · have hc : (¬ d < 1 ∧ ¬ sc 14 < d) ∧ (¬ o < 0 ∧ ¬ 3 < o) ∧ (¬ o = 0 ∨ d = sc 14) ∧ ¬ t < 1 ∧ t ≤ 32767 := ⟨h5, h12, by first | exact Or.inl h16 | exact Or.inr h24, h29, h36⟩
            refine xg_iconst X (pc := 41) (v := 0) d_R_thin_41 (by decide) ?_
            refine xg_istore X (pc := 42) d_R_thin_42 (by decide) rfl ?_
            refine xg_iconst X (pc := 44) (v := 0) d_R_thin_44 (by decide) ?_
            refine xg_istore X (pc := 45) d_R_thin_45 (by decide) rfl ?_
            refine xg_weak [some (.ref (ad 7)), some (.int d), some (.int o), some (.int t), some (.int (x_tc (fun i => decide (x_rp sc (x_ux sc i) (x_vx sc i) ∧ x_be d o (x_ux sc i) (x_vx sc i))) (fun x => x_rth x t) (ar 4) 0)), some (.int (nI 0)), none, none, none] ⟨rfl, rfl, rfl, rfl, rfl, rfl, trivial⟩ ?_
            exact xg_eq rfl (by rw [x_tf0, x_ua_id]) rfl (loop hc 769 0 (by omega) (by omega))
          · refine xg_iconst X (pc := 39) (v := -1) d_R_thin_39 (by decide) ?_
            exact xg_iret X (pc := 40) d_R_thin_40 rfl (rfl) (by clear loop hz; show ite _ _ _; rw [if_neg (by first | (simp_all; done) | grind)]; exact ⟨rfl, rfl, rfl⟩)
      · refine xg_iload_n X (pc := 19) d_R_thin_19 rfl ?_
        refine xg_aload_n X (pc := 20) d_R_thin_20 rfl ?_
        refine xf_R_42 X (pc := 21) rfl d_R_thin_21 ?_
        refine xg_icmp_ne X (pc := 24) (tgt := 39) d_R_thin_24 rfl (fun h24 => ?_) (fun h24 => ?_)
        · refine xg_iconst X (pc := 39) (v := -1) d_R_thin_39 (by decide) ?_
          exact xg_iret X (pc := 40) d_R_thin_40 rfl (rfl) (by clear loop hz; show ite _ _ _; rw [if_neg (by first | (simp_all; done) | grind)]; exact ⟨rfl, rfl, rfl⟩)
        · refine xg_iload_n X (pc := 27) d_R_thin_27 rfl ?_
          refine xg_iconst X (pc := 28) (v := 1) d_R_thin_28 (by decide) ?_
          refine xg_icmp_lt X (pc := 29) (tgt := 39) d_R_thin_29 rfl (fun h29 => ?_) (fun h29 => ?_)
          · refine xg_iconst X (pc := 39) (v := -1) d_R_thin_39 (by decide) ?_
            exact xg_iret X (pc := 40) d_R_thin_40 rfl (rfl) (by clear loop hz; show ite _ _ _; rw [if_neg (by first | (simp_all; done) | grind)]; exact ⟨rfl, rfl, rfl⟩)
          · refine xg_iload_n X (pc := 32) d_R_thin_32 rfl ?_
            refine xg_sipush X (pc := 33) (v := 32767) d_R_thin_33 (by decide) ?_
            refine xg_icmp_le X (pc := 36) (tgt := 41) d_R_thin_36 rfl (fun h36 => ?_) (fun h36 => ?_)
            · have hc : (¬ d < 1 ∧ ¬ sc 14 < d) ∧ (¬ o < 0 ∧ ¬ 3 < o) ∧ (¬ o = 0 ∨ d = sc 14) ∧ ¬ t < 1 ∧ t ≤ 32767 := ⟨h5, h12, by first | exact Or.inl h16 | exact Or.inr h24, h29, h36⟩
              refine xg_iconst X (pc := 41) (v := 0) d_R_thin_41 (by decide) ?_
              refine xg_istore X (pc := 42) d_R_thin_42 (by decide) rfl ?_
              refine xg_iconst X (pc := 44) (v := 0) d_R_thin_44 (by decide) ?_
              refine xg_istore X (pc := 45) d_R_thin_45 (by decide) rfl ?_
              refine xg_weak [some (.ref (ad 7)), some (.int d), some (.int o), some (.int t), some (.int (x_tc (fun i => decide (x_rp sc (x_ux sc i) (x_vx sc i) ∧ x_be d o (x_ux sc i) (x_vx sc i))) (fun x => x_rth x t) (ar 4) 0)), some (.int (nI 0)), none, none, none] ⟨rfl, rfl, rfl, rfl, rfl, rfl, trivial⟩ ?_
              exact xg_eq rfl (by rw [x_tf0, x_ua_id]) rfl (loop hc 769 0 (by omega) (by omega))
            · refine xg_iconst X (pc := 39) (v := -1) d_R_thin_39 (by decide) ?_
              exact xg_iret X (pc := 40) d_R_thin_40 rfl (rfl) (by clear loop hz; show ite _ _ _; rw [if_neg (by first | (simp_all; done) | grind)]; exact ⟨rfl, rfl, rfl⟩)
set_option maxRecDepth 100000 in
set_option maxHeartbeats 800000 in
theorem c_R_weight (hd : x_dis ad) {pl d o : Int32} {lf tp ww hh : Nat} (hc0 : ¬ d < 1 ∧ ¬ sc 14 < d → x_RC sc lf tp ww hh) (hz : ¬ d < 1 ∧ ¬ sc 14 < d → ¬ 2 * (1 : Int32) <<< ((d - 1) &&& 31) = 0) : x_Con l M_R_weight 3 67 ad D cI [.ref (ad 7), .int pl, .int d, .int o] sc ar (fun r sc2 ar2 => if (¬ d < 1 ∧ ¬ sc 14 < d) ∧ (¬ o < 0 ∧ ¬ 3 < o) ∧ (¬ pl < 0 ∧ ¬ 2 < pl) then x_E (some (.long (x_wo (fun y x => if x_be d o (nI (lf + x)) (nI (tp + y)) then x_ram (ar 4 (x_ix pl.toNatClampNeg lf tp (lf + x) (tp + y))) else 0) ww hh))) sc ar r sc2 ar2 else x_E (some (.long (-1))) sc ar r sc2 ar2) := by
  refine x_intro hd [some (.ref (ad 7)), some (.int pl), some (.int d), some (.int o), none, none, none, none] (by decide) (Nat.le_of_ble_eq_true rfl) rfl ?_
  intro p e s m args below meth c X
  have loop : ∀ q : Nat, q < 3 → (¬ d < 1 ∧ ¬ sc 14 < d) ∧ (¬ o < 0 ∧ ¬ 3 < o) ∧ (¬ (nI q) < 0 ∧ ¬ 2 < (nI q)) → ∀ n k : Nat, hh - k < n → k ≤ hh → x_G p l e (x_rm 3 67) s m args below meth c M_R_weight ad D cI (x_A ad) 0 0 (x_Q below args s ad D cI (fun r sc2 ar2 => if (¬ d < 1 ∧ ¬ sc 14 < d) ∧ (¬ o < 0 ∧ ¬ 3 < o) ∧ (¬ nI q < 0 ∧ ¬ 2 < nI q) then x_E (some (.long (x_wo (fun y x => if x_be d o (nI (lf + x)) (nI (tp + y)) then x_ram (ar 4 (x_ix (nI q).toNatClampNeg lf tp (lf + x) (tp + y))) else 0) ww hh))) sc ar r sc2 ar2 else x_E (some (.long (-1))) sc ar r sc2 ar2)) 35 [some (.ref (ad 7)), some (.int (nI q)), some (.int d), some (.int o), some (.long (x_wo (fun y x => if x_be d o (nI (lf + x)) (nI (tp + y)) then x_ram (ar 4 (x_ix q lf tp (lf + x) (tp + y))) else 0) ww k)), none, some (.int (nI (tp + k))), none] [] sc ar := by
    intro q hq hcd n
    have hc := hc0 hcd.1
    obtain ⟨g8, g9, g10, g11, g12, b1, b2, b3, b4⟩ := id hc
    induction n with
    | zero => intro k h _; exact absurd h (Nat.not_lt_zero _)
    | succ n ih =>
      intro k hn hk
      refine xg_iload X (pc := 35) d_R_weight_35 rfl ?_
      refine xg_aload_n X (pc := 37) d_R_weight_37 rfl ?_
      refine xf_R_33 X (pc := 38) rfl d_R_weight_38 ?_
      refine xg_aload_n X (pc := 41) d_R_weight_41 rfl ?_
      refine xf_R_36 X (pc := 42) rfl d_R_weight_42 ?_
      refine xg_iadd X (pc := 45) d_R_weight_45 ?_
      refine xg_icmp_ge X (pc := 46) (tgt := 114) d_R_weight_46 rfl (fun h46 => ?_) (fun h46 => ?_)
      · rw [g10, g12, nI_add, nI_leI (by omega) (by omega)] at h46
        have hk2 : k = hh := by omega
        subst hk2
        refine xg_lload X (pc := 114) d_R_weight_114 rfl ?_
        exact xg_lret X (pc := 116) d_R_weight_116 rfl (by show ite _ _ _; rw [if_pos hcd, nI_clamp (by omega)]; exact ⟨rfl, rfl, rfl⟩)
      · rw [g10, g12, nI_add, nI_leI (by omega) (by omega)] at h46
        have inner : x_G p l e (x_rm 3 67) s m args below meth c M_R_weight ad D cI (x_A ad) 0 0 (x_Q below args s ad D cI (fun r sc2 ar2 => if (¬ d < 1 ∧ ¬ sc 14 < d) ∧ (¬ o < 0 ∧ ¬ 3 < o) ∧ (¬ nI q < 0 ∧ ¬ 2 < nI q) then x_E (some (.long (x_wo (fun y x => if x_be d o (nI (lf + x)) (nI (tp + y)) then x_ram (ar 4 (x_ix (nI q).toNatClampNeg lf tp (lf + x) (tp + y))) else 0) ww hh))) sc ar r sc2 ar2 else x_E (some (.long (-1))) sc ar r sc2 ar2)) 108 [some (.ref (ad 7)), some (.int (nI q)), some (.int d), some (.int o), some (.long (x_wi ((fun y x => if x_be d o (nI (lf + x)) (nI (tp + y)) then x_ram (ar 4 (x_ix q lf tp (lf + x) (tp + y))) else 0) k) (x_wo (fun y x => if x_be d o (nI (lf + x)) (nI (tp + y)) then x_ram (ar 4 (x_ix q lf tp (lf + x) (tp + y))) else 0) ww k) ww)), none, some (.int (nI (tp + k))), some (.int (nI (lf + ww)))] [] sc ar → ∀ n i : Nat, ww - i < n → i ≤ ww → x_G p l e (x_rm 3 67) s m args below meth c M_R_weight ad D cI (x_A ad) 0 0 (x_Q below args s ad D cI (fun r sc2 ar2 => if (¬ d < 1 ∧ ¬ sc 14 < d) ∧ (¬ o < 0 ∧ ¬ 3 < o) ∧ (¬ nI q < 0 ∧ ¬ 2 < nI q) then x_E (some (.long (x_wo (fun y x => if x_be d o (nI (lf + x)) (nI (tp + y)) then x_ram (ar 4 (x_ix (nI q).toNatClampNeg lf tp (lf + x) (tp + y))) else 0) ww hh))) sc ar r sc2 ar2 else x_E (some (.long (-1))) sc ar r sc2 ar2)) 55 [some (.ref (ad 7)), some (.int (nI q)), some (.int d), some (.int o), some (.long (x_wi ((fun y x => if x_be d o (nI (lf + x)) (nI (tp + y)) then x_ram (ar 4 (x_ix q lf tp (lf + x) (tp + y))) else 0) k) (x_wo (fun y x => if x_be d o (nI (lf + x)) (nI (tp + y)) then x_ram (ar 4 (x_ix q lf tp (lf + x) (tp + y))) else 0) ww k) i)), none, some (.int (nI (tp + k))), some (.int (nI (lf + i)))] [] sc ar := by
          intro cont n
          induction n with
          | zero => intro i h _; exact absurd h (Nat.not_lt_zero _)
          | succ n ih =>
            intro i hn hi
            refine xg_iload X (pc := 55) d_R_weight_55 rfl ?_
            refine xg_aload_n X (pc := 57) d_R_weight_57 rfl ?_
            refine xf_R_26 X (pc := 58) rfl d_R_weight_58 ?_
            refine xg_aload_n X (pc := 61) d_R_weight_61 rfl ?_
            refine xf_R_30 X (pc := 62) rfl d_R_weight_62 ?_
            refine xg_iadd X (pc := 65) d_R_weight_65 ?_
            refine xg_icmp_ge X (pc := 66) (tgt := 108) d_R_weight_66 rfl (fun h66 => ?_) (fun h66 => ?_)
            · rw [g9, g11, nI_add, nI_leI (by omega) (by omega)] at h66
              have hi2 : i = ww := by omega
              subst hi2
              exact cont
            · rw [g9, g11, nI_add, nI_leI (by omega) (by omega)] at h66
              refine xg_lload X (pc := 69) d_R_weight_69 rfl ?_
              refine xg_iload_n X (pc := 71) d_R_weight_71 rfl ?_
              refine xg_iload_n X (pc := 72) d_R_weight_72 rfl ?_
              refine xg_iload X (pc := 73) d_R_weight_73 rfl ?_
              refine xg_iload X (pc := 75) d_R_weight_75 rfl ?_
              refine xg_crS4 X (pc := 77) d_R_weight_77 (c_R_belongs hd (hz hcd.1)) s_R_145 ⟨by decide, by decide⟩ (Nat.le_of_ble_eq_true rfl) ?_
              refine xg_if_eq X (pc := 80) (tgt := 98) d_R_weight_80 rfl (fun h80 => ?_) (fun h80 => ?_)
              · replace h80 := x_b0 h80
                refine xg_lconst X (pc := 98) (v := 0) d_R_weight_98 (by decide) ?_
                refine xg_ladd X (pc := 99) d_R_weight_99 ?_
                refine xg_lstore X (pc := 100) d_R_weight_100 (by decide) rfl ?_
                refine xg_iinc X (pc := 102) d_R_weight_102 rfl (x_inc (by decide : Int32.ofInt (1) = 1) _) (by decide) rfl ?_
                refine xg_goto X (pc := 105) (tgt := 55) d_R_weight_105 rfl ?_
                refine xg_weak [some (.ref (ad 7)), some (.int (nI q)), some (.int d), some (.int o), some (.long (x_wi ((fun y x => if x_be d o (nI (lf + x)) (nI (tp + y)) then x_ram (ar 4 (x_ix q lf tp (lf + x) (tp + y))) else 0) k) (x_wo (fun y x => if x_be d o (nI (lf + x)) (nI (tp + y)) then x_ram (ar 4 (x_ix q lf tp (lf + x) (tp + y))) else 0) ww k) (i + 1))), none, some (.int (nI (tp + k))), some (.int (nI (lf + (i + 1))))] ⟨rfl, rfl, rfl, rfl, congrArg (fun v => some (Value.long v)) (congrArg (x_wi ((fun y x => if x_be d o (nI (lf + x)) (nI (tp + y)) then x_ram (ar 4 (x_ix q lf tp (lf + x) (tp + y))) else 0) k) (x_wo (fun y x => if x_be d o (nI (lf + x)) (nI (tp + y)) then x_ram (ar 4 (x_ix q lf tp (lf + x) (tp + y))) else 0) ww k) i + ·) (if_neg h80).symm), rfl, by rw [x_k1] <;> rfl, trivial⟩ ?_
                exact ih (i + 1) (by omega) (by omega)
              · replace h80 := x_bn h80
                refine xg_aload_n X (pc := 83) d_R_weight_83 rfl ?_
                refine xg_iload_n X (pc := 84) d_R_weight_84 rfl ?_
                refine xg_iload X (pc := 85) d_R_weight_85 rfl ?_
                refine xg_iload X (pc := 87) d_R_weight_87 rfl ?_
                refine xg_crV3 X (pc := 89) d_R_weight_89 (c_R_atN hd hc hq (by omega) (by omega) (by omega) (by omega) rfl rfl) s_R_99 ⟨_, rfl⟩ rfl ⟨by decide, by decide⟩ (Nat.le_of_ble_eq_true rfl) ?_
                refine xg_crS1 X (pc := 92) d_R_weight_92 (c_R_amount hd) s_R_141 ⟨by decide, by decide⟩ (Nat.le_of_ble_eq_true rfl) ?_
                refine xg_goto X (pc := 95) (tgt := 99) d_R_weight_95 rfl ?_
                refine xg_ladd X (pc := 99) d_R_weight_99 ?_
                refine xg_lstore X (pc := 100) d_R_weight_100 (by decide) rfl ?_
                refine xg_iinc X (pc := 102) d_R_weight_102 rfl (x_inc (by decide : Int32.ofInt (1) = 1) _) (by decide) rfl ?_
                refine xg_goto X (pc := 105) (tgt := 55) d_R_weight_105 rfl ?_
                refine xg_weak [some (.ref (ad 7)), some (.int (nI q)), some (.int d), some (.int o), some (.long (x_wi ((fun y x => if x_be d o (nI (lf + x)) (nI (tp + y)) then x_ram (ar 4 (x_ix q lf tp (lf + x) (tp + y))) else 0) k) (x_wo (fun y x => if x_be d o (nI (lf + x)) (nI (tp + y)) then x_ram (ar 4 (x_ix q lf tp (lf + x) (tp + y))) else 0) ww k) (i + 1))), none, some (.int (nI (tp + k))), some (.int (nI (lf + (i + 1))))] ⟨rfl, rfl, rfl, rfl, congrArg (fun v => some (Value.long v)) (congrArg (x_wi ((fun y x => if x_be d o (nI (lf + x)) (nI (tp + y)) then x_ram (ar 4 (x_ix q lf tp (lf + x) (tp + y))) else 0) k) (x_wo (fun y x => if x_be d o (nI (lf + x)) (nI (tp + y)) then x_ram (ar 4 (x_ix q lf tp (lf + x) (tp + y))) else 0) ww k) i + ·) (if_pos h80).symm), rfl, by rw [x_k1] <;> rfl, trivial⟩ ?_
                exact ih (i + 1) (by omega) (by omega)
        refine xg_aload_n X (pc := 49) d_R_weight_49 rfl ?_
        refine xf_R_26 X (pc := 50) rfl d_R_weight_50 ?_
        refine xg_istore X (pc := 53) d_R_weight_53 (by decide) rfl ?_
        refine xg_weak [some (.ref (ad 7)), some (.int (nI q)), some (.int d), some (.int o), some (.long (x_wi ((fun y x => if x_be d o (nI (lf + x)) (nI (tp + y)) then x_ram (ar 4 (x_ix q lf tp (lf + x) (tp + y))) else 0) k) (x_wo (fun y x => if x_be d o (nI (lf + x)) (nI (tp + y)) then x_ram (ar 4 (x_ix q lf tp (lf + x) (tp + y))) else 0) ww k) 0)), none, some (.int (nI (tp + k))), some (.int (nI (lf + 0)))] ⟨rfl, rfl, rfl, rfl, rfl, rfl, by rw [g9] <;> rfl, trivial⟩ ?_
        refine inner ?_ _ 0 (Nat.lt_succ_self _) (by omega)
        refine xg_iinc X (pc := 108) d_R_weight_108 rfl (x_inc (by decide : Int32.ofInt (1) = 1) _) (by decide) rfl ?_
        refine xg_goto X (pc := 111) (tgt := 35) d_R_weight_111 rfl ?_
        refine xg_weak [some (.ref (ad 7)), some (.int (nI q)), some (.int d), some (.int o), some (.long (x_wo (fun y x => if x_be d o (nI (lf + x)) (nI (tp + y)) then x_ram (ar 4 (x_ix q lf tp (lf + x) (tp + y))) else 0) ww (k + 1))), none, some (.int (nI (tp + (k + 1)))), none] ⟨rfl, rfl, rfl, rfl, rfl, by rw [x_k1] <;> rfl, trivial⟩ ?_
        exact ih (k + 1) (by omega) (by omega)
  refine xg_aload_n X (pc := 0) d_R_weight_0 rfl ?_
  refine xg_iload_n X (pc := 1) d_R_weight_1 rfl ?_
  refine xg_crV1 X (pc := 2) d_R_weight_2 (c_R_isLevel hd) s_R_123 ⟨_, rfl⟩ rfl ⟨by decide, by decide⟩ (Nat.le_of_ble_eq_true rfl) ?_
  refine xg_if_eq X (pc := 5) (tgt := 22) d_R_weight_5 rfl (fun h5 => ?_) (fun h5 => ?_)
  · replace h5 := x_b0 h5
    refine xg_ldc2 X (pc := 22) (v := -1) d_R_weight_22 (by decide +kernel) ?_
    exact xg_lret X (pc := 25) d_R_weight_25 rfl (by clear loop hc0 hz; show ite _ _ _; rw [if_neg (by first | (simp_all; done) | grind)]; exact ⟨rfl, rfl, rfl⟩)
  · replace h5 := x_bn h5
    refine xg_iload_n X (pc := 8) d_R_weight_8 rfl ?_
    refine xg_crS1 X (pc := 9) d_R_weight_9 (c_R_isBand hd) s_R_130 ⟨by decide, by decide⟩ (Nat.le_of_ble_eq_true rfl) ?_
    refine xg_if_eq X (pc := 12) (tgt := 22) d_R_weight_12 rfl (fun h12 => ?_) (fun h12 => ?_)
    · replace h12 := x_b0 h12
      refine xg_ldc2 X (pc := 22) (v := -1) d_R_weight_22 (by decide +kernel) ?_
      exact xg_lret X (pc := 25) d_R_weight_25 rfl (by clear loop hc0 hz; show ite _ _ _; rw [if_neg (by first | (simp_all; done) | grind)]; exact ⟨rfl, rfl, rfl⟩)
    · replace h12 := x_bn h12
      refine xg_iload_n X (pc := 15) d_R_weight_15 rfl ?_
      refine xg_crS1 X (pc := 16) d_R_weight_16 (c_R_isPlane hd) s_R_45 ⟨by decide, by decide⟩ (Nat.le_of_ble_eq_true rfl) ?_
      refine xg_if_ne X (pc := 19) (tgt := 26) d_R_weight_19 rfl (fun h19 => ?_) (fun h19 => ?_)
      · replace h19 := x_bn h19
        obtain ⟨q, hq, rfl⟩ : ∃ q : Nat, q < 3 ∧ pl = nI q := by
          obtain ⟨j, j1, j2⟩ := nI_of h19.1
          refine ⟨j, ?_, j2⟩
          have j3 := h19.2
          rw [j2] at j3
          exact Nat.lt_of_not_le fun q9 => j3 ((nI_ltI (a := 2) (by decide) j1).mpr (by omega))
        refine xg_lconst X (pc := 26) (v := 0) d_R_weight_26 (by decide) ?_
        refine xg_lstore X (pc := 27) d_R_weight_27 (by decide) rfl ?_
        refine xg_aload_n X (pc := 29) d_R_weight_29 rfl ?_
        refine xf_R_33 X (pc := 30) rfl d_R_weight_30 ?_
        refine xg_istore X (pc := 33) d_R_weight_33 (by decide) rfl ?_
        refine xg_weak [some (.ref (ad 7)), some (.int (nI q)), some (.int d), some (.int o), some (.long (x_wo (fun y x => if x_be d o (nI (lf + x)) (nI (tp + y)) then x_ram (ar 4 (x_ix q lf tp (lf + x) (tp + y))) else 0) ww 0)), none, some (.int (nI (tp + 0))), none] ⟨rfl, rfl, rfl, rfl, rfl, by rw [(hc0 h5).2.2.1] <;> rfl, trivial⟩ ?_
        exact loop q hq ⟨h5, h12, h19⟩ _ 0 (Nat.lt_succ_self _) (by omega)
      · replace h19 := x_b0 h19
        refine xg_ldc2 X (pc := 22) (v := -1) d_R_weight_22 (by decide +kernel) ?_
        exact xg_lret X (pc := 25) d_R_weight_25 rfl (by clear loop hc0 hz; show ite _ _ _; rw [if_neg (by first | (simp_all; done) | grind)]; exact ⟨rfl, rfl, rfl⟩)
end C17
end
section
theorem x_Con.post {l : Launch} {y : x_M} {fr lo : Nat} {ad : Nat → Nat} {D : va_G} {cI : ClassId} {av : List Value} {sc : Nat → Int32} {ar : Nat → Nat → Int32} {P P' : Option Value → (Nat → Int32) → (Nat → Nat → Int32) → Prop} (h : x_Con l y fr lo ad D cI av sc ar P) (hp : ∀ r sc' ar', P r sc' ar' → P' r sc' ar') : x_Con l y fr lo ad D cI av sc ar P' := by
  intro p e ha hc hk s m args below hf happ hP hK
  obtain ⟨n, o, h1, h2, h3, ⟨⟨r, sc', ar', e1, e2, e3⟩, h5⟩⟩ := h p e ha hc hk s m args below hf happ hP hK
  exact ⟨n, o, h1, h2, h3, ⟨⟨r, sc', ar', e1, hp _ _ _ e2, e3⟩, h5⟩⟩
theorem x_cmpc (x y : Int64) : (lg_cmp x y < 0 ↔ x.toInt < y.toInt) ∧ (0 ≤ lg_cmp x y ↔ y.toInt ≤ x.toInt) ∧ (0 < lg_cmp x y ↔ y.toInt < x.toInt) ∧ (lg_cmp x y ≤ 0 ↔ x.toInt ≤ y.toInt) ∧ (lg_cmp x y = 0 ↔ x = y) := by
  rcases lg_tri x y with h | h | h
  · have e : lg_cmp x y = -1 := by
      unfold lg_cmp
      rw [if_neg (lg_lt_not h), if_neg (lg_lt_ne h)]
    have h' := Int64.lt_iff_toInt_lt.mp h
    rw [e]
    exact ⟨⟨fun _ => h', fun _ => by decide⟩, ⟨fun q => absurd q (by decide), fun q => absurd q (by omega)⟩, ⟨fun q => absurd q (by decide), fun q => absurd q (by omega)⟩, ⟨fun _ => by omega, fun _ => by decide⟩, ⟨fun q => absurd q (by decide), fun q => absurd q (lg_lt_ne h)⟩⟩
  · subst h
    have e : lg_cmp x x = 0 := by simp [lg_cmp]
    rw [e]
    exact ⟨⟨fun q => absurd q (by decide), fun q => absurd q (by omega)⟩, ⟨fun _ => by omega, fun _ => by decide⟩, ⟨fun q => absurd q (by decide), fun q => absurd q (by omega)⟩, ⟨fun _ => by omega, fun _ => by decide⟩, ⟨fun _ => rfl, fun _ => rfl⟩⟩
  · have e : lg_cmp x y = 1 := by
      unfold lg_cmp
      rw [if_pos h]
    have h' := Int64.lt_iff_toInt_lt.mp h
    rw [e]
    exact ⟨⟨fun q => absurd q (by decide), fun q => absurd q (by omega)⟩, ⟨fun _ => by omega, fun _ => by decide⟩, ⟨fun _ => h', fun _ => by decide⟩, ⟨fun q => absurd q (by decide), fun q => absurd q (by omega)⟩, ⟨fun q => absurd q (by decide), fun q => absurd q.symm (lg_lt_ne h)⟩⟩
theorem x_nIl {n : Nat} (h : n < 2 ^ 31) : (nI n).toInt64.toInt = (n : Int) := by rw [Int32.toInt_toInt64, nI_toInt h]
theorem x_le1 (x : Int32) (n : Nat) (hn : n < 2 ^ 30) : nI (n + 1) ≤ x ↔ nI n < x := by
  rw [Int32.le_iff_toInt_le, Int32.lt_iff_toInt_lt, nI_toInt (by omega), nI_toInt (by omega)]
  omega
theorem x_holN {sc : Nat → Int32} {j b n : Nat} {z : Int64} (hb : sc (2 * j + 2) = nI b) (hn : sc (2 * j + 3) = nI n) (h1 : b ≤ 1000) (h2 : n ≤ 16) : x_hol sc j z ↔ ((b : Int) ≤ z.toInt ∧ z.toInt < b + n) := by
  have e1 : (nI b).toInt64.toInt = (b : Int) := x_nIl (by omega)
  have e2 : (nI (b + n)).toInt64.toInt = ((b + n : Nat) : Int) := x_nIl (by omega)
  unfold x_hol
  rw [hb, hn, nI_add, (x_cmpc z (nI b).toInt64).1, (x_cmpc z (nI (b + n)).toInt64).2.1, e1, e2]
  omega
abbrev x_Pl (pl : Int32) (U V : Int) (lf tp ww hh : Nat) : Prop := x_pl pl ∧ (lf : Int) ≤ U ∧ U < lf + ww ∧ (tp : Int) ≤ V ∧ V < tp + hh
def x_pi (pl : Int32) (U V : Int) (lf tp : Nat) : Nat := pl.toNatClampNeg * 256 + (V - tp).toNat * 16 + (U - lf).toNat
theorem x_pi_lt {pl : Int32} {U V : Int} {lf tp ww hh : Nat} (h : x_Pl pl U V lf tp ww hh) (h3 : ww ≤ 16) (h4 : hh ≤ 16) : x_pi pl U V lf tp < 768 := by
  obtain ⟨q, hq, rfl⟩ := x_plq h.1
  unfold x_pi
  rw [nI_clamp (by omega)]
  have := h.2
  omega
abbrev x_IT (mx : Int32) (lf tp ww hh p0 : Nat) (f kk : Nat → Int32) (sc : Nat → Int32) (ar : Nat → Nat → Int32) : Prop := sc 2 = nI lf ∧ sc 3 = nI ww ∧ sc 4 = nI tp ∧ sc 5 = nI hh ∧ sc 0 = nI p0 ∧ sc 1 = mx ∧ ar 0 = f ∧ ar 1 = kk
abbrev x_IR (th mx : Int32) (lf tp ww hh p0 : Nat) (f kk : Nat → Int32) (sc : Nat → Int32) (ar : Nat → Nat → Int32) : Prop := sc 8 = th ∧ sc 9 = nI lf ∧ sc 10 = nI tp ∧ sc 11 = nI ww ∧ sc 12 = nI hh ∧ sc 13 = mx ∧ sc 14 = nI p0 ∧ ar 4 = f ∧ ar 3 = kk
def x_Z (ww hh : Nat) (f : Nat → Int32) : Prop := ∀ i, i < 768 → (ww ≤ i % 16 ∨ hh ≤ i / 16 % 16) → f i = 0
abbrev x_IP (th mx : Int32) (lf tp ww hh p0 : Nat) (f : Nat → Int32) : Prop := lf ≤ 1000 ∧ tp ≤ 1000 ∧ ww ≤ 16 ∧ hh ≤ 16 ∧ p0 ≤ 4 ∧ (mx = 0 ∨ mx = 1) ∧ ((th = 1 ∧ 0 < ww ∧ 0 < hh) ∨ (th = 0 ∧ ww = 0 ∧ hh = 0 ∧ p0 = 0)) ∧ x_Z ww hh f
def x_IN (sc : Nat → Int32) (ar : Nat → Nat → Int32) : Prop := ∃ (th mx : Int32) (lf tp ww hh p0 : Nat) (f kk : Nat → Int32), x_IP th mx lf tp ww hh p0 f ∧ x_IT mx lf tp ww hh p0 f kk sc ar ∧ x_IR th mx lf tp ww hh p0 f kk sc ar
section PU
variable {sc : Nat → Int32} {ar : Nat → Nat → Int32} {th mx : Int32} {lf tp ww hh p0 : Nat} {f kk : Nat → Int32}
theorem x_cp_in {pl : Int32} {u v : Int64} (hP : x_IP th mx lf tp ww hh p0 f) (hT : x_IT mx lf tp ww hh p0 f kk sc ar) (h : x_Pl pl u.toInt v.toInt lf tp ww hh) : x_cp sc pl u v = nI (x_pi pl u.toInt v.toInt lf tp) := by
  obtain ⟨b1, b2, b3, b4, -⟩ := hP
  obtain ⟨g2, g3, g4, g5, -⟩ := hT
  have hc : x_pl pl ∧ x_hol sc 0 u ∧ x_hol sc 1 v := ⟨h.1, (x_holN (j := 0) g2 g3 b1 b3).mpr ⟨h.2.1, h.2.2.1⟩, (x_holN (j := 1) g4 g5 b2 b4).mpr ⟨h.2.2.2.1, h.2.2.2.2⟩⟩
  obtain ⟨q, hq, rfl⟩ := x_plq h.1
  have hh2 := h.2
  have eu : u = lN u.toInt.toNat := Int64.toInt_inj.mp (by rw [lN_toInt (by omega)]; omega)
  have ev : v = lN v.toInt.toNat := Int64.toInt_inj.mp (by rw [lN_toInt (by omega)]; omega)
  have e1 : x_off sc 0 u = nI ((u.toInt.toNat - lf) * 1) := by
    have := x_offN (sc := sc) (j := 0) (b := lf) (z := u.toInt.toNat) (by decide) g2 (by omega) (by omega)
    rw [← eu] at this
    exact this
  have e2 : x_off sc 1 v = nI ((v.toInt.toNat - tp) * 16) := by
    have := x_offN (sc := sc) (j := 1) (b := tp) (z := v.toInt.toNat) (by decide) g4 (by omega) (by omega)
    rw [← ev] at this
    exact this
  unfold x_cp
  rw [if_pos hc, e1, e2, x_m256, nI_add, nI_add]
  unfold x_pi
  rw [nI_clamp (by omega)]
  congr 1
  omega
theorem x_cp_out {pl : Int32} {u v : Int64} (hP : x_IP th mx lf tp ww hh p0 f) (hT : x_IT mx lf tp ww hh p0 f kk sc ar) (h : ¬ x_Pl pl u.toInt v.toInt lf tp ww hh) : x_cp sc pl u v = -1 := by
  obtain ⟨b1, b2, b3, b4, -⟩ := hP
  obtain ⟨g2, g3, g4, g5, -⟩ := hT
  unfold x_cp
  rw [if_neg]
  rintro ⟨q1, q2, q3⟩
  rw [x_holN (j := 0) g2 g3 b1 b3] at q2
  rw [x_holN (j := 1) g4 g5 b2 b4] at q3
  exact h ⟨q1, q2.1, q2.2, q3.1, q3.2⟩
theorem x_cp_vp {pl : Int32} {u v : Int64} (hP : x_IP th mx lf tp ww hh p0 f) (hT : x_IT mx lf tp ww hh p0 f kk sc ar) : ¬ x_cp sc pl u v = -1 → vp_in (x_cp sc pl u v) 768 := by
  intro h
  by_cases hp : x_Pl pl u.toInt v.toInt lf tp ww hh
  · rw [x_cp_in hP hT hp]
    exact vp_in_nI (x_pi_lt hp hP.2.2.1 hP.2.2.2.1) (by decide)
  · exact absurd (x_cp_out hP hT hp) h
theorem x_cp_ne {pl : Int32} {u v : Int64} (hP : x_IP th mx lf tp ww hh p0 f) (hT : x_IT mx lf tp ww hh p0 f kk sc ar) (h : x_Pl pl u.toInt v.toInt lf tp ww hh) : ¬ x_cp sc pl u v = -1 := by
  rw [x_cp_in hP hT h]
  have := x_pi_lt h hP.2.2.1 hP.2.2.2.1
  rw [← Int32.toInt_inj, nI_toInt (by omega)]
  have e : (-1 : Int32).toInt = -1 := by decide
  rw [e]
  omega
theorem x_rp_iff {pl u v : Int32} (hP : x_IP th mx lf tp ww hh p0 f) (hR : x_IR th mx lf tp ww hh p0 f kk sc ar) : ((¬ pl < 0 ∧ ¬ 2 < pl) ∧ x_rp sc u v) ↔ x_Pl pl u.toInt v.toInt lf tp ww hh := by
  obtain ⟨b1, b2, b3, b4, -, -, b7, -⟩ := hP
  obtain ⟨g8, g9, g10, g11, g12, -⟩ := hR
  have e3 : (3 : Int32) ≤ pl ↔ (2 : Int32) < pl := x_le1 pl 2 (by decide)
  unfold x_Pl x_pl
  rw [e3]
  unfold x_rp
  rw [g8, g9, g10, g11, g12, nI_add, nI_add]
  simp only [Int32.lt_iff_toInt_lt, Int32.le_iff_toInt_le]
  rw [nI_toInt (n := lf) (by omega), nI_toInt (n := tp) (by omega), nI_toInt (n := lf + ww) (by omega), nI_toInt (n := tp + hh) (by omega)]
  rcases b7 with ⟨c1, c2, c3⟩ | ⟨c1, c2, c3, -⟩
  · have c4 : ¬ th = 0 := by rw [c1]; decide
    constructor
    · rintro ⟨a1, -, a2, a3, a4, a5⟩
      exact ⟨a1, by omega, by omega, by omega, by omega⟩
    · rintro ⟨a1, a2, a3, a4, a5⟩
      exact ⟨a1, c4, by omega, by omega, by omega, by omega⟩
  · constructor
    · rintro ⟨-, a0, -⟩
      exact absurd c1 a0
    · rintro ⟨-, a2, a3, -⟩
      omega
theorem x_rc_in {pl u v : Int32} (hP : x_IP th mx lf tp ww hh p0 f) (hR : x_IR th mx lf tp ww hh p0 f kk sc ar) (h : x_Pl pl u.toInt v.toInt lf tp ww hh) : x_rc sc pl u v = nI (x_pi pl u.toInt v.toInt lf tp) := by
  obtain ⟨b1, b2, b3, b4, -⟩ := hP
  obtain ⟨g8, g9, g10, -⟩ := hR
  obtain ⟨q, hq, rfl⟩ := x_plq h.1
  have h2 := h.2
  have eu : u = nI u.toInt.toNat := Int32.toInt_inj.mp (by rw [nI_toInt (by omega)]; omega)
  have ev : v = nI v.toInt.toNat := Int32.toInt_inj.mp (by rw [nI_toInt (by omega)]; omega)
  have := x_rcN (q := q) (u := u.toInt.toNat) (v := v.toInt.toNat) g9 g10 (by omega) (by omega)
  rw [← eu, ← ev] at this
  rw [this]
  unfold x_ix x_pi
  rw [nI_clamp (by omega)]
  congr 1
  omega
theorem x_rc_vp {pl u v : Int32} (hP : x_IP th mx lf tp ww hh p0 f) (hR : x_IR th mx lf tp ww hh p0 f kk sc ar) : (¬ pl < 0 ∧ ¬ 2 < pl) ∧ x_rp sc u v → vp_in (x_rc sc pl u v) 768 := by
  intro h
  have hp := (x_rp_iff hP hR).mp h
  rw [x_rc_in hP hR hp]
  exact vp_in_nI (x_pi_lt hp hP.2.2.1 hP.2.2.2.1) (by decide)
theorem x_lvl {d : Int32} {n : Nat} (hn : n < 2 ^ 31) (h1 : ¬ d < 1) (h2 : ¬ nI n < d) : ∃ dd : Nat, d = nI dd ∧ 1 ≤ dd ∧ dd ≤ n := by
  have e1 : (1 : Int32).toInt = 1 := by decide
  rw [Int32.lt_iff_toInt_lt, e1] at h1
  rw [Int32.lt_iff_toInt_lt, nI_toInt hn] at h2
  exact ⟨d.toInt.toNat, Int32.toInt_inj.mp (by rw [nI_toInt (by omega)]; omega), by omega, by omega⟩
theorem x_bnd {o : Int32} (h1 : ¬ o < 0) (h2 : ¬ 4 ≤ o) : ∃ oo : Nat, o = nI oo ∧ oo < 4 := by
  obtain ⟨j, j1, j2⟩ := nI_of h1
  refine ⟨j, j2, ?_⟩
  rw [j2] at h2
  exact Nat.lt_of_not_le fun q => h2 ((nI_leI (a := 4) (by decide) j1).mpr q)
theorem x_o34 (o : Int32) : 4 ≤ o ↔ 3 < o := x_le1 o 3 (by decide)
def x_t (dd oo : Nat) (w : Bool) : Nat := 2 ^ (dd - 1) * (if w = true then oo / 2 else oo % 2)
theorem x_tR {dd oo : Nat} (h1 : 1 ≤ dd) (h4 : dd ≤ 4) (ho : oo < 4) : x_sR (nI dd) (nI oo) = nI (x_t dd oo false) ∧ x_sD (nI dd) (nI oo) = nI (x_t dd oo true) ∧ x_sh (nI dd) (nI oo) 0 = nI (x_t dd oo false) ∧ x_sh (nI dd) (nI oo) 1 = nI (x_t dd oo true) ∧ x_t dd oo false < 2 ^ dd ∧ x_t dd oo true < 2 ^ dd := by
  match dd, h1, h4, oo, ho with
  | 1, _, _, 0, _ => decide
  | 1, _, _, 1, _ => decide
  | 1, _, _, 2, _ => decide
  | 1, _, _, 3, _ => decide
  | 2, _, _, 0, _ => decide
  | 2, _, _, 1, _ => decide
  | 2, _, _, 2, _ => decide
  | 2, _, _, 3, _ => decide
  | 3, _, _, 0, _ => decide
  | 3, _, _, 1, _ => decide
  | 3, _, _, 2, _ => decide
  | 3, _, _, 3, _ => decide
  | 4, _, _, 0, _ => decide
  | 4, _, _, 1, _ => decide
  | 4, _, _, 2, _ => decide
  | 4, _, _, 3, _ => decide
theorem x_shw (d o w : Int32) : x_sh d o w = if w = 0 then x_sh d o 0 else x_sh d o 1 := by
  unfold x_sh
  by_cases h : w = 0
  · rw [if_pos h, if_pos h, if_pos rfl]
  · rw [if_neg h, if_neg h, if_neg (by decide)]
theorem x_lf_cs {x p t : Nat} (hp : p ≤ 4) (hx : x ≤ 3000) (ht : t < 2 ^ p) : x_lf (nI x) (nI p) (nI t) = nI (x_cs x t p) := by
  rw [x_lfN hp hx ht]
  congr 1
  unfold x_cs x_cd
  by_cases h : t ≤ x
  · congr 1
    omega
  · rw [show x - t = 0 by omega, Nat.zero_add, Nat.div_eq_of_lt (by omega), Nat.div_eq_of_lt (by omega)]
theorem x_am_ram (v : Int32) : x_am v = x_ram v := by
  unfold x_am x_ram
  have e0 : (0 : Int64).toInt = 0 := by decide
  have e1 : (0 : Int32).toInt = 0 := by decide
  by_cases h : v = 0
  · subst h
    rfl
  · have h9 : ¬ v.toInt = 0 := fun q => h (Int32.toInt_inj.mp (by rw [q, e1]))
    by_cases h2 : 0 ≤ v
    · rw [if_pos h2, if_pos]
      rw [Int64.lt_iff_toInt_lt, e0, Int32.toInt_toInt64]
      rw [Int32.le_iff_toInt_le, e1] at h2
      omega
    · rw [if_neg h2, if_neg]
      rw [Int64.lt_iff_toInt_lt, e0, Int32.toInt_toInt64]
      rw [Int32.le_iff_toInt_le, e1] at h2
      omega
theorem x_th_rth (v t : Int32) : x_th v t = x_rth v t := by
  unfold x_th x_rth
  rw [x_am_ram]
  by_cases h : lg_cmp (x_ram v / t.toInt64) 0 = 0
  · rw [if_pos h, if_pos h]
    by_cases h2 : 0 ≤ v
    · rw [if_pos h2]; rfl
    · rw [if_neg h2]; rfl
  · rw [if_neg h, if_neg h]
end PU
end
section
def x_K (l : Launch) (yT : x_M) (fT lT : Nat) (yR : x_M) (fR lR : Nat) (ad : Nat → Nat) (D : va_G) (cI : ClassId) (av : List Value) (sc : Nat → Int32) (ar : Nat → Nat → Int32) (r : Value) : Prop :=
  x_Con l yT fT lT ad D cI (.ref (ad 0) :: av) sc ar (fun r' sc' ar' => r' = some r ∧ x_Con l yR fR lR ad D cI (.ref (ad 7) :: av) sc' ar' (fun r2 sc2 ar2 => r2 = some r ∧ x_IN sc2 ar2))
section KR
variable {l : Launch} {ad : Nat → Nat} {D : va_G} {cI : ClassId} {sc : Nat → Int32} {ar : Nat → Nat → Int32}
theorem x_Kread {yT yR : x_M} {fT lT fR lR : Nat} {av : List Value} {r r2 : Value} (hT : x_Con l yT fT lT ad D cI (.ref (ad 0) :: av) sc ar (x_E (some r) sc ar)) (hR : x_Con l yR fR lR ad D cI (.ref (ad 7) :: av) sc ar (x_E (some r2) sc ar)) (e : r = r2) (hN : x_IN sc ar) : x_K l yT fT lT yR fR lR ad D cI av sc ar r := by
  refine hT.post ?_
  rintro _ _ _ ⟨rfl, rfl, rfl⟩
  refine ⟨rfl, hR.post ?_⟩
  rintro _ _ _ ⟨rfl, rfl, rfl⟩
  exact ⟨by rw [e], hN⟩
theorem k_at (hd : x_dis ad) (hN : x_IN sc ar) (pl u v : Int32) : ∃ r, x_K l M_T_at 2 47 M_R_at 1 23 ad D cI [.int pl, .int u, .int v] sc ar (.int r) := by
  have hN' := hN
  obtain ⟨th, mx, lf, tp, ww, hh, p0, f, kk, hP, hT, hR⟩ := hN'
  refine ⟨_, x_Kread (c_T_at hd (x_cp_vp hP hT)) (c_R_at hd (x_rc_vp hP hR)) (congrArg Value.int ?_) hN⟩
  have eu : u.toInt64.toInt = u.toInt := Int32.toInt_toInt64 u
  have ev : v.toInt64.toInt = v.toInt := Int32.toInt_toInt64 v
  by_cases h : x_Pl pl u.toInt v.toInt lf tp ww hh
  · have h' : x_Pl pl u.toInt64.toInt v.toInt64.toInt lf tp ww hh := by rw [eu, ev]; exact h
    rw [if_neg (x_cp_ne hP hT h'), if_pos ((x_rp_iff hP hR).mpr h), x_cp_in hP hT h', x_rc_in hP hR h, eu, ev, hT.2.2.2.2.2.2.1, hR.2.2.2.2.2.2.2.1]
  · have h' : ¬ x_Pl pl u.toInt64.toInt v.toInt64.toInt lf tp ww hh := by rw [eu, ev]; exact h
    rw [if_pos (x_cp_out hP hT h'), if_neg (fun q => h ((x_rp_iff hP hR).mp q))]
theorem k_mixed (hd : x_dis ad) (hN : x_IN sc ar) : ∃ r, x_K l M_T_mixed 0 0 M_R_mixed 0 0 ad D cI [] sc ar (.int r) := by
  have hN' := hN
  obtain ⟨th, mx, lf, tp, ww, hh, p0, f, kk, hP, hT, hR⟩ := hN'
  exact ⟨_, x_Kread (c_T_mixed hd (by rw [hT.2.2.2.2.2.1]; exact hP.2.2.2.2.2.1)) (c_R_mixed hd (by rw [hR.2.2.2.2.2.1]; exact hP.2.2.2.2.2.1)) (by rw [hT.2.2.2.2.2.1, hR.2.2.2.2.2.1]) hN⟩
theorem k_levels (hd : x_dis ad) (hN : x_IN sc ar) : ∃ r, x_K l M_T_levels 0 0 M_R_levels 0 0 ad D cI [] sc ar (.int r) := by
  have hN' := hN
  obtain ⟨th, mx, lf, tp, ww, hh, p0, f, kk, hP, hT, hR⟩ := hN'
  exact ⟨_, x_Kread (c_T_levels hd) (c_R_levels hd) (by rw [hT.2.2.2.2.1, hR.2.2.2.2.2.2.1]) hN⟩
theorem x_kvp {d : Int32} {n : Nat} (hn : n ≤ 4) : ¬ d < 1 ∧ ¬ nI n < d → vp_in (d - 1) 4 := by
  rintro ⟨h1, h2⟩
  obtain ⟨dd, rfl, g1, g2⟩ := x_lvl (by omega) h1 h2
  have e : nI dd - 1 = nI (dd - 1) := pk_sub (b := 1) g1
  rw [e]
  exact vp_in_nI (by omega) (by decide)
theorem k_kernel (hd : x_dis ad) (hN : x_IN sc ar) (d : Int32) : ∃ r, x_K l M_T_kernel 1 21 M_R_kernel 1 21 ad D cI [.int d] sc ar (.int r) := by
  have hN' := hN
  obtain ⟨th, mx, lf, tp, ww, hh, p0, f, kk, hP, hT, hR⟩ := hN'
  refine ⟨_, x_Kread (c_T_kernel hd (by rw [hT.2.2.2.2.1]; exact x_kvp hP.2.2.2.2.1)) (c_R_kernel hd (by rw [hR.2.2.2.2.2.2.1]; exact x_kvp hP.2.2.2.2.1)) ?_ hN⟩
  rw [hT.2.2.2.2.1, hR.2.2.2.2.2.2.1, hT.2.2.2.2.2.2.2, hR.2.2.2.2.2.2.2.2]
theorem x_tile {th mx : Int32} {lf tp ww hh p0 : Nat} {f kk : Nat → Int32} (hP : x_IP th mx lf tp ww hh p0 f) (hT : x_IT mx lf tp ww hh p0 f kk sc ar) (hR : x_IR th mx lf tp ww hh p0 f kk sc ar) : ¬ sc 3 ≤ 0 ↔ ¬ sc 8 = 0 := by
  rw [hT.2.1, hR.1]
  have e : (0 : Int32) = nI 0 := rfl
  rcases hP.2.2.2.2.2.2.1 with ⟨c1, c2, -⟩ | ⟨c1, c2, -⟩
  · rw [c1, e, nI_leI (by have := hP.2.2.1; omega) (by decide)]
    constructor
    · intro _; decide
    · intro _; omega
  · rw [c1, c2]
    decide
theorem x_bdiff {th mx : Int32} {lf tp ww hh p0 : Nat} {f kk : Nat → Int32} {d o : Int32} (hP : x_IP th mx lf tp ww hh p0 f) (hT : x_IT mx lf tp ww hh p0 f kk sc ar) (hR : x_IR th mx lf tp ww hh p0 f kk sc ar) : (¬ sc 3 ≤ 0 ∧ (¬ d < 1 ∧ ¬ 4 < d) ∧ (¬ o < 0 ∧ ¬ 4 ≤ o)) ↔ x_bd sc d o := by
  unfold x_bd
  rw [x_tile hP hT hR, x_o34 o]
  constructor
  · rintro ⟨a, ⟨b, c⟩, e⟩; exact ⟨a, b, c, e⟩
  · rintro ⟨a, b, c, e⟩; exact ⟨a, ⟨b, c⟩, e⟩
theorem x_DNw {d o w : Int32} (h1 : ¬ d < 1) (h2 : ¬ 4 < d) (h3 : ¬ o < 0) (h4 : ¬ 4 ≤ o) : ∃ dd oo : Nat, d = nI dd ∧ o = nI oo ∧ oo < 4 ∧ 1 ≤ dd ∧ dd ≤ 4 ∧ x_DN d o w dd (x_t dd oo (!decide (w = 0))) := by
  obtain ⟨dd, e1, g1, g2⟩ := x_lvl (n := 4) (by decide) h1 h2
  obtain ⟨oo, e2, g3⟩ := x_bnd h3 h4
  subst e1
  subst e2
  obtain ⟨t1, t2, t3, t4, t5, t6⟩ := x_tR g1 g2 g3
  refine ⟨dd, oo, rfl, rfl, g3, g1, g2, rfl, g1, g2, ?_, ?_⟩
  · rw [x_shw]
    by_cases hw : w = 0
    · rw [if_pos hw, t3]; simp [hw]
    · rw [if_neg hw, t4]; simp [hw]
  · by_cases hw : w = 0
    · simp only [hw, decide_true, Bool.not_true]; exact t5
    · simp only [hw, decide_false, Bool.not_false]; exact t6
theorem k_start (hd : x_dis ad) (hN : x_IN sc ar) (d o w : Int32) : ∃ r, x_K l M_T_start 2 44 M_R_start 3 68 ad D cI [.int d, .int o, .int w] sc ar (.int r) := by
  have hN' := hN
  obtain ⟨th, mx, lf, tp, ww, hh, p0, f, kk, hP, hT, hR⟩ := hN'
  have hif := x_bdiff (d := d) (o := o) hP hT hR
  by_cases hc : x_bd sc d o
  · obtain ⟨dd, oo, e1, e2, g3, g1, g2, hD⟩ := x_DNw (w := w) hc.2.1 hc.2.2.1 hc.2.2.2.1 (fun q => hc.2.2.2.2 ((x_o34 o).mp q))
    refine ⟨_, x_Kread (c_T_start hd) (c_R_start hd (fun _ => ⟨hD, hR.2.1, hR.2.2.1, hP.1, hP.2.1⟩)) (congrArg Value.int ?_) hN⟩
    rw [if_pos (hif.mpr hc), if_pos hc]
    subst e1
    subst e2
    obtain ⟨t1, t2, t3, t4, t5, t6⟩ := x_tR g1 g2 g3
    have b1 := hP.1
    have b2 := hP.2.1
    by_cases hw : w = 0
    · rw [if_pos hw, if_pos hw, t1, hT.1, x_lf_cs g2 (by omega) t5]; simp [hw]
    · rw [if_neg hw, if_neg hw, t2, hT.2.2.1, x_lf_cs g2 (by omega) t6]; simp [hw]
  · refine ⟨_, x_Kread (c_T_start hd) (c_R_start (dd := 0) (t := 0) (lf := 0) (tp := 0) hd (fun q => absurd q hc)) (congrArg Value.int ?_) hN⟩
    rw [if_neg (fun q => hc (hif.mp q)), if_neg hc]
theorem k_size (hd : x_dis ad) (hN : x_IN sc ar) (d o w : Int32) : ∃ r, x_K l M_T_size 2 44 M_R_size 2 43 ad D cI [.int d, .int o, .int w] sc ar (.int r) := by
  have hN' := hN
  obtain ⟨th, mx, lf, tp, ww, hh, p0, f, kk, hP, hT, hR⟩ := hN'
  have hif := x_bdiff (d := d) (o := o) hP hT hR
  by_cases hc : x_bd sc d o
  · obtain ⟨dd, oo, e1, e2, g3, g1, g2, hD⟩ := x_DNw (w := w) hc.2.1 hc.2.2.1 hc.2.2.2.1 (fun q => hc.2.2.2.2 ((x_o34 o).mp q))
    refine ⟨_, x_Kread (c_T_size hd) (c_R_size hd (fun _ => ⟨hD, hR.2.1, hR.2.2.1, hR.2.2.2.1, hR.2.2.2.2.1, hP.1, hP.2.1, hP.2.2.1, hP.2.2.2.1⟩)) (congrArg Value.int ?_) hN⟩
    rw [if_pos (hif.mpr hc), if_pos hc]
    subst e1
    subst e2
    obtain ⟨t1, t2, t3, t4, t5, t6⟩ := x_tR g1 g2 g3
    obtain ⟨b1, b2, b3, b4, -⟩ := hP
    by_cases hw : w = 0
    · rw [if_pos hw, if_pos hw, t1, hT.1, hT.2.1, nI_add, x_lf_cs g2 (by omega) t5, x_lf_cs g2 (by omega) t5, pk_sub (x_cs_mono (by omega))]; simp [hw]
    · rw [if_neg hw, if_neg hw, t2, hT.2.2.1, hT.2.2.2.1, nI_add, x_lf_cs g2 (by omega) t6, x_lf_cs g2 (by omega) t6, pk_sub (x_cs_mono (by omega))]; simp [hw]
  · refine ⟨_, x_Kread (c_T_size hd) (c_R_size (dd := 0) (t := 0) (lf := 0) (tp := 0) (ww := 0) (hh := 0) hd (fun q => absurd q hc)) (congrArg Value.int ?_) hN⟩
    rw [if_neg (fun q => hc (hif.mp q)), if_neg hc]
theorem x_XX {u : Int32} {dd t : Nat} (g1 : 1 ≤ dd) (g2 : dd ≤ 4) (ht : t < 2 ^ dd) : (u.toInt64 <<< ((nI dd).toInt64 &&& 63) + (nI t).toInt64).toInt = u.toInt * 2 ^ dd + t ∧ (2 * ((1 : Int32) <<< ((nI dd - 1) &&& 31)).toInt64 * u.toInt64 + (nI t).toInt64).toInt = u.toInt * 2 ^ dd + t := by
  have a1 := u.le_toInt
  have a2 := u.toInt_lt
  have eu : u.toInt64.toInt = u.toInt := Int32.toInt_toInt64 u
  have ht2 : t < 16 := Nat.lt_of_lt_of_le ht (x_p24 g2)
  have et : (nI t).toInt64.toInt = (t : Int) := x_nIl (by omega)
  clear ht
  match dd, g1, g2 with
  | 1, _, _ =>
    have e2 : (2 * ((1 : Int32) <<< ((nI 1 - 1) &&& 31)).toInt64).toInt = 2 := by decide
    have e1 : (u.toInt64 <<< ((nI 1).toInt64 &&& 63)).toInt = u.toInt * 2 := by
      rw [Jvm.Kit.i64_shl (k := 1) _ _ (by decide) (by rw [eu]; omega) (by rw [eu]; omega), eu]; rfl
    have e3 : (2 * ((1 : Int32) <<< ((nI 1 - 1) &&& 31)).toInt64 * u.toInt64).toInt = 2 * u.toInt := by
      rw [Jvm.Kit.i64_mul (by rw [e2, eu]; omega) (by rw [e2, eu]; omega), e2, eu]
    constructor
    · rw [Jvm.Kit.i64_add (by rw [e1, et]; omega) (by rw [e1, et]; omega), e1, et]; rfl
    · rw [Jvm.Kit.i64_add (by rw [e3, et]; omega) (by rw [e3, et]; omega), e3, et, Int.mul_comm]; rfl
  | 2, _, _ =>
    have e2 : (2 * ((1 : Int32) <<< ((nI 2 - 1) &&& 31)).toInt64).toInt = 4 := by decide
    have e1 : (u.toInt64 <<< ((nI 2).toInt64 &&& 63)).toInt = u.toInt * 4 := by
      rw [Jvm.Kit.i64_shl (k := 2) _ _ (by decide) (by rw [eu]; omega) (by rw [eu]; omega), eu]; rfl
    have e3 : (2 * ((1 : Int32) <<< ((nI 2 - 1) &&& 31)).toInt64 * u.toInt64).toInt = 4 * u.toInt := by
      rw [Jvm.Kit.i64_mul (by rw [e2, eu]; omega) (by rw [e2, eu]; omega), e2, eu]
    constructor
    · rw [Jvm.Kit.i64_add (by rw [e1, et]; omega) (by rw [e1, et]; omega), e1, et]; rfl
    · rw [Jvm.Kit.i64_add (by rw [e3, et]; omega) (by rw [e3, et]; omega), e3, et, Int.mul_comm]; rfl
  | 3, _, _ =>
    have e2 : (2 * ((1 : Int32) <<< ((nI 3 - 1) &&& 31)).toInt64).toInt = 8 := by decide
    have e1 : (u.toInt64 <<< ((nI 3).toInt64 &&& 63)).toInt = u.toInt * 8 := by
      rw [Jvm.Kit.i64_shl (k := 3) _ _ (by decide) (by rw [eu]; omega) (by rw [eu]; omega), eu]; rfl
    have e3 : (2 * ((1 : Int32) <<< ((nI 3 - 1) &&& 31)).toInt64 * u.toInt64).toInt = 8 * u.toInt := by
      rw [Jvm.Kit.i64_mul (by rw [e2, eu]; omega) (by rw [e2, eu]; omega), e2, eu]
    constructor
    · rw [Jvm.Kit.i64_add (by rw [e1, et]; omega) (by rw [e1, et]; omega), e1, et]; rfl
    · rw [Jvm.Kit.i64_add (by rw [e3, et]; omega) (by rw [e3, et]; omega), e3, et, Int.mul_comm]; rfl
  | 4, _, _ =>
    have e2 : (2 * ((1 : Int32) <<< ((nI 4 - 1) &&& 31)).toInt64).toInt = 16 := by decide
    have e1 : (u.toInt64 <<< ((nI 4).toInt64 &&& 63)).toInt = u.toInt * 16 := by
      rw [Jvm.Kit.i64_shl (k := 4) _ _ (by decide) (by rw [eu]; omega) (by rw [eu]; omega), eu]; rfl
    have e3 : (2 * ((1 : Int32) <<< ((nI 4 - 1) &&& 31)).toInt64 * u.toInt64).toInt = 16 * u.toInt := by
      rw [Jvm.Kit.i64_mul (by rw [e2, eu]; omega) (by rw [e2, eu]; omega), e2, eu]
    constructor
    · rw [Jvm.Kit.i64_add (by rw [e1, et]; omega) (by rw [e1, et]; omega), e1, et]; rfl
    · rw [Jvm.Kit.i64_add (by rw [e3, et]; omega) (by rw [e3, et]; omega), e3, et, Int.mul_comm]; rfl
theorem k_coefficient (hd : x_dis ad) (hN : x_IN sc ar) (pl d o u v : Int32) : ∃ r, x_K l M_T_coefficient 3 76 M_R_coefficient 2 46 ad D cI [.int pl, .int d, .int o, .int u, .int v] sc ar (.int r) := by
  have hN' := hN
  obtain ⟨th, mx, lf, tp, ww, hh, p0, f, kk, hP, hT, hR⟩ := hN'
  refine ⟨_, x_Kread (c_T_coefficient hd (x_cp_vp hP hT)) (c_R_coefficient hd (fun _ _ => x_rc_vp hP hR)) (congrArg Value.int ?_) hN⟩
  have e3 : (3 : Int32) ≤ pl ↔ (2 : Int32) < pl := x_le1 pl 2 (by decide)
  have o34 := x_o34 o
  rw [hT.2.2.2.2.1, hR.2.2.2.2.2.2.1]
  by_cases hc : (¬ d < 1 ∧ ¬ nI p0 < d) ∧ (¬ o < 0 ∧ ¬ 4 ≤ o)
  · rw [if_pos hc]
    obtain ⟨dd, e1, g1, g2⟩ := x_lvl (by have := hP.2.2.2.2.1; omega) hc.1.1 hc.1.2
    obtain ⟨oo, e2, g4⟩ := x_bnd hc.2.1 hc.2.2
    have g3 : dd ≤ 4 := Nat.le_trans g2 hP.2.2.2.2.1
    subst e1
    subst e2
    obtain ⟨t1, t2, t3, t4, t5, t6⟩ := x_tR g1 g3 g4
    obtain ⟨eX, eX'⟩ := x_XX (u := u) g1 g3 t5
    obtain ⟨eY, eY'⟩ := x_XX (u := v) g1 g3 t6
    have h16 := x_p24 g3
    unfold x_cc
    rw [t1, t2]
    have hX : x_rX (nI dd) (nI oo) u = u.toInt64 <<< ((nI dd).toInt64 &&& 63) + (nI (x_t dd oo false)).toInt64 := by
      unfold x_rX
      rw [t3]
      exact Int64.toInt_inj.mp (by rw [eX, eX'])
    have hY : x_rY (nI dd) (nI oo) v = v.toInt64 <<< ((nI dd).toInt64 &&& 63) + (nI (x_t dd oo true)).toInt64 := by
      unfold x_rY
      rw [t4]
      exact Int64.toInt_inj.mp (by rw [eY, eY'])
    rw [hX, hY]
    generalize u.toInt64 <<< ((nI dd).toInt64 &&& 63) + (nI (x_t dd oo false)).toInt64 = P1
    generalize v.toInt64 <<< ((nI dd).toInt64 &&& 63) + (nI (x_t dd oo true)).toInt64 = P2
    have z0 : (0 : Int64).toInt = 0 := by decide
    have z2 : (2000 : Int64).toInt = 2000 := by decide
    have hnear : (¬ lg_cmp P1 0 < 0 ∧ ¬ 0 < lg_cmp P1 2000 ∧ ¬ lg_cmp P2 0 < 0 ∧ lg_cmp P2 2000 ≤ 0) ↔ (¬ P1.toInt < 0 ∧ ¬ 2000 < P1.toInt ∧ ¬ P2.toInt < 0 ∧ P2.toInt ≤ 2000) := by
      rw [(x_cmpc P1 0).1, (x_cmpc P1 2000).2.2.1, (x_cmpc P2 0).1, (x_cmpc P2 2000).2.2.2.1, z0, z2]
    obtain ⟨b1, b2, b3, b4, -⟩ := id hP
    by_cases hp : x_Pl pl P1.toInt P2.toInt lf tp ww hh
    · have hpl : ¬ pl < 0 ∧ ¬ 2 < pl := ⟨hp.1.1, fun q => hp.1.2 (e3.mpr q)⟩
      have q1 : P1.toInt32.toInt = P1.toInt := Jvm.Kit.i32_of_i64 (by have := hp.2; omega) (by have := hp.2; omega)
      have q2 : P2.toInt32.toInt = P2.toInt := Jvm.Kit.i32_of_i64 (by have := hp.2; omega) (by have := hp.2; omega)
      have hp' : x_Pl pl P1.toInt32.toInt P2.toInt32.toInt lf tp ww hh := by rw [q1, q2]; exact hp
      rw [if_neg (x_cp_ne hP hT hp), if_pos ⟨hc.1, ⟨hc.2.1, fun q => hc.2.2 (o34.mpr q)⟩, hpl⟩, if_pos (hnear.mpr (by have := hp.2; omega)), if_pos ((x_rp_iff hP hR).mpr hp'), x_cp_in hP hT hp, x_rc_in hP hR hp', q1, q2, hT.2.2.2.2.2.2.1, hR.2.2.2.2.2.2.2.1]
    · rw [if_pos (x_cp_out hP hT hp)]
      by_cases hq : (¬ nI dd < 1 ∧ ¬ nI p0 < nI dd) ∧ (¬ nI oo < 0 ∧ ¬ 3 < nI oo) ∧ (¬ pl < 0 ∧ ¬ 2 < pl)
      · rw [if_pos hq]
        by_cases hn : ¬ P1.toInt < 0 ∧ ¬ 2000 < P1.toInt ∧ ¬ P2.toInt < 0 ∧ P2.toInt ≤ 2000
        · rw [if_pos (hnear.mpr hn), if_neg]
          intro h
          have h2 := (x_rp_iff hP hR).mp h
          have q1 : P1.toInt32.toInt = P1.toInt := Jvm.Kit.i32_of_i64 (by omega) (by omega)
          have q2 : P2.toInt32.toInt = P2.toInt := Jvm.Kit.i32_of_i64 (by omega) (by omega)
          rw [q1, q2] at h2
          exact hp h2
        · rw [if_neg (fun q => hn (hnear.mp q))]
      · rw [if_neg hq]
  · rw [if_neg hc, if_neg (fun q => hc ⟨q.1, q.2.1.1, fun z => q.2.1.2 (o34.mp z)⟩)]
end KR
end
section
theorem x_Z_fl {ww hh : Nat} {f : Nat → Int32} : x_Z ww hh (x_fl f 0 768) := by
  intro i hi _
  unfold x_fl
  rw [if_pos hi]
theorem x_mx_Z {ww hh k : Nat} {f : Nat → Int32} (hZ : x_Z ww hh f) (hk : k < 256) : x_Z ww hh (x_mx f k) := by
  intro i hi ho
  unfold x_mx upd
  by_cases h1 : i = k + 512
  · rw [if_pos h1, hZ k (by omega) (by omega), hZ (k + 256) (by omega) (by omega)]; rfl
  · rw [if_neg h1]
    by_cases h2 : i = k + 256
    · rw [if_pos h2, hZ (k + 512) (by omega) (by omega), hZ (k + 256) (by omega) (by omega)]; rfl
    · rw [if_neg h2]
      by_cases h3 : i = k
      · rw [if_pos h3, hZ k (by omega) (by omega), hZ (k + 256) (by omega) (by omega), hZ (k + 512) (by omega) (by omega)]; decide
      · rw [if_neg h3]; exact hZ i hi ho
theorem x_um_Z {ww hh k : Nat} {f : Nat → Int32} (hZ : x_Z ww hh f) (hk : k < 256) : x_Z ww hh (x_um f k) := by
  intro i hi ho
  unfold x_um upd
  by_cases h1 : i = k + 512
  · rw [if_pos h1, hZ k (by omega) (by omega), hZ (k + 256) (by omega) (by omega), hZ (k + 512) (by omega) (by omega)]; decide
  · rw [if_neg h1]
    by_cases h2 : i = k + 256
    · rw [if_pos h2, hZ k (by omega) (by omega), hZ (k + 512) (by omega) (by omega), hZ (k + 256) (by omega) (by omega)]; decide
    · rw [if_neg h2]
      by_cases h3 : i = k
      · rw [if_pos h3, hZ k (by omega) (by omega), hZ (k + 256) (by omega) (by omega), hZ (k + 512) (by omega) (by omega)]; decide
      · rw [if_neg h3]; exact hZ i hi ho
theorem x_mxs_Z {ww hh : Nat} {f : Nat → Int32} (hZ : x_Z ww hh f) : ∀ n, n ≤ 256 → x_Z ww hh (x_mxs f n)
  | 0, _ => hZ
  | n + 1, h => x_mx_Z (x_mxs_Z hZ n (by omega)) (by omega)
theorem x_ums_Z {ww hh : Nat} {f : Nat → Int32} (hZ : x_Z ww hh f) : ∀ n, n ≤ 256 → x_Z ww hh (x_ums f n)
  | 0, _ => hZ
  | n + 1, h => x_um_Z (x_ums_Z hZ n (by omega)) (by omega)
theorem x_upd_Z {ww hh j : Nat} {f : Nat → Int32} {y : Int32} (hZ : x_Z ww hh f) (h1 : j % 16 < ww) (h2 : j / 16 % 16 < hh) : x_Z ww hh (upd f j y) := by
  intro i hi ho
  have hne : i ≠ j := by
    intro e
    rw [e] at ho
    omega
  rw [pk_un hne]
  exact hZ i hi ho
theorem x_wr_Z {ww hh c st : Nat} {f v : Nat → Int32} (hZ : x_Z ww hh f) : ∀ n, (∀ k, k < n → (c + k * st) % 16 < ww ∧ (c + k * st) / 16 % 16 < hh) → x_Z ww hh (x_wr f v c st n)
  | 0, _ => hZ
  | n + 1, h => x_upd_Z (x_wr_Z hZ n (fun k hk => h k (by omega))) (h n (by omega)).1 (h n (by omega)).2
theorem x_ix_in {q lf tp u v ww hh : Nat} (h1 : lf ≤ u) (h2 : u < lf + ww) (h3 : tp ≤ v) (h4 : v < tp + hh) (b3 : ww ≤ 16) (b4 : hh ≤ 16) : x_ix q lf tp u v % 16 < ww ∧ x_ix q lf tp u v / 16 % 16 < hh := by
  unfold x_ix
  omega
theorem x_it_Z {ww hh : Nat} {G : Nat → (Nat → Int32) → Nat → Int32} {f : Nat → Int32} (hZ : x_Z ww hh f) : ∀ n, (∀ k g, k < n → x_Z ww hh g → x_Z ww hh (G k g)) → x_Z ww hh (x_it G f n)
  | 0, _ => hZ
  | n + 1, h => h n _ (by omega) (x_it_Z hZ n (fun k g hk hg => h k g (by omega) hg))
theorem x_C1_Z {fwd : Bool} {kn : Int32} {q p lf tp ww hh : Nat} {f : Nat → Int32} (hp : p ≤ 3) (b3 : ww ≤ 16) (b4 : hh ≤ 16) (hZ : x_Z ww hh f) : x_Z ww hh (x_C1 fwd kn q p lf tp ww hh f) := by
  refine x_it_Z hZ _ (fun k g hk hg => x_wr_Z hg _ (fun i hi => ?_))
  have ga : tp ≤ x_cd tp p * 2 ^ p := x_cd_le.mp (Nat.le_refl _)
  have e : x_lc q p tp 16 lf 1 k + i * (16 * 2 ^ p) = x_ix q lf tp ((x_cd lf p + k) * 2 ^ p) ((x_cd tp p + i) * 2 ^ p) := by
    rw [x_ixc hp ga]
    unfold x_lc
    rw [Nat.mul_one]
  rw [e]
  exact x_ix_in (x_cd_le.mp (by omega)) (x_cd_lt.mpr (by omega)) (x_cd_le.mp (by omega)) (x_cd_lt.mpr (by omega)) b3 b4
theorem x_R1_Z {fwd : Bool} {kn : Int32} {q p lf tp ww hh : Nat} {f : Nat → Int32} (hp : p ≤ 3) (b3 : ww ≤ 16) (b4 : hh ≤ 16) (hZ : x_Z ww hh f) : x_Z ww hh (x_R1 fwd kn q p lf tp ww hh f) := by
  refine x_it_Z hZ _ (fun k g hk hg => x_wr_Z hg _ (fun i hi => ?_))
  have ga : lf ≤ x_cd lf p * 2 ^ p := x_cd_le.mp (Nat.le_refl _)
  have e : x_lc q p lf 1 tp 16 k + i * (1 * 2 ^ p) = x_ix q lf tp ((x_cd lf p + i) * 2 ^ p) ((x_cd tp p + k) * 2 ^ p) := by
    rw [x_ixr hp ga]
    unfold x_lc
    rfl
  rw [e]
  exact x_ix_in (x_cd_le.mp (by omega)) (x_cd_lt.mpr (by omega)) (x_cd_le.mp (by omega)) (x_cd_lt.mpr (by omega)) b3 b4
theorem x_FW_Z {kn : Int32} {p lf tp ww hh : Nat} {f : Nat → Int32} (hp : p ≤ 3) (b3 : ww ≤ 16) (b4 : hh ≤ 16) (hZ : x_Z ww hh f) : ∀ q, x_Z ww hh (x_FW kn p lf tp ww hh f q)
  | 0 => hZ
  | q + 1 => x_R1_Z hp b3 b4 (x_C1_Z hp b3 b4 (x_FW_Z hp b3 b4 hZ q))
theorem x_BK_Z {kn : Int32} {p lf tp ww hh : Nat} {f : Nat → Int32} (hp : p ≤ 3) (b3 : ww ≤ 16) (b4 : hh ≤ 16) (hZ : x_Z ww hh f) : ∀ q, x_Z ww hh (x_BK kn p lf tp ww hh f q)
  | 0 => hZ
  | q + 1 => x_C1_Z hp b3 b4 (x_R1_Z hp b3 b4 (x_BK_Z hp b3 b4 hZ q))
theorem x_th0 (t : Int32) : x_th 0 t = 0 := by
  unfold x_th
  rw [if_pos]
  rw [(x_cmpc _ 0).2.2.2.2]
  have e : x_am 0 = 0 := by decide
  rw [e]
  apply Int64.toInt_inj.mp
  rw [Jvm.Kit.i64_div (by intro h; exact absurd h.1 (by decide))]
  have e0 : (0 : Int64).toInt = 0 := by decide
  rw [e0, Int.zero_tdiv]
theorem x_tf_Z {ww hh : Nat} {cb : Nat → Bool} {g : Int32 → Int32} {f : Nat → Int32} (hg : g 0 = 0) (hZ : x_Z ww hh f) (n : Nat) : x_Z ww hh (x_tf cb g f n) := by
  intro i hi ho
  have h0 := hZ i hi ho
  unfold x_tf
  by_cases h : i < n ∧ cb i = true
  · rw [if_pos h, h0, hg]
  · rw [if_neg h, h0]
theorem x_tf_eq {ww hh : Nat} {cb cb2 : Nat → Bool} {g : Int32 → Int32} {f : Nat → Int32} (hg : g 0 = 0) (hZ : x_Z ww hh f) (hc : ∀ i, i < 768 → (cb2 i = true ↔ (i % 16 < ww ∧ i / 16 % 16 < hh) ∧ cb i = true)) : x_tf cb g f 768 = x_tf cb2 g f 768 := by
  funext i
  unfold x_tf
  by_cases hi : i < 768
  · by_cases ho : i % 16 < ww ∧ i / 16 % 16 < hh
    · by_cases h : cb i = true
      · rw [if_pos ⟨hi, h⟩, if_pos ⟨hi, (hc i hi).mpr ⟨ho, h⟩⟩]
      · rw [if_neg (fun q => h q.2), if_neg (fun q => h ((hc i hi).mp q.2).2)]
    · have h0 := hZ i hi (by omega)
      by_cases h : cb i = true
      · rw [if_pos ⟨hi, h⟩, if_neg (fun q => ho ((hc i hi).mp q.2).1), h0, hg]
      · rw [if_neg (fun q => h q.2), if_neg (fun q => ho ((hc i hi).mp q.2).1)]
  · rw [if_neg (fun q => hi q.1), if_neg (fun q => hi q.1)]
theorem x_tc_eq {ww hh : Nat} {cb cb2 : Nat → Bool} {g : Int32 → Int32} {f : Nat → Int32} (hZ : x_Z ww hh f) (hc : ∀ i, i < 768 → (cb2 i = true ↔ (i % 16 < ww ∧ i / 16 % 16 < hh) ∧ cb i = true)) : ∀ n, n ≤ 768 → x_tc cb g f n = x_tc cb2 g f n
  | 0, _ => rfl
  | n + 1, h => by
    show x_tc cb g f n + _ = x_tc cb2 g f n + _
    rw [x_tc_eq hZ hc n (by omega)]
    congr 1
    by_cases h0 : f n = 0
    · rw [if_neg (fun q => q.2.1 h0), if_neg (fun q => q.2.1 h0)]
    · have ho : n % 16 < ww ∧ n / 16 % 16 < hh := by
        refine Classical.byContradiction fun q => h0 (hZ n (by omega) (by omega))
      by_cases hb : cb n = true
      · have hb2 := (hc n (by omega)).mpr ⟨ho, hb⟩
        rw [hb, hb2]
      · have hb2 : ¬ cb2 n = true := fun q => hb ((hc n (by omega)).mp q).2
        rw [if_neg (fun q => hb q.1), if_neg (fun q => hb2 q.1)]
theorem x_osN {sc : Nat → Int32} {i dd oo lf tp : Nat} (hi : i < 768) (g2 : sc 2 = nI lf) (g4 : sc 4 = nI tp) (b1 : lf ≤ 1000) (b2 : tp ≤ 1000) (h1 : 1 ≤ dd) (h4 : dd ≤ 4) (ho : oo < 4) : x_os sc (nI i) (nI dd) (nI oo) ↔ ((lf + i % 16) % 2 ^ dd = x_t dd oo false ∧ (tp + i / 16 % 16) % 2 ^ dd = x_t dd oo true) := by
  obtain ⟨t1, t2, -, -, t5, t6⟩ := x_tR h1 h4 ho
  have h16 := x_p24 h4
  have hp := Nat.two_pow_pos dd
  have e16 : (16 : Int32) = nI 16 := rfl
  have m1 : nI i - nI i / 16 * 16 = nI (i % 16) := pk_rem (d := 16) (by omega) (by decide) (by decide)
  have m2 : nI i / 16 = nI (i / 16) := pk_div (d := 16) (by omega) (by decide) (by decide)
  have m3 : nI (i / 16) - nI (i / 16) / 16 * 16 = nI (i / 16 % 16) := pk_rem (d := 16) (by omega) (by decide) (by decide)
  have e1 : (1 : Int32) <<< (nI dd &&& 31) - 1 = nI (2 ^ dd - 1) := by
    have := x_shl (x := 1) h4 (by decide)
    rw [Nat.one_mul] at this
    have e9 : (1 : Int32) <<< (nI dd &&& 31) = nI (2 ^ dd) := this
    rw [e9]
    exact pk_sub (b := 1) hp
  have hm : (nI (2 ^ dd - 1)).toBitVec.toNat = 2 ^ dd - 1 := pk_tn (by omega)
  unfold x_os
  rw [m1, m2, m3, g2, g4, nI_add, nI_add, e1, pk_andN (by omega) dd hm, pk_andN (by omega) dd hm, t1, t2]
  have l1 := Nat.mod_lt (lf + i % 16) hp
  have l2 := Nat.mod_lt (tp + i / 16 % 16) hp
  rw [nI_eq (by omega) (by omega), nI_eq (by omega) (by omega)]
theorem x_mod_t {x t p : Nat} (hp : p ≤ 4) (ht : t < 2 ^ p) : ((x : Int) - t) % (2 ^ p : Nat) = 0 ↔ x % 2 ^ p = t := by
  match p, hp with
  | 0, _ => simp at ht ⊢; omega
  | 1, _ => simp at ht ⊢; omega
  | 2, _ => simp at ht ⊢; omega
  | 3, _ => simp at ht ⊢; omega
  | 4, _ => simp at ht ⊢; omega
theorem x_beN {x y dd oo : Nat} (hx : x ≤ 3000) (hy : y ≤ 3000) (h1 : 1 ≤ dd) (h4 : dd ≤ 4) (ho : oo < 4) : x_be (nI dd) (nI oo) (nI x) (nI y) ↔ (x % 2 ^ dd = x_t dd oo false ∧ y % 2 ^ dd = x_t dd oo true) := by
  obtain ⟨-, -, t3, t4, t5, t6⟩ := x_tR h1 h4 ho
  have h16 := x_p24 h4
  unfold x_be
  rw [t3, t4, x_stepN rfl h1 h4, ← zI_nI x, ← zI_nI y, ← zI_nI (x_t dd oo false), ← zI_nI (x_t dd oo true), zI_sub, zI_sub, x_iremz h4 (by omega) (by omega), x_iremz h4 (by omega) (by omega), x_mod_t h4 t5, x_mod_t h4 t6]
end
section
section KW
variable {l : Launch} {ad : Nat → Nat} {D : va_G} {cI : ClassId} {sc : Nat → Int32} {ar : Nat → Nat → Int32}
theorem k_open (hd : x_dis ad) (hN : x_IN sc ar) (l0 t0 w0 h0 : Int32) : ∃ r, x_K l M_T_open 1 23 M_R_open 0 0 ad D cI [.int l0, .int t0, .int w0, .int h0] sc ar (.int r) := by
  have hN' := hN
  obtain ⟨th, mx, lf, tp, ww, hh, p0, f, kk, hP, hT, hR⟩ := hN'
  by_cases hC : x_op l0 t0 w0 h0
  · refine ⟨1, (c_T_open hd).post ?_⟩
    intro r sc1 ar1 h
    try dsimp only at h
    rw [if_pos hC] at h
    obtain ⟨rfl, rfl, rfl⟩ := h
    refine ⟨rfl, (c_R_open hd).post ?_⟩
    intro r sc2 ar2 h
    try dsimp only at h
    rw [if_pos hC] at h
    obtain ⟨rfl, rfl, rfl⟩ := h
    refine ⟨rfl, ?_⟩
    obtain ⟨⟨a1, a2⟩, ⟨a3, a4⟩, ⟨a5, a6⟩, ⟨a7, a8⟩⟩ := hC
    obtain ⟨lf', c1, c2⟩ := nI_of a1
    obtain ⟨tp', c3, c4⟩ := nI_of a3
    obtain ⟨ww', c5, c6, c7⟩ := x_lvl (n := 16) (by decide) a5 a6
    obtain ⟨hh', d5, d6, d7⟩ := x_lvl (n := 16) (by decide) a7 a8
    subst c2 c4 c5 d5
    have b1 : lf' ≤ 1000 := Nat.le_of_not_lt fun q => a2 ((nI_ltI (a := 1000) (by decide) c1).mpr q)
    have b2 : tp' ≤ 1000 := Nat.le_of_not_lt fun q => a4 ((nI_ltI (a := 1000) (by decide) c3).mpr q)
    refine ⟨1, 0, lf', tp', ww', hh', 0, x_fl f 0 768, kk, ⟨b1, b2, c7, d7, by decide, Or.inl rfl, Or.inl ⟨rfl, by omega, by omega⟩, x_Z_fl⟩, ⟨rfl, rfl, rfl, rfl, rfl, rfl, ?_, hT.2.2.2.2.2.2.2⟩, ⟨rfl, rfl, rfl, rfl, rfl, rfl, rfl, ?_, hR.2.2.2.2.2.2.2.2⟩⟩
    · show x_fl (ar 0) 0 768 = _
      rw [hT.2.2.2.2.2.2.1]
    · show x_fl (ar 4) 0 768 = _
      rw [hR.2.2.2.2.2.2.2.1]
  · refine ⟨0, (c_T_open hd).post ?_⟩
    intro r sc1 ar1 h
    try dsimp only at h
    rw [if_neg hC] at h
    obtain ⟨rfl, rfl, rfl⟩ := h
    refine ⟨rfl, (c_R_open hd).post ?_⟩
    intro r sc2 ar2 h
    try dsimp only at h
    rw [if_neg hC] at h
    obtain ⟨rfl, rfl, rfl⟩ := h
    exact ⟨rfl, hN⟩
theorem k_put (hd : x_dis ad) (hN : x_IN sc ar) (pl u v z : Int32) : ∃ r, x_K l M_T_put 2 47 M_R_put 1 23 ad D cI [.int pl, .int u, .int v, .int z] sc ar (.int r) := by
  have hN' := hN
  obtain ⟨th, mx, lf, tp, ww, hh, p0, f, kk, hP, hT, hR⟩ := hN'
  have eu : u.toInt64.toInt = u.toInt := Int32.toInt_toInt64 u
  have ev : v.toInt64.toInt = v.toInt := Int32.toInt_toInt64 v
  have hz : z ≤ 32767 ↔ ¬ 32767 < z := Int32.not_lt.symm
  by_cases hC : x_Pl pl u.toInt v.toInt lf tp ww hh ∧ ¬ z < -32768 ∧ z ≤ 32767 ∧ ¬ 0 < nI p0 ∧ mx = 0
  · have h' : x_Pl pl u.toInt64.toInt v.toInt64.toInt lf tp ww hh := by rw [eu, ev]; exact hC.1
    have hCT : ¬ x_cp sc pl u.toInt64 v.toInt64 = -1 ∧ ¬ z < -32768 ∧ z ≤ 32767 ∧ ¬ 0 < sc 0 ∧ sc 1 = 0 := ⟨x_cp_ne hP hT h', hC.2.1, hC.2.2.1, by rw [hT.2.2.2.2.1]; exact hC.2.2.2.1, by rw [hT.2.2.2.2.2.1]; exact hC.2.2.2.2⟩
    refine ⟨1, (c_T_put hd (x_cp_vp hP hT)).post ?_⟩
    intro r sc1 ar1 h
    try dsimp only at h
    rw [if_pos hCT] at h
    obtain ⟨rfl, rfl, rfl⟩ := h
    have hR1 : x_IR th mx lf tp ww hh p0 f kk sc1 (x_ua ar 0 (upd (ar 0) (x_cp sc1 pl u.toInt64 v.toInt64).toNatClampNeg z)) := hR
    refine ⟨rfl, (c_R_put hd (x_rc_vp hP hR1)).post ?_⟩
    intro r sc2 ar2 h
    try dsimp only at h
    have hq := (x_rp_iff (pl := pl) (u := u) (v := v) hP hR1).mpr hC.1
    have hCR : (¬ pl < 0 ∧ ¬ 2 < pl) ∧ x_rp sc1 u v ∧ ¬ z < -32768 ∧ ¬ 32767 < z ∧ ¬ 0 < sc1 14 ∧ sc1 13 = 0 := ⟨hq.1, hq.2, hC.2.1, hz.mp hC.2.2.1, by rw [hR.2.2.2.2.2.2.1]; exact hC.2.2.2.1, by rw [hR.2.2.2.2.2.1]; exact hC.2.2.2.2⟩
    rw [if_pos hCR] at h
    obtain ⟨rfl, rfl, rfl⟩ := h
    refine ⟨rfl, ?_⟩
    have hlt := x_pi_lt hC.1 hP.2.2.1 hP.2.2.2.1
    have e1 : (x_cp sc2 pl u.toInt64 v.toInt64).toNatClampNeg = x_pi pl u.toInt v.toInt lf tp := by
      rw [x_cp_in hP hT h', nI_clamp (by rw [eu, ev]; omega), eu, ev]
    have e2 : (x_rc sc2 pl u v).toNatClampNeg = x_pi pl u.toInt v.toInt lf tp := by
      rw [x_rc_in hP hR1 hC.1, nI_clamp (by omega)]
    refine ⟨th, mx, lf, tp, ww, hh, p0, upd f (x_pi pl u.toInt v.toInt lf tp) z, kk, ⟨hP.1, hP.2.1, hP.2.2.1, hP.2.2.2.1, hP.2.2.2.2.1, hP.2.2.2.2.2.1, hP.2.2.2.2.2.2.1, ?_⟩, ⟨hT.1, hT.2.1, hT.2.2.1, hT.2.2.2.1, hT.2.2.2.2.1, hT.2.2.2.2.2.1, ?_, hT.2.2.2.2.2.2.2⟩, ⟨hR.1, hR.2.1, hR.2.2.1, hR.2.2.2.1, hR.2.2.2.2.1, hR.2.2.2.2.2.1, hR.2.2.2.2.2.2.1, ?_, hR.2.2.2.2.2.2.2.2⟩⟩
    · obtain ⟨q, hq3, rfl⟩ := x_plq hC.1.1
      have hpp := hC.1.2
      have hb3 := hP.2.2.1
      have hb4 := hP.2.2.2.1
      refine x_upd_Z hP.2.2.2.2.2.2.2 ?_ ?_
      · unfold x_pi
        rw [nI_clamp (by omega)]
        omega
      · unfold x_pi
        rw [nI_clamp (by omega)]
        omega
    · show upd (ar 0) (x_cp sc2 pl u.toInt64 v.toInt64).toNatClampNeg z = _
      rw [e1, hT.2.2.2.2.2.2.1]
    · show upd (ar 4) (x_rc sc2 pl u v).toNatClampNeg z = _
      rw [e2, hR.2.2.2.2.2.2.2.1]
  · refine ⟨0, (c_T_put hd (x_cp_vp hP hT)).post ?_⟩
    intro r sc1 ar1 h
    try dsimp only at h
    have hCT : ¬ (¬ x_cp sc pl u.toInt64 v.toInt64 = -1 ∧ ¬ z < -32768 ∧ z ≤ 32767 ∧ ¬ 0 < sc 0 ∧ sc 1 = 0) := by
      rintro ⟨q1, q2, q3, q4, q5⟩
      apply hC
      refine ⟨?_, q2, q3, by rw [← hT.2.2.2.2.1]; exact q4, by rw [← hT.2.2.2.2.2.1]; exact q5⟩
      refine Classical.byContradiction fun q => q1 (x_cp_out hP hT ?_)
      rw [eu, ev]; exact q
    rw [if_neg hCT] at h
    obtain ⟨rfl, rfl, rfl⟩ := h
    refine ⟨rfl, (c_R_put hd (x_rc_vp hP hR)).post ?_⟩
    intro r sc2 ar2 h
    try dsimp only at h
    rw [if_neg] at h
    · obtain ⟨rfl, rfl, rfl⟩ := h
      exact ⟨rfl, hN⟩
    · rintro ⟨q1, q2, q3, q4, q5, q6⟩
      apply hC
      exact ⟨(x_rp_iff hP hR).mp ⟨q1, q2⟩, q3, hz.mpr q4, by rw [← hR.2.2.2.2.2.2.1]; exact q5, by rw [← hR.2.2.2.2.2.1]; exact q6⟩
theorem k_mix (hd : x_dis ad) (hN : x_IN sc ar) : ∃ r, x_K l M_T_mix 1 24 M_R_mix 0 0 ad D cI [] sc ar (.int r) := by
  have hN' := hN
  obtain ⟨th, mx, lf, tp, ww, hh, p0, f, kk, hP, hT, hR⟩ := hN'
  have ht := x_tile hP hT hR
  have e0 : sc 0 = sc 14 := hT.2.2.2.2.1.trans hR.2.2.2.2.2.2.1.symm
  have e1 : sc 1 = sc 13 := hT.2.2.2.2.2.1.trans hR.2.2.2.2.2.1.symm
  by_cases hC : ¬ sc 3 ≤ 0 ∧ ¬ 0 < sc 0 ∧ sc 1 = 0
  · refine ⟨1, (c_T_mix hd).post ?_⟩
    intro r sc1 ar1 h
    try dsimp only at h
    rw [if_pos hC] at h
    obtain ⟨rfl, rfl, rfl⟩ := h
    refine ⟨rfl, (c_R_mix hd).post ?_⟩
    intro r sc2 ar2 h
    try dsimp only at h
    have hCR : ¬ upd sc 1 1 8 = 0 ∧ ¬ 0 < upd sc 1 1 14 ∧ upd sc 1 1 13 = 0 := ⟨ht.mp hC.1, by show ¬ 0 < sc 14; rw [← e0]; exact hC.2.1, by show sc 13 = 0; rw [← e1]; exact hC.2.2⟩
    rw [if_pos hCR] at h
    obtain ⟨rfl, rfl, rfl⟩ := h
    refine ⟨rfl, th, 1, lf, tp, ww, hh, p0, x_mxs f 256, kk, ⟨hP.1, hP.2.1, hP.2.2.1, hP.2.2.2.1, hP.2.2.2.2.1, Or.inr rfl, hP.2.2.2.2.2.2.1, x_mxs_Z hP.2.2.2.2.2.2.2 256 (by decide)⟩, ⟨hT.1, hT.2.1, hT.2.2.1, hT.2.2.2.1, hT.2.2.2.2.1, rfl, ?_, hT.2.2.2.2.2.2.2⟩, ⟨hR.1, hR.2.1, hR.2.2.1, hR.2.2.2.1, hR.2.2.2.2.1, rfl, hR.2.2.2.2.2.2.1, ?_, hR.2.2.2.2.2.2.2.2⟩⟩
    · show x_mxs (ar 0) 256 = _
      rw [hT.2.2.2.2.2.2.1]
    · show x_mxs (ar 4) 256 = _
      rw [hR.2.2.2.2.2.2.2.1]
  · refine ⟨0, (c_T_mix hd).post ?_⟩
    intro r sc1 ar1 h
    try dsimp only at h
    rw [if_neg hC] at h
    obtain ⟨rfl, rfl, rfl⟩ := h
    refine ⟨rfl, (c_R_mix hd).post ?_⟩
    intro r sc2 ar2 h
    try dsimp only at h
    rw [if_neg (fun q => hC ⟨ht.mpr q.1, by rw [e0]; exact q.2.1, by rw [e1]; exact q.2.2⟩)] at h
    obtain ⟨rfl, rfl, rfl⟩ := h
    exact ⟨rfl, hN⟩
theorem k_unmix (hd : x_dis ad) (hN : x_IN sc ar) : ∃ r, x_K l M_T_unmix 1 25 M_R_unmix 0 0 ad D cI [] sc ar (.int r) := by
  have hN' := hN
  obtain ⟨th, mx, lf, tp, ww, hh, p0, f, kk, hP, hT, hR⟩ := hN'
  have e0 : sc 0 = sc 14 := hT.2.2.2.2.1.trans hR.2.2.2.2.2.2.1.symm
  have e1 : sc 1 = sc 13 := hT.2.2.2.2.2.1.trans hR.2.2.2.2.2.1.symm
  by_cases hC : ¬ 0 < sc 0 ∧ ¬ sc 1 = 0
  · refine ⟨1, (c_T_unmix hd).post ?_⟩
    intro r sc1 ar1 h
    try dsimp only at h
    rw [if_pos hC] at h
    obtain ⟨rfl, rfl, rfl⟩ := h
    refine ⟨rfl, (c_R_unmix hd).post ?_⟩
    intro r sc2 ar2 h
    try dsimp only at h
    have hCR : ¬ 0 < upd sc 1 0 14 ∧ ¬ upd sc 1 0 13 = 0 := ⟨by show ¬ 0 < sc 14; rw [← e0]; exact hC.1, by show ¬ sc 13 = 0; rw [← e1]; exact hC.2⟩
    rw [if_pos hCR] at h
    obtain ⟨rfl, rfl, rfl⟩ := h
    refine ⟨rfl, th, 0, lf, tp, ww, hh, p0, x_ums f 256, kk, ⟨hP.1, hP.2.1, hP.2.2.1, hP.2.2.2.1, hP.2.2.2.2.1, Or.inl rfl, hP.2.2.2.2.2.2.1, x_ums_Z hP.2.2.2.2.2.2.2 256 (by decide)⟩, ⟨hT.1, hT.2.1, hT.2.2.1, hT.2.2.2.1, hT.2.2.2.2.1, rfl, ?_, hT.2.2.2.2.2.2.2⟩, ⟨hR.1, hR.2.1, hR.2.2.1, hR.2.2.2.1, hR.2.2.2.2.1, rfl, hR.2.2.2.2.2.2.1, ?_, hR.2.2.2.2.2.2.2.2⟩⟩
    · show x_ums (ar 0) 256 = _
      rw [hT.2.2.2.2.2.2.1]
    · show x_ums (ar 4) 256 = _
      rw [hR.2.2.2.2.2.2.2.1]
  · refine ⟨0, (c_T_unmix hd).post ?_⟩
    intro r sc1 ar1 h
    try dsimp only at h
    rw [if_neg hC] at h
    obtain ⟨rfl, rfl, rfl⟩ := h
    refine ⟨rfl, (c_R_unmix hd).post ?_⟩
    intro r sc2 ar2 h
    try dsimp only at h
    rw [if_neg (fun q => hC ⟨by rw [e0]; exact q.1, by rw [e1]; exact q.2⟩)] at h
    obtain ⟨rfl, rfl, rfl⟩ := h
    exact ⟨rfl, hN⟩
end KW
end
section
section KL
variable {l : Launch} {ad : Nat → Nat} {D : va_G} {cI : ClassId} {sc : Nat → Int32} {ar : Nat → Nat → Int32}
theorem k_forward (hd : x_dis ad) (hN : x_IN sc ar) (kn : Int32) : ∃ r, x_K l M_T_forward 5 121 M_R_forward 7 157 ad D cI [.int kn] sc ar (.int r) := by
  have hN' := hN
  obtain ⟨th, mx, lf, tp, ww, hh, p0, f, kk, hP, hT, hR⟩ := hN'
  have ht := x_tile hP hT hR
  have e0 : sc 0 = sc 14 := hT.2.2.2.2.1.trans hR.2.2.2.2.2.2.1.symm
  have e3 : (3 : Int32) ≤ kn ↔ (2 : Int32) < kn := x_le1 kn 2 (by decide)
  obtain ⟨b1, b2, b3, b4, b5, b6, b7, b8⟩ := id hP
  have hTC : x_TC sc lf tp ww hh p0 := ⟨hT.1, hT.2.1, hT.2.2.1, hT.2.2.2.1, hT.2.2.2.2.1, b1, b2, b3, b4⟩
  have hp3 : sc 14 < 4 → p0 ≤ 3 := by
    intro h
    rw [hR.2.2.2.2.2.2.1] at h
    exact Nat.le_of_lt_succ ((nI_ltI (b := 4) (by omega) (by decide)).mp h)
  have hpos : ¬ sc 8 = 0 → 0 < ww ∧ 0 < hh := by
    intro h
    rcases b7 with c | c
    · exact ⟨c.2.1, c.2.2⟩
    · exact absurd (hR.1.trans c.1) h
  have hRC : ∀ sc1 : Nat → Int32, (∀ z, 8 ≤ z → sc1 z = sc z) → ¬ sc1 8 = 0 → x_RC sc1 lf tp ww hh ∧ 0 < ww ∧ 0 < hh := by
    intro sc1 h1 h2
    rw [h1 8 (by decide)] at h2
    refine ⟨⟨?_, ?_, ?_, ?_, ?_, b1, b2, b3, b4⟩, hpos h2⟩
    · rw [h1 8 (by decide)]; exact h2
    · rw [h1 9 (by decide)]; exact hR.2.1
    · rw [h1 10 (by decide)]; exact hR.2.2.1
    · rw [h1 11 (by decide)]; exact hR.2.2.2.1
    · rw [h1 12 (by decide)]; exact hR.2.2.2.2.1
  by_cases hC : ¬ sc 3 ≤ 0 ∧ ¬ kn < 0 ∧ ¬ 3 ≤ kn ∧ sc 0 < 4
  · refine ⟨1, (c_T_forward hd hTC (by omega)).post ?_⟩
    intro r sc1 ar1 h
    try dsimp only at h
    rw [if_pos hC] at h
    obtain ⟨rfl, q0, qs, qa, qf, qk⟩ := h
    have hs1 : ∀ z, 8 ≤ z → sc1 z = sc z := fun z hz => qs z (by omega) (by omega) (by omega)
    have ha1 : ∀ z, 3 ≤ z → ar1 z = ar z := fun z hz => qa z (by omega) (by omega) (by omega)
    have hCR : ¬ sc1 8 = 0 ∧ ¬ kn < 0 ∧ ¬ 2 < kn ∧ sc1 14 < 4 := ⟨by rw [hs1 8 (by decide)]; exact ht.mp hC.1, hC.2.1, fun q => hC.2.2.1 (e3.mpr q), by rw [hs1 14 (by decide), ← e0]; exact hC.2.2.2⟩
    refine ⟨rfl, (c_R_forward hd (hRC sc1 hs1) (by rw [hs1 14 (by decide)]; exact hR.2.2.2.2.2.2.1) (fun q => hp3 (by rw [← hs1 14 (by decide)]; exact q))).post ?_⟩
    intro r sc2 ar2 h
    try dsimp only at h
    rw [if_pos hCR] at h
    obtain ⟨rfl, u0, us, ua, uf, uk⟩ := h
    have hp : p0 ≤ 3 := hp3 (by rw [← e0]; exact hC.2.2.2)
    refine ⟨rfl, th, mx, lf, tp, ww, hh, p0 + 1, x_FW kn p0 lf tp ww hh f 3, upd kk p0 kn, ⟨b1, b2, b3, b4, by omega, b6, ?_, x_FW_Z hp b3 b4 b8 3⟩, ⟨?_, ?_, ?_, ?_, ?_, ?_, ?_, ?_⟩, ⟨?_, ?_, ?_, ?_, ?_, ?_, ?_, ?_, ?_⟩⟩
    · rcases b7 with c | c
      · exact Or.inl c
      · exact absurd (hR.1.trans c.1) (ht.mp hC.1)
    · rw [us 2 (by decide) (by decide) (by decide) (by decide), qs 2 (by decide) (by decide) (by decide)]; exact hT.1
    · rw [us 3 (by decide) (by decide) (by decide) (by decide), qs 3 (by decide) (by decide) (by decide)]; exact hT.2.1
    · rw [us 4 (by decide) (by decide) (by decide) (by decide), qs 4 (by decide) (by decide) (by decide)]; exact hT.2.2.1
    · rw [us 5 (by decide) (by decide) (by decide) (by decide), qs 5 (by decide) (by decide) (by decide)]; exact hT.2.2.2.1
    · rw [us 0 (by decide) (by decide) (by decide) (by decide), q0, hT.2.2.2.2.1, x_k1]
    · rw [us 1 (by decide) (by decide) (by decide) (by decide), qs 1 (by decide) (by decide) (by decide)]; exact hT.2.2.2.2.2.1
    · rw [ua 0 (by decide) (by decide) (by decide) (by decide), qf, hT.2.2.2.2.2.2.1]
    · rw [ua 1 (by decide) (by decide) (by decide) (by decide), qk, hT.2.2.2.2.2.2.2]
    · rw [us 8 (by decide) (by decide) (by decide) (by decide), hs1 8 (by decide)]; exact hR.1
    · rw [us 9 (by decide) (by decide) (by decide) (by decide), hs1 9 (by decide)]; exact hR.2.1
    · rw [us 10 (by decide) (by decide) (by decide) (by decide), hs1 10 (by decide)]; exact hR.2.2.1
    · rw [us 11 (by decide) (by decide) (by decide) (by decide), hs1 11 (by decide)]; exact hR.2.2.2.1
    · rw [us 12 (by decide) (by decide) (by decide) (by decide), hs1 12 (by decide)]; exact hR.2.2.2.2.1
    · rw [us 13 (by decide) (by decide) (by decide) (by decide), hs1 13 (by decide)]; exact hR.2.2.2.2.2.1
    · rw [u0, hs1 14 (by decide), hR.2.2.2.2.2.2.1, x_k1]
    · rw [uf, ha1 4 (by decide), hR.2.2.2.2.2.2.2.1]
    · rw [uk, ha1 3 (by decide), hR.2.2.2.2.2.2.2.2]
  · refine ⟨0, (c_T_forward hd hTC (by omega)).post ?_⟩
    intro r sc1 ar1 h
    try dsimp only at h
    rw [if_neg hC] at h
    obtain ⟨rfl, rfl, rfl⟩ := h
    refine ⟨rfl, (c_R_forward hd (hRC _ (fun _ _ => rfl)) hR.2.2.2.2.2.2.1 hp3).post ?_⟩
    intro r sc2 ar2 h
    try dsimp only at h
    rw [if_neg (fun q => hC ⟨ht.mpr q.1, q.2.1, fun z => q.2.2.1 (e3.mp z), by rw [e0]; exact q.2.2.2⟩)] at h
    obtain ⟨rfl, rfl, rfl⟩ := h
    exact ⟨rfl, hN⟩
theorem k_back (hd : x_dis ad) (hN : x_IN sc ar) : ∃ r, x_K l M_T_back 5 121 M_R_back 7 157 ad D cI [] sc ar (.int r) := by
  have hN' := hN
  obtain ⟨th, mx, lf, tp, ww, hh, p0, f, kk, hP, hT, hR⟩ := hN'
  have e0 : sc 0 = sc 14 := hT.2.2.2.2.1.trans hR.2.2.2.2.2.2.1.symm
  obtain ⟨b1, b2, b3, b4, b5, b6, b7, b8⟩ := id hP
  have hpp : ¬ sc 0 = 0 → sc 0 - 1 = nI (p0 - 1) ∧ 1 ≤ p0 := by
    intro h
    rw [hT.2.2.2.2.1] at h ⊢
    have h1 : 1 ≤ p0 := Nat.pos_of_ne_zero fun q => h (by rw [q]; rfl)
    exact ⟨pk_sub (b := 1) h1, h1⟩
  have hTC : x_TC (upd sc 0 (nI (p0 - 1))) lf tp ww hh (p0 - 1) := ⟨hT.1, hT.2.1, hT.2.2.1, hT.2.2.2.1, rfl, b1, b2, b3, b4⟩
  by_cases hC : ¬ sc 0 = 0
  · obtain ⟨g1, g2⟩ := hpp hC
    have hth : th = 1 ∧ 0 < ww ∧ 0 < hh := by
      rcases b7 with c | c
      · exact c
      · omega
    have hp : p0 - 1 ≤ 3 := by omega
    refine ⟨1, (c_T_back hd hTC hp (fun h => (hpp h).1)).post ?_⟩
    intro r sc1 ar1 h
    try dsimp only at h
    rw [if_pos hC] at h
    obtain ⟨rfl, q0, qs, qa, qf⟩ := h
    have hs1 : ∀ z, 8 ≤ z → sc1 z = sc z := fun z hz => qs z (by omega) (by omega) (by omega)
    have ha1 : ∀ z, 3 ≤ z → ar1 z = ar z := fun z hz => qa z (by omega) (by omega)
    have hRC : x_RC sc1 lf tp ww hh := by
      refine ⟨?_, ?_, ?_, ?_, ?_, b1, b2, b3, b4⟩
      · rw [hs1 8 (by decide), hR.1, hth.1]; decide
      · rw [hs1 9 (by decide)]; exact hR.2.1
      · rw [hs1 10 (by decide)]; exact hR.2.2.1
      · rw [hs1 11 (by decide)]; exact hR.2.2.2.1
      · rw [hs1 12 (by decide)]; exact hR.2.2.2.2.1
    refine ⟨rfl, (c_R_back (lf := lf) (tp := tp) (ww := ww) (hh := hh) (p0 := p0 - 1) hd (fun _ => ⟨⟨hRC, hth.2⟩, by rw [hs1 14 (by decide), ← e0]; exact g1, hp⟩)).post ?_⟩
    intro r sc2 ar2 h
    try dsimp only at h
    rw [if_pos (by rw [hs1 14 (by decide), ← e0]; exact hC)] at h
    obtain ⟨rfl, u0, us, ua, uf⟩ := h
    refine ⟨rfl, th, mx, lf, tp, ww, hh, p0 - 1, x_BK (kk (p0 - 1)) (p0 - 1) lf tp ww hh f 3, kk, ⟨b1, b2, b3, b4, by omega, b6, Or.inl hth, x_BK_Z hp b3 b4 b8 3⟩, ⟨?_, ?_, ?_, ?_, ?_, ?_, ?_, ?_⟩, ⟨?_, ?_, ?_, ?_, ?_, ?_, ?_, ?_, ?_⟩⟩
    · rw [us 2 (by decide) (by decide) (by decide) (by decide), qs 2 (by decide) (by decide) (by decide)]; exact hT.1
    · rw [us 3 (by decide) (by decide) (by decide) (by decide), qs 3 (by decide) (by decide) (by decide)]; exact hT.2.1
    · rw [us 4 (by decide) (by decide) (by decide) (by decide), qs 4 (by decide) (by decide) (by decide)]; exact hT.2.2.1
    · rw [us 5 (by decide) (by decide) (by decide) (by decide), qs 5 (by decide) (by decide) (by decide)]; exact hT.2.2.2.1
    · rw [us 0 (by decide) (by decide) (by decide) (by decide), q0, g1]
    · rw [us 1 (by decide) (by decide) (by decide) (by decide), qs 1 (by decide) (by decide) (by decide)]; exact hT.2.2.2.2.2.1
    · rw [ua 0 (by decide) (by decide) (by decide), qf, hT.2.2.2.2.2.2.1, hT.2.2.2.2.2.2.2]
    · rw [ua 1 (by decide) (by decide) (by decide), qa 1 (by decide) (by decide)]; exact hT.2.2.2.2.2.2.2
    · rw [us 8 (by decide) (by decide) (by decide) (by decide), hs1 8 (by decide)]; exact hR.1
    · rw [us 9 (by decide) (by decide) (by decide) (by decide), hs1 9 (by decide)]; exact hR.2.1
    · rw [us 10 (by decide) (by decide) (by decide) (by decide), hs1 10 (by decide)]; exact hR.2.2.1
    · rw [us 11 (by decide) (by decide) (by decide) (by decide), hs1 11 (by decide)]; exact hR.2.2.2.1
    · rw [us 12 (by decide) (by decide) (by decide) (by decide), hs1 12 (by decide)]; exact hR.2.2.2.2.1
    · rw [us 13 (by decide) (by decide) (by decide) (by decide), hs1 13 (by decide)]; exact hR.2.2.2.2.2.1
    · rw [u0, hs1 14 (by decide), ← e0, g1]
    · rw [uf, ha1 4 (by decide), ha1 3 (by decide), hR.2.2.2.2.2.2.2.1, hR.2.2.2.2.2.2.2.2]
    · rw [ua 3 (by decide) (by decide) (by decide), ha1 3 (by decide)]; exact hR.2.2.2.2.2.2.2.2
  · refine ⟨0, (c_T_back hd hTC (by omega) (fun h => (hpp h).1)).post ?_⟩
    intro r sc1 ar1 h
    try dsimp only at h
    rw [if_neg hC] at h
    obtain ⟨rfl, rfl, rfl⟩ := h
    refine ⟨rfl, (c_R_back (lf := lf) (tp := tp) (ww := ww) (hh := hh) (p0 := p0) hd (fun q => absurd (by rw [← e0] at q; exact q) hC)).post ?_⟩
    intro r sc2 ar2 h
    try dsimp only at h
    rw [if_neg (fun q => hC (by rw [e0]; exact q))] at h
    obtain ⟨rfl, rfl, rfl⟩ := h
    exact ⟨rfl, hN⟩
theorem x_cbs {th mx : Int32} {lf tp ww hh p0 dd oo : Nat} {f kk : Nat → Int32} {sc1 : Nat → Int32} {ar1 : Nat → Nat → Int32} (hP : x_IP th mx lf tp ww hh p0 f) (hT : x_IT mx lf tp ww hh p0 f kk sc ar) (hR : x_IR th mx lf tp ww hh p0 f kk sc1 ar1) (h1 : 1 ≤ dd) (h4 : dd ≤ 4) (ho : oo < 4) (i : Nat) (hi : i < 768) : decide (x_rp sc1 (x_ux sc1 i) (x_vx sc1 i) ∧ x_be (nI dd) (nI oo) (x_ux sc1 i) (x_vx sc1 i)) = true ↔ (i % 16 < ww ∧ i / 16 % 16 < hh) ∧ decide (x_os sc (nI i) (nI dd) (nI oo)) = true := by
  obtain ⟨b1, b2, b3, b4, -, -, b7, -⟩ := id hP
  have m1 : nI i - nI i / (16 : Int32) * (16 : Int32) = nI (i % 16) := pk_rem (d := 16) (by omega) (by decide) (by decide)
  have m2 : nI i / (16 : Int32) = nI (i / 16) := pk_div (d := 16) (by omega) (by decide) (by decide)
  have m3 : nI (i / 16) - nI (i / 16) / (16 : Int32) * (16 : Int32) = nI (i / 16 % 16) := pk_rem (d := 16) (by omega) (by decide) (by decide)
  have eu : x_ux sc1 i = nI (lf + i % 16) := by
    unfold x_ux
    rw [m1, hR.2.1, nI_add]
  have ev : x_vx sc1 i = nI (tp + i / 16 % 16) := by
    unfold x_vx
    rw [m2, m3, hR.2.2.1, nI_add]
  simp only [decide_eq_true_eq]
  rw [eu, ev, x_osN hi hT.1 hT.2.2.1 b1 b2 h1 h4 ho, x_beN (by omega) (by omega) h1 h4 ho]
  have key : x_rp sc1 (nI (lf + i % 16)) (nI (tp + i / 16 % 16)) ↔ (i % 16 < ww ∧ i / 16 % 16 < hh) := by
    have h := x_rp_iff (pl := 0) (u := nI (lf + i % 16)) (v := nI (tp + i / 16 % 16)) hP hR
    rw [nI_toInt (by omega), nI_toInt (by omega)] at h
    constructor
    · intro q
      have := h.mp ⟨by decide, q⟩
      have := this.2
      omega
    · intro q
      exact (h.mpr ⟨by decide, by omega, by omega, by omega, by omega⟩).2
  rw [key]
theorem k_thin (hd : x_dis ad) (hN : x_IN sc ar) (d o t : Int32) : ∃ r, x_K l M_T_thin 3 66 M_R_thin 3 67 ad D cI [.int d, .int o, .int t] sc ar (.int r) := by
  have hN' := hN
  obtain ⟨th, mx, lf, tp, ww, hh, p0, f, kk, hP, hT, hR⟩ := hN'
  have e0 : sc 0 = sc 14 := hT.2.2.2.2.1.trans hR.2.2.2.2.2.2.1.symm
  obtain ⟨b1, b2, b3, b4, b5, b6, b7, b8⟩ := id hP
  have o34 := x_o34 o
  have hzz : ∀ x : Int32, x = nI p0 → (¬ d < 1 ∧ ¬ x < d → ¬ 2 * (1 : Int32) <<< ((d - 1) &&& 31) = 0) := by
    rintro x rfl ⟨h1, h2⟩
    obtain ⟨dd, e1, g1, g2⟩ := x_lvl (by omega) h1 h2
    rw [x_stepN e1 g1 (by omega)]
    exact x_pne (by omega)
  by_cases hC : (¬ d < 1 ∧ ¬ sc 0 < d) ∧ (¬ o < 0 ∧ ¬ 4 ≤ o) ∧ ¬ t < 1 ∧ t ≤ 32767 ∧ (¬ o = 0 ∨ d = sc 0)
  · obtain ⟨dd, e1, g1, g2⟩ := x_lvl (n := p0) (by omega) hC.1.1 (by rw [← hT.2.2.2.2.1]; exact hC.1.2)
    obtain ⟨oo, e2, g3⟩ := x_bnd hC.2.1.1 hC.2.1.2
    have hcb : ∀ (sc1 : Nat → Int32) (ar1 : Nat → Nat → Int32), x_IR th mx lf tp ww hh p0 f kk sc1 ar1 → ∀ i, i < 768 → ((fun i => decide (x_rp sc1 (x_ux sc1 i) (x_vx sc1 i) ∧ x_be d o (x_ux sc1 i) (x_vx sc1 i))) i = true ↔ (i % 16 < ww ∧ i / 16 % 16 < hh) ∧ (fun i => decide (x_os sc (nI i) d o)) i = true) := by
      intro sc1 ar1 h i hi
      rw [e1, e2]
      exact x_cbs hP hT h g1 (by omega) g3 i hi
    have hg : (fun x => x_th x t) = (fun x => x_rth x t) := funext fun x => x_th_rth x t
    have hg0 : (fun x => x_th x t) 0 = 0 := x_th0 t
    refine ⟨x_tc (fun i => decide (x_os sc (nI i) d o)) (fun x => x_th x t) (ar 0) 768, (c_T_thin hd).post ?_⟩
    intro r sc1 ar1 h
    try dsimp only at h
    rw [if_pos hC] at h
    obtain ⟨rfl, rfl, rfl⟩ := h
    have hR1 : x_IR th mx lf tp ww hh p0 f kk sc1 (x_ua ar 0 (x_tf (fun i => decide (x_os sc1 (nI i) d o)) (fun x => x_th x t) (ar 0) 768)) := hR
    refine ⟨rfl, (c_R_thin hd (hzz _ hR.2.2.2.2.2.2.1)).post ?_⟩
    intro r sc2 ar2 h
    try dsimp only at h
    have hCR : (¬ d < 1 ∧ ¬ sc1 14 < d) ∧ (¬ o < 0 ∧ ¬ 3 < o) ∧ (¬ o = 0 ∨ d = sc1 14) ∧ ¬ t < 1 ∧ t ≤ 32767 := ⟨⟨hC.1.1, by rw [← e0]; exact hC.1.2⟩, ⟨hC.2.1.1, fun q => hC.2.1.2 (o34.mpr q)⟩, by rw [← e0]; exact hC.2.2.2.2, hC.2.2.1, hC.2.2.2.1⟩
    rw [if_pos hCR] at h
    obtain ⟨rfl, rfl, rfl⟩ := h
    have hc9 := hcb sc2 _ hR1
    have q1 : x_ua ar 0 (x_tf (fun i => decide (x_os sc2 (nI i) d o)) (fun x => x_th x t) (ar 0) 768) 4 = f := hR.2.2.2.2.2.2.2.1
    have q0 : ar 0 = f := hT.2.2.2.2.2.2.1
    refine ⟨?_, th, mx, lf, tp, ww, hh, p0, x_tf (fun i => decide (x_os sc2 (nI i) d o)) (fun x => x_th x t) f 768, kk, ⟨b1, b2, b3, b4, b5, b6, b7, x_tf_Z hg0 b8 768⟩, ⟨hT.1, hT.2.1, hT.2.2.1, hT.2.2.2.1, hT.2.2.2.2.1, hT.2.2.2.2.2.1, ?_, hT.2.2.2.2.2.2.2⟩, ⟨hR.1, hR.2.1, hR.2.2.1, hR.2.2.2.1, hR.2.2.2.2.1, hR.2.2.2.2.2.1, hR.2.2.2.2.2.2.1, ?_, hR.2.2.2.2.2.2.2.2⟩⟩
    · rw [q1, q0, ← hg, x_tc_eq b8 hc9 768 (by decide)]
    · rw [x_ua_ne (by decide), x_ua_at, q0]
    · rw [x_ua_at, q1, ← hg]
      exact (x_tf_eq hg0 b8 hc9).symm
  · refine ⟨-1, (c_T_thin hd).post ?_⟩
    intro r sc1 ar1 h
    try dsimp only at h
    rw [if_neg hC] at h
    obtain ⟨rfl, rfl, rfl⟩ := h
    refine ⟨rfl, (c_R_thin hd (hzz _ hR.2.2.2.2.2.2.1)).post ?_⟩
    intro r sc2 ar2 h
    try dsimp only at h
    rw [if_neg (fun q => hC ⟨⟨q.1.1, by rw [e0]; exact q.1.2⟩, ⟨q.2.1.1, fun z => q.2.1.2 (o34.mp z)⟩, q.2.2.2.1, q.2.2.2.2, by rw [e0]; exact q.2.2.1⟩)] at h
    obtain ⟨rfl, rfl, rfl⟩ := h
    exact ⟨rfl, hN⟩
end KL
end
section
theorem x_wi_ext {G G2 : Nat → Int64} {a : Int64} : ∀ m, (∀ i, i < m → G i = G2 i) → x_wi G a m = x_wi G2 a m
  | 0, _ => rfl
  | m + 1, h => by
    show x_wi G a m + G m = x_wi G2 a m + G2 m
    rw [x_wi_ext m (fun i hi => h i (by omega)), h m (by omega)]
theorem x_ws_zero {cb : Nat → Bool} {f : Nat → Int32} {b n : Nat} : ∀ m, (∀ i, i < m → f (b + (n + i)) = 0) → x_ws cb f b (n + m) = x_ws cb f b n
  | 0, _ => rfl
  | m + 1, h => by
    have e : x_am 0 = 0 := by decide
    by_cases hc : cb (b + (n + m)) = true
    · rw [← Nat.add_assoc, x_ws_y hc, h m (by omega), e, Int64.add_zero, x_ws_zero m (fun i hi => h i (by omega))]
    · rw [← Nat.add_assoc, x_ws_n hc, x_ws_zero m (fun i hi => h i (by omega))]
theorem x_ws_row {cb : Nat → Bool} {f : Nat → Int32} {b n : Nat} {G : Nat → Int64} : ∀ m, (∀ i, i < m → G i = if cb (b + (n + i)) = true then x_am (f (b + (n + i))) else 0) → x_ws cb f b (n + m) = x_wi G (x_ws cb f b n) m
  | 0, _ => rfl
  | m + 1, h => by
    show x_ws cb f b (n + m) + _ = x_wi G (x_ws cb f b n) m + G m
    rw [x_ws_row m (fun i hi => h i (by omega)), h m (by omega)]
    rfl
theorem x_ws_wo {cb : Nat → Bool} {f : Nat → Int32} {b ww hh : Nat} {G : Nat → Nat → Int64} (h3 : ww ≤ 16) (h4 : hh ≤ 16) (hG : ∀ y x, y < hh → x < ww → G y x = if cb (b + (16 * y + x)) = true then x_am (f (b + (16 * y + x))) else 0) (hz : ∀ i, i < 256 → (ww ≤ i % 16 ∨ hh ≤ i / 16) → f (b + i) = 0) : x_ws cb f b 256 = x_wo G ww hh := by
  have rows : ∀ k, k ≤ hh → x_ws cb f b (16 * k) = x_wo G ww k := by
    intro k
    induction k with
    | zero => intro _; rfl
    | succ k ih =>
      intro hk
      have e1 : 16 * (k + 1) = (16 * k + ww) + (16 - ww) := by omega
      rw [e1, x_ws_zero (n := 16 * k + ww) (16 - ww) (fun i hi => hz _ (by omega) (by omega)), x_ws_row (n := 16 * k) (G := G k) ww (fun i hi => hG k i (by omega) hi), ih (by omega)]
      rfl
  have e2 : 256 = 16 * hh + (256 - 16 * hh) := by omega
  rw [e2, x_ws_zero (n := 16 * hh) (256 - 16 * hh) (fun i hi => hz _ (by omega) (by omega)), rows hh (Nat.le_refl _)]
section KS
variable {l : Launch} {ad : Nat → Nat} {D : va_G} {cI : ClassId} {sc : Nat → Int32} {ar : Nat → Nat → Int32}
theorem k_weight (hd : x_dis ad) (hN : x_IN sc ar) (pl d o : Int32) : ∃ r, x_K l M_T_weight 2 47 M_R_weight 3 67 ad D cI [.int pl, .int d, .int o] sc ar (.long r) := by
  have hN' := hN
  obtain ⟨th, mx, lf, tp, ww, hh, p0, f, kk, hP, hT, hR⟩ := hN'
  have e0 : sc 0 = sc 14 := hT.2.2.2.2.1.trans hR.2.2.2.2.2.2.1.symm
  obtain ⟨b1, b2, b3, b4, b5, b6, b7, b8⟩ := id hP
  have o34 := x_o34 o
  have e3 : (3 : Int32) ≤ pl ↔ (2 : Int32) < pl := x_le1 pl 2 (by decide)
  have hlv : ¬ d < 1 ∧ ¬ sc 14 < d → ∃ dd : Nat, d = nI dd ∧ 1 ≤ dd ∧ dd ≤ p0 := by
    rintro ⟨h1, h2⟩
    rw [hR.2.2.2.2.2.2.1] at h2
    exact x_lvl (by omega) h1 h2
  have hz : ¬ d < 1 ∧ ¬ sc 14 < d → ¬ 2 * (1 : Int32) <<< ((d - 1) &&& 31) = 0 := by
    intro h
    obtain ⟨dd, e1, g1, g2⟩ := hlv h
    rw [x_stepN e1 g1 (by omega)]
    exact x_pne (by omega)
  have hRC : ¬ d < 1 ∧ ¬ sc 14 < d → x_RC sc lf tp ww hh := by
    intro h
    obtain ⟨dd, e1, g1, g2⟩ := hlv h
    refine ⟨?_, hR.2.1, hR.2.2.1, hR.2.2.2.1, hR.2.2.2.2.1, b1, b2, b3, b4⟩
    rcases b7 with c | c
    · rw [hR.1, c.1]; decide
    · omega
  by_cases hC : (¬ d < 1 ∧ ¬ sc 0 < d) ∧ (¬ o < 0 ∧ ¬ 4 ≤ o) ∧ x_pl pl
  · have hl : ¬ d < 1 ∧ ¬ sc 14 < d := ⟨hC.1.1, by rw [← e0]; exact hC.1.2⟩
    obtain ⟨dd, e1, g1, g2⟩ := hlv hl
    obtain ⟨oo, e2, g3⟩ := x_bnd hC.2.1.1 hC.2.1.2
    obtain ⟨q, hq, eq⟩ := x_plq hC.2.2
    refine ⟨x_ws (fun i => decide (x_os sc (nI i) d o)) (ar 0) (pl.toNatClampNeg * 256) 256, (c_T_weight hd).post ?_⟩
    intro r sc1 ar1 h
    try dsimp only at h
    rw [if_pos hC] at h
    obtain ⟨rfl, rfl, rfl⟩ := h
    refine ⟨rfl, (c_R_weight hd hRC hz).post ?_⟩
    intro r sc2 ar2 h
    try dsimp only at h
    rw [if_pos ⟨hl, ⟨hC.2.1.1, fun z => hC.2.1.2 (o34.mpr z)⟩, hC.2.2.1, fun z => hC.2.2.2 (e3.mpr z)⟩] at h
    obtain ⟨rfl, rfl, rfl⟩ := h
    refine ⟨?_, hN⟩
    subst e1 e2 eq
    rw [nI_clamp (by omega), hT.2.2.2.2.2.2.1, hR.2.2.2.2.2.2.2.1]
    refine congrArg (fun v => some (Value.long v)) (x_ws_wo b3 b4 ?_ ?_).symm
    · intro y x hy hx
      have ei : x_ix q lf tp (lf + x) (tp + y) = q * 256 + (16 * y + x) := by
        unfold x_ix
        omega
      have hi : q * 256 + (16 * y + x) < 768 := by omega
      have hos := x_osN (sc := sc2) (i := q * 256 + (16 * y + x)) hi hT.1 hT.2.2.1 b1 b2 g1 (by omega) g3
      have hbe := x_beN (x := lf + x) (y := tp + y) (by omega) (by omega) g1 (show dd ≤ 4 by omega) g3
      rw [show (q * 256 + (16 * y + x)) % 16 = x by omega, show (q * 256 + (16 * y + x)) / 16 % 16 = y by omega] at hos
      rw [ei]
      by_cases hb : x_be (nI dd) (nI oo) (nI (lf + x)) (nI (tp + y))
      · rw [if_pos hb, if_pos (decide_eq_true (hos.mpr (hbe.mp hb))), x_am_ram]
      · rw [if_neg hb, if_neg (fun z => hb (hbe.mpr (hos.mp (of_decide_eq_true z))))]
    · intro i hi ho
      exact b8 _ (by omega) (by omega)
  · refine ⟨-1, (c_T_weight hd).post ?_⟩
    intro r sc1 ar1 h
    try dsimp only at h
    rw [if_neg hC] at h
    obtain ⟨rfl, rfl, rfl⟩ := h
    refine ⟨rfl, (c_R_weight hd hRC hz).post ?_⟩
    intro r sc2 ar2 h
    try dsimp only at h
    rw [if_neg (fun q => hC ⟨⟨q.1.1, by rw [e0]; exact q.1.2⟩, ⟨q.2.1.1, fun z => q.2.1.2 (o34.mp z)⟩, q.2.2.1, fun z => q.2.2.2 (e3.mp z)⟩)] at h
    obtain ⟨rfl, rfl, rfl⟩ := h
    exact ⟨rfl, hN⟩
end KS
end
