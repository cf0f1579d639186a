section
-- ===== PART A: goes FIRST, ahead of the names: the tables' words, and 'selects' of the private methods out of them =====
/-- a private method of a class that the tables say can be made, by its rows of tables_1 -/
def lw_okq (q : MethodName × Nat) : Prop := (q.1.cls ≠ "java/lang/invoke/MethodHandle" ∧ q.1.cls ≠ "java/lang/invoke/VarHandle") ∧ Cond.instantiable q.1.cls q.2 ∈ tables_1 ∧ Cond.privateMethod q.1 ∈ tables_1 ∧ Cond.instanceMethod q.1 ∈ tables_1
theorem lw_p0 : lw_okq (⟨"SeriesTables", "isSeries", "(I)Z"⟩, 11) := ⟨⟨by decide +kernel, by decide +kernel⟩, List.mem_of_getElem? (i := 23) (by decide +kernel), List.mem_of_getElem? (i := 450) (by decide +kernel), List.mem_of_getElem? (i := 451) (by decide +kernel)⟩
theorem lw_p1 : lw_okq (⟨"SeriesTables", "isWithinSize", "(I)Z"⟩, 11) := ⟨⟨by decide +kernel, by decide +kernel⟩, List.mem_of_getElem? (i := 23) (by decide +kernel), List.mem_of_getElem? (i := 454) (by decide +kernel), List.mem_of_getElem? (i := 455) (by decide +kernel)⟩
theorem lw_p2 : lw_okq (⟨"SeriesTables", "landSeries", "([II)I"⟩, 11) := ⟨⟨by decide +kernel, by decide +kernel⟩, List.mem_of_getElem? (i := 23) (by decide +kernel), List.mem_of_getElem? (i := 500) (by decide +kernel), List.mem_of_getElem? (i := 501) (by decide +kernel)⟩
theorem lw_p3 : lw_okq (⟨"SeriesTables", "isTable", "(I)Z"⟩, 11) := ⟨⟨by decide +kernel, by decide +kernel⟩, List.mem_of_getElem? (i := 23) (by decide +kernel), List.mem_of_getElem? (i := 544) (by decide +kernel), List.mem_of_getElem? (i := 545) (by decide +kernel)⟩
theorem lw_p4 : lw_okq (⟨"SeriesTables", "landTable", "(I)I"⟩, 11) := ⟨⟨by decide +kernel, by decide +kernel⟩, List.mem_of_getElem? (i := 23) (by decide +kernel), List.mem_of_getElem? (i := 550) (by decide +kernel), List.mem_of_getElem? (i := 551) (by decide +kernel)⟩
theorem lw_p5 : lw_okq (⟨"java/lang/Throwable", "fillInStackTrace", "(I)Ljava/lang/Throwable;"⟩, 6) := ⟨⟨by decide +kernel, by decide +kernel⟩, List.mem_of_getElem? (i := 782) (by decide +kernel), List.mem_of_getElem? (i := 780) (by decide +kernel), List.mem_of_getElem? (i := 781) (by decide +kernel)⟩
theorem lw_p6 : lw_okq (⟨"SeriesTables", "isWithinProduction", "(I)Z"⟩, 11) := ⟨⟨by decide +kernel, by decide +kernel⟩, List.mem_of_getElem? (i := 23) (by decide +kernel), List.mem_of_getElem? (i := 814) (by decide +kernel), List.mem_of_getElem? (i := 815) (by decide +kernel)⟩
theorem lw_p7 : lw_okq (⟨"SeriesTablesModel", "lays", "(I)V"⟩, 31) := ⟨⟨by decide +kernel, by decide +kernel⟩, List.mem_of_getElem? (i := 833) (by decide +kernel), List.mem_of_getElem? (i := 831) (by decide +kernel), List.mem_of_getElem? (i := 832) (by decide +kernel)⟩
theorem lw_p8 : lw_okq (⟨"SeriesTablesModel", "next", "()V"⟩, 31) := ⟨⟨by decide +kernel, by decide +kernel⟩, List.mem_of_getElem? (i := 833) (by decide +kernel), List.mem_of_getElem? (i := 943) (by decide +kernel), List.mem_of_getElem? (i := 944) (by decide +kernel)⟩
theorem lw_p9 : lw_okq (⟨"SeriesTablesModel", "tapeAt", "(I)I"⟩, 31) := ⟨⟨by decide +kernel, by decide +kernel⟩, List.mem_of_getElem? (i := 833) (by decide +kernel), List.mem_of_getElem? (i := 953) (by decide +kernel), List.mem_of_getElem? (i := 954) (by decide +kernel)⟩
theorem lw_p10 : lw_okq (⟨"SeriesTablesModel", "readLine", "()Z"⟩, 31) := ⟨⟨by decide +kernel, by decide +kernel⟩, List.mem_of_getElem? (i := 833) (by decide +kernel), List.mem_of_getElem? (i := 957) (by decide +kernel), List.mem_of_getElem? (i := 958) (by decide +kernel)⟩
theorem lw_p11 : lw_okq (⟨"SeriesTablesModel", "isWord", "(IIIIII)Z"⟩, 31) := ⟨⟨by decide +kernel, by decide +kernel⟩, List.mem_of_getElem? (i := 833) (by decide +kernel), List.mem_of_getElem? (i := 961) (by decide +kernel), List.mem_of_getElem? (i := 962) (by decide +kernel)⟩
theorem lw_p12 : lw_okq (⟨"SeriesTablesModel", "readSize", "()Z"⟩, 31) := ⟨⟨by decide +kernel, by decide +kernel⟩, List.mem_of_getElem? (i := 833) (by decide +kernel), List.mem_of_getElem? (i := 965) (by decide +kernel), List.mem_of_getElem? (i := 966) (by decide +kernel)⟩
theorem lw_p13 : lw_okq (⟨"SeriesTablesModel", "bad", "(I)Z"⟩, 31) := ⟨⟨by decide +kernel, by decide +kernel⟩, List.mem_of_getElem? (i := 833) (by decide +kernel), List.mem_of_getElem? (i := 969) (by decide +kernel), List.mem_of_getElem? (i := 970) (by decide +kernel)⟩
theorem lw_p14 : lw_okq (⟨"SeriesTablesModel", "readSeries", "()Z"⟩, 31) := ⟨⟨by decide +kernel, by decide +kernel⟩, List.mem_of_getElem? (i := 833) (by decide +kernel), List.mem_of_getElem? (i := 976) (by decide +kernel), List.mem_of_getElem? (i := 977) (by decide +kernel)⟩
theorem lw_p15 : lw_okq (⟨"SeriesTablesModel", "readSum", "([IZ)Z"⟩, 31) := ⟨⟨by decide +kernel, by decide +kernel⟩, List.mem_of_getElem? (i := 833) (by decide +kernel), List.mem_of_getElem? (i := 980) (by decide +kernel), List.mem_of_getElem? (i := 981) (by decide +kernel)⟩
def lw_privs_1 : List (MethodName × Nat) := [(⟨"SeriesTables", "isSeries", "(I)Z"⟩, 11), (⟨"SeriesTables", "isWithinSize", "(I)Z"⟩, 11), (⟨"SeriesTables", "landSeries", "([II)I"⟩, 11), (⟨"SeriesTables", "isTable", "(I)Z"⟩, 11), (⟨"SeriesTables", "landTable", "(I)I"⟩, 11), (⟨"java/lang/Throwable", "fillInStackTrace", "(I)Ljava/lang/Throwable;"⟩, 6), (⟨"SeriesTables", "isWithinProduction", "(I)Z"⟩, 11), (⟨"SeriesTablesModel", "lays", "(I)V"⟩, 31), (⟨"SeriesTablesModel", "next", "()V"⟩, 31), (⟨"SeriesTablesModel", "tapeAt", "(I)I"⟩, 31), (⟨"SeriesTablesModel", "readLine", "()Z"⟩, 31), (⟨"SeriesTablesModel", "isWord", "(IIIIII)Z"⟩, 31), (⟨"SeriesTablesModel", "readSize", "()Z"⟩, 31), (⟨"SeriesTablesModel", "bad", "(I)Z"⟩, 31), (⟨"SeriesTablesModel", "readSeries", "()Z"⟩, 31), (⟨"SeriesTablesModel", "readSum", "([IZ)Z"⟩, 31)]
theorem lw_r1 : ∀ q ∈ lw_privs_1, lw_okq q := List.forall_mem_cons.mpr ⟨lw_p0, List.forall_mem_cons.mpr ⟨lw_p1, List.forall_mem_cons.mpr ⟨lw_p2, List.forall_mem_cons.mpr ⟨lw_p3, List.forall_mem_cons.mpr ⟨lw_p4, List.forall_mem_cons.mpr ⟨lw_p5, List.forall_mem_cons.mpr ⟨lw_p6, List.forall_mem_cons.mpr ⟨lw_p7, List.forall_mem_cons.mpr ⟨lw_p8, List.forall_mem_cons.mpr ⟨lw_p9, List.forall_mem_cons.mpr ⟨lw_p10, List.forall_mem_cons.mpr ⟨lw_p11, List.forall_mem_cons.mpr ⟨lw_p12, List.forall_mem_cons.mpr ⟨lw_p13, List.forall_mem_cons.mpr ⟨lw_p14, List.forall_mem_cons.mpr ⟨lw_p15, fun _ h => absurd h List.not_mem_nil⟩⟩⟩⟩⟩⟩⟩⟩⟩⟩⟩⟩⟩⟩⟩⟩
theorem lw_p16 : lw_okq (⟨"SeriesTablesModel", "readTable", "()Z"⟩, 31) := ⟨⟨by decide +kernel, by decide +kernel⟩, List.mem_of_getElem? (i := 833) (by decide +kernel), List.mem_of_getElem? (i := 995) (by decide +kernel), List.mem_of_getElem? (i := 996) (by decide +kernel)⟩
theorem lw_p17 : lw_okq (⟨"SeriesTablesModel", "readEnd", "()Z"⟩, 31) := ⟨⟨by decide +kernel, by decide +kernel⟩, List.mem_of_getElem? (i := 833) (by decide +kernel), List.mem_of_getElem? (i := 1002) (by decide +kernel), List.mem_of_getElem? (i := 1003) (by decide +kernel)⟩
theorem lw_p18 : lw_okq (⟨"SeriesTablesModel", "wide", "()I"⟩, 31) := ⟨⟨by decide +kernel, by decide +kernel⟩, List.mem_of_getElem? (i := 833) (by decide +kernel), List.mem_of_getElem? (i := 1017) (by decide +kernel), List.mem_of_getElem? (i := 1018) (by decide +kernel)⟩
theorem lw_p19 : lw_okq (⟨"SeriesTablesModel", "isSeries", "(I)Z"⟩, 31) := ⟨⟨by decide +kernel, by decide +kernel⟩, List.mem_of_getElem? (i := 833) (by decide +kernel), List.mem_of_getElem? (i := 1025) (by decide +kernel), List.mem_of_getElem? (i := 1026) (by decide +kernel)⟩
theorem lw_p20 : lw_okq (⟨"SeriesTablesModel", "isPlace", "(I)Z"⟩, 31) := ⟨⟨by decide +kernel, by decide +kernel⟩, List.mem_of_getElem? (i := 833) (by decide +kernel), List.mem_of_getElem? (i := 1029) (by decide +kernel), List.mem_of_getElem? (i := 1030) (by decide +kernel)⟩
theorem lw_p21 : lw_okq (⟨"SeriesTablesModel", "snap", "()V"⟩, 31) := ⟨⟨by decide +kernel, by decide +kernel⟩, List.mem_of_getElem? (i := 833) (by decide +kernel), List.mem_of_getElem? (i := 1037) (by decide +kernel), List.mem_of_getElem? (i := 1038) (by decide +kernel)⟩
theorem lw_p22 : lw_okq (⟨"SeriesTablesModel", "takes", "(I[I)V"⟩, 31) := ⟨⟨by decide +kernel, by decide +kernel⟩, List.mem_of_getElem? (i := 833) (by decide +kernel), List.mem_of_getElem? (i := 1045) (by decide +kernel), List.mem_of_getElem? (i := 1046) (by decide +kernel)⟩
theorem lw_p23 : lw_okq (⟨"SeriesTablesModel", "laysUnit", "()V"⟩, 31) := ⟨⟨by decide +kernel, by decide +kernel⟩, List.mem_of_getElem? (i := 833) (by decide +kernel), List.mem_of_getElem? (i := 1052) (by decide +kernel), List.mem_of_getElem? (i := 1053) (by decide +kernel)⟩
theorem lw_p24 : lw_okq (⟨"SeriesTablesModel", "columns", "([I[I[I)V"⟩, 31) := ⟨⟨by decide +kernel, by decide +kernel⟩, List.mem_of_getElem? (i := 833) (by decide +kernel), List.mem_of_getElem? (i := 1056) (by decide +kernel), List.mem_of_getElem? (i := 1057) (by decide +kernel)⟩
theorem lw_p25 : lw_okq (⟨"SeriesTablesModel", "makes", "([I[I[I)V"⟩, 31) := ⟨⟨by decide +kernel, by decide +kernel⟩, List.mem_of_getElem? (i := 833) (by decide +kernel), List.mem_of_getElem? (i := 1060) (by decide +kernel), List.mem_of_getElem? (i := 1061) (by decide +kernel)⟩
theorem lw_p26 : lw_okq (⟨"SeriesTablesModel", "comes", "([III)I"⟩, 31) := ⟨⟨by decide +kernel, by decide +kernel⟩, List.mem_of_getElem? (i := 833) (by decide +kernel), List.mem_of_getElem? (i := 1064) (by decide +kernel), List.mem_of_getElem? (i := 1065) (by decide +kernel)⟩
theorem lw_p27 : lw_okq (⟨"SeriesTablesModel", "reverses", "([I[I)V"⟩, 31) := ⟨⟨by decide +kernel, by decide +kernel⟩, List.mem_of_getElem? (i := 833) (by decide +kernel), List.mem_of_getElem? (i := 1072) (by decide +kernel), List.mem_of_getElem? (i := 1073) (by decide +kernel)⟩
theorem lw_p28 : lw_okq (⟨"SeriesTablesModel", "isTable", "(I)Z"⟩, 31) := ⟨⟨by decide +kernel, by decide +kernel⟩, List.mem_of_getElem? (i := 833) (by decide +kernel), List.mem_of_getElem? (i := 1090) (by decide +kernel), List.mem_of_getElem? (i := 1091) (by decide +kernel)⟩
theorem lw_p29 : lw_okq (⟨"SeriesTablesModel", "comesAs", "([II)I"⟩, 31) := ⟨⟨by decide +kernel, by decide +kernel⟩, List.mem_of_getElem? (i := 833) (by decide +kernel), List.mem_of_getElem? (i := 1094) (by decide +kernel), List.mem_of_getElem? (i := 1095) (by decide +kernel)⟩
theorem lw_p30 : lw_okq (⟨"SeriesTablesModel", "refuse", "()I"⟩, 31) := ⟨⟨by decide +kernel, by decide +kernel⟩, List.mem_of_getElem? (i := 833) (by decide +kernel), List.mem_of_getElem? (i := 1102) (by decide +kernel), List.mem_of_getElem? (i := 1103) (by decide +kernel)⟩
theorem lw_p31 : lw_okq (⟨"SeriesTablesModel", "matrix", "(I[I)V"⟩, 31) := ⟨⟨by decide +kernel, by decide +kernel⟩, List.mem_of_getElem? (i := 833) (by decide +kernel), List.mem_of_getElem? (i := 1106) (by decide +kernel), List.mem_of_getElem? (i := 1107) (by decide +kernel)⟩
def lw_privs_2 : List (MethodName × Nat) := [(⟨"SeriesTablesModel", "readTable", "()Z"⟩, 31), (⟨"SeriesTablesModel", "readEnd", "()Z"⟩, 31), (⟨"SeriesTablesModel", "wide", "()I"⟩, 31), (⟨"SeriesTablesModel", "isSeries", "(I)Z"⟩, 31), (⟨"SeriesTablesModel", "isPlace", "(I)Z"⟩, 31), (⟨"SeriesTablesModel", "snap", "()V"⟩, 31), (⟨"SeriesTablesModel", "takes", "(I[I)V"⟩, 31), (⟨"SeriesTablesModel", "laysUnit", "()V"⟩, 31), (⟨"SeriesTablesModel", "columns", "([I[I[I)V"⟩, 31), (⟨"SeriesTablesModel", "makes", "([I[I[I)V"⟩, 31), (⟨"SeriesTablesModel", "comes", "([III)I"⟩, 31), (⟨"SeriesTablesModel", "reverses", "([I[I)V"⟩, 31), (⟨"SeriesTablesModel", "isTable", "(I)Z"⟩, 31), (⟨"SeriesTablesModel", "comesAs", "([II)I"⟩, 31), (⟨"SeriesTablesModel", "refuse", "()I"⟩, 31), (⟨"SeriesTablesModel", "matrix", "(I[I)V"⟩, 31)]
theorem lw_r2 : ∀ q ∈ lw_privs_2, lw_okq q := List.forall_mem_cons.mpr ⟨lw_p16, List.forall_mem_cons.mpr ⟨lw_p17, List.forall_mem_cons.mpr ⟨lw_p18, List.forall_mem_cons.mpr ⟨lw_p19, List.forall_mem_cons.mpr ⟨lw_p20, List.forall_mem_cons.mpr ⟨lw_p21, List.forall_mem_cons.mpr ⟨lw_p22, List.forall_mem_cons.mpr ⟨lw_p23, List.forall_mem_cons.mpr ⟨lw_p24, List.forall_mem_cons.mpr ⟨lw_p25, List.forall_mem_cons.mpr ⟨lw_p26, List.forall_mem_cons.mpr ⟨lw_p27, List.forall_mem_cons.mpr ⟨lw_p28, List.forall_mem_cons.mpr ⟨lw_p29, List.forall_mem_cons.mpr ⟨lw_p30, List.forall_mem_cons.mpr ⟨lw_p31, fun _ h => absurd h List.not_mem_nil⟩⟩⟩⟩⟩⟩⟩⟩⟩⟩⟩⟩⟩⟩⟩⟩
theorem lw_p32 : lw_okq (⟨"SeriesTablesModel", "laysProduction", "(I)V"⟩, 31) := ⟨⟨by decide +kernel, by decide +kernel⟩, List.mem_of_getElem? (i := 833) (by decide +kernel), List.mem_of_getElem? (i := 1125) (by decide +kernel), List.mem_of_getElem? (i := 1126) (by decide +kernel)⟩
theorem lw_p33 : lw_okq (⟨"SeriesTablesModel", "kindsOf", "(I)I"⟩, 31) := ⟨⟨by decide +kernel, by decide +kernel⟩, List.mem_of_getElem? (i := 833) (by decide +kernel), List.mem_of_getElem? (i := 1145) (by decide +kernel), List.mem_of_getElem? (i := 1146) (by decide +kernel)⟩
theorem lw_p34 : lw_okq (⟨"SeriesTablesModel", "unlikeAt", "([I[I)I"⟩, 31) := ⟨⟨by decide +kernel, by decide +kernel⟩, List.mem_of_getElem? (i := 833) (by decide +kernel), List.mem_of_getElem? (i := 1149) (by decide +kernel), List.mem_of_getElem? (i := 1150) (by decide +kernel)⟩
theorem lw_p35 : lw_okq (⟨"SeriesTablesModel", "unlikeNow", "()I"⟩, 31) := ⟨⟨by decide +kernel, by decide +kernel⟩, List.mem_of_getElem? (i := 833) (by decide +kernel), List.mem_of_getElem? (i := 1177) (by decide +kernel), List.mem_of_getElem? (i := 1178) (by decide +kernel)⟩
theorem lw_p36 : lw_okq (⟨"SeriesTablesModel", "draw", "(I)I"⟩, 31) := ⟨⟨by decide +kernel, by decide +kernel⟩, List.mem_of_getElem? (i := 833) (by decide +kernel), List.mem_of_getElem? (i := 1189) (by decide +kernel), List.mem_of_getElem? (i := 1190) (by decide +kernel)⟩
def lw_privs_3 : List (MethodName × Nat) := [(⟨"SeriesTablesModel", "laysProduction", "(I)V"⟩, 31), (⟨"SeriesTablesModel", "kindsOf", "(I)I"⟩, 31), (⟨"SeriesTablesModel", "unlikeAt", "([I[I)I"⟩, 31), (⟨"SeriesTablesModel", "unlikeNow", "()I"⟩, 31), (⟨"SeriesTablesModel", "draw", "(I)I"⟩, 31)]
theorem lw_r3 : ∀ q ∈ lw_privs_3, lw_okq q := List.forall_mem_cons.mpr ⟨lw_p32, List.forall_mem_cons.mpr ⟨lw_p33, List.forall_mem_cons.mpr ⟨lw_p34, List.forall_mem_cons.mpr ⟨lw_p35, List.forall_mem_cons.mpr ⟨lw_p36, fun _ h => absurd h List.not_mem_nil⟩⟩⟩⟩⟩
def lw_privs : List (MethodName × Nat) := lw_privs_1 ++ (lw_privs_2 ++ (lw_privs_3))
def lw_tbl : List Cond := k2_sels lw_privs ++ tables_1
theorem lw_privs_ok : ∀ q ∈ lw_privs, lw_okq q := by
  show ∀ q ∈ lw_privs_1 ++ (lw_privs_2 ++ (lw_privs_3)), lw_okq q
  exact List.forall_mem_append.mpr ⟨lw_r1, List.forall_mem_append.mpr ⟨lw_r2, lw_r3⟩⟩
end
section
def RX0 : String := "SeriesTables$History"
def TX0 : u_T := fun k => match k with
  | 0 => ("SeriesTables$History", "ring", "[LSeriesTables$State;", true)
  | 1 => ("SeriesTables$History", "kept", "I", false)
  | _ => ("SeriesTables$History", "next", "I", false)
def tyX0 : Nat → FieldType := fun k => match k with
  | 0 => .array (.object "SeriesTables$State")
  | 1 => .int
  | _ => .int
theorem nmX0 : ∀ a, a < 3 → ∀ b, b < 3 → a ≠ b → (TX0 a).2.1 ≠ (TX0 b).2.1 := by decide +kernel
theorem tyX0_ok : ∀ k, k < 3 → parseFieldDescriptor (TX0 k).2.2.1 = some (tyX0 k) := by decide +kernel
def RX1 : String := "SeriesTables$Reader"
def TX1 : u_T := fun k => match k with
  | 0 => ("SeriesTables$Reader", "draft", "LSeriesTables$State;", true)
  | 1 => ("SeriesTables$Reader", "tape", "LSeriesTables$Tape;", true)
  | 2 => ("SeriesTables$Reader", "divisor", "[I", true)
  | 3 => ("SeriesTables$Reader", "place", "I", false)
  | 4 => ("SeriesTables$Reader", "token", "I", false)
  | 5 => ("SeriesTables$Reader", "tokenPlace", "I", false)
  | 6 => ("SeriesTables$Reader", "number", "I", false)
  | 7 => ("SeriesTables$Reader", "lines", "I", false)
  | 8 => ("SeriesTables$Reader", "seriesTold", "I", false)
  | 9 => ("SeriesTables$Reader", "tablesTold", "I", false)
  | 10 => ("SeriesTables$Reader", "faultKind", "I", false)
  | _ => ("SeriesTables$Reader", "faultPlace", "I", false)
def tyX1 : Nat → FieldType := fun k => match k with
  | 0 => .object "SeriesTables$State"
  | 1 => .object "SeriesTables$Tape"
  | 2 => .array .int
  | 3 => .int
  | 4 => .int
  | 5 => .int
  | 6 => .int
  | 7 => .int
  | 8 => .int
  | 9 => .int
  | 10 => .int
  | _ => .int
theorem nmX1 : ∀ a, a < 12 → ∀ b, b < 12 → a ≠ b → (TX1 a).2.1 ≠ (TX1 b).2.1 := by decide +kernel
theorem tyX1_ok : ∀ k, k < 12 → parseFieldDescriptor (TX1 k).2.2.1 = some (tyX1 k) := by decide +kernel
def RX2 : String := "SeriesTables$Rows"
def RX3 : String := "SeriesTables$SeriesBench"
def TX3 : u_T := fun k => match k with
  | 0 => ("SeriesTables$SeriesBench", "result", "[I", true)
  | 1 => ("SeriesTables$SeriesBench", "spare", "[I", true)
  | _ => ("SeriesTables$SeriesBench", "quotient", "[I", true)
def tyX3 : Nat → FieldType := fun k => match k with
  | 0 => .array .int
  | 1 => .array .int
  | _ => .array .int
theorem nmX3 : ∀ a, a < 3 → ∀ b, b < 3 → a ≠ b → (TX3 a).2.1 ≠ (TX3 b).2.1 := by decide +kernel
theorem tyX3_ok : ∀ k, k < 3 → parseFieldDescriptor (TX3 k).2.2.1 = some (tyX3 k) := by decide +kernel
def RX4 : String := "SeriesTables$State"
def TX4 : u_T := fun k => match k with
  | 0 => ("SeriesTables$State", "series", "[[I", true)
  | 1 => ("SeriesTables$State", "tables", "[LSeriesTables$Table;", true)
  | 2 => ("SeriesTables$State", "free", "[[I", true)
  | _ => ("SeriesTables$State", "size", "I", false)
def tyX4 : Nat → FieldType := fun k => match k with
  | 0 => .array (.array .int)
  | 1 => .array (.object "SeriesTables$Table")
  | 2 => .array (.array .int)
  | _ => .int
theorem nmX4 : ∀ a, a < 4 → ∀ b, b < 4 → a ≠ b → (TX4 a).2.1 ≠ (TX4 b).2.1 := by decide +kernel
theorem tyX4_ok : ∀ k, k < 4 → parseFieldDescriptor (TX4 k).2.2.1 = some (tyX4 k) := by decide +kernel
def RX5 : String := "SeriesTables$Table"
def TX5 : u_T := fun k => match k with
  | 0 => ("SeriesTables$Table", "g", "[I", true)
  | _ => ("SeriesTables$Table", "f", "[I", true)
def tyX5 : Nat → FieldType := fun k => match k with
  | 0 => .array .int
  | _ => .array .int
theorem nmX5 : ∀ a, a < 2 → ∀ b, b < 2 → a ≠ b → (TX5 a).2.1 ≠ (TX5 b).2.1 := by decide +kernel
theorem tyX5_ok : ∀ k, k < 2 → parseFieldDescriptor (TX5 k).2.2.1 = some (tyX5 k) := by decide +kernel
def RX6 : String := "SeriesTables$TableBench"
def TX6 : u_T := fun k => match k with
  | 0 => ("SeriesTables$TableBench", "result", "LSeriesTables$Table;", true)
  | 1 => ("SeriesTables$TableBench", "second", "LSeriesTables$Table;", true)
  | 2 => ("SeriesTables$TableBench", "third", "LSeriesTables$Table;", true)
  | 3 => ("SeriesTables$TableBench", "row", "[I", true)
  | 4 => ("SeriesTables$TableBench", "reversed", "[I", true)
  | 5 => ("SeriesTables$TableBench", "spare", "[I", true)
  | 6 => ("SeriesTables$TableBench", "columns", "[[I", true)
  | 7 => ("SeriesTables$TableBench", "otherColumns", "[[I", true)
  | _ => ("SeriesTables$TableBench", "seriesBench", "LSeriesTables$SeriesBench;", true)
def tyX6 : Nat → FieldType := fun k => match k with
  | 0 => .object "SeriesTables$Table"
  | 1 => .object "SeriesTables$Table"
  | 2 => .object "SeriesTables$Table"
  | 3 => .array .int
  | 4 => .array .int
  | 5 => .array .int
  | 6 => .array (.array .int)
  | 7 => .array (.array .int)
  | _ => .object "SeriesTables$SeriesBench"
theorem nmX6 : ∀ a, a < 9 → ∀ b, b < 9 → a ≠ b → (TX6 a).2.1 ≠ (TX6 b).2.1 := by decide +kernel
theorem tyX6_ok : ∀ k, k < 9 → parseFieldDescriptor (TX6 k).2.2.1 = some (tyX6 k) := by decide +kernel
def RX7 : String := "SeriesTables$Tape"
def TX7 : u_T := fun k => match k with
  | 0 => ("SeriesTables$Tape", "bytes", "[B", true)
  | _ => ("SeriesTables$Tape", "length", "I", false)
def tyX7 : Nat → FieldType := fun k => match k with
  | 0 => .array .byte
  | _ => .int
theorem nmX7 : ∀ a, a < 2 → ∀ b, b < 2 → a ≠ b → (TX7 a).2.1 ≠ (TX7 b).2.1 := by decide +kernel
theorem tyX7_ok : ∀ k, k < 2 → parseFieldDescriptor (TX7 k).2.2.1 = some (tyX7 k) := by decide +kernel
def RX8 : String := "SeriesTables"
def TX8 : u_T := fun k => match k with
  | 0 => ("SeriesTables", "tape", "LSeriesTables$Tape;", true)
  | 1 => ("SeriesTables", "reader", "LSeriesTables$Reader;", true)
  | 2 => ("SeriesTables", "state", "LSeriesTables$State;", true)
  | 3 => ("SeriesTables", "history", "LSeriesTables$History;", true)
  | 4 => ("SeriesTables", "images", "[LSeriesTables$State;", true)
  | 5 => ("SeriesTables", "imageKept", "[Z", true)
  | 6 => ("SeriesTables", "seriesBench", "LSeriesTables$SeriesBench;", true)
  | 7 => ("SeriesTables", "tableBench", "LSeriesTables$TableBench;", true)
  | 8 => ("SeriesTables", "faultKind", "I", false)
  | 9 => ("SeriesTables", "seriesTold", "I", false)
  | _ => ("SeriesTables", "tablesTold", "I", false)
def tyX8 : Nat → FieldType := fun k => match k with
  | 0 => .object "SeriesTables$Tape"
  | 1 => .object "SeriesTables$Reader"
  | 2 => .object "SeriesTables$State"
  | 3 => .object "SeriesTables$History"
  | 4 => .array (.object "SeriesTables$State")
  | 5 => .array .boolean
  | 6 => .object "SeriesTables$SeriesBench"
  | 7 => .object "SeriesTables$TableBench"
  | 8 => .int
  | 9 => .int
  | _ => .int
theorem nmX8 : ∀ a, a < 11 → ∀ b, b < 11 → a ≠ b → (TX8 a).2.1 ≠ (TX8 b).2.1 := by decide +kernel
theorem tyX8_ok : ∀ k, k < 11 → parseFieldDescriptor (TX8 k).2.2.1 = some (tyX8 k) := by decide +kernel
def RX9 : String := "SeriesTablesModel"
def TX9 : u_T := fun k => match k with
  | 0 => ("SeriesTablesModel", "thrown", "I", false)
  | 1 => ("SeriesTablesModel", "tape", "[I", true)
  | 2 => ("SeriesTablesModel", "taped", "I", false)
  | 3 => ("SeriesTablesModel", "size", "I", false)
  | 4 => ("SeriesTablesModel", "to", "I", false)
  | 5 => ("SeriesTablesModel", "from", "I", false)
  | 6 => ("SeriesTablesModel", "kind", "I", false)
  | 7 => ("SeriesTablesModel", "number", "I", false)
  | 8 => ("SeriesTablesModel", "fault", "I", false)
  | 9 => ("SeriesTablesModel", "place", "I", false)
  | 10 => ("SeriesTablesModel", "now", "[I", true)
  | 11 => ("SeriesTablesModel", "read", "[I", true)
  | 12 => ("SeriesTablesModel", "kept", "[I", true)
  | 13 => ("SeriesTablesModel", "snaps", "[I", true)
  | 14 => ("SeriesTablesModel", "isKept", "[Z", true)
  | 15 => ("SeriesTablesModel", "snapMany", "I", false)
  | 16 => ("SeriesTablesModel", "seriesTold", "I", false)
  | 17 => ("SeriesTablesModel", "tablesTold", "I", false)
  | 18 => ("SeriesTablesModel", "seriesRead", "I", false)
  | 19 => ("SeriesTablesModel", "tablesRead", "I", false)
  | 20 => ("SeriesTablesModel", "up", "[I", true)
  | 21 => ("SeriesTablesModel", "low", "[I", true)
  | 22 => ("SeriesTablesModel", "made", "[I", true)
  | 23 => ("SeriesTablesModel", "helper", "[I", true)
  | 24 => ("SeriesTablesModel", "other", "[I", true)
  | 25 => ("SeriesTablesModel", "one", "[I", true)
  | 26 => ("SeriesTablesModel", "two", "[I", true)
  | 27 => ("SeriesTablesModel", "three", "[I", true)
  | 28 => ("SeriesTablesModel", "spare", "[I", true)
  | 29 => ("SeriesTablesModel", "unit", "[I", true)
  | _ => ("SeriesTablesModel", "seed", "I", false)
def tyX9 : Nat → FieldType := fun k => match k with
  | 0 => .int
  | 1 => .array .int
  | 2 => .int
  | 3 => .int
  | 4 => .int
  | 5 => .int
  | 6 => .int
  | 7 => .int
  | 8 => .int
  | 9 => .int
  | 10 => .array .int
  | 11 => .array .int
  | 12 => .array .int
  | 13 => .array .int
  | 14 => .array .boolean
  | 15 => .int
  | 16 => .int
  | 17 => .int
  | 18 => .int
  | 19 => .int
  | 20 => .array .int
  | 21 => .array .int
  | 22 => .array .int
  | 23 => .array .int
  | 24 => .array .int
  | 25 => .array .int
  | 26 => .array .int
  | 27 => .array .int
  | 28 => .array .int
  | 29 => .array .int
  | _ => .int
theorem nmX9 : ∀ a, a < 31 → ∀ b, b < 31 → a ≠ b → (TX9 a).2.1 ≠ (TX9 b).2.1 := by decide +kernel
theorem tyX9_ok : ∀ k, k < 31 → parseFieldDescriptor (TX9 k).2.2.1 = some (tyX9 k) := by decide +kernel
abbrev vwCl : List vw_C := [(RX0, TX0, 3), (RX1, TX1, 12), (RX3, TX3, 3), (RX4, TX4, 4), (RX5, TX5, 2), (RX6, TX6, 9), (RX7, TX7, 2), (RX8, TX8, 11), (RX9, TX9, 31)]
def fC (ci : Nat) : String := match ci with
  | 0 => RX0
  | 1 => RX1
  | 2 => RX3
  | 3 => RX4
  | 4 => RX5
  | 5 => RX6
  | 6 => RX7
  | 7 => RX8
  | _ => RX9
def fT (ci : Nat) : u_T := match ci with
  | 0 => TX0
  | 1 => TX1
  | 2 => TX3
  | 3 => TX4
  | 4 => TX5
  | 5 => TX6
  | 6 => TX7
  | 7 => TX8
  | _ => TX9
def fY (ci : Nat) : Nat → FieldType := match ci with
  | 0 => tyX0
  | 1 => tyX1
  | 2 => tyX3
  | 3 => tyX4
  | 4 => tyX5
  | 5 => tyX6
  | 6 => tyX7
  | 7 => tyX8
  | _ => tyX9
def nfl (ci : Nat) : Nat := match ci with
  | 0 => 3
  | 1 => 12
  | 2 => 3
  | 3 => 4
  | 4 => 2
  | 5 => 9
  | 6 => 2
  | 7 => 11
  | _ => 31
theorem fc_at : ∀ ci, ci < 9 → vwCl[ci]? = some (fC ci, fT ci, nfl ci) := by
  intro ci h
  match ci, h with
  | 0, _ => rfl
  | 1, _ => rfl
  | 2, _ => rfl
  | 3, _ => rfl
  | 4, _ => rfl
  | 5, _ => rfl
  | 6, _ => rfl
  | 7, _ => rfl
  | 8, _ => rfl
theorem fc_ty : ∀ ci, ci < 9 → ∀ k, k < nfl ci → parseFieldDescriptor (fT ci k).2.2.1 = some (fY ci k) := by decide +kernel
theorem fc_nm : ∀ ci, ci < 9 → ∀ a, a < nfl ci → ∀ b, b < nfl ci → a ≠ b → (fT ci a).2.1 ≠ (fT ci b).2.1 := by decide +kernel
def gt_ws : List Cond := lw_tbl.filter goodWord
theorem gt_in {w : Cond} (h : w ∈ lw_tbl) (hg : goodWord w = true) : w ∈ gt_ws := List.mem_filter.mpr ⟨h, hg⟩
theorem gt_good {w : Cond} (h : w ∈ gt_ws) : (w.onTables && w.keeps) = true ∨ ∃ ty, w = .arrayClass ty := good_of_word (List.mem_filter.mp h).2
theorem fc_ws0 : ∀ w ∈ u_ws RX0 TX0 3, w ∈ gt_ws := fun w h => gt_in ((show ∀ w ∈ u_ws RX0 TX0 3, w ∈ lw_tbl by decide +kernel) w h) ((show ∀ w ∈ u_ws RX0 TX0 3, goodWord w = true by decide +kernel) w h)
theorem fc_ws1 : ∀ w ∈ u_ws RX1 TX1 12, w ∈ gt_ws := fun w h => gt_in ((show ∀ w ∈ u_ws RX1 TX1 12, w ∈ lw_tbl by decide +kernel) w h) ((show ∀ w ∈ u_ws RX1 TX1 12, goodWord w = true by decide +kernel) w h)
theorem fc_ws2 : ∀ w ∈ u_ws RX3 TX3 3, w ∈ gt_ws := fun w h => gt_in ((show ∀ w ∈ u_ws RX3 TX3 3, w ∈ lw_tbl by decide +kernel) w h) ((show ∀ w ∈ u_ws RX3 TX3 3, goodWord w = true by decide +kernel) w h)
theorem fc_ws3 : ∀ w ∈ u_ws RX4 TX4 4, w ∈ gt_ws := fun w h => gt_in ((show ∀ w ∈ u_ws RX4 TX4 4, w ∈ lw_tbl by decide +kernel) w h) ((show ∀ w ∈ u_ws RX4 TX4 4, goodWord w = true by decide +kernel) w h)
theorem fc_ws4 : ∀ w ∈ u_ws RX5 TX5 2, w ∈ gt_ws := fun w h => gt_in ((show ∀ w ∈ u_ws RX5 TX5 2, w ∈ lw_tbl by decide +kernel) w h) ((show ∀ w ∈ u_ws RX5 TX5 2, goodWord w = true by decide +kernel) w h)
theorem fc_ws5 : ∀ w ∈ u_ws RX6 TX6 9, w ∈ gt_ws := fun w h => gt_in ((show ∀ w ∈ u_ws RX6 TX6 9, w ∈ lw_tbl by decide +kernel) w h) ((show ∀ w ∈ u_ws RX6 TX6 9, goodWord w = true by decide +kernel) w h)
theorem fc_ws6 : ∀ w ∈ u_ws RX7 TX7 2, w ∈ gt_ws := fun w h => gt_in ((show ∀ w ∈ u_ws RX7 TX7 2, w ∈ lw_tbl by decide +kernel) w h) ((show ∀ w ∈ u_ws RX7 TX7 2, goodWord w = true by decide +kernel) w h)
theorem fc_ws7 : ∀ w ∈ u_ws RX8 TX8 11, w ∈ gt_ws := fun w h => gt_in ((show ∀ w ∈ u_ws RX8 TX8 11, w ∈ lw_tbl by decide +kernel) w h) ((show ∀ w ∈ u_ws RX8 TX8 11, goodWord w = true by decide +kernel) w h)
theorem fc_ws8 : ∀ w ∈ u_ws RX9 TX9 31, w ∈ gt_ws := fun w h => gt_in ((show ∀ w ∈ u_ws RX9 TX9 31, w ∈ lw_tbl by decide +kernel) w h) ((show ∀ w ∈ u_ws RX9 TX9 31, goodWord w = true by decide +kernel) w h)
theorem fc_ws : ∀ ci, ci < 9 → ∀ w ∈ u_ws (fC ci) (fT ci) (nfl ci), w ∈ gt_ws := by
  intro ci h
  match ci, h with
  | 0, _ => exact fc_ws0
  | 1, _ => exact fc_ws1
  | 2, _ => exact fc_ws2
  | 3, _ => exact fc_ws3
  | 4, _ => exact fc_ws4
  | 5, _ => exact fc_ws5
  | 6, _ => exact fc_ws6
  | 7, _ => exact fc_ws7
  | 8, _ => exact fc_ws8
end
section
/-! A method: its class's name, its name, its bytes, maxLocals, what it returns, how deep it calls -/
abbrev MD : Type := String × MethodName × ByteArray × Nat × Option FieldType × Nat
def mcls (m : MD) : String := m.1
def mnam (m : MD) : MethodName := m.2.1
def mbt (m : MD) : ByteArray := m.2.2.1
def mml (m : MD) : Nat := m.2.2.2.1
def mrt (m : MD) : Option FieldType := m.2.2.2.2.1
def mdp (m : MD) : Nat := m.2.2.2.2.2
def mws (m : MD) : List Cond := .code (mnam m) (mbt m) (mml m) (mrt m) :: gt_ws
/-! The fixed things of one run: the law's first state, class numbers, slots, array classes, other addresses -/
abbrev OM : Type := State × (Nat → ClassId) × (Nat → Nat → Nat) × (Nat → ClassId) × (Nat → Nat)
def os0 (o : OM) : State := o.1
def ob0 (o : OM) : Nat := o.1.heap.size
def oH0 (o : OM) : Heap := o.1.heap
def odC (o : OM) : Nat → ClassId := o.2.1
def odI (o : OM) : Nat → Nat → Nat := o.2.2.1
def odA (o : OM) : Nat → ClassId := o.2.2.2.1
def oad (o : OM) : Nat → Nat := o.2.2.2.2
def oD (o : OM) : va_G := (odC o, odI o)
def aty (t : Nat) : FieldType := match t with
  | 1 => .int
  | 2 => .byte
  | 3 => .boolean
  | 4 => .long
  | 5 => .array .int
  | 6 => .object "SeriesTables$State"
  | _ => .object "SeriesTables$Table"
def oty (o : OM) : List (ClassId × FieldType) := (List.range 7).map (fun k => (odA o (k + 1), aty (k + 1)))
/-! The abstract heap: how many cells, what kind each is (tag, length), references, ints; addresses are counted from ob0 -/
abbrev AH : Type := Nat × (Nat → Nat × Nat) × (Nat → Nat → Option Nat) × (Nat → Nat → Int32)
def hN (h : AH) : Nat := h.1
def hT (h : AH) : Nat → Nat × Nat := h.2.1
def hR (h : AH) : Nat → Nat → Option Nat := h.2.2.1
def hI (h : AH) : Nat → Nat → Int32 := h.2.2.2
def upm {α : Type} (f : Nat → Nat → α) (a k : Nat) (v : α) : Nat → Nat → α := fun b => if b = a then (fun j => if j = k then v else f a j) else f b
def sI (h : AH) (a k : Nat) (v : Int32) : AH := (h.1, h.2.1, h.2.2.1, upm h.2.2.2 a k v)
def sR (h : AH) (a k : Nat) (v : Option Nat) : AH := (h.1, h.2.1, upm h.2.2.1 a k v, h.2.2.2)
theorem upm_eq {α : Type} (f : Nat → Nat → α) (a k : Nat) (v : α) : upm f a k v a = fun j => if j = k then v else f a j := by simp [upm]
theorem upm_ne {α : Type} (f : Nat → Nat → α) {a b : Nat} (k : Nat) (v : α) (h : b ≠ a) : upm f a k v b = f b := by simp [upm, h]
def fv (o : OM) : Value → Value
  | .ref a => .ref (ob0 o + a)
  | .retAddr k => .ref (oad o k)
  | v => v
def fr (o : OM) (r : Option Nat) : Value := va_rf (r.map (fun a => ob0 o + a))
def isR (t k : Nat) : Bool := match t with
  | 5 => true
  | 6 => true
  | 7 => true
  | 10 => k == 0
  | 11 => k < 3
  | 12 => true
  | 13 => k < 3
  | 14 => true
  | 15 => true
  | 16 => k == 0
  | 17 => k < 8
  | 18 => k == 1 || (10 ≤ k && k < 15) || (20 ≤ k && k < 30)
  | _ => false
def cv (o : OM) (t : Nat) (r : Nat → Option Nat) (i : Nat → Int32) (k : Nat) : Value := if isR t k = true then fr o (r k) else if t = 4 then .long (i k).toInt64 else .int (i k)
def okc (o : OM) (a : Nat) (t : Nat × Nat) (r : Nat → Option Nat) (i : Nat → Int32) (H : Heap) : Prop :=
  if t.1 < 10 then H[ob0 o + a]? = some (arrV (odA o t.1) t.2 (cv o t.1 r i))
  else t_OB (ob0 o + a) (odC o (t.1 - 10)) (nfl (t.1 - 10)) (odI o (t.1 - 10)) H (cv o t.1 r i)
def Rp (o : OM) (h : AH) (H : Heap) : Prop := H.size = ob0 o + hN h ∧ (∀ q : Nat, q < ob0 o → H[q]? = (oH0 o)[q]?) ∧ ∀ a : Nat, (hT h a).1 ≠ 0 → (hT h a).1 < 19 ∧ a < hN h ∧ okc o a (hT h a) (hR h a) (hI h a) H
def Lc (o : OM) (m : MD) (L : List (Option Value)) (ls : Array Slot) : Prop := ls.size = mml m ∧ lv_wf ls ∧ ∀ (i : Nat) (v : Value), L[i]? = some (some v) → ls[i]? = some (.val (fv o v))
def Kx (o : OM) (U : State) : Prop := va_K (oD o) vwCl (oty o) U ∧ (os0 o).WarmedH U.vm
theorem Kx.moved {o : OM} {s U : State} (hW : s.WarmedH U.vm) (h : Kx o s) : Kx o U := ⟨va_K.moved hW.alike h.1, h.2.trans hW⟩
def Cx (o : OM) (m : MD) (R : Room) (p : Program) (s : State) (mm : MethodId) (args : Array Value) (meth : Method) (c : Code) : Prop :=
  p.tables.exec = Jvm.exec ∧ c.code = mbt m ∧ meth.sig.returnType = mrt m ∧ c.maxLocals = mml m ∧ s.vm.findClass (mcls m) = some mm.cls ∧ (∀ w ∈ gt_ws, w.before args s = true) ∧ Kx o s ∧ meth.locks = false ∧ meth.name = (mnam m).name ∧ mdp m ≤ R.frames ∧ 36 * mdp m ≤ R.locals
def RetAt (m : MD) (pc : Nat) (v : Option Value) : Prop :=
  (∃ (x : Int32) (ty : FieldType), v = some (.int x) ∧ mrt m = some ty ∧ narrow ty (.int x) = .int x ∧ decode (mbt m) pc = .ok (.ireturn, 1)) ∨
  (∃ x : Int64, v = some (.long x) ∧ mrt m = some .long ∧ decode (mbt m) pc = .ok (.lreturn, 1)) ∨
  (v = none ∧ mrt m = none ∧ decode (mbt m) pc = .ok (.return_, 1))
/-- from here, in any surrounding, the method comes to its end, with an answer and a heap that Q holds of -/
def Rn (o : OM) (l : Launch) (m : MD) (bg : Nat × Nat) (pc : Nat) (L : List (Option Value)) (st : List Value) (h : AH) (Q : Option Value → AH → Prop) : Prop :=
  ∀ (p : Program) (e : Env) (R : Room) (s : State) (mm : MethodId) (args : Array Value) (below : List Frame) (meth : Method) (c : Code) (H : Heap) (locs : List Loc) (cells slots : Nat) (Z : State → Prop) (ls : Array Slot),
    Cx o m R p s mm args meth c → cells + bg.1 ≤ R.cells → slots + bg.2 ≤ R.slots → Rp o h H → (∀ q ∈ locs, ob0 o ≤ q.base) → Lc o m L ls →
    (∀ (v : Option Value) (h' : AH) (H' : Heap) (locs' : List Loc) (cells' slots' pc' : Nat) (ls' : Array Slot), Q v h' → Rp o h' H' → (∀ q ∈ locs', ob0 o ≤ q.base) → cells' ≤ R.cells → slots' ≤ R.slots → RetAt m pc' v →
      W p l e R s mm args below meth c H' locs' cells' slots' Z (F0 mm pc' ls' (v.toList.map (fv o)))) →
    W p l e R s mm args below meth c H locs cells slots Z (F0 mm pc ls (st.map (fv o)))
def rmo (m : MD) (bg : Nat × Nat) : Room := { frames := mdp m, cells := bg.1, slots := bg.2, locals := 36 * mdp m }
def Pco (o : OM) (av : List Value) (h : AH) : Array Value → State → Prop := va_Pc (av.map (fv o)) (fun U => Rp o h U.heap ∧ Kx o U)
def Qco (o : OM) (Q : Option Value → AH → Prop) : Array Value → State → Outcome → State → Prop := fun _ _ oc t => ∃ (v : Option Value) (h' : AH), oc = .returned (v.map (fv o)) ∧ Q v h' ∧ Rp o h' t.heap
/-- the contract of a method: called with these, it returns, and Q holds of its answer and the heap -/
def Cl (o : OM) (l : Launch) (m : MD) (bg : Nat × Nat) (av : List Value) (h : AH) (Q : Option Value → AH → Prop) : Prop :=
  Met l (mnam m) (mws m) (rmo m bg) (Pco o av h) (Qco o Q) bg.1 bg.2 (fun q => ob0 o ≤ q)
theorem fv_cat (o : OM) (v : Value) : (fv o v).category = v.category := by cases v <;> rfl
def entL : List Value → Nat → List (Option Value)
  | [], n => List.replicate n none
  | v :: t, n => if v.category = 2 then some v :: none :: entL t (n - 2) else some v :: entL t (n - 1)
theorem entL_args (o : OM) : ∀ (vs : List Value) (n j i : Nat) (v : Value), (entL vs n)[i]? = some (some v) → (j + i, fv o v) ∈ lv_args j (vs.map (fv o)) := by
  intro vs
  induction vs with
  | nil => 
    intro n j i v h
    simp [entL, List.getElem?_replicate] at h
  | cons w t ih =>
    intro n j i v h
    simp only [List.map_cons, lv_args, fv_cat]
    by_cases hc : w.category = 2
    · simp only [entL, hc, if_true] at h ⊢
      match i, h with
      | 0, h => simp at h; subst h; exact List.mem_cons_self
      | 1, h => simp at h
      | i + 2, h =>
        have := ih (n - 2) (j + 2) i v (by simpa using h)
        exact List.mem_cons_of_mem _ (by rw [show j + (i + 2) = j + 2 + i by omega]; exact this)
    · simp only [entL, hc, if_false] at h ⊢
      match i, h with
      | 0, h => simp at h; subst h; exact List.mem_cons_self
      | i + 1, h =>
        have := ih (n - 1) (j + 1) i v (by simpa using h)
        exact List.mem_cons_of_mem _ (by rw [show j + (i + 1) = j + 1 + i by omega]; exact this)
theorem lg_len (o : OM) (vs : List Value) : (lg_sl (vs.map (fv o))).length = (lg_sl vs).length := by
  induction vs with
  | nil => rfl
  | cons v t ih =>
    simp only [lg_sl, List.map_cons, List.flatMap_cons, List.length_append, fv_cat] at ih ⊢
    rw [ih]
    by_cases h : v.category = 2 <;> simp [h]
theorem cl_of {o : OM} {l : Launch} {m : MD} {bg : Nat × Nat} {av : List Value} {h : AH} {Q : Option Value → AH → Prop} {L : List (Option Value)} (hp : plainName (mnam m).cls = true) (hcls : (mnam m).cls = mcls m) (hL : entL av (mml m) = L) (hlen : (lg_sl av).length ≤ mml m)
    (k : Rn o l m bg 0 L [] h Q) : Cl o l m bg av h Q := by
  refine Met.ofW (cc := mbt m) (maxL := mml m) (ret := mrt m) hp rfl ?_
  intro p e s mm args below meth c s₁ B hml hv
  obtain ⟨rfl, hRp, hK⟩ := hv
  have hts := atoms_spec (ws := mws m) B.pre
  have hown : s.vm.findClass (mnam m).cls = some mm.cls := findClass_of_methodNamed B.named
  have hlocks := B.notSynchronized
  have hr := B.returns
  have hx := B.exec
  have hb := B.bytes
  rw [lg_entry_eq]
  have hl := lv_entry (av.map (fv o)) (n := mml m) (by rw [lg_len]; exact hlen)
  refine k p e _ s mm _ below meth c s.heap [] 0 0 _ _ ⟨hx, hb, hr, hml, hcls ▸ hown, fun w hw => hts w (List.mem_cons_of_mem _ hw), hK, hlocks, (name_of_methodNamed B.named B.method).1, Nat.le_refl _, Nat.le_refl _⟩ (by show 0 + bg.1 ≤ bg.1; omega) (by show 0 + bg.2 ≤ bg.2; omega) hRp (fun q h => by cases h) ⟨hl.1, hl.2.1, fun i v hi => ?_⟩ ?_
  · have := entL_args o av (mml m) 0 i v (by rw [hL]; exact hi)
    rw [Nat.zero_add] at this
    exact hl.2.2 _ this
  · intro v h' H' locs' cells' slots' pc' ls' hQ hRp' hlo hc hs hret
    refine W.widen (k := bg.1) (n := bg.2) hc hs ?_
    rcases hret with ⟨x, ty, rfl, hty, hn, hd⟩ | ⟨x, rfl, hty, hd⟩ | ⟨rfl, hty, hd⟩
    · exact W.zret hx hb (hr.trans hty) hn (fun t ht hW => ⟨some (.int x), h', rfl, hQ, by rw [ht]; exact hRp'⟩) hlo hd
    · exact W.lret hx hb (hr.trans hty) (fun t ht hW => ⟨some (.long x), h', rfl, hQ, by rw [ht]; exact hRp'⟩) hlo hd
    · exact W.vret hx hb (hr.trans hty) (fun t ht hW => ⟨none, h', rfl, hQ, by rw [ht]; exact hRp'⟩) hlo hd
end
section
abbrev dd (m : MD) (pc : Nat) (i : Instr) (n pc' : Nat) : Prop := decode (mbt m) pc = .ok (i, n) ∧ pc + n = pc'
abbrev db (m : MD) (pc : Nat) (i : Int → Instr) (pc' tgt : Nat) : Prop := ∃ off : Int, decode (mbt m) pc = .ok (i off, 3) ∧ pc + 3 = pc' ∧ (pc : Int) + off = (tgt : Int)
def clr (L : List (Option Value)) : Nat → List (Option Value)
  | 0 => L
  | i + 1 => match L[i]? with
    | some (some w) => if w.category = 2 then L.set i none else L
    | _ => L
def st1 (L : List (Option Value)) (i : Nat) (v : Value) : List (Option Value) := (clr L i).set i (some v)
def st2 (L : List (Option Value)) (i : Nat) (v : Value) : List (Option Value) := ((clr L i).set i (some v)).set (i + 1) none
def lvp (o : OM) (L : List (Option Value)) : List (Nat × Value) := (List.range L.length).filterMap (fun i => match L[i]? with
  | some (some v) => some (i, fv o v)
  | _ => none)
theorem lvp_mem {o : OM} {L : List (Option Value)} {q : Nat × Value} : q ∈ lvp o L ↔ ∃ v, L[q.1]? = some (some v) ∧ q.2 = fv o v := by
  unfold lvp
  rw [List.mem_filterMap]
  constructor
  · rintro ⟨i, -, h⟩
    split at h
    next v hv => cases h; exact ⟨v, hv, rfl⟩
    next => cases h
  · rintro ⟨v, h1, h2⟩
    refine ⟨q.1, List.mem_range.mpr (List.getElem?_eq_some_iff.mp h1).1, ?_⟩
    rw [h1]
    simp only [← h2]
theorem Lc.has {o : OM} {m : MD} {L : List (Option Value)} {ls : Array Slot} (h : Lc o m L ls) : lv_has ls (mml m) (lvp o L) := by
  refine ⟨h.1, h.2.1, fun q hq => ?_⟩
  obtain ⟨v, h1, h2⟩ := lvp_mem.mp hq
  rw [h2]
  exact h.2.2 _ _ h1
theorem clr_get {L : List (Option Value)} {i j : Nat} {w : Value} (h : (clr L i)[j]? = some (some w)) : L[j]? = some (some w) ∧ ¬ (j + 1 = i ∧ w.category = 2) := by
  match i, h with
  | 0, h => exact ⟨h, fun q => by omega⟩
  | i + 1, h =>
    simp only [clr] at h
    split at h
    next w' hw' =>
      split at h
      next hc =>
        rw [List.getElem?_set] at h
        split at h
        next => split at h <;> cases h
        next hne => exact ⟨h, fun q => hne (by omega)⟩
      next hc =>
        refine ⟨h, fun q => ?_⟩
        obtain rfl : j = i := by omega
        rw [hw'] at h
        cases h
        exact hc q.2
    next hn =>
      refine ⟨h, fun q => ?_⟩
      obtain rfl : j = i := by omega
      exact hn _ h
theorem Lc.put1 {o : OM} {m : MD} {L : List (Option Value)} {i : Nat} {v : Value} {ls : Array Slot} (h : lv_has ls (mml m) ((i, fv o v) :: (lvp o L).filter (fun q => !(q.1 == i) && !(q.1 + 1 == i && q.2.category == 2)))) : Lc o m (st1 L i v) ls := by
  refine ⟨h.1, h.2.1, fun j w hj => ?_⟩
  unfold st1 at hj
  rw [List.getElem?_set] at hj
  by_cases e : i = j
  · subst e
    rw [if_pos rfl] at hj
    split at hj
    next => cases hj; exact h.2.2 _ List.mem_cons_self
    next => cases hj
  · rw [if_neg e] at hj
    obtain ⟨h1, h2⟩ := clr_get hj
    refine h.2.2 (j, fv o w) (List.mem_cons_of_mem _ (List.mem_filter.mpr ⟨lvp_mem.mpr ⟨w, h1, rfl⟩, ?_⟩))
    simp only [Bool.and_eq_true, Bool.not_eq_true', beq_eq_false_iff_ne, ne_eq, Bool.and_eq_false_iff, fv_cat]
    refine ⟨fun q => e q.symm, ?_⟩
    by_cases e2 : j + 1 = i
    · exact Or.inr (fun q => h2 ⟨e2, q⟩)
    · exact Or.inl e2
theorem Lc.put2 {o : OM} {m : MD} {L : List (Option Value)} {i : Nat} {v : Value} {ls : Array Slot} (h : lv_has ls (mml m) ((i, fv o v) :: (lvp o L).filter (fun q => !(q.1 == i) && (!(q.1 == i + 1) && !(q.1 + 1 == i && q.2.category == 2))))) : Lc o m (st2 L i v) ls := by
  refine ⟨h.1, h.2.1, fun j w hj => ?_⟩
  unfold st2 at hj
  rw [List.getElem?_set] at hj
  split at hj
  next => split at hj <;> cases hj
  next e1 =>
    rw [List.getElem?_set] at hj
    by_cases e : i = j
    · subst e
      rw [if_pos rfl] at hj
      split at hj
      next => cases hj; exact h.2.2 _ List.mem_cons_self
      next => cases hj
    · rw [if_neg e] at hj
      obtain ⟨h1, h2⟩ := clr_get hj
      refine h.2.2 (j, fv o w) (List.mem_cons_of_mem _ (List.mem_filter.mpr ⟨lvp_mem.mpr ⟨w, h1, rfl⟩, ?_⟩))
      simp only [Bool.and_eq_true, Bool.not_eq_true', beq_eq_false_iff_ne, ne_eq, Bool.and_eq_false_iff, fv_cat]
      refine ⟨fun q => e q.symm, fun q => e1 q.symm, ?_⟩
      by_cases e2 : j + 1 = i
      · exact Or.inr (fun q => h2 ⟨e2, q⟩)
      · exact Or.inl e2
section RU
variable {o : OM} {l : Launch} {m : MD} {bg : Nat × Nat} {pc pc' tgt : Nat} {L L' : List (Option Value)} {st : List Value} {h : AH} {Q : Option Value → AH → Prop}

theorem r_iadd {x y : Int32} (hd : dd m pc .iadd 1 pc') (k : Rn o l m bg pc' L (.int (x + y) :: st) h Q) : Rn o l m bg pc L (.int y :: .int x :: st) h Q := by
  obtain ⟨hd, rfl⟩ := hd
  intro p e R s mm args below meth c H locs cells slots Z ls hC h1 h2 h3 h4 h5 h6
  exact lv_iadd hC.1 hC.2.1 hd (k p e R s mm args below meth c H locs cells slots Z ls hC h1 h2 h3 h4 h5 h6)
theorem r_isub {x y : Int32} (hd : dd m pc .isub 1 pc') (k : Rn o l m bg pc' L (.int (x - y) :: st) h Q) : Rn o l m bg pc L (.int y :: .int x :: st) h Q := by
  obtain ⟨hd, rfl⟩ := hd
  intro p e R s mm args below meth c H locs cells slots Z ls hC h1 h2 h3 h4 h5 h6
  exact lv_isub hC.1 hC.2.1 hd (k p e R s mm args below meth c H locs cells slots Z ls hC h1 h2 h3 h4 h5 h6)
theorem r_imul {x y : Int32} (hd : dd m pc .imul 1 pc') (k : Rn o l m bg pc' L (.int (x * y) :: st) h Q) : Rn o l m bg pc L (.int y :: .int x :: st) h Q := by
  obtain ⟨hd, rfl⟩ := hd
  intro p e R s mm args below meth c H locs cells slots Z ls hC h1 h2 h3 h4 h5 h6
  exact lv_imul hC.1 hC.2.1 hd (k p e R s mm args below meth c H locs cells slots Z ls hC h1 h2 h3 h4 h5 h6)
theorem r_iand {x y : Int32} (hd : dd m pc .iand 1 pc') (k : Rn o l m bg pc' L (.int (x &&& y) :: st) h Q) : Rn o l m bg pc L (.int y :: .int x :: st) h Q := by
  obtain ⟨hd, rfl⟩ := hd
  intro p e R s mm args below meth c H locs cells slots Z ls hC h1 h2 h3 h4 h5 h6
  exact lv_iand hC.1 hC.2.1 hd (k p e R s mm args below meth c H locs cells slots Z ls hC h1 h2 h3 h4 h5 h6)
theorem r_ior {x y : Int32} (hd : dd m pc .ior 1 pc') (k : Rn o l m bg pc' L (.int (x ||| y) :: st) h Q) : Rn o l m bg pc L (.int y :: .int x :: st) h Q := by
  obtain ⟨hd, rfl⟩ := hd
  intro p e R s mm args below meth c H locs cells slots Z ls hC h1 h2 h3 h4 h5 h6
  exact lv_ior hC.1 hC.2.1 hd (k p e R s mm args below meth c H locs cells slots Z ls hC h1 h2 h3 h4 h5 h6)
theorem r_ixor {x y : Int32} (hd : dd m pc .ixor 1 pc') (k : Rn o l m bg pc' L (.int (x ^^^ y) :: st) h Q) : Rn o l m bg pc L (.int y :: .int x :: st) h Q := by
  obtain ⟨hd, rfl⟩ := hd
  intro p e R s mm args below meth c H locs cells slots Z ls hC h1 h2 h3 h4 h5 h6
  exact lv_ixor hC.1 hC.2.1 hd (k p e R s mm args below meth c H locs cells slots Z ls hC h1 h2 h3 h4 h5 h6)
theorem r_irem {x y : Int32} (hd : dd m pc .irem 1 pc') (hne : ¬ y = 0) (k : Rn o l m bg pc' L (.int (x - x / y * y) :: st) h Q) : Rn o l m bg pc L (.int y :: .int x :: st) h Q := by
  obtain ⟨hd, rfl⟩ := hd
  intro p e R s mm args below meth c H locs cells slots Z ls hC h1 h2 h3 h4 h5 h6
  exact lv_irem hC.1 hC.2.1 hd hne (k p e R s mm args below meth c H locs cells slots Z ls hC h1 h2 h3 h4 h5 h6)
theorem r_ishr {x y : Int32} (hd : dd m pc .ishr 1 pc') (k : Rn o l m bg pc' L (.int (x >>> (y &&& 31)) :: st) h Q) : Rn o l m bg pc L (.int y :: .int x :: st) h Q := by
  obtain ⟨hd, rfl⟩ := hd
  intro p e R s mm args below meth c H locs cells slots Z ls hC h1 h2 h3 h4 h5 h6
  exact lv_ishr hC.1 hC.2.1 hd (k p e R s mm args below meth c H locs cells slots Z ls hC h1 h2 h3 h4 h5 h6)
theorem r_iushr {x y : Int32} (hd : dd m pc .iushr 1 pc') (k : Rn o l m bg pc' L (.int ((x.toUInt32 >>> (y.toUInt32 &&& Int32.toUInt32 31)).toInt32) :: st) h Q) : Rn o l m bg pc L (.int y :: .int x :: st) h Q := by
  obtain ⟨hd, rfl⟩ := hd
  intro p e R s mm args below meth c H locs cells slots Z ls hC h1 h2 h3 h4 h5 h6
  exact lv_iushr hC.1 hC.2.1 hd rfl (k p e R s mm args below meth c H locs cells slots Z ls hC h1 h2 h3 h4 h5 h6)
theorem r_ineg {x : Int32} (hd : dd m pc .ineg 1 pc') (k : Rn o l m bg pc' L (.int (-x) :: st) h Q) : Rn o l m bg pc L (.int x :: st) h Q := by
  obtain ⟨hd, rfl⟩ := hd
  intro p e R s mm args below meth c H locs cells slots Z ls hC h1 h2 h3 h4 h5 h6
  exact lv_ineg hC.1 hC.2.1 hd (k p e R s mm args below meth c H locs cells slots Z ls hC h1 h2 h3 h4 h5 h6)
theorem r_ladd {x y : Int64} (hd : dd m pc .ladd 1 pc') (k : Rn o l m bg pc' L (.long (x + y) :: st) h Q) : Rn o l m bg pc L (.long y :: .long x :: st) h Q := by
  obtain ⟨hd, rfl⟩ := hd
  intro p e R s mm args below meth c H locs cells slots Z ls hC h1 h2 h3 h4 h5 h6
  exact lv_ladd hC.1 hC.2.1 hd (k p e R s mm args below meth c H locs cells slots Z ls hC h1 h2 h3 h4 h5 h6)
theorem r_lsub {x y : Int64} (hd : dd m pc .lsub 1 pc') (k : Rn o l m bg pc' L (.long (x - y) :: st) h Q) : Rn o l m bg pc L (.long y :: .long x :: st) h Q := by
  obtain ⟨hd, rfl⟩ := hd
  intro p e R s mm args below meth c H locs cells slots Z ls hC h1 h2 h3 h4 h5 h6
  exact lv_lsub hC.1 hC.2.1 hd (k p e R s mm args below meth c H locs cells slots Z ls hC h1 h2 h3 h4 h5 h6)
theorem r_lmul {x y : Int64} (hd : dd m pc .lmul 1 pc') (k : Rn o l m bg pc' L (.long (x * y) :: st) h Q) : Rn o l m bg pc L (.long y :: .long x :: st) h Q := by
  obtain ⟨hd, rfl⟩ := hd
  intro p e R s mm args below meth c H locs cells slots Z ls hC h1 h2 h3 h4 h5 h6
  exact lv_lmul hC.1 hC.2.1 hd (k p e R s mm args below meth c H locs cells slots Z ls hC h1 h2 h3 h4 h5 h6)
theorem r_lrem {x y : Int64} (hd : dd m pc .lrem 1 pc') (hne : ¬ y = 0) (k : Rn o l m bg pc' L (.long (x - x / y * y) :: st) h Q) : Rn o l m bg pc L (.long y :: .long x :: st) h Q := by
  obtain ⟨hd, rfl⟩ := hd
  intro p e R s mm args below meth c H locs cells slots Z ls hC h1 h2 h3 h4 h5 h6
  exact lv_lrem hC.1 hC.2.1 hd hne (k p e R s mm args below meth c H locs cells slots Z ls hC h1 h2 h3 h4 h5 h6)
theorem r_lneg {x : Int64} (hd : dd m pc .lneg 1 pc') (k : Rn o l m bg pc' L (.long (-x) :: st) h Q) : Rn o l m bg pc L (.long x :: st) h Q := by
  obtain ⟨hd, rfl⟩ := hd
  intro p e R s mm args below meth c H locs cells slots Z ls hC h1 h2 h3 h4 h5 h6
  exact lv_lneg hC.1 hC.2.1 hd (k p e R s mm args below meth c H locs cells slots Z ls hC h1 h2 h3 h4 h5 h6)
theorem r_lcmp {x y : Int64} (hd : dd m pc .lcmp 1 pc') (k : Rn o l m bg pc' L (.int (lg_cmp x y) :: st) h Q) : Rn o l m bg pc L (.long y :: .long x :: st) h Q := by
  obtain ⟨hd, rfl⟩ := hd
  intro p e R s mm args below meth c H locs cells slots Z ls hC h1 h2 h3 h4 h5 h6
  exact W.lcmp hC.1 hC.2.1 hd (k p e R s mm args below meth c H locs cells slots Z ls hC h1 h2 h3 h4 h5 h6)
theorem r_i2l {x : Int32} (hd : dd m pc .i2l 1 pc') (k : Rn o l m bg pc' L (.long x.toInt64 :: st) h Q) : Rn o l m bg pc L (.int x :: st) h Q := by
  obtain ⟨hd, rfl⟩ := hd
  intro p e R s mm args below meth c H locs cells slots Z ls hC h1 h2 h3 h4 h5 h6
  exact lv_i2l hC.1 hC.2.1 hd rfl (k p e R s mm args below meth c H locs cells slots Z ls hC h1 h2 h3 h4 h5 h6)
theorem r_l2i {x : Int64} (hd : dd m pc .l2i 1 pc') (k : Rn o l m bg pc' L (.int x.toInt32 :: st) h Q) : Rn o l m bg pc L (.long x :: st) h Q := by
  obtain ⟨hd, rfl⟩ := hd
  intro p e R s mm args below meth c H locs cells slots Z ls hC h1 h2 h3 h4 h5 h6
  exact lv_l2i hC.1 hC.2.1 hd rfl (k p e R s mm args below meth c H locs cells slots Z ls hC h1 h2 h3 h4 h5 h6)
theorem r_i2b {x : Int32} (hd : dd m pc .i2b 1 pc') (k : Rn o l m bg pc' L (.int x.toInt8.toInt32 :: st) h Q) : Rn o l m bg pc L (.int x :: st) h Q := by
  obtain ⟨hd, rfl⟩ := hd
  intro p e R s mm args below meth c H locs cells slots Z ls hC h1 h2 h3 h4 h5 h6
  exact lv_i2b hC.1 hC.2.1 hd rfl (k p e R s mm args below meth c H locs cells slots Z ls hC h1 h2 h3 h4 h5 h6)
theorem r_iconst {n : Int} {v : Int32} (hd : dd m pc (.iconst n) 1 pc') (hv : Int32.ofInt n = v) (k : Rn o l m bg pc' L (.int v :: st) h Q) : Rn o l m bg pc L (st) h Q := by
  obtain ⟨hd, rfl⟩ := hd
  intro p e R s mm args below meth c H locs cells slots Z ls hC h1 h2 h3 h4 h5 h6
  exact lv_iconst hC.1 hC.2.1 hd hv (k p e R s mm args below meth c H locs cells slots Z ls hC h1 h2 h3 h4 h5 h6)
theorem r_bipush {n : Int} {v : Int32} (hd : dd m pc (.bipush n) 2 pc') (hv : (Int8.ofInt n).toInt32 = v) (k : Rn o l m bg pc' L (.int v :: st) h Q) : Rn o l m bg pc L (st) h Q := by
  obtain ⟨hd, rfl⟩ := hd
  intro p e R s mm args below meth c H locs cells slots Z ls hC h1 h2 h3 h4 h5 h6
  exact lv_bipush hC.1 hC.2.1 hd hv (k p e R s mm args below meth c H locs cells slots Z ls hC h1 h2 h3 h4 h5 h6)
theorem r_sipush {n : Int} {v : Int32} (hd : dd m pc (.sipush n) 3 pc') (hv : (Int16.ofInt n).toInt32 = v) (k : Rn o l m bg pc' L (.int v :: st) h Q) : Rn o l m bg pc L (st) h Q := by
  obtain ⟨hd, rfl⟩ := hd
  intro p e R s mm args below meth c H locs cells slots Z ls hC h1 h2 h3 h4 h5 h6
  exact lv_sipush hC.1 hC.2.1 hd hv (k p e R s mm args below meth c H locs cells slots Z ls hC h1 h2 h3 h4 h5 h6)
theorem r_lconst {n : Fin 2} {v : Int64} (hd : dd m pc (.lconst n) 1 pc') (hv : Int64.ofNat (n : Nat) = v) (k : Rn o l m bg pc' L (.long v :: st) h Q) : Rn o l m bg pc L (st) h Q := by
  obtain ⟨hd, rfl⟩ := hd
  intro p e R s mm args below meth c H locs cells slots Z ls hC h1 h2 h3 h4 h5 h6
  exact lv_lconst hC.1 hC.2.1 hd hv (k p e R s mm args below meth c H locs cells slots Z ls hC h1 h2 h3 h4 h5 h6)
theorem r_ldc {idx : Nat} {v : Int32} (hd : dd m pc (.ldc idx) 2 pc') (hc : Cond.constant (mcls m) idx v ∈ gt_ws) (k : Rn o l m bg pc' L (.int v :: st) h Q) : Rn o l m bg pc L st h Q := by
  obtain ⟨hd, rfl⟩ := hd
  intro p e R s mm args below meth c H locs cells slots Z ls hC h1 h2 h3 h4 h5 h6
  exact lv_ldc hC.1 hC.2.1 hC.2.2.2.2.1 (hC.2.2.2.2.2.1 _ hc) hd (k p e R s mm args below meth c H locs cells slots Z ls hC h1 h2 h3 h4 h5 h6)
theorem r_ldc2 {idx : Nat} {v : Int64} (hd : dd m pc (.ldc2_w idx) 3 pc') (hc : Cond.constantLong (mcls m) idx v ∈ gt_ws) (k : Rn o l m bg pc' L (.long v :: st) h Q) : Rn o l m bg pc L st h Q := by
  obtain ⟨hd, rfl⟩ := hd
  intro p e R s mm args below meth c H locs cells slots Z ls hC h1 h2 h3 h4 h5 h6
  exact lv_ldc2 hC.1 hC.2.1 hC.2.2.2.2.1 (hC.2.2.2.2.2.1 _ hc) hd (k p e R s mm args below meth c H locs cells slots Z ls hC h1 h2 h3 h4 h5 h6)
theorem r_iload {i : Nat} {x : Int32} (hd : dd m pc (.iload i) 2 pc') (hl : L[i]? = some (some (.int x))) (k : Rn o l m bg pc' L (.int x :: st) h Q) : Rn o l m bg pc L st h Q := by
  obtain ⟨hd, rfl⟩ := hd
  intro p e R s mm args below meth c H locs cells slots Z ls hC h1 h2 h3 h4 h5 h6
  exact lv_iload hC.1 hC.2.1 hd (h5.2.2 _ _ hl) (k p e R s mm args below meth c H locs cells slots Z ls hC h1 h2 h3 h4 h5 h6)
theorem r_iload_n {i : Fin 4} {x : Int32} (hd : dd m pc (.iload_n i) 1 pc') (hl : L[(i : Nat)]? = some (some (.int x))) (k : Rn o l m bg pc' L (.int x :: st) h Q) : Rn o l m bg pc L st h Q := by
  obtain ⟨hd, rfl⟩ := hd
  intro p e R s mm args below meth c H locs cells slots Z ls hC h1 h2 h3 h4 h5 h6
  exact lv_iload_n hC.1 hC.2.1 hd rfl (h5.2.2 _ _ hl) (k p e R s mm args below meth c H locs cells slots Z ls hC h1 h2 h3 h4 h5 h6)
theorem r_lload {i : Nat} {x : Int64} (hd : dd m pc (.lload i) 2 pc') (hl : L[i]? = some (some (.long x))) (k : Rn o l m bg pc' L (.long x :: st) h Q) : Rn o l m bg pc L st h Q := by
  obtain ⟨hd, rfl⟩ := hd
  intro p e R s mm args below meth c H locs cells slots Z ls hC h1 h2 h3 h4 h5 h6
  exact lv_lload hC.1 hC.2.1 hd (h5.2.2 _ _ hl) (k p e R s mm args below meth c H locs cells slots Z ls hC h1 h2 h3 h4 h5 h6)
theorem r_lload_n {i : Fin 4} {x : Int64} (hd : dd m pc (.lload_n i) 1 pc') (hl : L[(i : Nat)]? = some (some (.long x))) (k : Rn o l m bg pc' L (.long x :: st) h Q) : Rn o l m bg pc L st h Q := by
  obtain ⟨hd, rfl⟩ := hd
  intro p e R s mm args below meth c H locs cells slots Z ls hC h1 h2 h3 h4 h5 h6
  exact lv_lload_n hC.1 hC.2.1 hd rfl (h5.2.2 _ _ hl) (k p e R s mm args below meth c H locs cells slots Z ls hC h1 h2 h3 h4 h5 h6)
theorem r_aload {i : Nat} {x : Nat} (hd : dd m pc (.aload i) 2 pc') (hl : L[i]? = some (some (.ref x))) (k : Rn o l m bg pc' L (.ref x :: st) h Q) : Rn o l m bg pc L st h Q := by
  obtain ⟨hd, rfl⟩ := hd
  intro p e R s mm args below meth c H locs cells slots Z ls hC h1 h2 h3 h4 h5 h6
  exact lv_aload hC.1 hC.2.1 hd (h5.2.2 _ _ hl) (k p e R s mm args below meth c H locs cells slots Z ls hC h1 h2 h3 h4 h5 h6)
theorem r_bload {i : Nat} {x : Nat} (hd : dd m pc (.aload i) 2 pc') (hl : L[i]? = some (some (.retAddr x))) (k : Rn o l m bg pc' L (.retAddr x :: st) h Q) : Rn o l m bg pc L st h Q := by
  obtain ⟨hd, rfl⟩ := hd
  intro p e R s mm args below meth c H locs cells slots Z ls hC h1 h2 h3 h4 h5 h6
  exact lv_aload hC.1 hC.2.1 hd (h5.2.2 _ _ hl) (k p e R s mm args below meth c H locs cells slots Z ls hC h1 h2 h3 h4 h5 h6)
theorem r_aload_n {i : Fin 4} {x : Nat} (hd : dd m pc (.aload_n i) 1 pc') (hl : L[(i : Nat)]? = some (some (.ref x))) (k : Rn o l m bg pc' L (.ref x :: st) h Q) : Rn o l m bg pc L st h Q := by
  obtain ⟨hd, rfl⟩ := hd
  intro p e R s mm args below meth c H locs cells slots Z ls hC h1 h2 h3 h4 h5 h6
  exact lv_aload_n hC.1 hC.2.1 hd rfl (h5.2.2 _ _ hl) (k p e R s mm args below meth c H locs cells slots Z ls hC h1 h2 h3 h4 h5 h6)
theorem r_bload_n {i : Fin 4} {x : Nat} (hd : dd m pc (.aload_n i) 1 pc') (hl : L[(i : Nat)]? = some (some (.retAddr x))) (k : Rn o l m bg pc' L (.retAddr x :: st) h Q) : Rn o l m bg pc L st h Q := by
  obtain ⟨hd, rfl⟩ := hd
  intro p e R s mm args below meth c H locs cells slots Z ls hC h1 h2 h3 h4 h5 h6
  exact lv_aload_n hC.1 hC.2.1 hd rfl (h5.2.2 _ _ hl) (k p e R s mm args below meth c H locs cells slots Z ls hC h1 h2 h3 h4 h5 h6)
theorem r_istore {i : Nat} {x : Int32} (hd : dd m pc (.istore i) 2 pc') (hn : i < mml m) (hL : st1 L i (.int x) = L') (k : Rn o l m bg pc' L' st h Q) : Rn o l m bg pc L (.int x :: st) h Q := by
  obtain ⟨hd, rfl⟩ := hd
  subst hL
  intro p e R s mm args below meth c H locs cells slots Z ls hC h1 h2 h3 h4 h5 h6
  exact lv_istore hC.1 hC.2.1 hd h5.has hn rfl (fun ls9 h9 => (k p e R s mm args below meth c H locs cells slots Z ls9 hC h1 h2 h3 h4 (Lc.put1 h9) h6))
theorem r_istore_n {i : Fin 4} {x : Int32} (hd : dd m pc (.istore_n i) 1 pc') (hn : (i : Nat) < mml m) (hL : st1 L i (.int x) = L') (k : Rn o l m bg pc' L' st h Q) : Rn o l m bg pc L (.int x :: st) h Q := by
  obtain ⟨hd, rfl⟩ := hd
  subst hL
  intro p e R s mm args below meth c H locs cells slots Z ls hC h1 h2 h3 h4 h5 h6
  exact lv_istore_n hC.1 hC.2.1 hd rfl h5.has hn rfl (fun ls9 h9 => (k p e R s mm args below meth c H locs cells slots Z ls9 hC h1 h2 h3 h4 (Lc.put1 h9) h6))
theorem r_lstore {i : Nat} {x : Int64} (hd : dd m pc (.lstore i) 2 pc') (hn : i + 1 < mml m) (hL : st2 L i (.long x) = L') (k : Rn o l m bg pc' L' st h Q) : Rn o l m bg pc L (.long x :: st) h Q := by
  obtain ⟨hd, rfl⟩ := hd
  subst hL
  intro p e R s mm args below meth c H locs cells slots Z ls hC h1 h2 h3 h4 h5 h6
  exact lv_lstore hC.1 hC.2.1 hd h5.has hn rfl (fun ls9 h9 => (k p e R s mm args below meth c H locs cells slots Z ls9 hC h1 h2 h3 h4 (Lc.put2 h9) h6))
theorem r_lstore_n {i : Fin 4} {x : Int64} (hd : dd m pc (.lstore_n i) 1 pc') (hn : (i : Nat) + 1 < mml m) (hL : st2 L i (.long x) = L') (k : Rn o l m bg pc' L' st h Q) : Rn o l m bg pc L (.long x :: st) h Q := by
  obtain ⟨hd, rfl⟩ := hd
  subst hL
  intro p e R s mm args below meth c H locs cells slots Z ls hC h1 h2 h3 h4 h5 h6
  exact lv_lstore_n hC.1 hC.2.1 hd rfl h5.has hn rfl (fun ls9 h9 => (k p e R s mm args below meth c H locs cells slots Z ls9 hC h1 h2 h3 h4 (Lc.put2 h9) h6))
theorem r_astore {i : Nat} {x : Nat} (hd : dd m pc (.astore i) 2 pc') (hn : i < mml m) (hL : st1 L i (.ref x) = L') (k : Rn o l m bg pc' L' st h Q) : Rn o l m bg pc L (.ref x :: st) h Q := by
  obtain ⟨hd, rfl⟩ := hd
  subst hL
  intro p e R s mm args below meth c H locs cells slots Z ls hC h1 h2 h3 h4 h5 h6
  exact lv_astore hC.1 hC.2.1 hd h5.has hn rfl (fun ls9 h9 => (k p e R s mm args below meth c H locs cells slots Z ls9 hC h1 h2 h3 h4 (Lc.put1 h9) h6))
theorem r_astore_n {i : Fin 4} {x : Nat} (hd : dd m pc (.astore_n i) 1 pc') (hn : (i : Nat) < mml m) (hL : st1 L i (.ref x) = L') (k : Rn o l m bg pc' L' st h Q) : Rn o l m bg pc L (.ref x :: st) h Q := by
  obtain ⟨hd, rfl⟩ := hd
  subst hL
  intro p e R s mm args below meth c H locs cells slots Z ls hC h1 h2 h3 h4 h5 h6
  exact lv_astore_n hC.1 hC.2.1 hd rfl h5.has hn rfl (fun ls9 h9 => (k p e R s mm args below meth c H locs cells slots Z ls9 hC h1 h2 h3 h4 (Lc.put1 h9) h6))
theorem r_bstore {i : Nat} {x : Nat} (hd : dd m pc (.astore i) 2 pc') (hn : i < mml m) (hL : st1 L i (.retAddr x) = L') (k : Rn o l m bg pc' L' st h Q) : Rn o l m bg pc L (.retAddr x :: st) h Q := by
  obtain ⟨hd, rfl⟩ := hd
  subst hL
  intro p e R s mm args below meth c H locs cells slots Z ls hC h1 h2 h3 h4 h5 h6
  exact lv_astore hC.1 hC.2.1 hd h5.has hn rfl (fun ls9 h9 => (k p e R s mm args below meth c H locs cells slots Z ls9 hC h1 h2 h3 h4 (Lc.put1 h9) h6))
theorem r_bstore_n {i : Fin 4} {x : Nat} (hd : dd m pc (.astore_n i) 1 pc') (hn : (i : Nat) < mml m) (hL : st1 L i (.retAddr x) = L') (k : Rn o l m bg pc' L' st h Q) : Rn o l m bg pc L (.retAddr x :: st) h Q := by
  obtain ⟨hd, rfl⟩ := hd
  subst hL
  intro p e R s mm args below meth c H locs cells slots Z ls hC h1 h2 h3 h4 h5 h6
  exact lv_astore_n hC.1 hC.2.1 hd rfl h5.has hn rfl (fun ls9 h9 => (k p e R s mm args below meth c H locs cells slots Z ls9 hC h1 h2 h3 h4 (Lc.put1 h9) h6))
theorem r_iinc {i : Nat} {n : Int} {x v : Int32} (hd : dd m pc (.iinc i n) 3 pc') (hl : L[i]? = some (some (.int x))) (hv : x + Int32.ofInt n = v) (hn : i < mml m) (hL : st1 L i (.int v) = L') (k : Rn o l m bg pc' L' st h Q) : Rn o l m bg pc L st h Q := by
  obtain ⟨hd, rfl⟩ := hd
  subst hL
  intro p e R s mm args below meth c H locs cells slots Z ls hC h1 h2 h3 h4 h5 h6
  obtain ⟨k9, hk9⟩ := List.getElem?_of_mem (lvp_mem.mpr ⟨_, hl, rfl⟩ : (i, fv o (.int x)) ∈ lvp o L)
  exact lv_iinc hC.1 hC.2.1 hd h5.has hk9 hv hn rfl (fun ls9 h9 => (k p e R s mm args below meth c H locs cells slots Z ls9 hC h1 h2 h3 h4 (Lc.put1 (v := .int _) h9) h6))
theorem r_dup {v : Value} (hd : dd m pc .dup 1 pc') (hv : v.category = 1) (k : Rn o l m bg pc' L (v :: v :: st) h Q) : Rn o l m bg pc L (v :: st) h Q := by
  obtain ⟨hd, rfl⟩ := hd
  intro p e R s mm args below meth c H locs cells slots Z ls hC h1 h2 h3 h4 h5 h6
  exact lv_dup hC.1 hC.2.1 hd (by rw [fv_cat]; exact hv) (k p e R s mm args below meth c H locs cells slots Z ls hC h1 h2 h3 h4 h5 h6)
theorem r_pop {v : Value} (hd : dd m pc .pop 1 pc') (hv : v.category = 1) (k : Rn o l m bg pc' L st h Q) : Rn o l m bg pc L (v :: st) h Q := by
  obtain ⟨hd, rfl⟩ := hd
  intro p e R s mm args below meth c H locs cells slots Z ls hC h1 h2 h3 h4 h5 h6
  exact lv_pop hC.1 hC.2.1 hd (by rw [fv_cat]; exact hv) (k p e R s mm args below meth c H locs cells slots Z ls hC h1 h2 h3 h4 h5 h6)
theorem r_if_eq {x : Int32} (hd : db m pc (.ifCond .eq) pc' tgt) (kt : x = 0 → Rn o l m bg tgt L st h Q) (kf : ¬ x = 0 → Rn o l m bg pc' L st h Q) : Rn o l m bg pc L (.int x :: st) h Q := by
  obtain ⟨off, hd, rfl, ht⟩ := hd
  intro p e R s mm args below meth c H locs cells slots Z ls hC h1 h2 h3 h4 h5 h6
  exact lv_if_eq hC.1 hC.2.1 hd ht (fun q9 => (kt q9 p e R s mm args below meth c H locs cells slots Z ls hC h1 h2 h3 h4 h5 h6)) (fun q9 => (kf q9 p e R s mm args below meth c H locs cells slots Z ls hC h1 h2 h3 h4 h5 h6))
theorem r_if_ne {x : Int32} (hd : db m pc (.ifCond .ne) pc' tgt) (kt : ¬ x = 0 → Rn o l m bg tgt L st h Q) (kf : x = 0 → Rn o l m bg pc' L st h Q) : Rn o l m bg pc L (.int x :: st) h Q := by
  obtain ⟨off, hd, rfl, ht⟩ := hd
  intro p e R s mm args below meth c H locs cells slots Z ls hC h1 h2 h3 h4 h5 h6
  exact lv_if_ne hC.1 hC.2.1 hd ht (fun q9 => (kt q9 p e R s mm args below meth c H locs cells slots Z ls hC h1 h2 h3 h4 h5 h6)) (fun q9 => (kf q9 p e R s mm args below meth c H locs cells slots Z ls hC h1 h2 h3 h4 h5 h6))
theorem r_if_lt {x : Int32} (hd : db m pc (.ifCond .lt) pc' tgt) (kt : x < 0 → Rn o l m bg tgt L st h Q) (kf : ¬ x < 0 → Rn o l m bg pc' L st h Q) : Rn o l m bg pc L (.int x :: st) h Q := by
  obtain ⟨off, hd, rfl, ht⟩ := hd
  intro p e R s mm args below meth c H locs cells slots Z ls hC h1 h2 h3 h4 h5 h6
  exact lv_if_lt hC.1 hC.2.1 hd ht (fun q9 => (kt q9 p e R s mm args below meth c H locs cells slots Z ls hC h1 h2 h3 h4 h5 h6)) (fun q9 => (kf q9 p e R s mm args below meth c H locs cells slots Z ls hC h1 h2 h3 h4 h5 h6))
theorem r_if_ge {x : Int32} (hd : db m pc (.ifCond .ge) pc' tgt) (kt : 0 ≤ x → Rn o l m bg tgt L st h Q) (kf : ¬ 0 ≤ x → Rn o l m bg pc' L st h Q) : Rn o l m bg pc L (.int x :: st) h Q := by
  obtain ⟨off, hd, rfl, ht⟩ := hd
  intro p e R s mm args below meth c H locs cells slots Z ls hC h1 h2 h3 h4 h5 h6
  exact lv_if_ge hC.1 hC.2.1 hd ht (fun q9 => (kt q9 p e R s mm args below meth c H locs cells slots Z ls hC h1 h2 h3 h4 h5 h6)) (fun q9 => (kf q9 p e R s mm args below meth c H locs cells slots Z ls hC h1 h2 h3 h4 h5 h6))
theorem r_if_gt {x : Int32} (hd : db m pc (.ifCond .gt) pc' tgt) (kt : 0 < x → Rn o l m bg tgt L st h Q) (kf : ¬ 0 < x → Rn o l m bg pc' L st h Q) : Rn o l m bg pc L (.int x :: st) h Q := by
  obtain ⟨off, hd, rfl, ht⟩ := hd
  intro p e R s mm args below meth c H locs cells slots Z ls hC h1 h2 h3 h4 h5 h6
  exact lv_if_gt hC.1 hC.2.1 hd ht (fun q9 => (kt q9 p e R s mm args below meth c H locs cells slots Z ls hC h1 h2 h3 h4 h5 h6)) (fun q9 => (kf q9 p e R s mm args below meth c H locs cells slots Z ls hC h1 h2 h3 h4 h5 h6))
theorem r_if_le {x : Int32} (hd : db m pc (.ifCond .le) pc' tgt) (kt : x ≤ 0 → Rn o l m bg tgt L st h Q) (kf : ¬ x ≤ 0 → Rn o l m bg pc' L st h Q) : Rn o l m bg pc L (.int x :: st) h Q := by
  obtain ⟨off, hd, rfl, ht⟩ := hd
  intro p e R s mm args below meth c H locs cells slots Z ls hC h1 h2 h3 h4 h5 h6
  exact lv_if_le hC.1 hC.2.1 hd ht (fun q9 => (kt q9 p e R s mm args below meth c H locs cells slots Z ls hC h1 h2 h3 h4 h5 h6)) (fun q9 => (kf q9 p e R s mm args below meth c H locs cells slots Z ls hC h1 h2 h3 h4 h5 h6))
theorem r_icmp_eq {x y : Int32} (hd : db m pc (.if_icmp .eq) pc' tgt) (kt : x = y → Rn o l m bg tgt L st h Q) (kf : ¬ x = y → Rn o l m bg pc' L st h Q) : Rn o l m bg pc L (.int y :: .int x :: st) h Q := by
  obtain ⟨off, hd, rfl, ht⟩ := hd
  intro p e R s mm args below meth c H locs cells slots Z ls hC h1 h2 h3 h4 h5 h6
  exact lv_icmp_eq hC.1 hC.2.1 hd ht (fun q9 => (kt q9 p e R s mm args below meth c H locs cells slots Z ls hC h1 h2 h3 h4 h5 h6)) (fun q9 => (kf q9 p e R s mm args below meth c H locs cells slots Z ls hC h1 h2 h3 h4 h5 h6))
theorem r_icmp_ne {x y : Int32} (hd : db m pc (.if_icmp .ne) pc' tgt) (kt : ¬ x = y → Rn o l m bg tgt L st h Q) (kf : x = y → Rn o l m bg pc' L st h Q) : Rn o l m bg pc L (.int y :: .int x :: st) h Q := by
  obtain ⟨off, hd, rfl, ht⟩ := hd
  intro p e R s mm args below meth c H locs cells slots Z ls hC h1 h2 h3 h4 h5 h6
  exact lv_icmp_ne hC.1 hC.2.1 hd ht (fun q9 => (kt q9 p e R s mm args below meth c H locs cells slots Z ls hC h1 h2 h3 h4 h5 h6)) (fun q9 => (kf q9 p e R s mm args below meth c H locs cells slots Z ls hC h1 h2 h3 h4 h5 h6))
theorem r_icmp_lt {x y : Int32} (hd : db m pc (.if_icmp .lt) pc' tgt) (kt : x < y → Rn o l m bg tgt L st h Q) (kf : ¬ x < y → Rn o l m bg pc' L st h Q) : Rn o l m bg pc L (.int y :: .int x :: st) h Q := by
  obtain ⟨off, hd, rfl, ht⟩ := hd
  intro p e R s mm args below meth c H locs cells slots Z ls hC h1 h2 h3 h4 h5 h6
  exact lv_icmp_lt hC.1 hC.2.1 hd ht (fun q9 => (kt q9 p e R s mm args below meth c H locs cells slots Z ls hC h1 h2 h3 h4 h5 h6)) (fun q9 => (kf q9 p e R s mm args below meth c H locs cells slots Z ls hC h1 h2 h3 h4 h5 h6))
theorem r_icmp_ge {x y : Int32} (hd : db m pc (.if_icmp .ge) pc' tgt) (kt : y ≤ x → Rn o l m bg tgt L st h Q) (kf : ¬ y ≤ x → Rn o l m bg pc' L st h Q) : Rn o l m bg pc L (.int y :: .int x :: st) h Q := by
  obtain ⟨off, hd, rfl, ht⟩ := hd
  intro p e R s mm args below meth c H locs cells slots Z ls hC h1 h2 h3 h4 h5 h6
  exact lv_icmp_ge hC.1 hC.2.1 hd ht (fun q9 => (kt q9 p e R s mm args below meth c H locs cells slots Z ls hC h1 h2 h3 h4 h5 h6)) (fun q9 => (kf q9 p e R s mm args below meth c H locs cells slots Z ls hC h1 h2 h3 h4 h5 h6))
theorem r_icmp_gt {x y : Int32} (hd : db m pc (.if_icmp .gt) pc' tgt) (kt : y < x → Rn o l m bg tgt L st h Q) (kf : ¬ y < x → Rn o l m bg pc' L st h Q) : Rn o l m bg pc L (.int y :: .int x :: st) h Q := by
  obtain ⟨off, hd, rfl, ht⟩ := hd
  intro p e R s mm args below meth c H locs cells slots Z ls hC h1 h2 h3 h4 h5 h6
  exact lv_icmp_gt hC.1 hC.2.1 hd ht (fun q9 => (kt q9 p e R s mm args below meth c H locs cells slots Z ls hC h1 h2 h3 h4 h5 h6)) (fun q9 => (kf q9 p e R s mm args below meth c H locs cells slots Z ls hC h1 h2 h3 h4 h5 h6))
theorem r_icmp_le {x y : Int32} (hd : db m pc (.if_icmp .le) pc' tgt) (kt : x ≤ y → Rn o l m bg tgt L st h Q) (kf : ¬ x ≤ y → Rn o l m bg pc' L st h Q) : Rn o l m bg pc L (.int y :: .int x :: st) h Q := by
  obtain ⟨off, hd, rfl, ht⟩ := hd
  intro p e R s mm args below meth c H locs cells slots Z ls hC h1 h2 h3 h4 h5 h6
  exact lv_icmp_le hC.1 hC.2.1 hd ht (fun q9 => (kt q9 p e R s mm args below meth c H locs cells slots Z ls hC h1 h2 h3 h4 h5 h6)) (fun q9 => (kf q9 p e R s mm args below meth c H locs cells slots Z ls hC h1 h2 h3 h4 h5 h6))
theorem r_goto (hd : db m pc .goto pc' tgt) (k : Rn o l m bg tgt L st h Q) : Rn o l m bg pc L st h Q := by
  obtain ⟨off, hd, rfl, ht⟩ := hd
  intro p e R s mm args below meth c H locs cells slots Z ls hC h1 h2 h3 h4 h5 h6
  exact lv_goto hC.1 hC.2.1 hd ht (k p e R s mm args below meth c H locs cells slots Z ls hC h1 h2 h3 h4 h5 h6)
theorem r_tsIn {x : Int32} {dflt lo hi off : Int} {offs : Array Int} {len : Nat} (hd : decode (mbt m) pc = .ok (.tableswitch dflt lo hi offs, len)) (a1 : ¬ x.toInt < lo) (a2 : ¬ hi < x.toInt) (ho : offs[(x.toInt - lo).toNat]? = some off) (ht : (pc : Int) + off = (tgt : Int)) (k : Rn o l m bg tgt L st h Q) : Rn o l m bg pc L (.int x :: st) h Q := by
  intro p e R s mm args below meth c H locs cells slots Z ls hC h1 h2 h3 h4 h5 h6
  exact lv_tableIn hC.1 hC.2.1 hd a1 a2 ho ht (k p e R s mm args below meth c H locs cells slots Z ls hC h1 h2 h3 h4 h5 h6)
theorem r_tsOut {x : Int32} {dflt lo hi : Int} {offs : Array Int} {len : Nat} (hd : decode (mbt m) pc = .ok (.tableswitch dflt lo hi offs, len)) (a1 : x.toInt < lo ∨ hi < x.toInt) (ht : (pc : Int) + dflt = (tgt : Int)) (k : Rn o l m bg tgt L st h Q) : Rn o l m bg pc L (.int x :: st) h Q := by
  intro p e R s mm args below meth c H locs cells slots Z ls hC h1 h2 h3 h4 h5 h6
  exact lv_tableOut hC.1 hC.2.1 hd a1 ht (k p e R s mm args below meth c H locs cells slots Z ls hC h1 h2 h3 h4 h5 h6)
theorem r_ireturn {x : Int32} (hd : decode (mbt m) pc = .ok (.ireturn, 1)) (hr : mrt m = some .int) (hq : Q (some (.int x)) h) : Rn o l m bg pc L [.int x] h Q := by
  intro p e R s mm args below meth c H locs cells slots Z ls hC h1 h2 h3 h4 h5 h6
  exact h6 (some (.int x)) h H locs cells slots pc ls hq h3 h4 (by omega) (by omega) (Or.inl ⟨x, .int, rfl, hr, rfl, hd⟩)
theorem r_zreturn {x : Int32} (hd : decode (mbt m) pc = .ok (.ireturn, 1)) (hr : mrt m = some .boolean) (hx : narrow .boolean (.int x) = .int x) (hq : Q (some (.int x)) h) : Rn o l m bg pc L [.int x] h Q := by
  intro p e R s mm args below meth c H locs cells slots Z ls hC h1 h2 h3 h4 h5 h6
  exact h6 (some (.int x)) h H locs cells slots pc ls hq h3 h4 (by omega) (by omega) (Or.inl ⟨x, .boolean, rfl, hr, hx, hd⟩)
theorem r_lreturn {x : Int64} (hd : decode (mbt m) pc = .ok (.lreturn, 1)) (hr : mrt m = some .long) (hq : Q (some (.long x)) h) : Rn o l m bg pc L [.long x] h Q := by
  intro p e R s mm args below meth c H locs cells slots Z ls hC h1 h2 h3 h4 h5 h6
  exact h6 (some (.long x)) h H locs cells slots pc ls hq h3 h4 (by omega) (by omega) (Or.inr (Or.inl ⟨x, rfl, hr, hd⟩))
theorem r_return (hd : decode (mbt m) pc = .ok (.return_, 1)) (hr : mrt m = none) (hq : Q none h) : Rn o l m bg pc L [] h Q := by
  intro p e R s mm args below meth c H locs cells slots Z ls hC h1 h2 h3 h4 h5 h6
  exact h6 none h H locs cells slots pc ls hq h3 h4 (by omega) (by omega) (Or.inr (Or.inr ⟨rfl, hr, hd⟩))
/-- less is known of the locals -/
theorem r_weak (hw : ∀ (i : Nat) (v : Value), L'[i]? = some (some v) → L[i]? = some (some v)) (k : Rn o l m bg pc L' st h Q) : Rn o l m bg pc L st h Q := by
  intro p e R s mm args below meth c H locs cells slots Z ls hC h1 h2 h3 h4 h5 h6
  exact k p e R s mm args below meth c H locs cells slots Z ls hC h1 h2 h3 h4 ⟨h5.1, h5.2.1, fun i v hi => h5.2.2 i v (hw i v hi)⟩ h6
theorem r_post {Q' : Option Value → AH → Prop} (hq : ∀ v h, Q' v h → Q v h) (k : Rn o l m bg pc L st h Q') : Rn o l m bg pc L st h Q := by
  intro p e R s mm args below meth c H locs cells slots Z ls hC h1 h2 h3 h4 h5 h6
  exact k p e R s mm args below meth c H locs cells slots Z ls hC h1 h2 h3 h4 h5 (fun v h' H' locs' cells' slots' pc' ls' q => h6 v h' H' locs' cells' slots' pc' ls' (hq v h' q))
theorem r_budget {bg' : Nat × Nat} (a1 : bg'.1 ≤ bg.1) (a2 : bg'.2 ≤ bg.2) (k : Rn o l m bg' pc L st h Q) : Rn o l m bg pc L st h Q := by
  intro p e R s mm args below meth c H locs cells slots Z ls hC h1 h2 h3 h4 h5 h6
  exact k p e R s mm args below meth c H locs cells slots Z ls hC (by omega) (by omega) h3 h4 h5 h6
end RU
end
section
theorem okc_arr {o : OM} {a : Nat} {t : Nat × Nat} {r : Nat → Option Nat} {i : Nat → Int32} {H : Heap} (ht : t.1 < 10) : okc o a t r i H ↔ H[ob0 o + a]? = some (arrV (odA o t.1) t.2 (cv o t.1 r i)) := by
  unfold okc
  rw [if_pos ht]
theorem okc_obj {o : OM} {a ci : Nat} {t : Nat × Nat} {r : Nat → Option Nat} {i : Nat → Int32} {H : Heap} (ht : t.1 = 10 + ci) : okc o a t r i H ↔ t_OB (ob0 o + a) (odC o ci) (nfl ci) (odI o ci) H (cv o (10 + ci) r i) := by
  unfold okc
  rw [if_neg (by omega), ht, Nat.add_sub_cancel_left]
theorem okc.kept {o : OM} {a : Nat} {t : Nat × Nat} {r : Nat → Option Nat} {i : Nat → Int32} {H H1 : Heap} (h : okc o a t r i H) (hq : H1[ob0 o + a]? = H[ob0 o + a]?) : okc o a t r i H1 := by
  unfold okc at h ⊢
  split at h
  next hc => rw [if_pos hc, hq]; exact h
  next hc => rw [if_neg hc]; exact h.kept hq
theorem Rp.setI {o : OM} {h : AH} {H H1 : Heap} {a k : Nat} {v : Int32} (h3 : Rp o h H) (ht : (hT h a).1 ≠ 0) (hn : okc o a (hT h a) (hR h a) (fun j => if j = k then v else hI h a j) H1) (hz : H1.size = H.size) (ho : ∀ q : Nat, q ≠ ob0 o + a → H1[q]? = H[q]?) : Rp o (sI h a k v) H1 := by
  refine ⟨hz.trans h3.1, fun q hq => (ho q (by omega)).trans (h3.2.1 q hq), fun b hb => ?_⟩
  obtain ⟨g1, g2, g3⟩ := h3.2.2 b hb
  refine ⟨g1, g2, ?_⟩
  by_cases e : b = a
  · subst e
    show okc o b (hT h b) (hR h b) (upm (hI h) b k v b) H1
    rw [upm_eq]
    exact hn
  · show okc o b (hT h b) (hR h b) (upm (hI h) a k v b) H1
    rw [upm_ne _ _ _ e]
    exact g3.kept (ho _ (by omega))
theorem Rp.setR {o : OM} {h : AH} {H H1 : Heap} {a k : Nat} {v : Option Nat} (h3 : Rp o h H) (ht : (hT h a).1 ≠ 0) (hn : okc o a (hT h a) (fun j => if j = k then v else hR h a j) (hI h a) H1) (hz : H1.size = H.size) (ho : ∀ q : Nat, q ≠ ob0 o + a → H1[q]? = H[q]?) : Rp o (sR h a k v) H1 := by
  refine ⟨hz.trans h3.1, fun q hq => (ho q (by omega)).trans (h3.2.1 q hq), fun b hb => ?_⟩
  obtain ⟨g1, g2, g3⟩ := h3.2.2 b hb
  refine ⟨g1, g2, ?_⟩
  by_cases e : b = a
  · subst e
    show okc o b (hT h b) (upm (hR h) b k v b) (hI h b) H1
    rw [upm_eq]
    exact hn
  · show okc o b (hT h b) (upm (hR h) a k v b) (hI h b) H1
    rw [upm_ne _ _ _ e]
    exact g3.kept (ho _ (by omega))
/-- a row of ints becomes another one -/
def sW (h : AH) (a : Nat) (f : Nat → Int32) : AH := (h.1, h.2.1, h.2.2.1, fun b => if b = a then f else h.2.2.2 b)
theorem Rp.setW {o : OM} {h : AH} {H H1 : Heap} {a : Nat} {f : Nat → Int32} (h3 : Rp o h H) (hn : okc o a (hT h a) (hR h a) f H1) (hz : H1.size = H.size) (ho : ∀ q : Nat, q ≠ ob0 o + a → H1[q]? = H[q]?) : Rp o (sW h a f) H1 := by
  refine ⟨hz.trans h3.1, fun q hq => (ho q (by omega)).trans (h3.2.1 q hq), fun b hb => ?_⟩
  obtain ⟨g1, g2, g3⟩ := h3.2.2 b hb
  refine ⟨g1, g2, ?_⟩
  by_cases e : b = a
  · subst e
    show okc o b (hT h b) (hR h b) (if b = b then f else hI h b) H1
    rw [if_pos rfl]
    exact hn
  · show okc o b (hT h b) (hR h b) (if b = a then f else hI h b) H1
    rw [if_neg e]
    exact g3.kept (ho _ (by omega))
def hnew (h : AH) (t : Nat × Nat) : AH := (hN h + 1, fun a => if a = hN h then t else hT h a, fun a => if a = hN h then (fun _ => none) else hR h a, fun a => if a = hN h then (fun _ => 0) else hI h a)
theorem Rp.new {o : OM} {h : AH} {H H1 : Heap} {t : Nat × Nat} (h3 : Rp o h H) (ht : t.1 < 19) (hn : okc o (hN h) t (fun _ => none) (fun _ => 0) H1) (hz : H1.size = H.size + 1) (ho : ∀ q : Nat, q < H.size → H1[q]? = H[q]?) : Rp o (hnew h t) H1 := by
  have hs := h3.1
  refine ⟨by rw [hz, hs]; show ob0 o + hN h + 1 = ob0 o + (hN h + 1); omega, fun q hq => (ho q (by omega)).trans (h3.2.1 q hq), fun b hb => ?_⟩
  by_cases e : b = hN h
  · subst e
    refine ⟨?_, Nat.lt_succ_self _, ?_⟩
    · show (if hN h = hN h then t else hT h (hN h)).1 < 19
      rw [if_pos rfl]; exact ht
    · show okc o (hN h) (if hN h = hN h then t else hT h (hN h)) (if hN h = hN h then (fun _ => none) else hR h (hN h)) (if hN h = hN h then (fun _ => 0) else hI h (hN h)) H1
      rw [if_pos rfl, if_pos rfl, if_pos rfl]
      exact hn
  · have hb' : (hT h b).1 ≠ 0 := by
      have : (if b = hN h then t else hT h b).1 ≠ 0 := hb
      rwa [if_neg e] at this
    obtain ⟨g1, g2, g3⟩ := h3.2.2 b hb'
    refine ⟨?_, Nat.lt_succ_of_lt g2, ?_⟩
    · show (if b = hN h then t else hT h b).1 < 19
      rw [if_neg e]; exact g1
    · show okc o b (if b = hN h then t else hT h b) (if b = hN h then (fun _ => none) else hR h b) (if b = hN h then (fun _ => 0) else hI h b) H1
      rw [if_neg e, if_neg e, if_neg e]
      exact g3.kept (ho _ (by omega))
theorem cv_upI {o : OM} {t k : Nat} {r : Nat → Option Nat} {i : Nat → Int32} (x : Int32) (h : isR t k = false) (h4 : t ≠ 4) : updV (cv o t r i) k (.int x) = cv o t r (fun q => if q = k then x else i q) := by
  funext j
  unfold updV cv
  by_cases e : j = k
  · subst e
    simp [h, h4]
  · simp [e]
theorem cv_upL {o : OM} {k : Nat} {r : Nat → Option Nat} {i : Nat → Int32} (x : Int32) : updV (cv o 4 r i) k (.long x.toInt64) = cv o 4 r (fun q => if q = k then x else i q) := by
  funext j
  unfold updV cv
  by_cases e : j = k
  · subst e
    simp [isR]
  · simp [e]
theorem cv_upR {o : OM} {t k : Nat} {r : Nat → Option Nat} {i : Nat → Int32} (v : Option Nat) (h : isR t k = true) : updV (cv o t r i) k (fr o v) = cv o t (fun q => if q = k then v else r q) i := by
  funext j
  unfold updV cv
  by_cases e : j = k
  · subst e
    simp [h]
  · simp [e]
theorem arr_of {o : OM} {s : State} (hK : Kx o s) {t : Nat} (h1 : 1 ≤ t) (h2 : t ≤ 7) : ArrOfT s (odA o t) (aty t) ∧ va_RA s (odA o t) (aty t) := by
  refine hK.1.2 (t - 1) (odA o t, aty t) ?_
  unfold oty
  rw [List.getElem?_map, List.getElem?_range (by omega)]
  simp [show t - 1 + 1 = t by omega]
def FLk (own : String) (idx ci k : Nat) : Prop := ci < 9 ∧ k < nfl ci ∧ Cond.fieldLink own idx (fT ci k).1 (fT ci k).2.1 (fT ci k).2.2.1 ∈ gt_ws
section RH
variable {o : OM} {l : Launch} {m : MD} {bg : Nat × Nat} {pc pc' tgt : Nat} {L L' : List (Option Value)} {st : List Value} {h : AH} {Q : Option Value → AH → Prop}
theorem r_iald {a n j : Nat} {i : Int32} (hd : dd m pc .iaload 1 pc') (ha : hT h a = (1, n)) (hi : i = nI j) (hj : j < n) (hn : n < 2 ^ 31) (k : Rn o l m bg pc' L (.int (hI h a j) :: st) h Q) : Rn o l m bg pc L (.int i :: .ref a :: st) h Q := by
  obtain ⟨hd, rfl⟩ := hd
  subst hi
  intro p e R s mm args below meth c H locs cells slots Z ls hC h1 h2 h3 h4 h5 h6
  have hc := (h3.2.2 a (by rw [ha]; simp)).2.2
  rw [okc_arr (by rw [ha]; simp), ha] at hc
  have hcl : (nI j).toNatClampNeg = j := nI_clamp (by omega)
  refine W.iald (v := .int (hI h a j)) hC.1 hC.2.1 hc ((arr_of hC.2.2.2.2.2.2.1 (t := 1) (by decide) (by decide)).1 n _) (fun q => by cases q) ?_ ?_ rfl rfl hd (k p e R s mm args below meth c H locs cells slots Z ls hC h1 h2 h3 h4 h5 h6)
  · rw [arrV_size]; exact vp_in_nI hj hn
  · rw [hcl, arrV_read _ _ hj]; simp [cv, isR]
theorem r_bald {a n j : Nat} {i : Int32} (hd : dd m pc .baload 1 pc') (ha : hT h a = (2, n)) (hi : i = nI j) (hj : j < n) (hn : n < 2 ^ 31) (k : Rn o l m bg pc' L (.int (hI h a j) :: st) h Q) : Rn o l m bg pc L (.int i :: .ref a :: st) h Q := by
  obtain ⟨hd, rfl⟩ := hd
  subst hi
  intro p e R s mm args below meth c H locs cells slots Z ls hC h1 h2 h3 h4 h5 h6
  have hc := (h3.2.2 a (by rw [ha]; simp)).2.2
  rw [okc_arr (by rw [ha]; simp), ha] at hc
  have hcl : (nI j).toNatClampNeg = j := nI_clamp (by omega)
  refine W.bald (v := .int (hI h a j)) hC.1 hC.2.1 hc ((arr_of hC.2.2.2.2.2.2.1 (t := 2) (by decide) (by decide)).1 n _) (fun q => by cases q) ?_ ?_ rfl rfl hd (k p e R s mm args below meth c H locs cells slots Z ls hC h1 h2 h3 h4 h5 h6)
  · rw [arrV_size]; exact vp_in_nI hj hn
  · rw [hcl, arrV_read _ _ hj]; simp [cv, isR]
theorem r_zald {a n j : Nat} {i : Int32} (hd : dd m pc .baload 1 pc') (ha : hT h a = (3, n)) (hi : i = nI j) (hj : j < n) (hn : n < 2 ^ 31) (k : Rn o l m bg pc' L (.int (hI h a j) :: st) h Q) : Rn o l m bg pc L (.int i :: .ref a :: st) h Q := by
  obtain ⟨hd, rfl⟩ := hd
  subst hi
  intro p e R s mm args below meth c H locs cells slots Z ls hC h1 h2 h3 h4 h5 h6
  have hc := (h3.2.2 a (by rw [ha]; simp)).2.2
  rw [okc_arr (by rw [ha]; simp), ha] at hc
  have hcl : (nI j).toNatClampNeg = j := nI_clamp (by omega)
  refine W.zald (v := .int (hI h a j)) hC.1 hC.2.1 hc ((arr_of hC.2.2.2.2.2.2.1 (t := 3) (by decide) (by decide)).1 n _) (fun q => by cases q) ?_ ?_ rfl rfl hd (k p e R s mm args below meth c H locs cells slots Z ls hC h1 h2 h3 h4 h5 h6)
  · rw [arrV_size]; exact vp_in_nI hj hn
  · rw [hcl, arrV_read _ _ hj]; simp [cv, isR]
theorem r_lald {a n j : Nat} {i : Int32} (hd : dd m pc .laload 1 pc') (ha : hT h a = (4, n)) (hi : i = nI j) (hj : j < n) (hn : n < 2 ^ 31) (k : Rn o l m bg pc' L (.long (hI h a j).toInt64 :: st) h Q) : Rn o l m bg pc L (.int i :: .ref a :: st) h Q := by
  obtain ⟨hd, rfl⟩ := hd
  subst hi
  intro p e R s mm args below meth c H locs cells slots Z ls hC h1 h2 h3 h4 h5 h6
  have hc := (h3.2.2 a (by rw [ha]; simp)).2.2
  rw [okc_arr (by rw [ha]; simp), ha] at hc
  have hcl : (nI j).toNatClampNeg = j := nI_clamp (by omega)
  refine W.lald (v := .long (hI h a j).toInt64) hC.1 hC.2.1 hc ((arr_of hC.2.2.2.2.2.2.1 (t := 4) (by decide) (by decide)).1 n _) (fun q => by cases q) ?_ ?_ rfl rfl hd (k p e R s mm args below meth c H locs cells slots Z ls hC h1 h2 h3 h4 h5 h6)
  · rw [arrV_size]; exact vp_in_nI hj hn
  · rw [hcl, arrV_read _ _ hj]; simp [cv, isR]
theorem r_aald {a n j t b : Nat} {i : Int32} (hd : dd m pc .aaload 1 pc') (ha : hT h a = (t, n)) (ht : t = 5 ∨ t = 6 ∨ t = 7) (hi : i = nI j) (hj : j < n) (hn : n < 2 ^ 31) (hr : hR h a j = some b) (k : Rn o l m bg pc' L (.ref b :: st) h Q) : Rn o l m bg pc L (.int i :: .ref a :: st) h Q := by
  obtain ⟨hd, rfl⟩ := hd
  subst hi
  intro p e R s mm args below meth c H locs cells slots Z ls hC h1 h2 h3 h4 h5 h6
  have hc := (h3.2.2 a (by rw [ha]; show t ≠ 0; omega)).2.2
  rw [okc_arr (by rw [ha]; show t < 10; omega), ha] at hc
  have hcl : (nI j).toNatClampNeg = j := nI_clamp (by omega)
  refine W.aald (v := .ref (ob0 o + b)) (ty := aty t) hC.1 hC.2.1 hc ((arr_of hC.2.2.2.2.2.2.1 (t := t) (by omega) (by omega)).1 n _) (by rcases ht with rfl | rfl | rfl <;> rfl) (fun q => by cases q) ?_ ?_ rfl rfl hd (k p e R s mm args below meth c H locs cells slots Z ls hC h1 h2 h3 h4 h5 h6)
  · rw [arrV_size]; exact vp_in_nI hj hn
  · rw [hcl, arrV_read _ _ hj]
    rcases ht with rfl | rfl | rfl <;> simp [cv, isR, fr, hr, va_rf]
theorem r_alen {a n t : Nat} (hd : dd m pc .arraylength 1 pc') (ha : hT h a = (t, n)) (ht : 1 ≤ t ∧ t ≤ 7) (k : Rn o l m bg pc' L (.int (nI n) :: st) h Q) : Rn o l m bg pc L (.ref a :: st) h Q := by
  obtain ⟨hd, rfl⟩ := hd
  intro p e R s mm args below meth c H locs cells slots Z ls hC h1 h2 h3 h4 h5 h6
  have hc := (h3.2.2 a (by rw [ha]; show t ≠ 0; omega)).2.2
  rw [okc_arr (by rw [ha]; show t < 10; omega), ha] at hc
  exact W.alen (n := nI n) hC.1 hC.2.1 hc ((arr_of hC.2.2.2.2.2.2.1 (t := t) (by omega) (by omega)).1 n _) (by rw [arrV_size]; rfl) rfl rfl hd (k p e R s mm args below meth c H locs cells slots Z ls hC h1 h2 h3 h4 h5 h6)
theorem lo_put {o : OM} {locs : List Loc} {a k : Nat} (h4 : ∀ q ∈ locs, ob0 o ≤ q.base) : ∀ q ∈ locs ++ [⟨ob0 o + a, k⟩], ob0 o ≤ q.base := by
  intro q hq
  rcases List.mem_append.mp hq with h | h
  · exact h4 q h
  · rw [List.mem_singleton.mp h]; exact Nat.le_add_right _ _
theorem r_iast {a n j : Nat} {i x : Int32} (hd : dd m pc .iastore 1 pc') (ha : hT h a = (1, n)) (hi : i = nI j) (hj : j < n) (hn : n < 2 ^ 31) (k : Rn o l m bg pc' L st (sI h a j x) Q) : Rn o l m bg pc L (.int x :: .int i :: .ref a :: st) h Q := by
  obtain ⟨hd, rfl⟩ := hd
  subst hi
  intro p e R s mm args below meth c H locs cells slots Z ls hC h1 h2 h3 h4 h5 h6
  have h0 : (hT h a).1 ≠ 0 := by rw [ha]; simp
  have hc := (h3.2.2 a h0).2.2
  rw [okc_arr (by rw [ha]; simp), ha] at hc
  have hcl : (nI j).toNatClampNeg = j := nI_clamp (by omega)
  refine W.iast hC.1 hC.2.1 hc ((arr_of hC.2.2.2.2.2.2.1 (t := 1) (by decide) (by decide)).1 n _) (fun q => by cases q) (by rw [arrV_size]; exact vp_in_nI hj hn) rfl rfl hd (fun H1 e1 e2 e3 => ?_)
  rw [hcl, arrV_store, cv_upI x rfl (by simp)] at e1
  refine k p e R s mm args below meth c H1 _ cells slots Z ls hC h1 h2 (h3.setI h0 ?_ e2 e3) (lo_put h4) h5 h6
  rw [okc_arr (by rw [ha]; simp), ha]
  exact e1
theorem r_bast {a n j : Nat} {i x : Int32} (hd : dd m pc .bastore 1 pc') (ha : hT h a = (2, n)) (hi : i = nI j) (hj : j < n) (hn : n < 2 ^ 31) (k : Rn o l m bg pc' L st (sI h a j x.toInt8.toInt32) Q) : Rn o l m bg pc L (.int x :: .int i :: .ref a :: st) h Q := by
  obtain ⟨hd, rfl⟩ := hd
  subst hi
  intro p e R s mm args below meth c H locs cells slots Z ls hC h1 h2 h3 h4 h5 h6
  have h0 : (hT h a).1 ≠ 0 := by rw [ha]; simp
  have hc := (h3.2.2 a h0).2.2
  rw [okc_arr (by rw [ha]; simp), ha] at hc
  have hcl : (nI j).toNatClampNeg = j := nI_clamp (by omega)
  refine W.bast hC.1 hC.2.1 hc ((arr_of hC.2.2.2.2.2.2.1 (t := 2) (by decide) (by decide)).1 n _) (fun q => by cases q) (by rw [arrV_size]; exact vp_in_nI hj hn) rfl rfl hd (fun H1 e1 e2 e3 => ?_)
  rw [hcl, narrow_byte, arrV_store, cv_upI _ rfl (by simp)] at e1
  refine k p e R s mm args below meth c H1 _ cells slots Z ls hC h1 h2 (h3.setI h0 ?_ e2 e3) (lo_put h4) h5 h6
  rw [okc_arr (by rw [ha]; simp), ha]
  exact e1
theorem r_zast {a n j : Nat} {i x : Int32} (hd : dd m pc .bastore 1 pc') (ha : hT h a = (3, n)) (hi : i = nI j) (hj : j < n) (hn : n < 2 ^ 31) (hx : narrow .boolean (.int x) = .int x) (k : Rn o l m bg pc' L st (sI h a j x) Q) : Rn o l m bg pc L (.int x :: .int i :: .ref a :: st) h Q := by
  obtain ⟨hd, rfl⟩ := hd
  subst hi
  intro p e R s mm args below meth c H locs cells slots Z ls hC h1 h2 h3 h4 h5 h6
  have h0 : (hT h a).1 ≠ 0 := by rw [ha]; simp
  have hc := (h3.2.2 a h0).2.2
  rw [okc_arr (by rw [ha]; simp), ha] at hc
  have hcl : (nI j).toNatClampNeg = j := nI_clamp (by omega)
  refine W.zast hC.1 hC.2.1 hc ((arr_of hC.2.2.2.2.2.2.1 (t := 3) (by decide) (by decide)).1 n _) (fun q => by cases q) (by rw [arrV_size]; exact vp_in_nI hj hn) rfl rfl hd (fun H1 e1 e2 e3 => ?_)
  rw [hcl, hx, arrV_store, cv_upI _ rfl (by simp)] at e1
  refine k p e R s mm args below meth c H1 _ cells slots Z ls hC h1 h2 (h3.setI h0 ?_ e2 e3) (lo_put h4) h5 h6
  rw [okc_arr (by rw [ha]; simp), ha]
  exact e1
theorem r_last {a n j : Nat} {i x : Int32} {y : Int64} (hd : dd m pc .lastore 1 pc') (ha : hT h a = (4, n)) (hi : i = nI j) (hj : j < n) (hn : n < 2 ^ 31) (hy : y = x.toInt64) (k : Rn o l m bg pc' L st (sI h a j x) Q) : Rn o l m bg pc L (.long y :: .int i :: .ref a :: st) h Q := by
  obtain ⟨hd, rfl⟩ := hd
  subst hi
  subst hy
  intro p e R s mm args below meth c H locs cells slots Z ls hC h1 h2 h3 h4 h5 h6
  have h0 : (hT h a).1 ≠ 0 := by rw [ha]; simp
  have hc := (h3.2.2 a h0).2.2
  rw [okc_arr (by rw [ha]; simp), ha] at hc
  have hcl : (nI j).toNatClampNeg = j := nI_clamp (by omega)
  refine W.last hC.1 hC.2.1 hc ((arr_of hC.2.2.2.2.2.2.1 (t := 4) (by decide) (by decide)).1 n _) (fun q => by cases q) (by rw [arrV_size]; exact vp_in_nI hj hn) rfl rfl hd (fun H1 e1 e2 e3 => ?_)
  rw [hcl, arrV_store, cv_upL] at e1
  refine k p e R s mm args below meth c H1 _ cells slots Z ls hC h1 h2 (h3.setI h0 ?_ e2 e3) (lo_put h4) h5 h6
  rw [okc_arr (by rw [ha]; simp), ha]
  exact e1
end RH
end
section
section RF
variable {o : OM} {l : Launch} {m : MD} {bg : Nat × Nat} {pc pc' tgt : Nat} {L L' : List (Option Value)} {st : List Value} {h : AH} {Q : Option Value → AH → Prop}
theorem Rp.obj {H : Heap} {a ci : Nat} (h3 : Rp o h H) (ha : (hT h a).1 = 10 + ci) : t_OB (ob0 o + a) (odC o ci) (nfl ci) (odI o ci) H (cv o (10 + ci) (hR h a) (hI h a)) := (okc_obj ha).mp (h3.2.2 a (by omega)).2.2
theorem r_geti {a idx ci k : Nat} (hd : dd m pc (.getfield idx) 3 pc') (hf : FLk (mcls m) idx ci k) (hr : isR (10 + ci) k = false) (ha : (hT h a).1 = 10 + ci) (kk : Rn o l m bg pc' L (.int (hI h a k) :: st) h Q) : Rn o l m bg pc L (.ref a :: st) h Q := by
  obtain ⟨hd, rfl⟩ := hd
  obtain ⟨f1, f2, f3⟩ := hf
  intro p e R s mm args below meth c H locs cells slots Z ls hC h1 h2 h3 h4 h5 h6
  obtain ⟨cell, q1, q2, q3, q4⟩ := h3.obj ha
  have hts := hC.2.2.2.2.2.1
  obtain ⟨hS, hfc, kC, hkC, hkind⟩ := hC.2.2.2.2.2.2.1.1.1 ci _ (fc_at ci f1)
  obtain ⟨cf, kf, fi, f, hi, hsl⟩ := hS k f2
  refine W.getf hC.1 hC.2.1 hC.2.2.2.2.1 (hts _ f3) hi (u_facts hfc hkC (u_lays hts (fc_ws ci f1) f2) hi).1 q1 (by rw [q3]; exact fun h => by cases h) (v := .int (hI h a k)) ?_ rfl rfl hd (kk p e R s mm args below meth c H locs cells slots Z ls hC h1 h2 h3 h4 h5 h6)
  rw [hsl]
  refine (q4 k f2).trans ?_
  rw [cv, if_neg (by rw [hr]; decide), if_neg (by omega)]
theorem r_getr {a idx ci k b : Nat} (hd : dd m pc (.getfield idx) 3 pc') (hf : FLk (mcls m) idx ci k) (hr : isR (10 + ci) k = true) (ha : (hT h a).1 = 10 + ci) (hb : hR h a k = some b) (kk : Rn o l m bg pc' L (.ref b :: st) h Q) : Rn o l m bg pc L (.ref a :: st) h Q := by
  obtain ⟨hd, rfl⟩ := hd
  obtain ⟨f1, f2, f3⟩ := hf
  intro p e R s mm args below meth c H locs cells slots Z ls hC h1 h2 h3 h4 h5 h6
  obtain ⟨cell, q1, q2, q3, q4⟩ := h3.obj ha
  have hts := hC.2.2.2.2.2.1
  obtain ⟨hS, hfc, kC, hkC, hkind⟩ := hC.2.2.2.2.2.2.1.1.1 ci _ (fc_at ci f1)
  obtain ⟨cf, kf, fi, f, hi, hsl⟩ := hS k f2
  refine W.getf hC.1 hC.2.1 hC.2.2.2.2.1 (hts _ f3) hi (u_facts hfc hkC (u_lays hts (fc_ws ci f1) f2) hi).1 q1 (by rw [q3]; exact fun h => by cases h) (v := .ref (ob0 o + b)) ?_ rfl rfl hd (kk p e R s mm args below meth c H locs cells slots Z ls hC h1 h2 h3 h4 h5 h6)
  rw [hsl]
  refine (q4 k f2).trans ?_
  rw [cv, if_pos hr, fr, hb]
  rfl
theorem r_puti {a idx ci k : Nat} {x : Int32} (hd : dd m pc (.putfield idx) 3 pc') (hf : FLk (mcls m) idx ci k) (hr : isR (10 + ci) k = false) (hy : fY ci k = .int) (hfin : (fT ci k).2.2.2 = false) (ha : (hT h a).1 = 10 + ci) (kk : Rn o l m bg pc' L st (sI h a k x) Q) : Rn o l m bg pc L (.int x :: .ref a :: st) h Q := by
  obtain ⟨hd, rfl⟩ := hd
  obtain ⟨f1, f2, f3⟩ := hf
  intro p e R s mm args below meth c H locs cells slots Z ls hC h1 h2 h3 h4 h5 h6
  obtain ⟨cell, q1, q2, q3, q4⟩ := h3.obj ha
  have hts := hC.2.2.2.2.2.1
  have hK := hC.2.2.2.2.2.2.1.1
  have hap := va_apart (own := mcls m) hts (fc_ws ci f1) (fY ci) (fc_ty ci f1) (fc_nm ci f1) hK (fc_at ci f1)
  obtain ⟨hS, hfc, kC, hkC, hkind⟩ := hK.1 ci _ (fc_at ci f1)
  obtain ⟨cf, kf, fi, f, hi, hsl⟩ := hS k f2
  have hlay := hts _ (fc_ws ci f1 _ (u_in_lay f2))
  unfold u_lay at hlay
  rw [if_neg (by rw [hfin]; decide)] at hlay
  have hst := (u_facts hfc hkC (u_lays hts (fc_ws ci f1) f2) hi).1
  have h7 := u_store (ty := .int) (v := .int x) hfc hkC hkind hlay hi ((fc_ty ci f1 k f2).trans (by rw [hy])) rfl rfl
  refine W.putK hC.1 hC.2.1 (f := f) ⟨hC.2.2.2.2.1, hts _ f3, ⟨_, _, _, hi⟩, hst⟩ (by rw [q2]; exact h7) q1 q3 (by rw [hsl]; exact k2_hasslot (q4 k f2)) rfl rfl hd fun H1 e1 e2 e3 => ?_
  rw [hsl] at e1 ⊢
  have h0 : (hT h a).1 ≠ 0 := by omega
  refine kk p e R s mm args below meth c H1 _ cells slots Z ls hC h1 h2 (h3.setI h0 ?_ e2 e3) (lo_put h4) h5 h6
  rw [okc_obj ha, ← cv_upI x hr (by omega)]
  exact ⟨_, e1, q2, q3, t_set q4 hap f2 _⟩
theorem r_putr {a idx ci k b : Nat} (hd : dd m pc (.putfield idx) 3 pc') (hf : FLk (mcls m) idx ci k) (hr : isR (10 + ci) k = true) (hy : ∀ x : Nat, narrow (fY ci k) (.ref x) = .ref x ∧ fits (fY ci k) (.ref x) = true) (hfin : (fT ci k).2.2.2 = true) (hdecl : (fT ci k).1 = mcls m) (hini : (mnam m).name = "<init>") (ha : (hT h a).1 = 10 + ci) (kk : Rn o l m bg pc' L st (sR h a k (some b)) Q) : Rn o l m bg pc L (.ref b :: .ref a :: st) h Q := by
  obtain ⟨hd, rfl⟩ := hd
  obtain ⟨f1, f2, f3⟩ := hf
  intro p e R s mm args below meth c H locs cells slots Z ls hC h1 h2 h3 h4 h5 h6
  obtain ⟨cell, q1, q2, q3, q4⟩ := h3.obj ha
  have hts := hC.2.2.2.2.2.1
  have hown := hC.2.2.2.2.1
  have hnm : meth.name = "<init>" := hC.2.2.2.2.2.2.2.2.1.trans hini
  have hK := hC.2.2.2.2.2.2.1.1
  have hap := va_apart (own := mcls m) hts (fc_ws ci f1) (fY ci) (fc_ty ci f1) (fc_nm ci f1) hK (fc_at ci f1)
  obtain ⟨hS, hfc, kC, hkC, hkind⟩ := hK.1 ci _ (fc_at ci f1)
  obtain ⟨cf, kf, fi, f, hi, hsl⟩ := hS k f2
  have hlay := hts _ (fc_ws ci f1 _ (u_in_lay f2))
  unfold u_lay at hlay
  rw [if_pos hfin] at hlay
  have hst := (u_facts hfc hkC (u_lays hts (fc_ws ci f1) f2) hi).1
  have hcf : mm.cls = cf := by
    obtain ⟨_, _, c', _, _, _, -, -, hf', -, -, -, hown2, -⟩ := Cond.laysFinal_spec hlay
    have e1 : c' = cf := by have := hi.symm.trans hf'; simp at this; exact this.1.symm
    rw [hdecl] at hown2
    rw [← e1]; exact Option.some.inj (hown.symm.trans hown2)
  have h7 := u_fits (v := .ref (ob0 o + b)) hfc hkC hkind (Or.inr hlay) hi (fc_ty ci f1 k f2) (hy _).1 (hy _).2
  refine W.putFinK hC.1 hC.2.1 hown (hts _ f3) hi hst hcf hnm (by rw [q2]; exact h7) q1 q3 (by rw [hsl]; exact k2_hasslot (q4 k f2)) rfl rfl hd fun H1 e1 e2 e3 => ?_
  rw [hsl] at e1 ⊢
  have h0 : (hT h a).1 ≠ 0 := by omega
  refine kk p e R s mm args below meth c H1 _ cells slots Z ls hC h1 h2 (h3.setR h0 ?_ e2 e3) (lo_put h4) h5 h6
  rw [okc_obj ha, ← cv_upR (some b) hr]
  exact ⟨_, e1, q2, q3, t_set q4 hap f2 _⟩
theorem fc_def : ∀ ci, ci < 9 → ∀ k, k < nfl ci → defaultValue (fY ci k) = if isR (10 + ci) k = true then .null else .int 0 := by decide +kernel
def NWk (own : String) (idx ci : Nat) : Prop := ci < 9 ∧ Cond.classLink own idx (fC ci) ∈ gt_ws ∧ Cond.instantiable (fC ci) (nfl ci) ∈ gt_ws ∧ Cond.initialized (fC ci) ∈ gt_ws
theorem r_new {idx ci : Nat} {bg' : Nat × Nat} (hd : dd m pc (.new idx) 3 pc') (hf : NWk (mcls m) idx ci) (hb1 : bg'.1 + 1 = bg.1) (hb2 : bg'.2 + nfl ci = bg.2) (kk : Rn o l m bg' pc' L (.ref (hN h) :: st) (hnew h (10 + ci, 0)) Q) : Rn o l m bg pc L st h Q := by
  obtain ⟨hd, rfl⟩ := hd
  obtain ⟨f1, f2, f3, f4⟩ := hf
  intro p e R s mm args below meth c H locs cells slots Z ls hC h1 h2 h3 h4 h5 h6
  have hts := hC.2.2.2.2.2.1
  have hKn := hC.2.2.2.2.2.2.1.1.1 ci _ (fc_at ci f1)
  refine W.newcK hC.1 hC.2.1 hC.2.2.2.2.1 (hts _ f2) (hts _ f3) (hts _ f4) rfl hd (by omega) (by omega) hKn.2.1 (h := ob0 o + hN h) h3.1 fun H1 kC hkC e1 z1 o1 => ?_
  refine kk p e R s mm args below meth c H1 locs (cells + 1) (slots + nfl ci) Z ls hC (by omega) (by omega) (h3.new (by show 10 + ci < 19; omega) ?_ (by rw [z1, h3.1]) (fun q hq => o1 q (by rw [← h3.1]; exact hq))) h4 h5 h6
  rw [okc_obj rfl]
  refine (u_born (fY ci) hts (fc_ws ci f1) hKn hkC e1 (fc_ty ci f1)).to (fun k hk => ?_)
  rw [fc_def ci f1 k hk, cv]
  split
  · rfl
  · rw [if_neg (by omega)]
theorem cv_def {t k : Nat} (h1 : 1 ≤ t) (h2 : t ≤ 7) : cv o t (fun _ => none) (fun _ => 0) k = defaultValue (aty t) := by
  rcases (show t = 1 ∨ t = 2 ∨ t = 3 ∨ t = 4 ∨ t = 5 ∨ t = 6 ∨ t = 7 by omega) with rfl | rfl | rfl | rfl | rfl | rfl | rfl <;> rfl
theorem r_newa {at9 : ArrayType} {t N : Nat} {n : Int32} {bg' : Nat × Nat} (hd : dd m pc (.newarray at9) 2 pc') (ht : aty t = newarray.typeOf at9) (ht1 : 1 ≤ t) (ht2 : t ≤ 4) (hw : Cond.arrayClass (newarray.typeOf at9) ∈ gt_ws) (hn : n = nI N) (hN0 : N ≤ 65536) (hb1 : bg'.1 + 1 = bg.1) (hb2 : bg'.2 + N = bg.2) (kk : Rn o l m bg' pc' L (.ref (hN h) :: st) (hnew h (t, N)) Q) : Rn o l m bg pc L (.int n :: st) h Q := by
  obtain ⟨hd, rfl⟩ := hd
  subst hn
  intro p e R s mm args below meth c H locs cells slots Z ls hC h1 h2 h3 h4 h5 h6
  have hts := hC.2.2.2.2.2.1
  have hcl : (nI N).toNatClampNeg = N := nI_clamp (by omega)
  refine va_newaK hC.1 hC.2.1 (hts _ hw) rfl hd rfl (nI_pos (by omega)) hcl (by
      have : componentBytes (newarray.typeOf at9) ≤ 8 := by cases at9 <;> decide
      have := Nat.mul_le_mul hN0 this
      omega) (by omega) (by omega) (h := ob0 o + hN h) h3.1 fun H1 cA e1 z1 o1 hA hf => ?_
  refine kk p e R s mm args below meth c H1 locs (cells + 1) (slots + N) Z ls hC (by omega) (by omega) (h3.new (by show t < 19; omega) ?_ (by rw [z1, h3.1]) (fun q hq => o1 q (by rw [← h3.1]; exact hq))) h4 h5 h6
  rw [okc_arr (by show t < 10; omega)]
  have hRA := (arr_of hC.2.2.2.2.2.2.1 ht1 (by omega)).2
  rw [ht] at hRA
  have hcA : odA o t = cA := by
    have h8 : s.vm.findClass ("[" ++ (newarray.typeOf at9).toString) = some (odA o t) := by cases at9 <;> exact hRA
    exact Option.some.inj (h8.symm.trans hf)
  show H1[ob0 o + hN h]? = some (arrV (odA o t) N _)
  rw [hcA, e1]
  congr 1
  congr 1
  funext k
  rw [cv_def ht1 (by omega), ht]
def ANk (own : String) (idx t : Nat) : Prop := ∃ C : String, aty t = .object C ∧ Cond.classLink own idx C ∈ gt_ws ∧ Cond.arrayOver (.object C) ∈ gt_ws
theorem r_anew {idx t N : Nat} {n : Int32} {bg' : Nat × Nat} (hd : dd m pc (.anewarray idx) 3 pc') (hf : ANk (mcls m) idx t) (ht1 : 6 ≤ t) (ht2 : t ≤ 7) (hn : n = nI N) (hN0 : N ≤ 65536) (hb1 : bg'.1 + 1 = bg.1) (hb2 : bg'.2 + N = bg.2) (kk : Rn o l m bg' pc' L (.ref (hN h) :: st) (hnew h (t, N)) Q) : Rn o l m bg pc L (.int n :: st) h Q := by
  obtain ⟨hd, rfl⟩ := hd
  obtain ⟨C, f1, f2, f3⟩ := hf
  subst hn
  intro p e R s mm args below meth c H locs cells slots Z ls hC h1 h2 h3 h4 h5 h6
  have hts := hC.2.2.2.2.2.1
  have hcl : (nI N).toNatClampNeg = N := nI_clamp (by omega)
  refine W.anew hC.1 hC.2.1 hC.2.2.2.2.1 (hts _ f2) (hts _ f3) rfl hd rfl (nI_pos (by omega)) (by rw [hcl]; omega) (by omega) (by rw [hcl]; omega) fun cA kA comp g1 g2 g3 g4 => ?_
  rw [hcl, h3.1]
  refine kk p e R s mm args below meth c _ locs (cells + 1) (slots + N) Z ls hC (by omega) (by omega) (h3.new (by show t < 19; omega) ?_ (by simp) (fun q hq => by rw [Array.getElem?_push, if_neg (Nat.ne_of_lt hq)])) h4 h5 h6
  rw [okc_arr (by show t < 10; omega)]
  obtain ⟨-, _, _, _, _, hRA⟩ := f1 ▸ (arr_of hC.2.2.2.2.2.2.1 (t := t) (by omega) (by omega)).2
  have hcA : odA o t = cA := Option.some.inj (hRA.symm.trans g1)
  show _ = some (arrV (odA o t) N _)
  rw [hcA, ← h3.1, Array.getElem?_push, if_pos rfl, arrV_new]
  congr 1
  congr 1
  funext k
  rw [cv_def (by omega) ht2, f1]
  rfl
end RF
end
section
def LKd (own : String) (idx n : Nat) (k : MD) : Prop := Cond.code (mnam k) (mbt k) (mml k) (mrt k) ∈ gt_ws ∧ Cond.initialized (mnam k).cls ∈ gt_ws ∧ Cond.methodLink own idx (mnam k) ∈ gt_ws ∧ ((mnam k).cls ≠ "java/lang/invoke/MethodHandle" ∧ (mnam k).cls ≠ "java/lang/invoke/VarHandle" ∧ (parseMethodDescriptor (mnam k).desc).map (fun d => d.parameters.length) = some n) ∧ mml k ≤ 17
theorem gt_mws {k : MD} (h : Cond.code (mnam k) (mbt k) (mml k) (mrt k) ∈ gt_ws) : GoodIn gt_ws (mws k) := by
  intro w hw
  rcases List.mem_cons.mp hw with rfl | hw
  · exact ⟨h, gt_good h⟩
  · exact ⟨hw, gt_good hw⟩
theorem cb_of {R : Room} {s : State} {args : Array Value} {own : String} {idx n : Nat} {k : MD} {bg : Nat × Nat} (hts : ∀ w ∈ gt_ws, w.before args s = true) (hk : LKd own idx n k) (hf : mdp k + 1 ≤ R.frames) (hl : 36 * (mdp k + 1) ≤ R.locals) : CallB R s args own idx (mnam k) (mbt k) (mml k) (mrt k) (mws k) (rmo k bg) bg.1 bg.2 n := by
  obtain ⟨g1, g2, g3, g4, g5⟩ := hk
  exact callB_of n hts (gt_mws g1) rfl rfl rfl (hts _ g2) (hts _ g3) g4 ⟨hf, by show 8 + (mml k + 11) + 36 * mdp k ≤ R.locals; omega⟩
theorem pc_blind (o : OM) (av : List Value) (h : AH) : FrameBlind (Pco o av h) := by
  intro a U g mk q
  exact ⟨q.1, q.2.1, Kx.moved (s := U) (U := U.calling g mk a) (State.WarmedH.refl U) q.2.2⟩
theorem pc_pre {o : OM} {s : State} {H : Heap} {h : AH} (av : List Value) (h3 : Rp o h H) (hK : Kx o s) : PreS s H (Pco o av h) (av.map (fv o)) := ⟨pc_blind o av h, fun U hU hW => ⟨rfl, by rw [hU]; exact h3, hK.moved hW⟩⟩
theorem tl_map (o : OM) (v : Option Value) (st : List Value) : (v.toList ++ st).map (fv o) = (v.map (fv o)).toList ++ st.map (fv o) := by cases v <;> rfl
theorem cat_map (o : OM) (st : List Value) : ((st.map (fv o)).map fun v => v.category).sum = (st.map fun v => v.category).sum := by
  rw [List.map_map]
  congr 1
  apply List.map_congr_left
  intro v _
  exact fv_cat o v
section RC
variable {o : OM} {l : Launch} {m k : MD} {bg : Nat × Nat} {pc pc' tgt : Nat} {L L' : List (Option Value)} {st : List Value} {h : AH} {Q Q1 : Option Value → AH → Prop}
theorem r_goes {bg' bg2 : Nat × Nat} {st0 : List Value} (hb1 : bg'.1 + bg2.1 ≤ bg.1) (hb2 : bg'.2 + bg2.2 ≤ bg.2) (kk : ∀ v h', Q1 v h' → Rn o l m bg2 (pc + 3) L (v.toList ++ st) h' Q)
    {p : Program} {e : Env} {R : Room} {s : State} {mm : MethodId} {args a9 : Array Value} {below : List Frame} {meth : Method} {c : Code} {H : Heap} {locs : List Loc} {cells slots : Nat} {Z : State → Prop} {ls : Array Slot}
    (hC : Cx o m R p s mm args meth c) (h1 : cells + bg.1 ≤ R.cells) (h2 : slots + bg.2 ≤ R.slots) (h4 : ∀ q ∈ locs, ob0 o ≤ q.base) (h5 : Lc o m L ls)
    (h6 : ∀ (v : Option Value) (h' : AH) (H' : Heap) (locs' : List Loc) (cells' slots' pc' : Nat) (ls' : Array Slot), Q v h' → Rp o h' H' → (∀ q ∈ locs', ob0 o ≤ q.base) → cells' ≤ R.cells → slots' ≤ R.slots → RetAt m pc' v →
      W p l e R s mm args below meth c H' locs' cells' slots' Z (F0 mm pc' ls' (v.toList.map (fv o))))
    (run : va_Run p l e R s mm args below meth c H locs cells slots bg'.1 bg'.2 (F0 mm pc ls st0) (st.map (fv o)) (Qco o Q1 a9) (fun q => ob0 o ≤ q)) : W p l e R s mm args below meth c H locs cells slots Z (F0 mm pc ls st0) := by
  intro T hT X
  obtain ⟨v, st₀, t, T', L2, h0, X', hL2, e1, e2, ⟨v', h', hv, hQ, hRp⟩, go⟩ := run T hT X
  cases hv
  rw [← e1] at hRp
  obtain ⟨t2, a1, b1⟩ := kk v' h' hQ p e R s mm args below meth c T'.heap (locs ++ L2) (cells + bg'.1) (slots + bg'.2) Z ls hC (by omega) (by omega) hRp (fun q hq => by
    rcases List.mem_append.mp hq with h8 | h8
    · exact h4 q h8
    · exact hL2 q h8) h5 h6 T' rfl X'
  rw [tl_map] at a1
  exact ⟨t2, go t2 a1, b1⟩
theorem r_callS {idx n : Nat} {av : List Value} {st0 : List Value} (hd : dd m pc (.invokestatic idx) 3 pc') (hk : LKd (mcls m) idx n k) (hs : Cond.static (mnam k) ∈ gt_ws) (hdp : mdp k + 1 ≤ mdp m) (hn : av.length = n) (hst : st0 = av.reverse ++ st) (hw : (st.map fun v => v.category).sum ≤ 8)
    (hc : Cl o l k (0, 0) av h Q1) (kk : ∀ v h', Q1 v h' → Rn o l m bg pc' L (v.toList ++ st) h' Q) : Rn o l m bg pc L st0 h Q := by
  obtain ⟨hd, rfl⟩ := hd
  subst hst
  intro p e R s mm args below meth c H locs cells slots Z ls hC h1 h2 h3 h4 h5 h6
  have hts := hC.2.2.2.2.2.1
  have hf := hC.2.2.2.2.2.2.2.2.2.1
  have hl := hC.2.2.2.2.2.2.2.2.2.2
  refine r_goes (bg := bg) (bg' := (0, 0)) (bg2 := bg) (by simp) (by simp) kk hC h1 h2 h4 h5 h6 (va_runS (As := av.map (fv o)) (nL := mml m) (Ts := gt_ws) (own := mcls m) (n := n) ⟨hC.1, hC.2.1, hC.2.2.2.1, hC.2.2.2.2.1, hts⟩ hc ⟨cb_of (bg := (0, 0)) hts hk (by omega) (by omega), hts _ hs⟩ (pc_pre av h3 hC.2.2.2.2.2.2.1) rfl (by rw [List.length_map]; exact hn) h5.1 ?_ ?_ hd ⟨by show cells + 0 ≤ _; omega, by show slots + 0 ≤ _; omega⟩)
  · show (av.reverse ++ st).map (fv o) = _
    rw [List.map_append, List.map_reverse]
  · exact lv_room (by rw [cat_map]; exact hw)
theorem r_callV {idx n a ci : Nat} {av : List Value} {st0 : List Value} (hd : dd m pc (.invokevirtual idx) 3 pc') (hk : LKd (mcls m) idx n k) (hs : Cond.instanceMethod (mnam k) ∈ gt_ws ∧ Cond.selects (fC ci) (mnam k) (mnam k) ∈ gt_ws ∧ ci < 9) (hdp : mdp k + 1 ≤ mdp m) (hn : av.length = n) (hst : st0 = av.reverse ++ .ref a :: st) (hw : (st.map fun v => v.category).sum ≤ 8) (ha : (hT h a).1 = 10 + ci)
    (hc : Cl o l k (0, 0) (.ref a :: av) h Q1) (kk : ∀ v h', Q1 v h' → Rn o l m bg pc' L (v.toList ++ st) h' Q) : Rn o l m bg pc L st0 h Q := by
  obtain ⟨hd, rfl⟩ := hd
  subst hst
  intro p e R s mm args below meth c H locs cells slots Z ls hC h1 h2 h3 h4 h5 h6
  have hts := hC.2.2.2.2.2.1
  have hf := hC.2.2.2.2.2.2.2.2.2.1
  have hl := hC.2.2.2.2.2.2.2.2.2.2
  obtain ⟨cell, q1, q2, q3, q4⟩ := h3.obj ha
  have hfc := (hC.2.2.2.2.2.2.1.1.1 ci _ (fc_at ci hs.2.2)).2.1
  refine r_goes (bg := bg) (bg' := (0, 0)) (bg2 := bg) (by simp) (by simp) kk hC h1 h2 h4 h5 h6 (va_runV (As := av.map (fv o)) (b := ob0 o + a) (C := fC ci) (nL := mml m) (Ts := gt_ws) (own := mcls m) (n := n) ⟨hC.1, hC.2.1, hC.2.2.2.1, hC.2.2.2.2.1, hts⟩ hc ⟨cb_of (bg := (0, 0)) hts hk (by omega) (by omega), hts _ hs.1, hts _ hs.2.1⟩ ⟨pc_blind o _ h, ⟨cell, q1, by rw [q3]; rfl, by rw [q2]; exact hfc⟩, (pc_pre (.ref a :: av) h3 hC.2.2.2.2.2.2.1).2⟩ rfl (by rw [List.length_map]; exact hn) h5.1 ?_ ?_ hd ⟨by show cells + 0 ≤ _; omega, by show slots + 0 ≤ _; omega⟩)
  · show (av.reverse ++ .ref a :: st).map (fv o) = _
    rw [List.map_append, List.map_reverse]
    rfl
  · exact lv_room (by rw [cat_map]; exact hw)
theorem r_callI {idx n a : Nat} {av : List Value} {st0 : List Value} {bg' bg2 : Nat × Nat} (hd : dd m pc (.invokespecial idx) 3 pc') (hk : LKd (mcls m) idx n k) (hs : Cond.instanceMethod (mnam k) ∈ gt_ws ∧ (mnam k).name = "<init>" ∧ mrt k = none) (hdp : mdp k + 1 ≤ mdp m) (hn : av.length = n) (hst : st0 = av.reverse ++ .ref a :: st) (hw : (st.map fun v => v.category).sum ≤ 8)
    (hb1 : bg'.1 + bg2.1 = bg.1) (hb2 : bg'.2 + bg2.2 = bg.2) (hc : Cl o l k bg' (.ref a :: av) h Q1) (kk : ∀ v h', Q1 v h' → Rn o l m bg2 pc' L (v.toList ++ st) h' Q) : Rn o l m bg pc L st0 h Q := by
  obtain ⟨hd, rfl⟩ := hd
  subst hst
  intro p e R s mm args below meth c H locs cells slots Z ls hC h1 h2 h3 h4 h5 h6
  have hts := hC.2.2.2.2.2.1
  have hf := hC.2.2.2.2.2.2.2.2.2.1
  have hl := hC.2.2.2.2.2.2.2.2.2.2
  have hcb := cb_of (R := R) (s := s) (args := args) (bg := bg') hts hk (by omega) (by omega)
  rw [hs.2.2] at hcb
  refine r_goes (bg := bg) (bg' := bg') (bg2 := bg2) (by omega) (by omega) kk hC h1 h2 h4 h5 h6 (va_runI (As := av.map (fv o)) (b := ob0 o + a) (nL := mml m) (Ts := gt_ws) (own := mcls m) (n := n) ⟨hC.1, hC.2.1, hC.2.2.2.1, hC.2.2.2.2.1, hts⟩ hc ⟨hcb, hs.2.1, hts _ hs.1⟩ (pc_pre (.ref a :: av) h3 hC.2.2.2.2.2.2.1) rfl (by rw [List.length_map]; exact hn) h5.1 ?_ ?_ hd ⟨by omega, by omega⟩)
  · show (av.reverse ++ .ref a :: st).map (fv o) = _
    rw [List.map_append, List.map_reverse]
    rfl
  · exact lv_room (by rw [cat_map]; exact hw)
theorem r_obj {idx a : Nat} (hd : dd m pc (.invokespecial idx) 3 pc') (hk : Cond.methodLink (mcls m) idx objectInit ∈ gt_ws ∧ Cond.instanceMethod objectInit ∈ gt_ws ∧ Cond.code objectInit ⟨#[0xb1]⟩ 1 none ∈ gt_ws) (hdp : 1 ≤ mdp m) (hw : (st.map fun v => v.category).sum ≤ 8) (kk : Rn o l m bg pc' L st h Q) : Rn o l m bg pc L (.ref a :: st) h Q := by
  obtain ⟨hd, rfl⟩ := hd
  intro p e R s mm args below meth c H locs cells slots Z ls hC h1 h2 h3 h4 h5 h6
  have hts := hC.2.2.2.2.2.1
  have hf := hC.2.2.2.2.2.2.2.2.2.1
  have hl := hC.2.2.2.2.2.2.2.2.2.2
  refine W.objInit hC.1 hC.2.1 hC.2.2.2.2.1 (hts _ hk.1) (hts _ hk.2.1) (hts _ hk.2.2) rfl (by rw [hC.2.2.2.1]; exact h5.1) rfl hd (by omega) ?_ (kk p e R s mm args below meth c H locs cells slots Z ls hC h1 h2 h3 h4 h5 h6)
  have h8 : 2 * (F0 mm pc ls ((Value.ref a :: st).map (fv o))).monitorRoom + ((st.map (fv o)).map fun v => v.category).sum ≤ 8 := lv_room (by rw [cat_map]; exact hw)
  omega
theorem r_aast {a b n j t ci : Nat} {i : Int32} (hd : dd m pc .aastore 1 pc') (ha : hT h a = (t, n)) (ht : t = 6 ∨ t = 7) (hci : ci < 9) (hty : aty t = .object (fC ci)) (hbt : (hT h b).1 = 10 + ci) (hi : i = nI j) (hj : j < n) (hn : n < 2 ^ 31) (kk : Rn o l m bg pc' L st (sR h a j (some b)) Q) : Rn o l m bg pc L (.ref b :: .int i :: .ref a :: st) h Q := by
  obtain ⟨hd, rfl⟩ := hd
  subst hi
  intro p e R s mm args below meth c H locs cells slots Z ls hC h1 h2 h3 h4 h5 h6
  have h0 : (hT h a).1 ≠ 0 := by rw [ha]; show t ≠ 0; omega
  have hc := (h3.2.2 a h0).2.2
  rw [okc_arr (by rw [ha]; show t < 10; omega), ha] at hc
  have hcl : (nI j).toNatClampNeg = j := nI_clamp (by omega)
  obtain ⟨cell, g1, g2, g3, -⟩ := h3.obj hbt
  have hcls := (hC.2.2.2.2.2.2.1.1.1 ci _ (fc_at ci hci)).2
  have hA := (arr_of hC.2.2.2.2.2.2.1 (t := t) (by omega) (by omega)).2
  rw [hty] at hA
  obtain ⟨kA, comp, k1, k2, k3, -⟩ := hA
  have hcomp : comp = odC o ci := Option.some.inj (k3.symm.trans hcls.1)
  subst hcomp
  obtain ⟨kC, hkC, -⟩ := id hcls.2
  refine W.aast hC.1 hC.2.1 hc (fun q h => by cases h) (fun h => by cases h) k1 k2 rfl hkC ⟨nI_pos (by omega), by rw [arrV_size, hcl]; exact hj⟩ g1 (fun q h => by rw [g3] at h; cases h) (by rw [g2]; exact hkC) (by rw [g2]; exact va_assign hcls) rfl rfl hd fun H1 e1 e2 e3 => ?_
  have hr : isR t j = true := by rcases ht with rfl | rfl <;> rfl
  rw [hcl, arrV_store, show (Value.ref (ob0 o + b)) = fr o (some b) from rfl, cv_upR (some b) hr] at e1
  refine kk p e R s mm args below meth c H1 _ cells slots Z ls hC h1 h2 (h3.setR h0 ?_ e2 e3) (lo_put h4) h5 h6
  rw [okc_arr (by rw [ha]; show t < 10; omega), ha]
  exact e1
theorem r_copy {idx a b n0 n1 sp dp n : Nat} {s9 d9 c9 : Int32} (hd : dd m pc (.invokestatic idx) 3 pc') (hk : Cond.methodLink (mcls m) idx arraycopyName ∈ gt_ws ∧ Cond.native arraycopyName ∈ gt_ws ∧ Cond.static arraycopyName ∈ gt_ws ∧ Cond.initialized "java/lang/System" ∈ gt_ws) (hdp : 1 ≤ mdp m) (ha : hT h a = (1, n0)) (hb : hT h b = (1, n1)) (hsp : s9 = nI sp) (hdp9 : d9 = nI dp) (hc9 : c9 = nI n) (hs1 : sp + n ≤ n0) (hs2 : dp + n ≤ n1) (hz : n0 < 2 ^ 31 ∧ n1 < 2 ^ 31) (hw : (st.map fun v => v.category).sum ≤ 8)
    (kk : Rn o l m bg pc' L st (sW h b (va_cpy (hI h a) (hI h b) sp dp n)) Q) : Rn o l m bg pc L (.int c9 :: .int d9 :: .ref b :: .int s9 :: .ref a :: st) h Q := by
  obtain ⟨hd, rfl⟩ := hd
  subst hsp; subst hdp9; subst hc9
  intro p e R s mm args below meth c H locs cells slots Z ls hC h1 h2 h3 h4 h5 h6
  have hts := hC.2.2.2.2.2.1
  have hf := hC.2.2.2.2.2.2.2.2.2.1
  have hl := hC.2.2.2.2.2.2.2.2.2.2
  have hK := hC.2.2.2.2.2.2.1.1
  have hcv : ∀ q : Nat, cv o 1 (hR h q) (hI h q) = fun j => .int (hI h q j) := fun q => by funext j; simp [cv, isR]
  have hca := (h3.2.2 a (by rw [ha]; simp)).2.2
  rw [okc_arr (by rw [ha]; simp), ha, hcv] at hca
  have hcb := (h3.2.2 b (by rw [hb]; simp)).2.2
  rw [okc_arr (by rw [hb]; simp), hb, hcv] at hcb
  have c1 : (nI sp).toNatClampNeg = sp := nI_clamp (by omega)
  have c2 : (nI dp).toNatClampNeg = dp := nI_clamp (by omega)
  have c3 : (nI n).toNatClampNeg = n := nI_clamp (by omega)
  intro T hT9 X
  obtain ⟨-, k0, hk0, cm0, hkk0⟩ := (arr_of hC.2.2.2.2.2.2.1 (t := 1) (by decide) (by decide)).1 n0 (fun j => .int (hI h a j))
  obtain ⟨-, k1, hk1, cm1, hkk1⟩ := (arr_of hC.2.2.2.2.2.2.1 (t := 1) (by decide) (by decide)).1 n1 (fun j => .int (hI h b j))
  obtain ⟨vm', X', step⟩ := X.arraycopy hC.1 hC.2.2.2.2.1 (hts _ hk.1) (hts _ hk.2.1) (hts _ hk.2.2.1) (hts _ hk.2.2.2) (src := ob0 o + a) (dst := ob0 o + b) (cs := arrV (odA o 1) n0 (fun j => .int (hI h a j))) (cd := arrV (odA o 1) n1 (fun j => .int (hI h b j))) (srcPos := nI sp) (destPos := nI dp) (n := nI n) (by rw [hT9]; exact hca) (by rw [hT9]; exact hcb)
    (fun _ h => by cases h) (fun _ h => by cases h) (fun h => by cases h) (fun h => by cases h) hk0 hk1 hkk0 hkk1 (by simp [refKind, aty]) (nI_pos (by omega)) (nI_pos (by omega)) (nI_pos (by omega))
    (by rw [nI_toInt (by omega), nI_toInt (by omega), arrV_size]; omega)
    (by rw [nI_toInt (by omega), nI_toInt (by omega), arrV_size]; omega)
    (fun vm₁ _ i hi => by
      have e9 : (arrV (odA o 1) n0 (fun j => .int (hI h a j))).slots.getD ((nI sp).toNatClampNeg + i) .null = .int (hI h a (sp + i)) := by
        rw [c3] at hi
        rw [c1, Array.getD_eq_getD_getElem?, arrV_read _ _ (by omega)]
        rfl
      refine ⟨?_, ?_⟩
      · rw [e9]; rfl
      · rw [e9]; exact trivial)
    (g := F0 mm pc ls (.int (nI n) :: .int (nI dp) :: .ref (ob0 o + b) :: .int (nI sp) :: .ref (ob0 o + a) :: st.map (fv o))) rfl (by rw [hC.2.2.2.1]; exact h5.1) (rest := st.map (fv o)) rfl (by rw [hC.2.1]; exact hd) (by omega) (by
      show 2 * 0 + _ + (nativeFrameWords "java/lang/System" "arraycopy" 5 + 11) ≤ _
      rw [cat_map, show nativeFrameWords "java/lang/System" "arraycopy" 5 = 7 from by decide +kernel]; omega)
  have e1 : copied (arrV (odA o 1) n0 (fun j => .int (hI h a j))) (arrV (odA o 1) n1 (fun j => .int (hI h b j))) (nI sp) (nI dp) (nI n) = arrV (odA o 1) n1 (fun j => .int (va_cpy (hI h a) (hI h b) (nI sp).toNatClampNeg (nI dp).toNatClampNeg (nI n).toNatClampNeg j)) :=
    va_copied (fun z : Int32 => Value.int z) (odA o 1) (odA o 1) (n0 := n0) (n1 := n1) (sp := (nI sp).toNatClampNeg) (dp := (nI dp).toNatClampNeg) (n := (nI n).toNatClampNeg) (hI h a) (hI h b) (by rw [c1, c3]; exact hs1)
  rw [c1, c2, c3] at e1
  rw [e1] at X' step
  have hlt : ob0 o + b < H.size := (Array.getElem?_eq_some_iff.mp hcb).1
  have hheap : ((T.setVm vm').setCell (ob0 o + b) (arrV (odA o 1) n1 (fun j => .int (va_cpy (hI h a) (hI h b) sp dp n j)))).heap = H.setIfInBounds (ob0 o + b) (arrV (odA o 1) n1 (fun j => .int (va_cpy (hI h a) (hI h b) sp dp n j))) := by rw [← hT9]; rfl
  obtain ⟨t, a1, b1⟩ := kk p e R s mm args below meth c (H.setIfInBounds (ob0 o + b) (arrV (odA o 1) n1 (fun j => .int (va_cpy (hI h a) (hI h b) sp dp n j)))) _ cells slots Z ls hC h1 h2 (h3.setW (by
      rw [okc_arr (by rw [hb]; simp), hb]
      have : cv o (1, n1).1 (hR h b) (va_cpy (hI h a) (hI h b) sp dp n) = fun j => .int (va_cpy (hI h a) (hI h b) sp dp n j) := by funext j; simp [cv, isR]
      rw [this]
      simp [Array.getElem?_setIfInBounds, hlt]) (by simp) (fun q hq => by simp [Array.getElem?_setIfInBounds, Ne.symm hq])) (fun q hq => by
      rcases List.mem_append.mp hq with h8 | h8
      · exact h4 q h8
      · obtain ⟨z, -, hz9⟩ := List.mem_map.mp h8
        rw [← hz9]
        exact Nat.le_add_right _ _) h5 h6 _ hheap X'
  exact ⟨t, step t a1, b1⟩
end RC
end
