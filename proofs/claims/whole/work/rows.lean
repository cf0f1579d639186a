section
-- ===== PART A: goes FIRST, ahead of the names: the tables' words, and 'selects' of the private methods out of them =====
/-- a private method of a class that the tables say can be made, by its rows of tables_1 -/
def lw_okq (q : MethodName × Nat) : Prop := (q.1.cls ≠ "java/lang/invoke/MethodHandle" ∧ q.1.cls ≠ "java/lang/invoke/VarHandle") ∧ Cond.instantiable q.1.cls q.2 ∈ tables_1 ∧ Cond.privateMethod q.1 ∈ tables_1 ∧ Cond.instanceMethod q.1 ∈ tables_1
theorem lw_p0 : lw_okq (⟨"SeriesTables", "isSeries", "(I)Z"⟩, 11) := ⟨⟨by decide +kernel, by decide +kernel⟩, List.mem_of_getElem? (i := 23) (by decide +kernel), List.mem_of_getElem? (i := 450) (by decide +kernel), List.mem_of_getElem? (i := 451) (by decide +kernel)⟩
theorem lw_p1 : lw_okq (⟨"SeriesTables", "isWithinSize", "(I)Z"⟩, 11) := ⟨⟨by decide +kernel, by decide +kernel⟩, List.mem_of_getElem? (i := 23) (by decide +kernel), List.mem_of_getElem? (i := 454) (by decide +kernel), List.mem_of_getElem? (i := 455) (by decide +kernel)⟩
theorem lw_p2 : lw_okq (⟨"SeriesTables", "landSeries", "([II)I"⟩, 11) := ⟨⟨by decide +kernel, by decide +kernel⟩, List.mem_of_getElem? (i := 23) (by decide +kernel), List.mem_of_getElem? (i := 500) (by decide +kernel), List.mem_of_getElem? (i := 501) (by decide +kernel)⟩
theorem lw_p3 : lw_okq (⟨"SeriesTables", "isTable", "(I)Z"⟩, 11) := ⟨⟨by decide +kernel, by decide +kernel⟩, List.mem_of_getElem? (i := 23) (by decide +kernel), List.mem_of_getElem? (i := 544) (by decide +kernel), List.mem_of_getElem? (i := 545) (by decide +kernel)⟩
theorem lw_p4 : lw_okq (⟨"SeriesTables", "landTable", "(I)I"⟩, 11) := ⟨⟨by decide +kernel, by decide +kernel⟩, List.mem_of_getElem? (i := 23) (by decide +kernel), List.mem_of_getElem? (i := 550) (by decide +kernel), List.mem_of_getElem? (i := 551) (by decide +kernel)⟩
theorem lw_p5 : lw_okq (⟨"java/lang/Throwable", "fillInStackTrace", "(I)Ljava/lang/Throwable;"⟩, 6) := ⟨⟨by decide +kernel, by decide +kernel⟩, List.mem_of_getElem? (i := 782) (by decide +kernel), List.mem_of_getElem? (i := 780) (by decide +kernel), List.mem_of_getElem? (i := 781) (by decide +kernel)⟩
theorem lw_p6 : lw_okq (⟨"SeriesTables", "isWithinProduction", "(I)Z"⟩, 11) := ⟨⟨by decide +kernel, by decide +kernel⟩, List.mem_of_getElem? (i := 23) (by decide +kernel), List.mem_of_getElem? (i := 814) (by decide +kernel), List.mem_of_getElem? (i := 815) (by decide +kernel)⟩
theorem lw_p7 : lw_okq (⟨"SeriesTablesModel", "lays", "(I)V"⟩, 31) := ⟨⟨by decide +kernel, by decide +kernel⟩, List.mem_of_getElem? (i := 833) (by decide +kernel), List.mem_of_getElem? (i := 831) (by decide +kernel), List.mem_of_getElem? (i := 832) (by decide +kernel)⟩
theorem lw_p8 : lw_okq (⟨"SeriesTablesModel", "next", "()V"⟩, 31) := ⟨⟨by decide +kernel, by decide +kernel⟩, List.mem_of_getElem? (i := 833) (by decide +kernel), List.mem_of_getElem? (i := 943) (by decide +kernel), List.mem_of_getElem? (i := 944) (by decide +kernel)⟩
theorem lw_p9 : lw_okq (⟨"SeriesTablesModel", "tapeAt", "(I)I"⟩, 31) := ⟨⟨by decide +kernel, by decide +kernel⟩, List.mem_of_getElem? (i := 833) (by decide +kernel), List.mem_of_getElem? (i := 953) (by decide +kernel), List.mem_of_getElem? (i := 954) (by decide +kernel)⟩
theorem lw_p10 : lw_okq (⟨"SeriesTablesModel", "readLine", "()Z"⟩, 31) := ⟨⟨by decide +kernel, by decide +kernel⟩, List.mem_of_getElem? (i := 833) (by decide +kernel), List.mem_of_getElem? (i := 957) (by decide +kernel), List.mem_of_getElem? (i := 958) (by decide +kernel)⟩
theorem lw_p11 : lw_okq (⟨"SeriesTablesModel", "isWord", "(IIIIII)Z"⟩, 31) := ⟨⟨by decide +kernel, by decide +kernel⟩, List.mem_of_getElem? (i := 833) (by decide +kernel), List.mem_of_getElem? (i := 961) (by decide +kernel), List.mem_of_getElem? (i := 962) (by decide +kernel)⟩
theorem lw_p12 : lw_okq (⟨"SeriesTablesModel", "readSize", "()Z"⟩, 31) := ⟨⟨by decide +kernel, by decide +kernel⟩, List.mem_of_getElem? (i := 833) (by decide +kernel), List.mem_of_getElem? (i := 965) (by decide +kernel), List.mem_of_getElem? (i := 966) (by decide +kernel)⟩
theorem lw_p13 : lw_okq (⟨"SeriesTablesModel", "bad", "(I)Z"⟩, 31) := ⟨⟨by decide +kernel, by decide +kernel⟩, List.mem_of_getElem? (i := 833) (by decide +kernel), List.mem_of_getElem? (i := 969) (by decide +kernel), List.mem_of_getElem? (i := 970) (by decide +kernel)⟩
theorem lw_p14 : lw_okq (⟨"SeriesTablesModel", "readSeries", "()Z"⟩, 31) := ⟨⟨by decide +kernel, by decide +kernel⟩, List.mem_of_getElem? (i := 833) (by decide +kernel), List.mem_of_getElem? (i := 976) (by decide +kernel), List.mem_of_getElem? (i := 977) (by decide +kernel)⟩
theorem lw_p15 : lw_okq (⟨"SeriesTablesModel", "readSum", "([IZ)Z"⟩, 31) := ⟨⟨by decide +kernel, by decide +kernel⟩, List.mem_of_getElem? (i := 833) (by decide +kernel), List.mem_of_getElem? (i := 980) (by decide +kernel), List.mem_of_getElem? (i := 981) (by decide +kernel)⟩
def lw_privs_1 : List (MethodName × Nat) := [(⟨"SeriesTables", "isSeries", "(I)Z"⟩, 11), (⟨"SeriesTables", "isWithinSize", "(I)Z"⟩, 11), (⟨"SeriesTables", "landSeries", "([II)I"⟩, 11), (⟨"SeriesTables", "isTable", "(I)Z"⟩, 11), (⟨"SeriesTables", "landTable", "(I)I"⟩, 11), (⟨"java/lang/Throwable", "fillInStackTrace", "(I)Ljava/lang/Throwable;"⟩, 6), (⟨"SeriesTables", "isWithinProduction", "(I)Z"⟩, 11), (⟨"SeriesTablesModel", "lays", "(I)V"⟩, 31), (⟨"SeriesTablesModel", "next", "()V"⟩, 31), (⟨"SeriesTablesModel", "tapeAt", "(I)I"⟩, 31), (⟨"SeriesTablesModel", "readLine", "()Z"⟩, 31), (⟨"SeriesTablesModel", "isWord", "(IIIIII)Z"⟩, 31), (⟨"SeriesTablesModel", "readSize", "()Z"⟩, 31), (⟨"SeriesTablesModel", "bad", "(I)Z"⟩, 31), (⟨"SeriesTablesModel", "readSeries", "()Z"⟩, 31), (⟨"SeriesTablesModel", "readSum", "([IZ)Z"⟩, 31)]
theorem lw_r1 : ∀ q ∈ lw_privs_1, lw_okq q := List.forall_mem_cons.mpr ⟨lw_p0, List.forall_mem_cons.mpr ⟨lw_p1, List.forall_mem_cons.mpr ⟨lw_p2, List.forall_mem_cons.mpr ⟨lw_p3, List.forall_mem_cons.mpr ⟨lw_p4, List.forall_mem_cons.mpr ⟨lw_p5, List.forall_mem_cons.mpr ⟨lw_p6, List.forall_mem_cons.mpr ⟨lw_p7, List.forall_mem_cons.mpr ⟨lw_p8, List.forall_mem_cons.mpr ⟨lw_p9, List.forall_mem_cons.mpr ⟨lw_p10, List.forall_mem_cons.mpr ⟨lw_p11, List.forall_mem_cons.mpr ⟨lw_p12, List.forall_mem_cons.mpr ⟨lw_p13, List.forall_mem_cons.mpr ⟨lw_p14, List.forall_mem_cons.mpr ⟨lw_p15, fun _ h => absurd h List.not_mem_nil⟩⟩⟩⟩⟩⟩⟩⟩⟩⟩⟩⟩⟩⟩⟩⟩
theorem lw_p16 : lw_okq (⟨"SeriesTablesModel", "readTable", "()Z"⟩, 31) := ⟨⟨by decide +kernel, by decide +kernel⟩, List.mem_of_getElem? (i := 833) (by decide +kernel), List.mem_of_getElem? (i := 995) (by decide +kernel), List.mem_of_getElem? (i := 996) (by decide +kernel)⟩
theorem lw_p17 : lw_okq (⟨"SeriesTablesModel", "readEnd", "()Z"⟩, 31) := ⟨⟨by decide +kernel, by decide +kernel⟩, List.mem_of_getElem? (i := 833) (by decide +kernel), List.mem_of_getElem? (i := 1002) (by decide +kernel), List.mem_of_getElem? (i := 1003) (by decide +kernel)⟩
theorem lw_p18 : lw_okq (⟨"SeriesTablesModel", "wide", "()I"⟩, 31) := ⟨⟨by decide +kernel, by decide +kernel⟩, List.mem_of_getElem? (i := 833) (by decide +kernel), List.mem_of_getElem? (i := 1017) (by decide +kernel), List.mem_of_getElem? (i := 1018) (by decide +kernel)⟩
theorem lw_p19 : lw_okq (⟨"SeriesTablesModel", "isSeries", "(I)Z"⟩, 31) := ⟨⟨by decide +kernel, by decide +kernel⟩, List.mem_of_getElem? (i := 833) (by decide +kernel), List.mem_of_getElem? (i := 1025) (by decide +kernel), List.mem_of_getElem? (i := 1026) (by decide +kernel)⟩
theorem lw_p20 : lw_okq (⟨"SeriesTablesModel", "isPlace", "(I)Z"⟩, 31) := ⟨⟨by decide +kernel, by decide +kernel⟩, List.mem_of_getElem? (i := 833) (by decide +kernel), List.mem_of_getElem? (i := 1029) (by decide +kernel), List.mem_of_getElem? (i := 1030) (by decide +kernel)⟩
theorem lw_p21 : lw_okq (⟨"SeriesTablesModel", "snap", "()V"⟩, 31) := ⟨⟨by decide +kernel, by decide +kernel⟩, List.mem_of_getElem? (i := 833) (by decide +kernel), List.mem_of_getElem? (i := 1037) (by decide +kernel), List.mem_of_getElem? (i := 1038) (by decide +kernel)⟩
theorem lw_p22 : lw_okq (⟨"SeriesTablesModel", "takes", "(I[I)V"⟩, 31) := ⟨⟨by decide +kernel, by decide +kernel⟩, List.mem_of_getElem? (i := 833) (by decide +kernel), List.mem_of_getElem? (i := 1045) (by decide +kernel), List.mem_of_getElem? (i := 1046) (by decide +kernel)⟩
theorem lw_p23 : lw_okq (⟨"SeriesTablesModel", "laysUnit", "()V"⟩, 31) := ⟨⟨by decide +kernel, by decide +kernel⟩, List.mem_of_getElem? (i := 833) (by decide +kernel), List.mem_of_getElem? (i := 1052) (by decide +kernel), List.mem_of_getElem? (i := 1053) (by decide +kernel)⟩
theorem lw_p24 : lw_okq (⟨"SeriesTablesModel", "columns", "([I[I[I)V"⟩, 31) := ⟨⟨by decide +kernel, by decide +kernel⟩, List.mem_of_getElem? (i := 833) (by decide +kernel), List.mem_of_getElem? (i := 1056) (by decide +kernel), List.mem_of_getElem? (i := 1057) (by decide +kernel)⟩
theorem lw_p25 : lw_okq (⟨"SeriesTablesModel", "makes", "([I[I[I)V"⟩, 31) := ⟨⟨by decide +kernel, by decide +kernel⟩, List.mem_of_getElem? (i := 833) (by decide +kernel), List.mem_of_getElem? (i := 1060) (by decide +kernel), List.mem_of_getElem? (i := 1061) (by decide +kernel)⟩
theorem lw_p26 : lw_okq (⟨"SeriesTablesModel", "comes", "([III)I"⟩, 31) := ⟨⟨by decide +kernel, by decide +kernel⟩, List.mem_of_getElem? (i := 833) (by decide +kernel), List.mem_of_getElem? (i := 1064) (by decide +kernel), List.mem_of_getElem? (i := 1065) (by decide +kernel)⟩
theorem lw_p27 : lw_okq (⟨"SeriesTablesModel", "reverses", "([I[I)V"⟩, 31) := ⟨⟨by decide +kernel, by decide +kernel⟩, List.mem_of_getElem? (i := 833) (by decide +kernel), List.mem_of_getElem? (i := 1072) (by decide +kernel), List.mem_of_getElem? (i := 1073) (by decide +kernel)⟩
theorem lw_p28 : lw_okq (⟨"SeriesTablesModel", "isTable", "(I)Z"⟩, 31) := ⟨⟨by decide +kernel, by decide +kernel⟩, List.mem_of_getElem? (i := 833) (by decide +kernel), List.mem_of_getElem? (i := 1090) (by decide +kernel), List.mem_of_getElem? (i := 1091) (by decide +kernel)⟩
theorem lw_p29 : lw_okq (⟨"SeriesTablesModel", "comesAs", "([II)I"⟩, 31) := ⟨⟨by decide +kernel, by decide +kernel⟩, List.mem_of_getElem? (i := 833) (by decide +kernel), List.mem_of_getElem? (i := 1094) (by decide +kernel), List.mem_of_getElem? (i := 1095) (by decide +kernel)⟩
theorem lw_p30 : lw_okq (⟨"SeriesTablesModel", "refuse", "()I"⟩, 31) := ⟨⟨by decide +kernel, by decide +kernel⟩, List.mem_of_getElem? (i := 833) (by decide +kernel), List.mem_of_getElem? (i := 1102) (by decide +kernel), List.mem_of_getElem? (i := 1103) (by decide +kernel)⟩
theorem lw_p31 : lw_okq (⟨"SeriesTablesModel", "matrix", "(I[I)V"⟩, 31) := ⟨⟨by decide +kernel, by decide +kernel⟩, List.mem_of_getElem? (i := 833) (by decide +kernel), List.mem_of_getElem? (i := 1106) (by decide +kernel), List.mem_of_getElem? (i := 1107) (by decide +kernel)⟩
def lw_privs_2 : List (MethodName × Nat) := [(⟨"SeriesTablesModel", "readTable", "()Z"⟩, 31), (⟨"SeriesTablesModel", "readEnd", "()Z"⟩, 31), (⟨"SeriesTablesModel", "wide", "()I"⟩, 31), (⟨"SeriesTablesModel", "isSeries", "(I)Z"⟩, 31), (⟨"SeriesTablesModel", "isPlace", "(I)Z"⟩, 31), (⟨"SeriesTablesModel", "snap", "()V"⟩, 31), (⟨"SeriesTablesModel", "takes", "(I[I)V"⟩, 31), (⟨"SeriesTablesModel", "laysUnit", "()V"⟩, 31), (⟨"SeriesTablesModel", "columns", "([I[I[I)V"⟩, 31), (⟨"SeriesTablesModel", "makes", "([I[I[I)V"⟩, 31), (⟨"SeriesTablesModel", "comes", "([III)I"⟩, 31), (⟨"SeriesTablesModel", "reverses", "([I[I)V"⟩, 31), (⟨"SeriesTablesModel", "isTable", "(I)Z"⟩, 31), (⟨"SeriesTablesModel", "comesAs", "([II)I"⟩, 31), (⟨"SeriesTablesModel", "refuse", "()I"⟩, 31), (⟨"SeriesTablesModel", "matrix", "(I[I)V"⟩, 31)]
theorem lw_r2 : ∀ q ∈ lw_privs_2, lw_okq q := List.forall_mem_cons.mpr ⟨lw_p16, List.forall_mem_cons.mpr ⟨lw_p17, List.forall_mem_cons.mpr ⟨lw_p18, List.forall_mem_cons.mpr ⟨lw_p19, List.forall_mem_cons.mpr ⟨lw_p20, List.forall_mem_cons.mpr ⟨lw_p21, List.forall_mem_cons.mpr ⟨lw_p22, List.forall_mem_cons.mpr ⟨lw_p23, List.forall_mem_cons.mpr ⟨lw_p24, List.forall_mem_cons.mpr ⟨lw_p25, List.forall_mem_cons.mpr ⟨lw_p26, List.forall_mem_cons.mpr ⟨lw_p27, List.forall_mem_cons.mpr ⟨lw_p28, List.forall_mem_cons.mpr ⟨lw_p29, List.forall_mem_cons.mpr ⟨lw_p30, List.forall_mem_cons.mpr ⟨lw_p31, fun _ h => absurd h List.not_mem_nil⟩⟩⟩⟩⟩⟩⟩⟩⟩⟩⟩⟩⟩⟩⟩⟩
theorem lw_p32 : lw_okq (⟨"SeriesTablesModel", "laysProduction", "(I)V"⟩, 31) := ⟨⟨by decide +kernel, by decide +kernel⟩, List.mem_of_getElem? (i := 833) (by decide +kernel), List.mem_of_getElem? (i := 1125) (by decide +kernel), List.mem_of_getElem? (i := 1126) (by decide +kernel)⟩
theorem lw_p33 : lw_okq (⟨"SeriesTablesModel", "kindsOf", "(I)I"⟩, 31) := ⟨⟨by decide +kernel, by decide +kernel⟩, List.mem_of_getElem? (i := 833) (by decide +kernel), List.mem_of_getElem? (i := 1145) (by decide +kernel), List.mem_of_getElem? (i := 1146) (by decide +kernel)⟩
theorem lw_p34 : lw_okq (⟨"SeriesTablesModel", "unlikeAt", "([I[I)I"⟩, 31) := ⟨⟨by decide +kernel, by decide +kernel⟩, List.mem_of_getElem? (i := 833) (by decide +kernel), List.mem_of_getElem? (i := 1149) (by decide +kernel), List.mem_of_getElem? (i := 1150) (by decide +kernel)⟩
theorem lw_p35 : lw_okq (⟨"SeriesTablesModel", "unlikeNow", "()I"⟩, 31) := ⟨⟨by decide +kernel, by decide +kernel⟩, List.mem_of_getElem? (i := 833) (by decide +kernel), List.mem_of_getElem? (i := 1177) (by decide +kernel), List.mem_of_getElem? (i := 1178) (by decide +kernel)⟩
theorem lw_p36 : lw_okq (⟨"SeriesTablesModel", "draw", "(I)I"⟩, 31) := ⟨⟨by decide +kernel, by decide +kernel⟩, List.mem_of_getElem? (i := 833) (by decide +kernel), List.mem_of_getElem? (i := 1189) (by decide +kernel), List.mem_of_getElem? (i := 1190) (by decide +kernel)⟩
def lw_privs_3 : List (MethodName × Nat) := [(⟨"SeriesTablesModel", "laysProduction", "(I)V"⟩, 31), (⟨"SeriesTablesModel", "kindsOf", "(I)I"⟩, 31), (⟨"SeriesTablesModel", "unlikeAt", "([I[I)I"⟩, 31), (⟨"SeriesTablesModel", "unlikeNow", "()I"⟩, 31), (⟨"SeriesTablesModel", "draw", "(I)I"⟩, 31)]
theorem lw_r3 : ∀ q ∈ lw_privs_3, lw_okq q := List.forall_mem_cons.mpr ⟨lw_p32, List.forall_mem_cons.mpr ⟨lw_p33, List.forall_mem_cons.mpr ⟨lw_p34, List.forall_mem_cons.mpr ⟨lw_p35, List.forall_mem_cons.mpr ⟨lw_p36, fun _ h => absurd h List.not_mem_nil⟩⟩⟩⟩⟩
def lw_privs : List (MethodName × Nat) := lw_privs_1 ++ (lw_privs_2 ++ (lw_privs_3))
def lw_tbl : List Cond := k2_sels lw_privs ++ tables_1
theorem lw_privs_ok : ∀ q ∈ lw_privs, lw_okq q := by
  show ∀ q ∈ lw_privs_1 ++ (lw_privs_2 ++ (lw_privs_3)), lw_okq q
  exact List.forall_mem_append.mpr ⟨lw_r1, List.forall_mem_append.mpr ⟨lw_r2, lw_r3⟩⟩
end
section
def RX0 : String := "SeriesTables$History"
def TX0 : u_T := fun k => match k with
  | 0 => ("SeriesTables$History", "ring", "[LSeriesTables$State;", true)
  | 1 => ("SeriesTables$History", "kept", "I", false)
  | _ => ("SeriesTables$History", "next", "I", false)
def tyX0 : Nat → FieldType := fun k => match k with
  | 0 => .array (.object "SeriesTables$State")
  | 1 => .int
  | _ => .int
theorem nmX0 : ∀ a, a < 3 → ∀ b, b < 3 → a ≠ b → (TX0 a).2.1 ≠ (TX0 b).2.1 := by decide +kernel
theorem tyX0_ok : ∀ k, k < 3 → parseFieldDescriptor (TX0 k).2.2.1 = some (tyX0 k) := by decide +kernel
def RX1 : String := "SeriesTables$Reader"
def TX1 : u_T := fun k => match k with
  | 0 => ("SeriesTables$Reader", "draft", "LSeriesTables$State;", true)
  | 1 => ("SeriesTables$Reader", "tape", "LSeriesTables$Tape;", true)
  | 2 => ("SeriesTables$Reader", "divisor", "[I", true)
  | 3 => ("SeriesTables$Reader", "place", "I", false)
  | 4 => ("SeriesTables$Reader", "token", "I", false)
  | 5 => ("SeriesTables$Reader", "tokenPlace", "I", false)
  | 6 => ("SeriesTables$Reader", "number", "I", false)
  | 7 => ("SeriesTables$Reader", "lines", "I", false)
  | 8 => ("SeriesTables$Reader", "seriesTold", "I", false)
  | 9 => ("SeriesTables$Reader", "tablesTold", "I", false)
  | 10 => ("SeriesTables$Reader", "faultKind", "I", false)
  | _ => ("SeriesTables$Reader", "faultPlace", "I", false)
def tyX1 : Nat → FieldType := fun k => match k with
  | 0 => .object "SeriesTables$State"
  | 1 => .object "SeriesTables$Tape"
  | 2 => .array .int
  | 3 => .int
  | 4 => .int
  | 5 => .int
  | 6 => .int
  | 7 => .int
  | 8 => .int
  | 9 => .int
  | 10 => .int
  | _ => .int
theorem nmX1 : ∀ a, a < 12 → ∀ b, b < 12 → a ≠ b → (TX1 a).2.1 ≠ (TX1 b).2.1 := by decide +kernel
theorem tyX1_ok : ∀ k, k < 12 → parseFieldDescriptor (TX1 k).2.2.1 = some (tyX1 k) := by decide +kernel
def RX2 : String := "SeriesTables$Rows"
def RX3 : String := "SeriesTables$SeriesBench"
def TX3 : u_T := fun k => match k with
  | 0 => ("SeriesTables$SeriesBench", "result", "[I", true)
  | 1 => ("SeriesTables$SeriesBench", "spare", "[I", true)
  | _ => ("SeriesTables$SeriesBench", "quotient", "[I", true)
def tyX3 : Nat → FieldType := fun k => match k with
  | 0 => .array .int
  | 1 => .array .int
  | _ => .array .int
theorem nmX3 : ∀ a, a < 3 → ∀ b, b < 3 → a ≠ b → (TX3 a).2.1 ≠ (TX3 b).2.1 := by decide +kernel
theorem tyX3_ok : ∀ k, k < 3 → parseFieldDescriptor (TX3 k).2.2.1 = some (tyX3 k) := by decide +kernel
def RX4 : String := "SeriesTables$State"
def TX4 : u_T := fun k => match k with
  | 0 => ("SeriesTables$State", "series", "[[I", true)
  | 1 => ("SeriesTables$State", "tables", "[LSeriesTables$Table;", true)
  | 2 => ("SeriesTables$State", "free", "[[I", true)
  | _ => ("SeriesTables$State", "size", "I", false)
def tyX4 : Nat → FieldType := fun k => match k with
  | 0 => .array (.array .int)
  | 1 => .array (.object "SeriesTables$Table")
  | 2 => .array (.array .int)
  | _ => .int
theorem nmX4 : ∀ a, a < 4 → ∀ b, b < 4 → a ≠ b → (TX4 a).2.1 ≠ (TX4 b).2.1 := by decide +kernel
theorem tyX4_ok : ∀ k, k < 4 → parseFieldDescriptor (TX4 k).2.2.1 = some (tyX4 k) := by decide +kernel
def RX5 : String := "SeriesTables$Table"
def TX5 : u_T := fun k => match k with
  | 0 => ("SeriesTables$Table", "g", "[I", true)
  | _ => ("SeriesTables$Table", "f", "[I", true)
def tyX5 : Nat → FieldType := fun k => match k with
  | 0 => .array .int
  | _ => .array .int
theorem nmX5 : ∀ a, a < 2 → ∀ b, b < 2 → a ≠ b → (TX5 a).2.1 ≠ (TX5 b).2.1 := by decide +kernel
theorem tyX5_ok : ∀ k, k < 2 → parseFieldDescriptor (TX5 k).2.2.1 = some (tyX5 k) := by decide +kernel
def RX6 : String := "SeriesTables$TableBench"
def TX6 : u_T := fun k => match k with
  | 0 => ("SeriesTables$TableBench", "result", "LSeriesTables$Table;", true)
  | 1 => ("SeriesTables$TableBench", "second", "LSeriesTables$Table;", true)
  | 2 => ("SeriesTables$TableBench", "third", "LSeriesTables$Table;", true)
  | 3 => ("SeriesTables$TableBench", "row", "[I", true)
  | 4 => ("SeriesTables$TableBench", "reversed", "[I", true)
  | 5 => ("SeriesTables$TableBench", "spare", "[I", true)
  | 6 => ("SeriesTables$TableBench", "columns", "[[I", true)
  | 7 => ("SeriesTables$TableBench", "otherColumns", "[[I", true)
  | _ => ("SeriesTables$TableBench", "seriesBench", "LSeriesTables$SeriesBench;", true)
def tyX6 : Nat → FieldType := fun k => match k with
  | 0 => .object "SeriesTables$Table"
  | 1 => .object "SeriesTables$Table"
  | 2 => .object "SeriesTables$Table"
  | 3 => .array .int
  | 4 => .array .int
  | 5 => .array .int
  | 6 => .array (.array .int)
  | 7 => .array (.array .int)
  | _ => .object "SeriesTables$SeriesBench"
theorem nmX6 : ∀ a, a < 9 → ∀ b, b < 9 → a ≠ b → (TX6 a).2.1 ≠ (TX6 b).2.1 := by decide +kernel
theorem tyX6_ok : ∀ k, k < 9 → parseFieldDescriptor (TX6 k).2.2.1 = some (tyX6 k) := by decide +kernel
def RX7 : String := "SeriesTables$Tape"
def TX7 : u_T := fun k => match k with
  | 0 => ("SeriesTables$Tape", "bytes", "[B", true)
  | _ => ("SeriesTables$Tape", "length", "I", false)
def tyX7 : Nat → FieldType := fun k => match k with
  | 0 => .array .byte
  | _ => .int
theorem nmX7 : ∀ a, a < 2 → ∀ b, b < 2 → a ≠ b → (TX7 a).2.1 ≠ (TX7 b).2.1 := by decide +kernel
theorem tyX7_ok : ∀ k, k < 2 → parseFieldDescriptor (TX7 k).2.2.1 = some (tyX7 k) := by decide +kernel
def RX8 : String := "SeriesTables"
def TX8 : u_T := fun k => match k with
  | 0 => ("SeriesTables", "tape", "LSeriesTables$Tape;", true)
  | 1 => ("SeriesTables", "reader", "LSeriesTables$Reader;", true)
  | 2 => ("SeriesTables", "state", "LSeriesTables$State;", true)
  | 3 => ("SeriesTables", "history", "LSeriesTables$History;", true)
  | 4 => ("SeriesTables", "images", "[LSeriesTables$State;", true)
  | 5 => ("SeriesTables", "imageKept", "[Z", true)
  | 6 => ("SeriesTables", "seriesBench", "LSeriesTables$SeriesBench;", true)
  | 7 => ("SeriesTables", "tableBench", "LSeriesTables$TableBench;", true)
  | 8 => ("SeriesTables", "faultKind", "I", false)
  | 9 => ("SeriesTables", "seriesTold", "I", false)
  | _ => ("SeriesTables", "tablesTold", "I", false)
def tyX8 : Nat → FieldType := fun k => match k with
  | 0 => .object "SeriesTables$Tape"
  | 1 => .object "SeriesTables$Reader"
  | 2 => .object "SeriesTables$State"
  | 3 => .object "SeriesTables$History"
  | 4 => .array (.object "SeriesTables$State")
  | 5 => .array .boolean
  | 6 => .object "SeriesTables$SeriesBench"
  | 7 => .object "SeriesTables$TableBench"
  | 8 => .int
  | 9 => .int
  | _ => .int
theorem nmX8 : ∀ a, a < 11 → ∀ b, b < 11 → a ≠ b → (TX8 a).2.1 ≠ (TX8 b).2.1 := by decide +kernel
theorem tyX8_ok : ∀ k, k < 11 → parseFieldDescriptor (TX8 k).2.2.1 = some (tyX8 k) := by decide +kernel
def RX9 : String := "SeriesTablesModel"
def TX9 : u_T := fun k => match k with
  | 0 => ("SeriesTablesModel", "thrown", "I", false)
  | 1 => ("SeriesTablesModel", "tape", "[I", true)
  | 2 => ("SeriesTablesModel", "taped", "I", false)
  | 3 => ("SeriesTablesModel", "size", "I", false)
  | 4 => ("SeriesTablesModel", "to", "I", false)
  | 5 => ("SeriesTablesModel", "from", "I", false)
  | 6 => ("SeriesTablesModel", "kind", "I", false)
  | 7 => ("SeriesTablesModel", "number", "I", false)
  | 8 => ("SeriesTablesModel", "fault", "I", false)
  | 9 => ("SeriesTablesModel", "place", "I", false)
  | 10 => ("SeriesTablesModel", "now", "[I", true)
  | 11 => ("SeriesTablesModel", "read", "[I", true)
  | 12 => ("SeriesTablesModel", "kept", "[I", true)
  | 13 => ("SeriesTablesModel", "snaps", "[I", true)
  | 14 => ("SeriesTablesModel", "isKept", "[Z", true)
  | 15 => ("SeriesTablesModel", "snapMany", "I", false)
  | 16 => ("SeriesTablesModel", "seriesTold", "I", false)
  | 17 => ("SeriesTablesModel", "tablesTold", "I", false)
  | 18 => ("SeriesTablesModel", "seriesRead", "I", false)
  | 19 => ("SeriesTablesModel", "tablesRead", "I", false)
  | 20 => ("SeriesTablesModel", "up", "[I", true)
  | 21 => ("SeriesTablesModel", "low", "[I", true)
  | 22 => ("SeriesTablesModel", "made", "[I", true)
  | 23 => ("SeriesTablesModel", "helper", "[I", true)
  | 24 => ("SeriesTablesModel", "other", "[I", true)
  | 25 => ("SeriesTablesModel", "one", "[I", true)
  | 26 => ("SeriesTablesModel", "two", "[I", true)
  | 27 => ("SeriesTablesModel", "three", "[I", true)
  | 28 => ("SeriesTablesModel", "spare", "[I", true)
  | 29 => ("SeriesTablesModel", "unit", "[I", true)
  | _ => ("SeriesTablesModel", "seed", "I", false)
def tyX9 : Nat → FieldType := fun k => match k with
  | 0 => .int
  | 1 => .array .int
  | 2 => .int
  | 3 => .int
  | 4 => .int
  | 5 => .int
  | 6 => .int
  | 7 => .int
  | 8 => .int
  | 9 => .int
  | 10 => .array .int
  | 11 => .array .int
  | 12 => .array .int
  | 13 => .array .int
  | 14 => .array .boolean
  | 15 => .int
  | 16 => .int
  | 17 => .int
  | 18 => .int
  | 19 => .int
  | 20 => .array .int
  | 21 => .array .int
  | 22 => .array .int
  | 23 => .array .int
  | 24 => .array .int
  | 25 => .array .int
  | 26 => .array .int
  | 27 => .array .int
  | 28 => .array .int
  | 29 => .array .int
  | _ => .int
theorem nmX9 : ∀ a, a < 31 → ∀ b, b < 31 → a ≠ b → (TX9 a).2.1 ≠ (TX9 b).2.1 := by decide +kernel
theorem tyX9_ok : ∀ k, k < 31 → parseFieldDescriptor (TX9 k).2.2.1 = some (tyX9 k) := by decide +kernel
abbrev vwCl : List vw_C := [(RX0, TX0, 3), (RX1, TX1, 12), (RX3, TX3, 3), (RX4, TX4, 4), (RX5, TX5, 2), (RX6, TX6, 9), (RX7, TX7, 2), (RX8, TX8, 11), (RX9, TX9, 31)]
def fC (ci : Nat) : String := match ci with
  | 0 => RX0
  | 1 => RX1
  | 2 => RX3
  | 3 => RX4
  | 4 => RX5
  | 5 => RX6
  | 6 => RX7
  | 7 => RX8
  | _ => RX9
def fT (ci : Nat) : u_T := match ci with
  | 0 => TX0
  | 1 => TX1
  | 2 => TX3
  | 3 => TX4
  | 4 => TX5
  | 5 => TX6
  | 6 => TX7
  | 7 => TX8
  | _ => TX9
def fY (ci : Nat) : Nat → FieldType := match ci with
  | 0 => tyX0
  | 1 => tyX1
  | 2 => tyX3
  | 3 => tyX4
  | 4 => tyX5
  | 5 => tyX6
  | 6 => tyX7
  | 7 => tyX8
  | _ => tyX9
def nfl (ci : Nat) : Nat := match ci with
  | 0 => 3
  | 1 => 12
  | 2 => 3
  | 3 => 4
  | 4 => 2
  | 5 => 9
  | 6 => 2
  | 7 => 11
  | _ => 31
theorem fc_at : ∀ ci, ci < 9 → vwCl[ci]? = some (fC ci, fT ci, nfl ci) := by
  intro ci h
  match ci, h with
  | 0, _ => rfl
  | 1, _ => rfl
  | 2, _ => rfl
  | 3, _ => rfl
  | 4, _ => rfl
  | 5, _ => rfl
  | 6, _ => rfl
  | 7, _ => rfl
  | 8, _ => rfl
theorem fc_ty : ∀ ci, ci < 9 → ∀ k, k < nfl ci → parseFieldDescriptor (fT ci k).2.2.1 = some (fY ci k) := by decide +kernel
theorem fc_nm : ∀ ci, ci < 9 → ∀ a, a < nfl ci → ∀ b, b < nfl ci → a ≠ b → (fT ci a).2.1 ≠ (fT ci b).2.1 := by decide +kernel
def gt_ws : List Cond := lw_tbl.filter goodWord
theorem gt_in {w : Cond} (h : w ∈ lw_tbl) (hg : goodWord w = true) : w ∈ gt_ws := List.mem_filter.mpr ⟨h, hg⟩
theorem gt_good {w : Cond} (h : w ∈ gt_ws) : (w.onTables && w.keeps) = true ∨ ∃ ty, w = .arrayClass ty := good_of_word (List.mem_filter.mp h).2
theorem fc_ws0 : ∀ w ∈ u_ws RX0 TX0 3, w ∈ gt_ws := fun w h => gt_in ((show ∀ w ∈ u_ws RX0 TX0 3, w ∈ lw_tbl by decide +kernel) w h) ((show ∀ w ∈ u_ws RX0 TX0 3, goodWord w = true by decide +kernel) w h)
theorem fc_ws1 : ∀ w ∈ u_ws RX1 TX1 12, w ∈ gt_ws := fun w h => gt_in ((show ∀ w ∈ u_ws RX1 TX1 12, w ∈ lw_tbl by decide +kernel) w h) ((show ∀ w ∈ u_ws RX1 TX1 12, goodWord w = true by decide +kernel) w h)
theorem fc_ws2 : ∀ w ∈ u_ws RX3 TX3 3, w ∈ gt_ws := fun w h => gt_in ((show ∀ w ∈ u_ws RX3 TX3 3, w ∈ lw_tbl by decide +kernel) w h) ((show ∀ w ∈ u_ws RX3 TX3 3, goodWord w = true by decide +kernel) w h)
theorem fc_ws3 : ∀ w ∈ u_ws RX4 TX4 4, w ∈ gt_ws := fun w h => gt_in ((show ∀ w ∈ u_ws RX4 TX4 4, w ∈ lw_tbl by decide +kernel) w h) ((show ∀ w ∈ u_ws RX4 TX4 4, goodWord w = true by decide +kernel) w h)
theorem fc_ws4 : ∀ w ∈ u_ws RX5 TX5 2, w ∈ gt_ws := fun w h => gt_in ((show ∀ w ∈ u_ws RX5 TX5 2, w ∈ lw_tbl by decide +kernel) w h) ((show ∀ w ∈ u_ws RX5 TX5 2, goodWord w = true by decide +kernel) w h)
theorem fc_ws5 : ∀ w ∈ u_ws RX6 TX6 9, w ∈ gt_ws := fun w h => gt_in ((show ∀ w ∈ u_ws RX6 TX6 9, w ∈ lw_tbl by decide +kernel) w h) ((show ∀ w ∈ u_ws RX6 TX6 9, goodWord w = true by decide +kernel) w h)
theorem fc_ws6 : ∀ w ∈ u_ws RX7 TX7 2, w ∈ gt_ws := fun w h => gt_in ((show ∀ w ∈ u_ws RX7 TX7 2, w ∈ lw_tbl by decide +kernel) w h) ((show ∀ w ∈ u_ws RX7 TX7 2, goodWord w = true by decide +kernel) w h)
theorem fc_ws7 : ∀ w ∈ u_ws RX8 TX8 11, w ∈ gt_ws := fun w h => gt_in ((show ∀ w ∈ u_ws RX8 TX8 11, w ∈ lw_tbl by decide +kernel) w h) ((show ∀ w ∈ u_ws RX8 TX8 11, goodWord w = true by decide +kernel) w h)
theorem fc_ws8 : ∀ w ∈ u_ws RX9 TX9 31, w ∈ gt_ws := fun w h => gt_in ((show ∀ w ∈ u_ws RX9 TX9 31, w ∈ lw_tbl by decide +kernel) w h) ((show ∀ w ∈ u_ws RX9 TX9 31, goodWord w = true by decide +kernel) w h)
theorem fc_ws : ∀ ci, ci < 9 → ∀ w ∈ u_ws (fC ci) (fT ci) (nfl ci), w ∈ gt_ws := by
  intro ci h
  match ci, h with
  | 0, _ => exact fc_ws0
  | 1, _ => exact fc_ws1
  | 2, _ => exact fc_ws2
  | 3, _ => exact fc_ws3
  | 4, _ => exact fc_ws4
  | 5, _ => exact fc_ws5
  | 6, _ => exact fc_ws6
  | 7, _ => exact fc_ws7
  | 8, _ => exact fc_ws8
end
section
/-! A method: its class's name, its name, its bytes, maxLocals, what it returns, how deep it calls -/
abbrev MD : Type := String × MethodName × ByteArray × Nat × Option FieldType × Nat
def mcls (m : MD) : String := m.1
def mnam (m : MD) : MethodName := m.2.1
def mbt (m : MD) : ByteArray := m.2.2.1
def mml (m : MD) : Nat := m.2.2.2.1
def mrt (m : MD) : Option FieldType := m.2.2.2.2.1
def mdp (m : MD) : Nat := m.2.2.2.2.2
def mws (m : MD) : List Cond := .code (mnam m) (mbt m) (mml m) (mrt m) :: gt_ws
/-! The fixed things of one run: the law's first state, class numbers, slots, array classes, other addresses -/
abbrev OM : Type := State × (Nat → ClassId) × (Nat → Nat → Nat) × (Nat → ClassId) × (Nat → Nat)
def os0 (o : OM) : State := o.1
def ob0 (o : OM) : Nat := o.1.heap.size
def oH0 (o : OM) : Heap := o.1.heap
def odC (o : OM) : Nat → ClassId := o.2.1
def odI (o : OM) : Nat → Nat → Nat := o.2.2.1
def odA (o : OM) : Nat → ClassId := o.2.2.2.1
def oad (o : OM) : Nat → Nat := o.2.2.2.2
def oD (o : OM) : va_G := (odC o, odI o)
def aty (t : Nat) : FieldType := match t with
  | 1 => .int
  | 2 => .byte
  | 3 => .boolean
  | 4 => .long
  | 5 => .array .int
  | 6 => .object "SeriesTables$State"
  | _ => .object "SeriesTables$Table"
def oty (o : OM) : List (ClassId × FieldType) := (List.range 7).map (fun k => (odA o (k + 1), aty (k + 1)))
/-! The abstract heap: how many cells, what kind each is (tag, length), references, ints; addresses are counted from ob0 -/
abbrev AH : Type := Nat × (Nat → Nat × Nat) × (Nat → Nat → Option Nat) × (Nat → Nat → Int32)
def hN (h : AH) : Nat := h.1
def hT (h : AH) : Nat → Nat × Nat := h.2.1
def hR (h : AH) : Nat → Nat → Option Nat := h.2.2.1
def hI (h : AH) : Nat → Nat → Int32 := h.2.2.2
def upm {α : Type} (f : Nat → Nat → α) (a k : Nat) (v : α) : Nat → Nat → α := fun b => if b = a then (fun j => if j = k then v else f a j) else f b
def sI (h : AH) (a k : Nat) (v : Int32) : AH := (h.1, h.2.1, h.2.2.1, upm h.2.2.2 a k v)
def sR (h : AH) (a k : Nat) (v : Option Nat) : AH := (h.1, h.2.1, upm h.2.2.1 a k v, h.2.2.2)
theorem upm_eq {α : Type} (f : Nat → Nat → α) (a k : Nat) (v : α) : upm f a k v a = fun j => if j = k then v else f a j := by simp [upm]
theorem upm_ne {α : Type} (f : Nat → Nat → α) {a b : Nat} (k : Nat) (v : α) (h : b ≠ a) : upm f a k v b = f b := by simp [upm, h]
def fv (o : OM) : Value → Value
  | .ref a => .ref (ob0 o + a)
  | .retAddr k => .ref (oad o k)
  | v => v
def fr (o : OM) (r : Option Nat) : Value := va_rf (r.map (fun a => ob0 o + a))
def isR (t k : Nat) : Bool := match t with
  | 5 => true
  | 6 => true
  | 7 => true
  | 10 => k == 0
  | 11 => k < 3
  | 12 => true
  | 13 => k < 3
  | 14 => true
  | 15 => true
  | 16 => k == 0
  | 17 => k < 8
  | 18 => k == 1 || (10 ≤ k && k < 15) || (20 ≤ k && k < 30)
  | _ => false
def cv (o : OM) (t : Nat) (r : Nat → Option Nat) (i : Nat → Int32) (k : Nat) : Value := if isR t k = true then fr o (r k) else if t = 4 then .long (i k).toInt64 else .int (i k)
def okc (o : OM) (a : Nat) (t : Nat × Nat) (r : Nat → Option Nat) (i : Nat → Int32) (H : Heap) : Prop :=
  if t.1 < 10 then H[ob0 o + a]? = some (arrV (odA o t.1) t.2 (cv o t.1 r i))
  else t_OB (ob0 o + a) (odC o (t.1 - 10)) (nfl (t.1 - 10)) (odI o (t.1 - 10)) H (cv o t.1 r i)
def Rp (o : OM) (h : AH) (H : Heap) : Prop := H.size = ob0 o + hN h ∧ (∀ q : Nat, q < ob0 o → H[q]? = (oH0 o)[q]?) ∧ ∀ a : Nat, (hT h a).1 ≠ 0 → (hT h a).1 < 19 ∧ a < hN h ∧ okc o a (hT h a) (hR h a) (hI h a) H
def Lc (o : OM) (m : MD) (L : List (Option Value)) (ls : Array Slot) : Prop := ls.size = mml m ∧ lv_wf ls ∧ ∀ (i : Nat) (v : Value), L[i]? = some (some v) → ls[i]? = some (.val (fv o v))
def Kx (o : OM) (U : State) : Prop := va_K (oD o) vwCl (oty o) U ∧ (os0 o).WarmedH U.vm
theorem Kx.moved {o : OM} {s U : State} (hW : s.WarmedH U.vm) (h : Kx o s) : Kx o U := ⟨va_K.moved hW.alike h.1, h.2.trans hW⟩
def Cx (o : OM) (m : MD) (R : Room) (p : Program) (s : State) (mm : MethodId) (args : Array Value) (meth : Method) (c : Code) : Prop :=
  p.tables.exec = Jvm.exec ∧ c.code = mbt m ∧ meth.sig.returnType = mrt m ∧ c.maxLocals = mml m ∧ s.vm.findClass (mcls m) = some mm.cls ∧ (∀ w ∈ gt_ws, w.before args s = true) ∧ Kx o s ∧ meth.locks = false ∧ meth.name = (mnam m).name ∧ mdp m ≤ R.frames ∧ 36 * mdp m ≤ R.locals
def RetAt (m : MD) (pc : Nat) (v : Option Value) : Prop :=
  (∃ (x : Int32) (ty : FieldType), v = some (.int x) ∧ mrt m = some ty ∧ narrow ty (.int x) = .int x ∧ decode (mbt m) pc = .ok (.ireturn, 1)) ∨
  (∃ x : Int64, v = some (.long x) ∧ mrt m = some .long ∧ decode (mbt m) pc = .ok (.lreturn, 1)) ∨
  (v = none ∧ mrt m = none ∧ decode (mbt m) pc = .ok (.return_, 1))
/-- from here, in any surrounding, the method comes to its end, with an answer and a heap that Q holds of -/
def Rn (o : OM) (l : Launch) (m : MD) (bg : Nat × Nat) (pc : Nat) (L : List (Option Value)) (st : List Value) (h : AH) (Q : Option Value → AH → Prop) : Prop :=
  ∀ (p : Program) (e : Env) (R : Room) (s : State) (mm : MethodId) (args : Array Value) (below : List Frame) (meth : Method) (c : Code) (H : Heap) (locs : List Loc) (cells slots : Nat) (Z : State → Prop) (ls : Array Slot),
    Cx o m R p s mm args meth c → cells + bg.1 ≤ R.cells → slots + bg.2 ≤ R.slots → Rp o h H → (∀ q ∈ locs, ob0 o ≤ q.base) → Lc o m L ls →
    (∀ (v : Option Value) (h' : AH) (H' : Heap) (locs' : List Loc) (cells' slots' pc' : Nat) (ls' : Array Slot), Q v h' → Rp o h' H' → (∀ q ∈ locs', ob0 o ≤ q.base) → cells' ≤ R.cells → slots' ≤ R.slots → RetAt m pc' v →
      W p l e R s mm args below meth c H' locs' cells' slots' Z (F0 mm pc' ls' (v.toList.map (fv o)))) →
    W p l e R s mm args below meth c H locs cells slots Z (F0 mm pc ls (st.map (fv o)))
def rmo (m : MD) (bg : Nat × Nat) : Room := { frames := mdp m, cells := bg.1, slots := bg.2, locals := 36 * mdp m }
def Pco (o : OM) (av : List Value) (h : AH) : Array Value → State → Prop := va_Pc (av.map (fv o)) (fun U => Rp o h U.heap ∧ Kx o U)
def Qco (o : OM) (Q : Option Value → AH → Prop) : Array Value → State → Outcome → State → Prop := fun _ _ oc t => ∃ (v : Option Value) (h' : AH), oc = .returned (v.map (fv o)) ∧ Q v h' ∧ Rp o h' t.heap
/-- the contract of a method: called with these, it returns, and Q holds of its answer and the heap -/
def Cl (o : OM) (l : Launch) (m : MD) (bg : Nat × Nat) (av : List Value) (h : AH) (Q : Option Value → AH → Prop) : Prop :=
  Met l (mnam m) (mws m) (rmo m bg) (Pco o av h) (Qco o Q) bg.1 bg.2 (fun q => ob0 o ≤ q)
theorem fv_cat (o : OM) (v : Value) : (fv o v).category = v.category := by cases v <;> rfl
def entL : List Value → Nat → List (Option Value)
  | [], n => List.replicate n none
  | v :: t, n => if v.category = 2 then some v :: none :: entL t (n - 2) else some v :: entL t (n - 1)
theorem entL_args (o : OM) : ∀ (vs : List Value) (n j i : Nat) (v : Value), (entL vs n)[i]? = some (some v) → (j + i, fv o v) ∈ lv_args j (vs.map (fv o)) := by
  intro vs
  induction vs with
  | nil => 
    intro n j i v h
    simp [entL, List.getElem?_replicate] at h
  | cons w t ih =>
    intro n j i v h
    simp only [List.map_cons, lv_args, fv_cat]
    by_cases hc : w.category = 2
    · simp only [entL, hc, if_true] at h ⊢
      match i, h with
      | 0, h => simp at h; subst h; exact List.mem_cons_self
      | 1, h => simp at h
      | i + 2, h =>
        have := ih (n - 2) (j + 2) i v (by simpa using h)
        exact List.mem_cons_of_mem _ (by rw [show j + (i + 2) = j + 2 + i by omega]; exact this)
    · simp only [entL, hc, if_false] at h ⊢
      match i, h with
      | 0, h => simp at h; subst h; exact List.mem_cons_self
      | i + 1, h =>
        have := ih (n - 1) (j + 1) i v (by simpa using h)
        exact List.mem_cons_of_mem _ (by rw [show j + (i + 1) = j + 1 + i by omega]; exact this)
theorem lg_len (o : OM) (vs : List Value) : (lg_sl (vs.map (fv o))).length = (lg_sl vs).length := by
  induction vs with
  | nil => rfl
  | cons v t ih =>
    simp only [lg_sl, List.map_cons, List.flatMap_cons, List.length_append, fv_cat] at ih ⊢
    rw [ih]
    by_cases h : v.category = 2 <;> simp [h]
theorem cl_of {o : OM} {l : Launch} {m : MD} {bg : Nat × Nat} {av : List Value} {h : AH} {Q : Option Value → AH → Prop} {L : List (Option Value)} (hp : plainName (mnam m).cls = true) (hcls : (mnam m).cls = mcls m) (hL : entL av (mml m) = L) (hlen : (lg_sl av).length ≤ mml m)
    (k : Rn o l m bg 0 L [] h Q) : Cl o l m bg av h Q := by
  refine Met.ofW (cc := mbt m) (maxL := mml m) (ret := mrt m) hp rfl ?_
  intro p e s mm args below meth c s₁ B hml hv
  obtain ⟨rfl, hRp, hK⟩ := hv
  have hts := atoms_spec (ws := mws m) B.pre
  have hown : s.vm.findClass (mnam m).cls = some mm.cls := findClass_of_methodNamed B.named
  have hlocks := B.notSynchronized
  have hr := B.returns
  have hx := B.exec
  have hb := B.bytes
  rw [lg_entry_eq]
  have hl := lv_entry (av.map (fv o)) (n := mml m) (by rw [lg_len]; exact hlen)
  refine k p e _ s mm _ below meth c s.heap [] 0 0 _ _ ⟨hx, hb, hr, hml, hcls ▸ hown, fun w hw => hts w (List.mem_cons_of_mem _ hw), hK, hlocks, (name_of_methodNamed B.named B.method).1, Nat.le_refl _, Nat.le_refl _⟩ (by show 0 + bg.1 ≤ bg.1; omega) (by show 0 + bg.2 ≤ bg.2; omega) hRp (fun q h => by cases h) ⟨hl.1, hl.2.1, fun i v hi => ?_⟩ ?_
  · have := entL_args o av (mml m) 0 i v (by rw [hL]; exact hi)
    rw [Nat.zero_add] at this
    exact hl.2.2 _ this
  · intro v h' H' locs' cells' slots' pc' ls' hQ hRp' hlo hc hs hret
    refine W.widen (k := bg.1) (n := bg.2) hc hs ?_
    rcases hret with ⟨x, ty, rfl, hty, hn, hd⟩ | ⟨x, rfl, hty, hd⟩ | ⟨rfl, hty, hd⟩
    · exact W.zret hx hb (hr.trans hty) hn (fun t ht hW => ⟨some (.int x), h', rfl, hQ, by rw [ht]; exact hRp'⟩) hlo hd
    · exact W.lret hx hb (hr.trans hty) (fun t ht hW => ⟨some (.long x), h', rfl, hQ, by rw [ht]; exact hRp'⟩) hlo hd
    · exact W.vret hx hb (hr.trans hty) (fun t ht hW => ⟨none, h', rfl, hQ, by rw [ht]; exact hRp'⟩) hlo hd
end
section
abbrev dd (m : MD) (pc : Nat) (i : Instr) (n pc' : Nat) : Prop := decode (mbt m) pc = .ok (i, n) ∧ pc + n = pc'
abbrev db (m : MD) (pc : Nat) (i : Int → Instr) (pc' tgt : Nat) : Prop := ∃ off : Int, decode (mbt m) pc = .ok (i off, 3) ∧ pc + 3 = pc' ∧ (pc : Int) + off = (tgt : Int)
def clr (L : List (Option Value)) : Nat → List (Option Value)
  | 0 => L
  | i + 1 => match L[i]? with
    | some (some w) => if w.category = 2 then L.set i none else L
    | _ => L
def st1 (L : List (Option Value)) (i : Nat) (v : Value) : List (Option Value) := (clr L i).set i (some v)
def st2 (L : List (Option Value)) (i : Nat) (v : Value) : List (Option Value) := ((clr L i).set i (some v)).set (i + 1) none
def lvp (o : OM) (L : List (Option Value)) : List (Nat × Value) := (List.range L.length).filterMap (fun i => match L[i]? with
  | some (some v) => some (i, fv o v)
  | _ => none)
theorem lvp_mem {o : OM} {L : List (Option Value)} {q : Nat × Value} : q ∈ lvp o L ↔ ∃ v, L[q.1]? = some (some v) ∧ q.2 = fv o v := by
  unfold lvp
  rw [List.mem_filterMap]
  constructor
  · rintro ⟨i, -, h⟩
    split at h
    next v hv => cases h; exact ⟨v, hv, rfl⟩
    next => cases h
  · rintro ⟨v, h1, h2⟩
    refine ⟨q.1, List.mem_range.mpr (List.getElem?_eq_some_iff.mp h1).1, ?_⟩
    rw [h1]
    simp only [← h2]
theorem Lc.has {o : OM} {m : MD} {L : List (Option Value)} {ls : Array Slot} (h : Lc o m L ls) : lv_has ls (mml m) (lvp o L) := by
  refine ⟨h.1, h.2.1, fun q hq => ?_⟩
  obtain ⟨v, h1, h2⟩ := lvp_mem.mp hq
  rw [h2]
  exact h.2.2 _ _ h1
theorem clr_get {L : List (Option Value)} {i j : Nat} {w : Value} (h : (clr L i)[j]? = some (some w)) : L[j]? = some (some w) ∧ ¬ (j + 1 = i ∧ w.category = 2) := by
  match i, h with
  | 0, h => exact ⟨h, fun q => by omega⟩
  | i + 1, h =>
    simp only [clr] at h
    split at h
    next w' hw' =>
      split at h
      next hc =>
        rw [List.getElem?_set] at h
        split at h
        next => split at h <;> cases h
        next hne => exact ⟨h, fun q => hne (by omega)⟩
      next hc =>
        refine ⟨h, fun q => ?_⟩
        obtain rfl : j = i := by omega
        rw [hw'] at h
        cases h
        exact hc q.2
    next hn =>
      refine ⟨h, fun q => ?_⟩
      obtain rfl : j = i := by omega
      exact hn _ h
theorem Lc.put1 {o : OM} {m : MD} {L : List (Option Value)} {i : Nat} {v : Value} {ls : Array Slot} (h : lv_has ls (mml m) ((i, fv o v) :: (lvp o L).filter (fun q => !(q.1 == i) && !(q.1 + 1 == i && q.2.category == 2)))) : Lc o m (st1 L i v) ls := by
  refine ⟨h.1, h.2.1, fun j w hj => ?_⟩
  unfold st1 at hj
  rw [List.getElem?_set] at hj
  by_cases e : i = j
  · subst e
    rw [if_pos rfl] at hj
    split at hj
    next => cases hj; exact h.2.2 _ List.mem_cons_self
    next => cases hj
  · rw [if_neg e] at hj
    obtain ⟨h1, h2⟩ := clr_get hj
    refine h.2.2 (j, fv o w) (List.mem_cons_of_mem _ (List.mem_filter.mpr ⟨lvp_mem.mpr ⟨w, h1, rfl⟩, ?_⟩))
    simp only [Bool.and_eq_true, Bool.not_eq_true', beq_eq_false_iff_ne, ne_eq, Bool.and_eq_false_iff, fv_cat]
    refine ⟨fun q => e q.symm, ?_⟩
    by_cases e2 : j + 1 = i
    · exact Or.inr (fun q => h2 ⟨e2, q⟩)
    · exact Or.inl e2
theorem Lc.put2 {o : OM} {m : MD} {L : List (Option Value)} {i : Nat} {v : Value} {ls : Array Slot} (h : lv_has ls (mml m) ((i, fv o v) :: (lvp o L).filter (fun q => !(q.1 == i) && (!(q.1 == i + 1) && !(q.1 + 1 == i && q.2.category == 2))))) : Lc o m (st2 L i v) ls := by
  refine ⟨h.1, h.2.1, fun j w hj => ?_⟩
  unfold st2 at hj
  rw [List.getElem?_set] at hj
  split at hj
  next => split at hj <;> cases hj
  next e1 =>
    rw [List.getElem?_set] at hj
    by_cases e : i = j
    · subst e
      rw [if_pos rfl] at hj
      split at hj
      next => cases hj; exact h.2.2 _ List.mem_cons_self
      next => cases hj
    · rw [if_neg e] at hj
      obtain ⟨h1, h2⟩ := clr_get hj
      refine h.2.2 (j, fv o w) (List.mem_cons_of_mem _ (List.mem_filter.mpr ⟨lvp_mem.mpr ⟨w, h1, rfl⟩, ?_⟩))
      simp only [Bool.and_eq_true, Bool.not_eq_true', beq_eq_false_iff_ne, ne_eq, Bool.and_eq_false_iff, fv_cat]
      refine ⟨fun q => e q.symm, fun q => e1 q.symm, ?_⟩
      by_cases e2 : j + 1 = i
      · exact Or.inr (fun q => h2 ⟨e2, q⟩)
      · exact Or.inl e2
section RU
variable {o : OM} {l : Launch} {m : MD} {bg : Nat × Nat} {pc pc' tgt : Nat} {L L' : List (Option Value)} {st : List Value} {h : AH} {Q : Option Value → AH → Prop}

theorem r_iadd {x y : Int32} (hd : dd m pc .iadd 1 pc') (k : Rn o l m bg pc' L (.int (x + y) :: st) h Q) : Rn o l m bg pc L (.int y :: .int x :: st) h Q := by
  obtain ⟨hd, rfl⟩ := hd
  intro p e R s mm args below meth c H locs cells slots Z ls hC h1 h2 h3 h4 h5 h6
  exact lv_iadd hC.1 hC.2.1 hd (k p e R s mm args below meth c H locs cells slots Z ls hC h1 h2 h3 h4 h5 h6)
theorem r_isub {x y : Int32} (hd : dd m pc .isub 1 pc') (k : Rn o l m bg pc' L (.int (x - y) :: st) h Q) : Rn o l m bg pc L (.int y :: .int x :: st) h Q := by
  obtain ⟨hd, rfl⟩ := hd
  intro p e R s mm args below meth c H locs cells slots Z ls hC h1 h2 h3 h4 h5 h6
  exact lv_isub hC.1 hC.2.1 hd (k p e R s mm args below meth c H locs cells slots Z ls hC h1 h2 h3 h4 h5 h6)
theorem r_imul {x y : Int32} (hd : dd m pc .imul 1 pc') (k : Rn o l m bg pc' L (.int (x * y) :: st) h Q) : Rn o l m bg pc L (.int y :: .int x :: st) h Q := by
  obtain ⟨hd, rfl⟩ := hd
  intro p e R s mm args below meth c H locs cells slots Z ls hC h1 h2 h3 h4 h5 h6
  exact lv_imul hC.1 hC.2.1 hd (k p e R s mm args below meth c H locs cells slots Z ls hC h1 h2 h3 h4 h5 h6)
theorem r_iand {x y : Int32} (hd : dd m pc .iand 1 pc') (k : Rn o l m bg pc' L (.int (x &&& y) :: st) h Q) : Rn o l m bg pc L (.int y :: .int x :: st) h Q := by
  obtain ⟨hd, rfl⟩ := hd
  intro p e R s mm args below meth c H locs cells slots Z ls hC h1 h2 h3 h4 h5 h6
  exact lv_iand hC.1 hC.2.1 hd (k p e R s mm args below meth c H locs cells slots Z ls hC h1 h2 h3 h4 h5 h6)
theorem r_ior {x y : Int32} (hd : dd m pc .ior 1 pc') (k : Rn o l m bg pc' L (.int (x ||| y) :: st) h Q) : Rn o l m bg pc L (.int y :: .int x :: st) h Q := by
  obtain ⟨hd, rfl⟩ := hd
  intro p e R s mm args below meth c H locs cells slots Z ls hC h1 h2 h3 h4 h5 h6
  exact lv_ior hC.1 hC.2.1 hd (k p e R s mm args below meth c H locs cells slots Z ls hC h1 h2 h3 h4 h5 h6)
theorem r_ixor {x y : Int32} (hd : dd m pc .ixor 1 pc') (k : Rn o l m bg pc' L (.int (x ^^^ y) :: st) h Q) : Rn o l m bg pc L (.int y :: .int x :: st) h Q := by
  obtain ⟨hd, rfl⟩ := hd
  intro p e R s mm args below meth c H locs cells slots Z ls hC h1 h2 h3 h4 h5 h6
  exact lv_ixor hC.1 hC.2.1 hd (k p e R s mm args below meth c H locs cells slots Z ls hC h1 h2 h3 h4 h5 h6)
theorem r_irem {x y : Int32} (hd : dd m pc .irem 1 pc') (hne : ¬ y = 0) (k : Rn o l m bg pc' L (.int (x - x / y * y) :: st) h Q) : Rn o l m bg pc L (.int y :: .int x :: st) h Q := by
  obtain ⟨hd, rfl⟩ := hd
  intro p e R s mm args below meth c H locs cells slots Z ls hC h1 h2 h3 h4 h5 h6
  exact lv_irem hC.1 hC.2.1 hd hne (k p e R s mm args below meth c H locs cells slots Z ls hC h1 h2 h3 h4 h5 h6)
theorem r_ishr {x y : Int32} (hd : dd m pc .ishr 1 pc') (k : Rn o l m bg pc' L (.int (x >>> (y &&& 31)) :: st) h Q) : Rn o l m bg pc L (.int y :: .int x :: st) h Q := by
  obtain ⟨hd, rfl⟩ := hd
  intro p e R s mm args below meth c H locs cells slots Z ls hC h1 h2 h3 h4 h5 h6
  exact lv_ishr hC.1 hC.2.1 hd (k p e R s mm args below meth c H locs cells slots Z ls hC h1 h2 h3 h4 h5 h6)
theorem r_iushr {x y : Int32} (hd : dd m pc .iushr 1 pc') (k : Rn o l m bg pc' L (.int ((x.toUInt32 >>> (y.toUInt32 &&& Int32.toUInt32 31)).toInt32) :: st) h Q) : Rn o l m bg pc L (.int y :: .int x :: st) h Q := by
  obtain ⟨hd, rfl⟩ := hd
  intro p e R s mm args below meth c H locs cells slots Z ls hC h1 h2 h3 h4 h5 h6
  exact lv_iushr hC.1 hC.2.1 hd rfl (k p e R s mm args below meth c H locs cells slots Z ls hC h1 h2 h3 h4 h5 h6)
theorem r_ineg {x : Int32} (hd : dd m pc .ineg 1 pc') (k : Rn o l m bg pc' L (.int (-x) :: st) h Q) : Rn o l m bg pc L (.int x :: st) h Q := by
  obtain ⟨hd, rfl⟩ := hd
  intro p e R s mm args below meth c H locs cells slots Z ls hC h1 h2 h3 h4 h5 h6
  exact lv_ineg hC.1 hC.2.1 hd (k p e R s mm args below meth c H locs cells slots Z ls hC h1 h2 h3 h4 h5 h6)
theorem r_ladd {x y : Int64} (hd : dd m pc .ladd 1 pc') (k : Rn o l m bg pc' L (.long (x + y) :: st) h Q) : Rn o l m bg pc L (.long y :: .long x :: st) h Q := by
  obtain ⟨hd, rfl⟩ := hd
  intro p e R s mm args below meth c H locs cells slots Z ls hC h1 h2 h3 h4 h5 h6
  exact lv_ladd hC.1 hC.2.1 hd (k p e R s mm args below meth c H locs cells slots Z ls hC h1 h2 h3 h4 h5 h6)
theorem r_lsub {x y : Int64} (hd : dd m pc .lsub 1 pc') (k : Rn o l m bg pc' L (.long (x - y) :: st) h Q) : Rn o l m bg pc L (.long y :: .long x :: st) h Q := by
  obtain ⟨hd, rfl⟩ := hd
  intro p e R s mm args below meth c H locs cells slots Z ls hC h1 h2 h3 h4 h5 h6
  exact lv_lsub hC.1 hC.2.1 hd (k p e R s mm args below meth c H locs cells slots Z ls hC h1 h2 h3 h4 h5 h6)
theorem r_lmul {x y : Int64} (hd : dd m pc .lmul 1 pc') (k : Rn o l m bg pc' L (.long (x * y) :: st) h Q) : Rn o l m bg pc L (.long y :: .long x :: st) h Q := by
  obtain ⟨hd, rfl⟩ := hd
  intro p e R s mm args below meth c H locs cells slots Z ls hC h1 h2 h3 h4 h5 h6
  exact lv_lmul hC.1 hC.2.1 hd (k p e R s mm args below meth c H locs cells slots Z ls hC h1 h2 h3 h4 h5 h6)
theorem r_lrem {x y : Int64} (hd : dd m pc .lrem 1 pc') (hne : ¬ y = 0) (k : Rn o l m bg pc' L (.long (x - x / y * y) :: st) h Q) : Rn o l m bg pc L (.long y :: .long x :: st) h Q := by
  obtain ⟨hd, rfl⟩ := hd
  intro p e R s mm args below meth c H locs cells slots Z ls hC h1 h2 h3 h4 h5 h6
  exact lv_lrem hC.1 hC.2.1 hd hne (k p e R s mm args below meth c H locs cells slots Z ls hC h1 h2 h3 h4 h5 h6)
theorem r_lneg {x : Int64} (hd : dd m pc .lneg 1 pc') (k : Rn o l m bg pc' L (.long (-x) :: st) h Q) : Rn o l m bg pc L (.long x :: st) h Q := by
  obtain ⟨hd, rfl⟩ := hd
  intro p e R s mm args below meth c H locs cells slots Z ls hC h1 h2 h3 h4 h5 h6
  exact lv_lneg hC.1 hC.2.1 hd (k p e R s mm args below meth c H locs cells slots Z ls hC h1 h2 h3 h4 h5 h6)
theorem r_lcmp {x y : Int64} (hd : dd m pc .lcmp 1 pc') (k : Rn o l m bg pc' L (.int (lg_cmp x y) :: st) h Q) : Rn o l m bg pc L (.long y :: .long x :: st) h Q := by
  obtain ⟨hd, rfl⟩ := hd
  intro p e R s mm args below meth c H locs cells slots Z ls hC h1 h2 h3 h4 h5 h6
  exact W.lcmp hC.1 hC.2.1 hd (k p e R s mm args below meth c H locs cells slots Z ls hC h1 h2 h3 h4 h5 h6)
theorem r_i2l {x : Int32} (hd : dd m pc .i2l 1 pc') (k : Rn o l m bg pc' L (.long x.toInt64 :: st) h Q) : Rn o l m bg pc L (.int x :: st) h Q := by
  obtain ⟨hd, rfl⟩ := hd
  intro p e R s mm args below meth c H locs cells slots Z ls hC h1 h2 h3 h4 h5 h6
  exact lv_i2l hC.1 hC.2.1 hd rfl (k p e R s mm args below meth c H locs cells slots Z ls hC h1 h2 h3 h4 h5 h6)
theorem r_l2i {x : Int64} (hd : dd m pc .l2i 1 pc') (k : Rn o l m bg pc' L (.int x.toInt32 :: st) h Q) : Rn o l m bg pc L (.long x :: st) h Q := by
  obtain ⟨hd, rfl⟩ := hd
  intro p e R s mm args below meth c H locs cells slots Z ls hC h1 h2 h3 h4 h5 h6
  exact lv_l2i hC.1 hC.2.1 hd rfl (k p e R s mm args below meth c H locs cells slots Z ls hC h1 h2 h3 h4 h5 h6)
theorem r_i2b {x : Int32} (hd : dd m pc .i2b 1 pc') (k : Rn o l m bg pc' L (.int x.toInt8.toInt32 :: st) h Q) : Rn o l m bg pc L (.int x :: st) h Q := by
  obtain ⟨hd, rfl⟩ := hd
  intro p e R s mm args below meth c H locs cells slots Z ls hC h1 h2 h3 h4 h5 h6
  exact lv_i2b hC.1 hC.2.1 hd rfl (k p e R s mm args below meth c H locs cells slots Z ls hC h1 h2 h3 h4 h5 h6)
theorem r_iconst {n : Int} {v : Int32} (hd : dd m pc (.iconst n) 1 pc') (hv : Int32.ofInt n = v) (k : Rn o l m bg pc' L (.int v :: st) h Q) : Rn o l m bg pc L (st) h Q := by
  obtain ⟨hd, rfl⟩ := hd
  intro p e R s mm args below meth c H locs cells slots Z ls hC h1 h2 h3 h4 h5 h6
  exact lv_iconst hC.1 hC.2.1 hd hv (k p e R s mm args below meth c H locs cells slots Z ls hC h1 h2 h3 h4 h5 h6)
theorem r_bipush {n : Int} {v : Int32} (hd : dd m pc (.bipush n) 2 pc') (hv : (Int8.ofInt n).toInt32 = v) (k : Rn o l m bg pc' L (.int v :: st) h Q) : Rn o l m bg pc L (st) h Q := by
  obtain ⟨hd, rfl⟩ := hd
  intro p e R s mm args below meth c H locs cells slots Z ls hC h1 h2 h3 h4 h5 h6
  exact lv_bipush hC.1 hC.2.1 hd hv (k p e R s mm args below meth c H locs cells slots Z ls hC h1 h2 h3 h4 h5 h6)
theorem r_sipush {n : Int} {v : Int32} (hd : dd m pc (.sipush n) 3 pc') (hv : (Int16.ofInt n).toInt32 = v) (k : Rn o l m bg pc' L (.int v :: st) h Q) : Rn o l m bg pc L (st) h Q := by
  obtain ⟨hd, rfl⟩ := hd
  intro p e R s mm args below meth c H locs cells slots Z ls hC h1 h2 h3 h4 h5 h6
  exact lv_sipush hC.1 hC.2.1 hd hv (k p e R s mm args below meth c H locs cells slots Z ls hC h1 h2 h3 h4 h5 h6)
theorem r_lconst {n : Fin 2} {v : Int64} (hd : dd m pc (.lconst n) 1 pc') (hv : Int64.ofNat (n : Nat) = v) (k : Rn o l m bg pc' L (.long v :: st) h Q) : Rn o l m bg pc L (st) h Q := by
  obtain ⟨hd, rfl⟩ := hd
  intro p e R s mm args below meth c H locs cells slots Z ls hC h1 h2 h3 h4 h5 h6
  exact lv_lconst hC.1 hC.2.1 hd hv (k p e R s mm args below meth c H locs cells slots Z ls hC h1 h2 h3 h4 h5 h6)
theorem r_ldc {idx : Nat} {v : Int32} (hd : dd m pc (.ldc idx) 2 pc') (hc : Cond.constant (mcls m) idx v ∈ gt_ws) (k : Rn o l m bg pc' L (.int v :: st) h Q) : Rn o l m bg pc L st h Q := by
  obtain ⟨hd, rfl⟩ := hd
  intro p e R s mm args below meth c H locs cells slots Z ls hC h1 h2 h3 h4 h5 h6
  exact lv_ldc hC.1 hC.2.1 hC.2.2.2.2.1 (hC.2.2.2.2.2.1 _ hc) hd (k p e R s mm args below meth c H locs cells slots Z ls hC h1 h2 h3 h4 h5 h6)
theorem r_ldc2 {idx : Nat} {v : Int64} (hd : dd m pc (.ldc2_w idx) 3 pc') (hc : Cond.constantLong (mcls m) idx v ∈ gt_ws) (k : Rn o l m bg pc' L (.long v :: st) h Q) : Rn o l m bg pc L st h Q := by
  obtain ⟨hd, rfl⟩ := hd
  intro p e R s mm args below meth c H locs cells slots Z ls hC h1 h2 h3 h4 h5 h6
  exact lv_ldc2 hC.1 hC.2.1 hC.2.2.2.2.1 (hC.2.2.2.2.2.1 _ hc) hd (k p e R s mm args below meth c H locs cells slots Z ls hC h1 h2 h3 h4 h5 h6)
theorem r_iload {i : Nat} {x : Int32} (hd : dd m pc (.iload i) 2 pc') (hl : L[i]? = some (some (.int x))) (k : Rn o l m bg pc' L (.int x :: st) h Q) : Rn o l m bg pc L st h Q := by
  obtain ⟨hd, rfl⟩ := hd
  intro p e R s mm args below meth c H locs cells slots Z ls hC h1 h2 h3 h4 h5 h6
  exact lv_iload hC.1 hC.2.1 hd (h5.2.2 _ _ hl) (k p e R s mm args below meth c H locs cells slots Z ls hC h1 h2 h3 h4 h5 h6)
theorem r_iload_n {i : Fin 4} {x : Int32} (hd : dd m pc (.iload_n i) 1 pc') (hl : L[(i : Nat)]? = some (some (.int x))) (k : Rn o l m bg pc' L (.int x :: st) h Q) : Rn o l m bg pc L st h Q := by
  obtain ⟨hd, rfl⟩ := hd
  intro p e R s mm args below meth c H locs cells slots Z ls hC h1 h2 h3 h4 h5 h6
  exact lv_iload_n hC.1 hC.2.1 hd rfl (h5.2.2 _ _ hl) (k p e R s mm args below meth c H locs cells slots Z ls hC h1 h2 h3 h4 h5 h6)
theorem r_lload {i : Nat} {x : Int64} (hd : dd m pc (.lload i) 2 pc') (hl : L[i]? = some (some (.long x))) (k : Rn o l m bg pc' L (.long x :: st) h Q) : Rn o l m bg pc L st h Q := by
  obtain ⟨hd, rfl⟩ := hd
  intro p e R s mm args below meth c H locs cells slots Z ls hC h1 h2 h3 h4 h5 h6
  exact lv_lload hC.1 hC.2.1 hd (h5.2.2 _ _ hl) (k p e R s mm args below meth c H locs cells slots Z ls hC h1 h2 h3 h4 h5 h6)
theorem r_lload_n {i : Fin 4} {x : Int64} (hd : dd m pc (.lload_n i) 1 pc') (hl : L[(i : Nat)]? = some (some (.long x))) (k : Rn o l m bg pc' L (.long x :: st) h Q) : Rn o l m bg pc L st h Q := by
  obtain ⟨hd, rfl⟩ := hd
  intro p e R s mm args below meth c H locs cells slots Z ls hC h1 h2 h3 h4 h5 h6
  exact lv_lload_n hC.1 hC.2.1 hd rfl (h5.2.2 _ _ hl) (k p e R s mm args below meth c H locs cells slots Z ls hC h1 h2 h3 h4 h5 h6)
theorem r_aload {i : Nat} {x : Nat} (hd : dd m pc (.aload i) 2 pc') (hl : L[i]? = some (some (.ref x))) (k : Rn o l m bg pc' L (.ref x :: st) h Q) : Rn o l m bg pc L st h Q := by
  obtain ⟨hd, rfl⟩ := hd
  intro p e R s mm args below meth c H locs cells slots Z ls hC h1 h2 h3 h4 h5 h6
  exact lv_aload hC.1 hC.2.1 hd (h5.2.2 _ _ hl) (k p e R s mm args below meth c H locs cells slots Z ls hC h1 h2 h3 h4 h5 h6)
theorem r_bload {i : Nat} {x : Nat} (hd : dd m pc (.aload i) 2 pc') (hl : L[i]? = some (some (.retAddr x))) (k : Rn o l m bg pc' L (.retAddr x :: st) h Q) : Rn o l m bg pc L st h Q := by
  obtain ⟨hd, rfl⟩ := hd
  intro p e R s mm args below meth c H locs cells slots Z ls hC h1 h2 h3 h4 h5 h6
  exact lv_aload hC.1 hC.2.1 hd (h5.2.2 _ _ hl) (k p e R s mm args below meth c H locs cells slots Z ls hC h1 h2 h3 h4 h5 h6)
theorem r_aload_n {i : Fin 4} {x : Nat} (hd : dd m pc (.aload_n i) 1 pc') (hl : L[(i : Nat)]? = some (some (.ref x))) (k : Rn o l m bg pc' L (.ref x :: st) h Q) : Rn o l m bg pc L st h Q := by
  obtain ⟨hd, rfl⟩ := hd
  intro p e R s mm args below meth c H locs cells slots Z ls hC h1 h2 h3 h4 h5 h6
  exact lv_aload_n hC.1 hC.2.1 hd rfl (h5.2.2 _ _ hl) (k p e R s mm args below meth c H locs cells slots Z ls hC h1 h2 h3 h4 h5 h6)
theorem r_bload_n {i : Fin 4} {x : Nat} (hd : dd m pc (.aload_n i) 1 pc') (hl : L[(i : Nat)]? = some (some (.retAddr x))) (k : Rn o l m bg pc' L (.retAddr x :: st) h Q) : Rn o l m bg pc L st h Q := by
  obtain ⟨hd, rfl⟩ := hd
  intro p e R s mm args below meth c H locs cells slots Z ls hC h1 h2 h3 h4 h5 h6
  exact lv_aload_n hC.1 hC.2.1 hd rfl (h5.2.2 _ _ hl) (k p e R s mm args below meth c H locs cells slots Z ls hC h1 h2 h3 h4 h5 h6)
theorem r_istore {i : Nat} {x : Int32} (hd : dd m pc (.istore i) 2 pc') (hn : i < mml m) (hL : st1 L i (.int x) = L') (k : Rn o l m bg pc' L' st h Q) : Rn o l m bg pc L (.int x :: st) h Q := by
  obtain ⟨hd, rfl⟩ := hd
  subst hL
  intro p e R s mm args below meth c H locs cells slots Z ls hC h1 h2 h3 h4 h5 h6
  exact lv_istore hC.1 hC.2.1 hd h5.has hn rfl (fun ls9 h9 => (k p e R s mm args below meth c H locs cells slots Z ls9 hC h1 h2 h3 h4 (Lc.put1 h9) h6))
theorem r_istore_n {i : Fin 4} {x : Int32} (hd : dd m pc (.istore_n i) 1 pc') (hn : (i : Nat) < mml m) (hL : st1 L i (.int x) = L') (k : Rn o l m bg pc' L' st h Q) : Rn o l m bg pc L (.int x :: st) h Q := by
  obtain ⟨hd, rfl⟩ := hd
  subst hL
  intro p e R s mm args below meth c H locs cells slots Z ls hC h1 h2 h3 h4 h5 h6
  exact lv_istore_n hC.1 hC.2.1 hd rfl h5.has hn rfl (fun ls9 h9 => (k p e R s mm args below meth c H locs cells slots Z ls9 hC h1 h2 h3 h4 (Lc.put1 h9) h6))
theorem r_lstore {i : Nat} {x : Int64} (hd : dd m pc (.lstore i) 2 pc') (hn : i + 1 < mml m) (hL : st2 L i (.long x) = L') (k : Rn o l m bg pc' L' st h Q) : Rn o l m bg pc L (.long x :: st) h Q := by
  obtain ⟨hd, rfl⟩ := hd
  subst hL
  intro p e R s mm args below meth c H locs cells slots Z ls hC h1 h2 h3 h4 h5 h6
  exact lv_lstore hC.1 hC.2.1 hd h5.has hn rfl (fun ls9 h9 => (k p e R s mm args below meth c H locs cells slots Z ls9 hC h1 h2 h3 h4 (Lc.put2 h9) h6))
theorem r_lstore_n {i : Fin 4} {x : Int64} (hd : dd m pc (.lstore_n i) 1 pc') (hn : (i : Nat) + 1 < mml m) (hL : st2 L i (.long x) = L') (k : Rn o l m bg pc' L' st h Q) : Rn o l m bg pc L (.long x :: st) h Q := by
  obtain ⟨hd, rfl⟩ := hd
  subst hL
  intro p e R s mm args below meth c H locs cells slots Z ls hC h1 h2 h3 h4 h5 h6
  exact lv_lstore_n hC.1 hC.2.1 hd rfl h5.has hn rfl (fun ls9 h9 => (k p e R s mm args below meth c H locs cells slots Z ls9 hC h1 h2 h3 h4 (Lc.put2 h9) h6))
theorem r_astore {i : Nat} {x : Nat} (hd : dd m pc (.astore i) 2 pc') (hn : i < mml m) (hL : st1 L i (.ref x) = L') (k : Rn o l m bg pc' L' st h Q) : Rn o l m bg pc L (.ref x :: st) h Q := by
  obtain ⟨hd, rfl⟩ := hd
  subst hL
  intro p e R s mm args below meth c H locs cells slots Z ls hC h1 h2 h3 h4 h5 h6
  exact lv_astore hC.1 hC.2.1 hd h5.has hn rfl (fun ls9 h9 => (k p e R s mm args below meth c H locs cells slots Z ls9 hC h1 h2 h3 h4 (Lc.put1 h9) h6))
theorem r_astore_n {i : Fin 4} {x : Nat} (hd : dd m pc (.astore_n i) 1 pc') (hn : (i : Nat) < mml m) (hL : st1 L i (.ref x) = L') (k : Rn o l m bg pc' L' st h Q) : Rn o l m bg pc L (.ref x :: st) h Q := by
  obtain ⟨hd, rfl⟩ := hd
  subst hL
  intro p e R s mm args below meth c H locs cells slots Z ls hC h1 h2 h3 h4 h5 h6
  exact lv_astore_n hC.1 hC.2.1 hd rfl h5.has hn rfl (fun ls9 h9 => (k p e R s mm args below meth c H locs cells slots Z ls9 hC h1 h2 h3 h4 (Lc.put1 h9) h6))
theorem r_bstore {i : Nat} {x : Nat} (hd : dd m pc (.astore i) 2 pc') (hn : i < mml m) (hL : st1 L i (.retAddr x) = L') (k : Rn o l m bg pc' L' st h Q) : Rn o l m bg pc L (.retAddr x :: st) h Q := by
  obtain ⟨hd, rfl⟩ := hd
  subst hL
  intro p e R s mm args below meth c H locs cells slots Z ls hC h1 h2 h3 h4 h5 h6
  exact lv_astore hC.1 hC.2.1 hd h5.has hn rfl (fun ls9 h9 => (k p e R s mm args below meth c H locs cells slots Z ls9 hC h1 h2 h3 h4 (Lc.put1 h9) h6))
theorem r_bstore_n {i : Fin 4} {x : Nat} (hd : dd m pc (.astore_n i) 1 pc') (hn : (i : Nat) < mml m) (hL : st1 L i (.retAddr x) = L') (k : Rn o l m bg pc' L' st h Q) : Rn o l m bg pc L (.retAddr x :: st) h Q := by
  obtain ⟨hd, rfl⟩ := hd
  subst hL
  intro p e R s mm args below meth c H locs cells slots Z ls hC h1 h2 h3 h4 h5 h6
  exact lv_astore_n hC.1 hC.2.1 hd rfl h5.has hn rfl (fun ls9 h9 => (k p e R s mm args below meth c H locs cells slots Z ls9 hC h1 h2 h3 h4 (Lc.put1 h9) h6))
theorem r_iinc {i : Nat} {n : Int} {x v : Int32} (hd : dd m pc (.iinc i n) 3 pc') (hl : L[i]? = some (some (.int x))) (hv : x + Int32.ofInt n = v) (hn : i < mml m) (hL : st1 L i (.int v) = L') (k : Rn o l m bg pc' L' st h Q) : Rn o l m bg pc L st h Q := by
  obtain ⟨hd, rfl⟩ := hd
  subst hL
  intro p e R s mm args below meth c H locs cells slots Z ls hC h1 h2 h3 h4 h5 h6
  obtain ⟨k9, hk9⟩ := List.getElem?_of_mem (lvp_mem.mpr ⟨_, hl, rfl⟩ : (i, fv o (.int x)) ∈ lvp o L)
  exact lv_iinc hC.1 hC.2.1 hd h5.has hk9 hv hn rfl (fun ls9 h9 => (k p e R s mm args below meth c H locs cells slots Z ls9 hC h1 h2 h3 h4 (Lc.put1 (v := .int _) h9) h6))
theorem r_dup {v : Value} (hd : dd m pc .dup 1 pc') (hv : v.category = 1) (k : Rn o l m bg pc' L (v :: v :: st) h Q) : Rn o l m bg pc L (v :: st) h Q := by
  obtain ⟨hd, rfl⟩ := hd
  intro p e R s mm args below meth c H locs cells slots Z ls hC h1 h2 h3 h4 h5 h6
  exact lv_dup hC.1 hC.2.1 hd (by rw [fv_cat]; exact hv) (k p e R s mm args below meth c H locs cells slots Z ls hC h1 h2 h3 h4 h5 h6)
theorem r_pop {v : Value} (hd : dd m pc .pop 1 pc') (hv : v.category = 1) (k : Rn o l m bg pc' L st h Q) : Rn o l m bg pc L (v :: st) h Q := by
  obtain ⟨hd, rfl⟩ := hd
  intro p e R s mm args below meth c H locs cells slots Z ls hC h1 h2 h3 h4 h5 h6
  exact lv_pop hC.1 hC.2.1 hd (by rw [fv_cat]; exact hv) (k p e R s mm args below meth c H locs cells slots Z ls hC h1 h2 h3 h4 h5 h6)
theorem r_if_eq {x : Int32} (hd : db m pc (.ifCond .eq) pc' tgt) (kt : x = 0 → Rn o l m bg tgt L st h Q) (kf : ¬ x = 0 → Rn o l m bg pc' L st h Q) : Rn o l m bg pc L (.int x :: st) h Q := by
  obtain ⟨off, hd, rfl, ht⟩ := hd
  intro p e R s mm args below meth c H locs cells slots Z ls hC h1 h2 h3 h4 h5 h6
  exact lv_if_eq hC.1 hC.2.1 hd ht (fun q9 => (kt q9 p e R s mm args below meth c H locs cells slots Z ls hC h1 h2 h3 h4 h5 h6)) (fun q9 => (kf q9 p e R s mm args below meth c H locs cells slots Z ls hC h1 h2 h3 h4 h5 h6))
theorem r_if_ne {x : Int32} (hd : db m pc (.ifCond .ne) pc' tgt) (kt : ¬ x = 0 → Rn o l m bg tgt L st h Q) (kf : x = 0 → Rn o l m bg pc' L st h Q) : Rn o l m bg pc L (.int x :: st) h Q := by
  obtain ⟨off, hd, rfl, ht⟩ := hd
  intro p e R s mm args below meth c H locs cells slots Z ls hC h1 h2 h3 h4 h5 h6
  exact lv_if_ne hC.1 hC.2.1 hd ht (fun q9 => (kt q9 p e R s mm args below meth c H locs cells slots Z ls hC h1 h2 h3 h4 h5 h6)) (fun q9 => (kf q9 p e R s mm args below meth c H locs cells slots Z ls hC h1 h2 h3 h4 h5 h6))
theorem r_if_lt {x : Int32} (hd : db m pc (.ifCond .lt) pc' tgt) (kt : x < 0 → Rn o l m bg tgt L st h Q) (kf : ¬ x < 0 → Rn o l m bg pc' L st h Q) : Rn o l m bg pc L (.int x :: st) h Q := by
  obtain ⟨off, hd, rfl, ht⟩ := hd
  intro p e R s mm args below meth c H locs cells slots Z ls hC h1 h2 h3 h4 h5 h6
  exact lv_if_lt hC.1 hC.2.1 hd ht (fun q9 => (kt q9 p e R s mm args below meth c H locs cells slots Z ls hC h1 h2 h3 h4 h5 h6)) (fun q9 => (kf q9 p e R s mm args below meth c H locs cells slots Z ls hC h1 h2 h3 h4 h5 h6))
theorem r_if_ge {x : Int32} (hd : db m pc (.ifCond .ge) pc' tgt) (kt : 0 ≤ x → Rn o l m bg tgt L st h Q) (kf : ¬ 0 ≤ x → Rn o l m bg pc' L st h Q) : Rn o l m bg pc L (.int x :: st) h Q := by
  obtain ⟨off, hd, rfl, ht⟩ := hd
  intro p e R s mm args below meth c H locs cells slots Z ls hC h1 h2 h3 h4 h5 h6
  exact lv_if_ge hC.1 hC.2.1 hd ht (fun q9 => (kt q9 p e R s mm args below meth c H locs cells slots Z ls hC h1 h2 h3 h4 h5 h6)) (fun q9 => (kf q9 p e R s mm args below meth c H locs cells slots Z ls hC h1 h2 h3 h4 h5 h6))
theorem r_if_gt {x : Int32} (hd : db m pc (.ifCond .gt) pc' tgt) (kt : 0 < x → Rn o l m bg tgt L st h Q) (kf : ¬ 0 < x → Rn o l m bg pc' L st h Q) : Rn o l m bg pc L (.int x :: st) h Q := by
  obtain ⟨off, hd, rfl, ht⟩ := hd
  intro p e R s mm args below meth c H locs cells slots Z ls hC h1 h2 h3 h4 h5 h6
  exact lv_if_gt hC.1 hC.2.1 hd ht (fun q9 => (kt q9 p e R s mm args below meth c H locs cells slots Z ls hC h1 h2 h3 h4 h5 h6)) (fun q9 => (kf q9 p e R s mm args below meth c H locs cells slots Z ls hC h1 h2 h3 h4 h5 h6))
theorem r_if_le {x : Int32} (hd : db m pc (.ifCond .le) pc' tgt) (kt : x ≤ 0 → Rn o l m bg tgt L st h Q) (kf : ¬ x ≤ 0 → Rn o l m bg pc' L st h Q) : Rn o l m bg pc L (.int x :: st) h Q := by
  obtain ⟨off, hd, rfl, ht⟩ := hd
  intro p e R s mm args below meth c H locs cells slots Z ls hC h1 h2 h3 h4 h5 h6
  exact lv_if_le hC.1 hC.2.1 hd ht (fun q9 => (kt q9 p e R s mm args below meth c H locs cells slots Z ls hC h1 h2 h3 h4 h5 h6)) (fun q9 => (kf q9 p e R s mm args below meth c H locs cells slots Z ls hC h1 h2 h3 h4 h5 h6))
theorem r_icmp_eq {x y : Int32} (hd : db m pc (.if_icmp .eq) pc' tgt) (kt : x = y → Rn o l m bg tgt L st h Q) (kf : ¬ x = y → Rn o l m bg pc' L st h Q) : Rn o l m bg pc L (.int y :: .int x :: st) h Q := by
  obtain ⟨off, hd, rfl, ht⟩ := hd
  intro p e R s mm args below meth c H locs cells slots Z ls hC h1 h2 h3 h4 h5 h6
  exact lv_icmp_eq hC.1 hC.2.1 hd ht (fun q9 => (kt q9 p e R s mm args below meth c H locs cells slots Z ls hC h1 h2 h3 h4 h5 h6)) (fun q9 => (kf q9 p e R s mm args below meth c H locs cells slots Z ls hC h1 h2 h3 h4 h5 h6))
theorem r_icmp_ne {x y : Int32} (hd : db m pc (.if_icmp .ne) pc' tgt) (kt : ¬ x = y → Rn o l m bg tgt L st h Q) (kf : x = y → Rn o l m bg pc' L st h Q) : Rn o l m bg pc L (.int y :: .int x :: st) h Q := by
  obtain ⟨off, hd, rfl, ht⟩ := hd
  intro p e R s mm args below meth c H locs cells slots Z ls hC h1 h2 h3 h4 h5 h6
  exact lv_icmp_ne hC.1 hC.2.1 hd ht (fun q9 => (kt q9 p e R s mm args below meth c H locs cells slots Z ls hC h1 h2 h3 h4 h5 h6)) (fun q9 => (kf q9 p e R s mm args below meth c H locs cells slots Z ls hC h1 h2 h3 h4 h5 h6))
theorem r_icmp_lt {x y : Int32} (hd : db m pc (.if_icmp .lt) pc' tgt) (kt : x < y → Rn o l m bg tgt L st h Q) (kf : ¬ x < y → Rn o l m bg pc' L st h Q) : Rn o l m bg pc L (.int y :: .int x :: st) h Q := by
  obtain ⟨off, hd, rfl, ht⟩ := hd
  intro p e R s mm args below meth c H locs cells slots Z ls hC h1 h2 h3 h4 h5 h6
  exact lv_icmp_lt hC.1 hC.2.1 hd ht (fun q9 => (kt q9 p e R s mm args below meth c H locs cells slots Z ls hC h1 h2 h3 h4 h5 h6)) (fun q9 => (kf q9 p e R s mm args below meth c H locs cells slots Z ls hC h1 h2 h3 h4 h5 h6))
theorem r_icmp_ge {x y : Int32} (hd : db m pc (.if_icmp .ge) pc' tgt) (kt : y ≤ x → Rn o l m bg tgt L st h Q) (kf : ¬ y ≤ x → Rn o l m bg pc' L st h Q) : Rn o l m bg pc L (.int y :: .int x :: st) h Q := by
  obtain ⟨off, hd, rfl, ht⟩ := hd
  intro p e R s mm args below meth c H locs cells slots Z ls hC h1 h2 h3 h4 h5 h6
  exact lv_icmp_ge hC.1 hC.2.1 hd ht (fun q9 => (kt q9 p e R s mm args below meth c H locs cells slots Z ls hC h1 h2 h3 h4 h5 h6)) (fun q9 => (kf q9 p e R s mm args below meth c H locs cells slots Z ls hC h1 h2 h3 h4 h5 h6))
theorem r_icmp_gt {x y : Int32} (hd : db m pc (.if_icmp .gt) pc' tgt) (kt : y < x → Rn o l m bg tgt L st h Q) (kf : ¬ y < x → Rn o l m bg pc' L st h Q) : Rn o l m bg pc L (.int y :: .int x :: st) h Q := by
  obtain ⟨off, hd, rfl, ht⟩ := hd
  intro p e R s mm args below meth c H locs cells slots Z ls hC h1 h2 h3 h4 h5 h6
  exact lv_icmp_gt hC.1 hC.2.1 hd ht (fun q9 => (kt q9 p e R s mm args below meth c H locs cells slots Z ls hC h1 h2 h3 h4 h5 h6)) (fun q9 => (kf q9 p e R s mm args below meth c H locs cells slots Z ls hC h1 h2 h3 h4 h5 h6))
theorem r_icmp_le {x y : Int32} (hd : db m pc (.if_icmp .le) pc' tgt) (kt : x ≤ y → Rn o l m bg tgt L st h Q) (kf : ¬ x ≤ y → Rn o l m bg pc' L st h Q) : Rn o l m bg pc L (.int y :: .int x :: st) h Q := by
  obtain ⟨off, hd, rfl, ht⟩ := hd
  intro p e R s mm args below meth c H locs cells slots Z ls hC h1 h2 h3 h4 h5 h6
  exact lv_icmp_le hC.1 hC.2.1 hd ht (fun q9 => (kt q9 p e R s mm args below meth c H locs cells slots Z ls hC h1 h2 h3 h4 h5 h6)) (fun q9 => (kf q9 p e R s mm args below meth c H locs cells slots Z ls hC h1 h2 h3 h4 h5 h6))
theorem r_goto (hd : db m pc .goto pc' tgt) (k : Rn o l m bg tgt L st h Q) : Rn o l m bg pc L st h Q := by
  obtain ⟨off, hd, rfl, ht⟩ := hd
  intro p e R s mm args below meth c H locs cells slots Z ls hC h1 h2 h3 h4 h5 h6
  exact lv_goto hC.1 hC.2.1 hd ht (k p e R s mm args below meth c H locs cells slots Z ls hC h1 h2 h3 h4 h5 h6)
theorem r_tsIn {x : Int32} {dflt lo hi off : Int} {offs : Array Int} {len : Nat} (hd : decode (mbt m) pc = .ok (.tableswitch dflt lo hi offs, len)) (a1 : ¬ x.toInt < lo) (a2 : ¬ hi < x.toInt) (ho : offs[(x.toInt - lo).toNat]? = some off) (ht : (pc : Int) + off = (tgt : Int)) (k : Rn o l m bg tgt L st h Q) : Rn o l m bg pc L (.int x :: st) h Q := by
  intro p e R s mm args below meth c H locs cells slots Z ls hC h1 h2 h3 h4 h5 h6
  exact lv_tableIn hC.1 hC.2.1 hd a1 a2 ho ht (k p e R s mm args below meth c H locs cells slots Z ls hC h1 h2 h3 h4 h5 h6)
theorem r_tsOut {x : Int32} {dflt lo hi : Int} {offs : Array Int} {len : Nat} (hd : decode (mbt m) pc = .ok (.tableswitch dflt lo hi offs, len)) (a1 : x.toInt < lo ∨ hi < x.toInt) (ht : (pc : Int) + dflt = (tgt : Int)) (k : Rn o l m bg tgt L st h Q) : Rn o l m bg pc L (.int x :: st) h Q := by
  intro p e R s mm args below meth c H locs cells slots Z ls hC h1 h2 h3 h4 h5 h6
  exact lv_tableOut hC.1 hC.2.1 hd a1 ht (k p e R s mm args below meth c H locs cells slots Z ls hC h1 h2 h3 h4 h5 h6)
theorem r_ireturn {x : Int32} (hd : decode (mbt m) pc = .ok (.ireturn, 1)) (hr : mrt m = some .int) (hq : Q (some (.int x)) h) : Rn o l m bg pc L [.int x] h Q := by
  intro p e R s mm args below meth c H locs cells slots Z ls hC h1 h2 h3 h4 h5 h6
  exact h6 (some (.int x)) h H locs cells slots pc ls hq h3 h4 (by omega) (by omega) (Or.inl ⟨x, .int, rfl, hr, rfl, hd⟩)
theorem r_zreturn {x : Int32} (hd : decode (mbt m) pc = .ok (.ireturn, 1)) (hr : mrt m = some .boolean) (hx : narrow .boolean (.int x) = .int x) (hq : Q (some (.int x)) h) : Rn o l m bg pc L [.int x] h Q := by
  intro p e R s mm args below meth c H locs cells slots Z ls hC h1 h2 h3 h4 h5 h6
  exact h6 (some (.int x)) h H locs cells slots pc ls hq h3 h4 (by omega) (by omega) (Or.inl ⟨x, .boolean, rfl, hr, hx, hd⟩)
theorem r_lreturn {x : Int64} (hd : decode (mbt m) pc = .ok (.lreturn, 1)) (hr : mrt m = some .long) (hq : Q (some (.long x)) h) : Rn o l m bg pc L [.long x] h Q := by
  intro p e R s mm args below meth c H locs cells slots Z ls hC h1 h2 h3 h4 h5 h6
  exact h6 (some (.long x)) h H locs cells slots pc ls hq h3 h4 (by omega) (by omega) (Or.inr (Or.inl ⟨x, rfl, hr, hd⟩))
theorem r_return (hd : decode (mbt m) pc = .ok (.return_, 1)) (hr : mrt m = none) (hq : Q none h) : Rn o l m bg pc L [] h Q := by
  intro p e R s mm args below meth c H locs cells slots Z ls hC h1 h2 h3 h4 h5 h6
  exact h6 none h H locs cells slots pc ls hq h3 h4 (by omega) (by omega) (Or.inr (Or.inr ⟨rfl, hr, hd⟩))
/-- less is known of the locals -/
theorem r_weak (hw : ∀ (i : Nat) (v : Value), L'[i]? = some (some v) → L[i]? = some (some v)) (k : Rn o l m bg pc L' st h Q) : Rn o l m bg pc L st h Q := by
  intro p e R s mm args below meth c H locs cells slots Z ls hC h1 h2 h3 h4 h5 h6
  exact k p e R s mm args below meth c H locs cells slots Z ls hC h1 h2 h3 h4 ⟨h5.1, h5.2.1, fun i v hi => h5.2.2 i v (hw i v hi)⟩ h6
theorem r_post {Q' : Option Value → AH → Prop} (hq : ∀ v h, Q' v h → Q v h) (k : Rn o l m bg pc L st h Q') : Rn o l m bg pc L st h Q := by
  intro p e R s mm args below meth c H locs cells slots Z ls hC h1 h2 h3 h4 h5 h6
  exact k p e R s mm args below meth c H locs cells slots Z ls hC h1 h2 h3 h4 h5 (fun v h' H' locs' cells' slots' pc' ls' q => h6 v h' H' locs' cells' slots' pc' ls' (hq v h' q))
theorem r_budget {bg' : Nat × Nat} (a1 : bg'.1 ≤ bg.1) (a2 : bg'.2 ≤ bg.2) (k : Rn o l m bg' pc L st h Q) : Rn o l m bg pc L st h Q := by
  intro p e R s mm args below meth c H locs cells slots Z ls hC h1 h2 h3 h4 h5 h6
  exact k p e R s mm args below meth c H locs cells slots Z ls hC (by omega) (by omega) h3 h4 h5 h6
end RU
end
section
theorem okc_arr {o : OM} {a : Nat} {t : Nat × Nat} {r : Nat → Option Nat} {i : Nat → Int32} {H : Heap} (ht : t.1 < 10) : okc o a t r i H ↔ H[ob0 o + a]? = some (arrV (odA o t.1) t.2 (cv o t.1 r i)) := by
  unfold okc
  rw [if_pos ht]
theorem okc_obj {o : OM} {a ci : Nat} {t : Nat × Nat} {r : Nat → Option Nat} {i : Nat → Int32} {H : Heap} (ht : t.1 = 10 + ci) : okc o a t r i H ↔ t_OB (ob0 o + a) (odC o ci) (nfl ci) (odI o ci) H (cv o (10 + ci) r i) := by
  unfold okc
  rw [if_neg (by omega), ht, Nat.add_sub_cancel_left]
theorem okc.kept {o : OM} {a : Nat} {t : Nat × Nat} {r : Nat → Option Nat} {i : Nat → Int32} {H H1 : Heap} (h : okc o a t r i H) (hq : H1[ob0 o + a]? = H[ob0 o + a]?) : okc o a t r i H1 := by
  unfold okc at h ⊢
  split at h
  next hc => rw [if_pos hc, hq]; exact h
  next hc => rw [if_neg hc]; exact h.kept hq
theorem Rp.setI {o : OM} {h : AH} {H H1 : Heap} {a k : Nat} {v : Int32} (h3 : Rp o h H) (ht : (hT h a).1 ≠ 0) (hn : okc o a (hT h a) (hR h a) (fun j => if j = k then v else hI h a j) H1) (hz : H1.size = H.size) (ho : ∀ q : Nat, q ≠ ob0 o + a → H1[q]? = H[q]?) : Rp o (sI h a k v) H1 := by
  refine ⟨hz.trans h3.1, fun q hq => (ho q (by omega)).trans (h3.2.1 q hq), fun b hb => ?_⟩
  obtain ⟨g1, g2, g3⟩ := h3.2.2 b hb
  refine ⟨g1, g2, ?_⟩
  by_cases e : b = a
  · subst e
    show okc o b (hT h b) (hR h b) (upm (hI h) b k v b) H1
    rw [upm_eq]
    exact hn
  · show okc o b (hT h b) (hR h b) (upm (hI h) a k v b) H1
    rw [upm_ne _ _ _ e]
    exact g3.kept (ho _ (by omega))
theorem Rp.setR {o : OM} {h : AH} {H H1 : Heap} {a k : Nat} {v : Option Nat} (h3 : Rp o h H) (ht : (hT h a).1 ≠ 0) (hn : okc o a (hT h a) (fun j => if j = k then v else hR h a j) (hI h a) H1) (hz : H1.size = H.size) (ho : ∀ q : Nat, q ≠ ob0 o + a → H1[q]? = H[q]?) : Rp o (sR h a k v) H1 := by
  refine ⟨hz.trans h3.1, fun q hq => (ho q (by omega)).trans (h3.2.1 q hq), fun b hb => ?_⟩
  obtain ⟨g1, g2, g3⟩ := h3.2.2 b hb
  refine ⟨g1, g2, ?_⟩
  by_cases e : b = a
  · subst e
    show okc o b (hT h b) (upm (hR h) b k v b) (hI h b) H1
    rw [upm_eq]
    exact hn
  · show okc o b (hT h b) (upm (hR h) a k v b) (hI h b) H1
    rw [upm_ne _ _ _ e]
    exact g3.kept (ho _ (by omega))
/-- a row of ints becomes another one -/
def sW (h : AH) (a : Nat) (f : Nat → Int32) : AH := (h.1, h.2.1, h.2.2.1, fun b => if b = a then f else h.2.2.2 b)
theorem Rp.setW {o : OM} {h : AH} {H H1 : Heap} {a : Nat} {f : Nat → Int32} (h3 : Rp o h H) (hn : okc o a (hT h a) (hR h a) f H1) (hz : H1.size = H.size) (ho : ∀ q : Nat, q ≠ ob0 o + a → H1[q]? = H[q]?) : Rp o (sW h a f) H1 := by
  refine ⟨hz.trans h3.1, fun q hq => (ho q (by omega)).trans (h3.2.1 q hq), fun b hb => ?_⟩
  obtain ⟨g1, g2, g3⟩ := h3.2.2 b hb
  refine ⟨g1, g2, ?_⟩
  by_cases e : b = a
  · subst e
    show okc o b (hT h b) (hR h b) (if b = b then f else hI h b) H1
    rw [if_pos rfl]
    exact hn
  · show okc o b (hT h b) (hR h b) (if b = a then f else hI h b) H1
    rw [if_neg e]
    exact g3.kept (ho _ (by omega))
def hnew (h : AH) (t : Nat × Nat) : AH := (hN h + 1, fun a => if a = hN h then t else hT h a, fun a => if a = hN h then (fun _ => none) else hR h a, fun a => if a = hN h then (fun _ => 0) else hI h a)
theorem Rp.new {o : OM} {h : AH} {H H1 : Heap} {t : Nat × Nat} (h3 : Rp o h H) (ht : t.1 < 19) (hn : okc o (hN h) t (fun _ => none) (fun _ => 0) H1) (hz : H1.size = H.size + 1) (ho : ∀ q : Nat, q < H.size → H1[q]? = H[q]?) : Rp o (hnew h t) H1 := by
  have hs := h3.1
  refine ⟨by rw [hz, hs]; show ob0 o + hN h + 1 = ob0 o + (hN h + 1); omega, fun q hq => (ho q (by omega)).trans (h3.2.1 q hq), fun b hb => ?_⟩
  by_cases e : b = hN h
  · subst e
    refine ⟨?_, Nat.lt_succ_self _, ?_⟩
    · show (if hN h = hN h then t else hT h (hN h)).1 < 19
      rw [if_pos rfl]; exact ht
    · show okc o (hN h) (if hN h = hN h then t else hT h (hN h)) (if hN h = hN h then (fun _ => none) else hR h (hN h)) (if hN h = hN h then (fun _ => 0) else hI h (hN h)) H1
      rw [if_pos rfl, if_pos rfl, if_pos rfl]
      exact hn
  · have hb' : (hT h b).1 ≠ 0 := by
      have : (if b = hN h then t else hT h b).1 ≠ 0 := hb
      rwa [if_neg e] at this
    obtain ⟨g1, g2, g3⟩ := h3.2.2 b hb'
    refine ⟨?_, Nat.lt_succ_of_lt g2, ?_⟩
    · show (if b = hN h then t else hT h b).1 < 19
      rw [if_neg e]; exact g1
    · show okc o b (if b = hN h then t else hT h b) (if b = hN h then (fun _ => none) else hR h b) (if b = hN h then (fun _ => 0) else hI h b) H1
      rw [if_neg e, if_neg e, if_neg e]
      exact g3.kept (ho _ (by omega))
theorem cv_upI {o : OM} {t k : Nat} {r : Nat → Option Nat} {i : Nat → Int32} (x : Int32) (h : isR t k = false) (h4 : t ≠ 4) : updV (cv o t r i) k (.int x) = cv o t r (fun q => if q = k then x else i q) := by
  funext j
  unfold updV cv
  by_cases e : j = k
  · subst e
    simp [h, h4]
  · simp [e]
theorem cv_upL {o : OM} {k : Nat} {r : Nat → Option Nat} {i : Nat → Int32} (x : Int32) : updV (cv o 4 r i) k (.long x.toInt64) = cv o 4 r (fun q => if q = k then x else i q) := by
  funext j
  unfold updV cv
  by_cases e : j = k
  · subst e
    simp [isR]
  · simp [e]
theorem cv_upR {o : OM} {t k : Nat} {r : Nat → Option Nat} {i : Nat → Int32} (v : Option Nat) (h : isR t k = true) : updV (cv o t r i) k (fr o v) = cv o t (fun q => if q = k then v else r q) i := by
  funext j
  unfold updV cv
  by_cases e : j = k
  · subst e
    simp [h]
  · simp [e]
theorem arr_of {o : OM} {s : State} (hK : Kx o s) {t : Nat} (h1 : 1 ≤ t) (h2 : t ≤ 7) : ArrOfT s (odA o t) (aty t) ∧ va_RA s (odA o t) (aty t) := by
  refine hK.1.2 (t - 1) (odA o t, aty t) ?_
  unfold oty
  rw [List.getElem?_map, List.getElem?_range (by omega)]
  simp [show t - 1 + 1 = t by omega]
def FLk (own : String) (idx ci k : Nat) : Prop := ci < 9 ∧ k < nfl ci ∧ Cond.fieldLink own idx (fT ci k).1 (fT ci k).2.1 (fT ci k).2.2.1 ∈ gt_ws
section RH
variable {o : OM} {l : Launch} {m : MD} {bg : Nat × Nat} {pc pc' tgt : Nat} {L L' : List (Option Value)} {st : List Value} {h : AH} {Q : Option Value → AH → Prop}
theorem r_iald {a n j : Nat} {i : Int32} (hd : dd m pc .iaload 1 pc') (ha : hT h a = (1, n)) (hi : i = nI j) (hj : j < n) (hn : n < 2 ^ 31) (k : Rn o l m bg pc' L (.int (hI h a j) :: st) h Q) : Rn o l m bg pc L (.int i :: .ref a :: st) h Q := by
  obtain ⟨hd, rfl⟩ := hd
  subst hi
  intro p e R s mm args below meth c H locs cells slots Z ls hC h1 h2 h3 h4 h5 h6
  have hc := (h3.2.2 a (by rw [ha]; simp)).2.2
  rw [okc_arr (by rw [ha]; simp), ha] at hc
  have hcl : (nI j).toNatClampNeg = j := nI_clamp (by omega)
  refine W.iald (v := .int (hI h a j)) hC.1 hC.2.1 hc ((arr_of hC.2.2.2.2.2.2.1 (t := 1) (by decide) (by decide)).1 n _) (fun q => by cases q) ?_ ?_ rfl rfl hd (k p e R s mm args below meth c H locs cells slots Z ls hC h1 h2 h3 h4 h5 h6)
  · rw [arrV_size]; exact vp_in_nI hj hn
  · rw [hcl, arrV_read _ _ hj]; simp [cv, isR]
theorem r_bald {a n j : Nat} {i : Int32} (hd : dd m pc .baload 1 pc') (ha : hT h a = (2, n)) (hi : i = nI j) (hj : j < n) (hn : n < 2 ^ 31) (k : Rn o l m bg pc' L (.int (hI h a j) :: st) h Q) : Rn o l m bg pc L (.int i :: .ref a :: st) h Q := by
  obtain ⟨hd, rfl⟩ := hd
  subst hi
  intro p e R s mm args below meth c H locs cells slots Z ls hC h1 h2 h3 h4 h5 h6
  have hc := (h3.2.2 a (by rw [ha]; simp)).2.2
  rw [okc_arr (by rw [ha]; simp), ha] at hc
  have hcl : (nI j).toNatClampNeg = j := nI_clamp (by omega)
  refine W.bald (v := .int (hI h a j)) hC.1 hC.2.1 hc ((arr_of hC.2.2.2.2.2.2.1 (t := 2) (by decide) (by decide)).1 n _) (fun q => by cases q) ?_ ?_ rfl rfl hd (k p e R s mm args below meth c H locs cells slots Z ls hC h1 h2 h3 h4 h5 h6)
  · rw [arrV_size]; exact vp_in_nI hj hn
  · rw [hcl, arrV_read _ _ hj]; simp [cv, isR]
theorem r_zald {a n j : Nat} {i : Int32} (hd : dd m pc .baload 1 pc') (ha : hT h a = (3, n)) (hi : i = nI j) (hj : j < n) (hn : n < 2 ^ 31) (k : Rn o l m bg pc' L (.int (hI h a j) :: st) h Q) : Rn o l m bg pc L (.int i :: .ref a :: st) h Q := by
  obtain ⟨hd, rfl⟩ := hd
  subst hi
  intro p e R s mm args below meth c H locs cells slots Z ls hC h1 h2 h3 h4 h5 h6
  have hc := (h3.2.2 a (by rw [ha]; simp)).2.2
  rw [okc_arr (by rw [ha]; simp), ha] at hc
  have hcl : (nI j).toNatClampNeg = j := nI_clamp (by omega)
  refine W.zald (v := .int (hI h a j)) hC.1 hC.2.1 hc ((arr_of hC.2.2.2.2.2.2.1 (t := 3) (by decide) (by decide)).1 n _) (fun q => by cases q) ?_ ?_ rfl rfl hd (k p e R s mm args below meth c H locs cells slots Z ls hC h1 h2 h3 h4 h5 h6)
  · rw [arrV_size]; exact vp_in_nI hj hn
  · rw [hcl, arrV_read _ _ hj]; simp [cv, isR]
theorem r_lald {a n j : Nat} {i : Int32} (hd : dd m pc .laload 1 pc') (ha : hT h a = (4, n)) (hi : i = nI j) (hj : j < n) (hn : n < 2 ^ 31) (k : Rn o l m bg pc' L (.long (hI h a j).toInt64 :: st) h Q) : Rn o l m bg pc L (.int i :: .ref a :: st) h Q := by
  obtain ⟨hd, rfl⟩ := hd
  subst hi
  intro p e R s mm args below meth c H locs cells slots Z ls hC h1 h2 h3 h4 h5 h6
  have hc := (h3.2.2 a (by rw [ha]; simp)).2.2
  rw [okc_arr (by rw [ha]; simp), ha] at hc
  have hcl : (nI j).toNatClampNeg = j := nI_clamp (by omega)
  refine W.lald (v := .long (hI h a j).toInt64) hC.1 hC.2.1 hc ((arr_of hC.2.2.2.2.2.2.1 (t := 4) (by decide) (by decide)).1 n _) (fun q => by cases q) ?_ ?_ rfl rfl hd (k p e R s mm args below meth c H locs cells slots Z ls hC h1 h2 h3 h4 h5 h6)
  · rw [arrV_size]; exact vp_in_nI hj hn
  · rw [hcl, arrV_read _ _ hj]; simp [cv, isR]
theorem r_aald {a n j t b : Nat} {i : Int32} (hd : dd m pc .aaload 1 pc') (ha : hT h a = (t, n)) (ht : t = 5 ∨ t = 6 ∨ t = 7) (hi : i = nI j) (hj : j < n) (hn : n < 2 ^ 31) (hr : hR h a j = some b) (k : Rn o l m bg pc' L (.ref b :: st) h Q) : Rn o l m bg pc L (.int i :: .ref a :: st) h Q := by
  obtain ⟨hd, rfl⟩ := hd
  subst hi
  intro p e R s mm args below meth c H locs cells slots Z ls hC h1 h2 h3 h4 h5 h6
  have hc := (h3.2.2 a (by rw [ha]; show t ≠ 0; omega)).2.2
  rw [okc_arr (by rw [ha]; show t < 10; omega), ha] at hc
  have hcl : (nI j).toNatClampNeg = j := nI_clamp (by omega)
  refine W.aald (v := .ref (ob0 o + b)) (ty := aty t) hC.1 hC.2.1 hc ((arr_of hC.2.2.2.2.2.2.1 (t := t) (by omega) (by omega)).1 n _) (by rcases ht with rfl | rfl | rfl <;> rfl) (fun q => by cases q) ?_ ?_ rfl rfl hd (k p e R s mm args below meth c H locs cells slots Z ls hC h1 h2 h3 h4 h5 h6)
  · rw [arrV_size]; exact vp_in_nI hj hn
  · rw [hcl, arrV_read _ _ hj]
    rcases ht with rfl | rfl | rfl <;> simp [cv, isR, fr, hr, va_rf]
theorem r_alen {a n t : Nat} (hd : dd m pc .arraylength 1 pc') (ha : hT h a = (t, n)) (ht : 1 ≤ t ∧ t ≤ 7) (k : Rn o l m bg pc' L (.int (nI n) :: st) h Q) : Rn o l m bg pc L (.ref a :: st) h Q := by
  obtain ⟨hd, rfl⟩ := hd
  intro p e R s mm args below meth c H locs cells slots Z ls hC h1 h2 h3 h4 h5 h6
  have hc := (h3.2.2 a (by rw [ha]; show t ≠ 0; omega)).2.2
  rw [okc_arr (by rw [ha]; show t < 10; omega), ha] at hc
  exact W.alen (n := nI n) hC.1 hC.2.1 hc ((arr_of hC.2.2.2.2.2.2.1 (t := t) (by omega) (by omega)).1 n _) (by rw [arrV_size]; rfl) rfl rfl hd (k p e R s mm args below meth c H locs cells slots Z ls hC h1 h2 h3 h4 h5 h6)
theorem lo_put {o : OM} {locs : List Loc} {a k : Nat} (h4 : ∀ q ∈ locs, ob0 o ≤ q.base) : ∀ q ∈ locs ++ [⟨ob0 o + a, k⟩], ob0 o ≤ q.base := by
  intro q hq
  rcases List.mem_append.mp hq with h | h
  · exact h4 q h
  · rw [List.mem_singleton.mp h]; exact Nat.le_add_right _ _
theorem r_iast {a n j : Nat} {i x : Int32} (hd : dd m pc .iastore 1 pc') (ha : hT h a = (1, n)) (hi : i = nI j) (hj : j < n) (hn : n < 2 ^ 31) (k : Rn o l m bg pc' L st (sI h a j x) Q) : Rn o l m bg pc L (.int x :: .int i :: .ref a :: st) h Q := by
  obtain ⟨hd, rfl⟩ := hd
  subst hi
  intro p e R s mm args below meth c H locs cells slots Z ls hC h1 h2 h3 h4 h5 h6
  have h0 : (hT h a).1 ≠ 0 := by rw [ha]; simp
  have hc := (h3.2.2 a h0).2.2
  rw [okc_arr (by rw [ha]; simp), ha] at hc
  have hcl : (nI j).toNatClampNeg = j := nI_clamp (by omega)
  refine W.iast hC.1 hC.2.1 hc ((arr_of hC.2.2.2.2.2.2.1 (t := 1) (by decide) (by decide)).1 n _) (fun q => by cases q) (by rw [arrV_size]; exact vp_in_nI hj hn) rfl rfl hd (fun H1 e1 e2 e3 => ?_)
  rw [hcl, arrV_store, cv_upI x rfl (by simp)] at e1
  refine k p e R s mm args below meth c H1 _ cells slots Z ls hC h1 h2 (h3.setI h0 ?_ e2 e3) (lo_put h4) h5 h6
  rw [okc_arr (by rw [ha]; simp), ha]
  exact e1
theorem r_bast {a n j : Nat} {i x : Int32} (hd : dd m pc .bastore 1 pc') (ha : hT h a = (2, n)) (hi : i = nI j) (hj : j < n) (hn : n < 2 ^ 31) (k : Rn o l m bg pc' L st (sI h a j x.toInt8.toInt32) Q) : Rn o l m bg pc L (.int x :: .int i :: .ref a :: st) h Q := by
  obtain ⟨hd, rfl⟩ := hd
  subst hi
  intro p e R s mm args below meth c H locs cells slots Z ls hC h1 h2 h3 h4 h5 h6
  have h0 : (hT h a).1 ≠ 0 := by rw [ha]; simp
  have hc := (h3.2.2 a h0).2.2
  rw [okc_arr (by rw [ha]; simp), ha] at hc
  have hcl : (nI j).toNatClampNeg = j := nI_clamp (by omega)
  refine W.bast hC.1 hC.2.1 hc ((arr_of hC.2.2.2.2.2.2.1 (t := 2) (by decide) (by decide)).1 n _) (fun q => by cases q) (by rw [arrV_size]; exact vp_in_nI hj hn) rfl rfl hd (fun H1 e1 e2 e3 => ?_)
  rw [hcl, narrow_byte, arrV_store, cv_upI _ rfl (by simp)] at e1
  refine k p e R s mm args below meth c H1 _ cells slots Z ls hC h1 h2 (h3.setI h0 ?_ e2 e3) (lo_put h4) h5 h6
  rw [okc_arr (by rw [ha]; simp), ha]
  exact e1
theorem r_zast {a n j : Nat} {i x : Int32} (hd : dd m pc .bastore 1 pc') (ha : hT h a = (3, n)) (hi : i = nI j) (hj : j < n) (hn : n < 2 ^ 31) (hx : narrow .boolean (.int x) = .int x) (k : Rn o l m bg pc' L st (sI h a j x) Q) : Rn o l m bg pc L (.int x :: .int i :: .ref a :: st) h Q := by
  obtain ⟨hd, rfl⟩ := hd
  subst hi
  intro p e R s mm args below meth c H locs cells slots Z ls hC h1 h2 h3 h4 h5 h6
  have h0 : (hT h a).1 ≠ 0 := by rw [ha]; simp
  have hc := (h3.2.2 a h0).2.2
  rw [okc_arr (by rw [ha]; simp), ha] at hc
  have hcl : (nI j).toNatClampNeg = j := nI_clamp (by omega)
  refine W.zast hC.1 hC.2.1 hc ((arr_of hC.2.2.2.2.2.2.1 (t := 3) (by decide) (by decide)).1 n _) (fun q => by cases q) (by rw [arrV_size]; exact vp_in_nI hj hn) rfl rfl hd (fun H1 e1 e2 e3 => ?_)
  rw [hcl, hx, arrV_store, cv_upI _ rfl (by simp)] at e1
  refine k p e R s mm args below meth c H1 _ cells slots Z ls hC h1 h2 (h3.setI h0 ?_ e2 e3) (lo_put h4) h5 h6
  rw [okc_arr (by rw [ha]; simp), ha]
  exact e1
theorem r_last {a n j : Nat} {i x : Int32} {y : Int64} (hd : dd m pc .lastore 1 pc') (ha : hT h a = (4, n)) (hi : i = nI j) (hj : j < n) (hn : n < 2 ^ 31) (hy : y = x.toInt64) (k : Rn o l m bg pc' L st (sI h a j x) Q) : Rn o l m bg pc L (.long y :: .int i :: .ref a :: st) h Q := by
  obtain ⟨hd, rfl⟩ := hd
  subst hi
  subst hy
  intro p e R s mm args below meth c H locs cells slots Z ls hC h1 h2 h3 h4 h5 h6
  have h0 : (hT h a).1 ≠ 0 := by rw [ha]; simp
  have hc := (h3.2.2 a h0).2.2
  rw [okc_arr (by rw [ha]; simp), ha] at hc
  have hcl : (nI j).toNatClampNeg = j := nI_clamp (by omega)
  refine W.last hC.1 hC.2.1 hc ((arr_of hC.2.2.2.2.2.2.1 (t := 4) (by decide) (by decide)).1 n _) (fun q => by cases q) (by rw [arrV_size]; exact vp_in_nI hj hn) rfl rfl hd (fun H1 e1 e2 e3 => ?_)
  rw [hcl, arrV_store, cv_upL] at e1
  refine k p e R s mm args below meth c H1 _ cells slots Z ls hC h1 h2 (h3.setI h0 ?_ e2 e3) (lo_put h4) h5 h6
  rw [okc_arr (by rw [ha]; simp), ha]
  exact e1
end RH
end
section
section RF
variable {o : OM} {l : Launch} {m : MD} {bg : Nat × Nat} {pc pc' tgt : Nat} {L L' : List (Option Value)} {st : List Value} {h : AH} {Q : Option Value → AH → Prop}
theorem Rp.obj {H : Heap} {a ci : Nat} (h3 : Rp o h H) (ha : (hT h a).1 = 10 + ci) : t_OB (ob0 o + a) (odC o ci) (nfl ci) (odI o ci) H (cv o (10 + ci) (hR h a) (hI h a)) := (okc_obj ha).mp (h3.2.2 a (by omega)).2.2
theorem r_geti {a idx ci k : Nat} (hd : dd m pc (.getfield idx) 3 pc') (hf : FLk (mcls m) idx ci k) (hr : isR (10 + ci) k = false) (ha : (hT h a).1 = 10 + ci) (kk : Rn o l m bg pc' L (.int (hI h a k) :: st) h Q) : Rn o l m bg pc L (.ref a :: st) h Q := by
  obtain ⟨hd, rfl⟩ := hd
  obtain ⟨f1, f2, f3⟩ := hf
  intro p e R s mm args below meth c H locs cells slots Z ls hC h1 h2 h3 h4 h5 h6
  obtain ⟨cell, q1, q2, q3, q4⟩ := h3.obj ha
  have hts := hC.2.2.2.2.2.1
  obtain ⟨hS, hfc, kC, hkC, hkind⟩ := hC.2.2.2.2.2.2.1.1.1 ci _ (fc_at ci f1)
  obtain ⟨cf, kf, fi, f, hi, hsl⟩ := hS k f2
  refine W.getf hC.1 hC.2.1 hC.2.2.2.2.1 (hts _ f3) hi (u_facts hfc hkC (u_lays hts (fc_ws ci f1) f2) hi).1 q1 (by rw [q3]; exact fun h => by cases h) (v := .int (hI h a k)) ?_ rfl rfl hd (kk p e R s mm args below meth c H locs cells slots Z ls hC h1 h2 h3 h4 h5 h6)
  rw [hsl]
  refine (q4 k f2).trans ?_
  rw [cv, if_neg (by rw [hr]; decide), if_neg (by omega)]
theorem r_getr {a idx ci k b : Nat} (hd : dd m pc (.getfield idx) 3 pc') (hf : FLk (mcls m) idx ci k) (hr : isR (10 + ci) k = true) (ha : (hT h a).1 = 10 + ci) (hb : hR h a k = some b) (kk : Rn o l m bg pc' L (.ref b :: st) h Q) : Rn o l m bg pc L (.ref a :: st) h Q := by
  obtain ⟨hd, rfl⟩ := hd
  obtain ⟨f1, f2, f3⟩ := hf
  intro p e R s mm args below meth c H locs cells slots Z ls hC h1 h2 h3 h4 h5 h6
  obtain ⟨cell, q1, q2, q3, q4⟩ := h3.obj ha
  have hts := hC.2.2.2.2.2.1
  obtain ⟨hS, hfc, kC, hkC, hkind⟩ := hC.2.2.2.2.2.2.1.1.1 ci _ (fc_at ci f1)
  obtain ⟨cf, kf, fi, f, hi, hsl⟩ := hS k f2
  refine W.getf hC.1 hC.2.1 hC.2.2.2.2.1 (hts _ f3) hi (u_facts hfc hkC (u_lays hts (fc_ws ci f1) f2) hi).1 q1 (by rw [q3]; exact fun h => by cases h) (v := .ref (ob0 o + b)) ?_ rfl rfl hd (kk p e R s mm args below meth c H locs cells slots Z ls hC h1 h2 h3 h4 h5 h6)
  rw [hsl]
  refine (q4 k f2).trans ?_
  rw [cv, if_pos hr, fr, hb]
  rfl
theorem r_puti {a idx ci k : Nat} {x : Int32} (hd : dd m pc (.putfield idx) 3 pc') (hf : FLk (mcls m) idx ci k) (hr : isR (10 + ci) k = false) (hy : fY ci k = .int) (hfin : (fT ci k).2.2.2 = false) (ha : (hT h a).1 = 10 + ci) (kk : Rn o l m bg pc' L st (sI h a k x) Q) : Rn o l m bg pc L (.int x :: .ref a :: st) h Q := by
  obtain ⟨hd, rfl⟩ := hd
  obtain ⟨f1, f2, f3⟩ := hf
  intro p e R s mm args below meth c H locs cells slots Z ls hC h1 h2 h3 h4 h5 h6
  obtain ⟨cell, q1, q2, q3, q4⟩ := h3.obj ha
  have hts := hC.2.2.2.2.2.1
  have hK := hC.2.2.2.2.2.2.1.1
  have hap := va_apart (own := mcls m) hts (fc_ws ci f1) (fY ci) (fc_ty ci f1) (fc_nm ci f1) hK (fc_at ci f1)
  obtain ⟨hS, hfc, kC, hkC, hkind⟩ := hK.1 ci _ (fc_at ci f1)
  obtain ⟨cf, kf, fi, f, hi, hsl⟩ := hS k f2
  have hlay := hts _ (fc_ws ci f1 _ (u_in_lay f2))
  unfold u_lay at hlay
  rw [if_neg (by rw [hfin]; decide)] at hlay
  have hst := (u_facts hfc hkC (u_lays hts (fc_ws ci f1) f2) hi).1
  have h7 := u_store (ty := .int) (v := .int x) hfc hkC hkind hlay hi ((fc_ty ci f1 k f2).trans (by rw [hy])) rfl rfl
  refine W.putK hC.1 hC.2.1 (f := f) ⟨hC.2.2.2.2.1, hts _ f3, ⟨_, _, _, hi⟩, hst⟩ (by rw [q2]; exact h7) q1 q3 (by rw [hsl]; exact k2_hasslot (q4 k f2)) rfl rfl hd fun H1 e1 e2 e3 => ?_
  rw [hsl] at e1 ⊢
  have h0 : (hT h a).1 ≠ 0 := by omega
  refine kk p e R s mm args below meth c H1 _ cells slots Z ls hC h1 h2 (h3.setI h0 ?_ e2 e3) (lo_put h4) h5 h6
  rw [okc_obj ha, ← cv_upI x hr (by omega)]
  exact ⟨_, e1, q2, q3, t_set q4 hap f2 _⟩
theorem r_putr {a idx ci k b : Nat} (hd : dd m pc (.putfield idx) 3 pc') (hf : FLk (mcls m) idx ci k) (hr : isR (10 + ci) k = true) (hy : ∀ x : Nat, narrow (fY ci k) (.ref x) = .ref x ∧ fits (fY ci k) (.ref x) = true) (hfin : (fT ci k).2.2.2 = true) (hdecl : (fT ci k).1 = mcls m) (hini : (mnam m).name = "<init>") (ha : (hT h a).1 = 10 + ci) (kk : Rn o l m bg pc' L st (sR h a k (some b)) Q) : Rn o l m bg pc L (.ref b :: .ref a :: st) h Q := by
  obtain ⟨hd, rfl⟩ := hd
  obtain ⟨f1, f2, f3⟩ := hf
  intro p e R s mm args below meth c H locs cells slots Z ls hC h1 h2 h3 h4 h5 h6
  obtain ⟨cell, q1, q2, q3, q4⟩ := h3.obj ha
  have hts := hC.2.2.2.2.2.1
  have hown := hC.2.2.2.2.1
  have hnm : meth.name = "<init>" := hC.2.2.2.2.2.2.2.2.1.trans hini
  have hK := hC.2.2.2.2.2.2.1.1
  have hap := va_apart (own := mcls m) hts (fc_ws ci f1) (fY ci) (fc_ty ci f1) (fc_nm ci f1) hK (fc_at ci f1)
  obtain ⟨hS, hfc, kC, hkC, hkind⟩ := hK.1 ci _ (fc_at ci f1)
  obtain ⟨cf, kf, fi, f, hi, hsl⟩ := hS k f2
  have hlay := hts _ (fc_ws ci f1 _ (u_in_lay f2))
  unfold u_lay at hlay
  rw [if_pos hfin] at hlay
  have hst := (u_facts hfc hkC (u_lays hts (fc_ws ci f1) f2) hi).1
  have hcf : mm.cls = cf := by
    obtain ⟨_, _, c', _, _, _, -, -, hf', -, -, -, hown2, -⟩ := Cond.laysFinal_spec hlay
    have e1 : c' = cf := by have := hi.symm.trans hf'; simp at this; exact this.1.symm
    rw [hdecl] at hown2
    rw [← e1]; exact Option.some.inj (hown.symm.trans hown2)
  have h7 := u_fits (v := .ref (ob0 o + b)) hfc hkC hkind (Or.inr hlay) hi (fc_ty ci f1 k f2) (hy _).1 (hy _).2
  refine W.putFinK hC.1 hC.2.1 hown (hts _ f3) hi hst hcf hnm (by rw [q2]; exact h7) q1 q3 (by rw [hsl]; exact k2_hasslot (q4 k f2)) rfl rfl hd fun H1 e1 e2 e3 => ?_
  rw [hsl] at e1 ⊢
  have h0 : (hT h a).1 ≠ 0 := by omega
  refine kk p e R s mm args below meth c H1 _ cells slots Z ls hC h1 h2 (h3.setR h0 ?_ e2 e3) (lo_put h4) h5 h6
  rw [okc_obj ha, ← cv_upR (some b) hr]
  exact ⟨_, e1, q2, q3, t_set q4 hap f2 _⟩
theorem fc_def : ∀ ci, ci < 9 → ∀ k, k < nfl ci → defaultValue (fY ci k) = if isR (10 + ci) k = true then .null else .int 0 := by decide +kernel
def NWk (own : String) (idx ci : Nat) : Prop := ci < 9 ∧ Cond.classLink own idx (fC ci) ∈ gt_ws ∧ Cond.instantiable (fC ci) (nfl ci) ∈ gt_ws ∧ Cond.initialized (fC ci) ∈ gt_ws
theorem r_new {idx ci : Nat} {bg' : Nat × Nat} (hd : dd m pc (.new idx) 3 pc') (hf : NWk (mcls m) idx ci) (hb1 : bg'.1 + 1 = bg.1) (hb2 : bg'.2 + nfl ci = bg.2) (kk : Rn o l m bg' pc' L (.ref (hN h) :: st) (hnew h (10 + ci, 0)) Q) : Rn o l m bg pc L st h Q := by
  obtain ⟨hd, rfl⟩ := hd
  obtain ⟨f1, f2, f3, f4⟩ := hf
  intro p e R s mm args below meth c H locs cells slots Z ls hC h1 h2 h3 h4 h5 h6
  have hts := hC.2.2.2.2.2.1
  have hKn := hC.2.2.2.2.2.2.1.1.1 ci _ (fc_at ci f1)
  refine W.newcK hC.1 hC.2.1 hC.2.2.2.2.1 (hts _ f2) (hts _ f3) (hts _ f4) rfl hd (by omega) (by omega) hKn.2.1 (h := ob0 o + hN h) h3.1 fun H1 kC hkC e1 z1 o1 => ?_
  refine kk p e R s mm args below meth c H1 locs (cells + 1) (slots + nfl ci) Z ls hC (by omega) (by omega) (h3.new (by show 10 + ci < 19; omega) ?_ (by rw [z1, h3.1]) (fun q hq => o1 q (by rw [← h3.1]; exact hq))) h4 h5 h6
  rw [okc_obj rfl]
  refine (u_born (fY ci) hts (fc_ws ci f1) hKn hkC e1 (fc_ty ci f1)).to (fun k hk => ?_)
  rw [fc_def ci f1 k hk, cv]
  split
  · rfl
  · rw [if_neg (by omega)]
theorem cv_def {t k : Nat} (h1 : 1 ≤ t) (h2 : t ≤ 7) : cv o t (fun _ => none) (fun _ => 0) k = defaultValue (aty t) := by
  rcases (show t = 1 ∨ t = 2 ∨ t = 3 ∨ t = 4 ∨ t = 5 ∨ t = 6 ∨ t = 7 by omega) with rfl | rfl | rfl | rfl | rfl | rfl | rfl <;> rfl
theorem r_newa {at9 : ArrayType} {t N : Nat} {n : Int32} {bg' : Nat × Nat} (hd : dd m pc (.newarray at9) 2 pc') (ht : aty t = newarray.typeOf at9) (ht1 : 1 ≤ t) (ht2 : t ≤ 4) (hw : Cond.arrayClass (newarray.typeOf at9) ∈ gt_ws) (hn : n = nI N) (hN0 : N ≤ 65536) (hb1 : bg'.1 + 1 = bg.1) (hb2 : bg'.2 + N = bg.2) (kk : Rn o l m bg' pc' L (.ref (hN h) :: st) (hnew h (t, N)) Q) : Rn o l m bg pc L (.int n :: st) h Q := by
  obtain ⟨hd, rfl⟩ := hd
  subst hn
  intro p e R s mm args below meth c H locs cells slots Z ls hC h1 h2 h3 h4 h5 h6
  have hts := hC.2.2.2.2.2.1
  have hcl : (nI N).toNatClampNeg = N := nI_clamp (by omega)
  refine va_newaK hC.1 hC.2.1 (hts _ hw) rfl hd rfl (nI_pos (by omega)) hcl (by
      have : componentBytes (newarray.typeOf at9) ≤ 8 := by cases at9 <;> decide
      have := Nat.mul_le_mul hN0 this
      omega) (by omega) (by omega) (h := ob0 o + hN h) h3.1 fun H1 cA e1 z1 o1 hA hf => ?_
  refine kk p e R s mm args below meth c H1 locs (cells + 1) (slots + N) Z ls hC (by omega) (by omega) (h3.new (by show t < 19; omega) ?_ (by rw [z1, h3.1]) (fun q hq => o1 q (by rw [← h3.1]; exact hq))) h4 h5 h6
  rw [okc_arr (by show t < 10; omega)]
  have hRA := (arr_of hC.2.2.2.2.2.2.1 ht1 (by omega)).2
  rw [ht] at hRA
  have hcA : odA o t = cA := by
    have h8 : s.vm.findClass ("[" ++ (newarray.typeOf at9).toString) = some (odA o t) := by cases at9 <;> exact hRA
    exact Option.some.inj (h8.symm.trans hf)
  show H1[ob0 o + hN h]? = some (arrV (odA o t) N _)
  rw [hcA, e1]
  congr 1
  congr 1
  funext k
  rw [cv_def ht1 (by omega), ht]
def ANk (own : String) (idx t : Nat) : Prop := ∃ C : String, aty t = .object C ∧ Cond.classLink own idx C ∈ gt_ws ∧ Cond.arrayOver (.object C) ∈ gt_ws
theorem r_anew {idx t N : Nat} {n : Int32} {bg' : Nat × Nat} (hd : dd m pc (.anewarray idx) 3 pc') (hf : ANk (mcls m) idx t) (ht1 : 6 ≤ t) (ht2 : t ≤ 7) (hn : n = nI N) (hN0 : N ≤ 65536) (hb1 : bg'.1 + 1 = bg.1) (hb2 : bg'.2 + N = bg.2) (kk : Rn o l m bg' pc' L (.ref (hN h) :: st) (hnew h (t, N)) Q) : Rn o l m bg pc L (.int n :: st) h Q := by
  obtain ⟨hd, rfl⟩ := hd
  obtain ⟨C, f1, f2, f3⟩ := hf
  subst hn
  intro p e R s mm args below meth c H locs cells slots Z ls hC h1 h2 h3 h4 h5 h6
  have hts := hC.2.2.2.2.2.1
  have hcl : (nI N).toNatClampNeg = N := nI_clamp (by omega)
  refine W.anew hC.1 hC.2.1 hC.2.2.2.2.1 (hts _ f2) (hts _ f3) rfl hd rfl (nI_pos (by omega)) (by rw [hcl]; omega) (by omega) (by rw [hcl]; omega) fun cA kA comp g1 g2 g3 g4 => ?_
  rw [hcl, h3.1]
  refine kk p e R s mm args below meth c _ locs (cells + 1) (slots + N) Z ls hC (by omega) (by omega) (h3.new (by show t < 19; omega) ?_ (by simp) (fun q hq => by rw [Array.getElem?_push, if_neg (Nat.ne_of_lt hq)])) h4 h5 h6
  rw [okc_arr (by show t < 10; omega)]
  obtain ⟨-, _, _, _, _, hRA⟩ := f1 ▸ (arr_of hC.2.2.2.2.2.2.1 (t := t) (by omega) (by omega)).2
  have hcA : odA o t = cA := Option.some.inj (hRA.symm.trans g1)
  show _ = some (arrV (odA o t) N _)
  rw [hcA, ← h3.1, Array.getElem?_push, if_pos rfl, arrV_new]
  congr 1
  congr 1
  funext k
  rw [cv_def (by omega) ht2, f1]
  rfl
end RF
end
section
def LKd (own : String) (idx n : Nat) (k : MD) : Prop := Cond.code (mnam k) (mbt k) (mml k) (mrt k) ∈ gt_ws ∧ Cond.initialized (mnam k).cls ∈ gt_ws ∧ Cond.methodLink own idx (mnam k) ∈ gt_ws ∧ ((mnam k).cls ≠ "java/lang/invoke/MethodHandle" ∧ (mnam k).cls ≠ "java/lang/invoke/VarHandle" ∧ (parseMethodDescriptor (mnam k).desc).map (fun d => d.parameters.length) = some n) ∧ mml k ≤ 17
theorem gt_mws {k : MD} (h : Cond.code (mnam k) (mbt k) (mml k) (mrt k) ∈ gt_ws) : GoodIn gt_ws (mws k) := by
  intro w hw
  rcases List.mem_cons.mp hw with rfl | hw
  · exact ⟨h, gt_good h⟩
  · exact ⟨hw, gt_good hw⟩
theorem cb_of {R : Room} {s : State} {args : Array Value} {own : String} {idx n : Nat} {k : MD} {bg : Nat × Nat} (hts : ∀ w ∈ gt_ws, w.before args s = true) (hk : LKd own idx n k) (hf : mdp k + 1 ≤ R.frames) (hl : 36 * (mdp k + 1) ≤ R.locals) : CallB R s args own idx (mnam k) (mbt k) (mml k) (mrt k) (mws k) (rmo k bg) bg.1 bg.2 n := by
  obtain ⟨g1, g2, g3, g4, g5⟩ := hk
  exact callB_of n hts (gt_mws g1) rfl rfl rfl (hts _ g2) (hts _ g3) g4 ⟨hf, by show 8 + (mml k + 11) + 36 * mdp k ≤ R.locals; omega⟩
theorem pc_blind (o : OM) (av : List Value) (h : AH) : FrameBlind (Pco o av h) := by
  intro a U g mk q
  exact ⟨q.1, q.2.1, Kx.moved (s := U) (U := U.calling g mk a) (State.WarmedH.refl U) q.2.2⟩
theorem pc_pre {o : OM} {s : State} {H : Heap} {h : AH} (av : List Value) (h3 : Rp o h H) (hK : Kx o s) : PreS s H (Pco o av h) (av.map (fv o)) := ⟨pc_blind o av h, fun U hU hW => ⟨rfl, by rw [hU]; exact h3, hK.moved hW⟩⟩
theorem tl_map (o : OM) (v : Option Value) (st : List Value) : (v.toList ++ st).map (fv o) = (v.map (fv o)).toList ++ st.map (fv o) := by cases v <;> rfl
theorem cat_map (o : OM) (st : List Value) : ((st.map (fv o)).map fun v => v.category).sum = (st.map fun v => v.category).sum := by
  rw [List.map_map]
  congr 1
  apply List.map_congr_left
  intro v _
  exact fv_cat o v
section RC
variable {o : OM} {l : Launch} {m k : MD} {bg : Nat × Nat} {pc pc' tgt : Nat} {L L' : List (Option Value)} {st : List Value} {h : AH} {Q Q1 : Option Value → AH → Prop}
theorem r_goes {bg' bg2 : Nat × Nat} {st0 : List Value} (hb1 : bg'.1 + bg2.1 ≤ bg.1) (hb2 : bg'.2 + bg2.2 ≤ bg.2) (kk : ∀ v h', Q1 v h' → Rn o l m bg2 (pc + 3) L (v.toList ++ st) h' Q)
    {p : Program} {e : Env} {R : Room} {s : State} {mm : MethodId} {args a9 : Array Value} {below : List Frame} {meth : Method} {c : Code} {H : Heap} {locs : List Loc} {cells slots : Nat} {Z : State → Prop} {ls : Array Slot}
    (hC : Cx o m R p s mm args meth c) (h1 : cells + bg.1 ≤ R.cells) (h2 : slots + bg.2 ≤ R.slots) (h4 : ∀ q ∈ locs, ob0 o ≤ q.base) (h5 : Lc o m L ls)
    (h6 : ∀ (v : Option Value) (h' : AH) (H' : Heap) (locs' : List Loc) (cells' slots' pc' : Nat) (ls' : Array Slot), Q v h' → Rp o h' H' → (∀ q ∈ locs', ob0 o ≤ q.base) → cells' ≤ R.cells → slots' ≤ R.slots → RetAt m pc' v →
      W p l e R s mm args below meth c H' locs' cells' slots' Z (F0 mm pc' ls' (v.toList.map (fv o))))
    (run : va_Run p l e R s mm args below meth c H locs cells slots bg'.1 bg'.2 (F0 mm pc ls st0) (st.map (fv o)) (Qco o Q1 a9) (fun q => ob0 o ≤ q)) : W p l e R s mm args below meth c H locs cells slots Z (F0 mm pc ls st0) := by
  intro T hT X
  obtain ⟨v, st₀, t, T', L2, h0, X', hL2, e1, e2, ⟨v', h', hv, hQ, hRp⟩, go⟩ := run T hT X
  cases hv
  rw [← e1] at hRp
  obtain ⟨t2, a1, b1⟩ := kk v' h' hQ p e R s mm args below meth c T'.heap (locs ++ L2) (cells + bg'.1) (slots + bg'.2) Z ls hC (by omega) (by omega) hRp (fun q hq => by
    rcases List.mem_append.mp hq with h8 | h8
    · exact h4 q h8
    · exact hL2 q h8) h5 h6 T' rfl X'
  rw [tl_map] at a1
  exact ⟨t2, go t2 a1, b1⟩
theorem r_callS {idx n : Nat} {av : List Value} {st0 : List Value} (hd : dd m pc (.invokestatic idx) 3 pc') (hk : LKd (mcls m) idx n k) (hs : Cond.static (mnam k) ∈ gt_ws) (hdp : mdp k + 1 ≤ mdp m) (hn : av.length = n) (hst : st0 = av.reverse ++ st) (hw : (st.map fun v => v.category).sum ≤ 8)
    (hc : Cl o l k (0, 0) av h Q1) (kk : ∀ v h', Q1 v h' → Rn o l m bg pc' L (v.toList ++ st) h' Q) : Rn o l m bg pc L st0 h Q := by
  obtain ⟨hd, rfl⟩ := hd
  subst hst
  intro p e R s mm args below meth c H locs cells slots Z ls hC h1 h2 h3 h4 h5 h6
  have hts := hC.2.2.2.2.2.1
  have hf := hC.2.2.2.2.2.2.2.2.2.1
  have hl := hC.2.2.2.2.2.2.2.2.2.2
  refine r_goes (bg := bg) (bg' := (0, 0)) (bg2 := bg) (by simp) (by simp) kk hC h1 h2 h4 h5 h6 (va_runS (As := av.map (fv o)) (nL := mml m) (Ts := gt_ws) (own := mcls m) (n := n) ⟨hC.1, hC.2.1, hC.2.2.2.1, hC.2.2.2.2.1, hts⟩ hc ⟨cb_of (bg := (0, 0)) hts hk (by omega) (by omega), hts _ hs⟩ (pc_pre av h3 hC.2.2.2.2.2.2.1) rfl (by rw [List.length_map]; exact hn) h5.1 ?_ ?_ hd ⟨by show cells + 0 ≤ _; omega, by show slots + 0 ≤ _; omega⟩)
  · show (av.reverse ++ st).map (fv o) = _
    rw [List.map_append, List.map_reverse]
  · exact lv_room (by rw [cat_map]; exact hw)
theorem r_callV {idx n a ci : Nat} {av : List Value} {st0 : List Value} (hd : dd m pc (.invokevirtual idx) 3 pc') (hk : LKd (mcls m) idx n k) (hs : Cond.instanceMethod (mnam k) ∈ gt_ws ∧ Cond.selects (fC ci) (mnam k) (mnam k) ∈ gt_ws ∧ ci < 9) (hdp : mdp k + 1 ≤ mdp m) (hn : av.length = n) (hst : st0 = av.reverse ++ .ref a :: st) (hw : (st.map fun v => v.category).sum ≤ 8) (ha : (hT h a).1 = 10 + ci)
    (hc : Cl o l k (0, 0) (.ref a :: av) h Q1) (kk : ∀ v h', Q1 v h' → Rn o l m bg pc' L (v.toList ++ st) h' Q) : Rn o l m bg pc L st0 h Q := by
  obtain ⟨hd, rfl⟩ := hd
  subst hst
  intro p e R s mm args below meth c H locs cells slots Z ls hC h1 h2 h3 h4 h5 h6
  have hts := hC.2.2.2.2.2.1
  have hf := hC.2.2.2.2.2.2.2.2.2.1
  have hl := hC.2.2.2.2.2.2.2.2.2.2
  obtain ⟨cell, q1, q2, q3, q4⟩ := h3.obj ha
  have hfc := (hC.2.2.2.2.2.2.1.1.1 ci _ (fc_at ci hs.2.2)).2.1
  refine r_goes (bg := bg) (bg' := (0, 0)) (bg2 := bg) (by simp) (by simp) kk hC h1 h2 h4 h5 h6 (va_runV (As := av.map (fv o)) (b := ob0 o + a) (C := fC ci) (nL := mml m) (Ts := gt_ws) (own := mcls m) (n := n) ⟨hC.1, hC.2.1, hC.2.2.2.1, hC.2.2.2.2.1, hts⟩ hc ⟨cb_of (bg := (0, 0)) hts hk (by omega) (by omega), hts _ hs.1, hts _ hs.2.1⟩ ⟨pc_blind o _ h, ⟨cell, q1, by rw [q3]; rfl, by rw [q2]; exact hfc⟩, (pc_pre (.ref a :: av) h3 hC.2.2.2.2.2.2.1).2⟩ rfl (by rw [List.length_map]; exact hn) h5.1 ?_ ?_ hd ⟨by show cells + 0 ≤ _; omega, by show slots + 0 ≤ _; omega⟩)
  · show (av.reverse ++ .ref a :: st).map (fv o) = _
    rw [List.map_append, List.map_reverse]
    rfl
  · exact lv_room (by rw [cat_map]; exact hw)
theorem r_callI {idx n a : Nat} {av : List Value} {st0 : List Value} {bg' bg2 : Nat × Nat} (hd : dd m pc (.invokespecial idx) 3 pc') (hk : LKd (mcls m) idx n k) (hs : Cond.instanceMethod (mnam k) ∈ gt_ws ∧ (mnam k).name = "<init>" ∧ mrt k = none) (hdp : mdp k + 1 ≤ mdp m) (hn : av.length = n) (hst : st0 = av.reverse ++ .ref a :: st) (hw : (st.map fun v => v.category).sum ≤ 8)
    (hb1 : bg'.1 + bg2.1 = bg.1) (hb2 : bg'.2 + bg2.2 = bg.2) (hc : Cl o l k bg' (.ref a :: av) h Q1) (kk : ∀ v h', Q1 v h' → Rn o l m bg2 pc' L (v.toList ++ st) h' Q) : Rn o l m bg pc L st0 h Q := by
  obtain ⟨hd, rfl⟩ := hd
  subst hst
  intro p e R s mm args below meth c H locs cells slots Z ls hC h1 h2 h3 h4 h5 h6
  have hts := hC.2.2.2.2.2.1
  have hf := hC.2.2.2.2.2.2.2.2.2.1
  have hl := hC.2.2.2.2.2.2.2.2.2.2
  have hcb := cb_of (R := R) (s := s) (args := args) (bg := bg') hts hk (by omega) (by omega)
  rw [hs.2.2] at hcb
  refine r_goes (bg := bg) (bg' := bg') (bg2 := bg2) (by omega) (by omega) kk hC h1 h2 h4 h5 h6 (va_runI (As := av.map (fv o)) (b := ob0 o + a) (nL := mml m) (Ts := gt_ws) (own := mcls m) (n := n) ⟨hC.1, hC.2.1, hC.2.2.2.1, hC.2.2.2.2.1, hts⟩ hc ⟨hcb, hs.2.1, hts _ hs.1⟩ (pc_pre (.ref a :: av) h3 hC.2.2.2.2.2.2.1) rfl (by rw [List.length_map]; exact hn) h5.1 ?_ ?_ hd ⟨by omega, by omega⟩)
  · show (av.reverse ++ .ref a :: st).map (fv o) = _
    rw [List.map_append, List.map_reverse]
    rfl
  · exact lv_room (by rw [cat_map]; exact hw)
theorem r_obj {idx a : Nat} (hd : dd m pc (.invokespecial idx) 3 pc') (hk : Cond.methodLink (mcls m) idx objectInit ∈ gt_ws ∧ Cond.instanceMethod objectInit ∈ gt_ws ∧ Cond.code objectInit ⟨#[0xb1]⟩ 1 none ∈ gt_ws) (hdp : 1 ≤ mdp m) (hw : (st.map fun v => v.category).sum ≤ 8) (kk : Rn o l m bg pc' L st h Q) : Rn o l m bg pc L (.ref a :: st) h Q := by
  obtain ⟨hd, rfl⟩ := hd
  intro p e R s mm args below meth c H locs cells slots Z ls hC h1 h2 h3 h4 h5 h6
  have hts := hC.2.2.2.2.2.1
  have hf := hC.2.2.2.2.2.2.2.2.2.1
  have hl := hC.2.2.2.2.2.2.2.2.2.2
  refine W.objInit hC.1 hC.2.1 hC.2.2.2.2.1 (hts _ hk.1) (hts _ hk.2.1) (hts _ hk.2.2) rfl (by rw [hC.2.2.2.1]; exact h5.1) rfl hd (by omega) ?_ (kk p e R s mm args below meth c H locs cells slots Z ls hC h1 h2 h3 h4 h5 h6)
  have h8 : 2 * (F0 mm pc ls ((Value.ref a :: st).map (fv o))).monitorRoom + ((st.map (fv o)).map fun v => v.category).sum ≤ 8 := lv_room (by rw [cat_map]; exact hw)
  omega
theorem r_aast {a b n j t ci : Nat} {i : Int32} (hd : dd m pc .aastore 1 pc') (ha : hT h a = (t, n)) (ht : t = 6 ∨ t = 7) (hci : ci < 9) (hty : aty t = .object (fC ci)) (hbt : (hT h b).1 = 10 + ci) (hi : i = nI j) (hj : j < n) (hn : n < 2 ^ 31) (kk : Rn o l m bg pc' L st (sR h a j (some b)) Q) : Rn o l m bg pc L (.ref b :: .int i :: .ref a :: st) h Q := by
  obtain ⟨hd, rfl⟩ := hd
  subst hi
  intro p e R s mm args below meth c H locs cells slots Z ls hC h1 h2 h3 h4 h5 h6
  have h0 : (hT h a).1 ≠ 0 := by rw [ha]; show t ≠ 0; omega
  have hc := (h3.2.2 a h0).2.2
  rw [okc_arr (by rw [ha]; show t < 10; omega), ha] at hc
  have hcl : (nI j).toNatClampNeg = j := nI_clamp (by omega)
  obtain ⟨cell, g1, g2, g3, -⟩ := h3.obj hbt
  have hcls := (hC.2.2.2.2.2.2.1.1.1 ci _ (fc_at ci hci)).2
  have hA := (arr_of hC.2.2.2.2.2.2.1 (t := t) (by omega) (by omega)).2
  rw [hty] at hA
  obtain ⟨kA, comp, k1, k2, k3, -⟩ := hA
  have hcomp : comp = odC o ci := Option.some.inj (k3.symm.trans hcls.1)
  subst hcomp
  obtain ⟨kC, hkC, -⟩ := id hcls.2
  refine W.aast hC.1 hC.2.1 hc (fun q h => by cases h) (fun h => by cases h) k1 k2 rfl hkC ⟨nI_pos (by omega), by rw [arrV_size, hcl]; exact hj⟩ g1 (fun q h => by rw [g3] at h; cases h) (by rw [g2]; exact hkC) (by rw [g2]; exact va_assign hcls) rfl rfl hd fun H1 e1 e2 e3 => ?_
  have hr : isR t j = true := by rcases ht with rfl | rfl <;> rfl
  rw [hcl, arrV_store, show (Value.ref (ob0 o + b)) = fr o (some b) from rfl, cv_upR (some b) hr] at e1
  refine kk p e R s mm args below meth c H1 _ cells slots Z ls hC h1 h2 (h3.setR h0 ?_ e2 e3) (lo_put h4) h5 h6
  rw [okc_arr (by rw [ha]; show t < 10; omega), ha]
  exact e1
theorem r_copy {idx a b n0 n1 sp dp n : Nat} {s9 d9 c9 : Int32} (hd : dd m pc (.invokestatic idx) 3 pc') (hk : Cond.methodLink (mcls m) idx arraycopyName ∈ gt_ws ∧ Cond.native arraycopyName ∈ gt_ws ∧ Cond.static arraycopyName ∈ gt_ws ∧ Cond.initialized "java/lang/System" ∈ gt_ws) (hdp : 1 ≤ mdp m) (ha : hT h a = (1, n0)) (hb : hT h b = (1, n1)) (hsp : s9 = nI sp) (hdp9 : d9 = nI dp) (hc9 : c9 = nI n) (hs1 : sp + n ≤ n0) (hs2 : dp + n ≤ n1) (hz : n0 < 2 ^ 31 ∧ n1 < 2 ^ 31) (hw : (st.map fun v => v.category).sum ≤ 8)
    (kk : Rn o l m bg pc' L st (sW h b (va_cpy (hI h a) (hI h b) sp dp n)) Q) : Rn o l m bg pc L (.int c9 :: .int d9 :: .ref b :: .int s9 :: .ref a :: st) h Q := by
  obtain ⟨hd, rfl⟩ := hd
  subst hsp; subst hdp9; subst hc9
  intro p e R s mm args below meth c H locs cells slots Z ls hC h1 h2 h3 h4 h5 h6
  have hts := hC.2.2.2.2.2.1
  have hf := hC.2.2.2.2.2.2.2.2.2.1
  have hl := hC.2.2.2.2.2.2.2.2.2.2
  have hK := hC.2.2.2.2.2.2.1.1
  have hcv : ∀ q : Nat, cv o 1 (hR h q) (hI h q) = fun j => .int (hI h q j) := fun q => by funext j; simp [cv, isR]
  have hca := (h3.2.2 a (by rw [ha]; simp)).2.2
  rw [okc_arr (by rw [ha]; simp), ha, hcv] at hca
  have hcb := (h3.2.2 b (by rw [hb]; simp)).2.2
  rw [okc_arr (by rw [hb]; simp), hb, hcv] at hcb
  have c1 : (nI sp).toNatClampNeg = sp := nI_clamp (by omega)
  have c2 : (nI dp).toNatClampNeg = dp := nI_clamp (by omega)
  have c3 : (nI n).toNatClampNeg = n := nI_clamp (by omega)
  intro T hT9 X
  obtain ⟨-, k0, hk0, cm0, hkk0⟩ := (arr_of hC.2.2.2.2.2.2.1 (t := 1) (by decide) (by decide)).1 n0 (fun j => .int (hI h a j))
  obtain ⟨-, k1, hk1, cm1, hkk1⟩ := (arr_of hC.2.2.2.2.2.2.1 (t := 1) (by decide) (by decide)).1 n1 (fun j => .int (hI h b j))
  obtain ⟨vm', X', step⟩ := X.arraycopy hC.1 hC.2.2.2.2.1 (hts _ hk.1) (hts _ hk.2.1) (hts _ hk.2.2.1) (hts _ hk.2.2.2) (src := ob0 o + a) (dst := ob0 o + b) (cs := arrV (odA o 1) n0 (fun j => .int (hI h a j))) (cd := arrV (odA o 1) n1 (fun j => .int (hI h b j))) (srcPos := nI sp) (destPos := nI dp) (n := nI n) (by rw [hT9]; exact hca) (by rw [hT9]; exact hcb)
    (fun _ h => by cases h) (fun _ h => by cases h) (fun h => by cases h) (fun h => by cases h) hk0 hk1 hkk0 hkk1 (by simp [refKind, aty]) (nI_pos (by omega)) (nI_pos (by omega)) (nI_pos (by omega))
    (by rw [nI_toInt (by omega), nI_toInt (by omega), arrV_size]; omega)
    (by rw [nI_toInt (by omega), nI_toInt (by omega), arrV_size]; omega)
    (fun vm₁ _ i hi => by
      have e9 : (arrV (odA o 1) n0 (fun j => .int (hI h a j))).slots.getD ((nI sp).toNatClampNeg + i) .null = .int (hI h a (sp + i)) := by
        rw [c3] at hi
        rw [c1, Array.getD_eq_getD_getElem?, arrV_read _ _ (by omega)]
        rfl
      refine ⟨?_, ?_⟩
      · rw [e9]; rfl
      · rw [e9]; exact trivial)
    (g := F0 mm pc ls (.int (nI n) :: .int (nI dp) :: .ref (ob0 o + b) :: .int (nI sp) :: .ref (ob0 o + a) :: st.map (fv o))) rfl (by rw [hC.2.2.2.1]; exact h5.1) (rest := st.map (fv o)) rfl (by rw [hC.2.1]; exact hd) (by omega) (by
      show 2 * 0 + _ + (nativeFrameWords "java/lang/System" "arraycopy" 5 + 11) ≤ _
      rw [cat_map, show nativeFrameWords "java/lang/System" "arraycopy" 5 = 7 from by decide +kernel]; omega)
  have e1 : copied (arrV (odA o 1) n0 (fun j => .int (hI h a j))) (arrV (odA o 1) n1 (fun j => .int (hI h b j))) (nI sp) (nI dp) (nI n) = arrV (odA o 1) n1 (fun j => .int (va_cpy (hI h a) (hI h b) (nI sp).toNatClampNeg (nI dp).toNatClampNeg (nI n).toNatClampNeg j)) :=
    va_copied (fun z : Int32 => Value.int z) (odA o 1) (odA o 1) (n0 := n0) (n1 := n1) (sp := (nI sp).toNatClampNeg) (dp := (nI dp).toNatClampNeg) (n := (nI n).toNatClampNeg) (hI h a) (hI h b) (by rw [c1, c3]; exact hs1)
  rw [c1, c2, c3] at e1
  rw [e1] at X' step
  have hlt : ob0 o + b < H.size := (Array.getElem?_eq_some_iff.mp hcb).1
  have hheap : ((T.setVm vm').setCell (ob0 o + b) (arrV (odA o 1) n1 (fun j => .int (va_cpy (hI h a) (hI h b) sp dp n j)))).heap = H.setIfInBounds (ob0 o + b) (arrV (odA o 1) n1 (fun j => .int (va_cpy (hI h a) (hI h b) sp dp n j))) := by rw [← hT9]; rfl
  obtain ⟨t, a1, b1⟩ := kk p e R s mm args below meth c (H.setIfInBounds (ob0 o + b) (arrV (odA o 1) n1 (fun j => .int (va_cpy (hI h a) (hI h b) sp dp n j)))) _ cells slots Z ls hC h1 h2 (h3.setW (by
      rw [okc_arr (by rw [hb]; simp), hb]
      have : cv o (1, n1).1 (hR h b) (va_cpy (hI h a) (hI h b) sp dp n) = fun j => .int (va_cpy (hI h a) (hI h b) sp dp n j) := by funext j; simp [cv, isR]
      rw [this]
      simp [Array.getElem?_setIfInBounds, hlt]) (by simp) (fun q hq => by simp [Array.getElem?_setIfInBounds, Ne.symm hq])) (fun q hq => by
      rcases List.mem_append.mp hq with h8 | h8
      · exact h4 q h8
      · obtain ⟨z, -, hz9⟩ := List.mem_map.mp h8
        rw [← hz9]
        exact Nat.le_add_right _ _) h5 h6 _ hheap X'
  exact ⟨t, step t a1, b1⟩
end RC
end
section
theorem tb0 {w : Cond} (h : w ∈ k2_sels lw_privs) : w ∈ lw_tbl := List.mem_append_left _ h
theorem tb1 {w : Cond} (h : w ∈ tables_1_1) : w ∈ lw_tbl := List.mem_append_right _ (show w ∈ tables_1 from (List.mem_append_left _ h))
theorem tb2 {w : Cond} (h : w ∈ tables_1_2) : w ∈ lw_tbl := List.mem_append_right _ (show w ∈ tables_1 from (List.mem_append_right _ (List.mem_append_left _ h)))
theorem tb3 {w : Cond} (h : w ∈ tables_1_3) : w ∈ lw_tbl := List.mem_append_right _ (show w ∈ tables_1 from (List.mem_append_right _ (List.mem_append_right _ (List.mem_append_left _ h))))
theorem tb4 {w : Cond} (h : w ∈ tables_1_4) : w ∈ lw_tbl := List.mem_append_right _ (show w ∈ tables_1 from (List.mem_append_right _ (List.mem_append_right _ (List.mem_append_right _ (List.mem_append_left _ h)))))
theorem tb5 {w : Cond} (h : w ∈ tables_1_5) : w ∈ lw_tbl := List.mem_append_right _ (show w ∈ tables_1 from (List.mem_append_right _ (List.mem_append_right _ (List.mem_append_right _ (List.mem_append_right _ (List.mem_append_left _ h))))))
theorem tb6 {w : Cond} (h : w ∈ tables_1_6) : w ∈ lw_tbl := List.mem_append_right _ (show w ∈ tables_1 from (List.mem_append_right _ (List.mem_append_right _ (List.mem_append_right _ (List.mem_append_right _ (List.mem_append_right _ h))))))
def m_X_init : MD := ("SeriesTables", ⟨"SeriesTables", "<init>", "()V"⟩, prog_1_method_1_code, 2, none, 4)
def m_Re_init : MD := ("SeriesTables$Reader", ⟨"SeriesTables$Reader", "<init>", "()V"⟩, prog_3_method_1_code, 1, none, 3)
def m_St_init : MD := ("SeriesTables$State", ⟨"SeriesTables$State", "<init>", "()V"⟩, prog_6_method_1_code, 2, none, 2)
def m_Ta_init : MD := ("SeriesTables$Table", ⟨"SeriesTables$Table", "<init>", "()V"⟩, prog_7_method_1_code, 1, none, 1)
def m_Tp_init : MD := ("SeriesTables$Tape", ⟨"SeriesTables$Tape", "<init>", "()V"⟩, prog_9_method_1_code, 1, none, 1)
def m_Hi_init : MD := ("SeriesTables$History", ⟨"SeriesTables$History", "<init>", "()V"⟩, prog_2_method_1_code, 2, none, 3)
def m_Sb_init : MD := ("SeriesTables$SeriesBench", ⟨"SeriesTables$SeriesBench", "<init>", "()V"⟩, prog_5_method_1_code, 1, none, 1)
def m_Tb_init : MD := ("SeriesTables$TableBench", ⟨"SeriesTables$TableBench", "<init>", "()V"⟩, prog_8_method_1_code, 1, none, 2)
def m_X_feed : MD := ("SeriesTables", ⟨"SeriesTables", "feed", "(IIIII)I"⟩, prog_1_method_2_code, 6, (some .int), 1)
def m_Tp_addFourBytes : MD := ("SeriesTables$Tape", ⟨"SeriesTables$Tape", "addFourBytes", "(I)V"⟩, prog_9_method_2_code, 3, none, 0)
def m_X_end : MD := ("SeriesTables", ⟨"SeriesTables", "end", "(I)Z"⟩, prog_1_method_3_code, 2, (some .boolean), 0)
def m_X_text : MD := ("SeriesTables", ⟨"SeriesTables", "text", "()I"⟩, prog_1_method_4_code, 2, (some .int), 11)
def m_Re_readText : MD := ("SeriesTables$Reader", ⟨"SeriesTables$Reader", "readText", "()Z"⟩, prog_3_method_2_code, 1, (some .boolean), 10)
def m_St_becomeAsAtFirst : MD := ("SeriesTables$State", ⟨"SeriesTables$State", "becomeAsAtFirst", "()V"⟩, prog_6_method_2_code, 2, none, 3)
def m_Ar_fill : MD := ("java/util/Arrays", ⟨"java/util/Arrays", "fill", "([II)V"⟩, prog_25_method_103_code, 4, none, 0)
def m_Ta_becomeOne : MD := ("SeriesTables$Table", ⟨"SeriesTables$Table", "becomeOne", "()V"⟩, prog_7_method_2_code, 1, none, 2)
def m_Rw_becomeNumber : MD := ("SeriesTables$Rows", ⟨"SeriesTables$Rows", "becomeNumber", "([II)V"⟩, prog_4_method_5_code, 2, none, 1)
def m_Re_step : MD := ("SeriesTables$Reader", ⟨"SeriesTables$Reader", "step", "()V"⟩, prog_3_method_10_code, 1, none, 7)
def m_Re_isBlank : MD := ("SeriesTables$Reader", ⟨"SeriesTables$Reader", "isBlank", "(B)Z"⟩, prog_3_method_13_code, 1, (some .boolean), 0)
def m_Re_readWordOrNumber : MD := ("SeriesTables$Reader", ⟨"SeriesTables$Reader", "readWordOrNumber", "()V"⟩, prog_3_method_11_code, 4, none, 6)
def m_Re_isDigit : MD := ("SeriesTables$Reader", ⟨"SeriesTables$Reader", "isDigit", "(B)Z"⟩, prog_3_method_14_code, 1, (some .boolean), 0)
def m_Re_isLetter : MD := ("SeriesTables$Reader", ⟨"SeriesTables$Reader", "isLetter", "(B)Z"⟩, prog_3_method_15_code, 1, (some .boolean), 0)
def m_Re_isWord : MD := ("SeriesTables$Reader", ⟨"SeriesTables$Reader", "isWord", "(Ljava/lang/String;)Z"⟩, prog_3_method_12_code, 3, (some .boolean), 5)
def m_Sg_length : MD := ("java/lang/String", ⟨"java/lang/String", "length", "()I"⟩, prog_18_method_54_code, 1, (some .int), 1)
def m_Sg_coder : MD := ("java/lang/String", ⟨"java/lang/String", "coder", "()B"⟩, prog_18_method_152_code, 1, (some .byte), 0)
def m_Sg_charAt : MD := ("java/lang/String", ⟨"java/lang/String", "charAt", "(I)C"⟩, prog_18_method_56_code, 2, (some .char), 4)
def m_Sg_isLatin1 : MD := ("java/lang/String", ⟨"java/lang/String", "isLatin1", "()Z"⟩, prog_18_method_154_code, 1, (some .boolean), 0)
def m_Sl_charAt : MD := ("java/lang/StringLatin1", ⟨"java/lang/StringLatin1", "charAt", "([BI)C"⟩, prog_19_method_2_code, 2, (some .char), 2)
def m_Sg_checkIndex : MD := ("java/lang/String", ⟨"java/lang/String", "checkIndex", "(II)V"⟩, prog_18_method_155_code, 2, none, 1)
def m_Pr_checkIndex : MD := ("jdk/internal/util/Preconditions", ⟨"jdk/internal/util/Preconditions", "checkIndex", "(IILjava/util/function/BiFunction;)I"⟩, prog_27_method_11_code, 3, (some .int), 0)
def m_Re_readSizeLine : MD := ("SeriesTables$Reader", ⟨"SeriesTables$Reader", "readSizeLine", "()Z"⟩, prog_3_method_3_code, 1, (some .boolean), 9)
def m_Re_refuse : MD := ("SeriesTables$Reader", ⟨"SeriesTables$Reader", "refuse", "(I)Z"⟩, prog_3_method_9_code, 2, (some .boolean), 0)
def m_Re_readSemicolon : MD := ("SeriesTables$Reader", ⟨"SeriesTables$Reader", "readSemicolon", "()Z"⟩, prog_3_method_8_code, 1, (some .boolean), 8)
def m_Re_readSeriesLine : MD := ("SeriesTables$Reader", ⟨"SeriesTables$Reader", "readSeriesLine", "()Z"⟩, prog_3_method_4_code, 2, (some .boolean), 9)
def m_Re_readSum : MD := ("SeriesTables$Reader", ⟨"SeriesTables$Reader", "readSum", "([IZ)Z"⟩, prog_3_method_5_code, 5, (some .boolean), 8)
def m_Rw_difference : MD := ("SeriesTables$Rows", ⟨"SeriesTables$Rows", "difference", "(II)I"⟩, prog_4_method_4_code, 2, (some .int), 0)
def m_Rw_divide : MD := ("SeriesTables$Rows", ⟨"SeriesTables$Rows", "divide", "([I[II)V"⟩, prog_4_method_10_code, 8, none, 1)
def m_Rw_inverse : MD := ("SeriesTables$Rows", ⟨"SeriesTables$Rows", "inverse", "(I)I"⟩, prog_4_method_2_code, 6, (some .int), 0)
def m_Rw_product : MD := ("SeriesTables$Rows", ⟨"SeriesTables$Rows", "product", "(II)I"⟩, prog_4_method_3_code, 2, (some .int), 0)
def m_Re_readTableLine : MD := ("SeriesTables$Reader", ⟨"SeriesTables$Reader", "readTableLine", "()Z"⟩, prog_3_method_6_code, 3, (some .boolean), 9)
def m_Re_isToldSeries : MD := ("SeriesTables$Reader", ⟨"SeriesTables$Reader", "isToldSeries", "()Z"⟩, prog_3_method_7_code, 1, (some .boolean), 1)
def m_Rw_makeTable : MD := ("SeriesTables$Rows", ⟨"SeriesTables$Rows", "makeTable", "([I[I)Z"⟩, prog_4_method_17_code, 2, (some .boolean), 1)
def m_Rw_canBeReversed : MD := ("SeriesTables$Rows", ⟨"SeriesTables$Rows", "canBeReversed", "([I)Z"⟩, prog_4_method_16_code, 1, (some .boolean), 0)
def m_Ta_become : MD := ("SeriesTables$Table", ⟨"SeriesTables$Table", "become", "([I[I)V"⟩, prog_7_method_3_code, 3, none, 1)
def m_St_copyFrom : MD := ("SeriesTables$State", ⟨"SeriesTables$State", "copyFrom", "(LSeriesTables$State;)V"⟩, prog_6_method_3_code, 3, none, 3)
def m_Ta_copyFrom : MD := ("SeriesTables$Table", ⟨"SeriesTables$Table", "copyFrom", "(LSeriesTables$Table;)V"⟩, prog_7_method_4_code, 2, none, 2)
def m_Hi_forget : MD := ("SeriesTables$History", ⟨"SeriesTables$History", "forget", "()V"⟩, prog_2_method_4_code, 1, none, 0)
def m_X_fault : MD := ("SeriesTables", ⟨"SeriesTables", "fault", "()I"⟩, prog_1_method_5_code, 1, (some .int), 0)
def m_X_now : MD := ("SeriesTables", ⟨"SeriesTables", "now", "(I)I"⟩, prog_1_method_6_code, 2, (some .int), 0)
def m_X_at : MD := ("SeriesTables", ⟨"SeriesTables", "at", "(II)I"⟩, prog_1_method_7_code, 3, (some .int), 1)
def m_X_isSeries : MD := ("SeriesTables", ⟨"SeriesTables", "isSeries", "(I)Z"⟩, prog_1_method_32_code, 2, (some .boolean), 0)
def m_X_isWithinSize : MD := ("SeriesTables", ⟨"SeriesTables", "isWithinSize", "(I)Z"⟩, prog_1_method_34_code, 2, (some .boolean), 0)
def m_X_put : MD := ("SeriesTables", ⟨"SeriesTables", "put", "(III)I"⟩, prog_1_method_8_code, 4, (some .int), 5)
def m_Hi_keep : MD := ("SeriesTables$History", ⟨"SeriesTables$History", "keep", "(LSeriesTables$State;)V"⟩, prog_2_method_2_code, 2, none, 4)
def m_Ma_min : MD := ("java/lang/Math", ⟨"java/lang/Math", "min", "(II)I"⟩, prog_16_method_69_code, 2, (some .int), 0)
def m_Ma_floorMod : MD := ("java/lang/Math", ⟨"java/lang/Math", "floorMod", "(II)I"⟩, prog_16_method_50_code, 3, (some .int), 0)
def m_X_make : MD := ("SeriesTables", ⟨"SeriesTables", "make", "(IIII)I"⟩, prog_1_method_9_code, 5, (some .int), 6)
def m_Sb_combine : MD := ("SeriesTables$SeriesBench", ⟨"SeriesTables$SeriesBench", "combine", "([I[III)Z"⟩, prog_5_method_2_code, 5, (some .boolean), 3)
def m_Rw_add : MD := ("SeriesTables$Rows", ⟨"SeriesTables$Rows", "add", "([I[II)V"⟩, prog_4_method_6_code, 4, none, 0)
def m_Rw_subtract : MD := ("SeriesTables$Rows", ⟨"SeriesTables$Rows", "subtract", "([I[II)V"⟩, prog_4_method_7_code, 4, none, 1)
def m_Rw_multiply : MD := ("SeriesTables$Rows", ⟨"SeriesTables$Rows", "multiply", "([I[II)V"⟩, prog_4_method_8_code, 4, none, 1)
def m_Rw_coefficient : MD := ("SeriesTables$Rows", ⟨"SeriesTables$Rows", "coefficient", "([I[II)I"⟩, prog_4_method_9_code, 6, (some .int), 0)
def m_Rw_insert : MD := ("SeriesTables$Rows", ⟨"SeriesTables$Rows", "insert", "([I[II[I)V"⟩, prog_4_method_11_code, 5, none, 2)
def m_X_landSeries : MD := ("SeriesTables", ⟨"SeriesTables", "landSeries", "([II)I"⟩, prog_1_method_36_code, 3, (some .int), 5)
def m_X_turn : MD := ("SeriesTables", ⟨"SeriesTables", "turn", "(III)I"⟩, prog_1_method_10_code, 4, (some .int), 6)
def m_Sb_turnAbout : MD := ("SeriesTables$SeriesBench", ⟨"SeriesTables$SeriesBench", "turnAbout", "([III)Z"⟩, prog_5_method_3_code, 4, (some .boolean), 3)
def m_Rw_oneAhead : MD := ("SeriesTables$Rows", ⟨"SeriesTables$Rows", "oneAhead", "([II[I)V"⟩, prog_4_method_12_code, 4, none, 0)
def m_Sb_differentiate : MD := ("SeriesTables$SeriesBench", ⟨"SeriesTables$SeriesBench", "differentiate", "([II)V"⟩, prog_5_method_4_code, 4, none, 1)
def m_Sb_integrate : MD := ("SeriesTables$SeriesBench", ⟨"SeriesTables$SeriesBench", "integrate", "([II)V"⟩, prog_5_method_5_code, 4, none, 1)
def m_Sb_reverse : MD := ("SeriesTables$SeriesBench", ⟨"SeriesTables$SeriesBench", "reverse", "([II[I)V"⟩, prog_5_method_6_code, 5, none, 2)
def m_X_raise : MD := ("SeriesTables", ⟨"SeriesTables", "raise", "(III)I"⟩, prog_1_method_11_code, 4, (some .int), 6)
def m_Sb_raiseTo : MD := ("SeriesTables$SeriesBench", ⟨"SeriesTables$SeriesBench", "raiseTo", "([III)V"⟩, prog_5_method_7_code, 5, none, 2)
def m_X_pair : MD := ("SeriesTables", ⟨"SeriesTables", "pair", "(III)I"⟩, prog_1_method_12_code, 4, (some .int), 6)
def m_X_isTable : MD := ("SeriesTables", ⟨"SeriesTables", "isTable", "(I)Z"⟩, prog_1_method_33_code, 2, (some .boolean), 0)
def m_X_landTable : MD := ("SeriesTables", ⟨"SeriesTables", "landTable", "(I)I"⟩, prog_1_method_37_code, 2, (some .int), 5)
def m_Tb_entryOf : MD := ("SeriesTables$TableBench", ⟨"SeriesTables$TableBench", "entryOf", "(LSeriesTables$Table;III)I"⟩, prog_8_method_2_code, 6, (some .int), 2)
def m_X_times : MD := ("SeriesTables", ⟨"SeriesTables", "times", "(III)I"⟩, prog_1_method_14_code, 4, (some .int), 6)
def m_Tb_multiply : MD := ("SeriesTables$TableBench", ⟨"SeriesTables$TableBench", "multiply", "(LSeriesTables$Table;LSeriesTables$Table;ILSeriesTables$Table;)V"⟩, prog_8_method_4_code, 4, none, 3)
def m_X_power : MD := ("SeriesTables", ⟨"SeriesTables", "power", "(III)I"⟩, prog_1_method_15_code, 4, (some .int), 6)
def m_Tb_powerOf : MD := ("SeriesTables$TableBench", ⟨"SeriesTables$TableBench", "powerOf", "(LSeriesTables$Table;II)V"⟩, prog_8_method_6_code, 5, none, 4)
def m_Tb_invert : MD := ("SeriesTables$TableBench", ⟨"SeriesTables$TableBench", "invert", "(LSeriesTables$Table;ILSeriesTables$Table;)V"⟩, prog_8_method_5_code, 4, none, 3)
def m_Ma_abs : MD := ("java/lang/Math", ⟨"java/lang/Math", "abs", "(I)I"⟩, prog_16_method_59_code, 1, (some .int), 0)
def m_X_part : MD := ("SeriesTables", ⟨"SeriesTables", "part", "(III)I"⟩, prog_1_method_16_code, 4, (some .int), 6)
def m_Tb_partOf : MD := ("SeriesTables$TableBench", ⟨"SeriesTables$TableBench", "partOf", "(LSeriesTables$Table;II)Z"⟩, prog_8_method_7_code, 4, (some .boolean), 4)
def m_Tb_findA : MD := ("SeriesTables$TableBench", ⟨"SeriesTables$TableBench", "findA", "(LSeriesTables$Table;I)V"⟩, prog_8_method_8_code, 3, none, 3)
def m_Tb_findZ : MD := ("SeriesTables$TableBench", ⟨"SeriesTables$TableBench", "findZ", "(LSeriesTables$Table;I)V"⟩, prog_8_method_9_code, 4, none, 3)
def m_X_apply : MD := ("SeriesTables", ⟨"SeriesTables", "apply", "(III)I"⟩, prog_1_method_17_code, 4, (some .int), 6)
def m_Tb_makeOf : MD := ("SeriesTables$TableBench", ⟨"SeriesTables$TableBench", "makeOf", "(LSeriesTables$Table;[II)V"⟩, prog_8_method_10_code, 4, none, 3)
def m_X_sums : MD := ("SeriesTables", ⟨"SeriesTables", "sums", "(III)I"⟩, prog_1_method_18_code, 4, (some .int), 6)
def m_Tb_sumRows : MD := ("SeriesTables$TableBench", ⟨"SeriesTables$TableBench", "sumRows", "(LSeriesTables$Table;II)V"⟩, prog_8_method_11_code, 8, none, 3)
def m_Tb_fillColumns : MD := ("SeriesTables$TableBench", ⟨"SeriesTables$TableBench", "fillColumns", "(LSeriesTables$Table;I[[I)V"⟩, prog_8_method_3_code, 4, none, 2)
def m_Tb_termOfSum : MD := ("SeriesTables$TableBench", ⟨"SeriesTables$TableBench", "termOfSum", "(III)J"⟩, prog_8_method_12_code, 4, (some .long), 0)
def m_X_kinds : MD := ("SeriesTables", ⟨"SeriesTables", "kinds", "(I)I"⟩, prog_1_method_20_code, 2, (some .int), 5)
def m_Tb_kindsOf : MD := ("SeriesTables$TableBench", ⟨"SeriesTables$TableBench", "kindsOf", "(LSeriesTables$Table;I)I"⟩, prog_8_method_14_code, 4, (some .int), 4)
def m_Rw_isT : MD := ("SeriesTables$Rows", ⟨"SeriesTables$Rows", "isT", "([II)Z"⟩, prog_4_method_14_code, 2, (some .boolean), 1)
def m_Rw_isZeroFrom : MD := ("SeriesTables$Rows", ⟨"SeriesTables$Rows", "isZeroFrom", "([III)Z"⟩, prog_4_method_15_code, 4, (some .boolean), 0)
def m_Rw_isOne : MD := ("SeriesTables$Rows", ⟨"SeriesTables$Rows", "isOne", "([II)Z"⟩, prog_4_method_13_code, 2, (some .boolean), 1)
def m_Tb_isShifted : MD := ("SeriesTables$TableBench", ⟨"SeriesTables$TableBench", "isShifted", "(LSeriesTables$Table;I)Z"⟩, prog_8_method_15_code, 3, (some .boolean), 0)
def m_Tb_isDerivative : MD := ("SeriesTables$TableBench", ⟨"SeriesTables$TableBench", "isDerivative", "(LSeriesTables$Table;I)Z"⟩, prog_8_method_16_code, 3, (some .boolean), 1)
def m_Tb_isChequered : MD := ("SeriesTables$TableBench", ⟨"SeriesTables$TableBench", "isChequered", "(LSeriesTables$Table;I)Z"⟩, prog_8_method_17_code, 5, (some .boolean), 3)
def m_X_differ : MD := ("SeriesTables", ⟨"SeriesTables", "differ", "(III)I"⟩, prog_1_method_21_code, 4, (some .int), 5)
def m_Tb_firstDifference : MD := ("SeriesTables$TableBench", ⟨"SeriesTables$TableBench", "firstDifference", "(LSeriesTables$Table;LSeriesTables$Table;I)I"⟩, prog_8_method_18_code, 6, (some .int), 3)
def m_Tb_firstOfChangedPlaces : MD := ("SeriesTables$TableBench", ⟨"SeriesTables$TableBench", "firstOfChangedPlaces", "(LSeriesTables$Table;LSeriesTables$Table;I)I"⟩, prog_8_method_19_code, 4, (some .int), 4)
def m_X_fails : MD := ("SeriesTables", ⟨"SeriesTables", "fails", "(III)I"⟩, prog_1_method_22_code, 5, (some .int), 4)
def m_X_free : MD := ("SeriesTables", ⟨"SeriesTables", "free", "(II)I"⟩, prog_1_method_23_code, 3, (some .int), 1)
def m_X_set : MD := ("SeriesTables", ⟨"SeriesTables", "set", "(III)I"⟩, prog_1_method_24_code, 4, (some .int), 5)
def m_X_lay : MD := ("SeriesTables", ⟨"SeriesTables", "lay", "(I)I"⟩, prog_1_method_25_code, 2, (some .int), 5)
def m_Tb_layEntries : MD := ("SeriesTables$TableBench", ⟨"SeriesTables$TableBench", "layEntries", "(LSeriesTables$Table;I[[I)V"⟩, prog_8_method_20_code, 6, none, 3)
def m_X_unlike : MD := ("SeriesTables", ⟨"SeriesTables", "unlike", "()I"⟩, prog_1_method_26_code, 1, (some .int), 4)
def m_Tb_recognise : MD := ("SeriesTables$TableBench", ⟨"SeriesTables$TableBench", "recognise", "([[II)I"⟩, prog_8_method_21_code, 5, (some .int), 3)
def m_X_rebuild : MD := ("SeriesTables", ⟨"SeriesTables", "rebuild", "(I)I"⟩, prog_1_method_27_code, 2, (some .int), 6)
def m_X_drawn : MD := ("SeriesTables", ⟨"SeriesTables", "drawn", "(II)I"⟩, prog_1_method_28_code, 7, (some .int), 5)
def m_X_nextSeed : MD := ("SeriesTables", ⟨"SeriesTables", "nextSeed", "(I)I"⟩, prog_1_method_38_code, 1, (some .int), 0)
def m_X_drawOf : MD := ("SeriesTables", ⟨"SeriesTables", "drawOf", "(II)I"⟩, prog_1_method_39_code, 2, (some .int), 0)
def m_St_sumOfSeries : MD := ("SeriesTables$State", ⟨"SeriesTables$State", "sumOfSeries", "()I"⟩, prog_6_method_4_code, 4, (some .int), 0)
def m_X_undo : MD := ("SeriesTables", ⟨"SeriesTables", "undo", "()I"⟩, prog_1_method_29_code, 1, (some .int), 5)
def m_Hi_takeBack : MD := ("SeriesTables$History", ⟨"SeriesTables$History", "takeBack", "(LSeriesTables$State;)V"⟩, prog_2_method_3_code, 2, none, 4)
def m_X_image : MD := ("SeriesTables", ⟨"SeriesTables", "image", "(I)Z"⟩, prog_1_method_30_code, 2, (some .boolean), 4)
def m_X_restore : MD := ("SeriesTables", ⟨"SeriesTables", "restore", "(I)Z"⟩, prog_1_method_31_code, 2, (some .boolean), 4)
def m_X_entry : MD := ("SeriesTables", ⟨"SeriesTables", "entry", "(III)I"⟩, prog_1_method_13_code, 4, (some .int), 3)
def m_X_production : MD := ("SeriesTables", ⟨"SeriesTables", "production", "(III)I"⟩, prog_1_method_19_code, 4, (some .int), 4)
def m_X_isWithinProduction : MD := ("SeriesTables", ⟨"SeriesTables", "isWithinProduction", "(I)Z"⟩, prog_1_method_35_code, 2, (some .boolean), 0)
def m_Tb_productionOf : MD := ("SeriesTables$TableBench", ⟨"SeriesTables$TableBench", "productionOf", "(LSeriesTables$Table;III)I"⟩, prog_8_method_13_code, 9, (some .int), 3)
def m_Md_thrown : MD := ("SeriesTablesModel", ⟨"SeriesTablesModel", "thrown", "()I"⟩, prog_11_method_1_code, 1, (some .int), 0)
def m_Md_feed : MD := ("SeriesTablesModel", ⟨"SeriesTablesModel", "feed", "(IIIII)I"⟩, prog_11_method_5_code, 6, (some .int), 1)
def m_Md_lays : MD := ("SeriesTablesModel", ⟨"SeriesTablesModel", "lays", "(I)V"⟩, prog_11_method_4_code, 3, none, 0)
def m_Md_end : MD := ("SeriesTablesModel", ⟨"SeriesTablesModel", "end", "(I)Z"⟩, prog_11_method_6_code, 2, (some .boolean), 0)
def m_Md_init : MD := ("SeriesTablesModel", ⟨"SeriesTablesModel", "<init>", "()V"⟩, prog_11_method_13_code, 1, none, 1)
def m_Md_text : MD := ("SeriesTablesModel", ⟨"SeriesTablesModel", "text", "()I"⟩, prog_11_method_26_code, 3, (some .int), 5)
def m_Md_next : MD := ("SeriesTablesModel", ⟨"SeriesTablesModel", "next", "()V"⟩, prog_11_method_10_code, 5, none, 1)
def m_Md_isLetter : MD := ("SeriesTablesModel", ⟨"SeriesTablesModel", "isLetter", "(I)Z"⟩, prog_11_method_9_code, 1, (some .boolean), 0)
def m_Md_isDigit : MD := ("SeriesTablesModel", ⟨"SeriesTablesModel", "isDigit", "(I)Z"⟩, prog_11_method_8_code, 1, (some .boolean), 0)
def m_Md_tapeAt : MD := ("SeriesTablesModel", ⟨"SeriesTablesModel", "tapeAt", "(I)I"⟩, prog_11_method_7_code, 2, (some .int), 0)
def m_Md_readLine : MD := ("SeriesTablesModel", ⟨"SeriesTablesModel", "readLine", "()Z"⟩, prog_11_method_24_code, 1, (some .boolean), 4)
def m_Md_isWord : MD := ("SeriesTablesModel", ⟨"SeriesTablesModel", "isWord", "(IIIIII)Z"⟩, prog_11_method_11_code, 9, (some .boolean), 0)
def m_Md_readSize : MD := ("SeriesTablesModel", ⟨"SeriesTablesModel", "readSize", "()Z"⟩, prog_11_method_19_code, 1, (some .boolean), 2)
def m_Md_bad : MD := ("SeriesTablesModel", ⟨"SeriesTablesModel", "bad", "(I)Z"⟩, prog_11_method_12_code, 2, (some .boolean), 0)
def m_Md_isIn : MD := ("SeriesTablesModel", ⟨"SeriesTablesModel", "isIn", "(III)Z"⟩, prog_11_method_3_code, 3, (some .boolean), 0)
def m_Md_readSeries : MD := ("SeriesTablesModel", ⟨"SeriesTablesModel", "readSeries", "()Z"⟩, prog_11_method_21_code, 2, (some .boolean), 3)
def m_Md_readSum : MD := ("SeriesTablesModel", ⟨"SeriesTablesModel", "readSum", "([IZ)Z"⟩, prog_11_method_20_code, 5, (some .boolean), 2)
def m_Md_rest : MD := ("SeriesTablesModel", ⟨"SeriesTablesModel", "rest", "(J)I"⟩, prog_11_method_15_code, 4, (some .int), 0)
def m_Md_divides : MD := ("SeriesTablesModel", ⟨"SeriesTablesModel", "divides", "([I[I[II)V"⟩, prog_11_method_17_code, 9, none, 1)
def m_Md_turned : MD := ("SeriesTablesModel", ⟨"SeriesTablesModel", "turned", "(J)I"⟩, prog_11_method_16_code, 7, (some .int), 0)
def m_Md_readTable : MD := ("SeriesTablesModel", ⟨"SeriesTablesModel", "readTable", "()Z"⟩, prog_11_method_23_code, 5, (some .boolean), 2)
def m_Md_makesTable : MD := ("SeriesTablesModel", ⟨"SeriesTablesModel", "makesTable", "([III)Z"⟩, prog_11_method_22_code, 3, (some .boolean), 0)
def m_Md_readEnd : MD := ("SeriesTablesModel", ⟨"SeriesTablesModel", "readEnd", "()Z"⟩, prog_11_method_25_code, 1, (some .boolean), 2)
def m_Md_copy : MD := ("SeriesTablesModel", ⟨"SeriesTablesModel", "copy", "([II[II)V"⟩, prog_11_method_14_code, 5, none, 0)
def m_Md_fault : MD := ("SeriesTablesModel", ⟨"SeriesTablesModel", "fault", "()I"⟩, prog_11_method_27_code, 1, (some .int), 0)
def m_Md_now : MD := ("SeriesTablesModel", ⟨"SeriesTablesModel", "now", "(I)I"⟩, prog_11_method_28_code, 2, (some .int), 1)
def m_Md_wide : MD := ("SeriesTablesModel", ⟨"SeriesTablesModel", "wide", "()I"⟩, prog_11_method_29_code, 1, (some .int), 0)
def m_Md_at : MD := ("SeriesTablesModel", ⟨"SeriesTablesModel", "at", "(II)I"⟩, prog_11_method_36_code, 3, (some .int), 2)
def m_Md_isSeries : MD := ("SeriesTablesModel", ⟨"SeriesTablesModel", "isSeries", "(I)Z"⟩, prog_11_method_30_code, 2, (some .boolean), 1)
def m_Md_isPlace : MD := ("SeriesTablesModel", ⟨"SeriesTablesModel", "isPlace", "(I)Z"⟩, prog_11_method_32_code, 2, (some .boolean), 1)
def m_Md_put : MD := ("SeriesTablesModel", ⟨"SeriesTablesModel", "put", "(III)I"⟩, prog_11_method_37_code, 4, (some .int), 2)
def m_Md_snap : MD := ("SeriesTablesModel", ⟨"SeriesTablesModel", "snap", "()V"⟩, prog_11_method_33_code, 2, none, 1)
def m_Md_make : MD := ("SeriesTablesModel", ⟨"SeriesTablesModel", "make", "(IIII)I"⟩, prog_11_method_43_code, 6, (some .int), 3)
def m_Md_takes : MD := ("SeriesTablesModel", ⟨"SeriesTablesModel", "takes", "(I[I)V"⟩, prog_11_method_34_code, 4, none, 1)
def m_Md_multiplies : MD := ("SeriesTablesModel", ⟨"SeriesTablesModel", "multiplies", "([I[I[II)V"⟩, prog_11_method_18_code, 8, none, 1)
def m_Md_laysUnit : MD := ("SeriesTablesModel", ⟨"SeriesTablesModel", "laysUnit", "()V"⟩, prog_11_method_44_code, 2, none, 0)
def m_Md_columns : MD := ("SeriesTablesModel", ⟨"SeriesTablesModel", "columns", "([I[I[I)V"⟩, prog_11_method_38_code, 6, none, 2)
def m_Md_makes : MD := ("SeriesTablesModel", ⟨"SeriesTablesModel", "makes", "([I[I[I)V"⟩, prog_11_method_42_code, 8, none, 1)
def m_Md_comes : MD := ("SeriesTablesModel", ⟨"SeriesTablesModel", "comes", "([III)I"⟩, prog_11_method_35_code, 5, (some .int), 2)
def m_Md_turn : MD := ("SeriesTablesModel", ⟨"SeriesTablesModel", "turn", "(III)I"⟩, prog_11_method_46_code, 7, (some .int), 4)
def m_Md_reverses : MD := ("SeriesTablesModel", ⟨"SeriesTablesModel", "reverses", "([I[I)V"⟩, prog_11_method_45_code, 4, none, 3)
def m_Md_ones : MD := ("SeriesTablesModel", ⟨"SeriesTablesModel", "ones", "([I)V"⟩, prog_11_method_41_code, 2, none, 0)
def m_Md_solves : MD := ("SeriesTablesModel", ⟨"SeriesTablesModel", "solves", "([I[I[II)V"⟩, prog_11_method_40_code, 10, none, 1)
def m_Md_raise : MD := ("SeriesTablesModel", ⟨"SeriesTablesModel", "raise", "(III)I"⟩, prog_11_method_47_code, 6, (some .int), 3)
def m_Md_pair : MD := ("SeriesTablesModel", ⟨"SeriesTablesModel", "pair", "(III)I"⟩, prog_11_method_50_code, 4, (some .int), 3)
def m_Md_isTable : MD := ("SeriesTablesModel", ⟨"SeriesTablesModel", "isTable", "(I)Z"⟩, prog_11_method_31_code, 2, (some .boolean), 1)
def m_Md_comesAs : MD := ("SeriesTablesModel", ⟨"SeriesTablesModel", "comesAs", "([II)I"⟩, prog_11_method_49_code, 4, (some .int), 2)
def m_Md_entry : MD := ("SeriesTablesModel", ⟨"SeriesTablesModel", "entry", "(III)I"⟩, prog_11_method_51_code, 4, (some .int), 4)
def m_Md_refuse : MD := ("SeriesTablesModel", ⟨"SeriesTablesModel", "refuse", "()I"⟩, prog_11_method_2_code, 1, (some .int), 0)
def m_Md_matrix : MD := ("SeriesTablesModel", ⟨"SeriesTablesModel", "matrix", "(I[I)V"⟩, prog_11_method_48_code, 3, none, 3)
def m_Md_times : MD := ("SeriesTablesModel", ⟨"SeriesTablesModel", "times", "(III)I"⟩, prog_11_method_52_code, 4, (some .int), 4)
def m_Md_product : MD := ("SeriesTablesModel", ⟨"SeriesTablesModel", "product", "([I[I[II)V"⟩, prog_11_method_39_code, 9, none, 1)
def m_Md_power : MD := ("SeriesTablesModel", ⟨"SeriesTablesModel", "power", "(III)I"⟩, prog_11_method_53_code, 6, (some .int), 4)
def m_Md_part : MD := ("SeriesTablesModel", ⟨"SeriesTablesModel", "part", "(III)I"⟩, prog_11_method_55_code, 5, (some .int), 5)
def m_Md_laysProduction : MD := ("SeriesTablesModel", ⟨"SeriesTablesModel", "laysProduction", "(I)V"⟩, prog_11_method_54_code, 5, none, 4)
def m_Md_apply : MD := ("SeriesTablesModel", ⟨"SeriesTablesModel", "apply", "(III)I"⟩, prog_11_method_56_code, 4, (some .int), 4)
def m_Md_sums : MD := ("SeriesTablesModel", ⟨"SeriesTablesModel", "sums", "(III)I"⟩, prog_11_method_57_code, 10, (some .int), 4)
def m_Md_production : MD := ("SeriesTablesModel", ⟨"SeriesTablesModel", "production", "(III)I"⟩, prog_11_method_58_code, 4, (some .int), 5)
def m_Md_kinds : MD := ("SeriesTablesModel", ⟨"SeriesTablesModel", "kinds", "(I)I"⟩, prog_11_method_61_code, 2, (some .int), 5)
def m_Md_kindsOf : MD := ("SeriesTablesModel", ⟨"SeriesTablesModel", "kindsOf", "(I)I"⟩, prog_11_method_59_code, 10, (some .int), 4)
def m_Md_unlikeAt : MD := ("SeriesTablesModel", ⟨"SeriesTablesModel", "unlikeAt", "([I[I)I"⟩, prog_11_method_60_code, 5, (some .int), 1)
def m_Md_differ : MD := ("SeriesTablesModel", ⟨"SeriesTablesModel", "differ", "(III)I"⟩, prog_11_method_62_code, 4, (some .int), 4)
def m_Md_fails : MD := ("SeriesTablesModel", ⟨"SeriesTablesModel", "fails", "(III)I"⟩, prog_11_method_63_code, 5, (some .int), 4)
def m_Md_free : MD := ("SeriesTablesModel", ⟨"SeriesTablesModel", "free", "(II)I"⟩, prog_11_method_64_code, 3, (some .int), 2)
def m_Md_set : MD := ("SeriesTablesModel", ⟨"SeriesTablesModel", "set", "(III)I"⟩, prog_11_method_65_code, 4, (some .int), 2)
def m_Md_lay : MD := ("SeriesTablesModel", ⟨"SeriesTablesModel", "lay", "(I)I"⟩, prog_11_method_66_code, 4, (some .int), 5)
def m_Md_unlike : MD := ("SeriesTablesModel", ⟨"SeriesTablesModel", "unlike", "()I"⟩, prog_11_method_68_code, 1, (some .int), 4)
def m_Md_unlikeNow : MD := ("SeriesTablesModel", ⟨"SeriesTablesModel", "unlikeNow", "()I"⟩, prog_11_method_67_code, 2, (some .int), 3)
def m_Md_rebuild : MD := ("SeriesTablesModel", ⟨"SeriesTablesModel", "rebuild", "(I)I"⟩, prog_11_method_69_code, 2, (some .int), 4)
def m_Md_drawn : MD := ("SeriesTablesModel", ⟨"SeriesTablesModel", "drawn", "(II)I"⟩, prog_11_method_71_code, 6, (some .int), 2)
def m_Md_draw : MD := ("SeriesTablesModel", ⟨"SeriesTablesModel", "draw", "(I)I"⟩, prog_11_method_70_code, 2, (some .int), 0)
def m_Md_undo : MD := ("SeriesTablesModel", ⟨"SeriesTablesModel", "undo", "()I"⟩, prog_11_method_72_code, 1, (some .int), 1)
def m_Md_image : MD := ("SeriesTablesModel", ⟨"SeriesTablesModel", "image", "(I)Z"⟩, prog_11_method_73_code, 2, (some .boolean), 1)
def m_Md_restore : MD := ("SeriesTablesModel", ⟨"SeriesTablesModel", "restore", "(I)Z"⟩, prog_11_method_74_code, 2, (some .boolean), 1)
theorem w_X_init : Cond.code (mnam m_X_init) (mbt m_X_init) (mml m_X_init) (mrt m_X_init) ∈ gt_ws := gt_in (tb1 (List.mem_of_getElem? (i := 26) rfl)) rfl
theorem w_Re_init : Cond.code (mnam m_Re_init) (mbt m_Re_init) (mml m_Re_init) (mrt m_Re_init) ∈ gt_ws := gt_in (tb1 (List.mem_of_getElem? (i := 34) rfl)) rfl
theorem w_St_init : Cond.code (mnam m_St_init) (mbt m_St_init) (mml m_St_init) (mrt m_St_init) ∈ gt_ws := gt_in (tb1 (List.mem_of_getElem? (i := 40) rfl)) rfl
theorem w_Ta_init : Cond.code (mnam m_Ta_init) (mbt m_Ta_init) (mml m_Ta_init) (mrt m_Ta_init) ∈ gt_ws := gt_in (tb1 (List.mem_of_getElem? (i := 49) rfl)) rfl
theorem w_Tp_init : Cond.code (mnam m_Tp_init) (mbt m_Tp_init) (mml m_Tp_init) (mrt m_Tp_init) ∈ gt_ws := gt_in (tb1 (List.mem_of_getElem? (i := 85) rfl)) rfl
theorem w_Hi_init : Cond.code (mnam m_Hi_init) (mbt m_Hi_init) (mml m_Hi_init) (mrt m_Hi_init) ∈ gt_ws := gt_in (tb1 (List.mem_of_getElem? (i := 148) rfl)) rfl
theorem w_Sb_init : Cond.code (mnam m_Sb_init) (mbt m_Sb_init) (mml m_Sb_init) (mrt m_Sb_init) ∈ gt_ws := gt_in (tb1 (List.mem_of_getElem? (i := 168) rfl)) rfl
theorem w_Tb_init : Cond.code (mnam m_Tb_init) (mbt m_Tb_init) (mml m_Tb_init) (mrt m_Tb_init) ∈ gt_ws := gt_in (tb1 (List.mem_of_getElem? (i := 186) rfl)) rfl
theorem w_X_feed : Cond.code (mnam m_X_feed) (mbt m_X_feed) (mml m_X_feed) (mrt m_X_feed) ∈ gt_ws := gt_in (tb2 (List.mem_of_getElem? (i := 20) rfl)) rfl
theorem w_Tp_addFourBytes : Cond.code (mnam m_Tp_addFourBytes) (mbt m_Tp_addFourBytes) (mml m_Tp_addFourBytes) (mrt m_Tp_addFourBytes) ∈ gt_ws := gt_in (tb2 (List.mem_of_getElem? (i := 24) rfl)) rfl
theorem w_X_end : Cond.code (mnam m_X_end) (mbt m_X_end) (mml m_X_end) (mrt m_X_end) ∈ gt_ws := gt_in (tb2 (List.mem_of_getElem? (i := 28) rfl)) rfl
theorem w_X_text : Cond.code (mnam m_X_text) (mbt m_X_text) (mml m_X_text) (mrt m_X_text) ∈ gt_ws := gt_in (tb2 (List.mem_of_getElem? (i := 32) rfl)) rfl
theorem w_Re_readText : Cond.code (mnam m_Re_readText) (mbt m_Re_readText) (mml m_Re_readText) (mrt m_Re_readText) ∈ gt_ws := gt_in (tb2 (List.mem_of_getElem? (i := 36) rfl)) rfl
theorem w_St_becomeAsAtFirst : Cond.code (mnam m_St_becomeAsAtFirst) (mbt m_St_becomeAsAtFirst) (mml m_St_becomeAsAtFirst) (mrt m_St_becomeAsAtFirst) ∈ gt_ws := gt_in (tb2 (List.mem_of_getElem? (i := 40) rfl)) rfl
theorem w_Ar_fill : Cond.code (mnam m_Ar_fill) (mbt m_Ar_fill) (mml m_Ar_fill) (mrt m_Ar_fill) ∈ gt_ws := gt_in (tb2 (List.mem_of_getElem? (i := 43) rfl)) rfl
theorem w_Ta_becomeOne : Cond.code (mnam m_Ta_becomeOne) (mbt m_Ta_becomeOne) (mml m_Ta_becomeOne) (mrt m_Ta_becomeOne) ∈ gt_ws := gt_in (tb2 (List.mem_of_getElem? (i := 47) rfl)) rfl
theorem w_Rw_becomeNumber : Cond.code (mnam m_Rw_becomeNumber) (mbt m_Rw_becomeNumber) (mml m_Rw_becomeNumber) (mrt m_Rw_becomeNumber) ∈ gt_ws := gt_in (tb2 (List.mem_of_getElem? (i := 50) rfl)) rfl
theorem w_Re_step : Cond.code (mnam m_Re_step) (mbt m_Re_step) (mml m_Re_step) (mrt m_Re_step) ∈ gt_ws := gt_in (tb2 (List.mem_of_getElem? (i := 55) rfl)) rfl
theorem w_Re_isBlank : Cond.code (mnam m_Re_isBlank) (mbt m_Re_isBlank) (mml m_Re_isBlank) (mrt m_Re_isBlank) ∈ gt_ws := gt_in (tb2 (List.mem_of_getElem? (i := 58) rfl)) rfl
theorem w_Re_readWordOrNumber : Cond.code (mnam m_Re_readWordOrNumber) (mbt m_Re_readWordOrNumber) (mml m_Re_readWordOrNumber) (mrt m_Re_readWordOrNumber) ∈ gt_ws := gt_in (tb2 (List.mem_of_getElem? (i := 62) rfl)) rfl
theorem w_Re_isDigit : Cond.code (mnam m_Re_isDigit) (mbt m_Re_isDigit) (mml m_Re_isDigit) (mrt m_Re_isDigit) ∈ gt_ws := gt_in (tb2 (List.mem_of_getElem? (i := 65) rfl)) rfl
theorem w_Re_isLetter : Cond.code (mnam m_Re_isLetter) (mbt m_Re_isLetter) (mml m_Re_isLetter) (mrt m_Re_isLetter) ∈ gt_ws := gt_in (tb2 (List.mem_of_getElem? (i := 68) rfl)) rfl
theorem w_Re_isWord : Cond.code (mnam m_Re_isWord) (mbt m_Re_isWord) (mml m_Re_isWord) (mrt m_Re_isWord) ∈ gt_ws := gt_in (tb2 (List.mem_of_getElem? (i := 73) rfl)) rfl
theorem w_Sg_length : Cond.code (mnam m_Sg_length) (mbt m_Sg_length) (mml m_Sg_length) (mrt m_Sg_length) ∈ gt_ws := gt_in (tb2 (List.mem_of_getElem? (i := 77) rfl)) rfl
theorem w_Sg_coder : Cond.code (mnam m_Sg_coder) (mbt m_Sg_coder) (mml m_Sg_coder) (mrt m_Sg_coder) ∈ gt_ws := gt_in (tb2 (List.mem_of_getElem? (i := 81) rfl)) rfl
theorem w_Sg_charAt : Cond.code (mnam m_Sg_charAt) (mbt m_Sg_charAt) (mml m_Sg_charAt) (mrt m_Sg_charAt) ∈ gt_ws := gt_in (tb2 (List.mem_of_getElem? (i := 87) rfl)) rfl
theorem w_Sg_isLatin1 : Cond.code (mnam m_Sg_isLatin1) (mbt m_Sg_isLatin1) (mml m_Sg_isLatin1) (mrt m_Sg_isLatin1) ∈ gt_ws := gt_in (tb2 (List.mem_of_getElem? (i := 91) rfl)) rfl
theorem w_Sl_charAt : Cond.code (mnam m_Sl_charAt) (mbt m_Sl_charAt) (mml m_Sl_charAt) (mrt m_Sl_charAt) ∈ gt_ws := gt_in (tb2 (List.mem_of_getElem? (i := 94) rfl)) rfl
theorem w_Sg_checkIndex : Cond.code (mnam m_Sg_checkIndex) (mbt m_Sg_checkIndex) (mml m_Sg_checkIndex) (mrt m_Sg_checkIndex) ∈ gt_ws := gt_in (tb2 (List.mem_of_getElem? (i := 97) rfl)) rfl
theorem w_Pr_checkIndex : Cond.code (mnam m_Pr_checkIndex) (mbt m_Pr_checkIndex) (mml m_Pr_checkIndex) (mrt m_Pr_checkIndex) ∈ gt_ws := gt_in (tb2 (List.mem_of_getElem? (i := 102) rfl)) rfl
theorem w_Re_readSizeLine : Cond.code (mnam m_Re_readSizeLine) (mbt m_Re_readSizeLine) (mml m_Re_readSizeLine) (mrt m_Re_readSizeLine) ∈ gt_ws := gt_in (tb2 (List.mem_of_getElem? (i := 128) rfl)) rfl
theorem w_Re_refuse : Cond.code (mnam m_Re_refuse) (mbt m_Re_refuse) (mml m_Re_refuse) (mrt m_Re_refuse) ∈ gt_ws := gt_in (tb2 (List.mem_of_getElem? (i := 132) rfl)) rfl
theorem w_Re_readSemicolon : Cond.code (mnam m_Re_readSemicolon) (mbt m_Re_readSemicolon) (mml m_Re_readSemicolon) (mrt m_Re_readSemicolon) ∈ gt_ws := gt_in (tb2 (List.mem_of_getElem? (i := 136) rfl)) rfl
theorem w_Re_readSeriesLine : Cond.code (mnam m_Re_readSeriesLine) (mbt m_Re_readSeriesLine) (mml m_Re_readSeriesLine) (mrt m_Re_readSeriesLine) ∈ gt_ws := gt_in (tb2 (List.mem_of_getElem? (i := 140) rfl)) rfl
theorem w_Re_readSum : Cond.code (mnam m_Re_readSum) (mbt m_Re_readSum) (mml m_Re_readSum) (mrt m_Re_readSum) ∈ gt_ws := gt_in (tb2 (List.mem_of_getElem? (i := 144) rfl)) rfl
theorem w_Rw_difference : Cond.code (mnam m_Rw_difference) (mbt m_Rw_difference) (mml m_Rw_difference) (mrt m_Rw_difference) ∈ gt_ws := gt_in (tb2 (List.mem_of_getElem? (i := 148) rfl)) rfl
theorem w_Rw_divide : Cond.code (mnam m_Rw_divide) (mbt m_Rw_divide) (mml m_Rw_divide) (mrt m_Rw_divide) ∈ gt_ws := gt_in (tb2 (List.mem_of_getElem? (i := 152) rfl)) rfl
theorem w_Rw_inverse : Cond.code (mnam m_Rw_inverse) (mbt m_Rw_inverse) (mml m_Rw_inverse) (mrt m_Rw_inverse) ∈ gt_ws := gt_in (tb2 (List.mem_of_getElem? (i := 155) rfl)) rfl
theorem w_Rw_product : Cond.code (mnam m_Rw_product) (mbt m_Rw_product) (mml m_Rw_product) (mrt m_Rw_product) ∈ gt_ws := gt_in (tb2 (List.mem_of_getElem? (i := 161) rfl)) rfl
theorem w_Re_readTableLine : Cond.code (mnam m_Re_readTableLine) (mbt m_Re_readTableLine) (mml m_Re_readTableLine) (mrt m_Re_readTableLine) ∈ gt_ws := gt_in (tb2 (List.mem_of_getElem? (i := 165) rfl)) rfl
theorem w_Re_isToldSeries : Cond.code (mnam m_Re_isToldSeries) (mbt m_Re_isToldSeries) (mml m_Re_isToldSeries) (mrt m_Re_isToldSeries) ∈ gt_ws := gt_in (tb2 (List.mem_of_getElem? (i := 169) rfl)) rfl
theorem w_Rw_makeTable : Cond.code (mnam m_Rw_makeTable) (mbt m_Rw_makeTable) (mml m_Rw_makeTable) (mrt m_Rw_makeTable) ∈ gt_ws := gt_in (tb2 (List.mem_of_getElem? (i := 172) rfl)) rfl
theorem w_Rw_canBeReversed : Cond.code (mnam m_Rw_canBeReversed) (mbt m_Rw_canBeReversed) (mml m_Rw_canBeReversed) (mrt m_Rw_canBeReversed) ∈ gt_ws := gt_in (tb2 (List.mem_of_getElem? (i := 175) rfl)) rfl
theorem w_Ta_become : Cond.code (mnam m_Ta_become) (mbt m_Ta_become) (mml m_Ta_become) (mrt m_Ta_become) ∈ gt_ws := gt_in (tb2 (List.mem_of_getElem? (i := 179) rfl)) rfl
theorem w_St_copyFrom : Cond.code (mnam m_St_copyFrom) (mbt m_St_copyFrom) (mml m_St_copyFrom) (mrt m_St_copyFrom) ∈ gt_ws := gt_in (tb2 (List.mem_of_getElem? (i := 186) rfl)) rfl
theorem w_Ta_copyFrom : Cond.code (mnam m_Ta_copyFrom) (mbt m_Ta_copyFrom) (mml m_Ta_copyFrom) (mrt m_Ta_copyFrom) ∈ gt_ws := gt_in (tb2 (List.mem_of_getElem? (i := 191) rfl)) rfl
theorem w_Hi_forget : Cond.code (mnam m_Hi_forget) (mbt m_Hi_forget) (mml m_Hi_forget) (mrt m_Hi_forget) ∈ gt_ws := gt_in (tb2 (List.mem_of_getElem? (i := 196) rfl)) rfl
theorem w_X_fault : Cond.code (mnam m_X_fault) (mbt m_X_fault) (mml m_X_fault) (mrt m_X_fault) ∈ gt_ws := gt_in (tb2 (List.mem_of_getElem? (i := 200) rfl)) rfl
theorem w_X_now : Cond.code (mnam m_X_now) (mbt m_X_now) (mml m_X_now) (mrt m_X_now) ∈ gt_ws := gt_in (tb2 (List.mem_of_getElem? (i := 204) rfl)) rfl
theorem w_X_at : Cond.code (mnam m_X_at) (mbt m_X_at) (mml m_X_at) (mrt m_X_at) ∈ gt_ws := gt_in (tb2 (List.mem_of_getElem? (i := 208) rfl)) rfl
theorem w_X_isSeries : Cond.code (mnam m_X_isSeries) (mbt m_X_isSeries) (mml m_X_isSeries) (mrt m_X_isSeries) ∈ gt_ws := gt_in (tb2 (List.mem_of_getElem? (i := 212) rfl)) rfl
theorem w_X_isWithinSize : Cond.code (mnam m_X_isWithinSize) (mbt m_X_isWithinSize) (mml m_X_isWithinSize) (mrt m_X_isWithinSize) ∈ gt_ws := gt_in (tb2 (List.mem_of_getElem? (i := 216) rfl)) rfl
theorem w_X_put : Cond.code (mnam m_X_put) (mbt m_X_put) (mml m_X_put) (mrt m_X_put) ∈ gt_ws := gt_in (tb2 (List.mem_of_getElem? (i := 220) rfl)) rfl
theorem w_Hi_keep : Cond.code (mnam m_Hi_keep) (mbt m_Hi_keep) (mml m_Hi_keep) (mrt m_Hi_keep) ∈ gt_ws := gt_in (tb2 (List.mem_of_getElem? (i := 224) rfl)) rfl
theorem w_Ma_min : Cond.code (mnam m_Ma_min) (mbt m_Ma_min) (mml m_Ma_min) (mrt m_Ma_min) ∈ gt_ws := gt_in (tb2 (List.mem_of_getElem? (i := 228) rfl)) rfl
theorem w_Ma_floorMod : Cond.code (mnam m_Ma_floorMod) (mbt m_Ma_floorMod) (mml m_Ma_floorMod) (mrt m_Ma_floorMod) ∈ gt_ws := gt_in (tb2 (List.mem_of_getElem? (i := 232) rfl)) rfl
theorem w_X_make : Cond.code (mnam m_X_make) (mbt m_X_make) (mml m_X_make) (mrt m_X_make) ∈ gt_ws := gt_in (tb2 (List.mem_of_getElem? (i := 236) rfl)) rfl
theorem w_Sb_combine : Cond.code (mnam m_Sb_combine) (mbt m_Sb_combine) (mml m_Sb_combine) (mrt m_Sb_combine) ∈ gt_ws := gt_in (tb3 (List.mem_of_getElem? (i := 0) rfl)) rfl
theorem w_Rw_add : Cond.code (mnam m_Rw_add) (mbt m_Rw_add) (mml m_Rw_add) (mrt m_Rw_add) ∈ gt_ws := gt_in (tb3 (List.mem_of_getElem? (i := 4) rfl)) rfl
theorem w_Rw_subtract : Cond.code (mnam m_Rw_subtract) (mbt m_Rw_subtract) (mml m_Rw_subtract) (mrt m_Rw_subtract) ∈ gt_ws := gt_in (tb3 (List.mem_of_getElem? (i := 7) rfl)) rfl
theorem w_Rw_multiply : Cond.code (mnam m_Rw_multiply) (mbt m_Rw_multiply) (mml m_Rw_multiply) (mrt m_Rw_multiply) ∈ gt_ws := gt_in (tb3 (List.mem_of_getElem? (i := 10) rfl)) rfl
theorem w_Rw_coefficient : Cond.code (mnam m_Rw_coefficient) (mbt m_Rw_coefficient) (mml m_Rw_coefficient) (mrt m_Rw_coefficient) ∈ gt_ws := gt_in (tb3 (List.mem_of_getElem? (i := 13) rfl)) rfl
theorem w_Rw_insert : Cond.code (mnam m_Rw_insert) (mbt m_Rw_insert) (mml m_Rw_insert) (mrt m_Rw_insert) ∈ gt_ws := gt_in (tb3 (List.mem_of_getElem? (i := 17) rfl)) rfl
theorem w_X_landSeries : Cond.code (mnam m_X_landSeries) (mbt m_X_landSeries) (mml m_X_landSeries) (mrt m_X_landSeries) ∈ gt_ws := gt_in (tb3 (List.mem_of_getElem? (i := 22) rfl)) rfl
theorem w_X_turn : Cond.code (mnam m_X_turn) (mbt m_X_turn) (mml m_X_turn) (mrt m_X_turn) ∈ gt_ws := gt_in (tb3 (List.mem_of_getElem? (i := 27) rfl)) rfl
theorem w_Sb_turnAbout : Cond.code (mnam m_Sb_turnAbout) (mbt m_Sb_turnAbout) (mml m_Sb_turnAbout) (mrt m_Sb_turnAbout) ∈ gt_ws := gt_in (tb3 (List.mem_of_getElem? (i := 31) rfl)) rfl
theorem w_Rw_oneAhead : Cond.code (mnam m_Rw_oneAhead) (mbt m_Rw_oneAhead) (mml m_Rw_oneAhead) (mrt m_Rw_oneAhead) ∈ gt_ws := gt_in (tb3 (List.mem_of_getElem? (i := 34) rfl)) rfl
theorem w_Sb_differentiate : Cond.code (mnam m_Sb_differentiate) (mbt m_Sb_differentiate) (mml m_Sb_differentiate) (mrt m_Sb_differentiate) ∈ gt_ws := gt_in (tb3 (List.mem_of_getElem? (i := 38) rfl)) rfl
theorem w_Sb_integrate : Cond.code (mnam m_Sb_integrate) (mbt m_Sb_integrate) (mml m_Sb_integrate) (mrt m_Sb_integrate) ∈ gt_ws := gt_in (tb3 (List.mem_of_getElem? (i := 43) rfl)) rfl
theorem w_Sb_reverse : Cond.code (mnam m_Sb_reverse) (mbt m_Sb_reverse) (mml m_Sb_reverse) (mrt m_Sb_reverse) ∈ gt_ws := gt_in (tb3 (List.mem_of_getElem? (i := 49) rfl)) rfl
theorem w_X_raise : Cond.code (mnam m_X_raise) (mbt m_X_raise) (mml m_X_raise) (mrt m_X_raise) ∈ gt_ws := gt_in (tb3 (List.mem_of_getElem? (i := 54) rfl)) rfl
theorem w_Sb_raiseTo : Cond.code (mnam m_Sb_raiseTo) (mbt m_Sb_raiseTo) (mml m_Sb_raiseTo) (mrt m_Sb_raiseTo) ∈ gt_ws := gt_in (tb3 (List.mem_of_getElem? (i := 58) rfl)) rfl
theorem w_X_pair : Cond.code (mnam m_X_pair) (mbt m_X_pair) (mml m_X_pair) (mrt m_X_pair) ∈ gt_ws := gt_in (tb3 (List.mem_of_getElem? (i := 62) rfl)) rfl
theorem w_X_isTable : Cond.code (mnam m_X_isTable) (mbt m_X_isTable) (mml m_X_isTable) (mrt m_X_isTable) ∈ gt_ws := gt_in (tb3 (List.mem_of_getElem? (i := 66) rfl)) rfl
theorem w_X_landTable : Cond.code (mnam m_X_landTable) (mbt m_X_landTable) (mml m_X_landTable) (mrt m_X_landTable) ∈ gt_ws := gt_in (tb3 (List.mem_of_getElem? (i := 72) rfl)) rfl
theorem w_Tb_entryOf : Cond.code (mnam m_Tb_entryOf) (mbt m_Tb_entryOf) (mml m_Tb_entryOf) (mrt m_Tb_entryOf) ∈ gt_ws := gt_in (tb3 (List.mem_of_getElem? (i := 77) rfl)) rfl
theorem w_X_times : Cond.code (mnam m_X_times) (mbt m_X_times) (mml m_X_times) (mrt m_X_times) ∈ gt_ws := gt_in (tb3 (List.mem_of_getElem? (i := 83) rfl)) rfl
theorem w_Tb_multiply : Cond.code (mnam m_Tb_multiply) (mbt m_Tb_multiply) (mml m_Tb_multiply) (mrt m_Tb_multiply) ∈ gt_ws := gt_in (tb3 (List.mem_of_getElem? (i := 86) rfl)) rfl
theorem w_X_power : Cond.code (mnam m_X_power) (mbt m_X_power) (mml m_X_power) (mrt m_X_power) ∈ gt_ws := gt_in (tb3 (List.mem_of_getElem? (i := 91) rfl)) rfl
theorem w_Tb_powerOf : Cond.code (mnam m_Tb_powerOf) (mbt m_Tb_powerOf) (mml m_Tb_powerOf) (mrt m_Tb_powerOf) ∈ gt_ws := gt_in (tb3 (List.mem_of_getElem? (i := 95) rfl)) rfl
theorem w_Tb_invert : Cond.code (mnam m_Tb_invert) (mbt m_Tb_invert) (mml m_Tb_invert) (mrt m_Tb_invert) ∈ gt_ws := gt_in (tb3 (List.mem_of_getElem? (i := 99) rfl)) rfl
theorem w_Ma_abs : Cond.code (mnam m_Ma_abs) (mbt m_Ma_abs) (mml m_Ma_abs) (mrt m_Ma_abs) ∈ gt_ws := gt_in (tb3 (List.mem_of_getElem? (i := 107) rfl)) rfl
theorem w_X_part : Cond.code (mnam m_X_part) (mbt m_X_part) (mml m_X_part) (mrt m_X_part) ∈ gt_ws := gt_in (tb3 (List.mem_of_getElem? (i := 112) rfl)) rfl
theorem w_Tb_partOf : Cond.code (mnam m_Tb_partOf) (mbt m_Tb_partOf) (mml m_Tb_partOf) (mrt m_Tb_partOf) ∈ gt_ws := gt_in (tb3 (List.mem_of_getElem? (i := 116) rfl)) rfl
theorem w_Tb_findA : Cond.code (mnam m_Tb_findA) (mbt m_Tb_findA) (mml m_Tb_findA) (mrt m_Tb_findA) ∈ gt_ws := gt_in (tb3 (List.mem_of_getElem? (i := 120) rfl)) rfl
theorem w_Tb_findZ : Cond.code (mnam m_Tb_findZ) (mbt m_Tb_findZ) (mml m_Tb_findZ) (mrt m_Tb_findZ) ∈ gt_ws := gt_in (tb3 (List.mem_of_getElem? (i := 125) rfl)) rfl
theorem w_X_apply : Cond.code (mnam m_X_apply) (mbt m_X_apply) (mml m_X_apply) (mrt m_X_apply) ∈ gt_ws := gt_in (tb3 (List.mem_of_getElem? (i := 130) rfl)) rfl
theorem w_Tb_makeOf : Cond.code (mnam m_Tb_makeOf) (mbt m_Tb_makeOf) (mml m_Tb_makeOf) (mrt m_Tb_makeOf) ∈ gt_ws := gt_in (tb3 (List.mem_of_getElem? (i := 134) rfl)) rfl
theorem w_X_sums : Cond.code (mnam m_X_sums) (mbt m_X_sums) (mml m_X_sums) (mrt m_X_sums) ∈ gt_ws := gt_in (tb3 (List.mem_of_getElem? (i := 138) rfl)) rfl
theorem w_Tb_sumRows : Cond.code (mnam m_Tb_sumRows) (mbt m_Tb_sumRows) (mml m_Tb_sumRows) (mrt m_Tb_sumRows) ∈ gt_ws := gt_in (tb3 (List.mem_of_getElem? (i := 142) rfl)) rfl
theorem w_Tb_fillColumns : Cond.code (mnam m_Tb_fillColumns) (mbt m_Tb_fillColumns) (mml m_Tb_fillColumns) (mrt m_Tb_fillColumns) ∈ gt_ws := gt_in (tb3 (List.mem_of_getElem? (i := 145) rfl)) rfl
theorem w_Tb_termOfSum : Cond.code (mnam m_Tb_termOfSum) (mbt m_Tb_termOfSum) (mml m_Tb_termOfSum) (mrt m_Tb_termOfSum) ∈ gt_ws := gt_in (tb3 (List.mem_of_getElem? (i := 149) rfl)) rfl
theorem w_X_kinds : Cond.code (mnam m_X_kinds) (mbt m_X_kinds) (mml m_X_kinds) (mrt m_X_kinds) ∈ gt_ws := gt_in (tb3 (List.mem_of_getElem? (i := 155) rfl)) rfl
theorem w_Tb_kindsOf : Cond.code (mnam m_Tb_kindsOf) (mbt m_Tb_kindsOf) (mml m_Tb_kindsOf) (mrt m_Tb_kindsOf) ∈ gt_ws := gt_in (tb3 (List.mem_of_getElem? (i := 159) rfl)) rfl
theorem w_Rw_isT : Cond.code (mnam m_Rw_isT) (mbt m_Rw_isT) (mml m_Rw_isT) (mrt m_Rw_isT) ∈ gt_ws := gt_in (tb3 (List.mem_of_getElem? (i := 162) rfl)) rfl
theorem w_Rw_isZeroFrom : Cond.code (mnam m_Rw_isZeroFrom) (mbt m_Rw_isZeroFrom) (mml m_Rw_isZeroFrom) (mrt m_Rw_isZeroFrom) ∈ gt_ws := gt_in (tb3 (List.mem_of_getElem? (i := 165) rfl)) rfl
theorem w_Rw_isOne : Cond.code (mnam m_Rw_isOne) (mbt m_Rw_isOne) (mml m_Rw_isOne) (mrt m_Rw_isOne) ∈ gt_ws := gt_in (tb3 (List.mem_of_getElem? (i := 168) rfl)) rfl
theorem w_Tb_isShifted : Cond.code (mnam m_Tb_isShifted) (mbt m_Tb_isShifted) (mml m_Tb_isShifted) (mrt m_Tb_isShifted) ∈ gt_ws := gt_in (tb3 (List.mem_of_getElem? (i := 171) rfl)) rfl
theorem w_Tb_isDerivative : Cond.code (mnam m_Tb_isDerivative) (mbt m_Tb_isDerivative) (mml m_Tb_isDerivative) (mrt m_Tb_isDerivative) ∈ gt_ws := gt_in (tb3 (List.mem_of_getElem? (i := 174) rfl)) rfl
theorem w_Tb_isChequered : Cond.code (mnam m_Tb_isChequered) (mbt m_Tb_isChequered) (mml m_Tb_isChequered) (mrt m_Tb_isChequered) ∈ gt_ws := gt_in (tb3 (List.mem_of_getElem? (i := 179) rfl)) rfl
theorem w_X_differ : Cond.code (mnam m_X_differ) (mbt m_X_differ) (mml m_X_differ) (mrt m_X_differ) ∈ gt_ws := gt_in (tb3 (List.mem_of_getElem? (i := 183) rfl)) rfl
theorem w_Tb_firstDifference : Cond.code (mnam m_Tb_firstDifference) (mbt m_Tb_firstDifference) (mml m_Tb_firstDifference) (mrt m_Tb_firstDifference) ∈ gt_ws := gt_in (tb3 (List.mem_of_getElem? (i := 187) rfl)) rfl
theorem w_Tb_firstOfChangedPlaces : Cond.code (mnam m_Tb_firstOfChangedPlaces) (mbt m_Tb_firstOfChangedPlaces) (mml m_Tb_firstOfChangedPlaces) (mrt m_Tb_firstOfChangedPlaces) ∈ gt_ws := gt_in (tb3 (List.mem_of_getElem? (i := 191) rfl)) rfl
theorem w_X_fails : Cond.code (mnam m_X_fails) (mbt m_X_fails) (mml m_X_fails) (mrt m_X_fails) ∈ gt_ws := gt_in (tb3 (List.mem_of_getElem? (i := 196) rfl)) rfl
theorem w_X_free : Cond.code (mnam m_X_free) (mbt m_X_free) (mml m_X_free) (mrt m_X_free) ∈ gt_ws := gt_in (tb3 (List.mem_of_getElem? (i := 200) rfl)) rfl
theorem w_X_set : Cond.code (mnam m_X_set) (mbt m_X_set) (mml m_X_set) (mrt m_X_set) ∈ gt_ws := gt_in (tb3 (List.mem_of_getElem? (i := 204) rfl)) rfl
theorem w_X_lay : Cond.code (mnam m_X_lay) (mbt m_X_lay) (mml m_X_lay) (mrt m_X_lay) ∈ gt_ws := gt_in (tb3 (List.mem_of_getElem? (i := 208) rfl)) rfl
theorem w_Tb_layEntries : Cond.code (mnam m_Tb_layEntries) (mbt m_Tb_layEntries) (mml m_Tb_layEntries) (mrt m_Tb_layEntries) ∈ gt_ws := gt_in (tb3 (List.mem_of_getElem? (i := 212) rfl)) rfl
theorem w_X_unlike : Cond.code (mnam m_X_unlike) (mbt m_X_unlike) (mml m_X_unlike) (mrt m_X_unlike) ∈ gt_ws := gt_in (tb3 (List.mem_of_getElem? (i := 216) rfl)) rfl
theorem w_Tb_recognise : Cond.code (mnam m_Tb_recognise) (mbt m_Tb_recognise) (mml m_Tb_recognise) (mrt m_Tb_recognise) ∈ gt_ws := gt_in (tb3 (List.mem_of_getElem? (i := 220) rfl)) rfl
theorem w_X_rebuild : Cond.code (mnam m_X_rebuild) (mbt m_X_rebuild) (mml m_X_rebuild) (mrt m_X_rebuild) ∈ gt_ws := gt_in (tb3 (List.mem_of_getElem? (i := 224) rfl)) rfl
theorem w_X_drawn : Cond.code (mnam m_X_drawn) (mbt m_X_drawn) (mml m_X_drawn) (mrt m_X_drawn) ∈ gt_ws := gt_in (tb3 (List.mem_of_getElem? (i := 228) rfl)) rfl
theorem w_X_nextSeed : Cond.code (mnam m_X_nextSeed) (mbt m_X_nextSeed) (mml m_X_nextSeed) (mrt m_X_nextSeed) ∈ gt_ws := gt_in (tb3 (List.mem_of_getElem? (i := 231) rfl)) rfl
theorem w_X_drawOf : Cond.code (mnam m_X_drawOf) (mbt m_X_drawOf) (mml m_X_drawOf) (mrt m_X_drawOf) ∈ gt_ws := gt_in (tb3 (List.mem_of_getElem? (i := 235) rfl)) rfl
theorem w_St_sumOfSeries : Cond.code (mnam m_St_sumOfSeries) (mbt m_St_sumOfSeries) (mml m_St_sumOfSeries) (mrt m_St_sumOfSeries) ∈ gt_ws := gt_in (tb3 (List.mem_of_getElem? (i := 239) rfl)) rfl
theorem w_X_undo : Cond.code (mnam m_X_undo) (mbt m_X_undo) (mml m_X_undo) (mrt m_X_undo) ∈ gt_ws := gt_in (tb4 (List.mem_of_getElem? (i := 4) rfl)) rfl
theorem w_Hi_takeBack : Cond.code (mnam m_Hi_takeBack) (mbt m_Hi_takeBack) (mml m_Hi_takeBack) (mrt m_Hi_takeBack) ∈ gt_ws := gt_in (tb4 (List.mem_of_getElem? (i := 8) rfl)) rfl
theorem w_X_image : Cond.code (mnam m_X_image) (mbt m_X_image) (mml m_X_image) (mrt m_X_image) ∈ gt_ws := gt_in (tb4 (List.mem_of_getElem? (i := 12) rfl)) rfl
theorem w_X_restore : Cond.code (mnam m_X_restore) (mbt m_X_restore) (mml m_X_restore) (mrt m_X_restore) ∈ gt_ws := gt_in (tb4 (List.mem_of_getElem? (i := 16) rfl)) rfl
theorem w_X_entry : Cond.code (mnam m_X_entry) (mbt m_X_entry) (mml m_X_entry) (mrt m_X_entry) ∈ gt_ws := gt_in (tb4 (List.mem_of_getElem? (i := 24) rfl)) rfl
theorem w_X_production : Cond.code (mnam m_X_production) (mbt m_X_production) (mml m_X_production) (mrt m_X_production) ∈ gt_ws := gt_in (tb4 (List.mem_of_getElem? (i := 92) rfl)) rfl
theorem w_X_isWithinProduction : Cond.code (mnam m_X_isWithinProduction) (mbt m_X_isWithinProduction) (mml m_X_isWithinProduction) (mrt m_X_isWithinProduction) ∈ gt_ws := gt_in (tb4 (List.mem_of_getElem? (i := 96) rfl)) rfl
theorem w_Tb_productionOf : Cond.code (mnam m_Tb_productionOf) (mbt m_Tb_productionOf) (mml m_Tb_productionOf) (mrt m_Tb_productionOf) ∈ gt_ws := gt_in (tb4 (List.mem_of_getElem? (i := 100) rfl)) rfl
theorem w_Md_thrown : Cond.code (mnam m_Md_thrown) (mbt m_Md_thrown) (mml m_Md_thrown) (mrt m_Md_thrown) ∈ gt_ws := gt_in (tb4 (List.mem_of_getElem? (i := 105) rfl)) rfl
theorem w_Md_feed : Cond.code (mnam m_Md_feed) (mbt m_Md_feed) (mml m_Md_feed) (mrt m_Md_feed) ∈ gt_ws := gt_in (tb4 (List.mem_of_getElem? (i := 109) rfl)) rfl
theorem w_Md_lays : Cond.code (mnam m_Md_lays) (mbt m_Md_lays) (mml m_Md_lays) (mrt m_Md_lays) ∈ gt_ws := gt_in (tb4 (List.mem_of_getElem? (i := 114) rfl)) rfl
theorem w_Md_end : Cond.code (mnam m_Md_end) (mbt m_Md_end) (mml m_Md_end) (mrt m_Md_end) ∈ gt_ws := gt_in (tb4 (List.mem_of_getElem? (i := 118) rfl)) rfl
theorem w_Md_init : Cond.code (mnam m_Md_init) (mbt m_Md_init) (mml m_Md_init) (mrt m_Md_init) ∈ gt_ws := gt_in (tb4 (List.mem_of_getElem? (i := 122) rfl)) rfl
theorem w_Md_text : Cond.code (mnam m_Md_text) (mbt m_Md_text) (mml m_Md_text) (mrt m_Md_text) ∈ gt_ws := gt_in (tb4 (List.mem_of_getElem? (i := 221) rfl)) rfl
theorem w_Md_next : Cond.code (mnam m_Md_next) (mbt m_Md_next) (mml m_Md_next) (mrt m_Md_next) ∈ gt_ws := gt_in (tb4 (List.mem_of_getElem? (i := 225) rfl)) rfl
theorem w_Md_isLetter : Cond.code (mnam m_Md_isLetter) (mbt m_Md_isLetter) (mml m_Md_isLetter) (mrt m_Md_isLetter) ∈ gt_ws := gt_in (tb4 (List.mem_of_getElem? (i := 228) rfl)) rfl
theorem w_Md_isDigit : Cond.code (mnam m_Md_isDigit) (mbt m_Md_isDigit) (mml m_Md_isDigit) (mrt m_Md_isDigit) ∈ gt_ws := gt_in (tb4 (List.mem_of_getElem? (i := 231) rfl)) rfl
theorem w_Md_tapeAt : Cond.code (mnam m_Md_tapeAt) (mbt m_Md_tapeAt) (mml m_Md_tapeAt) (mrt m_Md_tapeAt) ∈ gt_ws := gt_in (tb4 (List.mem_of_getElem? (i := 235) rfl)) rfl
theorem w_Md_readLine : Cond.code (mnam m_Md_readLine) (mbt m_Md_readLine) (mml m_Md_readLine) (mrt m_Md_readLine) ∈ gt_ws := gt_in (tb4 (List.mem_of_getElem? (i := 239) rfl)) rfl
theorem w_Md_isWord : Cond.code (mnam m_Md_isWord) (mbt m_Md_isWord) (mml m_Md_isWord) (mrt m_Md_isWord) ∈ gt_ws := gt_in (tb5 (List.mem_of_getElem? (i := 3) rfl)) rfl
theorem w_Md_readSize : Cond.code (mnam m_Md_readSize) (mbt m_Md_readSize) (mml m_Md_readSize) (mrt m_Md_readSize) ∈ gt_ws := gt_in (tb5 (List.mem_of_getElem? (i := 7) rfl)) rfl
theorem w_Md_bad : Cond.code (mnam m_Md_bad) (mbt m_Md_bad) (mml m_Md_bad) (mrt m_Md_bad) ∈ gt_ws := gt_in (tb5 (List.mem_of_getElem? (i := 11) rfl)) rfl
theorem w_Md_isIn : Cond.code (mnam m_Md_isIn) (mbt m_Md_isIn) (mml m_Md_isIn) (mrt m_Md_isIn) ∈ gt_ws := gt_in (tb5 (List.mem_of_getElem? (i := 14) rfl)) rfl
theorem w_Md_readSeries : Cond.code (mnam m_Md_readSeries) (mbt m_Md_readSeries) (mml m_Md_readSeries) (mrt m_Md_readSeries) ∈ gt_ws := gt_in (tb5 (List.mem_of_getElem? (i := 18) rfl)) rfl
theorem w_Md_readSum : Cond.code (mnam m_Md_readSum) (mbt m_Md_readSum) (mml m_Md_readSum) (mrt m_Md_readSum) ∈ gt_ws := gt_in (tb5 (List.mem_of_getElem? (i := 22) rfl)) rfl
theorem w_Md_rest : Cond.code (mnam m_Md_rest) (mbt m_Md_rest) (mml m_Md_rest) (mrt m_Md_rest) ∈ gt_ws := gt_in (tb5 (List.mem_of_getElem? (i := 25) rfl)) rfl
theorem w_Md_divides : Cond.code (mnam m_Md_divides) (mbt m_Md_divides) (mml m_Md_divides) (mrt m_Md_divides) ∈ gt_ws := gt_in (tb5 (List.mem_of_getElem? (i := 29) rfl)) rfl
theorem w_Md_turned : Cond.code (mnam m_Md_turned) (mbt m_Md_turned) (mml m_Md_turned) (mrt m_Md_turned) ∈ gt_ws := gt_in (tb5 (List.mem_of_getElem? (i := 32) rfl)) rfl
theorem w_Md_readTable : Cond.code (mnam m_Md_readTable) (mbt m_Md_readTable) (mml m_Md_readTable) (mrt m_Md_readTable) ∈ gt_ws := gt_in (tb5 (List.mem_of_getElem? (i := 37) rfl)) rfl
theorem w_Md_makesTable : Cond.code (mnam m_Md_makesTable) (mbt m_Md_makesTable) (mml m_Md_makesTable) (mrt m_Md_makesTable) ∈ gt_ws := gt_in (tb5 (List.mem_of_getElem? (i := 40) rfl)) rfl
theorem w_Md_readEnd : Cond.code (mnam m_Md_readEnd) (mbt m_Md_readEnd) (mml m_Md_readEnd) (mrt m_Md_readEnd) ∈ gt_ws := gt_in (tb5 (List.mem_of_getElem? (i := 44) rfl)) rfl
theorem w_Md_copy : Cond.code (mnam m_Md_copy) (mbt m_Md_copy) (mml m_Md_copy) (mrt m_Md_copy) ∈ gt_ws := gt_in (tb5 (List.mem_of_getElem? (i := 47) rfl)) rfl
theorem w_Md_fault : Cond.code (mnam m_Md_fault) (mbt m_Md_fault) (mml m_Md_fault) (mrt m_Md_fault) ∈ gt_ws := gt_in (tb5 (List.mem_of_getElem? (i := 51) rfl)) rfl
theorem w_Md_now : Cond.code (mnam m_Md_now) (mbt m_Md_now) (mml m_Md_now) (mrt m_Md_now) ∈ gt_ws := gt_in (tb5 (List.mem_of_getElem? (i := 55) rfl)) rfl
theorem w_Md_wide : Cond.code (mnam m_Md_wide) (mbt m_Md_wide) (mml m_Md_wide) (mrt m_Md_wide) ∈ gt_ws := gt_in (tb5 (List.mem_of_getElem? (i := 59) rfl)) rfl
theorem w_Md_at : Cond.code (mnam m_Md_at) (mbt m_Md_at) (mml m_Md_at) (mrt m_Md_at) ∈ gt_ws := gt_in (tb5 (List.mem_of_getElem? (i := 63) rfl)) rfl
theorem w_Md_isSeries : Cond.code (mnam m_Md_isSeries) (mbt m_Md_isSeries) (mml m_Md_isSeries) (mrt m_Md_isSeries) ∈ gt_ws := gt_in (tb5 (List.mem_of_getElem? (i := 67) rfl)) rfl
theorem w_Md_isPlace : Cond.code (mnam m_Md_isPlace) (mbt m_Md_isPlace) (mml m_Md_isPlace) (mrt m_Md_isPlace) ∈ gt_ws := gt_in (tb5 (List.mem_of_getElem? (i := 71) rfl)) rfl
theorem w_Md_put : Cond.code (mnam m_Md_put) (mbt m_Md_put) (mml m_Md_put) (mrt m_Md_put) ∈ gt_ws := gt_in (tb5 (List.mem_of_getElem? (i := 75) rfl)) rfl
theorem w_Md_snap : Cond.code (mnam m_Md_snap) (mbt m_Md_snap) (mml m_Md_snap) (mrt m_Md_snap) ∈ gt_ws := gt_in (tb5 (List.mem_of_getElem? (i := 79) rfl)) rfl
theorem w_Md_make : Cond.code (mnam m_Md_make) (mbt m_Md_make) (mml m_Md_make) (mrt m_Md_make) ∈ gt_ws := gt_in (tb5 (List.mem_of_getElem? (i := 83) rfl)) rfl
theorem w_Md_takes : Cond.code (mnam m_Md_takes) (mbt m_Md_takes) (mml m_Md_takes) (mrt m_Md_takes) ∈ gt_ws := gt_in (tb5 (List.mem_of_getElem? (i := 87) rfl)) rfl
theorem w_Md_multiplies : Cond.code (mnam m_Md_multiplies) (mbt m_Md_multiplies) (mml m_Md_multiplies) (mrt m_Md_multiplies) ∈ gt_ws := gt_in (tb5 (List.mem_of_getElem? (i := 90) rfl)) rfl
theorem w_Md_laysUnit : Cond.code (mnam m_Md_laysUnit) (mbt m_Md_laysUnit) (mml m_Md_laysUnit) (mrt m_Md_laysUnit) ∈ gt_ws := gt_in (tb5 (List.mem_of_getElem? (i := 94) rfl)) rfl
theorem w_Md_columns : Cond.code (mnam m_Md_columns) (mbt m_Md_columns) (mml m_Md_columns) (mrt m_Md_columns) ∈ gt_ws := gt_in (tb5 (List.mem_of_getElem? (i := 98) rfl)) rfl
theorem w_Md_makes : Cond.code (mnam m_Md_makes) (mbt m_Md_makes) (mml m_Md_makes) (mrt m_Md_makes) ∈ gt_ws := gt_in (tb5 (List.mem_of_getElem? (i := 102) rfl)) rfl
theorem w_Md_comes : Cond.code (mnam m_Md_comes) (mbt m_Md_comes) (mml m_Md_comes) (mrt m_Md_comes) ∈ gt_ws := gt_in (tb5 (List.mem_of_getElem? (i := 106) rfl)) rfl
theorem w_Md_turn : Cond.code (mnam m_Md_turn) (mbt m_Md_turn) (mml m_Md_turn) (mrt m_Md_turn) ∈ gt_ws := gt_in (tb5 (List.mem_of_getElem? (i := 110) rfl)) rfl
theorem w_Md_reverses : Cond.code (mnam m_Md_reverses) (mbt m_Md_reverses) (mml m_Md_reverses) (mrt m_Md_reverses) ∈ gt_ws := gt_in (tb5 (List.mem_of_getElem? (i := 114) rfl)) rfl
theorem w_Md_ones : Cond.code (mnam m_Md_ones) (mbt m_Md_ones) (mml m_Md_ones) (mrt m_Md_ones) ∈ gt_ws := gt_in (tb5 (List.mem_of_getElem? (i := 117) rfl)) rfl
theorem w_Md_solves : Cond.code (mnam m_Md_solves) (mbt m_Md_solves) (mml m_Md_solves) (mrt m_Md_solves) ∈ gt_ws := gt_in (tb5 (List.mem_of_getElem? (i := 120) rfl)) rfl
theorem w_Md_raise : Cond.code (mnam m_Md_raise) (mbt m_Md_raise) (mml m_Md_raise) (mrt m_Md_raise) ∈ gt_ws := gt_in (tb5 (List.mem_of_getElem? (i := 124) rfl)) rfl
theorem w_Md_pair : Cond.code (mnam m_Md_pair) (mbt m_Md_pair) (mml m_Md_pair) (mrt m_Md_pair) ∈ gt_ws := gt_in (tb5 (List.mem_of_getElem? (i := 128) rfl)) rfl
theorem w_Md_isTable : Cond.code (mnam m_Md_isTable) (mbt m_Md_isTable) (mml m_Md_isTable) (mrt m_Md_isTable) ∈ gt_ws := gt_in (tb5 (List.mem_of_getElem? (i := 132) rfl)) rfl
theorem w_Md_comesAs : Cond.code (mnam m_Md_comesAs) (mbt m_Md_comesAs) (mml m_Md_comesAs) (mrt m_Md_comesAs) ∈ gt_ws := gt_in (tb5 (List.mem_of_getElem? (i := 136) rfl)) rfl
theorem w_Md_entry : Cond.code (mnam m_Md_entry) (mbt m_Md_entry) (mml m_Md_entry) (mrt m_Md_entry) ∈ gt_ws := gt_in (tb5 (List.mem_of_getElem? (i := 140) rfl)) rfl
theorem w_Md_refuse : Cond.code (mnam m_Md_refuse) (mbt m_Md_refuse) (mml m_Md_refuse) (mrt m_Md_refuse) ∈ gt_ws := gt_in (tb5 (List.mem_of_getElem? (i := 144) rfl)) rfl
theorem w_Md_matrix : Cond.code (mnam m_Md_matrix) (mbt m_Md_matrix) (mml m_Md_matrix) (mrt m_Md_matrix) ∈ gt_ws := gt_in (tb5 (List.mem_of_getElem? (i := 148) rfl)) rfl
theorem w_Md_times : Cond.code (mnam m_Md_times) (mbt m_Md_times) (mml m_Md_times) (mrt m_Md_times) ∈ gt_ws := gt_in (tb5 (List.mem_of_getElem? (i := 152) rfl)) rfl
theorem w_Md_product : Cond.code (mnam m_Md_product) (mbt m_Md_product) (mml m_Md_product) (mrt m_Md_product) ∈ gt_ws := gt_in (tb5 (List.mem_of_getElem? (i := 155) rfl)) rfl
theorem w_Md_power : Cond.code (mnam m_Md_power) (mbt m_Md_power) (mml m_Md_power) (mrt m_Md_power) ∈ gt_ws := gt_in (tb5 (List.mem_of_getElem? (i := 159) rfl)) rfl
theorem w_Md_part : Cond.code (mnam m_Md_part) (mbt m_Md_part) (mml m_Md_part) (mrt m_Md_part) ∈ gt_ws := gt_in (tb5 (List.mem_of_getElem? (i := 163) rfl)) rfl
theorem w_Md_laysProduction : Cond.code (mnam m_Md_laysProduction) (mbt m_Md_laysProduction) (mml m_Md_laysProduction) (mrt m_Md_laysProduction) ∈ gt_ws := gt_in (tb5 (List.mem_of_getElem? (i := 167) rfl)) rfl
theorem w_Md_apply : Cond.code (mnam m_Md_apply) (mbt m_Md_apply) (mml m_Md_apply) (mrt m_Md_apply) ∈ gt_ws := gt_in (tb5 (List.mem_of_getElem? (i := 171) rfl)) rfl
theorem w_Md_sums : Cond.code (mnam m_Md_sums) (mbt m_Md_sums) (mml m_Md_sums) (mrt m_Md_sums) ∈ gt_ws := gt_in (tb5 (List.mem_of_getElem? (i := 175) rfl)) rfl
theorem w_Md_production : Cond.code (mnam m_Md_production) (mbt m_Md_production) (mml m_Md_production) (mrt m_Md_production) ∈ gt_ws := gt_in (tb5 (List.mem_of_getElem? (i := 179) rfl)) rfl
theorem w_Md_kinds : Cond.code (mnam m_Md_kinds) (mbt m_Md_kinds) (mml m_Md_kinds) (mrt m_Md_kinds) ∈ gt_ws := gt_in (tb5 (List.mem_of_getElem? (i := 183) rfl)) rfl
theorem w_Md_kindsOf : Cond.code (mnam m_Md_kindsOf) (mbt m_Md_kindsOf) (mml m_Md_kindsOf) (mrt m_Md_kindsOf) ∈ gt_ws := gt_in (tb5 (List.mem_of_getElem? (i := 187) rfl)) rfl
theorem w_Md_unlikeAt : Cond.code (mnam m_Md_unlikeAt) (mbt m_Md_unlikeAt) (mml m_Md_unlikeAt) (mrt m_Md_unlikeAt) ∈ gt_ws := gt_in (tb5 (List.mem_of_getElem? (i := 191) rfl)) rfl
theorem w_Md_differ : Cond.code (mnam m_Md_differ) (mbt m_Md_differ) (mml m_Md_differ) (mrt m_Md_differ) ∈ gt_ws := gt_in (tb5 (List.mem_of_getElem? (i := 195) rfl)) rfl
theorem w_Md_fails : Cond.code (mnam m_Md_fails) (mbt m_Md_fails) (mml m_Md_fails) (mrt m_Md_fails) ∈ gt_ws := gt_in (tb5 (List.mem_of_getElem? (i := 199) rfl)) rfl
theorem w_Md_free : Cond.code (mnam m_Md_free) (mbt m_Md_free) (mml m_Md_free) (mrt m_Md_free) ∈ gt_ws := gt_in (tb5 (List.mem_of_getElem? (i := 203) rfl)) rfl
theorem w_Md_set : Cond.code (mnam m_Md_set) (mbt m_Md_set) (mml m_Md_set) (mrt m_Md_set) ∈ gt_ws := gt_in (tb5 (List.mem_of_getElem? (i := 207) rfl)) rfl
theorem w_Md_lay : Cond.code (mnam m_Md_lay) (mbt m_Md_lay) (mml m_Md_lay) (mrt m_Md_lay) ∈ gt_ws := gt_in (tb5 (List.mem_of_getElem? (i := 211) rfl)) rfl
theorem w_Md_unlike : Cond.code (mnam m_Md_unlike) (mbt m_Md_unlike) (mml m_Md_unlike) (mrt m_Md_unlike) ∈ gt_ws := gt_in (tb5 (List.mem_of_getElem? (i := 215) rfl)) rfl
theorem w_Md_unlikeNow : Cond.code (mnam m_Md_unlikeNow) (mbt m_Md_unlikeNow) (mml m_Md_unlikeNow) (mrt m_Md_unlikeNow) ∈ gt_ws := gt_in (tb5 (List.mem_of_getElem? (i := 219) rfl)) rfl
theorem w_Md_rebuild : Cond.code (mnam m_Md_rebuild) (mbt m_Md_rebuild) (mml m_Md_rebuild) (mrt m_Md_rebuild) ∈ gt_ws := gt_in (tb5 (List.mem_of_getElem? (i := 223) rfl)) rfl
theorem w_Md_drawn : Cond.code (mnam m_Md_drawn) (mbt m_Md_drawn) (mml m_Md_drawn) (mrt m_Md_drawn) ∈ gt_ws := gt_in (tb5 (List.mem_of_getElem? (i := 227) rfl)) rfl
theorem w_Md_draw : Cond.code (mnam m_Md_draw) (mbt m_Md_draw) (mml m_Md_draw) (mrt m_Md_draw) ∈ gt_ws := gt_in (tb5 (List.mem_of_getElem? (i := 231) rfl)) rfl
theorem w_Md_undo : Cond.code (mnam m_Md_undo) (mbt m_Md_undo) (mml m_Md_undo) (mrt m_Md_undo) ∈ gt_ws := gt_in (tb5 (List.mem_of_getElem? (i := 236) rfl)) rfl
theorem w_Md_image : Cond.code (mnam m_Md_image) (mbt m_Md_image) (mml m_Md_image) (mrt m_Md_image) ∈ gt_ws := gt_in (tb6 (List.mem_of_getElem? (i := 0) rfl)) rfl
theorem w_Md_restore : Cond.code (mnam m_Md_restore) (mbt m_Md_restore) (mml m_Md_restore) (mrt m_Md_restore) ∈ gt_ws := gt_in (tb6 (List.mem_of_getElem? (i := 4) rfl)) rfl
theorem wi_X : Cond.initialized "SeriesTables" ∈ gt_ws := gt_in (tb1 (List.mem_of_getElem? (i := 1) rfl)) rfl
theorem wi_Hi : Cond.initialized "SeriesTables$History" ∈ gt_ws := gt_in (tb1 (List.mem_of_getElem? (i := 6) rfl)) rfl
theorem wi_Re : Cond.initialized "SeriesTables$Reader" ∈ gt_ws := gt_in (tb1 (List.mem_of_getElem? (i := 2) rfl)) rfl
theorem wi_Rw : Cond.initialized "SeriesTables$Rows" ∈ gt_ws := gt_in (tb1 (List.mem_of_getElem? (i := 11) rfl)) rfl
theorem wi_Sb : Cond.initialized "SeriesTables$SeriesBench" ∈ gt_ws := gt_in (tb1 (List.mem_of_getElem? (i := 7) rfl)) rfl
theorem wi_St : Cond.initialized "SeriesTables$State" ∈ gt_ws := gt_in (tb1 (List.mem_of_getElem? (i := 3) rfl)) rfl
theorem wi_Ta : Cond.initialized "SeriesTables$Table" ∈ gt_ws := gt_in (tb1 (List.mem_of_getElem? (i := 4) rfl)) rfl
theorem wi_Tb : Cond.initialized "SeriesTables$TableBench" ∈ gt_ws := gt_in (tb1 (List.mem_of_getElem? (i := 8) rfl)) rfl
theorem wi_Tp : Cond.initialized "SeriesTables$Tape" ∈ gt_ws := gt_in (tb1 (List.mem_of_getElem? (i := 5) rfl)) rfl
theorem wi_Md : Cond.initialized "SeriesTablesModel" ∈ gt_ws := gt_in (tb1 (List.mem_of_getElem? (i := 9) rfl)) rfl
theorem wi_Ma : Cond.initialized "java/lang/Math" ∈ gt_ws := gt_in (tb1 (List.mem_of_getElem? (i := 17) rfl)) rfl
theorem wi_Sg : Cond.initialized "java/lang/String" ∈ gt_ws := gt_in (tb1 (List.mem_of_getElem? (i := 12) rfl)) rfl
theorem wi_Sl : Cond.initialized "java/lang/StringLatin1" ∈ gt_ws := gt_in (tb1 (List.mem_of_getElem? (i := 13) rfl)) rfl
theorem wi_Ar : Cond.initialized "java/util/Arrays" ∈ gt_ws := gt_in (tb1 (List.mem_of_getElem? (i := 10) rfl)) rfl
theorem wi_Pr : Cond.initialized "jdk/internal/util/Preconditions" ∈ gt_ws := gt_in (tb1 (List.mem_of_getElem? (i := 14) rfl)) rfl
theorem w_acopy : Cond.native arraycopyName ∈ gt_ws ∧ Cond.static arraycopyName ∈ gt_ws ∧ Cond.initialized "java/lang/System" ∈ gt_ws := ⟨gt_in (tb2 (List.mem_of_getElem? (i := 182) rfl)) rfl, gt_in (tb2 (List.mem_of_getElem? (i := 181) rfl)) rfl, gt_in (tb1 (List.mem_of_getElem? (i := 16) rfl)) rfl⟩
theorem w_objinit : Cond.instanceMethod objectInit ∈ gt_ws ∧ Cond.code objectInit ⟨#[0xb1]⟩ 1 none ∈ gt_ws := ⟨gt_in (tb1 (List.mem_of_getElem? (i := 28) rfl)) rfl, gt_in (tb1 (List.mem_of_getElem? (i := 29) rfl)) rfl⟩
theorem ws_X_init : Cond.instanceMethod (mnam m_X_init) ∈ gt_ws ∧ (mnam m_X_init).name = "<init>" ∧ mrt m_X_init = none := ⟨gt_in (tb1 (List.mem_of_getElem? (i := 25) rfl)) rfl, rfl, rfl⟩
theorem ws_Re_init : Cond.instanceMethod (mnam m_Re_init) ∈ gt_ws ∧ (mnam m_Re_init).name = "<init>" ∧ mrt m_Re_init = none := ⟨gt_in (tb1 (List.mem_of_getElem? (i := 33) rfl)) rfl, rfl, rfl⟩
theorem ws_St_init : Cond.instanceMethod (mnam m_St_init) ∈ gt_ws ∧ (mnam m_St_init).name = "<init>" ∧ mrt m_St_init = none := ⟨gt_in (tb1 (List.mem_of_getElem? (i := 39) rfl)) rfl, rfl, rfl⟩
theorem ws_Ta_init : Cond.instanceMethod (mnam m_Ta_init) ∈ gt_ws ∧ (mnam m_Ta_init).name = "<init>" ∧ mrt m_Ta_init = none := ⟨gt_in (tb1 (List.mem_of_getElem? (i := 48) rfl)) rfl, rfl, rfl⟩
theorem ws_Tp_init : Cond.instanceMethod (mnam m_Tp_init) ∈ gt_ws ∧ (mnam m_Tp_init).name = "<init>" ∧ mrt m_Tp_init = none := ⟨gt_in (tb1 (List.mem_of_getElem? (i := 84) rfl)) rfl, rfl, rfl⟩
theorem ws_Hi_init : Cond.instanceMethod (mnam m_Hi_init) ∈ gt_ws ∧ (mnam m_Hi_init).name = "<init>" ∧ mrt m_Hi_init = none := ⟨gt_in (tb1 (List.mem_of_getElem? (i := 147) rfl)) rfl, rfl, rfl⟩
theorem ws_Sb_init : Cond.instanceMethod (mnam m_Sb_init) ∈ gt_ws ∧ (mnam m_Sb_init).name = "<init>" ∧ mrt m_Sb_init = none := ⟨gt_in (tb1 (List.mem_of_getElem? (i := 167) rfl)) rfl, rfl, rfl⟩
theorem ws_Tb_init : Cond.instanceMethod (mnam m_Tb_init) ∈ gt_ws ∧ (mnam m_Tb_init).name = "<init>" ∧ mrt m_Tb_init = none := ⟨gt_in (tb1 (List.mem_of_getElem? (i := 185) rfl)) rfl, rfl, rfl⟩
theorem ws_X_feed : Cond.instanceMethod (mnam m_X_feed) ∈ gt_ws ∧ Cond.selects (fC 7) (mnam m_X_feed) (mnam m_X_feed) ∈ gt_ws ∧ 7 < 9 := ⟨gt_in (tb2 (List.mem_of_getElem? (i := 18) rfl)) rfl, gt_in (tb2 (List.mem_of_getElem? (i := 19) rfl)) rfl, by decide⟩
theorem ws_Tp_addFourBytes : Cond.instanceMethod (mnam m_Tp_addFourBytes) ∈ gt_ws ∧ Cond.selects (fC 6) (mnam m_Tp_addFourBytes) (mnam m_Tp_addFourBytes) ∈ gt_ws ∧ 6 < 9 := ⟨gt_in (tb2 (List.mem_of_getElem? (i := 22) rfl)) rfl, gt_in (tb2 (List.mem_of_getElem? (i := 23) rfl)) rfl, by decide⟩
theorem ws_X_end : Cond.instanceMethod (mnam m_X_end) ∈ gt_ws ∧ Cond.selects (fC 7) (mnam m_X_end) (mnam m_X_end) ∈ gt_ws ∧ 7 < 9 := ⟨gt_in (tb2 (List.mem_of_getElem? (i := 26) rfl)) rfl, gt_in (tb2 (List.mem_of_getElem? (i := 27) rfl)) rfl, by decide⟩
theorem ws_X_text : Cond.instanceMethod (mnam m_X_text) ∈ gt_ws ∧ Cond.selects (fC 7) (mnam m_X_text) (mnam m_X_text) ∈ gt_ws ∧ 7 < 9 := ⟨gt_in (tb2 (List.mem_of_getElem? (i := 30) rfl)) rfl, gt_in (tb2 (List.mem_of_getElem? (i := 31) rfl)) rfl, by decide⟩
theorem ws_Re_readText : Cond.instanceMethod (mnam m_Re_readText) ∈ gt_ws ∧ Cond.selects (fC 1) (mnam m_Re_readText) (mnam m_Re_readText) ∈ gt_ws ∧ 1 < 9 := ⟨gt_in (tb2 (List.mem_of_getElem? (i := 34) rfl)) rfl, gt_in (tb2 (List.mem_of_getElem? (i := 35) rfl)) rfl, by decide⟩
theorem ws_St_becomeAsAtFirst : Cond.instanceMethod (mnam m_St_becomeAsAtFirst) ∈ gt_ws ∧ Cond.selects (fC 3) (mnam m_St_becomeAsAtFirst) (mnam m_St_becomeAsAtFirst) ∈ gt_ws ∧ 3 < 9 := ⟨gt_in (tb2 (List.mem_of_getElem? (i := 38) rfl)) rfl, gt_in (tb2 (List.mem_of_getElem? (i := 39) rfl)) rfl, by decide⟩
theorem ws_Ar_fill : Cond.static (mnam m_Ar_fill) ∈ gt_ws := gt_in (tb2 (List.mem_of_getElem? (i := 42) rfl)) rfl
theorem ws_Ta_becomeOne : Cond.instanceMethod (mnam m_Ta_becomeOne) ∈ gt_ws ∧ Cond.selects (fC 4) (mnam m_Ta_becomeOne) (mnam m_Ta_becomeOne) ∈ gt_ws ∧ 4 < 9 := ⟨gt_in (tb2 (List.mem_of_getElem? (i := 45) rfl)) rfl, gt_in (tb2 (List.mem_of_getElem? (i := 46) rfl)) rfl, by decide⟩
theorem ws_Rw_becomeNumber : Cond.static (mnam m_Rw_becomeNumber) ∈ gt_ws := gt_in (tb2 (List.mem_of_getElem? (i := 49) rfl)) rfl
theorem ws_Re_step : Cond.instanceMethod (mnam m_Re_step) ∈ gt_ws ∧ Cond.selects (fC 1) (mnam m_Re_step) (mnam m_Re_step) ∈ gt_ws ∧ 1 < 9 := ⟨gt_in (tb2 (List.mem_of_getElem? (i := 53) rfl)) rfl, gt_in (tb2 (List.mem_of_getElem? (i := 54) rfl)) rfl, by decide⟩
theorem ws_Re_isBlank : Cond.static (mnam m_Re_isBlank) ∈ gt_ws := gt_in (tb2 (List.mem_of_getElem? (i := 57) rfl)) rfl
theorem ws_Re_readWordOrNumber : Cond.instanceMethod (mnam m_Re_readWordOrNumber) ∈ gt_ws ∧ Cond.selects (fC 1) (mnam m_Re_readWordOrNumber) (mnam m_Re_readWordOrNumber) ∈ gt_ws ∧ 1 < 9 := ⟨gt_in (tb2 (List.mem_of_getElem? (i := 60) rfl)) rfl, gt_in (tb2 (List.mem_of_getElem? (i := 61) rfl)) rfl, by decide⟩
theorem ws_Re_isDigit : Cond.static (mnam m_Re_isDigit) ∈ gt_ws := gt_in (tb2 (List.mem_of_getElem? (i := 64) rfl)) rfl
theorem ws_Re_isLetter : Cond.static (mnam m_Re_isLetter) ∈ gt_ws := gt_in (tb2 (List.mem_of_getElem? (i := 67) rfl)) rfl
theorem ws_Re_isWord : Cond.instanceMethod (mnam m_Re_isWord) ∈ gt_ws ∧ Cond.selects (fC 1) (mnam m_Re_isWord) (mnam m_Re_isWord) ∈ gt_ws ∧ 1 < 9 := ⟨gt_in (tb2 (List.mem_of_getElem? (i := 71) rfl)) rfl, gt_in (tb2 (List.mem_of_getElem? (i := 72) rfl)) rfl, by decide⟩
theorem ws_Sl_charAt : Cond.static (mnam m_Sl_charAt) ∈ gt_ws := gt_in (tb2 (List.mem_of_getElem? (i := 93) rfl)) rfl
theorem ws_Sg_checkIndex : Cond.static (mnam m_Sg_checkIndex) ∈ gt_ws := gt_in (tb2 (List.mem_of_getElem? (i := 96) rfl)) rfl
theorem ws_Pr_checkIndex : Cond.static (mnam m_Pr_checkIndex) ∈ gt_ws := gt_in (tb2 (List.mem_of_getElem? (i := 101) rfl)) rfl
theorem ws_Re_readSizeLine : Cond.instanceMethod (mnam m_Re_readSizeLine) ∈ gt_ws ∧ Cond.selects (fC 1) (mnam m_Re_readSizeLine) (mnam m_Re_readSizeLine) ∈ gt_ws ∧ 1 < 9 := ⟨gt_in (tb2 (List.mem_of_getElem? (i := 126) rfl)) rfl, gt_in (tb2 (List.mem_of_getElem? (i := 127) rfl)) rfl, by decide⟩
theorem ws_Re_refuse : Cond.instanceMethod (mnam m_Re_refuse) ∈ gt_ws ∧ Cond.selects (fC 1) (mnam m_Re_refuse) (mnam m_Re_refuse) ∈ gt_ws ∧ 1 < 9 := ⟨gt_in (tb2 (List.mem_of_getElem? (i := 130) rfl)) rfl, gt_in (tb2 (List.mem_of_getElem? (i := 131) rfl)) rfl, by decide⟩
theorem ws_Re_readSemicolon : Cond.instanceMethod (mnam m_Re_readSemicolon) ∈ gt_ws ∧ Cond.selects (fC 1) (mnam m_Re_readSemicolon) (mnam m_Re_readSemicolon) ∈ gt_ws ∧ 1 < 9 := ⟨gt_in (tb2 (List.mem_of_getElem? (i := 134) rfl)) rfl, gt_in (tb2 (List.mem_of_getElem? (i := 135) rfl)) rfl, by decide⟩
theorem ws_Re_readSeriesLine : Cond.instanceMethod (mnam m_Re_readSeriesLine) ∈ gt_ws ∧ Cond.selects (fC 1) (mnam m_Re_readSeriesLine) (mnam m_Re_readSeriesLine) ∈ gt_ws ∧ 1 < 9 := ⟨gt_in (tb2 (List.mem_of_getElem? (i := 138) rfl)) rfl, gt_in (tb2 (List.mem_of_getElem? (i := 139) rfl)) rfl, by decide⟩
theorem ws_Re_readSum : Cond.instanceMethod (mnam m_Re_readSum) ∈ gt_ws ∧ Cond.selects (fC 1) (mnam m_Re_readSum) (mnam m_Re_readSum) ∈ gt_ws ∧ 1 < 9 := ⟨gt_in (tb2 (List.mem_of_getElem? (i := 142) rfl)) rfl, gt_in (tb2 (List.mem_of_getElem? (i := 143) rfl)) rfl, by decide⟩
theorem ws_Rw_difference : Cond.static (mnam m_Rw_difference) ∈ gt_ws := gt_in (tb2 (List.mem_of_getElem? (i := 147) rfl)) rfl
theorem ws_Rw_divide : Cond.static (mnam m_Rw_divide) ∈ gt_ws := gt_in (tb2 (List.mem_of_getElem? (i := 151) rfl)) rfl
theorem ws_Rw_inverse : Cond.static (mnam m_Rw_inverse) ∈ gt_ws := gt_in (tb2 (List.mem_of_getElem? (i := 154) rfl)) rfl
theorem ws_Rw_product : Cond.static (mnam m_Rw_product) ∈ gt_ws := gt_in (tb2 (List.mem_of_getElem? (i := 160) rfl)) rfl
theorem ws_Re_readTableLine : Cond.instanceMethod (mnam m_Re_readTableLine) ∈ gt_ws ∧ Cond.selects (fC 1) (mnam m_Re_readTableLine) (mnam m_Re_readTableLine) ∈ gt_ws ∧ 1 < 9 := ⟨gt_in (tb2 (List.mem_of_getElem? (i := 163) rfl)) rfl, gt_in (tb2 (List.mem_of_getElem? (i := 164) rfl)) rfl, by decide⟩
theorem ws_Re_isToldSeries : Cond.instanceMethod (mnam m_Re_isToldSeries) ∈ gt_ws ∧ Cond.selects (fC 1) (mnam m_Re_isToldSeries) (mnam m_Re_isToldSeries) ∈ gt_ws ∧ 1 < 9 := ⟨gt_in (tb2 (List.mem_of_getElem? (i := 167) rfl)) rfl, gt_in (tb2 (List.mem_of_getElem? (i := 168) rfl)) rfl, by decide⟩
theorem ws_Rw_makeTable : Cond.static (mnam m_Rw_makeTable) ∈ gt_ws := gt_in (tb2 (List.mem_of_getElem? (i := 171) rfl)) rfl
theorem ws_Rw_canBeReversed : Cond.static (mnam m_Rw_canBeReversed) ∈ gt_ws := gt_in (tb2 (List.mem_of_getElem? (i := 174) rfl)) rfl
theorem ws_Ta_become : Cond.instanceMethod (mnam m_Ta_become) ∈ gt_ws ∧ Cond.selects (fC 4) (mnam m_Ta_become) (mnam m_Ta_become) ∈ gt_ws ∧ 4 < 9 := ⟨gt_in (tb2 (List.mem_of_getElem? (i := 177) rfl)) rfl, gt_in (tb2 (List.mem_of_getElem? (i := 178) rfl)) rfl, by decide⟩
theorem ws_St_copyFrom : Cond.instanceMethod (mnam m_St_copyFrom) ∈ gt_ws ∧ Cond.selects (fC 3) (mnam m_St_copyFrom) (mnam m_St_copyFrom) ∈ gt_ws ∧ 3 < 9 := ⟨gt_in (tb2 (List.mem_of_getElem? (i := 184) rfl)) rfl, gt_in (tb2 (List.mem_of_getElem? (i := 185) rfl)) rfl, by decide⟩
theorem ws_Ta_copyFrom : Cond.instanceMethod (mnam m_Ta_copyFrom) ∈ gt_ws ∧ Cond.selects (fC 4) (mnam m_Ta_copyFrom) (mnam m_Ta_copyFrom) ∈ gt_ws ∧ 4 < 9 := ⟨gt_in (tb2 (List.mem_of_getElem? (i := 189) rfl)) rfl, gt_in (tb2 (List.mem_of_getElem? (i := 190) rfl)) rfl, by decide⟩
theorem ws_Hi_forget : Cond.instanceMethod (mnam m_Hi_forget) ∈ gt_ws ∧ Cond.selects (fC 0) (mnam m_Hi_forget) (mnam m_Hi_forget) ∈ gt_ws ∧ 0 < 9 := ⟨gt_in (tb2 (List.mem_of_getElem? (i := 194) rfl)) rfl, gt_in (tb2 (List.mem_of_getElem? (i := 195) rfl)) rfl, by decide⟩
theorem ws_X_fault : Cond.instanceMethod (mnam m_X_fault) ∈ gt_ws ∧ Cond.selects (fC 7) (mnam m_X_fault) (mnam m_X_fault) ∈ gt_ws ∧ 7 < 9 := ⟨gt_in (tb2 (List.mem_of_getElem? (i := 198) rfl)) rfl, gt_in (tb2 (List.mem_of_getElem? (i := 199) rfl)) rfl, by decide⟩
theorem ws_X_now : Cond.instanceMethod (mnam m_X_now) ∈ gt_ws ∧ Cond.selects (fC 7) (mnam m_X_now) (mnam m_X_now) ∈ gt_ws ∧ 7 < 9 := ⟨gt_in (tb2 (List.mem_of_getElem? (i := 202) rfl)) rfl, gt_in (tb2 (List.mem_of_getElem? (i := 203) rfl)) rfl, by decide⟩
theorem ws_X_at : Cond.instanceMethod (mnam m_X_at) ∈ gt_ws ∧ Cond.selects (fC 7) (mnam m_X_at) (mnam m_X_at) ∈ gt_ws ∧ 7 < 9 := ⟨gt_in (tb2 (List.mem_of_getElem? (i := 206) rfl)) rfl, gt_in (tb2 (List.mem_of_getElem? (i := 207) rfl)) rfl, by decide⟩
theorem ws_X_isSeries : Cond.instanceMethod (mnam m_X_isSeries) ∈ gt_ws ∧ Cond.selects (fC 7) (mnam m_X_isSeries) (mnam m_X_isSeries) ∈ gt_ws ∧ 7 < 9 := ⟨gt_in (tb2 (List.mem_of_getElem? (i := 211) rfl)) rfl, gt_in (tb0 (List.mem_of_getElem? (i := 0) rfl)) rfl, by decide⟩
theorem ws_X_isWithinSize : Cond.instanceMethod (mnam m_X_isWithinSize) ∈ gt_ws ∧ Cond.selects (fC 7) (mnam m_X_isWithinSize) (mnam m_X_isWithinSize) ∈ gt_ws ∧ 7 < 9 := ⟨gt_in (tb2 (List.mem_of_getElem? (i := 215) rfl)) rfl, gt_in (tb0 (List.mem_of_getElem? (i := 1) rfl)) rfl, by decide⟩
theorem ws_X_put : Cond.instanceMethod (mnam m_X_put) ∈ gt_ws ∧ Cond.selects (fC 7) (mnam m_X_put) (mnam m_X_put) ∈ gt_ws ∧ 7 < 9 := ⟨gt_in (tb2 (List.mem_of_getElem? (i := 218) rfl)) rfl, gt_in (tb2 (List.mem_of_getElem? (i := 219) rfl)) rfl, by decide⟩
theorem ws_Hi_keep : Cond.instanceMethod (mnam m_Hi_keep) ∈ gt_ws ∧ Cond.selects (fC 0) (mnam m_Hi_keep) (mnam m_Hi_keep) ∈ gt_ws ∧ 0 < 9 := ⟨gt_in (tb2 (List.mem_of_getElem? (i := 222) rfl)) rfl, gt_in (tb2 (List.mem_of_getElem? (i := 223) rfl)) rfl, by decide⟩
theorem ws_Ma_min : Cond.static (mnam m_Ma_min) ∈ gt_ws := gt_in (tb2 (List.mem_of_getElem? (i := 227) rfl)) rfl
theorem ws_Ma_floorMod : Cond.static (mnam m_Ma_floorMod) ∈ gt_ws := gt_in (tb2 (List.mem_of_getElem? (i := 231) rfl)) rfl
theorem ws_X_make : Cond.instanceMethod (mnam m_X_make) ∈ gt_ws ∧ Cond.selects (fC 7) (mnam m_X_make) (mnam m_X_make) ∈ gt_ws ∧ 7 < 9 := ⟨gt_in (tb2 (List.mem_of_getElem? (i := 234) rfl)) rfl, gt_in (tb2 (List.mem_of_getElem? (i := 235) rfl)) rfl, by decide⟩
theorem ws_Sb_combine : Cond.instanceMethod (mnam m_Sb_combine) ∈ gt_ws ∧ Cond.selects (fC 2) (mnam m_Sb_combine) (mnam m_Sb_combine) ∈ gt_ws ∧ 2 < 9 := ⟨gt_in (tb2 (List.mem_of_getElem? (i := 238) rfl)) rfl, gt_in (tb2 (List.mem_of_getElem? (i := 239) rfl)) rfl, by decide⟩
theorem ws_Rw_add : Cond.static (mnam m_Rw_add) ∈ gt_ws := gt_in (tb3 (List.mem_of_getElem? (i := 3) rfl)) rfl
theorem ws_Rw_subtract : Cond.static (mnam m_Rw_subtract) ∈ gt_ws := gt_in (tb3 (List.mem_of_getElem? (i := 6) rfl)) rfl
theorem ws_Rw_multiply : Cond.static (mnam m_Rw_multiply) ∈ gt_ws := gt_in (tb3 (List.mem_of_getElem? (i := 9) rfl)) rfl
theorem ws_Rw_coefficient : Cond.static (mnam m_Rw_coefficient) ∈ gt_ws := gt_in (tb3 (List.mem_of_getElem? (i := 12) rfl)) rfl
theorem ws_Rw_insert : Cond.static (mnam m_Rw_insert) ∈ gt_ws := gt_in (tb3 (List.mem_of_getElem? (i := 16) rfl)) rfl
theorem ws_X_landSeries : Cond.instanceMethod (mnam m_X_landSeries) ∈ gt_ws ∧ Cond.selects (fC 7) (mnam m_X_landSeries) (mnam m_X_landSeries) ∈ gt_ws ∧ 7 < 9 := ⟨gt_in (tb3 (List.mem_of_getElem? (i := 21) rfl)) rfl, gt_in (tb0 (List.mem_of_getElem? (i := 2) rfl)) rfl, by decide⟩
theorem ws_X_turn : Cond.instanceMethod (mnam m_X_turn) ∈ gt_ws ∧ Cond.selects (fC 7) (mnam m_X_turn) (mnam m_X_turn) ∈ gt_ws ∧ 7 < 9 := ⟨gt_in (tb3 (List.mem_of_getElem? (i := 25) rfl)) rfl, gt_in (tb3 (List.mem_of_getElem? (i := 26) rfl)) rfl, by decide⟩
theorem ws_Sb_turnAbout : Cond.instanceMethod (mnam m_Sb_turnAbout) ∈ gt_ws ∧ Cond.selects (fC 2) (mnam m_Sb_turnAbout) (mnam m_Sb_turnAbout) ∈ gt_ws ∧ 2 < 9 := ⟨gt_in (tb3 (List.mem_of_getElem? (i := 29) rfl)) rfl, gt_in (tb3 (List.mem_of_getElem? (i := 30) rfl)) rfl, by decide⟩
theorem ws_Rw_oneAhead : Cond.static (mnam m_Rw_oneAhead) ∈ gt_ws := gt_in (tb3 (List.mem_of_getElem? (i := 33) rfl)) rfl
theorem ws_Sb_differentiate : Cond.instanceMethod (mnam m_Sb_differentiate) ∈ gt_ws ∧ Cond.selects (fC 2) (mnam m_Sb_differentiate) (mnam m_Sb_differentiate) ∈ gt_ws ∧ 2 < 9 := ⟨gt_in (tb3 (List.mem_of_getElem? (i := 36) rfl)) rfl, gt_in (tb3 (List.mem_of_getElem? (i := 37) rfl)) rfl, by decide⟩
theorem ws_Sb_integrate : Cond.instanceMethod (mnam m_Sb_integrate) ∈ gt_ws ∧ Cond.selects (fC 2) (mnam m_Sb_integrate) (mnam m_Sb_integrate) ∈ gt_ws ∧ 2 < 9 := ⟨gt_in (tb3 (List.mem_of_getElem? (i := 41) rfl)) rfl, gt_in (tb3 (List.mem_of_getElem? (i := 42) rfl)) rfl, by decide⟩
theorem ws_Sb_reverse : Cond.instanceMethod (mnam m_Sb_reverse) ∈ gt_ws ∧ Cond.selects (fC 2) (mnam m_Sb_reverse) (mnam m_Sb_reverse) ∈ gt_ws ∧ 2 < 9 := ⟨gt_in (tb3 (List.mem_of_getElem? (i := 47) rfl)) rfl, gt_in (tb3 (List.mem_of_getElem? (i := 48) rfl)) rfl, by decide⟩
theorem ws_X_raise : Cond.instanceMethod (mnam m_X_raise) ∈ gt_ws ∧ Cond.selects (fC 7) (mnam m_X_raise) (mnam m_X_raise) ∈ gt_ws ∧ 7 < 9 := ⟨gt_in (tb3 (List.mem_of_getElem? (i := 52) rfl)) rfl, gt_in (tb3 (List.mem_of_getElem? (i := 53) rfl)) rfl, by decide⟩
theorem ws_Sb_raiseTo : Cond.instanceMethod (mnam m_Sb_raiseTo) ∈ gt_ws ∧ Cond.selects (fC 2) (mnam m_Sb_raiseTo) (mnam m_Sb_raiseTo) ∈ gt_ws ∧ 2 < 9 := ⟨gt_in (tb3 (List.mem_of_getElem? (i := 56) rfl)) rfl, gt_in (tb3 (List.mem_of_getElem? (i := 57) rfl)) rfl, by decide⟩
theorem ws_X_pair : Cond.instanceMethod (mnam m_X_pair) ∈ gt_ws ∧ Cond.selects (fC 7) (mnam m_X_pair) (mnam m_X_pair) ∈ gt_ws ∧ 7 < 9 := ⟨gt_in (tb3 (List.mem_of_getElem? (i := 60) rfl)) rfl, gt_in (tb3 (List.mem_of_getElem? (i := 61) rfl)) rfl, by decide⟩
theorem ws_X_isTable : Cond.instanceMethod (mnam m_X_isTable) ∈ gt_ws ∧ Cond.selects (fC 7) (mnam m_X_isTable) (mnam m_X_isTable) ∈ gt_ws ∧ 7 < 9 := ⟨gt_in (tb3 (List.mem_of_getElem? (i := 65) rfl)) rfl, gt_in (tb0 (List.mem_of_getElem? (i := 3) rfl)) rfl, by decide⟩
theorem ws_X_landTable : Cond.instanceMethod (mnam m_X_landTable) ∈ gt_ws ∧ Cond.selects (fC 7) (mnam m_X_landTable) (mnam m_X_landTable) ∈ gt_ws ∧ 7 < 9 := ⟨gt_in (tb3 (List.mem_of_getElem? (i := 71) rfl)) rfl, gt_in (tb0 (List.mem_of_getElem? (i := 4) rfl)) rfl, by decide⟩
theorem ws_Tb_entryOf : Cond.instanceMethod (mnam m_Tb_entryOf) ∈ gt_ws ∧ Cond.selects (fC 5) (mnam m_Tb_entryOf) (mnam m_Tb_entryOf) ∈ gt_ws ∧ 5 < 9 := ⟨gt_in (tb3 (List.mem_of_getElem? (i := 75) rfl)) rfl, gt_in (tb3 (List.mem_of_getElem? (i := 76) rfl)) rfl, by decide⟩
theorem ws_X_times : Cond.instanceMethod (mnam m_X_times) ∈ gt_ws ∧ Cond.selects (fC 7) (mnam m_X_times) (mnam m_X_times) ∈ gt_ws ∧ 7 < 9 := ⟨gt_in (tb3 (List.mem_of_getElem? (i := 81) rfl)) rfl, gt_in (tb3 (List.mem_of_getElem? (i := 82) rfl)) rfl, by decide⟩
theorem ws_Tb_multiply : Cond.static (mnam m_Tb_multiply) ∈ gt_ws := gt_in (tb3 (List.mem_of_getElem? (i := 85) rfl)) rfl
theorem ws_X_power : Cond.instanceMethod (mnam m_X_power) ∈ gt_ws ∧ Cond.selects (fC 7) (mnam m_X_power) (mnam m_X_power) ∈ gt_ws ∧ 7 < 9 := ⟨gt_in (tb3 (List.mem_of_getElem? (i := 89) rfl)) rfl, gt_in (tb3 (List.mem_of_getElem? (i := 90) rfl)) rfl, by decide⟩
theorem ws_Tb_powerOf : Cond.instanceMethod (mnam m_Tb_powerOf) ∈ gt_ws ∧ Cond.selects (fC 5) (mnam m_Tb_powerOf) (mnam m_Tb_powerOf) ∈ gt_ws ∧ 5 < 9 := ⟨gt_in (tb3 (List.mem_of_getElem? (i := 93) rfl)) rfl, gt_in (tb3 (List.mem_of_getElem? (i := 94) rfl)) rfl, by decide⟩
theorem ws_Tb_invert : Cond.instanceMethod (mnam m_Tb_invert) ∈ gt_ws ∧ Cond.selects (fC 5) (mnam m_Tb_invert) (mnam m_Tb_invert) ∈ gt_ws ∧ 5 < 9 := ⟨gt_in (tb3 (List.mem_of_getElem? (i := 97) rfl)) rfl, gt_in (tb3 (List.mem_of_getElem? (i := 98) rfl)) rfl, by decide⟩
theorem ws_Ma_abs : Cond.static (mnam m_Ma_abs) ∈ gt_ws := gt_in (tb3 (List.mem_of_getElem? (i := 106) rfl)) rfl
theorem ws_X_part : Cond.instanceMethod (mnam m_X_part) ∈ gt_ws ∧ Cond.selects (fC 7) (mnam m_X_part) (mnam m_X_part) ∈ gt_ws ∧ 7 < 9 := ⟨gt_in (tb3 (List.mem_of_getElem? (i := 110) rfl)) rfl, gt_in (tb3 (List.mem_of_getElem? (i := 111) rfl)) rfl, by decide⟩
theorem ws_Tb_partOf : Cond.instanceMethod (mnam m_Tb_partOf) ∈ gt_ws ∧ Cond.selects (fC 5) (mnam m_Tb_partOf) (mnam m_Tb_partOf) ∈ gt_ws ∧ 5 < 9 := ⟨gt_in (tb3 (List.mem_of_getElem? (i := 114) rfl)) rfl, gt_in (tb3 (List.mem_of_getElem? (i := 115) rfl)) rfl, by decide⟩
theorem ws_Tb_findA : Cond.instanceMethod (mnam m_Tb_findA) ∈ gt_ws ∧ Cond.selects (fC 5) (mnam m_Tb_findA) (mnam m_Tb_findA) ∈ gt_ws ∧ 5 < 9 := ⟨gt_in (tb3 (List.mem_of_getElem? (i := 118) rfl)) rfl, gt_in (tb3 (List.mem_of_getElem? (i := 119) rfl)) rfl, by decide⟩
theorem ws_Tb_findZ : Cond.instanceMethod (mnam m_Tb_findZ) ∈ gt_ws ∧ Cond.selects (fC 5) (mnam m_Tb_findZ) (mnam m_Tb_findZ) ∈ gt_ws ∧ 5 < 9 := ⟨gt_in (tb3 (List.mem_of_getElem? (i := 123) rfl)) rfl, gt_in (tb3 (List.mem_of_getElem? (i := 124) rfl)) rfl, by decide⟩
theorem ws_X_apply : Cond.instanceMethod (mnam m_X_apply) ∈ gt_ws ∧ Cond.selects (fC 7) (mnam m_X_apply) (mnam m_X_apply) ∈ gt_ws ∧ 7 < 9 := ⟨gt_in (tb3 (List.mem_of_getElem? (i := 128) rfl)) rfl, gt_in (tb3 (List.mem_of_getElem? (i := 129) rfl)) rfl, by decide⟩
theorem ws_Tb_makeOf : Cond.instanceMethod (mnam m_Tb_makeOf) ∈ gt_ws ∧ Cond.selects (fC 5) (mnam m_Tb_makeOf) (mnam m_Tb_makeOf) ∈ gt_ws ∧ 5 < 9 := ⟨gt_in (tb3 (List.mem_of_getElem? (i := 132) rfl)) rfl, gt_in (tb3 (List.mem_of_getElem? (i := 133) rfl)) rfl, by decide⟩
theorem ws_X_sums : Cond.instanceMethod (mnam m_X_sums) ∈ gt_ws ∧ Cond.selects (fC 7) (mnam m_X_sums) (mnam m_X_sums) ∈ gt_ws ∧ 7 < 9 := ⟨gt_in (tb3 (List.mem_of_getElem? (i := 136) rfl)) rfl, gt_in (tb3 (List.mem_of_getElem? (i := 137) rfl)) rfl, by decide⟩
theorem ws_Tb_sumRows : Cond.instanceMethod (mnam m_Tb_sumRows) ∈ gt_ws ∧ Cond.selects (fC 5) (mnam m_Tb_sumRows) (mnam m_Tb_sumRows) ∈ gt_ws ∧ 5 < 9 := ⟨gt_in (tb3 (List.mem_of_getElem? (i := 140) rfl)) rfl, gt_in (tb3 (List.mem_of_getElem? (i := 141) rfl)) rfl, by decide⟩
theorem ws_Tb_fillColumns : Cond.static (mnam m_Tb_fillColumns) ∈ gt_ws := gt_in (tb3 (List.mem_of_getElem? (i := 144) rfl)) rfl
theorem ws_Tb_termOfSum : Cond.instanceMethod (mnam m_Tb_termOfSum) ∈ gt_ws ∧ Cond.selects (fC 5) (mnam m_Tb_termOfSum) (mnam m_Tb_termOfSum) ∈ gt_ws ∧ 5 < 9 := ⟨gt_in (tb3 (List.mem_of_getElem? (i := 147) rfl)) rfl, gt_in (tb3 (List.mem_of_getElem? (i := 148) rfl)) rfl, by decide⟩
theorem ws_X_kinds : Cond.instanceMethod (mnam m_X_kinds) ∈ gt_ws ∧ Cond.selects (fC 7) (mnam m_X_kinds) (mnam m_X_kinds) ∈ gt_ws ∧ 7 < 9 := ⟨gt_in (tb3 (List.mem_of_getElem? (i := 153) rfl)) rfl, gt_in (tb3 (List.mem_of_getElem? (i := 154) rfl)) rfl, by decide⟩
theorem ws_Tb_kindsOf : Cond.instanceMethod (mnam m_Tb_kindsOf) ∈ gt_ws ∧ Cond.selects (fC 5) (mnam m_Tb_kindsOf) (mnam m_Tb_kindsOf) ∈ gt_ws ∧ 5 < 9 := ⟨gt_in (tb3 (List.mem_of_getElem? (i := 157) rfl)) rfl, gt_in (tb3 (List.mem_of_getElem? (i := 158) rfl)) rfl, by decide⟩
theorem ws_Rw_isT : Cond.static (mnam m_Rw_isT) ∈ gt_ws := gt_in (tb3 (List.mem_of_getElem? (i := 161) rfl)) rfl
theorem ws_Rw_isZeroFrom : Cond.static (mnam m_Rw_isZeroFrom) ∈ gt_ws := gt_in (tb3 (List.mem_of_getElem? (i := 164) rfl)) rfl
theorem ws_Rw_isOne : Cond.static (mnam m_Rw_isOne) ∈ gt_ws := gt_in (tb3 (List.mem_of_getElem? (i := 167) rfl)) rfl
theorem ws_Tb_isShifted : Cond.static (mnam m_Tb_isShifted) ∈ gt_ws := gt_in (tb3 (List.mem_of_getElem? (i := 170) rfl)) rfl
theorem ws_Tb_isDerivative : Cond.static (mnam m_Tb_isDerivative) ∈ gt_ws := gt_in (tb3 (List.mem_of_getElem? (i := 173) rfl)) rfl
theorem ws_Tb_isChequered : Cond.instanceMethod (mnam m_Tb_isChequered) ∈ gt_ws ∧ Cond.selects (fC 5) (mnam m_Tb_isChequered) (mnam m_Tb_isChequered) ∈ gt_ws ∧ 5 < 9 := ⟨gt_in (tb3 (List.mem_of_getElem? (i := 177) rfl)) rfl, gt_in (tb3 (List.mem_of_getElem? (i := 178) rfl)) rfl, by decide⟩
theorem ws_X_differ : Cond.instanceMethod (mnam m_X_differ) ∈ gt_ws ∧ Cond.selects (fC 7) (mnam m_X_differ) (mnam m_X_differ) ∈ gt_ws ∧ 7 < 9 := ⟨gt_in (tb3 (List.mem_of_getElem? (i := 181) rfl)) rfl, gt_in (tb3 (List.mem_of_getElem? (i := 182) rfl)) rfl, by decide⟩
theorem ws_Tb_firstDifference : Cond.instanceMethod (mnam m_Tb_firstDifference) ∈ gt_ws ∧ Cond.selects (fC 5) (mnam m_Tb_firstDifference) (mnam m_Tb_firstDifference) ∈ gt_ws ∧ 5 < 9 := ⟨gt_in (tb3 (List.mem_of_getElem? (i := 185) rfl)) rfl, gt_in (tb3 (List.mem_of_getElem? (i := 186) rfl)) rfl, by decide⟩
theorem ws_Tb_firstOfChangedPlaces : Cond.instanceMethod (mnam m_Tb_firstOfChangedPlaces) ∈ gt_ws ∧ Cond.selects (fC 5) (mnam m_Tb_firstOfChangedPlaces) (mnam m_Tb_firstOfChangedPlaces) ∈ gt_ws ∧ 5 < 9 := ⟨gt_in (tb3 (List.mem_of_getElem? (i := 189) rfl)) rfl, gt_in (tb3 (List.mem_of_getElem? (i := 190) rfl)) rfl, by decide⟩
theorem ws_X_fails : Cond.instanceMethod (mnam m_X_fails) ∈ gt_ws ∧ Cond.selects (fC 7) (mnam m_X_fails) (mnam m_X_fails) ∈ gt_ws ∧ 7 < 9 := ⟨gt_in (tb3 (List.mem_of_getElem? (i := 194) rfl)) rfl, gt_in (tb3 (List.mem_of_getElem? (i := 195) rfl)) rfl, by decide⟩
theorem ws_X_free : Cond.instanceMethod (mnam m_X_free) ∈ gt_ws ∧ Cond.selects (fC 7) (mnam m_X_free) (mnam m_X_free) ∈ gt_ws ∧ 7 < 9 := ⟨gt_in (tb3 (List.mem_of_getElem? (i := 198) rfl)) rfl, gt_in (tb3 (List.mem_of_getElem? (i := 199) rfl)) rfl, by decide⟩
theorem ws_X_set : Cond.instanceMethod (mnam m_X_set) ∈ gt_ws ∧ Cond.selects (fC 7) (mnam m_X_set) (mnam m_X_set) ∈ gt_ws ∧ 7 < 9 := ⟨gt_in (tb3 (List.mem_of_getElem? (i := 202) rfl)) rfl, gt_in (tb3 (List.mem_of_getElem? (i := 203) rfl)) rfl, by decide⟩
theorem ws_X_lay : Cond.instanceMethod (mnam m_X_lay) ∈ gt_ws ∧ Cond.selects (fC 7) (mnam m_X_lay) (mnam m_X_lay) ∈ gt_ws ∧ 7 < 9 := ⟨gt_in (tb3 (List.mem_of_getElem? (i := 206) rfl)) rfl, gt_in (tb3 (List.mem_of_getElem? (i := 207) rfl)) rfl, by decide⟩
theorem ws_Tb_layEntries : Cond.instanceMethod (mnam m_Tb_layEntries) ∈ gt_ws ∧ Cond.selects (fC 5) (mnam m_Tb_layEntries) (mnam m_Tb_layEntries) ∈ gt_ws ∧ 5 < 9 := ⟨gt_in (tb3 (List.mem_of_getElem? (i := 210) rfl)) rfl, gt_in (tb3 (List.mem_of_getElem? (i := 211) rfl)) rfl, by decide⟩
theorem ws_X_unlike : Cond.instanceMethod (mnam m_X_unlike) ∈ gt_ws ∧ Cond.selects (fC 7) (mnam m_X_unlike) (mnam m_X_unlike) ∈ gt_ws ∧ 7 < 9 := ⟨gt_in (tb3 (List.mem_of_getElem? (i := 214) rfl)) rfl, gt_in (tb3 (List.mem_of_getElem? (i := 215) rfl)) rfl, by decide⟩
theorem ws_Tb_recognise : Cond.instanceMethod (mnam m_Tb_recognise) ∈ gt_ws ∧ Cond.selects (fC 5) (mnam m_Tb_recognise) (mnam m_Tb_recognise) ∈ gt_ws ∧ 5 < 9 := ⟨gt_in (tb3 (List.mem_of_getElem? (i := 218) rfl)) rfl, gt_in (tb3 (List.mem_of_getElem? (i := 219) rfl)) rfl, by decide⟩
theorem ws_X_rebuild : Cond.instanceMethod (mnam m_X_rebuild) ∈ gt_ws ∧ Cond.selects (fC 7) (mnam m_X_rebuild) (mnam m_X_rebuild) ∈ gt_ws ∧ 7 < 9 := ⟨gt_in (tb3 (List.mem_of_getElem? (i := 222) rfl)) rfl, gt_in (tb3 (List.mem_of_getElem? (i := 223) rfl)) rfl, by decide⟩
theorem ws_X_drawn : Cond.instanceMethod (mnam m_X_drawn) ∈ gt_ws ∧ Cond.selects (fC 7) (mnam m_X_drawn) (mnam m_X_drawn) ∈ gt_ws ∧ 7 < 9 := ⟨gt_in (tb3 (List.mem_of_getElem? (i := 226) rfl)) rfl, gt_in (tb3 (List.mem_of_getElem? (i := 227) rfl)) rfl, by decide⟩
theorem ws_X_nextSeed : Cond.static (mnam m_X_nextSeed) ∈ gt_ws := gt_in (tb3 (List.mem_of_getElem? (i := 230) rfl)) rfl
theorem ws_X_drawOf : Cond.static (mnam m_X_drawOf) ∈ gt_ws := gt_in (tb3 (List.mem_of_getElem? (i := 234) rfl)) rfl
theorem ws_St_sumOfSeries : Cond.instanceMethod (mnam m_St_sumOfSeries) ∈ gt_ws ∧ Cond.selects (fC 3) (mnam m_St_sumOfSeries) (mnam m_St_sumOfSeries) ∈ gt_ws ∧ 3 < 9 := ⟨gt_in (tb3 (List.mem_of_getElem? (i := 237) rfl)) rfl, gt_in (tb3 (List.mem_of_getElem? (i := 238) rfl)) rfl, by decide⟩
theorem ws_X_undo : Cond.instanceMethod (mnam m_X_undo) ∈ gt_ws ∧ Cond.selects (fC 7) (mnam m_X_undo) (mnam m_X_undo) ∈ gt_ws ∧ 7 < 9 := ⟨gt_in (tb4 (List.mem_of_getElem? (i := 2) rfl)) rfl, gt_in (tb4 (List.mem_of_getElem? (i := 3) rfl)) rfl, by decide⟩
theorem ws_Hi_takeBack : Cond.instanceMethod (mnam m_Hi_takeBack) ∈ gt_ws ∧ Cond.selects (fC 0) (mnam m_Hi_takeBack) (mnam m_Hi_takeBack) ∈ gt_ws ∧ 0 < 9 := ⟨gt_in (tb4 (List.mem_of_getElem? (i := 6) rfl)) rfl, gt_in (tb4 (List.mem_of_getElem? (i := 7) rfl)) rfl, by decide⟩
theorem ws_X_image : Cond.instanceMethod (mnam m_X_image) ∈ gt_ws ∧ Cond.selects (fC 7) (mnam m_X_image) (mnam m_X_image) ∈ gt_ws ∧ 7 < 9 := ⟨gt_in (tb4 (List.mem_of_getElem? (i := 10) rfl)) rfl, gt_in (tb4 (List.mem_of_getElem? (i := 11) rfl)) rfl, by decide⟩
theorem ws_X_restore : Cond.instanceMethod (mnam m_X_restore) ∈ gt_ws ∧ Cond.selects (fC 7) (mnam m_X_restore) (mnam m_X_restore) ∈ gt_ws ∧ 7 < 9 := ⟨gt_in (tb4 (List.mem_of_getElem? (i := 14) rfl)) rfl, gt_in (tb4 (List.mem_of_getElem? (i := 15) rfl)) rfl, by decide⟩
theorem ws_X_entry : Cond.instanceMethod (mnam m_X_entry) ∈ gt_ws ∧ Cond.selects (fC 7) (mnam m_X_entry) (mnam m_X_entry) ∈ gt_ws ∧ 7 < 9 := ⟨gt_in (tb4 (List.mem_of_getElem? (i := 22) rfl)) rfl, gt_in (tb4 (List.mem_of_getElem? (i := 23) rfl)) rfl, by decide⟩
theorem ws_X_production : Cond.instanceMethod (mnam m_X_production) ∈ gt_ws ∧ Cond.selects (fC 7) (mnam m_X_production) (mnam m_X_production) ∈ gt_ws ∧ 7 < 9 := ⟨gt_in (tb4 (List.mem_of_getElem? (i := 90) rfl)) rfl, gt_in (tb4 (List.mem_of_getElem? (i := 91) rfl)) rfl, by decide⟩
theorem ws_X_isWithinProduction : Cond.instanceMethod (mnam m_X_isWithinProduction) ∈ gt_ws ∧ Cond.selects (fC 7) (mnam m_X_isWithinProduction) (mnam m_X_isWithinProduction) ∈ gt_ws ∧ 7 < 9 := ⟨gt_in (tb4 (List.mem_of_getElem? (i := 95) rfl)) rfl, gt_in (tb0 (List.mem_of_getElem? (i := 6) rfl)) rfl, by decide⟩
theorem ws_Tb_productionOf : Cond.instanceMethod (mnam m_Tb_productionOf) ∈ gt_ws ∧ Cond.selects (fC 5) (mnam m_Tb_productionOf) (mnam m_Tb_productionOf) ∈ gt_ws ∧ 5 < 9 := ⟨gt_in (tb4 (List.mem_of_getElem? (i := 98) rfl)) rfl, gt_in (tb4 (List.mem_of_getElem? (i := 99) rfl)) rfl, by decide⟩
theorem ws_Md_thrown : Cond.instanceMethod (mnam m_Md_thrown) ∈ gt_ws ∧ Cond.selects (fC 8) (mnam m_Md_thrown) (mnam m_Md_thrown) ∈ gt_ws ∧ 8 < 9 := ⟨gt_in (tb4 (List.mem_of_getElem? (i := 103) rfl)) rfl, gt_in (tb4 (List.mem_of_getElem? (i := 104) rfl)) rfl, by decide⟩
theorem ws_Md_feed : Cond.instanceMethod (mnam m_Md_feed) ∈ gt_ws ∧ Cond.selects (fC 8) (mnam m_Md_feed) (mnam m_Md_feed) ∈ gt_ws ∧ 8 < 9 := ⟨gt_in (tb4 (List.mem_of_getElem? (i := 107) rfl)) rfl, gt_in (tb4 (List.mem_of_getElem? (i := 108) rfl)) rfl, by decide⟩
theorem ws_Md_lays : Cond.instanceMethod (mnam m_Md_lays) ∈ gt_ws ∧ Cond.selects (fC 8) (mnam m_Md_lays) (mnam m_Md_lays) ∈ gt_ws ∧ 8 < 9 := ⟨gt_in (tb4 (List.mem_of_getElem? (i := 112) rfl)) rfl, gt_in (tb0 (List.mem_of_getElem? (i := 7) rfl)) rfl, by decide⟩
theorem ws_Md_end : Cond.instanceMethod (mnam m_Md_end) ∈ gt_ws ∧ Cond.selects (fC 8) (mnam m_Md_end) (mnam m_Md_end) ∈ gt_ws ∧ 8 < 9 := ⟨gt_in (tb4 (List.mem_of_getElem? (i := 116) rfl)) rfl, gt_in (tb4 (List.mem_of_getElem? (i := 117) rfl)) rfl, by decide⟩
theorem ws_Md_init : Cond.instanceMethod (mnam m_Md_init) ∈ gt_ws ∧ (mnam m_Md_init).name = "<init>" ∧ mrt m_Md_init = none := ⟨gt_in (tb4 (List.mem_of_getElem? (i := 121) rfl)) rfl, rfl, rfl⟩
theorem ws_Md_text : Cond.instanceMethod (mnam m_Md_text) ∈ gt_ws ∧ Cond.selects (fC 8) (mnam m_Md_text) (mnam m_Md_text) ∈ gt_ws ∧ 8 < 9 := ⟨gt_in (tb4 (List.mem_of_getElem? (i := 219) rfl)) rfl, gt_in (tb4 (List.mem_of_getElem? (i := 220) rfl)) rfl, by decide⟩
theorem ws_Md_next : Cond.instanceMethod (mnam m_Md_next) ∈ gt_ws ∧ Cond.selects (fC 8) (mnam m_Md_next) (mnam m_Md_next) ∈ gt_ws ∧ 8 < 9 := ⟨gt_in (tb4 (List.mem_of_getElem? (i := 224) rfl)) rfl, gt_in (tb0 (List.mem_of_getElem? (i := 8) rfl)) rfl, by decide⟩
theorem ws_Md_isLetter : Cond.static (mnam m_Md_isLetter) ∈ gt_ws := gt_in (tb4 (List.mem_of_getElem? (i := 227) rfl)) rfl
theorem ws_Md_isDigit : Cond.static (mnam m_Md_isDigit) ∈ gt_ws := gt_in (tb4 (List.mem_of_getElem? (i := 230) rfl)) rfl
theorem ws_Md_tapeAt : Cond.instanceMethod (mnam m_Md_tapeAt) ∈ gt_ws ∧ Cond.selects (fC 8) (mnam m_Md_tapeAt) (mnam m_Md_tapeAt) ∈ gt_ws ∧ 8 < 9 := ⟨gt_in (tb4 (List.mem_of_getElem? (i := 234) rfl)) rfl, gt_in (tb0 (List.mem_of_getElem? (i := 9) rfl)) rfl, by decide⟩
theorem ws_Md_readLine : Cond.instanceMethod (mnam m_Md_readLine) ∈ gt_ws ∧ Cond.selects (fC 8) (mnam m_Md_readLine) (mnam m_Md_readLine) ∈ gt_ws ∧ 8 < 9 := ⟨gt_in (tb4 (List.mem_of_getElem? (i := 238) rfl)) rfl, gt_in (tb0 (List.mem_of_getElem? (i := 10) rfl)) rfl, by decide⟩
theorem ws_Md_isWord : Cond.instanceMethod (mnam m_Md_isWord) ∈ gt_ws ∧ Cond.selects (fC 8) (mnam m_Md_isWord) (mnam m_Md_isWord) ∈ gt_ws ∧ 8 < 9 := ⟨gt_in (tb5 (List.mem_of_getElem? (i := 2) rfl)) rfl, gt_in (tb0 (List.mem_of_getElem? (i := 11) rfl)) rfl, by decide⟩
theorem ws_Md_readSize : Cond.instanceMethod (mnam m_Md_readSize) ∈ gt_ws ∧ Cond.selects (fC 8) (mnam m_Md_readSize) (mnam m_Md_readSize) ∈ gt_ws ∧ 8 < 9 := ⟨gt_in (tb5 (List.mem_of_getElem? (i := 6) rfl)) rfl, gt_in (tb0 (List.mem_of_getElem? (i := 12) rfl)) rfl, by decide⟩
theorem ws_Md_bad : Cond.instanceMethod (mnam m_Md_bad) ∈ gt_ws ∧ Cond.selects (fC 8) (mnam m_Md_bad) (mnam m_Md_bad) ∈ gt_ws ∧ 8 < 9 := ⟨gt_in (tb5 (List.mem_of_getElem? (i := 10) rfl)) rfl, gt_in (tb0 (List.mem_of_getElem? (i := 13) rfl)) rfl, by decide⟩
theorem ws_Md_isIn : Cond.static (mnam m_Md_isIn) ∈ gt_ws := gt_in (tb5 (List.mem_of_getElem? (i := 13) rfl)) rfl
theorem ws_Md_readSeries : Cond.instanceMethod (mnam m_Md_readSeries) ∈ gt_ws ∧ Cond.selects (fC 8) (mnam m_Md_readSeries) (mnam m_Md_readSeries) ∈ gt_ws ∧ 8 < 9 := ⟨gt_in (tb5 (List.mem_of_getElem? (i := 17) rfl)) rfl, gt_in (tb0 (List.mem_of_getElem? (i := 14) rfl)) rfl, by decide⟩
theorem ws_Md_readSum : Cond.instanceMethod (mnam m_Md_readSum) ∈ gt_ws ∧ Cond.selects (fC 8) (mnam m_Md_readSum) (mnam m_Md_readSum) ∈ gt_ws ∧ 8 < 9 := ⟨gt_in (tb5 (List.mem_of_getElem? (i := 21) rfl)) rfl, gt_in (tb0 (List.mem_of_getElem? (i := 15) rfl)) rfl, by decide⟩
theorem ws_Md_rest : Cond.static (mnam m_Md_rest) ∈ gt_ws := gt_in (tb5 (List.mem_of_getElem? (i := 24) rfl)) rfl
theorem ws_Md_divides : Cond.static (mnam m_Md_divides) ∈ gt_ws := gt_in (tb5 (List.mem_of_getElem? (i := 28) rfl)) rfl
theorem ws_Md_turned : Cond.static (mnam m_Md_turned) ∈ gt_ws := gt_in (tb5 (List.mem_of_getElem? (i := 31) rfl)) rfl
theorem ws_Md_readTable : Cond.instanceMethod (mnam m_Md_readTable) ∈ gt_ws ∧ Cond.selects (fC 8) (mnam m_Md_readTable) (mnam m_Md_readTable) ∈ gt_ws ∧ 8 < 9 := ⟨gt_in (tb5 (List.mem_of_getElem? (i := 36) rfl)) rfl, gt_in (tb0 (List.mem_of_getElem? (i := 16) rfl)) rfl, by decide⟩
theorem ws_Md_makesTable : Cond.static (mnam m_Md_makesTable) ∈ gt_ws := gt_in (tb5 (List.mem_of_getElem? (i := 39) rfl)) rfl
theorem ws_Md_readEnd : Cond.instanceMethod (mnam m_Md_readEnd) ∈ gt_ws ∧ Cond.selects (fC 8) (mnam m_Md_readEnd) (mnam m_Md_readEnd) ∈ gt_ws ∧ 8 < 9 := ⟨gt_in (tb5 (List.mem_of_getElem? (i := 43) rfl)) rfl, gt_in (tb0 (List.mem_of_getElem? (i := 17) rfl)) rfl, by decide⟩
theorem ws_Md_copy : Cond.static (mnam m_Md_copy) ∈ gt_ws := gt_in (tb5 (List.mem_of_getElem? (i := 46) rfl)) rfl
theorem ws_Md_fault : Cond.instanceMethod (mnam m_Md_fault) ∈ gt_ws ∧ Cond.selects (fC 8) (mnam m_Md_fault) (mnam m_Md_fault) ∈ gt_ws ∧ 8 < 9 := ⟨gt_in (tb5 (List.mem_of_getElem? (i := 49) rfl)) rfl, gt_in (tb5 (List.mem_of_getElem? (i := 50) rfl)) rfl, by decide⟩
theorem ws_Md_now : Cond.instanceMethod (mnam m_Md_now) ∈ gt_ws ∧ Cond.selects (fC 8) (mnam m_Md_now) (mnam m_Md_now) ∈ gt_ws ∧ 8 < 9 := ⟨gt_in (tb5 (List.mem_of_getElem? (i := 53) rfl)) rfl, gt_in (tb5 (List.mem_of_getElem? (i := 54) rfl)) rfl, by decide⟩
theorem ws_Md_wide : Cond.instanceMethod (mnam m_Md_wide) ∈ gt_ws ∧ Cond.selects (fC 8) (mnam m_Md_wide) (mnam m_Md_wide) ∈ gt_ws ∧ 8 < 9 := ⟨gt_in (tb5 (List.mem_of_getElem? (i := 58) rfl)) rfl, gt_in (tb0 (List.mem_of_getElem? (i := 18) rfl)) rfl, by decide⟩
theorem ws_Md_at : Cond.instanceMethod (mnam m_Md_at) ∈ gt_ws ∧ Cond.selects (fC 8) (mnam m_Md_at) (mnam m_Md_at) ∈ gt_ws ∧ 8 < 9 := ⟨gt_in (tb5 (List.mem_of_getElem? (i := 61) rfl)) rfl, gt_in (tb5 (List.mem_of_getElem? (i := 62) rfl)) rfl, by decide⟩
theorem ws_Md_isSeries : Cond.instanceMethod (mnam m_Md_isSeries) ∈ gt_ws ∧ Cond.selects (fC 8) (mnam m_Md_isSeries) (mnam m_Md_isSeries) ∈ gt_ws ∧ 8 < 9 := ⟨gt_in (tb5 (List.mem_of_getElem? (i := 66) rfl)) rfl, gt_in (tb0 (List.mem_of_getElem? (i := 19) rfl)) rfl, by decide⟩
theorem ws_Md_isPlace : Cond.instanceMethod (mnam m_Md_isPlace) ∈ gt_ws ∧ Cond.selects (fC 8) (mnam m_Md_isPlace) (mnam m_Md_isPlace) ∈ gt_ws ∧ 8 < 9 := ⟨gt_in (tb5 (List.mem_of_getElem? (i := 70) rfl)) rfl, gt_in (tb0 (List.mem_of_getElem? (i := 20) rfl)) rfl, by decide⟩
theorem ws_Md_put : Cond.instanceMethod (mnam m_Md_put) ∈ gt_ws ∧ Cond.selects (fC 8) (mnam m_Md_put) (mnam m_Md_put) ∈ gt_ws ∧ 8 < 9 := ⟨gt_in (tb5 (List.mem_of_getElem? (i := 73) rfl)) rfl, gt_in (tb5 (List.mem_of_getElem? (i := 74) rfl)) rfl, by decide⟩
theorem ws_Md_snap : Cond.instanceMethod (mnam m_Md_snap) ∈ gt_ws ∧ Cond.selects (fC 8) (mnam m_Md_snap) (mnam m_Md_snap) ∈ gt_ws ∧ 8 < 9 := ⟨gt_in (tb5 (List.mem_of_getElem? (i := 78) rfl)) rfl, gt_in (tb0 (List.mem_of_getElem? (i := 21) rfl)) rfl, by decide⟩
theorem ws_Md_make : Cond.instanceMethod (mnam m_Md_make) ∈ gt_ws ∧ Cond.selects (fC 8) (mnam m_Md_make) (mnam m_Md_make) ∈ gt_ws ∧ 8 < 9 := ⟨gt_in (tb5 (List.mem_of_getElem? (i := 81) rfl)) rfl, gt_in (tb5 (List.mem_of_getElem? (i := 82) rfl)) rfl, by decide⟩
theorem ws_Md_takes : Cond.instanceMethod (mnam m_Md_takes) ∈ gt_ws ∧ Cond.selects (fC 8) (mnam m_Md_takes) (mnam m_Md_takes) ∈ gt_ws ∧ 8 < 9 := ⟨gt_in (tb5 (List.mem_of_getElem? (i := 86) rfl)) rfl, gt_in (tb0 (List.mem_of_getElem? (i := 22) rfl)) rfl, by decide⟩
theorem ws_Md_multiplies : Cond.static (mnam m_Md_multiplies) ∈ gt_ws := gt_in (tb5 (List.mem_of_getElem? (i := 89) rfl)) rfl
theorem ws_Md_laysUnit : Cond.instanceMethod (mnam m_Md_laysUnit) ∈ gt_ws ∧ Cond.selects (fC 8) (mnam m_Md_laysUnit) (mnam m_Md_laysUnit) ∈ gt_ws ∧ 8 < 9 := ⟨gt_in (tb5 (List.mem_of_getElem? (i := 93) rfl)) rfl, gt_in (tb0 (List.mem_of_getElem? (i := 23) rfl)) rfl, by decide⟩
theorem ws_Md_columns : Cond.instanceMethod (mnam m_Md_columns) ∈ gt_ws ∧ Cond.selects (fC 8) (mnam m_Md_columns) (mnam m_Md_columns) ∈ gt_ws ∧ 8 < 9 := ⟨gt_in (tb5 (List.mem_of_getElem? (i := 97) rfl)) rfl, gt_in (tb0 (List.mem_of_getElem? (i := 24) rfl)) rfl, by decide⟩
theorem ws_Md_makes : Cond.instanceMethod (mnam m_Md_makes) ∈ gt_ws ∧ Cond.selects (fC 8) (mnam m_Md_makes) (mnam m_Md_makes) ∈ gt_ws ∧ 8 < 9 := ⟨gt_in (tb5 (List.mem_of_getElem? (i := 101) rfl)) rfl, gt_in (tb0 (List.mem_of_getElem? (i := 25) rfl)) rfl, by decide⟩
theorem ws_Md_comes : Cond.instanceMethod (mnam m_Md_comes) ∈ gt_ws ∧ Cond.selects (fC 8) (mnam m_Md_comes) (mnam m_Md_comes) ∈ gt_ws ∧ 8 < 9 := ⟨gt_in (tb5 (List.mem_of_getElem? (i := 105) rfl)) rfl, gt_in (tb0 (List.mem_of_getElem? (i := 26) rfl)) rfl, by decide⟩
theorem ws_Md_turn : Cond.instanceMethod (mnam m_Md_turn) ∈ gt_ws ∧ Cond.selects (fC 8) (mnam m_Md_turn) (mnam m_Md_turn) ∈ gt_ws ∧ 8 < 9 := ⟨gt_in (tb5 (List.mem_of_getElem? (i := 108) rfl)) rfl, gt_in (tb5 (List.mem_of_getElem? (i := 109) rfl)) rfl, by decide⟩
theorem ws_Md_reverses : Cond.instanceMethod (mnam m_Md_reverses) ∈ gt_ws ∧ Cond.selects (fC 8) (mnam m_Md_reverses) (mnam m_Md_reverses) ∈ gt_ws ∧ 8 < 9 := ⟨gt_in (tb5 (List.mem_of_getElem? (i := 113) rfl)) rfl, gt_in (tb0 (List.mem_of_getElem? (i := 27) rfl)) rfl, by decide⟩
theorem ws_Md_ones : Cond.static (mnam m_Md_ones) ∈ gt_ws := gt_in (tb5 (List.mem_of_getElem? (i := 116) rfl)) rfl
theorem ws_Md_solves : Cond.static (mnam m_Md_solves) ∈ gt_ws := gt_in (tb5 (List.mem_of_getElem? (i := 119) rfl)) rfl
theorem ws_Md_raise : Cond.instanceMethod (mnam m_Md_raise) ∈ gt_ws ∧ Cond.selects (fC 8) (mnam m_Md_raise) (mnam m_Md_raise) ∈ gt_ws ∧ 8 < 9 := ⟨gt_in (tb5 (List.mem_of_getElem? (i := 122) rfl)) rfl, gt_in (tb5 (List.mem_of_getElem? (i := 123) rfl)) rfl, by decide⟩
theorem ws_Md_pair : Cond.instanceMethod (mnam m_Md_pair) ∈ gt_ws ∧ Cond.selects (fC 8) (mnam m_Md_pair) (mnam m_Md_pair) ∈ gt_ws ∧ 8 < 9 := ⟨gt_in (tb5 (List.mem_of_getElem? (i := 126) rfl)) rfl, gt_in (tb5 (List.mem_of_getElem? (i := 127) rfl)) rfl, by decide⟩
theorem ws_Md_isTable : Cond.instanceMethod (mnam m_Md_isTable) ∈ gt_ws ∧ Cond.selects (fC 8) (mnam m_Md_isTable) (mnam m_Md_isTable) ∈ gt_ws ∧ 8 < 9 := ⟨gt_in (tb5 (List.mem_of_getElem? (i := 131) rfl)) rfl, gt_in (tb0 (List.mem_of_getElem? (i := 28) rfl)) rfl, by decide⟩
theorem ws_Md_comesAs : Cond.instanceMethod (mnam m_Md_comesAs) ∈ gt_ws ∧ Cond.selects (fC 8) (mnam m_Md_comesAs) (mnam m_Md_comesAs) ∈ gt_ws ∧ 8 < 9 := ⟨gt_in (tb5 (List.mem_of_getElem? (i := 135) rfl)) rfl, gt_in (tb0 (List.mem_of_getElem? (i := 29) rfl)) rfl, by decide⟩
theorem ws_Md_entry : Cond.instanceMethod (mnam m_Md_entry) ∈ gt_ws ∧ Cond.selects (fC 8) (mnam m_Md_entry) (mnam m_Md_entry) ∈ gt_ws ∧ 8 < 9 := ⟨gt_in (tb5 (List.mem_of_getElem? (i := 138) rfl)) rfl, gt_in (tb5 (List.mem_of_getElem? (i := 139) rfl)) rfl, by decide⟩
theorem ws_Md_refuse : Cond.instanceMethod (mnam m_Md_refuse) ∈ gt_ws ∧ Cond.selects (fC 8) (mnam m_Md_refuse) (mnam m_Md_refuse) ∈ gt_ws ∧ 8 < 9 := ⟨gt_in (tb5 (List.mem_of_getElem? (i := 143) rfl)) rfl, gt_in (tb0 (List.mem_of_getElem? (i := 30) rfl)) rfl, by decide⟩
theorem ws_Md_matrix : Cond.instanceMethod (mnam m_Md_matrix) ∈ gt_ws ∧ Cond.selects (fC 8) (mnam m_Md_matrix) (mnam m_Md_matrix) ∈ gt_ws ∧ 8 < 9 := ⟨gt_in (tb5 (List.mem_of_getElem? (i := 147) rfl)) rfl, gt_in (tb0 (List.mem_of_getElem? (i := 31) rfl)) rfl, by decide⟩
theorem ws_Md_times : Cond.instanceMethod (mnam m_Md_times) ∈ gt_ws ∧ Cond.selects (fC 8) (mnam m_Md_times) (mnam m_Md_times) ∈ gt_ws ∧ 8 < 9 := ⟨gt_in (tb5 (List.mem_of_getElem? (i := 150) rfl)) rfl, gt_in (tb5 (List.mem_of_getElem? (i := 151) rfl)) rfl, by decide⟩
theorem ws_Md_product : Cond.static (mnam m_Md_product) ∈ gt_ws := gt_in (tb5 (List.mem_of_getElem? (i := 154) rfl)) rfl
theorem ws_Md_power : Cond.instanceMethod (mnam m_Md_power) ∈ gt_ws ∧ Cond.selects (fC 8) (mnam m_Md_power) (mnam m_Md_power) ∈ gt_ws ∧ 8 < 9 := ⟨gt_in (tb5 (List.mem_of_getElem? (i := 157) rfl)) rfl, gt_in (tb5 (List.mem_of_getElem? (i := 158) rfl)) rfl, by decide⟩
theorem ws_Md_part : Cond.instanceMethod (mnam m_Md_part) ∈ gt_ws ∧ Cond.selects (fC 8) (mnam m_Md_part) (mnam m_Md_part) ∈ gt_ws ∧ 8 < 9 := ⟨gt_in (tb5 (List.mem_of_getElem? (i := 161) rfl)) rfl, gt_in (tb5 (List.mem_of_getElem? (i := 162) rfl)) rfl, by decide⟩
theorem ws_Md_laysProduction : Cond.instanceMethod (mnam m_Md_laysProduction) ∈ gt_ws ∧ Cond.selects (fC 8) (mnam m_Md_laysProduction) (mnam m_Md_laysProduction) ∈ gt_ws ∧ 8 < 9 := ⟨gt_in (tb5 (List.mem_of_getElem? (i := 166) rfl)) rfl, gt_in (tb0 (List.mem_of_getElem? (i := 32) rfl)) rfl, by decide⟩
theorem ws_Md_apply : Cond.instanceMethod (mnam m_Md_apply) ∈ gt_ws ∧ Cond.selects (fC 8) (mnam m_Md_apply) (mnam m_Md_apply) ∈ gt_ws ∧ 8 < 9 := ⟨gt_in (tb5 (List.mem_of_getElem? (i := 169) rfl)) rfl, gt_in (tb5 (List.mem_of_getElem? (i := 170) rfl)) rfl, by decide⟩
theorem ws_Md_sums : Cond.instanceMethod (mnam m_Md_sums) ∈ gt_ws ∧ Cond.selects (fC 8) (mnam m_Md_sums) (mnam m_Md_sums) ∈ gt_ws ∧ 8 < 9 := ⟨gt_in (tb5 (List.mem_of_getElem? (i := 173) rfl)) rfl, gt_in (tb5 (List.mem_of_getElem? (i := 174) rfl)) rfl, by decide⟩
theorem ws_Md_production : Cond.instanceMethod (mnam m_Md_production) ∈ gt_ws ∧ Cond.selects (fC 8) (mnam m_Md_production) (mnam m_Md_production) ∈ gt_ws ∧ 8 < 9 := ⟨gt_in (tb5 (List.mem_of_getElem? (i := 177) rfl)) rfl, gt_in (tb5 (List.mem_of_getElem? (i := 178) rfl)) rfl, by decide⟩
theorem ws_Md_kinds : Cond.instanceMethod (mnam m_Md_kinds) ∈ gt_ws ∧ Cond.selects (fC 8) (mnam m_Md_kinds) (mnam m_Md_kinds) ∈ gt_ws ∧ 8 < 9 := ⟨gt_in (tb5 (List.mem_of_getElem? (i := 181) rfl)) rfl, gt_in (tb5 (List.mem_of_getElem? (i := 182) rfl)) rfl, by decide⟩
theorem ws_Md_kindsOf : Cond.instanceMethod (mnam m_Md_kindsOf) ∈ gt_ws ∧ Cond.selects (fC 8) (mnam m_Md_kindsOf) (mnam m_Md_kindsOf) ∈ gt_ws ∧ 8 < 9 := ⟨gt_in (tb5 (List.mem_of_getElem? (i := 186) rfl)) rfl, gt_in (tb0 (List.mem_of_getElem? (i := 33) rfl)) rfl, by decide⟩
theorem ws_Md_unlikeAt : Cond.instanceMethod (mnam m_Md_unlikeAt) ∈ gt_ws ∧ Cond.selects (fC 8) (mnam m_Md_unlikeAt) (mnam m_Md_unlikeAt) ∈ gt_ws ∧ 8 < 9 := ⟨gt_in (tb5 (List.mem_of_getElem? (i := 190) rfl)) rfl, gt_in (tb0 (List.mem_of_getElem? (i := 34) rfl)) rfl, by decide⟩
theorem ws_Md_differ : Cond.instanceMethod (mnam m_Md_differ) ∈ gt_ws ∧ Cond.selects (fC 8) (mnam m_Md_differ) (mnam m_Md_differ) ∈ gt_ws ∧ 8 < 9 := ⟨gt_in (tb5 (List.mem_of_getElem? (i := 193) rfl)) rfl, gt_in (tb5 (List.mem_of_getElem? (i := 194) rfl)) rfl, by decide⟩
theorem ws_Md_fails : Cond.instanceMethod (mnam m_Md_fails) ∈ gt_ws ∧ Cond.selects (fC 8) (mnam m_Md_fails) (mnam m_Md_fails) ∈ gt_ws ∧ 8 < 9 := ⟨gt_in (tb5 (List.mem_of_getElem? (i := 197) rfl)) rfl, gt_in (tb5 (List.mem_of_getElem? (i := 198) rfl)) rfl, by decide⟩
theorem ws_Md_free : Cond.instanceMethod (mnam m_Md_free) ∈ gt_ws ∧ Cond.selects (fC 8) (mnam m_Md_free) (mnam m_Md_free) ∈ gt_ws ∧ 8 < 9 := ⟨gt_in (tb5 (List.mem_of_getElem? (i := 201) rfl)) rfl, gt_in (tb5 (List.mem_of_getElem? (i := 202) rfl)) rfl, by decide⟩
theorem ws_Md_set : Cond.instanceMethod (mnam m_Md_set) ∈ gt_ws ∧ Cond.selects (fC 8) (mnam m_Md_set) (mnam m_Md_set) ∈ gt_ws ∧ 8 < 9 := ⟨gt_in (tb5 (List.mem_of_getElem? (i := 205) rfl)) rfl, gt_in (tb5 (List.mem_of_getElem? (i := 206) rfl)) rfl, by decide⟩
theorem ws_Md_lay : Cond.instanceMethod (mnam m_Md_lay) ∈ gt_ws ∧ Cond.selects (fC 8) (mnam m_Md_lay) (mnam m_Md_lay) ∈ gt_ws ∧ 8 < 9 := ⟨gt_in (tb5 (List.mem_of_getElem? (i := 209) rfl)) rfl, gt_in (tb5 (List.mem_of_getElem? (i := 210) rfl)) rfl, by decide⟩
theorem ws_Md_unlike : Cond.instanceMethod (mnam m_Md_unlike) ∈ gt_ws ∧ Cond.selects (fC 8) (mnam m_Md_unlike) (mnam m_Md_unlike) ∈ gt_ws ∧ 8 < 9 := ⟨gt_in (tb5 (List.mem_of_getElem? (i := 213) rfl)) rfl, gt_in (tb5 (List.mem_of_getElem? (i := 214) rfl)) rfl, by decide⟩
theorem ws_Md_unlikeNow : Cond.instanceMethod (mnam m_Md_unlikeNow) ∈ gt_ws ∧ Cond.selects (fC 8) (mnam m_Md_unlikeNow) (mnam m_Md_unlikeNow) ∈ gt_ws ∧ 8 < 9 := ⟨gt_in (tb5 (List.mem_of_getElem? (i := 218) rfl)) rfl, gt_in (tb0 (List.mem_of_getElem? (i := 35) rfl)) rfl, by decide⟩
theorem ws_Md_rebuild : Cond.instanceMethod (mnam m_Md_rebuild) ∈ gt_ws ∧ Cond.selects (fC 8) (mnam m_Md_rebuild) (mnam m_Md_rebuild) ∈ gt_ws ∧ 8 < 9 := ⟨gt_in (tb5 (List.mem_of_getElem? (i := 221) rfl)) rfl, gt_in (tb5 (List.mem_of_getElem? (i := 222) rfl)) rfl, by decide⟩
theorem ws_Md_drawn : Cond.instanceMethod (mnam m_Md_drawn) ∈ gt_ws ∧ Cond.selects (fC 8) (mnam m_Md_drawn) (mnam m_Md_drawn) ∈ gt_ws ∧ 8 < 9 := ⟨gt_in (tb5 (List.mem_of_getElem? (i := 225) rfl)) rfl, gt_in (tb5 (List.mem_of_getElem? (i := 226) rfl)) rfl, by decide⟩
theorem ws_Md_draw : Cond.instanceMethod (mnam m_Md_draw) ∈ gt_ws ∧ Cond.selects (fC 8) (mnam m_Md_draw) (mnam m_Md_draw) ∈ gt_ws ∧ 8 < 9 := ⟨gt_in (tb5 (List.mem_of_getElem? (i := 230) rfl)) rfl, gt_in (tb0 (List.mem_of_getElem? (i := 36) rfl)) rfl, by decide⟩
theorem ws_Md_undo : Cond.instanceMethod (mnam m_Md_undo) ∈ gt_ws ∧ Cond.selects (fC 8) (mnam m_Md_undo) (mnam m_Md_undo) ∈ gt_ws ∧ 8 < 9 := ⟨gt_in (tb5 (List.mem_of_getElem? (i := 234) rfl)) rfl, gt_in (tb5 (List.mem_of_getElem? (i := 235) rfl)) rfl, by decide⟩
theorem ws_Md_image : Cond.instanceMethod (mnam m_Md_image) ∈ gt_ws ∧ Cond.selects (fC 8) (mnam m_Md_image) (mnam m_Md_image) ∈ gt_ws ∧ 8 < 9 := ⟨gt_in (tb5 (List.mem_of_getElem? (i := 238) rfl)) rfl, gt_in (tb5 (List.mem_of_getElem? (i := 239) rfl)) rfl, by decide⟩
theorem ws_Md_restore : Cond.instanceMethod (mnam m_Md_restore) ∈ gt_ws ∧ Cond.selects (fC 8) (mnam m_Md_restore) (mnam m_Md_restore) ∈ gt_ws ∧ 8 < 9 := ⟨gt_in (tb6 (List.mem_of_getElem? (i := 2) rfl)) rfl, gt_in (tb6 (List.mem_of_getElem? (i := 3) rfl)) rfl, by decide⟩
theorem k_X_1 : Cond.methodLink "SeriesTables" 1 objectInit ∈ gt_ws := gt_in (tb1 (List.mem_of_getElem? (i := 27) rfl)) rfl
theorem n_X_7 : NWk "SeriesTables" 7 1 := ⟨by decide, gt_in (tb1 (List.mem_of_getElem? (i := 30) rfl)) rfl, gt_in (tb1 (List.mem_of_getElem? (i := 31) rfl)) rfl, gt_in (tb1 (List.mem_of_getElem? (i := 2) rfl)) rfl⟩
theorem k_X_9 : LKd "SeriesTables" 9 0 m_Re_init := ⟨w_Re_init, wi_Re, gt_in (tb1 (List.mem_of_getElem? (i := 32) rfl)) rfl, by decide +kernel, by decide⟩
theorem f_X_10 : FLk "SeriesTables" 10 7 1 := ⟨by decide, by decide, gt_in (tb1 (List.mem_of_getElem? (i := 224) rfl)) rfl⟩
theorem f_X_16 : FLk "SeriesTables" 16 1 1 := ⟨by decide, by decide, gt_in (tb1 (List.mem_of_getElem? (i := 100) rfl)) rfl⟩
theorem f_X_20 : FLk "SeriesTables" 20 7 0 := ⟨by decide, by decide, gt_in (tb1 (List.mem_of_getElem? (i := 223) rfl)) rfl⟩
theorem n_X_21 : NWk "SeriesTables" 21 3 := ⟨by decide, gt_in (tb1 (List.mem_of_getElem? (i := 142) rfl)) rfl, gt_in (tb1 (List.mem_of_getElem? (i := 37) rfl)) rfl, gt_in (tb1 (List.mem_of_getElem? (i := 3) rfl)) rfl⟩
theorem k_X_23 : LKd "SeriesTables" 23 0 m_St_init := ⟨w_St_init, wi_St, gt_in (tb1 (List.mem_of_getElem? (i := 143) rfl)) rfl, by decide +kernel, by decide⟩
theorem f_X_24 : FLk "SeriesTables" 24 7 2 := ⟨by decide, by decide, gt_in (tb1 (List.mem_of_getElem? (i := 225) rfl)) rfl⟩
theorem n_X_28 : NWk "SeriesTables" 28 0 := ⟨by decide, gt_in (tb1 (List.mem_of_getElem? (i := 144) rfl)) rfl, gt_in (tb1 (List.mem_of_getElem? (i := 145) rfl)) rfl, gt_in (tb1 (List.mem_of_getElem? (i := 6) rfl)) rfl⟩
theorem k_X_30 : LKd "SeriesTables" 30 0 m_Hi_init := ⟨w_Hi_init, wi_Hi, gt_in (tb1 (List.mem_of_getElem? (i := 146) rfl)) rfl, by decide +kernel, by decide⟩
theorem f_X_31 : FLk "SeriesTables" 31 7 3 := ⟨by decide, by decide, gt_in (tb1 (List.mem_of_getElem? (i := 226) rfl)) rfl⟩
theorem f_X_35 : FLk "SeriesTables" 35 7 4 := ⟨by decide, by decide, gt_in (tb1 (List.mem_of_getElem? (i := 227) rfl)) rfl⟩
theorem f_X_39 : FLk "SeriesTables" 39 7 5 := ⟨by decide, by decide, gt_in (tb1 (List.mem_of_getElem? (i := 228) rfl)) rfl⟩
theorem n_X_43 : NWk "SeriesTables" 43 2 := ⟨by decide, gt_in (tb1 (List.mem_of_getElem? (i := 164) rfl)) rfl, gt_in (tb1 (List.mem_of_getElem? (i := 165) rfl)) rfl, gt_in (tb1 (List.mem_of_getElem? (i := 7) rfl)) rfl⟩
theorem k_X_45 : LKd "SeriesTables" 45 0 m_Sb_init := ⟨w_Sb_init, wi_Sb, gt_in (tb1 (List.mem_of_getElem? (i := 166) rfl)) rfl, by decide +kernel, by decide⟩
theorem f_X_46 : FLk "SeriesTables" 46 7 6 := ⟨by decide, by decide, gt_in (tb1 (List.mem_of_getElem? (i := 229) rfl)) rfl⟩
theorem n_X_50 : NWk "SeriesTables" 50 5 := ⟨by decide, gt_in (tb1 (List.mem_of_getElem? (i := 182) rfl)) rfl, gt_in (tb1 (List.mem_of_getElem? (i := 183) rfl)) rfl, gt_in (tb1 (List.mem_of_getElem? (i := 8) rfl)) rfl⟩
theorem k_X_52 : LKd "SeriesTables" 52 0 m_Tb_init := ⟨w_Tb_init, wi_Tb, gt_in (tb1 (List.mem_of_getElem? (i := 184) rfl)) rfl, by decide +kernel, by decide⟩
theorem f_X_53 : FLk "SeriesTables" 53 7 7 := ⟨by decide, by decide, gt_in (tb1 (List.mem_of_getElem? (i := 230) rfl)) rfl⟩
theorem f_X_57 : FLk "SeriesTables" 57 6 1 := ⟨by decide, by decide, gt_in (tb1 (List.mem_of_getElem? (i := 89) rfl)) rfl⟩
theorem k_X_63 : LKd "SeriesTables" 63 1 m_Tp_addFourBytes := ⟨w_Tp_addFourBytes, wi_Tp, gt_in (tb2 (List.mem_of_getElem? (i := 21) rfl)) rfl, by decide +kernel, by decide⟩
theorem k_X_67 : LKd "SeriesTables" 67 0 m_Re_readText := ⟨w_Re_readText, wi_Re, gt_in (tb2 (List.mem_of_getElem? (i := 33) rfl)) rfl, by decide +kernel, by decide⟩
theorem f_X_71 : FLk "SeriesTables" 71 1 10 := ⟨by decide, by decide, gt_in (tb1 (List.mem_of_getElem? (i := 114) rfl)) rfl⟩
theorem f_X_74 : FLk "SeriesTables" 74 7 8 := ⟨by decide, by decide, gt_in (tb1 (List.mem_of_getElem? (i := 231) rfl)) rfl⟩
theorem f_X_75 : FLk "SeriesTables" 75 1 11 := ⟨by decide, by decide, gt_in (tb1 (List.mem_of_getElem? (i := 116) rfl)) rfl⟩
theorem f_X_78 : FLk "SeriesTables" 78 1 0 := ⟨by decide, by decide, gt_in (tb1 (List.mem_of_getElem? (i := 99) rfl)) rfl⟩
theorem k_X_81 : LKd "SeriesTables" 81 1 m_St_copyFrom := ⟨w_St_copyFrom, wi_St, gt_in (tb2 (List.mem_of_getElem? (i := 183) rfl)) rfl, by decide +kernel, by decide⟩
theorem f_X_85 : FLk "SeriesTables" 85 1 8 := ⟨by decide, by decide, gt_in (tb1 (List.mem_of_getElem? (i := 110) rfl)) rfl⟩
theorem f_X_88 : FLk "SeriesTables" 88 7 9 := ⟨by decide, by decide, gt_in (tb1 (List.mem_of_getElem? (i := 232) rfl)) rfl⟩
theorem f_X_89 : FLk "SeriesTables" 89 1 9 := ⟨by decide, by decide, gt_in (tb1 (List.mem_of_getElem? (i := 112) rfl)) rfl⟩
theorem f_X_92 : FLk "SeriesTables" 92 7 10 := ⟨by decide, by decide, gt_in (tb1 (List.mem_of_getElem? (i := 233) rfl)) rfl⟩
theorem k_X_93 : LKd "SeriesTables" 93 0 m_Hi_forget := ⟨w_Hi_forget, wi_Hi, gt_in (tb2 (List.mem_of_getElem? (i := 193) rfl)) rfl, by decide +kernel, by decide⟩
theorem f_X_96 : FLk "SeriesTables" 96 1 7 := ⟨by decide, by decide, gt_in (tb1 (List.mem_of_getElem? (i := 108) rfl)) rfl⟩
theorem f_X_99 : FLk "SeriesTables" 99 3 3 := ⟨by decide, by decide, gt_in (tb1 (List.mem_of_getElem? (i := 71) rfl)) rfl⟩
theorem f_X_102 : FLk "SeriesTables" 102 0 1 := ⟨by decide, by decide, gt_in (tb1 (List.mem_of_getElem? (i := 155) rfl)) rfl⟩
theorem k_X_105 : LKd "SeriesTables" 105 1 m_X_isSeries := ⟨w_X_isSeries, wi_X, gt_in (tb2 (List.mem_of_getElem? (i := 209) rfl)) rfl, by decide +kernel, by decide⟩
theorem k_X_109 : LKd "SeriesTables" 109 1 m_X_isWithinSize := ⟨w_X_isWithinSize, wi_X, gt_in (tb2 (List.mem_of_getElem? (i := 213) rfl)) rfl, by decide +kernel, by decide⟩
theorem f_X_112 : FLk "SeriesTables" 112 3 0 := ⟨by decide, by decide, gt_in (tb1 (List.mem_of_getElem? (i := 63) rfl)) rfl⟩
theorem k_X_116 : LKd "SeriesTables" 116 1 m_Hi_keep := ⟨w_Hi_keep, wi_Hi, gt_in (tb2 (List.mem_of_getElem? (i := 221) rfl)) rfl, by decide +kernel, by decide⟩
theorem c_X_119 : Cond.constant "SeriesTables" 119 1000003 ∈ gt_ws := gt_in (tb2 (List.mem_of_getElem? (i := 229) rfl)) rfl
theorem k_X_120 : LKd "SeriesTables" 120 2 m_Ma_floorMod := ⟨w_Ma_floorMod, wi_Ma, gt_in (tb2 (List.mem_of_getElem? (i := 230) rfl)) rfl, by decide +kernel, by decide⟩
theorem k_X_126 : LKd "SeriesTables" 126 4 m_Sb_combine := ⟨w_Sb_combine, wi_Sb, gt_in (tb2 (List.mem_of_getElem? (i := 237) rfl)) rfl, by decide +kernel, by decide⟩
theorem f_X_130 : FLk "SeriesTables" 130 2 0 := ⟨by decide, by decide, gt_in (tb1 (List.mem_of_getElem? (i := 171) rfl)) rfl⟩
theorem k_X_134 : LKd "SeriesTables" 134 2 m_X_landSeries := ⟨w_X_landSeries, wi_X, gt_in (tb3 (List.mem_of_getElem? (i := 19) rfl)) rfl, by decide +kernel, by decide⟩
theorem k_X_138 : LKd "SeriesTables" 138 3 m_Sb_turnAbout := ⟨w_Sb_turnAbout, wi_Sb, gt_in (tb3 (List.mem_of_getElem? (i := 28) rfl)) rfl, by decide +kernel, by decide⟩
theorem k_X_142 : LKd "SeriesTables" 142 3 m_Sb_raiseTo := ⟨w_Sb_raiseTo, wi_Sb, gt_in (tb3 (List.mem_of_getElem? (i := 55) rfl)) rfl, by decide +kernel, by decide⟩
theorem k_X_146 : LKd "SeriesTables" 146 1 m_X_isTable := ⟨w_X_isTable, wi_X, gt_in (tb3 (List.mem_of_getElem? (i := 63) rfl)) rfl, by decide +kernel, by decide⟩
theorem k_X_149 : LKd "SeriesTables" 149 2 m_Rw_makeTable := ⟨w_Rw_makeTable, wi_Rw, gt_in (tb3 (List.mem_of_getElem? (i := 67) rfl)) rfl, by decide +kernel, by decide⟩
theorem f_X_155 : FLk "SeriesTables" 155 5 0 := ⟨by decide, by decide, gt_in (tb1 (List.mem_of_getElem? (i := 194) rfl)) rfl⟩
theorem k_X_158 : LKd "SeriesTables" 158 2 m_Ta_become := ⟨w_Ta_become, wi_Ta, gt_in (tb3 (List.mem_of_getElem? (i := 68) rfl)) rfl, by decide +kernel, by decide⟩
theorem k_X_164 : LKd "SeriesTables" 164 1 m_X_landTable := ⟨w_X_landTable, wi_X, gt_in (tb3 (List.mem_of_getElem? (i := 69) rfl)) rfl, by decide +kernel, by decide⟩
theorem f_X_171 : FLk "SeriesTables" 171 3 1 := ⟨by decide, by decide, gt_in (tb1 (List.mem_of_getElem? (i := 66) rfl)) rfl⟩
theorem k_X_175 : LKd "SeriesTables" 175 4 m_Tb_entryOf := ⟨w_Tb_entryOf, wi_Tb, gt_in (tb3 (List.mem_of_getElem? (i := 74) rfl)) rfl, by decide +kernel, by decide⟩
theorem k_X_179 : LKd "SeriesTables" 179 4 m_Tb_multiply := ⟨w_Tb_multiply, wi_Tb, gt_in (tb3 (List.mem_of_getElem? (i := 84) rfl)) rfl, by decide +kernel, by decide⟩
theorem k_X_183 : LKd "SeriesTables" 183 3 m_Tb_powerOf := ⟨w_Tb_powerOf, wi_Tb, gt_in (tb3 (List.mem_of_getElem? (i := 92) rfl)) rfl, by decide +kernel, by decide⟩
theorem k_X_187 : LKd "SeriesTables" 187 3 m_Tb_partOf := ⟨w_Tb_partOf, wi_Tb, gt_in (tb3 (List.mem_of_getElem? (i := 113) rfl)) rfl, by decide +kernel, by decide⟩
theorem f_X_191 : FLk "SeriesTables" 191 5 3 := ⟨by decide, by decide, gt_in (tb1 (List.mem_of_getElem? (i := 198) rfl)) rfl⟩
theorem k_X_194 : LKd "SeriesTables" 194 3 m_Tb_makeOf := ⟨w_Tb_makeOf, wi_Tb, gt_in (tb3 (List.mem_of_getElem? (i := 131) rfl)) rfl, by decide +kernel, by decide⟩
theorem k_X_198 : LKd "SeriesTables" 198 3 m_Tb_sumRows := ⟨w_Tb_sumRows, wi_Tb, gt_in (tb3 (List.mem_of_getElem? (i := 139) rfl)) rfl, by decide +kernel, by decide⟩
theorem k_X_201 : LKd "SeriesTables" 201 1 m_X_isWithinProduction := ⟨w_X_isWithinProduction, wi_X, gt_in (tb4 (List.mem_of_getElem? (i := 93) rfl)) rfl, by decide +kernel, by decide⟩
theorem k_X_204 : LKd "SeriesTables" 204 4 m_Tb_productionOf := ⟨w_Tb_productionOf, wi_Tb, gt_in (tb4 (List.mem_of_getElem? (i := 97) rfl)) rfl, by decide +kernel, by decide⟩
theorem k_X_207 : LKd "SeriesTables" 207 2 m_Tb_kindsOf := ⟨w_Tb_kindsOf, wi_Tb, gt_in (tb3 (List.mem_of_getElem? (i := 156) rfl)) rfl, by decide +kernel, by decide⟩
theorem k_X_211 : LKd "SeriesTables" 211 3 m_Tb_firstDifference := ⟨w_Tb_firstDifference, wi_Tb, gt_in (tb3 (List.mem_of_getElem? (i := 184) rfl)) rfl, by decide +kernel, by decide⟩
theorem k_X_215 : LKd "SeriesTables" 215 3 m_Tb_firstOfChangedPlaces := ⟨w_Tb_firstOfChangedPlaces, wi_Tb, gt_in (tb3 (List.mem_of_getElem? (i := 188) rfl)) rfl, by decide +kernel, by decide⟩
theorem f_X_218 : FLk "SeriesTables" 218 3 2 := ⟨by decide, by decide, gt_in (tb1 (List.mem_of_getElem? (i := 68) rfl)) rfl⟩
theorem k_X_221 : LKd "SeriesTables" 221 3 m_Tb_layEntries := ⟨w_Tb_layEntries, wi_Tb, gt_in (tb3 (List.mem_of_getElem? (i := 209) rfl)) rfl, by decide +kernel, by decide⟩
theorem k_X_225 : LKd "SeriesTables" 225 2 m_Tb_recognise := ⟨w_Tb_recognise, wi_Tb, gt_in (tb3 (List.mem_of_getElem? (i := 217) rfl)) rfl, by decide +kernel, by decide⟩
theorem k_X_229 : LKd "SeriesTables" 229 1 m_X_nextSeed := ⟨w_X_nextSeed, wi_X, gt_in (tb3 (List.mem_of_getElem? (i := 229) rfl)) rfl, by decide +kernel, by decide⟩
theorem k_X_232 : LKd "SeriesTables" 232 2 m_X_drawOf := ⟨w_X_drawOf, wi_X, gt_in (tb3 (List.mem_of_getElem? (i := 233) rfl)) rfl, by decide +kernel, by decide⟩
theorem k_X_235 : LKd "SeriesTables" 235 0 m_St_sumOfSeries := ⟨w_St_sumOfSeries, wi_St, gt_in (tb3 (List.mem_of_getElem? (i := 236) rfl)) rfl, by decide +kernel, by decide⟩
theorem k_X_239 : LKd "SeriesTables" 239 1 m_Hi_takeBack := ⟨w_Hi_takeBack, wi_Hi, gt_in (tb4 (List.mem_of_getElem? (i := 5) rfl)) rfl, by decide +kernel, by decide⟩
theorem k_X_242 : Cond.methodLink "SeriesTables" 242 arraycopyName ∈ gt_ws := gt_in (tb3 (List.mem_of_getElem? (i := 23) rfl)) rfl
theorem k_X_248 : LKd "SeriesTables" 248 1 m_Ta_copyFrom := ⟨w_Ta_copyFrom, wi_Ta, gt_in (tb3 (List.mem_of_getElem? (i := 73) rfl)) rfl, by decide +kernel, by decide⟩
theorem c_X_251 : Cond.constant "SeriesTables" 251 1103515245 ∈ gt_ws := gt_in (tb3 (List.mem_of_getElem? (i := 232) rfl)) rfl
theorem k_Hi_3 : Cond.methodLink "SeriesTables$History" 3 objectInit ∈ gt_ws := gt_in (tb1 (List.mem_of_getElem? (i := 149) rfl)) rfl
theorem n_Hi_9 : NWk "SeriesTables$History" 9 3 := ⟨by decide, gt_in (tb1 (List.mem_of_getElem? (i := 150) rfl)) rfl, gt_in (tb1 (List.mem_of_getElem? (i := 37) rfl)) rfl, gt_in (tb1 (List.mem_of_getElem? (i := 3) rfl)) rfl⟩
theorem f_Hi_11 : FLk "SeriesTables$History" 11 0 0 := ⟨by decide, by decide, gt_in (tb1 (List.mem_of_getElem? (i := 153) rfl)) rfl⟩
theorem k_Hi_17 : LKd "SeriesTables$History" 17 0 m_St_init := ⟨w_St_init, wi_St, gt_in (tb1 (List.mem_of_getElem? (i := 152) rfl)) rfl, by decide +kernel, by decide⟩
theorem f_Hi_18 : FLk "SeriesTables$History" 18 0 2 := ⟨by decide, by decide, gt_in (tb1 (List.mem_of_getElem? (i := 156) rfl)) rfl⟩
theorem k_Hi_22 : LKd "SeriesTables$History" 22 1 m_St_copyFrom := ⟨w_St_copyFrom, wi_St, gt_in (tb2 (List.mem_of_getElem? (i := 225) rfl)) rfl, by decide +kernel, by decide⟩
theorem f_Hi_26 : FLk "SeriesTables$History" 26 0 1 := ⟨by decide, by decide, gt_in (tb1 (List.mem_of_getElem? (i := 154) rfl)) rfl⟩
theorem k_Hi_29 : LKd "SeriesTables$History" 29 2 m_Ma_min := ⟨w_Ma_min, wi_Ma, gt_in (tb2 (List.mem_of_getElem? (i := 226) rfl)) rfl, by decide +kernel, by decide⟩
theorem k_Re_3 : Cond.methodLink "SeriesTables$Reader" 3 objectInit ∈ gt_ws := gt_in (tb1 (List.mem_of_getElem? (i := 35) rfl)) rfl
theorem n_Re_9 : NWk "SeriesTables$Reader" 9 3 := ⟨by decide, gt_in (tb1 (List.mem_of_getElem? (i := 36) rfl)) rfl, gt_in (tb1 (List.mem_of_getElem? (i := 37) rfl)) rfl, gt_in (tb1 (List.mem_of_getElem? (i := 3) rfl)) rfl⟩
theorem k_Re_11 : LKd "SeriesTables$Reader" 11 0 m_St_init := ⟨w_St_init, wi_St, gt_in (tb1 (List.mem_of_getElem? (i := 38) rfl)) rfl, by decide +kernel, by decide⟩
theorem f_Re_12 : FLk "SeriesTables$Reader" 12 1 0 := ⟨by decide, by decide, gt_in (tb1 (List.mem_of_getElem? (i := 98) rfl)) rfl⟩
theorem n_Re_18 : NWk "SeriesTables$Reader" 18 6 := ⟨by decide, gt_in (tb1 (List.mem_of_getElem? (i := 81) rfl)) rfl, gt_in (tb1 (List.mem_of_getElem? (i := 82) rfl)) rfl, gt_in (tb1 (List.mem_of_getElem? (i := 5) rfl)) rfl⟩
theorem k_Re_20 : LKd "SeriesTables$Reader" 20 0 m_Tp_init := ⟨w_Tp_init, wi_Tp, gt_in (tb1 (List.mem_of_getElem? (i := 83) rfl)) rfl, by decide +kernel, by decide⟩
theorem f_Re_21 : FLk "SeriesTables$Reader" 21 1 1 := ⟨by decide, by decide, gt_in (tb1 (List.mem_of_getElem? (i := 101) rfl)) rfl⟩
theorem f_Re_25 : FLk "SeriesTables$Reader" 25 1 2 := ⟨by decide, by decide, gt_in (tb1 (List.mem_of_getElem? (i := 102) rfl)) rfl⟩
theorem k_Re_29 : LKd "SeriesTables$Reader" 29 0 m_St_becomeAsAtFirst := ⟨w_St_becomeAsAtFirst, wi_St, gt_in (tb2 (List.mem_of_getElem? (i := 37) rfl)) rfl, by decide +kernel, by decide⟩
theorem f_Re_32 : FLk "SeriesTables$Reader" 32 1 3 := ⟨by decide, by decide, gt_in (tb1 (List.mem_of_getElem? (i := 103) rfl)) rfl⟩
theorem f_Re_36 : FLk "SeriesTables$Reader" 36 1 7 := ⟨by decide, by decide, gt_in (tb1 (List.mem_of_getElem? (i := 107) rfl)) rfl⟩
theorem f_Re_39 : FLk "SeriesTables$Reader" 39 1 8 := ⟨by decide, by decide, gt_in (tb1 (List.mem_of_getElem? (i := 109) rfl)) rfl⟩
theorem f_Re_42 : FLk "SeriesTables$Reader" 42 1 9 := ⟨by decide, by decide, gt_in (tb1 (List.mem_of_getElem? (i := 111) rfl)) rfl⟩
theorem f_Re_45 : FLk "SeriesTables$Reader" 45 1 10 := ⟨by decide, by decide, gt_in (tb1 (List.mem_of_getElem? (i := 113) rfl)) rfl⟩
theorem f_Re_48 : FLk "SeriesTables$Reader" 48 1 11 := ⟨by decide, by decide, gt_in (tb1 (List.mem_of_getElem? (i := 115) rfl)) rfl⟩
theorem k_Re_51 : LKd "SeriesTables$Reader" 51 0 m_Re_step := ⟨w_Re_step, wi_Re, gt_in (tb2 (List.mem_of_getElem? (i := 52) rfl)) rfl, by decide +kernel, by decide⟩
theorem f_Re_54 : FLk "SeriesTables$Reader" 54 1 4 := ⟨by decide, by decide, gt_in (tb1 (List.mem_of_getElem? (i := 104) rfl)) rfl⟩
theorem k_Re_57 : LKd "SeriesTables$Reader" 57 0 m_Re_readSizeLine := ⟨w_Re_readSizeLine, wi_Re, gt_in (tb2 (List.mem_of_getElem? (i := 125) rfl)) rfl, by decide +kernel, by decide⟩
theorem k_Re_61 : LKd "SeriesTables$Reader" 61 1 m_Re_refuse := ⟨w_Re_refuse, wi_Re, gt_in (tb2 (List.mem_of_getElem? (i := 129) rfl)) rfl, by decide +kernel, by decide⟩
theorem k_Re_65 : LKd "SeriesTables$Reader" 65 0 m_Re_readSeriesLine := ⟨w_Re_readSeriesLine, wi_Re, gt_in (tb2 (List.mem_of_getElem? (i := 137) rfl)) rfl, by decide +kernel, by decide⟩
theorem k_Re_68 : LKd "SeriesTables$Reader" 68 0 m_Re_readTableLine := ⟨w_Re_readTableLine, wi_Re, gt_in (tb2 (List.mem_of_getElem? (i := 162) rfl)) rfl, by decide +kernel, by decide⟩
theorem f_Re_71 : FLk "SeriesTables$Reader" 71 1 6 := ⟨by decide, by decide, gt_in (tb1 (List.mem_of_getElem? (i := 106) rfl)) rfl⟩
theorem f_Re_74 : FLk "SeriesTables$Reader" 74 3 3 := ⟨by decide, by decide, gt_in (tb1 (List.mem_of_getElem? (i := 70) rfl)) rfl⟩
theorem k_Re_77 : LKd "SeriesTables$Reader" 77 0 m_Re_readSemicolon := ⟨w_Re_readSemicolon, wi_Re, gt_in (tb2 (List.mem_of_getElem? (i := 133) rfl)) rfl, by decide +kernel, by decide⟩
theorem f_Re_80 : FLk "SeriesTables$Reader" 80 3 0 := ⟨by decide, by decide, gt_in (tb1 (List.mem_of_getElem? (i := 62) rfl)) rfl⟩
theorem k_Re_84 : LKd "SeriesTables$Reader" 84 2 m_Re_readSum := ⟨w_Re_readSum, wi_Re, gt_in (tb2 (List.mem_of_getElem? (i := 141) rfl)) rfl, by decide +kernel, by decide⟩
theorem k_Re_88 : LKd "SeriesTables$Reader" 88 3 m_Rw_divide := ⟨w_Rw_divide, wi_Rw, gt_in (tb2 (List.mem_of_getElem? (i := 150) rfl)) rfl, by decide +kernel, by decide⟩
theorem k_Re_94 : LKd "SeriesTables$Reader" 94 2 m_Ar_fill := ⟨w_Ar_fill, wi_Ar, gt_in (tb2 (List.mem_of_getElem? (i := 145) rfl)) rfl, by decide +kernel, by decide⟩
theorem k_Re_100 : LKd "SeriesTables$Reader" 100 2 m_Rw_difference := ⟨w_Rw_difference, wi_Rw, gt_in (tb2 (List.mem_of_getElem? (i := 146) rfl)) rfl, by decide +kernel, by decide⟩
theorem k_Re_104 : LKd "SeriesTables$Reader" 104 0 m_Re_isToldSeries := ⟨w_Re_isToldSeries, wi_Re, gt_in (tb2 (List.mem_of_getElem? (i := 166) rfl)) rfl, by decide +kernel, by decide⟩
theorem k_Re_107 : LKd "SeriesTables$Reader" 107 2 m_Rw_makeTable := ⟨w_Rw_makeTable, wi_Rw, gt_in (tb2 (List.mem_of_getElem? (i := 170) rfl)) rfl, by decide +kernel, by decide⟩
theorem f_Re_111 : FLk "SeriesTables$Reader" 111 3 1 := ⟨by decide, by decide, gt_in (tb1 (List.mem_of_getElem? (i := 65) rfl)) rfl⟩
theorem k_Re_115 : LKd "SeriesTables$Reader" 115 2 m_Ta_become := ⟨w_Ta_become, wi_Ta, gt_in (tb2 (List.mem_of_getElem? (i := 176) rfl)) rfl, by decide +kernel, by decide⟩
theorem f_Re_121 : FLk "SeriesTables$Reader" 121 1 5 := ⟨by decide, by decide, gt_in (tb1 (List.mem_of_getElem? (i := 105) rfl)) rfl⟩
theorem f_Re_124 : FLk "SeriesTables$Reader" 124 6 1 := ⟨by decide, by decide, gt_in (tb1 (List.mem_of_getElem? (i := 91) rfl)) rfl⟩
theorem f_Re_127 : FLk "SeriesTables$Reader" 127 6 0 := ⟨by decide, by decide, gt_in (tb1 (List.mem_of_getElem? (i := 88) rfl)) rfl⟩
theorem k_Re_131 : LKd "SeriesTables$Reader" 131 1 m_Re_isBlank := ⟨w_Re_isBlank, wi_Re, gt_in (tb2 (List.mem_of_getElem? (i := 56) rfl)) rfl, by decide +kernel, by decide⟩
theorem k_Re_135 : LKd "SeriesTables$Reader" 135 0 m_Re_readWordOrNumber := ⟨w_Re_readWordOrNumber, wi_Re, gt_in (tb2 (List.mem_of_getElem? (i := 59) rfl)) rfl, by decide +kernel, by decide⟩
theorem k_Re_138 : LKd "SeriesTables$Reader" 138 1 m_Re_isDigit := ⟨w_Re_isDigit, wi_Re, gt_in (tb2 (List.mem_of_getElem? (i := 63) rfl)) rfl, by decide +kernel, by decide⟩
theorem k_Re_141 : LKd "SeriesTables$Reader" 141 1 m_Re_isLetter := ⟨w_Re_isLetter, wi_Re, gt_in (tb2 (List.mem_of_getElem? (i := 66) rfl)) rfl, by decide +kernel, by decide⟩
theorem k_Re_145 : LKd "SeriesTables$Reader" 145 1 m_Re_isWord := ⟨w_Re_isWord, wi_Re, gt_in (tb2 (List.mem_of_getElem? (i := 70) rfl)) rfl, by decide +kernel, by decide⟩
theorem k_Re_154 : LKd "SeriesTables$Reader" 154 0 m_Sg_length := ⟨w_Sg_length, wi_Sg, gt_in (tb2 (List.mem_of_getElem? (i := 74) rfl)) rfl, by decide +kernel, by decide⟩
theorem k_Re_159 : LKd "SeriesTables$Reader" 159 1 m_Sg_charAt := ⟨w_Sg_charAt, wi_Sg, gt_in (tb2 (List.mem_of_getElem? (i := 84) rfl)) rfl, by decide +kernel, by decide⟩
theorem c_Rw_11 : Cond.constant "SeriesTables$Rows" 11 1000001 ∈ gt_ws := gt_in (tb2 (List.mem_of_getElem? (i := 156) rfl)) rfl
theorem c_Rw_12 : Cond.constantLong "SeriesTables$Rows" 12 1000003 ∈ gt_ws := gt_in (tb2 (List.mem_of_getElem? (i := 157) rfl)) rfl
theorem c_Rw_14 : Cond.constant "SeriesTables$Rows" 14 1000003 ∈ gt_ws := gt_in (tb2 (List.mem_of_getElem? (i := 149) rfl)) rfl
theorem k_Rw_15 : LKd "SeriesTables$Rows" 15 2 m_Ar_fill := ⟨w_Ar_fill, wi_Ar, gt_in (tb2 (List.mem_of_getElem? (i := 51) rfl)) rfl, by decide +kernel, by decide⟩
theorem k_Rw_21 : LKd "SeriesTables$Rows" 21 2 m_Rw_difference := ⟨w_Rw_difference, wi_Rw, gt_in (tb2 (List.mem_of_getElem? (i := 158) rfl)) rfl, by decide +kernel, by decide⟩
theorem k_Rw_25 : LKd "SeriesTables$Rows" 25 3 m_Rw_coefficient := ⟨w_Rw_coefficient, wi_Rw, gt_in (tb3 (List.mem_of_getElem? (i := 11) rfl)) rfl, by decide +kernel, by decide⟩
theorem k_Rw_29 : LKd "SeriesTables$Rows" 29 1 m_Rw_inverse := ⟨w_Rw_inverse, wi_Rw, gt_in (tb2 (List.mem_of_getElem? (i := 153) rfl)) rfl, by decide +kernel, by decide⟩
theorem k_Rw_33 : LKd "SeriesTables$Rows" 33 2 m_Rw_product := ⟨w_Rw_product, wi_Rw, gt_in (tb2 (List.mem_of_getElem? (i := 159) rfl)) rfl, by decide +kernel, by decide⟩
theorem k_Rw_36 : LKd "SeriesTables$Rows" 36 3 m_Rw_multiply := ⟨w_Rw_multiply, wi_Rw, gt_in (tb3 (List.mem_of_getElem? (i := 18) rfl)) rfl, by decide +kernel, by decide⟩
theorem k_Rw_40 : LKd "SeriesTables$Rows" 40 3 m_Rw_isZeroFrom := ⟨w_Rw_isZeroFrom, wi_Rw, gt_in (tb3 (List.mem_of_getElem? (i := 163) rfl)) rfl, by decide +kernel, by decide⟩
theorem k_Rw_44 : LKd "SeriesTables$Rows" 44 1 m_Rw_canBeReversed := ⟨w_Rw_canBeReversed, wi_Rw, gt_in (tb2 (List.mem_of_getElem? (i := 173) rfl)) rfl, by decide +kernel, by decide⟩
theorem k_Sb_3 : Cond.methodLink "SeriesTables$SeriesBench" 3 objectInit ∈ gt_ws := gt_in (tb1 (List.mem_of_getElem? (i := 169) rfl)) rfl
theorem f_Sb_9 : FLk "SeriesTables$SeriesBench" 9 2 0 := ⟨by decide, by decide, gt_in (tb1 (List.mem_of_getElem? (i := 170) rfl)) rfl⟩
theorem f_Sb_15 : FLk "SeriesTables$SeriesBench" 15 2 1 := ⟨by decide, by decide, gt_in (tb1 (List.mem_of_getElem? (i := 172) rfl)) rfl⟩
theorem f_Sb_18 : FLk "SeriesTables$SeriesBench" 18 2 2 := ⟨by decide, by decide, gt_in (tb1 (List.mem_of_getElem? (i := 173) rfl)) rfl⟩
theorem k_Sb_21 : Cond.methodLink "SeriesTables$SeriesBench" 21 arraycopyName ∈ gt_ws := gt_in (tb3 (List.mem_of_getElem? (i := 1) rfl)) rfl
theorem k_Sb_27 : LKd "SeriesTables$SeriesBench" 27 3 m_Rw_add := ⟨w_Rw_add, wi_Rw, gt_in (tb3 (List.mem_of_getElem? (i := 2) rfl)) rfl, by decide +kernel, by decide⟩
theorem k_Sb_33 : LKd "SeriesTables$SeriesBench" 33 3 m_Rw_subtract := ⟨w_Rw_subtract, wi_Rw, gt_in (tb3 (List.mem_of_getElem? (i := 5) rfl)) rfl, by decide +kernel, by decide⟩
theorem k_Sb_36 : LKd "SeriesTables$SeriesBench" 36 3 m_Rw_multiply := ⟨w_Rw_multiply, wi_Rw, gt_in (tb3 (List.mem_of_getElem? (i := 8) rfl)) rfl, by decide +kernel, by decide⟩
theorem k_Sb_39 : LKd "SeriesTables$SeriesBench" 39 3 m_Rw_divide := ⟨w_Rw_divide, wi_Rw, gt_in (tb3 (List.mem_of_getElem? (i := 14) rfl)) rfl, by decide +kernel, by decide⟩
theorem k_Sb_42 : LKd "SeriesTables$SeriesBench" 42 4 m_Rw_insert := ⟨w_Rw_insert, wi_Rw, gt_in (tb3 (List.mem_of_getElem? (i := 15) rfl)) rfl, by decide +kernel, by decide⟩
theorem k_Sb_46 : LKd "SeriesTables$SeriesBench" 46 3 m_Rw_oneAhead := ⟨w_Rw_oneAhead, wi_Rw, gt_in (tb3 (List.mem_of_getElem? (i := 32) rfl)) rfl, by decide +kernel, by decide⟩
theorem k_Sb_50 : LKd "SeriesTables$SeriesBench" 50 2 m_Sb_differentiate := ⟨w_Sb_differentiate, wi_Sb, gt_in (tb3 (List.mem_of_getElem? (i := 35) rfl)) rfl, by decide +kernel, by decide⟩
theorem k_Sb_54 : LKd "SeriesTables$SeriesBench" 54 2 m_Sb_integrate := ⟨w_Sb_integrate, wi_Sb, gt_in (tb3 (List.mem_of_getElem? (i := 40) rfl)) rfl, by decide +kernel, by decide⟩
theorem k_Sb_57 : LKd "SeriesTables$SeriesBench" 57 1 m_Rw_canBeReversed := ⟨w_Rw_canBeReversed, wi_Rw, gt_in (tb3 (List.mem_of_getElem? (i := 45) rfl)) rfl, by decide +kernel, by decide⟩
theorem k_Sb_61 : LKd "SeriesTables$SeriesBench" 61 3 m_Sb_reverse := ⟨w_Sb_reverse, wi_Sb, gt_in (tb3 (List.mem_of_getElem? (i := 46) rfl)) rfl, by decide +kernel, by decide⟩
theorem k_Sb_64 : LKd "SeriesTables$SeriesBench" 64 2 m_Rw_becomeNumber := ⟨w_Rw_becomeNumber, wi_Rw, gt_in (tb3 (List.mem_of_getElem? (i := 50) rfl)) rfl, by decide +kernel, by decide⟩
theorem k_Sb_67 : LKd "SeriesTables$SeriesBench" 67 2 m_Rw_product := ⟨w_Rw_product, wi_Rw, gt_in (tb3 (List.mem_of_getElem? (i := 39) rfl)) rfl, by decide +kernel, by decide⟩
theorem k_Sb_71 : LKd "SeriesTables$SeriesBench" 71 1 m_Rw_inverse := ⟨w_Rw_inverse, wi_Rw, gt_in (tb3 (List.mem_of_getElem? (i := 44) rfl)) rfl, by decide +kernel, by decide⟩
theorem k_St_3 : Cond.methodLink "SeriesTables$State" 3 objectInit ∈ gt_ws := gt_in (tb1 (List.mem_of_getElem? (i := 41) rfl)) rfl
theorem f_St_11 : FLk "SeriesTables$State" 11 3 0 := ⟨by decide, by decide, gt_in (tb1 (List.mem_of_getElem? (i := 61) rfl)) rfl⟩
theorem n_St_16 : NWk "SeriesTables$State" 16 4 := ⟨by decide, gt_in (tb1 (List.mem_of_getElem? (i := 44) rfl)) rfl, gt_in (tb1 (List.mem_of_getElem? (i := 46) rfl)) rfl, gt_in (tb1 (List.mem_of_getElem? (i := 4) rfl)) rfl⟩
theorem f_St_18 : FLk "SeriesTables$State" 18 3 1 := ⟨by decide, by decide, gt_in (tb1 (List.mem_of_getElem? (i := 64) rfl)) rfl⟩
theorem f_St_22 : FLk "SeriesTables$State" 22 3 2 := ⟨by decide, by decide, gt_in (tb1 (List.mem_of_getElem? (i := 67) rfl)) rfl⟩
theorem k_St_25 : LKd "SeriesTables$State" 25 0 m_Ta_init := ⟨w_Ta_init, wi_Ta, gt_in (tb1 (List.mem_of_getElem? (i := 47) rfl)) rfl, by decide +kernel, by decide⟩
theorem f_St_26 : FLk "SeriesTables$State" 26 3 3 := ⟨by decide, by decide, gt_in (tb1 (List.mem_of_getElem? (i := 69) rfl)) rfl⟩
theorem k_St_30 : LKd "SeriesTables$State" 30 2 m_Ar_fill := ⟨w_Ar_fill, wi_Ar, gt_in (tb2 (List.mem_of_getElem? (i := 41) rfl)) rfl, by decide +kernel, by decide⟩
theorem k_St_36 : LKd "SeriesTables$State" 36 0 m_Ta_becomeOne := ⟨w_Ta_becomeOne, wi_Ta, gt_in (tb2 (List.mem_of_getElem? (i := 44) rfl)) rfl, by decide +kernel, by decide⟩
theorem k_St_39 : Cond.methodLink "SeriesTables$State" 39 arraycopyName ∈ gt_ws := gt_in (tb2 (List.mem_of_getElem? (i := 187) rfl)) rfl
theorem k_St_45 : LKd "SeriesTables$State" 45 1 m_Ta_copyFrom := ⟨w_Ta_copyFrom, wi_Ta, gt_in (tb2 (List.mem_of_getElem? (i := 188) rfl)) rfl, by decide +kernel, by decide⟩
theorem c_St_49 : Cond.constant "SeriesTables$State" 49 1000003 ∈ gt_ws := gt_in (tb4 (List.mem_of_getElem? (i := 0) rfl)) rfl
theorem k_Ta_3 : Cond.methodLink "SeriesTables$Table" 3 objectInit ∈ gt_ws := gt_in (tb1 (List.mem_of_getElem? (i := 50) rfl)) rfl
theorem f_Ta_9 : FLk "SeriesTables$Table" 9 4 0 := ⟨by decide, by decide, gt_in (tb1 (List.mem_of_getElem? (i := 51) rfl)) rfl⟩
theorem f_Ta_15 : FLk "SeriesTables$Table" 15 4 1 := ⟨by decide, by decide, gt_in (tb1 (List.mem_of_getElem? (i := 53) rfl)) rfl⟩
theorem k_Ta_18 : LKd "SeriesTables$Table" 18 2 m_Rw_becomeNumber := ⟨w_Rw_becomeNumber, wi_Rw, gt_in (tb2 (List.mem_of_getElem? (i := 48) rfl)) rfl, by decide +kernel, by decide⟩
theorem k_Ta_24 : Cond.methodLink "SeriesTables$Table" 24 arraycopyName ∈ gt_ws := gt_in (tb2 (List.mem_of_getElem? (i := 180) rfl)) rfl
theorem k_Ta_30 : LKd "SeriesTables$Table" 30 2 m_Ta_become := ⟨w_Ta_become, wi_Ta, gt_in (tb2 (List.mem_of_getElem? (i := 192) rfl)) rfl, by decide +kernel, by decide⟩
theorem k_Tb_3 : Cond.methodLink "SeriesTables$TableBench" 3 objectInit ∈ gt_ws := gt_in (tb1 (List.mem_of_getElem? (i := 187) rfl)) rfl
theorem n_Tb_9 : NWk "SeriesTables$TableBench" 9 4 := ⟨by decide, gt_in (tb1 (List.mem_of_getElem? (i := 188) rfl)) rfl, gt_in (tb1 (List.mem_of_getElem? (i := 46) rfl)) rfl, gt_in (tb1 (List.mem_of_getElem? (i := 4) rfl)) rfl⟩
theorem k_Tb_11 : LKd "SeriesTables$TableBench" 11 0 m_Ta_init := ⟨w_Ta_init, wi_Ta, gt_in (tb1 (List.mem_of_getElem? (i := 189) rfl)) rfl, by decide +kernel, by decide⟩
theorem f_Tb_12 : FLk "SeriesTables$TableBench" 12 5 0 := ⟨by decide, by decide, gt_in (tb1 (List.mem_of_getElem? (i := 193) rfl)) rfl⟩
theorem f_Tb_18 : FLk "SeriesTables$TableBench" 18 5 1 := ⟨by decide, by decide, gt_in (tb1 (List.mem_of_getElem? (i := 195) rfl)) rfl⟩
theorem f_Tb_21 : FLk "SeriesTables$TableBench" 21 5 2 := ⟨by decide, by decide, gt_in (tb1 (List.mem_of_getElem? (i := 196) rfl)) rfl⟩
theorem f_Tb_24 : FLk "SeriesTables$TableBench" 24 5 3 := ⟨by decide, by decide, gt_in (tb1 (List.mem_of_getElem? (i := 197) rfl)) rfl⟩
theorem f_Tb_28 : FLk "SeriesTables$TableBench" 28 5 4 := ⟨by decide, by decide, gt_in (tb1 (List.mem_of_getElem? (i := 199) rfl)) rfl⟩
theorem f_Tb_31 : FLk "SeriesTables$TableBench" 31 5 5 := ⟨by decide, by decide, gt_in (tb1 (List.mem_of_getElem? (i := 200) rfl)) rfl⟩
theorem f_Tb_36 : FLk "SeriesTables$TableBench" 36 5 6 := ⟨by decide, by decide, gt_in (tb1 (List.mem_of_getElem? (i := 201) rfl)) rfl⟩
theorem f_Tb_39 : FLk "SeriesTables$TableBench" 39 5 7 := ⟨by decide, by decide, gt_in (tb1 (List.mem_of_getElem? (i := 202) rfl)) rfl⟩
theorem n_Tb_42 : NWk "SeriesTables$TableBench" 42 2 := ⟨by decide, gt_in (tb1 (List.mem_of_getElem? (i := 191) rfl)) rfl, gt_in (tb1 (List.mem_of_getElem? (i := 165) rfl)) rfl, gt_in (tb1 (List.mem_of_getElem? (i := 7) rfl)) rfl⟩
theorem k_Tb_44 : LKd "SeriesTables$TableBench" 44 0 m_Sb_init := ⟨w_Sb_init, wi_Sb, gt_in (tb1 (List.mem_of_getElem? (i := 192) rfl)) rfl, by decide +kernel, by decide⟩
theorem f_Tb_45 : FLk "SeriesTables$TableBench" 45 5 8 := ⟨by decide, by decide, gt_in (tb1 (List.mem_of_getElem? (i := 203) rfl)) rfl⟩
theorem f_Tb_49 : FLk "SeriesTables$TableBench" 49 4 0 := ⟨by decide, by decide, gt_in (tb1 (List.mem_of_getElem? (i := 52) rfl)) rfl⟩
theorem k_Tb_52 : Cond.methodLink "SeriesTables$TableBench" 52 arraycopyName ∈ gt_ws := gt_in (tb3 (List.mem_of_getElem? (i := 78) rfl)) rfl
theorem f_Tb_58 : FLk "SeriesTables$TableBench" 58 4 1 := ⟨by decide, by decide, gt_in (tb1 (List.mem_of_getElem? (i := 54) rfl)) rfl⟩
theorem k_Tb_61 : LKd "SeriesTables$TableBench" 61 3 m_Rw_multiply := ⟨w_Rw_multiply, wi_Rw, gt_in (tb3 (List.mem_of_getElem? (i := 79) rfl)) rfl, by decide +kernel, by decide⟩
theorem k_Tb_67 : LKd "SeriesTables$TableBench" 67 4 m_Rw_insert := ⟨w_Rw_insert, wi_Rw, gt_in (tb3 (List.mem_of_getElem? (i := 87) rfl)) rfl, by decide +kernel, by decide⟩
theorem k_Tb_71 : LKd "SeriesTables$TableBench" 71 3 m_Sb_reverse := ⟨w_Sb_reverse, wi_Sb, gt_in (tb3 (List.mem_of_getElem? (i := 100) rfl)) rfl, by decide +kernel, by decide⟩
theorem k_Tb_75 : LKd "SeriesTables$TableBench" 75 2 m_Rw_becomeNumber := ⟨w_Rw_becomeNumber, wi_Rw, gt_in (tb3 (List.mem_of_getElem? (i := 101) rfl)) rfl, by decide +kernel, by decide⟩
theorem k_Tb_79 : LKd "SeriesTables$TableBench" 79 3 m_Rw_divide := ⟨w_Rw_divide, wi_Rw, gt_in (tb3 (List.mem_of_getElem? (i := 102) rfl)) rfl, by decide +kernel, by decide⟩
theorem k_Tb_82 : LKd "SeriesTables$TableBench" 82 3 m_Tb_invert := ⟨w_Tb_invert, wi_Tb, gt_in (tb3 (List.mem_of_getElem? (i := 96) rfl)) rfl, by decide +kernel, by decide⟩
theorem k_Tb_86 : LKd "SeriesTables$TableBench" 86 1 m_Ta_copyFrom := ⟨w_Ta_copyFrom, wi_Ta, gt_in (tb3 (List.mem_of_getElem? (i := 103) rfl)) rfl, by decide +kernel, by decide⟩
theorem k_Tb_90 : LKd "SeriesTables$TableBench" 90 0 m_Ta_becomeOne := ⟨w_Ta_becomeOne, wi_Ta, gt_in (tb3 (List.mem_of_getElem? (i := 104) rfl)) rfl, by decide +kernel, by decide⟩
theorem k_Tb_93 : LKd "SeriesTables$TableBench" 93 1 m_Ma_abs := ⟨w_Ma_abs, wi_Ma, gt_in (tb3 (List.mem_of_getElem? (i := 105) rfl)) rfl, by decide +kernel, by decide⟩
theorem k_Tb_99 : LKd "SeriesTables$TableBench" 99 4 m_Tb_multiply := ⟨w_Tb_multiply, wi_Tb, gt_in (tb3 (List.mem_of_getElem? (i := 108) rfl)) rfl, by decide +kernel, by decide⟩
theorem k_Tb_102 : LKd "SeriesTables$TableBench" 102 2 m_Tb_findA := ⟨w_Tb_findA, wi_Tb, gt_in (tb3 (List.mem_of_getElem? (i := 117) rfl)) rfl, by decide +kernel, by decide⟩
theorem k_Tb_106 : LKd "SeriesTables$TableBench" 106 2 m_Tb_findZ := ⟨w_Tb_findZ, wi_Tb, gt_in (tb3 (List.mem_of_getElem? (i := 122) rfl)) rfl, by decide +kernel, by decide⟩
theorem k_Tb_109 : LKd "SeriesTables$TableBench" 109 3 m_Rw_oneAhead := ⟨w_Rw_oneAhead, wi_Rw, gt_in (tb3 (List.mem_of_getElem? (i := 121) rfl)) rfl, by decide +kernel, by decide⟩
theorem k_Tb_112 : LKd "SeriesTables$TableBench" 112 2 m_Rw_difference := ⟨w_Rw_difference, wi_Rw, gt_in (tb3 (List.mem_of_getElem? (i := 126) rfl)) rfl, by decide +kernel, by decide⟩
theorem k_Tb_116 : LKd "SeriesTables$TableBench" 116 3 m_Tb_fillColumns := ⟨w_Tb_fillColumns, wi_Tb, gt_in (tb3 (List.mem_of_getElem? (i := 143) rfl)) rfl, by decide +kernel, by decide⟩
theorem k_Tb_120 : LKd "SeriesTables$TableBench" 120 3 m_Tb_termOfSum := ⟨w_Tb_termOfSum, wi_Tb, gt_in (tb3 (List.mem_of_getElem? (i := 146) rfl)) rfl, by decide +kernel, by decide⟩
theorem c_Tb_124 : Cond.constantLong "SeriesTables$TableBench" 124 1000003 ∈ gt_ws := gt_in (tb3 (List.mem_of_getElem? (i := 151) rfl)) rfl
theorem c_Tb_126 : Cond.constant "SeriesTables$TableBench" 126 1000003 ∈ gt_ws := gt_in (tb3 (List.mem_of_getElem? (i := 150) rfl)) rfl
theorem k_Tb_127 : LKd "SeriesTables$TableBench" 127 1 m_Rw_inverse := ⟨w_Rw_inverse, wi_Rw, gt_in (tb4 (List.mem_of_getElem? (i := 101) rfl)) rfl, by decide +kernel, by decide⟩
theorem k_Tb_130 : LKd "SeriesTables$TableBench" 130 2 m_Rw_product := ⟨w_Rw_product, wi_Rw, gt_in (tb3 (List.mem_of_getElem? (i := 175) rfl)) rfl, by decide +kernel, by decide⟩
theorem k_Tb_133 : LKd "SeriesTables$TableBench" 133 2 m_Rw_isT := ⟨w_Rw_isT, wi_Rw, gt_in (tb3 (List.mem_of_getElem? (i := 160) rfl)) rfl, by decide +kernel, by decide⟩
theorem k_Tb_137 : LKd "SeriesTables$TableBench" 137 2 m_Rw_isOne := ⟨w_Rw_isOne, wi_Rw, gt_in (tb3 (List.mem_of_getElem? (i := 166) rfl)) rfl, by decide +kernel, by decide⟩
theorem k_Tb_140 : LKd "SeriesTables$TableBench" 140 2 m_Tb_isShifted := ⟨w_Tb_isShifted, wi_Tb, gt_in (tb3 (List.mem_of_getElem? (i := 169) rfl)) rfl, by decide +kernel, by decide⟩
theorem k_Tb_144 : LKd "SeriesTables$TableBench" 144 2 m_Tb_isDerivative := ⟨w_Tb_isDerivative, wi_Tb, gt_in (tb3 (List.mem_of_getElem? (i := 172) rfl)) rfl, by decide +kernel, by decide⟩
theorem k_Tb_147 : LKd "SeriesTables$TableBench" 147 2 m_Tb_isChequered := ⟨w_Tb_isChequered, wi_Tb, gt_in (tb3 (List.mem_of_getElem? (i := 176) rfl)) rfl, by decide +kernel, by decide⟩
theorem k_Tb_150 : LKd "SeriesTables$TableBench" 150 3 m_Tb_firstDifference := ⟨w_Tb_firstDifference, wi_Tb, gt_in (tb3 (List.mem_of_getElem? (i := 192) rfl)) rfl, by decide +kernel, by decide⟩
theorem k_Tp_3 : Cond.methodLink "SeriesTables$Tape" 3 objectInit ∈ gt_ws := gt_in (tb1 (List.mem_of_getElem? (i := 86) rfl)) rfl
theorem f_Tp_9 : FLk "SeriesTables$Tape" 9 6 0 := ⟨by decide, by decide, gt_in (tb1 (List.mem_of_getElem? (i := 87) rfl)) rfl⟩
theorem f_Tp_15 : FLk "SeriesTables$Tape" 15 6 1 := ⟨by decide, by decide, gt_in (tb1 (List.mem_of_getElem? (i := 90) rfl)) rfl⟩
theorem k_Lw_7 : LKd "SeriesTablesLaw" 7 3 m_X_entry := ⟨w_X_entry, wi_X, gt_in (tb4 (List.mem_of_getElem? (i := 21) rfl)) rfl, by decide +kernel, by decide⟩
theorem n_Lw_8 : NWk "SeriesTablesLaw" 8 7 := ⟨by decide, gt_in (tb1 (List.mem_of_getElem? (i := 22) rfl)) rfl, gt_in (tb1 (List.mem_of_getElem? (i := 23) rfl)) rfl, gt_in (tb1 (List.mem_of_getElem? (i := 1) rfl)) rfl⟩
theorem k_Lw_15 : LKd "SeriesTablesLaw" 15 3 m_X_production := ⟨w_X_production, wi_X, gt_in (tb4 (List.mem_of_getElem? (i := 89) rfl)) rfl, by decide +kernel, by decide⟩
theorem k_Lw_18 : LKd "SeriesTablesLaw" 18 0 m_X_init := ⟨w_X_init, wi_X, gt_in (tb1 (List.mem_of_getElem? (i := 24) rfl)) rfl, by decide +kernel, by decide⟩
theorem n_Lw_19 : NWk "SeriesTablesLaw" 19 8 := ⟨by decide, gt_in (tb4 (List.mem_of_getElem? (i := 119) rfl)) rfl, gt_in (tb4 (List.mem_of_getElem? (i := 113) rfl)) rfl, gt_in (tb1 (List.mem_of_getElem? (i := 9) rfl)) rfl⟩
theorem k_Lw_21 : LKd "SeriesTablesLaw" 21 0 m_Md_init := ⟨w_Md_init, wi_Md, gt_in (tb4 (List.mem_of_getElem? (i := 120) rfl)) rfl, by decide +kernel, by decide⟩
theorem k_Lw_22 : LKd "SeriesTablesLaw" 22 5 m_X_feed := ⟨w_X_feed, wi_X, gt_in (tb2 (List.mem_of_getElem? (i := 17) rfl)) rfl, by decide +kernel, by decide⟩
theorem k_Lw_26 : LKd "SeriesTablesLaw" 26 5 m_Md_feed := ⟨w_Md_feed, wi_Md, gt_in (tb4 (List.mem_of_getElem? (i := 106) rfl)) rfl, by decide +kernel, by decide⟩
theorem k_Lw_27 : LKd "SeriesTablesLaw" 27 1 m_X_end := ⟨w_X_end, wi_X, gt_in (tb2 (List.mem_of_getElem? (i := 25) rfl)) rfl, by decide +kernel, by decide⟩
theorem k_Lw_31 : LKd "SeriesTablesLaw" 31 1 m_Md_end := ⟨w_Md_end, wi_Md, gt_in (tb4 (List.mem_of_getElem? (i := 115) rfl)) rfl, by decide +kernel, by decide⟩
theorem k_Lw_32 : LKd "SeriesTablesLaw" 32 0 m_X_text := ⟨w_X_text, wi_X, gt_in (tb2 (List.mem_of_getElem? (i := 29) rfl)) rfl, by decide +kernel, by decide⟩
theorem k_Lw_36 : LKd "SeriesTablesLaw" 36 0 m_Md_text := ⟨w_Md_text, wi_Md, gt_in (tb4 (List.mem_of_getElem? (i := 218) rfl)) rfl, by decide +kernel, by decide⟩
theorem k_Lw_37 : LKd "SeriesTablesLaw" 37 0 m_X_fault := ⟨w_X_fault, wi_X, gt_in (tb2 (List.mem_of_getElem? (i := 197) rfl)) rfl, by decide +kernel, by decide⟩
theorem k_Lw_40 : LKd "SeriesTablesLaw" 40 0 m_Md_fault := ⟨w_Md_fault, wi_Md, gt_in (tb5 (List.mem_of_getElem? (i := 48) rfl)) rfl, by decide +kernel, by decide⟩
theorem k_Lw_41 : LKd "SeriesTablesLaw" 41 1 m_X_now := ⟨w_X_now, wi_X, gt_in (tb2 (List.mem_of_getElem? (i := 201) rfl)) rfl, by decide +kernel, by decide⟩
theorem k_Lw_45 : LKd "SeriesTablesLaw" 45 1 m_Md_now := ⟨w_Md_now, wi_Md, gt_in (tb5 (List.mem_of_getElem? (i := 52) rfl)) rfl, by decide +kernel, by decide⟩
theorem k_Lw_46 : LKd "SeriesTablesLaw" 46 2 m_X_at := ⟨w_X_at, wi_X, gt_in (tb2 (List.mem_of_getElem? (i := 205) rfl)) rfl, by decide +kernel, by decide⟩
theorem k_Lw_50 : LKd "SeriesTablesLaw" 50 2 m_Md_at := ⟨w_Md_at, wi_Md, gt_in (tb5 (List.mem_of_getElem? (i := 60) rfl)) rfl, by decide +kernel, by decide⟩
theorem k_Lw_51 : LKd "SeriesTablesLaw" 51 3 m_X_put := ⟨w_X_put, wi_X, gt_in (tb2 (List.mem_of_getElem? (i := 217) rfl)) rfl, by decide +kernel, by decide⟩
theorem k_Lw_54 : LKd "SeriesTablesLaw" 54 3 m_Md_put := ⟨w_Md_put, wi_Md, gt_in (tb5 (List.mem_of_getElem? (i := 72) rfl)) rfl, by decide +kernel, by decide⟩
theorem k_Lw_55 : LKd "SeriesTablesLaw" 55 4 m_X_make := ⟨w_X_make, wi_X, gt_in (tb2 (List.mem_of_getElem? (i := 233) rfl)) rfl, by decide +kernel, by decide⟩
theorem k_Lw_59 : LKd "SeriesTablesLaw" 59 4 m_Md_make := ⟨w_Md_make, wi_Md, gt_in (tb5 (List.mem_of_getElem? (i := 80) rfl)) rfl, by decide +kernel, by decide⟩
theorem k_Lw_60 : LKd "SeriesTablesLaw" 60 3 m_X_turn := ⟨w_X_turn, wi_X, gt_in (tb3 (List.mem_of_getElem? (i := 24) rfl)) rfl, by decide +kernel, by decide⟩
theorem k_Lw_63 : LKd "SeriesTablesLaw" 63 3 m_Md_turn := ⟨w_Md_turn, wi_Md, gt_in (tb5 (List.mem_of_getElem? (i := 107) rfl)) rfl, by decide +kernel, by decide⟩
theorem k_Lw_64 : LKd "SeriesTablesLaw" 64 3 m_X_raise := ⟨w_X_raise, wi_X, gt_in (tb3 (List.mem_of_getElem? (i := 51) rfl)) rfl, by decide +kernel, by decide⟩
theorem k_Lw_67 : LKd "SeriesTablesLaw" 67 3 m_Md_raise := ⟨w_Md_raise, wi_Md, gt_in (tb5 (List.mem_of_getElem? (i := 121) rfl)) rfl, by decide +kernel, by decide⟩
theorem k_Lw_68 : LKd "SeriesTablesLaw" 68 3 m_X_pair := ⟨w_X_pair, wi_X, gt_in (tb3 (List.mem_of_getElem? (i := 59) rfl)) rfl, by decide +kernel, by decide⟩
theorem k_Lw_71 : LKd "SeriesTablesLaw" 71 3 m_Md_pair := ⟨w_Md_pair, wi_Md, gt_in (tb5 (List.mem_of_getElem? (i := 125) rfl)) rfl, by decide +kernel, by decide⟩
theorem k_Lw_77 : LKd "SeriesTablesLaw" 77 3 m_Md_entry := ⟨w_Md_entry, wi_Md, gt_in (tb5 (List.mem_of_getElem? (i := 137) rfl)) rfl, by decide +kernel, by decide⟩
theorem k_Lw_78 : LKd "SeriesTablesLaw" 78 0 m_Md_thrown := ⟨w_Md_thrown, wi_Md, gt_in (tb4 (List.mem_of_getElem? (i := 102) rfl)) rfl, by decide +kernel, by decide⟩
theorem k_Lw_81 : LKd "SeriesTablesLaw" 81 3 m_X_times := ⟨w_X_times, wi_X, gt_in (tb3 (List.mem_of_getElem? (i := 80) rfl)) rfl, by decide +kernel, by decide⟩
theorem k_Lw_84 : LKd "SeriesTablesLaw" 84 3 m_Md_times := ⟨w_Md_times, wi_Md, gt_in (tb5 (List.mem_of_getElem? (i := 149) rfl)) rfl, by decide +kernel, by decide⟩
theorem k_Lw_85 : LKd "SeriesTablesLaw" 85 3 m_X_power := ⟨w_X_power, wi_X, gt_in (tb3 (List.mem_of_getElem? (i := 88) rfl)) rfl, by decide +kernel, by decide⟩
theorem k_Lw_88 : LKd "SeriesTablesLaw" 88 3 m_Md_power := ⟨w_Md_power, wi_Md, gt_in (tb5 (List.mem_of_getElem? (i := 156) rfl)) rfl, by decide +kernel, by decide⟩
theorem k_Lw_89 : LKd "SeriesTablesLaw" 89 3 m_X_part := ⟨w_X_part, wi_X, gt_in (tb3 (List.mem_of_getElem? (i := 109) rfl)) rfl, by decide +kernel, by decide⟩
theorem k_Lw_92 : LKd "SeriesTablesLaw" 92 3 m_Md_part := ⟨w_Md_part, wi_Md, gt_in (tb5 (List.mem_of_getElem? (i := 160) rfl)) rfl, by decide +kernel, by decide⟩
theorem k_Lw_93 : LKd "SeriesTablesLaw" 93 3 m_X_apply := ⟨w_X_apply, wi_X, gt_in (tb3 (List.mem_of_getElem? (i := 127) rfl)) rfl, by decide +kernel, by decide⟩
theorem k_Lw_96 : LKd "SeriesTablesLaw" 96 3 m_Md_apply := ⟨w_Md_apply, wi_Md, gt_in (tb5 (List.mem_of_getElem? (i := 168) rfl)) rfl, by decide +kernel, by decide⟩
theorem k_Lw_97 : LKd "SeriesTablesLaw" 97 3 m_X_sums := ⟨w_X_sums, wi_X, gt_in (tb3 (List.mem_of_getElem? (i := 135) rfl)) rfl, by decide +kernel, by decide⟩
theorem k_Lw_100 : LKd "SeriesTablesLaw" 100 3 m_Md_sums := ⟨w_Md_sums, wi_Md, gt_in (tb5 (List.mem_of_getElem? (i := 172) rfl)) rfl, by decide +kernel, by decide⟩
theorem k_Lw_103 : LKd "SeriesTablesLaw" 103 3 m_Md_production := ⟨w_Md_production, wi_Md, gt_in (tb5 (List.mem_of_getElem? (i := 176) rfl)) rfl, by decide +kernel, by decide⟩
theorem k_Lw_104 : LKd "SeriesTablesLaw" 104 1 m_X_kinds := ⟨w_X_kinds, wi_X, gt_in (tb3 (List.mem_of_getElem? (i := 152) rfl)) rfl, by decide +kernel, by decide⟩
theorem k_Lw_107 : LKd "SeriesTablesLaw" 107 1 m_Md_kinds := ⟨w_Md_kinds, wi_Md, gt_in (tb5 (List.mem_of_getElem? (i := 180) rfl)) rfl, by decide +kernel, by decide⟩
theorem k_Lw_108 : LKd "SeriesTablesLaw" 108 3 m_X_differ := ⟨w_X_differ, wi_X, gt_in (tb3 (List.mem_of_getElem? (i := 180) rfl)) rfl, by decide +kernel, by decide⟩
theorem k_Lw_111 : LKd "SeriesTablesLaw" 111 3 m_Md_differ := ⟨w_Md_differ, wi_Md, gt_in (tb5 (List.mem_of_getElem? (i := 192) rfl)) rfl, by decide +kernel, by decide⟩
theorem k_Lw_112 : LKd "SeriesTablesLaw" 112 3 m_X_fails := ⟨w_X_fails, wi_X, gt_in (tb3 (List.mem_of_getElem? (i := 193) rfl)) rfl, by decide +kernel, by decide⟩
theorem k_Lw_115 : LKd "SeriesTablesLaw" 115 3 m_Md_fails := ⟨w_Md_fails, wi_Md, gt_in (tb5 (List.mem_of_getElem? (i := 196) rfl)) rfl, by decide +kernel, by decide⟩
theorem k_Lw_116 : LKd "SeriesTablesLaw" 116 2 m_X_free := ⟨w_X_free, wi_X, gt_in (tb3 (List.mem_of_getElem? (i := 197) rfl)) rfl, by decide +kernel, by decide⟩
theorem k_Lw_119 : LKd "SeriesTablesLaw" 119 2 m_Md_free := ⟨w_Md_free, wi_Md, gt_in (tb5 (List.mem_of_getElem? (i := 200) rfl)) rfl, by decide +kernel, by decide⟩
theorem k_Lw_120 : LKd "SeriesTablesLaw" 120 3 m_X_set := ⟨w_X_set, wi_X, gt_in (tb3 (List.mem_of_getElem? (i := 201) rfl)) rfl, by decide +kernel, by decide⟩
theorem k_Lw_123 : LKd "SeriesTablesLaw" 123 3 m_Md_set := ⟨w_Md_set, wi_Md, gt_in (tb5 (List.mem_of_getElem? (i := 204) rfl)) rfl, by decide +kernel, by decide⟩
theorem k_Lw_124 : LKd "SeriesTablesLaw" 124 1 m_X_lay := ⟨w_X_lay, wi_X, gt_in (tb3 (List.mem_of_getElem? (i := 205) rfl)) rfl, by decide +kernel, by decide⟩
theorem k_Lw_127 : LKd "SeriesTablesLaw" 127 1 m_Md_lay := ⟨w_Md_lay, wi_Md, gt_in (tb5 (List.mem_of_getElem? (i := 208) rfl)) rfl, by decide +kernel, by decide⟩
theorem k_Lw_128 : LKd "SeriesTablesLaw" 128 0 m_X_unlike := ⟨w_X_unlike, wi_X, gt_in (tb3 (List.mem_of_getElem? (i := 213) rfl)) rfl, by decide +kernel, by decide⟩
theorem k_Lw_131 : LKd "SeriesTablesLaw" 131 0 m_Md_unlike := ⟨w_Md_unlike, wi_Md, gt_in (tb5 (List.mem_of_getElem? (i := 212) rfl)) rfl, by decide +kernel, by decide⟩
theorem k_Lw_132 : LKd "SeriesTablesLaw" 132 1 m_X_rebuild := ⟨w_X_rebuild, wi_X, gt_in (tb3 (List.mem_of_getElem? (i := 221) rfl)) rfl, by decide +kernel, by decide⟩
theorem k_Lw_135 : LKd "SeriesTablesLaw" 135 1 m_Md_rebuild := ⟨w_Md_rebuild, wi_Md, gt_in (tb5 (List.mem_of_getElem? (i := 220) rfl)) rfl, by decide +kernel, by decide⟩
theorem k_Lw_136 : LKd "SeriesTablesLaw" 136 2 m_X_drawn := ⟨w_X_drawn, wi_X, gt_in (tb3 (List.mem_of_getElem? (i := 225) rfl)) rfl, by decide +kernel, by decide⟩
theorem k_Lw_139 : LKd "SeriesTablesLaw" 139 2 m_Md_drawn := ⟨w_Md_drawn, wi_Md, gt_in (tb5 (List.mem_of_getElem? (i := 224) rfl)) rfl, by decide +kernel, by decide⟩
theorem k_Lw_140 : LKd "SeriesTablesLaw" 140 0 m_X_undo := ⟨w_X_undo, wi_X, gt_in (tb4 (List.mem_of_getElem? (i := 1) rfl)) rfl, by decide +kernel, by decide⟩
theorem k_Lw_143 : LKd "SeriesTablesLaw" 143 0 m_Md_undo := ⟨w_Md_undo, wi_Md, gt_in (tb5 (List.mem_of_getElem? (i := 233) rfl)) rfl, by decide +kernel, by decide⟩
theorem k_Lw_144 : LKd "SeriesTablesLaw" 144 1 m_X_image := ⟨w_X_image, wi_X, gt_in (tb4 (List.mem_of_getElem? (i := 9) rfl)) rfl, by decide +kernel, by decide⟩
theorem k_Lw_147 : LKd "SeriesTablesLaw" 147 1 m_Md_image := ⟨w_Md_image, wi_Md, gt_in (tb5 (List.mem_of_getElem? (i := 237) rfl)) rfl, by decide +kernel, by decide⟩
theorem k_Lw_148 : LKd "SeriesTablesLaw" 148 1 m_X_restore := ⟨w_X_restore, wi_X, gt_in (tb4 (List.mem_of_getElem? (i := 13) rfl)) rfl, by decide +kernel, by decide⟩
theorem k_Lw_151 : LKd "SeriesTablesLaw" 151 1 m_Md_restore := ⟨w_Md_restore, wi_Md, gt_in (tb6 (List.mem_of_getElem? (i := 1) rfl)) rfl, by decide +kernel, by decide⟩
theorem f_Md_1 : FLk "SeriesTablesModel" 1 8 0 := ⟨by decide, by decide, gt_in (tb4 (List.mem_of_getElem? (i := 124) rfl)) rfl⟩
theorem f_Md_7 : FLk "SeriesTablesModel" 7 8 1 := ⟨by decide, by decide, gt_in (tb4 (List.mem_of_getElem? (i := 125) rfl)) rfl⟩
theorem f_Md_11 : FLk "SeriesTablesModel" 11 8 2 := ⟨by decide, by decide, gt_in (tb4 (List.mem_of_getElem? (i := 126) rfl)) rfl⟩
theorem k_Md_14 : LKd "SeriesTablesModel" 14 1 m_Md_lays := ⟨w_Md_lays, wi_Md, gt_in (tb4 (List.mem_of_getElem? (i := 110) rfl)) rfl, by decide +kernel, by decide⟩
theorem f_Md_18 : FLk "SeriesTablesModel" 18 8 3 := ⟨by decide, by decide, gt_in (tb4 (List.mem_of_getElem? (i := 127) rfl)) rfl⟩
theorem f_Md_21 : FLk "SeriesTablesModel" 21 8 4 := ⟨by decide, by decide, gt_in (tb4 (List.mem_of_getElem? (i := 128) rfl)) rfl⟩
theorem f_Md_24 : FLk "SeriesTablesModel" 24 8 5 := ⟨by decide, by decide, gt_in (tb4 (List.mem_of_getElem? (i := 129) rfl)) rfl⟩
theorem f_Md_27 : FLk "SeriesTablesModel" 27 8 6 := ⟨by decide, by decide, gt_in (tb4 (List.mem_of_getElem? (i := 130) rfl)) rfl⟩
theorem k_Md_30 : LKd "SeriesTablesModel" 30 1 m_Md_isLetter := ⟨w_Md_isLetter, wi_Md, gt_in (tb4 (List.mem_of_getElem? (i := 226) rfl)) rfl, by decide +kernel, by decide⟩
theorem k_Md_34 : LKd "SeriesTablesModel" 34 1 m_Md_isDigit := ⟨w_Md_isDigit, wi_Md, gt_in (tb4 (List.mem_of_getElem? (i := 229) rfl)) rfl, by decide +kernel, by decide⟩
theorem f_Md_37 : FLk "SeriesTablesModel" 37 8 7 := ⟨by decide, by decide, gt_in (tb4 (List.mem_of_getElem? (i := 131) rfl)) rfl⟩
theorem k_Md_40 : LKd "SeriesTablesModel" 40 1 m_Md_tapeAt := ⟨w_Md_tapeAt, wi_Md, gt_in (tb4 (List.mem_of_getElem? (i := 232) rfl)) rfl, by decide +kernel, by decide⟩
theorem f_Md_44 : FLk "SeriesTablesModel" 44 8 8 := ⟨by decide, by decide, gt_in (tb4 (List.mem_of_getElem? (i := 132) rfl)) rfl⟩
theorem f_Md_47 : FLk "SeriesTablesModel" 47 8 9 := ⟨by decide, by decide, gt_in (tb4 (List.mem_of_getElem? (i := 133) rfl)) rfl⟩
theorem k_Md_50 : Cond.methodLink "SeriesTablesModel" 50 objectInit ∈ gt_ws := gt_in (tb4 (List.mem_of_getElem? (i := 123) rfl)) rfl
theorem f_Md_56 : FLk "SeriesTablesModel" 56 8 10 := ⟨by decide, by decide, gt_in (tb4 (List.mem_of_getElem? (i := 134) rfl)) rfl⟩
theorem f_Md_59 : FLk "SeriesTablesModel" 59 8 11 := ⟨by decide, by decide, gt_in (tb4 (List.mem_of_getElem? (i := 135) rfl)) rfl⟩
theorem f_Md_62 : FLk "SeriesTablesModel" 62 8 12 := ⟨by decide, by decide, gt_in (tb4 (List.mem_of_getElem? (i := 136) rfl)) rfl⟩
theorem f_Md_65 : FLk "SeriesTablesModel" 65 8 13 := ⟨by decide, by decide, gt_in (tb4 (List.mem_of_getElem? (i := 137) rfl)) rfl⟩
theorem f_Md_68 : FLk "SeriesTablesModel" 68 8 14 := ⟨by decide, by decide, gt_in (tb4 (List.mem_of_getElem? (i := 138) rfl)) rfl⟩
theorem f_Md_72 : FLk "SeriesTablesModel" 72 8 20 := ⟨by decide, by decide, gt_in (tb4 (List.mem_of_getElem? (i := 144) rfl)) rfl⟩
theorem f_Md_75 : FLk "SeriesTablesModel" 75 8 21 := ⟨by decide, by decide, gt_in (tb4 (List.mem_of_getElem? (i := 145) rfl)) rfl⟩
theorem f_Md_78 : FLk "SeriesTablesModel" 78 8 22 := ⟨by decide, by decide, gt_in (tb4 (List.mem_of_getElem? (i := 146) rfl)) rfl⟩
theorem f_Md_81 : FLk "SeriesTablesModel" 81 8 23 := ⟨by decide, by decide, gt_in (tb4 (List.mem_of_getElem? (i := 147) rfl)) rfl⟩
theorem f_Md_84 : FLk "SeriesTablesModel" 84 8 24 := ⟨by decide, by decide, gt_in (tb4 (List.mem_of_getElem? (i := 148) rfl)) rfl⟩
theorem f_Md_87 : FLk "SeriesTablesModel" 87 8 25 := ⟨by decide, by decide, gt_in (tb4 (List.mem_of_getElem? (i := 149) rfl)) rfl⟩
theorem f_Md_90 : FLk "SeriesTablesModel" 90 8 26 := ⟨by decide, by decide, gt_in (tb4 (List.mem_of_getElem? (i := 150) rfl)) rfl⟩
theorem f_Md_93 : FLk "SeriesTablesModel" 93 8 27 := ⟨by decide, by decide, gt_in (tb4 (List.mem_of_getElem? (i := 151) rfl)) rfl⟩
theorem f_Md_96 : FLk "SeriesTablesModel" 96 8 28 := ⟨by decide, by decide, gt_in (tb4 (List.mem_of_getElem? (i := 152) rfl)) rfl⟩
theorem f_Md_99 : FLk "SeriesTablesModel" 99 8 29 := ⟨by decide, by decide, gt_in (tb4 (List.mem_of_getElem? (i := 153) rfl)) rfl⟩
theorem c_Md_102 : Cond.constantLong "SeriesTablesModel" 102 1000003 ∈ gt_ws := gt_in (tb5 (List.mem_of_getElem? (i := 26) rfl)) rfl
theorem c_Md_104 : Cond.constant "SeriesTablesModel" 104 1000001 ∈ gt_ws := gt_in (tb5 (List.mem_of_getElem? (i := 33) rfl)) rfl
theorem k_Md_105 : LKd "SeriesTablesModel" 105 1 m_Md_turned := ⟨w_Md_turned, wi_Md, gt_in (tb5 (List.mem_of_getElem? (i := 30) rfl)) rfl, by decide +kernel, by decide⟩
theorem k_Md_109 : LKd "SeriesTablesModel" 109 1 m_Md_rest := ⟨w_Md_rest, wi_Md, gt_in (tb5 (List.mem_of_getElem? (i := 23) rfl)) rfl, by decide +kernel, by decide⟩
theorem k_Md_112 : LKd "SeriesTablesModel" 112 0 m_Md_next := ⟨w_Md_next, wi_Md, gt_in (tb4 (List.mem_of_getElem? (i := 222) rfl)) rfl, by decide +kernel, by decide⟩
theorem k_Md_115 : LKd "SeriesTablesModel" 115 1 m_Md_bad := ⟨w_Md_bad, wi_Md, gt_in (tb5 (List.mem_of_getElem? (i := 8) rfl)) rfl, by decide +kernel, by decide⟩
theorem k_Md_118 : LKd "SeriesTablesModel" 118 3 m_Md_isIn := ⟨w_Md_isIn, wi_Md, gt_in (tb5 (List.mem_of_getElem? (i := 12) rfl)) rfl, by decide +kernel, by decide⟩
theorem f_Md_122 : FLk "SeriesTablesModel" 122 8 18 := ⟨by decide, by decide, gt_in (tb4 (List.mem_of_getElem? (i := 142) rfl)) rfl⟩
theorem k_Md_125 : LKd "SeriesTablesModel" 125 2 m_Md_readSum := ⟨w_Md_readSum, wi_Md, gt_in (tb5 (List.mem_of_getElem? (i := 19) rfl)) rfl, by decide +kernel, by decide⟩
theorem k_Md_129 : LKd "SeriesTablesModel" 129 6 m_Md_isWord := ⟨w_Md_isWord, wi_Md, gt_in (tb5 (List.mem_of_getElem? (i := 0) rfl)) rfl, by decide +kernel, by decide⟩
theorem k_Md_133 : LKd "SeriesTablesModel" 133 4 m_Md_divides := ⟨w_Md_divides, wi_Md, gt_in (tb5 (List.mem_of_getElem? (i := 27) rfl)) rfl, by decide +kernel, by decide⟩
theorem f_Md_137 : FLk "SeriesTablesModel" 137 8 19 := ⟨by decide, by decide, gt_in (tb4 (List.mem_of_getElem? (i := 143) rfl)) rfl⟩
theorem k_Md_140 : LKd "SeriesTablesModel" 140 3 m_Md_makesTable := ⟨w_Md_makesTable, wi_Md, gt_in (tb5 (List.mem_of_getElem? (i := 38) rfl)) rfl, by decide +kernel, by decide⟩
theorem k_Md_144 : LKd "SeriesTablesModel" 144 0 m_Md_readSize := ⟨w_Md_readSize, wi_Md, gt_in (tb5 (List.mem_of_getElem? (i := 4) rfl)) rfl, by decide +kernel, by decide⟩
theorem k_Md_148 : LKd "SeriesTablesModel" 148 0 m_Md_readSeries := ⟨w_Md_readSeries, wi_Md, gt_in (tb5 (List.mem_of_getElem? (i := 15) rfl)) rfl, by decide +kernel, by decide⟩
theorem k_Md_151 : LKd "SeriesTablesModel" 151 0 m_Md_readTable := ⟨w_Md_readTable, wi_Md, gt_in (tb5 (List.mem_of_getElem? (i := 34) rfl)) rfl, by decide +kernel, by decide⟩
theorem k_Md_154 : LKd "SeriesTablesModel" 154 0 m_Md_readLine := ⟨w_Md_readLine, wi_Md, gt_in (tb4 (List.mem_of_getElem? (i := 236) rfl)) rfl, by decide +kernel, by decide⟩
theorem k_Md_157 : LKd "SeriesTablesModel" 157 0 m_Md_readEnd := ⟨w_Md_readEnd, wi_Md, gt_in (tb5 (List.mem_of_getElem? (i := 41) rfl)) rfl, by decide +kernel, by decide⟩
theorem k_Md_160 : LKd "SeriesTablesModel" 160 4 m_Md_copy := ⟨w_Md_copy, wi_Md, gt_in (tb5 (List.mem_of_getElem? (i := 45) rfl)) rfl, by decide +kernel, by decide⟩
theorem f_Md_164 : FLk "SeriesTablesModel" 164 8 15 := ⟨by decide, by decide, gt_in (tb4 (List.mem_of_getElem? (i := 139) rfl)) rfl⟩
theorem f_Md_167 : FLk "SeriesTablesModel" 167 8 16 := ⟨by decide, by decide, gt_in (tb4 (List.mem_of_getElem? (i := 140) rfl)) rfl⟩
theorem f_Md_170 : FLk "SeriesTablesModel" 170 8 17 := ⟨by decide, by decide, gt_in (tb4 (List.mem_of_getElem? (i := 141) rfl)) rfl⟩
theorem k_Md_173 : LKd "SeriesTablesModel" 173 0 m_Md_wide := ⟨w_Md_wide, wi_Md, gt_in (tb5 (List.mem_of_getElem? (i := 56) rfl)) rfl, by decide +kernel, by decide⟩
theorem k_Md_177 : LKd "SeriesTablesModel" 177 0 m_Md_snap := ⟨w_Md_snap, wi_Md, gt_in (tb5 (List.mem_of_getElem? (i := 76) rfl)) rfl, by decide +kernel, by decide⟩
theorem k_Md_180 : LKd "SeriesTablesModel" 180 1 m_Md_isSeries := ⟨w_Md_isSeries, wi_Md, gt_in (tb5 (List.mem_of_getElem? (i := 64) rfl)) rfl, by decide +kernel, by decide⟩
theorem k_Md_183 : LKd "SeriesTablesModel" 183 1 m_Md_isPlace := ⟨w_Md_isPlace, wi_Md, gt_in (tb5 (List.mem_of_getElem? (i := 68) rfl)) rfl, by decide +kernel, by decide⟩
theorem k_Md_186 : LKd "SeriesTablesModel" 186 4 m_Md_multiplies := ⟨w_Md_multiplies, wi_Md, gt_in (tb5 (List.mem_of_getElem? (i := 88) rfl)) rfl, by decide +kernel, by decide⟩
theorem k_Md_189 : LKd "SeriesTablesModel" 189 2 m_Md_takes := ⟨w_Md_takes, wi_Md, gt_in (tb5 (List.mem_of_getElem? (i := 84) rfl)) rfl, by decide +kernel, by decide⟩
theorem k_Md_193 : LKd "SeriesTablesModel" 193 0 m_Md_laysUnit := ⟨w_Md_laysUnit, wi_Md, gt_in (tb5 (List.mem_of_getElem? (i := 91) rfl)) rfl, by decide +kernel, by decide⟩
theorem k_Md_196 : LKd "SeriesTablesModel" 196 3 m_Md_columns := ⟨w_Md_columns, wi_Md, gt_in (tb5 (List.mem_of_getElem? (i := 95) rfl)) rfl, by decide +kernel, by decide⟩
theorem k_Md_200 : LKd "SeriesTablesModel" 200 3 m_Md_makes := ⟨w_Md_makes, wi_Md, gt_in (tb5 (List.mem_of_getElem? (i := 99) rfl)) rfl, by decide +kernel, by decide⟩
theorem k_Md_203 : LKd "SeriesTablesModel" 203 3 m_Md_comes := ⟨w_Md_comes, wi_Md, gt_in (tb5 (List.mem_of_getElem? (i := 103) rfl)) rfl, by decide +kernel, by decide⟩
theorem k_Md_207 : LKd "SeriesTablesModel" 207 1 m_Md_ones := ⟨w_Md_ones, wi_Md, gt_in (tb5 (List.mem_of_getElem? (i := 115) rfl)) rfl, by decide +kernel, by decide⟩
theorem k_Md_211 : LKd "SeriesTablesModel" 211 4 m_Md_solves := ⟨w_Md_solves, wi_Md, gt_in (tb5 (List.mem_of_getElem? (i := 118) rfl)) rfl, by decide +kernel, by decide⟩
theorem k_Md_214 : LKd "SeriesTablesModel" 214 2 m_Md_reverses := ⟨w_Md_reverses, wi_Md, gt_in (tb5 (List.mem_of_getElem? (i := 111) rfl)) rfl, by decide +kernel, by decide⟩
theorem k_Md_218 : LKd "SeriesTablesModel" 218 1 m_Md_isTable := ⟨w_Md_isTable, wi_Md, gt_in (tb5 (List.mem_of_getElem? (i := 129) rfl)) rfl, by decide +kernel, by decide⟩
theorem k_Md_221 : LKd "SeriesTablesModel" 221 2 m_Md_comesAs := ⟨w_Md_comesAs, wi_Md, gt_in (tb5 (List.mem_of_getElem? (i := 133) rfl)) rfl, by decide +kernel, by decide⟩
theorem k_Md_225 : LKd "SeriesTablesModel" 225 0 m_Md_refuse := ⟨w_Md_refuse, wi_Md, gt_in (tb5 (List.mem_of_getElem? (i := 141) rfl)) rfl, by decide +kernel, by decide⟩
theorem k_Md_228 : LKd "SeriesTablesModel" 228 2 m_Md_matrix := ⟨w_Md_matrix, wi_Md, gt_in (tb5 (List.mem_of_getElem? (i := 145) rfl)) rfl, by decide +kernel, by decide⟩
theorem k_Md_231 : LKd "SeriesTablesModel" 231 4 m_Md_product := ⟨w_Md_product, wi_Md, gt_in (tb5 (List.mem_of_getElem? (i := 153) rfl)) rfl, by decide +kernel, by decide⟩
theorem k_Md_234 : LKd "SeriesTablesModel" 234 1 m_Md_laysProduction := ⟨w_Md_laysProduction, wi_Md, gt_in (tb5 (List.mem_of_getElem? (i := 164) rfl)) rfl, by decide +kernel, by decide⟩
theorem k_Md_237 : LKd "SeriesTablesModel" 237 2 m_Md_unlikeAt := ⟨w_Md_unlikeAt, wi_Md, gt_in (tb5 (List.mem_of_getElem? (i := 188) rfl)) rfl, by decide +kernel, by decide⟩
theorem k_Md_241 : LKd "SeriesTablesModel" 241 1 m_Md_kindsOf := ⟨w_Md_kindsOf, wi_Md, gt_in (tb5 (List.mem_of_getElem? (i := 184) rfl)) rfl, by decide +kernel, by decide⟩
theorem k_Md_244 : LKd "SeriesTablesModel" 244 0 m_Md_unlikeNow := ⟨w_Md_unlikeNow, wi_Md, gt_in (tb5 (List.mem_of_getElem? (i := 216) rfl)) rfl, by decide +kernel, by decide⟩
theorem f_Md_247 : FLk "SeriesTablesModel" 247 8 30 := ⟨by decide, by decide, gt_in (tb4 (List.mem_of_getElem? (i := 154) rfl)) rfl⟩
theorem c_Md_250 : Cond.constant "SeriesTablesModel" 250 1103515245 ∈ gt_ws := gt_in (tb5 (List.mem_of_getElem? (i := 232) rfl)) rfl
theorem k_Md_251 : LKd "SeriesTablesModel" 251 1 m_Md_draw := ⟨w_Md_draw, wi_Md, gt_in (tb5 (List.mem_of_getElem? (i := 228) rfl)) rfl, by decide +kernel, by decide⟩
theorem k_Sg_335 : LKd "java/lang/String" 335 0 m_Sg_coder := ⟨w_Sg_coder, wi_Sg, gt_in (tb2 (List.mem_of_getElem? (i := 78) rfl)) rfl, by decide +kernel, by decide⟩
theorem k_Sg_492 : LKd "java/lang/String" 492 0 m_Sg_isLatin1 := ⟨w_Sg_isLatin1, wi_Sg, gt_in (tb2 (List.mem_of_getElem? (i := 88) rfl)) rfl, by decide +kernel, by decide⟩
theorem k_Sg_495 : LKd "java/lang/String" 495 2 m_Sl_charAt := ⟨w_Sl_charAt, wi_Sl, gt_in (tb2 (List.mem_of_getElem? (i := 92) rfl)) rfl, by decide +kernel, by decide⟩
theorem k_Sg_1059 : LKd "java/lang/String" 1059 3 m_Pr_checkIndex := ⟨w_Pr_checkIndex, wi_Pr, gt_in (tb2 (List.mem_of_getElem? (i := 100) rfl)) rfl, by decide +kernel, by decide⟩
theorem k_Sl_9 : LKd "java/lang/StringLatin1" 9 2 m_Sg_checkIndex := ⟨w_Sg_checkIndex, wi_Sg, gt_in (tb2 (List.mem_of_getElem? (i := 95) rfl)) rfl, by decide +kernel, by decide⟩
theorem k_Su_414 : LKd "java/lang/StringUTF16" 414 2 m_Sg_checkIndex := ⟨w_Sg_checkIndex, wi_Sg, gt_in (tb2 (List.mem_of_getElem? (i := 112) rfl)) rfl, by decide +kernel, by decide⟩
theorem k_Th_1 : Cond.methodLink "java/lang/Throwable" 1 objectInit ∈ gt_ws := gt_in (tb4 (List.mem_of_getElem? (i := 50) rfl)) rfl
end
section
theorem d_St_init_0 : dd m_St_init 0 (.aload_n 0) 1 1 := ⟨by decide +kernel, rfl⟩
theorem d_St_init_1 : dd m_St_init 1 (.invokespecial 3) 3 4 := ⟨by decide +kernel, rfl⟩
theorem d_St_init_4 : dd m_St_init 4 (.aload_n 0) 1 5 := ⟨by decide +kernel, rfl⟩
theorem d_St_init_5 : dd m_St_init 5 (.bipush 6) 2 7 := ⟨by decide +kernel, rfl⟩
theorem d_St_init_7 : dd m_St_init 7 (.bipush 10) 2 9 := ⟨by decide +kernel, rfl⟩
theorem d_St_init_9 : dd m_St_init 9 (.multianewarray 9 2) 4 13 := ⟨by decide +kernel, rfl⟩
theorem d_St_init_13 : dd m_St_init 13 (.putfield 11) 3 16 := ⟨by decide +kernel, rfl⟩
theorem d_St_init_16 : dd m_St_init 16 (.aload_n 0) 1 17 := ⟨by decide +kernel, rfl⟩
theorem d_St_init_17 : dd m_St_init 17 (.iconst 4) 1 18 := ⟨by decide +kernel, rfl⟩
theorem d_St_init_18 : dd m_St_init 18 (.anewarray 16) 3 21 := ⟨by decide +kernel, rfl⟩
theorem d_St_init_21 : dd m_St_init 21 (.putfield 18) 3 24 := ⟨by decide +kernel, rfl⟩
theorem d_St_init_24 : dd m_St_init 24 (.aload_n 0) 1 25 := ⟨by decide +kernel, rfl⟩
theorem d_St_init_25 : dd m_St_init 25 (.bipush 10) 2 27 := ⟨by decide +kernel, rfl⟩
theorem d_St_init_27 : dd m_St_init 27 (.bipush 10) 2 29 := ⟨by decide +kernel, rfl⟩
theorem d_St_init_29 : dd m_St_init 29 (.multianewarray 9 2) 4 33 := ⟨by decide +kernel, rfl⟩
theorem d_St_init_33 : dd m_St_init 33 (.putfield 22) 3 36 := ⟨by decide +kernel, rfl⟩
theorem d_St_init_36 : dd m_St_init 36 (.iconst 0) 1 37 := ⟨by decide +kernel, rfl⟩
theorem d_St_init_37 : dd m_St_init 37 (.istore_n 1) 1 38 := ⟨by decide +kernel, rfl⟩
theorem d_St_init_38 : dd m_St_init 38 (.iload_n 1) 1 39 := ⟨by decide +kernel, rfl⟩
theorem d_St_init_39 : dd m_St_init 39 (.iconst 4) 1 40 := ⟨by decide +kernel, rfl⟩
theorem d_St_init_40 : db m_St_init 40 (.if_icmp .ge) 43 62 := ⟨22, by decide +kernel, rfl, rfl⟩
theorem d_St_init_43 : dd m_St_init 43 (.aload_n 0) 1 44 := ⟨by decide +kernel, rfl⟩
theorem d_St_init_44 : dd m_St_init 44 (.getfield 18) 3 47 := ⟨by decide +kernel, rfl⟩
theorem d_St_init_47 : dd m_St_init 47 (.iload_n 1) 1 48 := ⟨by decide +kernel, rfl⟩
theorem d_St_init_48 : dd m_St_init 48 (.new 16) 3 51 := ⟨by decide +kernel, rfl⟩
theorem d_St_init_51 : dd m_St_init 51 .dup 1 52 := ⟨by decide +kernel, rfl⟩
theorem d_St_init_52 : dd m_St_init 52 (.invokespecial 25) 3 55 := ⟨by decide +kernel, rfl⟩
theorem d_St_init_55 : dd m_St_init 55 .aastore 1 56 := ⟨by decide +kernel, rfl⟩
theorem d_St_init_56 : dd m_St_init 56 (.iinc 1 1) 3 59 := ⟨by decide +kernel, rfl⟩
theorem d_St_init_59 : db m_St_init 59 .goto 62 38 := ⟨(-21), by decide +kernel, rfl, rfl⟩
theorem d_St_init_62 : decode (mbt m_St_init) 62 = .ok (.return_, 1) := by decide +kernel
theorem d_Ta_init_0 : dd m_Ta_init 0 (.aload_n 0) 1 1 := ⟨by decide +kernel, rfl⟩
theorem d_Ta_init_1 : dd m_Ta_init 1 (.invokespecial 3) 3 4 := ⟨by decide +kernel, rfl⟩
theorem d_Ta_init_4 : dd m_Ta_init 4 (.aload_n 0) 1 5 := ⟨by decide +kernel, rfl⟩
theorem d_Ta_init_5 : dd m_Ta_init 5 (.bipush 10) 2 7 := ⟨by decide +kernel, rfl⟩
theorem d_Ta_init_7 : dd m_Ta_init 7 (.newarray .int) 2 9 := ⟨by decide +kernel, rfl⟩
theorem d_Ta_init_9 : dd m_Ta_init 9 (.putfield 9) 3 12 := ⟨by decide +kernel, rfl⟩
theorem d_Ta_init_12 : dd m_Ta_init 12 (.aload_n 0) 1 13 := ⟨by decide +kernel, rfl⟩
theorem d_Ta_init_13 : dd m_Ta_init 13 (.bipush 10) 2 15 := ⟨by decide +kernel, rfl⟩
theorem d_Ta_init_15 : dd m_Ta_init 15 (.newarray .int) 2 17 := ⟨by decide +kernel, rfl⟩
theorem d_Ta_init_17 : dd m_Ta_init 17 (.putfield 15) 3 20 := ⟨by decide +kernel, rfl⟩
theorem d_Ta_init_20 : dd m_Ta_init 20 (.aload_n 0) 1 21 := ⟨by decide +kernel, rfl⟩
theorem d_Ta_init_21 : dd m_Ta_init 21 (.getfield 9) 3 24 := ⟨by decide +kernel, rfl⟩
theorem d_Ta_init_24 : dd m_Ta_init 24 (.iconst 0) 1 25 := ⟨by decide +kernel, rfl⟩
theorem d_Ta_init_25 : dd m_Ta_init 25 (.iconst 1) 1 26 := ⟨by decide +kernel, rfl⟩
theorem d_Ta_init_26 : dd m_Ta_init 26 .iastore 1 27 := ⟨by decide +kernel, rfl⟩
theorem d_Ta_init_27 : dd m_Ta_init 27 (.aload_n 0) 1 28 := ⟨by decide +kernel, rfl⟩
theorem d_Ta_init_28 : dd m_Ta_init 28 (.getfield 15) 3 31 := ⟨by decide +kernel, rfl⟩
theorem d_Ta_init_31 : dd m_Ta_init 31 (.iconst 1) 1 32 := ⟨by decide +kernel, rfl⟩
theorem d_Ta_init_32 : dd m_Ta_init 32 (.iconst 1) 1 33 := ⟨by decide +kernel, rfl⟩
theorem d_Ta_init_33 : dd m_Ta_init 33 .iastore 1 34 := ⟨by decide +kernel, rfl⟩
theorem d_Ta_init_34 : decode (mbt m_Ta_init) 34 = .ok (.return_, 1) := by decide +kernel
theorem d_Tp_init_0 : dd m_Tp_init 0 (.aload_n 0) 1 1 := ⟨by decide +kernel, rfl⟩
theorem d_Tp_init_1 : dd m_Tp_init 1 (.invokespecial 3) 3 4 := ⟨by decide +kernel, rfl⟩
theorem d_Tp_init_4 : dd m_Tp_init 4 (.aload_n 0) 1 5 := ⟨by decide +kernel, rfl⟩
theorem d_Tp_init_5 : dd m_Tp_init 5 (.sipush 540) 3 8 := ⟨by decide +kernel, rfl⟩
theorem d_Tp_init_8 : dd m_Tp_init 8 (.newarray .byte) 2 10 := ⟨by decide +kernel, rfl⟩
theorem d_Tp_init_10 : dd m_Tp_init 10 (.putfield 9) 3 13 := ⟨by decide +kernel, rfl⟩
theorem d_Tp_init_13 : decode (mbt m_Tp_init) 13 = .ok (.return_, 1) := by decide +kernel
theorem d_Hi_init_0 : dd m_Hi_init 0 (.aload_n 0) 1 1 := ⟨by decide +kernel, rfl⟩
theorem d_Hi_init_1 : dd m_Hi_init 1 (.invokespecial 3) 3 4 := ⟨by decide +kernel, rfl⟩
theorem d_Hi_init_4 : dd m_Hi_init 4 (.aload_n 0) 1 5 := ⟨by decide +kernel, rfl⟩
theorem d_Hi_init_5 : dd m_Hi_init 5 (.bipush 8) 2 7 := ⟨by decide +kernel, rfl⟩
theorem d_Hi_init_7 : dd m_Hi_init 7 (.anewarray 9) 3 10 := ⟨by decide +kernel, rfl⟩
theorem d_Hi_init_10 : dd m_Hi_init 10 (.putfield 11) 3 13 := ⟨by decide +kernel, rfl⟩
theorem d_Hi_init_13 : dd m_Hi_init 13 (.iconst 0) 1 14 := ⟨by decide +kernel, rfl⟩
theorem d_Hi_init_14 : dd m_Hi_init 14 (.istore_n 1) 1 15 := ⟨by decide +kernel, rfl⟩
theorem d_Hi_init_15 : dd m_Hi_init 15 (.iload_n 1) 1 16 := ⟨by decide +kernel, rfl⟩
theorem d_Hi_init_16 : dd m_Hi_init 16 (.bipush 8) 2 18 := ⟨by decide +kernel, rfl⟩
theorem d_Hi_init_18 : db m_Hi_init 18 (.if_icmp .ge) 21 40 := ⟨22, by decide +kernel, rfl, rfl⟩
theorem d_Hi_init_21 : dd m_Hi_init 21 (.aload_n 0) 1 22 := ⟨by decide +kernel, rfl⟩
theorem d_Hi_init_22 : dd m_Hi_init 22 (.getfield 11) 3 25 := ⟨by decide +kernel, rfl⟩
theorem d_Hi_init_25 : dd m_Hi_init 25 (.iload_n 1) 1 26 := ⟨by decide +kernel, rfl⟩
theorem d_Hi_init_26 : dd m_Hi_init 26 (.new 9) 3 29 := ⟨by decide +kernel, rfl⟩
theorem d_Hi_init_29 : dd m_Hi_init 29 .dup 1 30 := ⟨by decide +kernel, rfl⟩
theorem d_Hi_init_30 : dd m_Hi_init 30 (.invokespecial 17) 3 33 := ⟨by decide +kernel, rfl⟩
theorem d_Hi_init_33 : dd m_Hi_init 33 .aastore 1 34 := ⟨by decide +kernel, rfl⟩
theorem d_Hi_init_34 : dd m_Hi_init 34 (.iinc 1 1) 3 37 := ⟨by decide +kernel, rfl⟩
theorem d_Hi_init_37 : db m_Hi_init 37 .goto 40 15 := ⟨(-22), by decide +kernel, rfl, rfl⟩
theorem d_Hi_init_40 : decode (mbt m_Hi_init) 40 = .ok (.return_, 1) := by decide +kernel
theorem d_Sb_init_0 : dd m_Sb_init 0 (.aload_n 0) 1 1 := ⟨by decide +kernel, rfl⟩
theorem d_Sb_init_1 : dd m_Sb_init 1 (.invokespecial 3) 3 4 := ⟨by decide +kernel, rfl⟩
theorem d_Sb_init_4 : dd m_Sb_init 4 (.aload_n 0) 1 5 := ⟨by decide +kernel, rfl⟩
theorem d_Sb_init_5 : dd m_Sb_init 5 (.bipush 10) 2 7 := ⟨by decide +kernel, rfl⟩
theorem d_Sb_init_7 : dd m_Sb_init 7 (.newarray .int) 2 9 := ⟨by decide +kernel, rfl⟩
theorem d_Sb_init_9 : dd m_Sb_init 9 (.putfield 9) 3 12 := ⟨by decide +kernel, rfl⟩
theorem d_Sb_init_12 : dd m_Sb_init 12 (.aload_n 0) 1 13 := ⟨by decide +kernel, rfl⟩
theorem d_Sb_init_13 : dd m_Sb_init 13 (.bipush 10) 2 15 := ⟨by decide +kernel, rfl⟩
theorem d_Sb_init_15 : dd m_Sb_init 15 (.newarray .int) 2 17 := ⟨by decide +kernel, rfl⟩
theorem d_Sb_init_17 : dd m_Sb_init 17 (.putfield 15) 3 20 := ⟨by decide +kernel, rfl⟩
theorem d_Sb_init_20 : dd m_Sb_init 20 (.aload_n 0) 1 21 := ⟨by decide +kernel, rfl⟩
theorem d_Sb_init_21 : dd m_Sb_init 21 (.bipush 10) 2 23 := ⟨by decide +kernel, rfl⟩
theorem d_Sb_init_23 : dd m_Sb_init 23 (.newarray .int) 2 25 := ⟨by decide +kernel, rfl⟩
theorem d_Sb_init_25 : dd m_Sb_init 25 (.putfield 18) 3 28 := ⟨by decide +kernel, rfl⟩
theorem d_Sb_init_28 : decode (mbt m_Sb_init) 28 = .ok (.return_, 1) := by decide +kernel
theorem d_Tp_addFourBytes_0 : dd m_Tp_addFourBytes 0 (.bipush 24) 2 2 := ⟨by decide +kernel, rfl⟩
theorem d_Tp_addFourBytes_2 : dd m_Tp_addFourBytes 2 (.istore_n 2) 1 3 := ⟨by decide +kernel, rfl⟩
theorem d_Tp_addFourBytes_3 : dd m_Tp_addFourBytes 3 (.iload_n 2) 1 4 := ⟨by decide +kernel, rfl⟩
theorem d_Tp_addFourBytes_4 : db m_Tp_addFourBytes 4 (.ifCond .lt) 7 46 := ⟨42, by decide +kernel, rfl, rfl⟩
theorem d_Tp_addFourBytes_7 : dd m_Tp_addFourBytes 7 (.aload_n 0) 1 8 := ⟨by decide +kernel, rfl⟩
theorem d_Tp_addFourBytes_8 : dd m_Tp_addFourBytes 8 (.getfield 15) 3 11 := ⟨by decide +kernel, rfl⟩
theorem d_Tp_addFourBytes_11 : dd m_Tp_addFourBytes 11 (.sipush 540) 3 14 := ⟨by decide +kernel, rfl⟩
theorem d_Tp_addFourBytes_14 : db m_Tp_addFourBytes 14 (.if_icmp .ge) 17 46 := ⟨32, by decide +kernel, rfl, rfl⟩
theorem d_Tp_addFourBytes_17 : dd m_Tp_addFourBytes 17 (.aload_n 0) 1 18 := ⟨by decide +kernel, rfl⟩
theorem d_Tp_addFourBytes_18 : dd m_Tp_addFourBytes 18 (.getfield 9) 3 21 := ⟨by decide +kernel, rfl⟩
theorem d_Tp_addFourBytes_21 : dd m_Tp_addFourBytes 21 (.aload_n 0) 1 22 := ⟨by decide +kernel, rfl⟩
theorem d_Tp_addFourBytes_22 : dd m_Tp_addFourBytes 22 (.getfield 15) 3 25 := ⟨by decide +kernel, rfl⟩
theorem d_Tp_addFourBytes_25 : dd m_Tp_addFourBytes 25 (.iload_n 1) 1 26 := ⟨by decide +kernel, rfl⟩
theorem d_Tp_addFourBytes_26 : dd m_Tp_addFourBytes 26 (.iload_n 2) 1 27 := ⟨by decide +kernel, rfl⟩
theorem d_Tp_addFourBytes_27 : dd m_Tp_addFourBytes 27 .iushr 1 28 := ⟨by decide +kernel, rfl⟩
theorem d_Tp_addFourBytes_28 : dd m_Tp_addFourBytes 28 .i2b 1 29 := ⟨by decide +kernel, rfl⟩
theorem d_Tp_addFourBytes_29 : dd m_Tp_addFourBytes 29 .bastore 1 30 := ⟨by decide +kernel, rfl⟩
theorem d_Tp_addFourBytes_30 : dd m_Tp_addFourBytes 30 (.aload_n 0) 1 31 := ⟨by decide +kernel, rfl⟩
theorem d_Tp_addFourBytes_31 : dd m_Tp_addFourBytes 31 .dup 1 32 := ⟨by decide +kernel, rfl⟩
theorem d_Tp_addFourBytes_32 : dd m_Tp_addFourBytes 32 (.getfield 15) 3 35 := ⟨by decide +kernel, rfl⟩
theorem d_Tp_addFourBytes_35 : dd m_Tp_addFourBytes 35 (.iconst 1) 1 36 := ⟨by decide +kernel, rfl⟩
theorem d_Tp_addFourBytes_36 : dd m_Tp_addFourBytes 36 .iadd 1 37 := ⟨by decide +kernel, rfl⟩
theorem d_Tp_addFourBytes_37 : dd m_Tp_addFourBytes 37 (.putfield 15) 3 40 := ⟨by decide +kernel, rfl⟩
theorem d_Tp_addFourBytes_40 : dd m_Tp_addFourBytes 40 (.iinc 2 (-8)) 3 43 := ⟨by decide +kernel, rfl⟩
theorem d_Tp_addFourBytes_43 : db m_Tp_addFourBytes 43 .goto 46 3 := ⟨(-40), by decide +kernel, rfl, rfl⟩
theorem d_Tp_addFourBytes_46 : decode (mbt m_Tp_addFourBytes) 46 = .ok (.return_, 1) := by decide +kernel
theorem d_St_becomeAsAtFirst_0 : dd m_St_becomeAsAtFirst 0 (.aload_n 0) 1 1 := ⟨by decide +kernel, rfl⟩
theorem d_St_becomeAsAtFirst_1 : dd m_St_becomeAsAtFirst 1 (.iconst 0) 1 2 := ⟨by decide +kernel, rfl⟩
theorem d_St_becomeAsAtFirst_2 : dd m_St_becomeAsAtFirst 2 (.putfield 26) 3 5 := ⟨by decide +kernel, rfl⟩
theorem d_St_becomeAsAtFirst_5 : dd m_St_becomeAsAtFirst 5 (.iconst 0) 1 6 := ⟨by decide +kernel, rfl⟩
theorem d_St_becomeAsAtFirst_6 : dd m_St_becomeAsAtFirst 6 (.istore_n 1) 1 7 := ⟨by decide +kernel, rfl⟩
theorem d_St_becomeAsAtFirst_7 : dd m_St_becomeAsAtFirst 7 (.iload_n 1) 1 8 := ⟨by decide +kernel, rfl⟩
theorem d_St_becomeAsAtFirst_8 : dd m_St_becomeAsAtFirst 8 (.bipush 6) 2 10 := ⟨by decide +kernel, rfl⟩
theorem d_St_becomeAsAtFirst_10 : db m_St_becomeAsAtFirst 10 (.if_icmp .ge) 13 29 := ⟨19, by decide +kernel, rfl, rfl⟩
theorem d_St_becomeAsAtFirst_13 : dd m_St_becomeAsAtFirst 13 (.aload_n 0) 1 14 := ⟨by decide +kernel, rfl⟩
theorem d_St_becomeAsAtFirst_14 : dd m_St_becomeAsAtFirst 14 (.getfield 11) 3 17 := ⟨by decide +kernel, rfl⟩
theorem d_St_becomeAsAtFirst_17 : dd m_St_becomeAsAtFirst 17 (.iload_n 1) 1 18 := ⟨by decide +kernel, rfl⟩
theorem d_St_becomeAsAtFirst_18 : dd m_St_becomeAsAtFirst 18 .aaload 1 19 := ⟨by decide +kernel, rfl⟩
theorem d_St_becomeAsAtFirst_19 : dd m_St_becomeAsAtFirst 19 (.iconst 0) 1 20 := ⟨by decide +kernel, rfl⟩
theorem d_St_becomeAsAtFirst_20 : dd m_St_becomeAsAtFirst 20 (.invokestatic 30) 3 23 := ⟨by decide +kernel, rfl⟩
theorem d_St_becomeAsAtFirst_23 : dd m_St_becomeAsAtFirst 23 (.iinc 1 1) 3 26 := ⟨by decide +kernel, rfl⟩
theorem d_St_becomeAsAtFirst_26 : db m_St_becomeAsAtFirst 26 .goto 29 7 := ⟨(-19), by decide +kernel, rfl, rfl⟩
theorem d_St_becomeAsAtFirst_29 : dd m_St_becomeAsAtFirst 29 (.iconst 0) 1 30 := ⟨by decide +kernel, rfl⟩
theorem d_St_becomeAsAtFirst_30 : dd m_St_becomeAsAtFirst 30 (.istore_n 1) 1 31 := ⟨by decide +kernel, rfl⟩
theorem d_St_becomeAsAtFirst_31 : dd m_St_becomeAsAtFirst 31 (.iload_n 1) 1 32 := ⟨by decide +kernel, rfl⟩
theorem d_St_becomeAsAtFirst_32 : dd m_St_becomeAsAtFirst 32 (.iconst 4) 1 33 := ⟨by decide +kernel, rfl⟩
theorem d_St_becomeAsAtFirst_33 : db m_St_becomeAsAtFirst 33 (.if_icmp .ge) 36 51 := ⟨18, by decide +kernel, rfl, rfl⟩
theorem d_St_becomeAsAtFirst_36 : dd m_St_becomeAsAtFirst 36 (.aload_n 0) 1 37 := ⟨by decide +kernel, rfl⟩
theorem d_St_becomeAsAtFirst_37 : dd m_St_becomeAsAtFirst 37 (.getfield 18) 3 40 := ⟨by decide +kernel, rfl⟩
theorem d_St_becomeAsAtFirst_40 : dd m_St_becomeAsAtFirst 40 (.iload_n 1) 1 41 := ⟨by decide +kernel, rfl⟩
theorem d_St_becomeAsAtFirst_41 : dd m_St_becomeAsAtFirst 41 .aaload 1 42 := ⟨by decide +kernel, rfl⟩
theorem d_St_becomeAsAtFirst_42 : dd m_St_becomeAsAtFirst 42 (.invokevirtual 36) 3 45 := ⟨by decide +kernel, rfl⟩
theorem d_St_becomeAsAtFirst_45 : dd m_St_becomeAsAtFirst 45 (.iinc 1 1) 3 48 := ⟨by decide +kernel, rfl⟩
theorem d_St_becomeAsAtFirst_48 : db m_St_becomeAsAtFirst 48 .goto 51 31 := ⟨(-17), by decide +kernel, rfl, rfl⟩
theorem d_St_becomeAsAtFirst_51 : dd m_St_becomeAsAtFirst 51 (.iconst 0) 1 52 := ⟨by decide +kernel, rfl⟩
theorem d_St_becomeAsAtFirst_52 : dd m_St_becomeAsAtFirst 52 (.istore_n 1) 1 53 := ⟨by decide +kernel, rfl⟩
theorem d_St_becomeAsAtFirst_53 : dd m_St_becomeAsAtFirst 53 (.iload_n 1) 1 54 := ⟨by decide +kernel, rfl⟩
theorem d_St_becomeAsAtFirst_54 : dd m_St_becomeAsAtFirst 54 (.bipush 10) 2 56 := ⟨by decide +kernel, rfl⟩
theorem d_St_becomeAsAtFirst_56 : db m_St_becomeAsAtFirst 56 (.if_icmp .ge) 59 75 := ⟨19, by decide +kernel, rfl, rfl⟩
theorem d_St_becomeAsAtFirst_59 : dd m_St_becomeAsAtFirst 59 (.aload_n 0) 1 60 := ⟨by decide +kernel, rfl⟩
theorem d_St_becomeAsAtFirst_60 : dd m_St_becomeAsAtFirst 60 (.getfield 22) 3 63 := ⟨by decide +kernel, rfl⟩
theorem d_St_becomeAsAtFirst_63 : dd m_St_becomeAsAtFirst 63 (.iload_n 1) 1 64 := ⟨by decide +kernel, rfl⟩
theorem d_St_becomeAsAtFirst_64 : dd m_St_becomeAsAtFirst 64 .aaload 1 65 := ⟨by decide +kernel, rfl⟩
theorem d_St_becomeAsAtFirst_65 : dd m_St_becomeAsAtFirst 65 (.iconst 0) 1 66 := ⟨by decide +kernel, rfl⟩
theorem d_St_becomeAsAtFirst_66 : dd m_St_becomeAsAtFirst 66 (.invokestatic 30) 3 69 := ⟨by decide +kernel, rfl⟩
theorem d_St_becomeAsAtFirst_69 : dd m_St_becomeAsAtFirst 69 (.iinc 1 1) 3 72 := ⟨by decide +kernel, rfl⟩
theorem d_St_becomeAsAtFirst_72 : db m_St_becomeAsAtFirst 72 .goto 75 53 := ⟨(-19), by decide +kernel, rfl, rfl⟩
theorem d_St_becomeAsAtFirst_75 : decode (mbt m_St_becomeAsAtFirst) 75 = .ok (.return_, 1) := by decide +kernel
theorem d_Ar_fill_0 : dd m_Ar_fill 0 (.iconst 0) 1 1 := ⟨by decide +kernel, rfl⟩
theorem d_Ar_fill_1 : dd m_Ar_fill 1 (.istore_n 2) 1 2 := ⟨by decide +kernel, rfl⟩
theorem d_Ar_fill_2 : dd m_Ar_fill 2 (.aload_n 0) 1 3 := ⟨by decide +kernel, rfl⟩
theorem d_Ar_fill_3 : dd m_Ar_fill 3 .arraylength 1 4 := ⟨by decide +kernel, rfl⟩
theorem d_Ar_fill_4 : dd m_Ar_fill 4 (.istore_n 3) 1 5 := ⟨by decide +kernel, rfl⟩
theorem d_Ar_fill_5 : dd m_Ar_fill 5 (.iload_n 2) 1 6 := ⟨by decide +kernel, rfl⟩
theorem d_Ar_fill_6 : dd m_Ar_fill 6 (.iload_n 3) 1 7 := ⟨by decide +kernel, rfl⟩
theorem d_Ar_fill_7 : db m_Ar_fill 7 (.if_icmp .ge) 10 20 := ⟨13, by decide +kernel, rfl, rfl⟩
theorem d_Ar_fill_10 : dd m_Ar_fill 10 (.aload_n 0) 1 11 := ⟨by decide +kernel, rfl⟩
theorem d_Ar_fill_11 : dd m_Ar_fill 11 (.iload_n 2) 1 12 := ⟨by decide +kernel, rfl⟩
theorem d_Ar_fill_12 : dd m_Ar_fill 12 (.iload_n 1) 1 13 := ⟨by decide +kernel, rfl⟩
theorem d_Ar_fill_13 : dd m_Ar_fill 13 .iastore 1 14 := ⟨by decide +kernel, rfl⟩
theorem d_Ar_fill_14 : dd m_Ar_fill 14 (.iinc 2 1) 3 17 := ⟨by decide +kernel, rfl⟩
theorem d_Ar_fill_17 : db m_Ar_fill 17 .goto 20 5 := ⟨(-12), by decide +kernel, rfl, rfl⟩
theorem d_Ar_fill_20 : decode (mbt m_Ar_fill) 20 = .ok (.return_, 1) := by decide +kernel
theorem d_Ta_becomeOne_0 : dd m_Ta_becomeOne 0 (.aload_n 0) 1 1 := ⟨by decide +kernel, rfl⟩
theorem d_Ta_becomeOne_1 : dd m_Ta_becomeOne 1 (.getfield 9) 3 4 := ⟨by decide +kernel, rfl⟩
theorem d_Ta_becomeOne_4 : dd m_Ta_becomeOne 4 (.iconst 1) 1 5 := ⟨by decide +kernel, rfl⟩
theorem d_Ta_becomeOne_5 : dd m_Ta_becomeOne 5 (.invokestatic 18) 3 8 := ⟨by decide +kernel, rfl⟩
theorem d_Ta_becomeOne_8 : dd m_Ta_becomeOne 8 (.aload_n 0) 1 9 := ⟨by decide +kernel, rfl⟩
theorem d_Ta_becomeOne_9 : dd m_Ta_becomeOne 9 (.getfield 15) 3 12 := ⟨by decide +kernel, rfl⟩
theorem d_Ta_becomeOne_12 : dd m_Ta_becomeOne 12 (.iconst 0) 1 13 := ⟨by decide +kernel, rfl⟩
theorem d_Ta_becomeOne_13 : dd m_Ta_becomeOne 13 (.invokestatic 18) 3 16 := ⟨by decide +kernel, rfl⟩
theorem d_Ta_becomeOne_16 : dd m_Ta_becomeOne 16 (.aload_n 0) 1 17 := ⟨by decide +kernel, rfl⟩
theorem d_Ta_becomeOne_17 : dd m_Ta_becomeOne 17 (.getfield 15) 3 20 := ⟨by decide +kernel, rfl⟩
theorem d_Ta_becomeOne_20 : dd m_Ta_becomeOne 20 (.iconst 1) 1 21 := ⟨by decide +kernel, rfl⟩
theorem d_Ta_becomeOne_21 : dd m_Ta_becomeOne 21 (.iconst 1) 1 22 := ⟨by decide +kernel, rfl⟩
theorem d_Ta_becomeOne_22 : dd m_Ta_becomeOne 22 .iastore 1 23 := ⟨by decide +kernel, rfl⟩
theorem d_Ta_becomeOne_23 : decode (mbt m_Ta_becomeOne) 23 = .ok (.return_, 1) := by decide +kernel
theorem d_Rw_becomeNumber_0 : dd m_Rw_becomeNumber 0 (.aload_n 0) 1 1 := ⟨by decide +kernel, rfl⟩
theorem d_Rw_becomeNumber_1 : dd m_Rw_becomeNumber 1 (.iconst 0) 1 2 := ⟨by decide +kernel, rfl⟩
theorem d_Rw_becomeNumber_2 : dd m_Rw_becomeNumber 2 (.invokestatic 15) 3 5 := ⟨by decide +kernel, rfl⟩
theorem d_Rw_becomeNumber_5 : dd m_Rw_becomeNumber 5 (.aload_n 0) 1 6 := ⟨by decide +kernel, rfl⟩
theorem d_Rw_becomeNumber_6 : dd m_Rw_becomeNumber 6 (.iconst 0) 1 7 := ⟨by decide +kernel, rfl⟩
theorem d_Rw_becomeNumber_7 : dd m_Rw_becomeNumber 7 (.iload_n 1) 1 8 := ⟨by decide +kernel, rfl⟩
theorem d_Rw_becomeNumber_8 : dd m_Rw_becomeNumber 8 .iastore 1 9 := ⟨by decide +kernel, rfl⟩
theorem d_Rw_becomeNumber_9 : decode (mbt m_Rw_becomeNumber) 9 = .ok (.return_, 1) := by decide +kernel
theorem d_Sg_length_0 : dd m_Sg_length 0 (.aload_n 0) 1 1 := ⟨by decide +kernel, rfl⟩
theorem d_Sg_length_1 : dd m_Sg_length 1 (.getfield 9) 3 4 := ⟨by decide +kernel, rfl⟩
theorem d_Sg_length_4 : dd m_Sg_length 4 .arraylength 1 5 := ⟨by decide +kernel, rfl⟩
theorem d_Sg_length_5 : dd m_Sg_length 5 (.aload_n 0) 1 6 := ⟨by decide +kernel, rfl⟩
theorem d_Sg_length_6 : dd m_Sg_length 6 (.invokevirtual 335) 3 9 := ⟨by decide +kernel, rfl⟩
theorem d_Sg_length_9 : dd m_Sg_length 9 .ishr 1 10 := ⟨by decide +kernel, rfl⟩
theorem d_Sg_length_10 : decode (mbt m_Sg_length) 10 = .ok (.ireturn, 1) := by decide +kernel
theorem d_Sg_coder_0 : dd m_Sg_coder 0 (.getstatic 38) 3 3 := ⟨by decide +kernel, rfl⟩
theorem d_Sg_coder_3 : db m_Sg_coder 3 (.ifCond .eq) 6 13 := ⟨10, by decide +kernel, rfl, rfl⟩
theorem d_Sg_coder_6 : dd m_Sg_coder 6 (.aload_n 0) 1 7 := ⟨by decide +kernel, rfl⟩
theorem d_Sg_coder_7 : dd m_Sg_coder 7 (.getfield 15) 3 10 := ⟨by decide +kernel, rfl⟩
theorem d_Sg_coder_10 : db m_Sg_coder 10 .goto 13 14 := ⟨4, by decide +kernel, rfl, rfl⟩
theorem d_Sg_coder_13 : dd m_Sg_coder 13 (.iconst 1) 1 14 := ⟨by decide +kernel, rfl⟩
theorem d_Sg_coder_14 : decode (mbt m_Sg_coder) 14 = .ok (.ireturn, 1) := by decide +kernel
theorem d_Sg_charAt_0 : dd m_Sg_charAt 0 (.aload_n 0) 1 1 := ⟨by decide +kernel, rfl⟩
theorem d_Sg_charAt_1 : dd m_Sg_charAt 1 (.invokevirtual 492) 3 4 := ⟨by decide +kernel, rfl⟩
theorem d_Sg_charAt_4 : db m_Sg_charAt 4 (.ifCond .eq) 7 16 := ⟨12, by decide +kernel, rfl, rfl⟩
theorem d_Sg_charAt_7 : dd m_Sg_charAt 7 (.aload_n 0) 1 8 := ⟨by decide +kernel, rfl⟩
theorem d_Sg_charAt_8 : dd m_Sg_charAt 8 (.getfield 9) 3 11 := ⟨by decide +kernel, rfl⟩
theorem d_Sg_charAt_11 : dd m_Sg_charAt 11 (.iload_n 1) 1 12 := ⟨by decide +kernel, rfl⟩
theorem d_Sg_charAt_12 : dd m_Sg_charAt 12 (.invokestatic 495) 3 15 := ⟨by decide +kernel, rfl⟩
theorem d_Sg_charAt_15 : decode (mbt m_Sg_charAt) 15 = .ok (.ireturn, 1) := by decide +kernel
theorem d_Sg_charAt_16 : dd m_Sg_charAt 16 (.aload_n 0) 1 17 := ⟨by decide +kernel, rfl⟩
theorem d_Sg_charAt_17 : dd m_Sg_charAt 17 (.getfield 9) 3 20 := ⟨by decide +kernel, rfl⟩
theorem d_Sg_charAt_20 : dd m_Sg_charAt 20 (.iload_n 1) 1 21 := ⟨by decide +kernel, rfl⟩
theorem d_Sg_charAt_21 : dd m_Sg_charAt 21 (.invokestatic 498) 3 24 := ⟨by decide +kernel, rfl⟩
theorem d_Sg_charAt_24 : decode (mbt m_Sg_charAt) 24 = .ok (.ireturn, 1) := by decide +kernel
theorem d_Sg_isLatin1_0 : dd m_Sg_isLatin1 0 (.getstatic 38) 3 3 := ⟨by decide +kernel, rfl⟩
theorem d_Sg_isLatin1_3 : db m_Sg_isLatin1 3 (.ifCond .eq) 6 17 := ⟨14, by decide +kernel, rfl, rfl⟩
theorem d_Sg_isLatin1_6 : dd m_Sg_isLatin1 6 (.aload_n 0) 1 7 := ⟨by decide +kernel, rfl⟩
theorem d_Sg_isLatin1_7 : dd m_Sg_isLatin1 7 (.getfield 15) 3 10 := ⟨by decide +kernel, rfl⟩
theorem d_Sg_isLatin1_10 : db m_Sg_isLatin1 10 (.ifCond .ne) 13 17 := ⟨7, by decide +kernel, rfl, rfl⟩
theorem d_Sg_isLatin1_13 : dd m_Sg_isLatin1 13 (.iconst 1) 1 14 := ⟨by decide +kernel, rfl⟩
theorem d_Sg_isLatin1_14 : db m_Sg_isLatin1 14 .goto 17 18 := ⟨4, by decide +kernel, rfl, rfl⟩
theorem d_Sg_isLatin1_17 : dd m_Sg_isLatin1 17 (.iconst 0) 1 18 := ⟨by decide +kernel, rfl⟩
theorem d_Sg_isLatin1_18 : decode (mbt m_Sg_isLatin1) 18 = .ok (.ireturn, 1) := by decide +kernel
theorem d_Sl_charAt_0 : dd m_Sl_charAt 0 (.iload_n 1) 1 1 := ⟨by decide +kernel, rfl⟩
theorem d_Sl_charAt_1 : dd m_Sl_charAt 1 (.aload_n 0) 1 2 := ⟨by decide +kernel, rfl⟩
theorem d_Sl_charAt_2 : dd m_Sl_charAt 2 .arraylength 1 3 := ⟨by decide +kernel, rfl⟩
theorem d_Sl_charAt_3 : dd m_Sl_charAt 3 (.invokestatic 9) 3 6 := ⟨by decide +kernel, rfl⟩
theorem d_Sl_charAt_6 : dd m_Sl_charAt 6 (.aload_n 0) 1 7 := ⟨by decide +kernel, rfl⟩
theorem d_Sl_charAt_7 : dd m_Sl_charAt 7 (.iload_n 1) 1 8 := ⟨by decide +kernel, rfl⟩
theorem d_Sl_charAt_8 : dd m_Sl_charAt 8 .baload 1 9 := ⟨by decide +kernel, rfl⟩
theorem d_Sl_charAt_9 : dd m_Sl_charAt 9 (.sipush 255) 3 12 := ⟨by decide +kernel, rfl⟩
theorem d_Sl_charAt_12 : dd m_Sl_charAt 12 .iand 1 13 := ⟨by decide +kernel, rfl⟩
theorem d_Sl_charAt_13 : dd m_Sl_charAt 13 .i2c 1 14 := ⟨by decide +kernel, rfl⟩
theorem d_Sl_charAt_14 : decode (mbt m_Sl_charAt) 14 = .ok (.ireturn, 1) := by decide +kernel
theorem d_Sg_checkIndex_0 : dd m_Sg_checkIndex 0 (.iload_n 0) 1 1 := ⟨by decide +kernel, rfl⟩
theorem d_Sg_checkIndex_1 : dd m_Sg_checkIndex 1 (.iload_n 1) 1 2 := ⟨by decide +kernel, rfl⟩
theorem d_Sg_checkIndex_2 : dd m_Sg_checkIndex 2 (.getstatic 1053) 3 5 := ⟨by decide +kernel, rfl⟩
theorem d_Sg_checkIndex_5 : dd m_Sg_checkIndex 5 (.invokestatic 1059) 3 8 := ⟨by decide +kernel, rfl⟩
theorem d_Sg_checkIndex_8 : dd m_Sg_checkIndex 8 .pop 1 9 := ⟨by decide +kernel, rfl⟩
theorem d_Sg_checkIndex_9 : decode (mbt m_Sg_checkIndex) 9 = .ok (.return_, 1) := by decide +kernel
theorem d_Pr_checkIndex_0 : dd m_Pr_checkIndex 0 (.iload_n 0) 1 1 := ⟨by decide +kernel, rfl⟩
theorem d_Pr_checkIndex_1 : db m_Pr_checkIndex 1 (.ifCond .lt) 4 9 := ⟨8, by decide +kernel, rfl, rfl⟩
theorem d_Pr_checkIndex_4 : dd m_Pr_checkIndex 4 (.iload_n 0) 1 5 := ⟨by decide +kernel, rfl⟩
theorem d_Pr_checkIndex_5 : dd m_Pr_checkIndex 5 (.iload_n 1) 1 6 := ⟨by decide +kernel, rfl⟩
theorem d_Pr_checkIndex_6 : db m_Pr_checkIndex 6 (.if_icmp .lt) 9 16 := ⟨10, by decide +kernel, rfl, rfl⟩
theorem d_Pr_checkIndex_9 : dd m_Pr_checkIndex 9 (.aload_n 2) 1 10 := ⟨by decide +kernel, rfl⟩
theorem d_Pr_checkIndex_10 : dd m_Pr_checkIndex 10 (.iload_n 0) 1 11 := ⟨by decide +kernel, rfl⟩
theorem d_Pr_checkIndex_11 : dd m_Pr_checkIndex 11 (.iload_n 1) 1 12 := ⟨by decide +kernel, rfl⟩
theorem d_Pr_checkIndex_12 : dd m_Pr_checkIndex 12 (.invokestatic 95) 3 15 := ⟨by decide +kernel, rfl⟩
theorem d_Pr_checkIndex_15 : dd m_Pr_checkIndex 15 .athrow 1 16 := ⟨by decide +kernel, rfl⟩
theorem d_Pr_checkIndex_16 : dd m_Pr_checkIndex 16 (.iload_n 0) 1 17 := ⟨by decide +kernel, rfl⟩
theorem d_Pr_checkIndex_17 : decode (mbt m_Pr_checkIndex) 17 = .ok (.ireturn, 1) := by decide +kernel
theorem d_Rw_difference_0 : dd m_Rw_difference 0 (.iload_n 0) 1 1 := ⟨by decide +kernel, rfl⟩
theorem d_Rw_difference_1 : dd m_Rw_difference 1 (.iload_n 1) 1 2 := ⟨by decide +kernel, rfl⟩
theorem d_Rw_difference_2 : db m_Rw_difference 2 (.if_icmp .lt) 5 11 := ⟨9, by decide +kernel, rfl, rfl⟩
theorem d_Rw_difference_5 : dd m_Rw_difference 5 (.iload_n 0) 1 6 := ⟨by decide +kernel, rfl⟩
theorem d_Rw_difference_6 : dd m_Rw_difference 6 (.iload_n 1) 1 7 := ⟨by decide +kernel, rfl⟩
theorem d_Rw_difference_7 : dd m_Rw_difference 7 .isub 1 8 := ⟨by decide +kernel, rfl⟩
theorem d_Rw_difference_8 : db m_Rw_difference 8 .goto 11 17 := ⟨9, by decide +kernel, rfl, rfl⟩
theorem d_Rw_difference_11 : dd m_Rw_difference 11 (.iload_n 0) 1 12 := ⟨by decide +kernel, rfl⟩
theorem d_Rw_difference_12 : dd m_Rw_difference 12 (.iload_n 1) 1 13 := ⟨by decide +kernel, rfl⟩
theorem d_Rw_difference_13 : dd m_Rw_difference 13 .isub 1 14 := ⟨by decide +kernel, rfl⟩
theorem d_Rw_difference_14 : dd m_Rw_difference 14 (.ldc 14) 2 16 := ⟨by decide +kernel, rfl⟩
theorem d_Rw_difference_16 : dd m_Rw_difference 16 .iadd 1 17 := ⟨by decide +kernel, rfl⟩
theorem d_Rw_difference_17 : decode (mbt m_Rw_difference) 17 = .ok (.ireturn, 1) := by decide +kernel
theorem d_Rw_divide_0 : dd m_Rw_divide 0 (.aload_n 1) 1 1 := ⟨by decide +kernel, rfl⟩
theorem d_Rw_divide_1 : dd m_Rw_divide 1 (.iconst 0) 1 2 := ⟨by decide +kernel, rfl⟩
theorem d_Rw_divide_2 : dd m_Rw_divide 2 .iaload 1 3 := ⟨by decide +kernel, rfl⟩
theorem d_Rw_divide_3 : dd m_Rw_divide 3 (.invokestatic 29) 3 6 := ⟨by decide +kernel, rfl⟩
theorem d_Rw_divide_6 : dd m_Rw_divide 6 (.istore_n 3) 1 7 := ⟨by decide +kernel, rfl⟩
theorem d_Rw_divide_7 : dd m_Rw_divide 7 (.iconst 0) 1 8 := ⟨by decide +kernel, rfl⟩
theorem d_Rw_divide_8 : dd m_Rw_divide 8 (.istore 4) 2 10 := ⟨by decide +kernel, rfl⟩
theorem d_Rw_divide_10 : dd m_Rw_divide 10 (.iload 4) 2 12 := ⟨by decide +kernel, rfl⟩
theorem d_Rw_divide_12 : dd m_Rw_divide 12 (.iload_n 2) 1 13 := ⟨by decide +kernel, rfl⟩
theorem d_Rw_divide_13 : db m_Rw_divide 13 (.if_icmp .ge) 16 82 := ⟨69, by decide +kernel, rfl, rfl⟩
theorem d_Rw_divide_16 : dd m_Rw_divide 16 (.lconst 0) 1 17 := ⟨by decide +kernel, rfl⟩
theorem d_Rw_divide_17 : dd m_Rw_divide 17 (.lstore 5) 2 19 := ⟨by decide +kernel, rfl⟩
theorem d_Rw_divide_19 : dd m_Rw_divide 19 (.iconst 0) 1 20 := ⟨by decide +kernel, rfl⟩
theorem d_Rw_divide_20 : dd m_Rw_divide 20 (.istore 7) 2 22 := ⟨by decide +kernel, rfl⟩
theorem d_Rw_divide_22 : dd m_Rw_divide 22 (.iload 7) 2 24 := ⟨by decide +kernel, rfl⟩
theorem d_Rw_divide_24 : dd m_Rw_divide 24 (.iload 4) 2 26 := ⟨by decide +kernel, rfl⟩
theorem d_Rw_divide_26 : db m_Rw_divide 26 (.if_icmp .ge) 29 54 := ⟨28, by decide +kernel, rfl, rfl⟩
theorem d_Rw_divide_29 : dd m_Rw_divide 29 (.lload 5) 2 31 := ⟨by decide +kernel, rfl⟩
theorem d_Rw_divide_31 : dd m_Rw_divide 31 (.aload_n 0) 1 32 := ⟨by decide +kernel, rfl⟩
theorem d_Rw_divide_32 : dd m_Rw_divide 32 (.iload 7) 2 34 := ⟨by decide +kernel, rfl⟩
theorem d_Rw_divide_34 : dd m_Rw_divide 34 .iaload 1 35 := ⟨by decide +kernel, rfl⟩
theorem d_Rw_divide_35 : dd m_Rw_divide 35 .i2l 1 36 := ⟨by decide +kernel, rfl⟩
theorem d_Rw_divide_36 : dd m_Rw_divide 36 (.aload_n 1) 1 37 := ⟨by decide +kernel, rfl⟩
theorem d_Rw_divide_37 : dd m_Rw_divide 37 (.iload 4) 2 39 := ⟨by decide +kernel, rfl⟩
theorem d_Rw_divide_39 : dd m_Rw_divide 39 (.iload 7) 2 41 := ⟨by decide +kernel, rfl⟩
theorem d_Rw_divide_41 : dd m_Rw_divide 41 .isub 1 42 := ⟨by decide +kernel, rfl⟩
theorem d_Rw_divide_42 : dd m_Rw_divide 42 .iaload 1 43 := ⟨by decide +kernel, rfl⟩
theorem d_Rw_divide_43 : dd m_Rw_divide 43 .i2l 1 44 := ⟨by decide +kernel, rfl⟩
theorem d_Rw_divide_44 : dd m_Rw_divide 44 .lmul 1 45 := ⟨by decide +kernel, rfl⟩
theorem d_Rw_divide_45 : dd m_Rw_divide 45 .ladd 1 46 := ⟨by decide +kernel, rfl⟩
theorem d_Rw_divide_46 : dd m_Rw_divide 46 (.lstore 5) 2 48 := ⟨by decide +kernel, rfl⟩
theorem d_Rw_divide_48 : dd m_Rw_divide 48 (.iinc 7 1) 3 51 := ⟨by decide +kernel, rfl⟩
theorem d_Rw_divide_51 : db m_Rw_divide 51 .goto 54 22 := ⟨(-29), by decide +kernel, rfl, rfl⟩
theorem d_Rw_divide_54 : dd m_Rw_divide 54 (.aload_n 0) 1 55 := ⟨by decide +kernel, rfl⟩
theorem d_Rw_divide_55 : dd m_Rw_divide 55 (.iload 4) 2 57 := ⟨by decide +kernel, rfl⟩
theorem d_Rw_divide_57 : dd m_Rw_divide 57 (.aload_n 0) 1 58 := ⟨by decide +kernel, rfl⟩
theorem d_Rw_divide_58 : dd m_Rw_divide 58 (.iload 4) 2 60 := ⟨by decide +kernel, rfl⟩
theorem d_Rw_divide_60 : dd m_Rw_divide 60 .iaload 1 61 := ⟨by decide +kernel, rfl⟩
theorem d_Rw_divide_61 : dd m_Rw_divide 61 (.lload 5) 2 63 := ⟨by decide +kernel, rfl⟩
theorem d_Rw_divide_63 : dd m_Rw_divide 63 (.ldc2_w 12) 3 66 := ⟨by decide +kernel, rfl⟩
theorem d_Rw_divide_66 : dd m_Rw_divide 66 .lrem 1 67 := ⟨by decide +kernel, rfl⟩
theorem d_Rw_divide_67 : dd m_Rw_divide 67 .l2i 1 68 := ⟨by decide +kernel, rfl⟩
theorem d_Rw_divide_68 : dd m_Rw_divide 68 (.invokestatic 21) 3 71 := ⟨by decide +kernel, rfl⟩
theorem d_Rw_divide_71 : dd m_Rw_divide 71 (.iload_n 3) 1 72 := ⟨by decide +kernel, rfl⟩
theorem d_Rw_divide_72 : dd m_Rw_divide 72 (.invokestatic 33) 3 75 := ⟨by decide +kernel, rfl⟩
theorem d_Rw_divide_75 : dd m_Rw_divide 75 .iastore 1 76 := ⟨by decide +kernel, rfl⟩
theorem d_Rw_divide_76 : dd m_Rw_divide 76 (.iinc 4 1) 3 79 := ⟨by decide +kernel, rfl⟩
theorem d_Rw_divide_79 : db m_Rw_divide 79 .goto 82 10 := ⟨(-69), by decide +kernel, rfl, rfl⟩
theorem d_Rw_divide_82 : decode (mbt m_Rw_divide) 82 = .ok (.return_, 1) := by decide +kernel
theorem d_Rw_inverse_0 : dd m_Rw_inverse 0 (.lconst 1) 1 1 := ⟨by decide +kernel, rfl⟩
theorem d_Rw_inverse_1 : dd m_Rw_inverse 1 (.lstore_n 1) 1 2 := ⟨by decide +kernel, rfl⟩
theorem d_Rw_inverse_2 : dd m_Rw_inverse 2 (.iload_n 0) 1 3 := ⟨by decide +kernel, rfl⟩
theorem d_Rw_inverse_3 : dd m_Rw_inverse 3 .i2l 1 4 := ⟨by decide +kernel, rfl⟩
theorem d_Rw_inverse_4 : dd m_Rw_inverse 4 (.lstore_n 3) 1 5 := ⟨by decide +kernel, rfl⟩
theorem d_Rw_inverse_5 : dd m_Rw_inverse 5 (.iconst 0) 1 6 := ⟨by decide +kernel, rfl⟩
theorem d_Rw_inverse_6 : dd m_Rw_inverse 6 (.istore 5) 2 8 := ⟨by decide +kernel, rfl⟩
theorem d_Rw_inverse_8 : dd m_Rw_inverse 8 (.iload 5) 2 10 := ⟨by decide +kernel, rfl⟩
theorem d_Rw_inverse_10 : dd m_Rw_inverse 10 (.bipush 20) 2 12 := ⟨by decide +kernel, rfl⟩
theorem d_Rw_inverse_12 : db m_Rw_inverse 12 (.if_icmp .ge) 15 47 := ⟨35, by decide +kernel, rfl, rfl⟩
theorem d_Rw_inverse_15 : dd m_Rw_inverse 15 (.ldc 11) 2 17 := ⟨by decide +kernel, rfl⟩
theorem d_Rw_inverse_17 : dd m_Rw_inverse 17 (.iload 5) 2 19 := ⟨by decide +kernel, rfl⟩
theorem d_Rw_inverse_19 : dd m_Rw_inverse 19 .ishr 1 20 := ⟨by decide +kernel, rfl⟩
theorem d_Rw_inverse_20 : dd m_Rw_inverse 20 (.iconst 1) 1 21 := ⟨by decide +kernel, rfl⟩
theorem d_Rw_inverse_21 : dd m_Rw_inverse 21 .iand 1 22 := ⟨by decide +kernel, rfl⟩
theorem d_Rw_inverse_22 : db m_Rw_inverse 22 (.ifCond .eq) 25 33 := ⟨11, by decide +kernel, rfl, rfl⟩
theorem d_Rw_inverse_25 : dd m_Rw_inverse 25 (.lload_n 1) 1 26 := ⟨by decide +kernel, rfl⟩
theorem d_Rw_inverse_26 : dd m_Rw_inverse 26 (.lload_n 3) 1 27 := ⟨by decide +kernel, rfl⟩
theorem d_Rw_inverse_27 : dd m_Rw_inverse 27 .lmul 1 28 := ⟨by decide +kernel, rfl⟩
theorem d_Rw_inverse_28 : dd m_Rw_inverse 28 (.ldc2_w 12) 3 31 := ⟨by decide +kernel, rfl⟩
theorem d_Rw_inverse_31 : dd m_Rw_inverse 31 .lrem 1 32 := ⟨by decide +kernel, rfl⟩
theorem d_Rw_inverse_32 : dd m_Rw_inverse 32 (.lstore_n 1) 1 33 := ⟨by decide +kernel, rfl⟩
theorem d_Rw_inverse_33 : dd m_Rw_inverse 33 (.lload_n 3) 1 34 := ⟨by decide +kernel, rfl⟩
theorem d_Rw_inverse_34 : dd m_Rw_inverse 34 (.lload_n 3) 1 35 := ⟨by decide +kernel, rfl⟩
theorem d_Rw_inverse_35 : dd m_Rw_inverse 35 .lmul 1 36 := ⟨by decide +kernel, rfl⟩
theorem d_Rw_inverse_36 : dd m_Rw_inverse 36 (.ldc2_w 12) 3 39 := ⟨by decide +kernel, rfl⟩
theorem d_Rw_inverse_39 : dd m_Rw_inverse 39 .lrem 1 40 := ⟨by decide +kernel, rfl⟩
theorem d_Rw_inverse_40 : dd m_Rw_inverse 40 (.lstore_n 3) 1 41 := ⟨by decide +kernel, rfl⟩
theorem d_Rw_inverse_41 : dd m_Rw_inverse 41 (.iinc 5 1) 3 44 := ⟨by decide +kernel, rfl⟩
theorem d_Rw_inverse_44 : db m_Rw_inverse 44 .goto 47 8 := ⟨(-36), by decide +kernel, rfl, rfl⟩
theorem d_Rw_inverse_47 : dd m_Rw_inverse 47 (.lload_n 1) 1 48 := ⟨by decide +kernel, rfl⟩
theorem d_Rw_inverse_48 : dd m_Rw_inverse 48 .l2i 1 49 := ⟨by decide +kernel, rfl⟩
theorem d_Rw_inverse_49 : decode (mbt m_Rw_inverse) 49 = .ok (.ireturn, 1) := by decide +kernel
theorem d_Rw_product_0 : dd m_Rw_product 0 (.iload_n 0) 1 1 := ⟨by decide +kernel, rfl⟩
theorem d_Rw_product_1 : dd m_Rw_product 1 .i2l 1 2 := ⟨by decide +kernel, rfl⟩
theorem d_Rw_product_2 : dd m_Rw_product 2 (.iload_n 1) 1 3 := ⟨by decide +kernel, rfl⟩
theorem d_Rw_product_3 : dd m_Rw_product 3 .i2l 1 4 := ⟨by decide +kernel, rfl⟩
theorem d_Rw_product_4 : dd m_Rw_product 4 .lmul 1 5 := ⟨by decide +kernel, rfl⟩
theorem d_Rw_product_5 : dd m_Rw_product 5 (.ldc2_w 12) 3 8 := ⟨by decide +kernel, rfl⟩
theorem d_Rw_product_8 : dd m_Rw_product 8 .lrem 1 9 := ⟨by decide +kernel, rfl⟩
theorem d_Rw_product_9 : dd m_Rw_product 9 .l2i 1 10 := ⟨by decide +kernel, rfl⟩
theorem d_Rw_product_10 : decode (mbt m_Rw_product) 10 = .ok (.ireturn, 1) := by decide +kernel
theorem d_Rw_makeTable_0 : dd m_Rw_makeTable 0 (.aload_n 0) 1 1 := ⟨by decide +kernel, rfl⟩
theorem d_Rw_makeTable_1 : dd m_Rw_makeTable 1 (.iconst 0) 1 2 := ⟨by decide +kernel, rfl⟩
theorem d_Rw_makeTable_2 : dd m_Rw_makeTable 2 .iaload 1 3 := ⟨by decide +kernel, rfl⟩
theorem d_Rw_makeTable_3 : db m_Rw_makeTable 3 (.ifCond .eq) 6 17 := ⟨14, by decide +kernel, rfl, rfl⟩
theorem d_Rw_makeTable_6 : dd m_Rw_makeTable 6 (.aload_n 1) 1 7 := ⟨by decide +kernel, rfl⟩
theorem d_Rw_makeTable_7 : dd m_Rw_makeTable 7 (.invokestatic 44) 3 10 := ⟨by decide +kernel, rfl⟩
theorem d_Rw_makeTable_10 : db m_Rw_makeTable 10 (.ifCond .eq) 13 17 := ⟨7, by decide +kernel, rfl, rfl⟩
theorem d_Rw_makeTable_13 : dd m_Rw_makeTable 13 (.iconst 1) 1 14 := ⟨by decide +kernel, rfl⟩
theorem d_Rw_makeTable_14 : db m_Rw_makeTable 14 .goto 17 18 := ⟨4, by decide +kernel, rfl, rfl⟩
theorem d_Rw_makeTable_17 : dd m_Rw_makeTable 17 (.iconst 0) 1 18 := ⟨by decide +kernel, rfl⟩
theorem d_Rw_makeTable_18 : decode (mbt m_Rw_makeTable) 18 = .ok (.ireturn, 1) := by decide +kernel
theorem d_Rw_canBeReversed_0 : dd m_Rw_canBeReversed 0 (.aload_n 0) 1 1 := ⟨by decide +kernel, rfl⟩
theorem d_Rw_canBeReversed_1 : dd m_Rw_canBeReversed 1 (.iconst 0) 1 2 := ⟨by decide +kernel, rfl⟩
theorem d_Rw_canBeReversed_2 : dd m_Rw_canBeReversed 2 .iaload 1 3 := ⟨by decide +kernel, rfl⟩
theorem d_Rw_canBeReversed_3 : db m_Rw_canBeReversed 3 (.ifCond .ne) 6 16 := ⟨13, by decide +kernel, rfl, rfl⟩
theorem d_Rw_canBeReversed_6 : dd m_Rw_canBeReversed 6 (.aload_n 0) 1 7 := ⟨by decide +kernel, rfl⟩
theorem d_Rw_canBeReversed_7 : dd m_Rw_canBeReversed 7 (.iconst 1) 1 8 := ⟨by decide +kernel, rfl⟩
theorem d_Rw_canBeReversed_8 : dd m_Rw_canBeReversed 8 .iaload 1 9 := ⟨by decide +kernel, rfl⟩
theorem d_Rw_canBeReversed_9 : db m_Rw_canBeReversed 9 (.ifCond .eq) 12 16 := ⟨7, by decide +kernel, rfl, rfl⟩
theorem d_Rw_canBeReversed_12 : dd m_Rw_canBeReversed 12 (.iconst 1) 1 13 := ⟨by decide +kernel, rfl⟩
theorem d_Rw_canBeReversed_13 : db m_Rw_canBeReversed 13 .goto 16 17 := ⟨4, by decide +kernel, rfl, rfl⟩
theorem d_Rw_canBeReversed_16 : dd m_Rw_canBeReversed 16 (.iconst 0) 1 17 := ⟨by decide +kernel, rfl⟩
theorem d_Rw_canBeReversed_17 : decode (mbt m_Rw_canBeReversed) 17 = .ok (.ireturn, 1) := by decide +kernel
theorem d_Ta_become_0 : dd m_Ta_become 0 (.aload_n 1) 1 1 := ⟨by decide +kernel, rfl⟩
theorem d_Ta_become_1 : dd m_Ta_become 1 (.iconst 0) 1 2 := ⟨by decide +kernel, rfl⟩
theorem d_Ta_become_2 : dd m_Ta_become 2 (.aload_n 0) 1 3 := ⟨by decide +kernel, rfl⟩
theorem d_Ta_become_3 : dd m_Ta_become 3 (.getfield 9) 3 6 := ⟨by decide +kernel, rfl⟩
theorem d_Ta_become_6 : dd m_Ta_become 6 (.iconst 0) 1 7 := ⟨by decide +kernel, rfl⟩
theorem d_Ta_become_7 : dd m_Ta_become 7 (.bipush 10) 2 9 := ⟨by decide +kernel, rfl⟩
theorem d_Ta_become_9 : dd m_Ta_become 9 (.invokestatic 24) 3 12 := ⟨by decide +kernel, rfl⟩
theorem d_Ta_become_12 : dd m_Ta_become 12 (.aload_n 2) 1 13 := ⟨by decide +kernel, rfl⟩
theorem d_Ta_become_13 : dd m_Ta_become 13 (.iconst 0) 1 14 := ⟨by decide +kernel, rfl⟩
theorem d_Ta_become_14 : dd m_Ta_become 14 (.aload_n 0) 1 15 := ⟨by decide +kernel, rfl⟩
theorem d_Ta_become_15 : dd m_Ta_become 15 (.getfield 15) 3 18 := ⟨by decide +kernel, rfl⟩
theorem d_Ta_become_18 : dd m_Ta_become 18 (.iconst 0) 1 19 := ⟨by decide +kernel, rfl⟩
theorem d_Ta_become_19 : dd m_Ta_become 19 (.bipush 10) 2 21 := ⟨by decide +kernel, rfl⟩
theorem d_Ta_become_21 : dd m_Ta_become 21 (.invokestatic 24) 3 24 := ⟨by decide +kernel, rfl⟩
theorem d_Ta_become_24 : decode (mbt m_Ta_become) 24 = .ok (.return_, 1) := by decide +kernel
theorem d_St_copyFrom_0 : dd m_St_copyFrom 0 (.aload_n 0) 1 1 := ⟨by decide +kernel, rfl⟩
theorem d_St_copyFrom_1 : dd m_St_copyFrom 1 (.aload_n 1) 1 2 := ⟨by decide +kernel, rfl⟩
theorem d_St_copyFrom_2 : dd m_St_copyFrom 2 (.getfield 26) 3 5 := ⟨by decide +kernel, rfl⟩
theorem d_St_copyFrom_5 : dd m_St_copyFrom 5 (.putfield 26) 3 8 := ⟨by decide +kernel, rfl⟩
theorem d_St_copyFrom_8 : dd m_St_copyFrom 8 (.iconst 0) 1 9 := ⟨by decide +kernel, rfl⟩
theorem d_St_copyFrom_9 : dd m_St_copyFrom 9 (.istore_n 2) 1 10 := ⟨by decide +kernel, rfl⟩
theorem d_St_copyFrom_10 : dd m_St_copyFrom 10 (.iload_n 2) 1 11 := ⟨by decide +kernel, rfl⟩
theorem d_St_copyFrom_11 : dd m_St_copyFrom 11 (.bipush 6) 2 13 := ⟨by decide +kernel, rfl⟩
theorem d_St_copyFrom_13 : db m_St_copyFrom 13 (.if_icmp .ge) 16 41 := ⟨28, by decide +kernel, rfl, rfl⟩
theorem d_St_copyFrom_16 : dd m_St_copyFrom 16 (.aload_n 1) 1 17 := ⟨by decide +kernel, rfl⟩
theorem d_St_copyFrom_17 : dd m_St_copyFrom 17 (.getfield 11) 3 20 := ⟨by decide +kernel, rfl⟩
theorem d_St_copyFrom_20 : dd m_St_copyFrom 20 (.iload_n 2) 1 21 := ⟨by decide +kernel, rfl⟩
theorem d_St_copyFrom_21 : dd m_St_copyFrom 21 .aaload 1 22 := ⟨by decide +kernel, rfl⟩
theorem d_St_copyFrom_22 : dd m_St_copyFrom 22 (.iconst 0) 1 23 := ⟨by decide +kernel, rfl⟩
theorem d_St_copyFrom_23 : dd m_St_copyFrom 23 (.aload_n 0) 1 24 := ⟨by decide +kernel, rfl⟩
theorem d_St_copyFrom_24 : dd m_St_copyFrom 24 (.getfield 11) 3 27 := ⟨by decide +kernel, rfl⟩
theorem d_St_copyFrom_27 : dd m_St_copyFrom 27 (.iload_n 2) 1 28 := ⟨by decide +kernel, rfl⟩
theorem d_St_copyFrom_28 : dd m_St_copyFrom 28 .aaload 1 29 := ⟨by decide +kernel, rfl⟩
theorem d_St_copyFrom_29 : dd m_St_copyFrom 29 (.iconst 0) 1 30 := ⟨by decide +kernel, rfl⟩
theorem d_St_copyFrom_30 : dd m_St_copyFrom 30 (.bipush 10) 2 32 := ⟨by decide +kernel, rfl⟩
theorem d_St_copyFrom_32 : dd m_St_copyFrom 32 (.invokestatic 39) 3 35 := ⟨by decide +kernel, rfl⟩
theorem d_St_copyFrom_35 : dd m_St_copyFrom 35 (.iinc 2 1) 3 38 := ⟨by decide +kernel, rfl⟩
theorem d_St_copyFrom_38 : db m_St_copyFrom 38 .goto 41 10 := ⟨(-28), by decide +kernel, rfl, rfl⟩
theorem d_St_copyFrom_41 : dd m_St_copyFrom 41 (.iconst 0) 1 42 := ⟨by decide +kernel, rfl⟩
theorem d_St_copyFrom_42 : dd m_St_copyFrom 42 (.istore_n 2) 1 43 := ⟨by decide +kernel, rfl⟩
theorem d_St_copyFrom_43 : dd m_St_copyFrom 43 (.iload_n 2) 1 44 := ⟨by decide +kernel, rfl⟩
theorem d_St_copyFrom_44 : dd m_St_copyFrom 44 (.iconst 4) 1 45 := ⟨by decide +kernel, rfl⟩
theorem d_St_copyFrom_45 : db m_St_copyFrom 45 (.if_icmp .ge) 48 69 := ⟨24, by decide +kernel, rfl, rfl⟩
theorem d_St_copyFrom_48 : dd m_St_copyFrom 48 (.aload_n 0) 1 49 := ⟨by decide +kernel, rfl⟩
theorem d_St_copyFrom_49 : dd m_St_copyFrom 49 (.getfield 18) 3 52 := ⟨by decide +kernel, rfl⟩
theorem d_St_copyFrom_52 : dd m_St_copyFrom 52 (.iload_n 2) 1 53 := ⟨by decide +kernel, rfl⟩
theorem d_St_copyFrom_53 : dd m_St_copyFrom 53 .aaload 1 54 := ⟨by decide +kernel, rfl⟩
theorem d_St_copyFrom_54 : dd m_St_copyFrom 54 (.aload_n 1) 1 55 := ⟨by decide +kernel, rfl⟩
theorem d_St_copyFrom_55 : dd m_St_copyFrom 55 (.getfield 18) 3 58 := ⟨by decide +kernel, rfl⟩
theorem d_St_copyFrom_58 : dd m_St_copyFrom 58 (.iload_n 2) 1 59 := ⟨by decide +kernel, rfl⟩
theorem d_St_copyFrom_59 : dd m_St_copyFrom 59 .aaload 1 60 := ⟨by decide +kernel, rfl⟩
theorem d_St_copyFrom_60 : dd m_St_copyFrom 60 (.invokevirtual 45) 3 63 := ⟨by decide +kernel, rfl⟩
theorem d_St_copyFrom_63 : dd m_St_copyFrom 63 (.iinc 2 1) 3 66 := ⟨by decide +kernel, rfl⟩
theorem d_St_copyFrom_66 : db m_St_copyFrom 66 .goto 69 43 := ⟨(-23), by decide +kernel, rfl, rfl⟩
theorem d_St_copyFrom_69 : dd m_St_copyFrom 69 (.iconst 0) 1 70 := ⟨by decide +kernel, rfl⟩
theorem d_St_copyFrom_70 : dd m_St_copyFrom 70 (.istore_n 2) 1 71 := ⟨by decide +kernel, rfl⟩
theorem d_St_copyFrom_71 : dd m_St_copyFrom 71 (.iload_n 2) 1 72 := ⟨by decide +kernel, rfl⟩
theorem d_St_copyFrom_72 : dd m_St_copyFrom 72 (.bipush 10) 2 74 := ⟨by decide +kernel, rfl⟩
theorem d_St_copyFrom_74 : db m_St_copyFrom 74 (.if_icmp .ge) 77 102 := ⟨28, by decide +kernel, rfl, rfl⟩
theorem d_St_copyFrom_77 : dd m_St_copyFrom 77 (.aload_n 1) 1 78 := ⟨by decide +kernel, rfl⟩
theorem d_St_copyFrom_78 : dd m_St_copyFrom 78 (.getfield 22) 3 81 := ⟨by decide +kernel, rfl⟩
theorem d_St_copyFrom_81 : dd m_St_copyFrom 81 (.iload_n 2) 1 82 := ⟨by decide +kernel, rfl⟩
theorem d_St_copyFrom_82 : dd m_St_copyFrom 82 .aaload 1 83 := ⟨by decide +kernel, rfl⟩
theorem d_St_copyFrom_83 : dd m_St_copyFrom 83 (.iconst 0) 1 84 := ⟨by decide +kernel, rfl⟩
theorem d_St_copyFrom_84 : dd m_St_copyFrom 84 (.aload_n 0) 1 85 := ⟨by decide +kernel, rfl⟩
theorem d_St_copyFrom_85 : dd m_St_copyFrom 85 (.getfield 22) 3 88 := ⟨by decide +kernel, rfl⟩
theorem d_St_copyFrom_88 : dd m_St_copyFrom 88 (.iload_n 2) 1 89 := ⟨by decide +kernel, rfl⟩
theorem d_St_copyFrom_89 : dd m_St_copyFrom 89 .aaload 1 90 := ⟨by decide +kernel, rfl⟩
theorem d_St_copyFrom_90 : dd m_St_copyFrom 90 (.iconst 0) 1 91 := ⟨by decide +kernel, rfl⟩
theorem d_St_copyFrom_91 : dd m_St_copyFrom 91 (.bipush 10) 2 93 := ⟨by decide +kernel, rfl⟩
theorem d_St_copyFrom_93 : dd m_St_copyFrom 93 (.invokestatic 39) 3 96 := ⟨by decide +kernel, rfl⟩
theorem d_St_copyFrom_96 : dd m_St_copyFrom 96 (.iinc 2 1) 3 99 := ⟨by decide +kernel, rfl⟩
theorem d_St_copyFrom_99 : db m_St_copyFrom 99 .goto 102 71 := ⟨(-28), by decide +kernel, rfl, rfl⟩
theorem d_St_copyFrom_102 : decode (mbt m_St_copyFrom) 102 = .ok (.return_, 1) := by decide +kernel
theorem d_Ta_copyFrom_0 : dd m_Ta_copyFrom 0 (.aload_n 0) 1 1 := ⟨by decide +kernel, rfl⟩
theorem d_Ta_copyFrom_1 : dd m_Ta_copyFrom 1 (.aload_n 1) 1 2 := ⟨by decide +kernel, rfl⟩
theorem d_Ta_copyFrom_2 : dd m_Ta_copyFrom 2 (.getfield 9) 3 5 := ⟨by decide +kernel, rfl⟩
theorem d_Ta_copyFrom_5 : dd m_Ta_copyFrom 5 (.aload_n 1) 1 6 := ⟨by decide +kernel, rfl⟩
theorem d_Ta_copyFrom_6 : dd m_Ta_copyFrom 6 (.getfield 15) 3 9 := ⟨by decide +kernel, rfl⟩
theorem d_Ta_copyFrom_9 : dd m_Ta_copyFrom 9 (.invokevirtual 30) 3 12 := ⟨by decide +kernel, rfl⟩
theorem d_Ta_copyFrom_12 : decode (mbt m_Ta_copyFrom) 12 = .ok (.return_, 1) := by decide +kernel
theorem d_Hi_forget_0 : dd m_Hi_forget 0 (.aload_n 0) 1 1 := ⟨by decide +kernel, rfl⟩
theorem d_Hi_forget_1 : dd m_Hi_forget 1 (.iconst 0) 1 2 := ⟨by decide +kernel, rfl⟩
theorem d_Hi_forget_2 : dd m_Hi_forget 2 (.putfield 26) 3 5 := ⟨by decide +kernel, rfl⟩
theorem d_Hi_forget_5 : decode (mbt m_Hi_forget) 5 = .ok (.return_, 1) := by decide +kernel
theorem d_Hi_keep_0 : dd m_Hi_keep 0 (.aload_n 0) 1 1 := ⟨by decide +kernel, rfl⟩
theorem d_Hi_keep_1 : dd m_Hi_keep 1 (.getfield 11) 3 4 := ⟨by decide +kernel, rfl⟩
theorem d_Hi_keep_4 : dd m_Hi_keep 4 (.aload_n 0) 1 5 := ⟨by decide +kernel, rfl⟩
theorem d_Hi_keep_5 : dd m_Hi_keep 5 (.getfield 18) 3 8 := ⟨by decide +kernel, rfl⟩
theorem d_Hi_keep_8 : dd m_Hi_keep 8 .aaload 1 9 := ⟨by decide +kernel, rfl⟩
theorem d_Hi_keep_9 : dd m_Hi_keep 9 (.aload_n 1) 1 10 := ⟨by decide +kernel, rfl⟩
theorem d_Hi_keep_10 : dd m_Hi_keep 10 (.invokevirtual 22) 3 13 := ⟨by decide +kernel, rfl⟩
theorem d_Hi_keep_13 : dd m_Hi_keep 13 (.aload_n 0) 1 14 := ⟨by decide +kernel, rfl⟩
theorem d_Hi_keep_14 : dd m_Hi_keep 14 (.aload_n 0) 1 15 := ⟨by decide +kernel, rfl⟩
theorem d_Hi_keep_15 : dd m_Hi_keep 15 (.getfield 18) 3 18 := ⟨by decide +kernel, rfl⟩
theorem d_Hi_keep_18 : dd m_Hi_keep 18 (.iconst 1) 1 19 := ⟨by decide +kernel, rfl⟩
theorem d_Hi_keep_19 : dd m_Hi_keep 19 .iadd 1 20 := ⟨by decide +kernel, rfl⟩
theorem d_Hi_keep_20 : dd m_Hi_keep 20 (.bipush 8) 2 22 := ⟨by decide +kernel, rfl⟩
theorem d_Hi_keep_22 : dd m_Hi_keep 22 .irem 1 23 := ⟨by decide +kernel, rfl⟩
theorem d_Hi_keep_23 : dd m_Hi_keep 23 (.putfield 18) 3 26 := ⟨by decide +kernel, rfl⟩
theorem d_Hi_keep_26 : dd m_Hi_keep 26 (.aload_n 0) 1 27 := ⟨by decide +kernel, rfl⟩
theorem d_Hi_keep_27 : dd m_Hi_keep 27 (.aload_n 0) 1 28 := ⟨by decide +kernel, rfl⟩
theorem d_Hi_keep_28 : dd m_Hi_keep 28 (.getfield 26) 3 31 := ⟨by decide +kernel, rfl⟩
theorem d_Hi_keep_31 : dd m_Hi_keep 31 (.iconst 1) 1 32 := ⟨by decide +kernel, rfl⟩
theorem d_Hi_keep_32 : dd m_Hi_keep 32 .iadd 1 33 := ⟨by decide +kernel, rfl⟩
theorem d_Hi_keep_33 : dd m_Hi_keep 33 (.bipush 8) 2 35 := ⟨by decide +kernel, rfl⟩
theorem d_Hi_keep_35 : dd m_Hi_keep 35 (.invokestatic 29) 3 38 := ⟨by decide +kernel, rfl⟩
theorem d_Hi_keep_38 : dd m_Hi_keep 38 (.putfield 26) 3 41 := ⟨by decide +kernel, rfl⟩
theorem d_Hi_keep_41 : decode (mbt m_Hi_keep) 41 = .ok (.return_, 1) := by decide +kernel
theorem d_Ma_min_0 : dd m_Ma_min 0 (.iload_n 0) 1 1 := ⟨by decide +kernel, rfl⟩
theorem d_Ma_min_1 : dd m_Ma_min 1 (.iload_n 1) 1 2 := ⟨by decide +kernel, rfl⟩
theorem d_Ma_min_2 : db m_Ma_min 2 (.if_icmp .gt) 5 9 := ⟨7, by decide +kernel, rfl, rfl⟩
theorem d_Ma_min_5 : dd m_Ma_min 5 (.iload_n 0) 1 6 := ⟨by decide +kernel, rfl⟩
theorem d_Ma_min_6 : db m_Ma_min 6 .goto 9 10 := ⟨4, by decide +kernel, rfl, rfl⟩
theorem d_Ma_min_9 : dd m_Ma_min 9 (.iload_n 1) 1 10 := ⟨by decide +kernel, rfl⟩
theorem d_Ma_min_10 : decode (mbt m_Ma_min) 10 = .ok (.ireturn, 1) := by decide +kernel
theorem d_Ma_floorMod_0 : dd m_Ma_floorMod 0 (.iload_n 0) 1 1 := ⟨by decide +kernel, rfl⟩
theorem d_Ma_floorMod_1 : dd m_Ma_floorMod 1 (.iload_n 1) 1 2 := ⟨by decide +kernel, rfl⟩
theorem d_Ma_floorMod_2 : dd m_Ma_floorMod 2 .irem 1 3 := ⟨by decide +kernel, rfl⟩
theorem d_Ma_floorMod_3 : dd m_Ma_floorMod 3 (.istore_n 2) 1 4 := ⟨by decide +kernel, rfl⟩
theorem d_Ma_floorMod_4 : dd m_Ma_floorMod 4 (.iload_n 0) 1 5 := ⟨by decide +kernel, rfl⟩
theorem d_Ma_floorMod_5 : dd m_Ma_floorMod 5 (.iload_n 1) 1 6 := ⟨by decide +kernel, rfl⟩
theorem d_Ma_floorMod_6 : dd m_Ma_floorMod 6 .ixor 1 7 := ⟨by decide +kernel, rfl⟩
theorem d_Ma_floorMod_7 : db m_Ma_floorMod 7 (.ifCond .ge) 10 18 := ⟨11, by decide +kernel, rfl, rfl⟩
theorem d_Ma_floorMod_10 : dd m_Ma_floorMod 10 (.iload_n 2) 1 11 := ⟨by decide +kernel, rfl⟩
theorem d_Ma_floorMod_11 : db m_Ma_floorMod 11 (.ifCond .eq) 14 18 := ⟨7, by decide +kernel, rfl, rfl⟩
theorem d_Ma_floorMod_14 : dd m_Ma_floorMod 14 (.iload_n 2) 1 15 := ⟨by decide +kernel, rfl⟩
theorem d_Ma_floorMod_15 : dd m_Ma_floorMod 15 (.iload_n 1) 1 16 := ⟨by decide +kernel, rfl⟩
theorem d_Ma_floorMod_16 : dd m_Ma_floorMod 16 .iadd 1 17 := ⟨by decide +kernel, rfl⟩
theorem d_Ma_floorMod_17 : decode (mbt m_Ma_floorMod) 17 = .ok (.ireturn, 1) := by decide +kernel
theorem d_Ma_floorMod_18 : dd m_Ma_floorMod 18 (.iload_n 2) 1 19 := ⟨by decide +kernel, rfl⟩
theorem d_Ma_floorMod_19 : decode (mbt m_Ma_floorMod) 19 = .ok (.ireturn, 1) := by decide +kernel
theorem d_Sb_combine_0 : dd m_Sb_combine 0 (.aload_n 1) 1 1 := ⟨by decide +kernel, rfl⟩
theorem d_Sb_combine_1 : dd m_Sb_combine 1 (.iconst 0) 1 2 := ⟨by decide +kernel, rfl⟩
theorem d_Sb_combine_2 : dd m_Sb_combine 2 (.aload_n 0) 1 3 := ⟨by decide +kernel, rfl⟩
theorem d_Sb_combine_3 : dd m_Sb_combine 3 (.getfield 9) 3 6 := ⟨by decide +kernel, rfl⟩
theorem d_Sb_combine_6 : dd m_Sb_combine 6 (.iconst 0) 1 7 := ⟨by decide +kernel, rfl⟩
theorem d_Sb_combine_7 : dd m_Sb_combine 7 (.bipush 10) 2 9 := ⟨by decide +kernel, rfl⟩
theorem d_Sb_combine_9 : dd m_Sb_combine 9 (.invokestatic 21) 3 12 := ⟨by decide +kernel, rfl⟩
theorem d_Sb_combine_12 : dd m_Sb_combine 12 (.iload_n 3) 1 13 := ⟨by decide +kernel, rfl⟩
theorem d_Sb_combine_13 : decode (mbt m_Sb_combine) 13 = .ok (.tableswitch 112 0 4 #[35, 47, 59, 71, 91], 35) := by decide +kernel
theorem d_Sb_combine_48 : dd m_Sb_combine 48 (.aload_n 0) 1 49 := ⟨by decide +kernel, rfl⟩
theorem d_Sb_combine_49 : dd m_Sb_combine 49 (.getfield 9) 3 52 := ⟨by decide +kernel, rfl⟩
theorem d_Sb_combine_52 : dd m_Sb_combine 52 (.aload_n 2) 1 53 := ⟨by decide +kernel, rfl⟩
theorem d_Sb_combine_53 : dd m_Sb_combine 53 (.iload 4) 2 55 := ⟨by decide +kernel, rfl⟩
theorem d_Sb_combine_55 : dd m_Sb_combine 55 (.invokestatic 27) 3 58 := ⟨by decide +kernel, rfl⟩
theorem d_Sb_combine_58 : dd m_Sb_combine 58 (.iconst 1) 1 59 := ⟨by decide +kernel, rfl⟩
theorem d_Sb_combine_59 : decode (mbt m_Sb_combine) 59 = .ok (.ireturn, 1) := by decide +kernel
theorem d_Sb_combine_60 : dd m_Sb_combine 60 (.aload_n 0) 1 61 := ⟨by decide +kernel, rfl⟩
theorem d_Sb_combine_61 : dd m_Sb_combine 61 (.getfield 9) 3 64 := ⟨by decide +kernel, rfl⟩
theorem d_Sb_combine_64 : dd m_Sb_combine 64 (.aload_n 2) 1 65 := ⟨by decide +kernel, rfl⟩
theorem d_Sb_combine_65 : dd m_Sb_combine 65 (.iload 4) 2 67 := ⟨by decide +kernel, rfl⟩
theorem d_Sb_combine_67 : dd m_Sb_combine 67 (.invokestatic 33) 3 70 := ⟨by decide +kernel, rfl⟩
theorem d_Sb_combine_70 : dd m_Sb_combine 70 (.iconst 1) 1 71 := ⟨by decide +kernel, rfl⟩
theorem d_Sb_combine_71 : decode (mbt m_Sb_combine) 71 = .ok (.ireturn, 1) := by decide +kernel
theorem d_Sb_combine_72 : dd m_Sb_combine 72 (.aload_n 0) 1 73 := ⟨by decide +kernel, rfl⟩
theorem d_Sb_combine_73 : dd m_Sb_combine 73 (.getfield 9) 3 76 := ⟨by decide +kernel, rfl⟩
theorem d_Sb_combine_76 : dd m_Sb_combine 76 (.aload_n 2) 1 77 := ⟨by decide +kernel, rfl⟩
theorem d_Sb_combine_77 : dd m_Sb_combine 77 (.iload 4) 2 79 := ⟨by decide +kernel, rfl⟩
theorem d_Sb_combine_79 : dd m_Sb_combine 79 (.invokestatic 36) 3 82 := ⟨by decide +kernel, rfl⟩
theorem d_Sb_combine_82 : dd m_Sb_combine 82 (.iconst 1) 1 83 := ⟨by decide +kernel, rfl⟩
theorem d_Sb_combine_83 : decode (mbt m_Sb_combine) 83 = .ok (.ireturn, 1) := by decide +kernel
theorem d_Sb_combine_84 : dd m_Sb_combine 84 (.aload_n 2) 1 85 := ⟨by decide +kernel, rfl⟩
theorem d_Sb_combine_85 : dd m_Sb_combine 85 (.iconst 0) 1 86 := ⟨by decide +kernel, rfl⟩
theorem d_Sb_combine_86 : dd m_Sb_combine 86 .iaload 1 87 := ⟨by decide +kernel, rfl⟩
theorem d_Sb_combine_87 : db m_Sb_combine 87 (.ifCond .ne) 90 92 := ⟨5, by decide +kernel, rfl, rfl⟩
theorem d_Sb_combine_90 : dd m_Sb_combine 90 (.iconst 0) 1 91 := ⟨by decide +kernel, rfl⟩
theorem d_Sb_combine_91 : decode (mbt m_Sb_combine) 91 = .ok (.ireturn, 1) := by decide +kernel
theorem d_Sb_combine_92 : dd m_Sb_combine 92 (.aload_n 0) 1 93 := ⟨by decide +kernel, rfl⟩
theorem d_Sb_combine_93 : dd m_Sb_combine 93 (.getfield 9) 3 96 := ⟨by decide +kernel, rfl⟩
theorem d_Sb_combine_96 : dd m_Sb_combine 96 (.aload_n 2) 1 97 := ⟨by decide +kernel, rfl⟩
theorem d_Sb_combine_97 : dd m_Sb_combine 97 (.iload 4) 2 99 := ⟨by decide +kernel, rfl⟩
theorem d_Sb_combine_99 : dd m_Sb_combine 99 (.invokestatic 39) 3 102 := ⟨by decide +kernel, rfl⟩
theorem d_Sb_combine_102 : dd m_Sb_combine 102 (.iconst 1) 1 103 := ⟨by decide +kernel, rfl⟩
theorem d_Sb_combine_103 : decode (mbt m_Sb_combine) 103 = .ok (.ireturn, 1) := by decide +kernel
theorem d_Sb_combine_104 : dd m_Sb_combine 104 (.aload_n 2) 1 105 := ⟨by decide +kernel, rfl⟩
theorem d_Sb_combine_105 : dd m_Sb_combine 105 (.iconst 0) 1 106 := ⟨by decide +kernel, rfl⟩
theorem d_Sb_combine_106 : dd m_Sb_combine 106 .iaload 1 107 := ⟨by decide +kernel, rfl⟩
theorem d_Sb_combine_107 : db m_Sb_combine 107 (.ifCond .eq) 110 112 := ⟨5, by decide +kernel, rfl, rfl⟩
theorem d_Sb_combine_110 : dd m_Sb_combine 110 (.iconst 0) 1 111 := ⟨by decide +kernel, rfl⟩
theorem d_Sb_combine_111 : decode (mbt m_Sb_combine) 111 = .ok (.ireturn, 1) := by decide +kernel
theorem d_Sb_combine_112 : dd m_Sb_combine 112 (.aload_n 1) 1 113 := ⟨by decide +kernel, rfl⟩
theorem d_Sb_combine_113 : dd m_Sb_combine 113 (.aload_n 2) 1 114 := ⟨by decide +kernel, rfl⟩
theorem d_Sb_combine_114 : dd m_Sb_combine 114 (.iload 4) 2 116 := ⟨by decide +kernel, rfl⟩
theorem d_Sb_combine_116 : dd m_Sb_combine 116 (.aload_n 0) 1 117 := ⟨by decide +kernel, rfl⟩
theorem d_Sb_combine_117 : dd m_Sb_combine 117 (.getfield 9) 3 120 := ⟨by decide +kernel, rfl⟩
theorem d_Sb_combine_120 : dd m_Sb_combine 120 (.invokestatic 42) 3 123 := ⟨by decide +kernel, rfl⟩
theorem d_Sb_combine_123 : dd m_Sb_combine 123 (.iconst 1) 1 124 := ⟨by decide +kernel, rfl⟩
theorem d_Sb_combine_124 : decode (mbt m_Sb_combine) 124 = .ok (.ireturn, 1) := by decide +kernel
theorem d_Sb_combine_125 : dd m_Sb_combine 125 (.iconst 0) 1 126 := ⟨by decide +kernel, rfl⟩
theorem d_Sb_combine_126 : decode (mbt m_Sb_combine) 126 = .ok (.ireturn, 1) := by decide +kernel
theorem d_Rw_add_0 : dd m_Rw_add 0 (.iconst 0) 1 1 := ⟨by decide +kernel, rfl⟩
theorem d_Rw_add_1 : dd m_Rw_add 1 (.istore_n 3) 1 2 := ⟨by decide +kernel, rfl⟩
theorem d_Rw_add_2 : dd m_Rw_add 2 (.iload_n 3) 1 3 := ⟨by decide +kernel, rfl⟩
theorem d_Rw_add_3 : dd m_Rw_add 3 (.iload_n 2) 1 4 := ⟨by decide +kernel, rfl⟩
theorem d_Rw_add_4 : db m_Rw_add 4 (.if_icmp .ge) 7 26 := ⟨22, by decide +kernel, rfl, rfl⟩
theorem d_Rw_add_7 : dd m_Rw_add 7 (.aload_n 0) 1 8 := ⟨by decide +kernel, rfl⟩
theorem d_Rw_add_8 : dd m_Rw_add 8 (.iload_n 3) 1 9 := ⟨by decide +kernel, rfl⟩
theorem d_Rw_add_9 : dd m_Rw_add 9 (.aload_n 0) 1 10 := ⟨by decide +kernel, rfl⟩
theorem d_Rw_add_10 : dd m_Rw_add 10 (.iload_n 3) 1 11 := ⟨by decide +kernel, rfl⟩
theorem d_Rw_add_11 : dd m_Rw_add 11 .iaload 1 12 := ⟨by decide +kernel, rfl⟩
theorem d_Rw_add_12 : dd m_Rw_add 12 (.aload_n 1) 1 13 := ⟨by decide +kernel, rfl⟩
theorem d_Rw_add_13 : dd m_Rw_add 13 (.iload_n 3) 1 14 := ⟨by decide +kernel, rfl⟩
theorem d_Rw_add_14 : dd m_Rw_add 14 .iaload 1 15 := ⟨by decide +kernel, rfl⟩
theorem d_Rw_add_15 : dd m_Rw_add 15 .iadd 1 16 := ⟨by decide +kernel, rfl⟩
theorem d_Rw_add_16 : dd m_Rw_add 16 (.ldc 14) 2 18 := ⟨by decide +kernel, rfl⟩
theorem d_Rw_add_18 : dd m_Rw_add 18 .irem 1 19 := ⟨by decide +kernel, rfl⟩
theorem d_Rw_add_19 : dd m_Rw_add 19 .iastore 1 20 := ⟨by decide +kernel, rfl⟩
theorem d_Rw_add_20 : dd m_Rw_add 20 (.iinc 3 1) 3 23 := ⟨by decide +kernel, rfl⟩
theorem d_Rw_add_23 : db m_Rw_add 23 .goto 26 2 := ⟨(-21), by decide +kernel, rfl, rfl⟩
theorem d_Rw_add_26 : decode (mbt m_Rw_add) 26 = .ok (.return_, 1) := by decide +kernel
theorem d_Rw_subtract_0 : dd m_Rw_subtract 0 (.iconst 0) 1 1 := ⟨by decide +kernel, rfl⟩
theorem d_Rw_subtract_1 : dd m_Rw_subtract 1 (.istore_n 3) 1 2 := ⟨by decide +kernel, rfl⟩
theorem d_Rw_subtract_2 : dd m_Rw_subtract 2 (.iload_n 3) 1 3 := ⟨by decide +kernel, rfl⟩
theorem d_Rw_subtract_3 : dd m_Rw_subtract 3 (.iload_n 2) 1 4 := ⟨by decide +kernel, rfl⟩
theorem d_Rw_subtract_4 : db m_Rw_subtract 4 (.if_icmp .ge) 7 25 := ⟨21, by decide +kernel, rfl, rfl⟩
theorem d_Rw_subtract_7 : dd m_Rw_subtract 7 (.aload_n 0) 1 8 := ⟨by decide +kernel, rfl⟩
theorem d_Rw_subtract_8 : dd m_Rw_subtract 8 (.iload_n 3) 1 9 := ⟨by decide +kernel, rfl⟩
theorem d_Rw_subtract_9 : dd m_Rw_subtract 9 (.aload_n 0) 1 10 := ⟨by decide +kernel, rfl⟩
theorem d_Rw_subtract_10 : dd m_Rw_subtract 10 (.iload_n 3) 1 11 := ⟨by decide +kernel, rfl⟩
theorem d_Rw_subtract_11 : dd m_Rw_subtract 11 .iaload 1 12 := ⟨by decide +kernel, rfl⟩
theorem d_Rw_subtract_12 : dd m_Rw_subtract 12 (.aload_n 1) 1 13 := ⟨by decide +kernel, rfl⟩
theorem d_Rw_subtract_13 : dd m_Rw_subtract 13 (.iload_n 3) 1 14 := ⟨by decide +kernel, rfl⟩
theorem d_Rw_subtract_14 : dd m_Rw_subtract 14 .iaload 1 15 := ⟨by decide +kernel, rfl⟩
theorem d_Rw_subtract_15 : dd m_Rw_subtract 15 (.invokestatic 21) 3 18 := ⟨by decide +kernel, rfl⟩
theorem d_Rw_subtract_18 : dd m_Rw_subtract 18 .iastore 1 19 := ⟨by decide +kernel, rfl⟩
theorem d_Rw_subtract_19 : dd m_Rw_subtract 19 (.iinc 3 1) 3 22 := ⟨by decide +kernel, rfl⟩
theorem d_Rw_subtract_22 : db m_Rw_subtract 22 .goto 25 2 := ⟨(-20), by decide +kernel, rfl, rfl⟩
theorem d_Rw_subtract_25 : decode (mbt m_Rw_subtract) 25 = .ok (.return_, 1) := by decide +kernel
theorem d_Rw_multiply_0 : dd m_Rw_multiply 0 (.iload_n 2) 1 1 := ⟨by decide +kernel, rfl⟩
theorem d_Rw_multiply_1 : dd m_Rw_multiply 1 (.iconst 1) 1 2 := ⟨by decide +kernel, rfl⟩
theorem d_Rw_multiply_2 : dd m_Rw_multiply 2 .isub 1 3 := ⟨by decide +kernel, rfl⟩
theorem d_Rw_multiply_3 : dd m_Rw_multiply 3 (.istore_n 3) 1 4 := ⟨by decide +kernel, rfl⟩
theorem d_Rw_multiply_4 : dd m_Rw_multiply 4 (.iload_n 3) 1 5 := ⟨by decide +kernel, rfl⟩
theorem d_Rw_multiply_5 : db m_Rw_multiply 5 (.ifCond .lt) 8 23 := ⟨18, by decide +kernel, rfl, rfl⟩
theorem d_Rw_multiply_8 : dd m_Rw_multiply 8 (.aload_n 0) 1 9 := ⟨by decide +kernel, rfl⟩
theorem d_Rw_multiply_9 : dd m_Rw_multiply 9 (.iload_n 3) 1 10 := ⟨by decide +kernel, rfl⟩
theorem d_Rw_multiply_10 : dd m_Rw_multiply 10 (.aload_n 0) 1 11 := ⟨by decide +kernel, rfl⟩
theorem d_Rw_multiply_11 : dd m_Rw_multiply 11 (.aload_n 1) 1 12 := ⟨by decide +kernel, rfl⟩
theorem d_Rw_multiply_12 : dd m_Rw_multiply 12 (.iload_n 3) 1 13 := ⟨by decide +kernel, rfl⟩
theorem d_Rw_multiply_13 : dd m_Rw_multiply 13 (.invokestatic 25) 3 16 := ⟨by decide +kernel, rfl⟩
theorem d_Rw_multiply_16 : dd m_Rw_multiply 16 .iastore 1 17 := ⟨by decide +kernel, rfl⟩
theorem d_Rw_multiply_17 : dd m_Rw_multiply 17 (.iinc 3 (-1)) 3 20 := ⟨by decide +kernel, rfl⟩
theorem d_Rw_multiply_20 : db m_Rw_multiply 20 .goto 23 4 := ⟨(-16), by decide +kernel, rfl, rfl⟩
theorem d_Rw_multiply_23 : decode (mbt m_Rw_multiply) 23 = .ok (.return_, 1) := by decide +kernel
theorem d_Rw_coefficient_0 : dd m_Rw_coefficient 0 (.lconst 0) 1 1 := ⟨by decide +kernel, rfl⟩
theorem d_Rw_coefficient_1 : dd m_Rw_coefficient 1 (.lstore_n 3) 1 2 := ⟨by decide +kernel, rfl⟩
theorem d_Rw_coefficient_2 : dd m_Rw_coefficient 2 (.iconst 0) 1 3 := ⟨by decide +kernel, rfl⟩
theorem d_Rw_coefficient_3 : dd m_Rw_coefficient 3 (.istore 5) 2 5 := ⟨by decide +kernel, rfl⟩
theorem d_Rw_coefficient_5 : dd m_Rw_coefficient 5 (.iload 5) 2 7 := ⟨by decide +kernel, rfl⟩
theorem d_Rw_coefficient_7 : dd m_Rw_coefficient 7 (.iload_n 2) 1 8 := ⟨by decide +kernel, rfl⟩
theorem d_Rw_coefficient_8 : db m_Rw_coefficient 8 (.if_icmp .gt) 11 33 := ⟨25, by decide +kernel, rfl, rfl⟩
theorem d_Rw_coefficient_11 : dd m_Rw_coefficient 11 (.lload_n 3) 1 12 := ⟨by decide +kernel, rfl⟩
theorem d_Rw_coefficient_12 : dd m_Rw_coefficient 12 (.aload_n 0) 1 13 := ⟨by decide +kernel, rfl⟩
theorem d_Rw_coefficient_13 : dd m_Rw_coefficient 13 (.iload 5) 2 15 := ⟨by decide +kernel, rfl⟩
theorem d_Rw_coefficient_15 : dd m_Rw_coefficient 15 .iaload 1 16 := ⟨by decide +kernel, rfl⟩
theorem d_Rw_coefficient_16 : dd m_Rw_coefficient 16 .i2l 1 17 := ⟨by decide +kernel, rfl⟩
theorem d_Rw_coefficient_17 : dd m_Rw_coefficient 17 (.aload_n 1) 1 18 := ⟨by decide +kernel, rfl⟩
theorem d_Rw_coefficient_18 : dd m_Rw_coefficient 18 (.iload_n 2) 1 19 := ⟨by decide +kernel, rfl⟩
theorem d_Rw_coefficient_19 : dd m_Rw_coefficient 19 (.iload 5) 2 21 := ⟨by decide +kernel, rfl⟩
theorem d_Rw_coefficient_21 : dd m_Rw_coefficient 21 .isub 1 22 := ⟨by decide +kernel, rfl⟩
theorem d_Rw_coefficient_22 : dd m_Rw_coefficient 22 .iaload 1 23 := ⟨by decide +kernel, rfl⟩
theorem d_Rw_coefficient_23 : dd m_Rw_coefficient 23 .i2l 1 24 := ⟨by decide +kernel, rfl⟩
theorem d_Rw_coefficient_24 : dd m_Rw_coefficient 24 .lmul 1 25 := ⟨by decide +kernel, rfl⟩
theorem d_Rw_coefficient_25 : dd m_Rw_coefficient 25 .ladd 1 26 := ⟨by decide +kernel, rfl⟩
theorem d_Rw_coefficient_26 : dd m_Rw_coefficient 26 (.lstore_n 3) 1 27 := ⟨by decide +kernel, rfl⟩
theorem d_Rw_coefficient_27 : dd m_Rw_coefficient 27 (.iinc 5 1) 3 30 := ⟨by decide +kernel, rfl⟩
theorem d_Rw_coefficient_30 : db m_Rw_coefficient 30 .goto 33 5 := ⟨(-25), by decide +kernel, rfl, rfl⟩
theorem d_Rw_coefficient_33 : dd m_Rw_coefficient 33 (.lload_n 3) 1 34 := ⟨by decide +kernel, rfl⟩
theorem d_Rw_coefficient_34 : dd m_Rw_coefficient 34 (.ldc2_w 12) 3 37 := ⟨by decide +kernel, rfl⟩
theorem d_Rw_coefficient_37 : dd m_Rw_coefficient 37 .lrem 1 38 := ⟨by decide +kernel, rfl⟩
theorem d_Rw_coefficient_38 : dd m_Rw_coefficient 38 .l2i 1 39 := ⟨by decide +kernel, rfl⟩
theorem d_Rw_coefficient_39 : decode (mbt m_Rw_coefficient) 39 = .ok (.ireturn, 1) := by decide +kernel
theorem d_Rw_insert_0 : dd m_Rw_insert 0 (.aload_n 3) 1 1 := ⟨by decide +kernel, rfl⟩
theorem d_Rw_insert_1 : dd m_Rw_insert 1 (.iconst 0) 1 2 := ⟨by decide +kernel, rfl⟩
theorem d_Rw_insert_2 : dd m_Rw_insert 2 (.invokestatic 15) 3 5 := ⟨by decide +kernel, rfl⟩
theorem d_Rw_insert_5 : dd m_Rw_insert 5 (.iload_n 2) 1 6 := ⟨by decide +kernel, rfl⟩
theorem d_Rw_insert_6 : dd m_Rw_insert 6 (.iconst 1) 1 7 := ⟨by decide +kernel, rfl⟩
theorem d_Rw_insert_7 : dd m_Rw_insert 7 .isub 1 8 := ⟨by decide +kernel, rfl⟩
theorem d_Rw_insert_8 : dd m_Rw_insert 8 (.istore 4) 2 10 := ⟨by decide +kernel, rfl⟩
theorem d_Rw_insert_10 : dd m_Rw_insert 10 (.iload 4) 2 12 := ⟨by decide +kernel, rfl⟩
theorem d_Rw_insert_12 : db m_Rw_insert 12 (.ifCond .lt) 15 37 := ⟨25, by decide +kernel, rfl, rfl⟩
theorem d_Rw_insert_15 : dd m_Rw_insert 15 (.aload_n 3) 1 16 := ⟨by decide +kernel, rfl⟩
theorem d_Rw_insert_16 : dd m_Rw_insert 16 (.aload_n 1) 1 17 := ⟨by decide +kernel, rfl⟩
theorem d_Rw_insert_17 : dd m_Rw_insert 17 (.iload_n 2) 1 18 := ⟨by decide +kernel, rfl⟩
theorem d_Rw_insert_18 : dd m_Rw_insert 18 (.iload 4) 2 20 := ⟨by decide +kernel, rfl⟩
theorem d_Rw_insert_20 : dd m_Rw_insert 20 .isub 1 21 := ⟨by decide +kernel, rfl⟩
theorem d_Rw_insert_21 : dd m_Rw_insert 21 (.invokestatic 36) 3 24 := ⟨by decide +kernel, rfl⟩
theorem d_Rw_insert_24 : dd m_Rw_insert 24 (.aload_n 3) 1 25 := ⟨by decide +kernel, rfl⟩
theorem d_Rw_insert_25 : dd m_Rw_insert 25 (.iconst 0) 1 26 := ⟨by decide +kernel, rfl⟩
theorem d_Rw_insert_26 : dd m_Rw_insert 26 (.aload_n 0) 1 27 := ⟨by decide +kernel, rfl⟩
theorem d_Rw_insert_27 : dd m_Rw_insert 27 (.iload 4) 2 29 := ⟨by decide +kernel, rfl⟩
theorem d_Rw_insert_29 : dd m_Rw_insert 29 .iaload 1 30 := ⟨by decide +kernel, rfl⟩
theorem d_Rw_insert_30 : dd m_Rw_insert 30 .iastore 1 31 := ⟨by decide +kernel, rfl⟩
theorem d_Rw_insert_31 : dd m_Rw_insert 31 (.iinc 4 (-1)) 3 34 := ⟨by decide +kernel, rfl⟩
theorem d_Rw_insert_34 : db m_Rw_insert 34 .goto 37 10 := ⟨(-24), by decide +kernel, rfl, rfl⟩
theorem d_Rw_insert_37 : decode (mbt m_Rw_insert) 37 = .ok (.return_, 1) := by decide +kernel
theorem d_Sb_turnAbout_0 : dd m_Sb_turnAbout 0 (.iload_n 2) 1 1 := ⟨by decide +kernel, rfl⟩
theorem d_Sb_turnAbout_1 : decode (mbt m_Sb_turnAbout) 1 = .ok (.tableswitch 136 0 5 #[39, 61, 72, 80, 88, 109], 39) := by decide +kernel
theorem d_Sb_turnAbout_40 : dd m_Sb_turnAbout 40 (.aload_n 1) 1 41 := ⟨by decide +kernel, rfl⟩
theorem d_Sb_turnAbout_41 : dd m_Sb_turnAbout 41 (.iconst 0) 1 42 := ⟨by decide +kernel, rfl⟩
theorem d_Sb_turnAbout_42 : dd m_Sb_turnAbout 42 (.aload_n 0) 1 43 := ⟨by decide +kernel, rfl⟩
theorem d_Sb_turnAbout_43 : dd m_Sb_turnAbout 43 (.getfield 9) 3 46 := ⟨by decide +kernel, rfl⟩
theorem d_Sb_turnAbout_46 : dd m_Sb_turnAbout 46 (.iconst 1) 1 47 := ⟨by decide +kernel, rfl⟩
theorem d_Sb_turnAbout_47 : dd m_Sb_turnAbout 47 (.iload_n 3) 1 48 := ⟨by decide +kernel, rfl⟩
theorem d_Sb_turnAbout_48 : dd m_Sb_turnAbout 48 (.iconst 1) 1 49 := ⟨by decide +kernel, rfl⟩
theorem d_Sb_turnAbout_49 : dd m_Sb_turnAbout 49 .isub 1 50 := ⟨by decide +kernel, rfl⟩
theorem d_Sb_turnAbout_50 : dd m_Sb_turnAbout 50 (.invokestatic 21) 3 53 := ⟨by decide +kernel, rfl⟩
theorem d_Sb_turnAbout_53 : dd m_Sb_turnAbout 53 (.aload_n 0) 1 54 := ⟨by decide +kernel, rfl⟩
theorem d_Sb_turnAbout_54 : dd m_Sb_turnAbout 54 (.getfield 9) 3 57 := ⟨by decide +kernel, rfl⟩
theorem d_Sb_turnAbout_57 : dd m_Sb_turnAbout 57 (.iconst 0) 1 58 := ⟨by decide +kernel, rfl⟩
theorem d_Sb_turnAbout_58 : dd m_Sb_turnAbout 58 (.iconst 0) 1 59 := ⟨by decide +kernel, rfl⟩
theorem d_Sb_turnAbout_59 : dd m_Sb_turnAbout 59 .iastore 1 60 := ⟨by decide +kernel, rfl⟩
theorem d_Sb_turnAbout_60 : dd m_Sb_turnAbout 60 (.iconst 1) 1 61 := ⟨by decide +kernel, rfl⟩
theorem d_Sb_turnAbout_61 : decode (mbt m_Sb_turnAbout) 61 = .ok (.ireturn, 1) := by decide +kernel
theorem d_Sb_turnAbout_62 : dd m_Sb_turnAbout 62 (.aload_n 1) 1 63 := ⟨by decide +kernel, rfl⟩
theorem d_Sb_turnAbout_63 : dd m_Sb_turnAbout 63 (.iload_n 3) 1 64 := ⟨by decide +kernel, rfl⟩
theorem d_Sb_turnAbout_64 : dd m_Sb_turnAbout 64 (.aload_n 0) 1 65 := ⟨by decide +kernel, rfl⟩
theorem d_Sb_turnAbout_65 : dd m_Sb_turnAbout 65 (.getfield 9) 3 68 := ⟨by decide +kernel, rfl⟩
theorem d_Sb_turnAbout_68 : dd m_Sb_turnAbout 68 (.invokestatic 46) 3 71 := ⟨by decide +kernel, rfl⟩
theorem d_Sb_turnAbout_71 : dd m_Sb_turnAbout 71 (.iconst 1) 1 72 := ⟨by decide +kernel, rfl⟩
theorem d_Sb_turnAbout_72 : decode (mbt m_Sb_turnAbout) 72 = .ok (.ireturn, 1) := by decide +kernel
theorem d_Sb_turnAbout_73 : dd m_Sb_turnAbout 73 (.aload_n 0) 1 74 := ⟨by decide +kernel, rfl⟩
theorem d_Sb_turnAbout_74 : dd m_Sb_turnAbout 74 (.aload_n 1) 1 75 := ⟨by decide +kernel, rfl⟩
theorem d_Sb_turnAbout_75 : dd m_Sb_turnAbout 75 (.iload_n 3) 1 76 := ⟨by decide +kernel, rfl⟩
theorem d_Sb_turnAbout_76 : dd m_Sb_turnAbout 76 (.invokevirtual 50) 3 79 := ⟨by decide +kernel, rfl⟩
theorem d_Sb_turnAbout_79 : dd m_Sb_turnAbout 79 (.iconst 1) 1 80 := ⟨by decide +kernel, rfl⟩
theorem d_Sb_turnAbout_80 : decode (mbt m_Sb_turnAbout) 80 = .ok (.ireturn, 1) := by decide +kernel
theorem d_Sb_turnAbout_81 : dd m_Sb_turnAbout 81 (.aload_n 0) 1 82 := ⟨by decide +kernel, rfl⟩
theorem d_Sb_turnAbout_82 : dd m_Sb_turnAbout 82 (.aload_n 1) 1 83 := ⟨by decide +kernel, rfl⟩
theorem d_Sb_turnAbout_83 : dd m_Sb_turnAbout 83 (.iload_n 3) 1 84 := ⟨by decide +kernel, rfl⟩
theorem d_Sb_turnAbout_84 : dd m_Sb_turnAbout 84 (.invokevirtual 54) 3 87 := ⟨by decide +kernel, rfl⟩
theorem d_Sb_turnAbout_87 : dd m_Sb_turnAbout 87 (.iconst 1) 1 88 := ⟨by decide +kernel, rfl⟩
theorem d_Sb_turnAbout_88 : decode (mbt m_Sb_turnAbout) 88 = .ok (.ireturn, 1) := by decide +kernel
theorem d_Sb_turnAbout_89 : dd m_Sb_turnAbout 89 (.aload_n 1) 1 90 := ⟨by decide +kernel, rfl⟩
theorem d_Sb_turnAbout_90 : dd m_Sb_turnAbout 90 (.invokestatic 57) 3 93 := ⟨by decide +kernel, rfl⟩
theorem d_Sb_turnAbout_93 : db m_Sb_turnAbout 93 (.ifCond .ne) 96 98 := ⟨5, by decide +kernel, rfl, rfl⟩
theorem d_Sb_turnAbout_96 : dd m_Sb_turnAbout 96 (.iconst 0) 1 97 := ⟨by decide +kernel, rfl⟩
theorem d_Sb_turnAbout_97 : decode (mbt m_Sb_turnAbout) 97 = .ok (.ireturn, 1) := by decide +kernel
theorem d_Sb_turnAbout_98 : dd m_Sb_turnAbout 98 (.aload_n 0) 1 99 := ⟨by decide +kernel, rfl⟩
theorem d_Sb_turnAbout_99 : dd m_Sb_turnAbout 99 (.aload_n 1) 1 100 := ⟨by decide +kernel, rfl⟩
theorem d_Sb_turnAbout_100 : dd m_Sb_turnAbout 100 (.iload_n 3) 1 101 := ⟨by decide +kernel, rfl⟩
theorem d_Sb_turnAbout_101 : dd m_Sb_turnAbout 101 (.aload_n 0) 1 102 := ⟨by decide +kernel, rfl⟩
theorem d_Sb_turnAbout_102 : dd m_Sb_turnAbout 102 (.getfield 9) 3 105 := ⟨by decide +kernel, rfl⟩
theorem d_Sb_turnAbout_105 : dd m_Sb_turnAbout 105 (.invokevirtual 61) 3 108 := ⟨by decide +kernel, rfl⟩
theorem d_Sb_turnAbout_108 : dd m_Sb_turnAbout 108 (.iconst 1) 1 109 := ⟨by decide +kernel, rfl⟩
theorem d_Sb_turnAbout_109 : decode (mbt m_Sb_turnAbout) 109 = .ok (.ireturn, 1) := by decide +kernel
theorem d_Sb_turnAbout_110 : dd m_Sb_turnAbout 110 (.aload_n 1) 1 111 := ⟨by decide +kernel, rfl⟩
theorem d_Sb_turnAbout_111 : dd m_Sb_turnAbout 111 (.iconst 0) 1 112 := ⟨by decide +kernel, rfl⟩
theorem d_Sb_turnAbout_112 : dd m_Sb_turnAbout 112 .iaload 1 113 := ⟨by decide +kernel, rfl⟩
theorem d_Sb_turnAbout_113 : db m_Sb_turnAbout 113 (.ifCond .ne) 116 118 := ⟨5, by decide +kernel, rfl, rfl⟩
theorem d_Sb_turnAbout_116 : dd m_Sb_turnAbout 116 (.iconst 0) 1 117 := ⟨by decide +kernel, rfl⟩
theorem d_Sb_turnAbout_117 : decode (mbt m_Sb_turnAbout) 117 = .ok (.ireturn, 1) := by decide +kernel
theorem d_Sb_turnAbout_118 : dd m_Sb_turnAbout 118 (.aload_n 0) 1 119 := ⟨by decide +kernel, rfl⟩
theorem d_Sb_turnAbout_119 : dd m_Sb_turnAbout 119 (.getfield 9) 3 122 := ⟨by decide +kernel, rfl⟩
theorem d_Sb_turnAbout_122 : dd m_Sb_turnAbout 122 (.iconst 1) 1 123 := ⟨by decide +kernel, rfl⟩
theorem d_Sb_turnAbout_123 : dd m_Sb_turnAbout 123 (.invokestatic 64) 3 126 := ⟨by decide +kernel, rfl⟩
theorem d_Sb_turnAbout_126 : dd m_Sb_turnAbout 126 (.aload_n 0) 1 127 := ⟨by decide +kernel, rfl⟩
theorem d_Sb_turnAbout_127 : dd m_Sb_turnAbout 127 (.getfield 9) 3 130 := ⟨by decide +kernel, rfl⟩
theorem d_Sb_turnAbout_130 : dd m_Sb_turnAbout 130 (.aload_n 1) 1 131 := ⟨by decide +kernel, rfl⟩
theorem d_Sb_turnAbout_131 : dd m_Sb_turnAbout 131 (.iload_n 3) 1 132 := ⟨by decide +kernel, rfl⟩
theorem d_Sb_turnAbout_132 : dd m_Sb_turnAbout 132 (.invokestatic 39) 3 135 := ⟨by decide +kernel, rfl⟩
theorem d_Sb_turnAbout_135 : dd m_Sb_turnAbout 135 (.iconst 1) 1 136 := ⟨by decide +kernel, rfl⟩
theorem d_Sb_turnAbout_136 : decode (mbt m_Sb_turnAbout) 136 = .ok (.ireturn, 1) := by decide +kernel
theorem d_Sb_turnAbout_137 : dd m_Sb_turnAbout 137 (.iconst 0) 1 138 := ⟨by decide +kernel, rfl⟩
theorem d_Sb_turnAbout_138 : decode (mbt m_Sb_turnAbout) 138 = .ok (.ireturn, 1) := by decide +kernel
theorem d_Rw_oneAhead_0 : dd m_Rw_oneAhead 0 (.iconst 0) 1 1 := ⟨by decide +kernel, rfl⟩
theorem d_Rw_oneAhead_1 : dd m_Rw_oneAhead 1 (.istore_n 3) 1 2 := ⟨by decide +kernel, rfl⟩
theorem d_Rw_oneAhead_2 : dd m_Rw_oneAhead 2 (.iload_n 3) 1 3 := ⟨by decide +kernel, rfl⟩
theorem d_Rw_oneAhead_3 : dd m_Rw_oneAhead 3 (.iload_n 1) 1 4 := ⟨by decide +kernel, rfl⟩
theorem d_Rw_oneAhead_4 : dd m_Rw_oneAhead 4 (.iconst 1) 1 5 := ⟨by decide +kernel, rfl⟩
theorem d_Rw_oneAhead_5 : dd m_Rw_oneAhead 5 .isub 1 6 := ⟨by decide +kernel, rfl⟩
theorem d_Rw_oneAhead_6 : db m_Rw_oneAhead 6 (.if_icmp .ge) 9 23 := ⟨17, by decide +kernel, rfl, rfl⟩
theorem d_Rw_oneAhead_9 : dd m_Rw_oneAhead 9 (.aload_n 2) 1 10 := ⟨by decide +kernel, rfl⟩
theorem d_Rw_oneAhead_10 : dd m_Rw_oneAhead 10 (.iload_n 3) 1 11 := ⟨by decide +kernel, rfl⟩
theorem d_Rw_oneAhead_11 : dd m_Rw_oneAhead 11 (.aload_n 0) 1 12 := ⟨by decide +kernel, rfl⟩
theorem d_Rw_oneAhead_12 : dd m_Rw_oneAhead 12 (.iload_n 3) 1 13 := ⟨by decide +kernel, rfl⟩
theorem d_Rw_oneAhead_13 : dd m_Rw_oneAhead 13 (.iconst 1) 1 14 := ⟨by decide +kernel, rfl⟩
theorem d_Rw_oneAhead_14 : dd m_Rw_oneAhead 14 .iadd 1 15 := ⟨by decide +kernel, rfl⟩
theorem d_Rw_oneAhead_15 : dd m_Rw_oneAhead 15 .iaload 1 16 := ⟨by decide +kernel, rfl⟩
theorem d_Rw_oneAhead_16 : dd m_Rw_oneAhead 16 .iastore 1 17 := ⟨by decide +kernel, rfl⟩
theorem d_Rw_oneAhead_17 : dd m_Rw_oneAhead 17 (.iinc 3 1) 3 20 := ⟨by decide +kernel, rfl⟩
theorem d_Rw_oneAhead_20 : db m_Rw_oneAhead 20 .goto 23 2 := ⟨(-18), by decide +kernel, rfl, rfl⟩
theorem d_Rw_oneAhead_23 : dd m_Rw_oneAhead 23 (.aload_n 2) 1 24 := ⟨by decide +kernel, rfl⟩
theorem d_Rw_oneAhead_24 : dd m_Rw_oneAhead 24 (.iload_n 1) 1 25 := ⟨by decide +kernel, rfl⟩
theorem d_Rw_oneAhead_25 : dd m_Rw_oneAhead 25 (.iconst 1) 1 26 := ⟨by decide +kernel, rfl⟩
theorem d_Rw_oneAhead_26 : dd m_Rw_oneAhead 26 .isub 1 27 := ⟨by decide +kernel, rfl⟩
theorem d_Rw_oneAhead_27 : dd m_Rw_oneAhead 27 (.iconst 0) 1 28 := ⟨by decide +kernel, rfl⟩
theorem d_Rw_oneAhead_28 : dd m_Rw_oneAhead 28 .iastore 1 29 := ⟨by decide +kernel, rfl⟩
theorem d_Rw_oneAhead_29 : decode (mbt m_Rw_oneAhead) 29 = .ok (.return_, 1) := by decide +kernel
theorem d_Sb_differentiate_0 : dd m_Sb_differentiate 0 (.iconst 1) 1 1 := ⟨by decide +kernel, rfl⟩
theorem d_Sb_differentiate_1 : dd m_Sb_differentiate 1 (.istore_n 3) 1 2 := ⟨by decide +kernel, rfl⟩
theorem d_Sb_differentiate_2 : dd m_Sb_differentiate 2 (.iload_n 3) 1 3 := ⟨by decide +kernel, rfl⟩
theorem d_Sb_differentiate_3 : dd m_Sb_differentiate 3 (.iload_n 2) 1 4 := ⟨by decide +kernel, rfl⟩
theorem d_Sb_differentiate_4 : db m_Sb_differentiate 4 (.if_icmp .ge) 7 28 := ⟨24, by decide +kernel, rfl, rfl⟩
theorem d_Sb_differentiate_7 : dd m_Sb_differentiate 7 (.aload_n 0) 1 8 := ⟨by decide +kernel, rfl⟩
theorem d_Sb_differentiate_8 : dd m_Sb_differentiate 8 (.getfield 9) 3 11 := ⟨by decide +kernel, rfl⟩
theorem d_Sb_differentiate_11 : dd m_Sb_differentiate 11 (.iload_n 3) 1 12 := ⟨by decide +kernel, rfl⟩
theorem d_Sb_differentiate_12 : dd m_Sb_differentiate 12 (.iconst 1) 1 13 := ⟨by decide +kernel, rfl⟩
theorem d_Sb_differentiate_13 : dd m_Sb_differentiate 13 .isub 1 14 := ⟨by decide +kernel, rfl⟩
theorem d_Sb_differentiate_14 : dd m_Sb_differentiate 14 (.aload_n 1) 1 15 := ⟨by decide +kernel, rfl⟩
theorem d_Sb_differentiate_15 : dd m_Sb_differentiate 15 (.iload_n 3) 1 16 := ⟨by decide +kernel, rfl⟩
theorem d_Sb_differentiate_16 : dd m_Sb_differentiate 16 .iaload 1 17 := ⟨by decide +kernel, rfl⟩
theorem d_Sb_differentiate_17 : dd m_Sb_differentiate 17 (.iload_n 3) 1 18 := ⟨by decide +kernel, rfl⟩
theorem d_Sb_differentiate_18 : dd m_Sb_differentiate 18 (.invokestatic 67) 3 21 := ⟨by decide +kernel, rfl⟩
theorem d_Sb_differentiate_21 : dd m_Sb_differentiate 21 .iastore 1 22 := ⟨by decide +kernel, rfl⟩
theorem d_Sb_differentiate_22 : dd m_Sb_differentiate 22 (.iinc 3 1) 3 25 := ⟨by decide +kernel, rfl⟩
theorem d_Sb_differentiate_25 : db m_Sb_differentiate 25 .goto 28 2 := ⟨(-23), by decide +kernel, rfl, rfl⟩
theorem d_Sb_differentiate_28 : dd m_Sb_differentiate 28 (.aload_n 0) 1 29 := ⟨by decide +kernel, rfl⟩
theorem d_Sb_differentiate_29 : dd m_Sb_differentiate 29 (.getfield 9) 3 32 := ⟨by decide +kernel, rfl⟩
theorem d_Sb_differentiate_32 : dd m_Sb_differentiate 32 (.iload_n 2) 1 33 := ⟨by decide +kernel, rfl⟩
theorem d_Sb_differentiate_33 : dd m_Sb_differentiate 33 (.iconst 1) 1 34 := ⟨by decide +kernel, rfl⟩
theorem d_Sb_differentiate_34 : dd m_Sb_differentiate 34 .isub 1 35 := ⟨by decide +kernel, rfl⟩
theorem d_Sb_differentiate_35 : dd m_Sb_differentiate 35 (.iconst 0) 1 36 := ⟨by decide +kernel, rfl⟩
theorem d_Sb_differentiate_36 : dd m_Sb_differentiate 36 .iastore 1 37 := ⟨by decide +kernel, rfl⟩
theorem d_Sb_differentiate_37 : decode (mbt m_Sb_differentiate) 37 = .ok (.return_, 1) := by decide +kernel
theorem d_Sb_integrate_0 : dd m_Sb_integrate 0 (.aload_n 0) 1 1 := ⟨by decide +kernel, rfl⟩
theorem d_Sb_integrate_1 : dd m_Sb_integrate 1 (.getfield 9) 3 4 := ⟨by decide +kernel, rfl⟩
theorem d_Sb_integrate_4 : dd m_Sb_integrate 4 (.iconst 0) 1 5 := ⟨by decide +kernel, rfl⟩
theorem d_Sb_integrate_5 : dd m_Sb_integrate 5 (.iconst 0) 1 6 := ⟨by decide +kernel, rfl⟩
theorem d_Sb_integrate_6 : dd m_Sb_integrate 6 .iastore 1 7 := ⟨by decide +kernel, rfl⟩
theorem d_Sb_integrate_7 : dd m_Sb_integrate 7 (.iconst 1) 1 8 := ⟨by decide +kernel, rfl⟩
theorem d_Sb_integrate_8 : dd m_Sb_integrate 8 (.istore_n 3) 1 9 := ⟨by decide +kernel, rfl⟩
theorem d_Sb_integrate_9 : dd m_Sb_integrate 9 (.iload_n 3) 1 10 := ⟨by decide +kernel, rfl⟩
theorem d_Sb_integrate_10 : dd m_Sb_integrate 10 (.iload_n 2) 1 11 := ⟨by decide +kernel, rfl⟩
theorem d_Sb_integrate_11 : db m_Sb_integrate 11 (.if_icmp .ge) 14 38 := ⟨27, by decide +kernel, rfl, rfl⟩
theorem d_Sb_integrate_14 : dd m_Sb_integrate 14 (.aload_n 0) 1 15 := ⟨by decide +kernel, rfl⟩
theorem d_Sb_integrate_15 : dd m_Sb_integrate 15 (.getfield 9) 3 18 := ⟨by decide +kernel, rfl⟩
theorem d_Sb_integrate_18 : dd m_Sb_integrate 18 (.iload_n 3) 1 19 := ⟨by decide +kernel, rfl⟩
theorem d_Sb_integrate_19 : dd m_Sb_integrate 19 (.aload_n 1) 1 20 := ⟨by decide +kernel, rfl⟩
theorem d_Sb_integrate_20 : dd m_Sb_integrate 20 (.iload_n 3) 1 21 := ⟨by decide +kernel, rfl⟩
theorem d_Sb_integrate_21 : dd m_Sb_integrate 21 (.iconst 1) 1 22 := ⟨by decide +kernel, rfl⟩
theorem d_Sb_integrate_22 : dd m_Sb_integrate 22 .isub 1 23 := ⟨by decide +kernel, rfl⟩
theorem d_Sb_integrate_23 : dd m_Sb_integrate 23 .iaload 1 24 := ⟨by decide +kernel, rfl⟩
theorem d_Sb_integrate_24 : dd m_Sb_integrate 24 (.iload_n 3) 1 25 := ⟨by decide +kernel, rfl⟩
theorem d_Sb_integrate_25 : dd m_Sb_integrate 25 (.invokestatic 71) 3 28 := ⟨by decide +kernel, rfl⟩
theorem d_Sb_integrate_28 : dd m_Sb_integrate 28 (.invokestatic 67) 3 31 := ⟨by decide +kernel, rfl⟩
theorem d_Sb_integrate_31 : dd m_Sb_integrate 31 .iastore 1 32 := ⟨by decide +kernel, rfl⟩
theorem d_Sb_integrate_32 : dd m_Sb_integrate 32 (.iinc 3 1) 3 35 := ⟨by decide +kernel, rfl⟩
theorem d_Sb_integrate_35 : db m_Sb_integrate 35 .goto 38 9 := ⟨(-26), by decide +kernel, rfl, rfl⟩
theorem d_Sb_integrate_38 : decode (mbt m_Sb_integrate) 38 = .ok (.return_, 1) := by decide +kernel
theorem d_Sb_reverse_0 : dd m_Sb_reverse 0 (.aload_n 1) 1 1 := ⟨by decide +kernel, rfl⟩
theorem d_Sb_reverse_1 : dd m_Sb_reverse 1 (.iload_n 2) 1 2 := ⟨by decide +kernel, rfl⟩
theorem d_Sb_reverse_2 : dd m_Sb_reverse 2 (.aload_n 0) 1 3 := ⟨by decide +kernel, rfl⟩
theorem d_Sb_reverse_3 : dd m_Sb_reverse 3 (.getfield 15) 3 6 := ⟨by decide +kernel, rfl⟩
theorem d_Sb_reverse_6 : dd m_Sb_reverse 6 (.invokestatic 46) 3 9 := ⟨by decide +kernel, rfl⟩
theorem d_Sb_reverse_9 : dd m_Sb_reverse 9 (.aload_n 0) 1 10 := ⟨by decide +kernel, rfl⟩
theorem d_Sb_reverse_10 : dd m_Sb_reverse 10 (.getfield 18) 3 13 := ⟨by decide +kernel, rfl⟩
theorem d_Sb_reverse_13 : dd m_Sb_reverse 13 (.iconst 1) 1 14 := ⟨by decide +kernel, rfl⟩
theorem d_Sb_reverse_14 : dd m_Sb_reverse 14 (.invokestatic 64) 3 17 := ⟨by decide +kernel, rfl⟩
theorem d_Sb_reverse_17 : dd m_Sb_reverse 17 (.aload_n 0) 1 18 := ⟨by decide +kernel, rfl⟩
theorem d_Sb_reverse_18 : dd m_Sb_reverse 18 (.getfield 18) 3 21 := ⟨by decide +kernel, rfl⟩
theorem d_Sb_reverse_21 : dd m_Sb_reverse 21 (.aload_n 0) 1 22 := ⟨by decide +kernel, rfl⟩
theorem d_Sb_reverse_22 : dd m_Sb_reverse 22 (.getfield 15) 3 25 := ⟨by decide +kernel, rfl⟩
theorem d_Sb_reverse_25 : dd m_Sb_reverse 25 (.iload_n 2) 1 26 := ⟨by decide +kernel, rfl⟩
theorem d_Sb_reverse_26 : dd m_Sb_reverse 26 (.invokestatic 39) 3 29 := ⟨by decide +kernel, rfl⟩
theorem d_Sb_reverse_29 : dd m_Sb_reverse 29 (.aload_n 0) 1 30 := ⟨by decide +kernel, rfl⟩
theorem d_Sb_reverse_30 : dd m_Sb_reverse 30 (.getfield 18) 3 33 := ⟨by decide +kernel, rfl⟩
theorem d_Sb_reverse_33 : dd m_Sb_reverse 33 (.iconst 0) 1 34 := ⟨by decide +kernel, rfl⟩
theorem d_Sb_reverse_34 : dd m_Sb_reverse 34 (.aload_n 0) 1 35 := ⟨by decide +kernel, rfl⟩
theorem d_Sb_reverse_35 : dd m_Sb_reverse 35 (.getfield 15) 3 38 := ⟨by decide +kernel, rfl⟩
theorem d_Sb_reverse_38 : dd m_Sb_reverse 38 (.iconst 0) 1 39 := ⟨by decide +kernel, rfl⟩
theorem d_Sb_reverse_39 : dd m_Sb_reverse 39 (.iload_n 2) 1 40 := ⟨by decide +kernel, rfl⟩
theorem d_Sb_reverse_40 : dd m_Sb_reverse 40 (.invokestatic 21) 3 43 := ⟨by decide +kernel, rfl⟩
theorem d_Sb_reverse_43 : dd m_Sb_reverse 43 (.aload_n 3) 1 44 := ⟨by decide +kernel, rfl⟩
theorem d_Sb_reverse_44 : dd m_Sb_reverse 44 (.iconst 0) 1 45 := ⟨by decide +kernel, rfl⟩
theorem d_Sb_reverse_45 : dd m_Sb_reverse 45 (.iconst 0) 1 46 := ⟨by decide +kernel, rfl⟩
theorem d_Sb_reverse_46 : dd m_Sb_reverse 46 .iastore 1 47 := ⟨by decide +kernel, rfl⟩
theorem d_Sb_reverse_47 : dd m_Sb_reverse 47 (.iconst 1) 1 48 := ⟨by decide +kernel, rfl⟩
theorem d_Sb_reverse_48 : dd m_Sb_reverse 48 (.istore 4) 2 50 := ⟨by decide +kernel, rfl⟩
theorem d_Sb_reverse_50 : dd m_Sb_reverse 50 (.iload 4) 2 52 := ⟨by decide +kernel, rfl⟩
theorem d_Sb_reverse_52 : dd m_Sb_reverse 52 (.iload_n 2) 1 53 := ⟨by decide +kernel, rfl⟩
theorem d_Sb_reverse_53 : db m_Sb_reverse 53 (.if_icmp .ge) 56 95 := ⟨42, by decide +kernel, rfl, rfl⟩
theorem d_Sb_reverse_56 : dd m_Sb_reverse 56 (.aload_n 3) 1 57 := ⟨by decide +kernel, rfl⟩
theorem d_Sb_reverse_57 : dd m_Sb_reverse 57 (.iload 4) 2 59 := ⟨by decide +kernel, rfl⟩
theorem d_Sb_reverse_59 : dd m_Sb_reverse 59 (.aload_n 0) 1 60 := ⟨by decide +kernel, rfl⟩
theorem d_Sb_reverse_60 : dd m_Sb_reverse 60 (.getfield 15) 3 63 := ⟨by decide +kernel, rfl⟩
theorem d_Sb_reverse_63 : dd m_Sb_reverse 63 (.iload 4) 2 65 := ⟨by decide +kernel, rfl⟩
theorem d_Sb_reverse_65 : dd m_Sb_reverse 65 (.iconst 1) 1 66 := ⟨by decide +kernel, rfl⟩
theorem d_Sb_reverse_66 : dd m_Sb_reverse 66 .isub 1 67 := ⟨by decide +kernel, rfl⟩
theorem d_Sb_reverse_67 : dd m_Sb_reverse 67 .iaload 1 68 := ⟨by decide +kernel, rfl⟩
theorem d_Sb_reverse_68 : dd m_Sb_reverse 68 (.iload 4) 2 70 := ⟨by decide +kernel, rfl⟩
theorem d_Sb_reverse_70 : dd m_Sb_reverse 70 (.invokestatic 71) 3 73 := ⟨by decide +kernel, rfl⟩
theorem d_Sb_reverse_73 : dd m_Sb_reverse 73 (.invokestatic 67) 3 76 := ⟨by decide +kernel, rfl⟩
theorem d_Sb_reverse_76 : dd m_Sb_reverse 76 .iastore 1 77 := ⟨by decide +kernel, rfl⟩
theorem d_Sb_reverse_77 : dd m_Sb_reverse 77 (.aload_n 0) 1 78 := ⟨by decide +kernel, rfl⟩
theorem d_Sb_reverse_78 : dd m_Sb_reverse 78 (.getfield 15) 3 81 := ⟨by decide +kernel, rfl⟩
theorem d_Sb_reverse_81 : dd m_Sb_reverse 81 (.aload_n 0) 1 82 := ⟨by decide +kernel, rfl⟩
theorem d_Sb_reverse_82 : dd m_Sb_reverse 82 (.getfield 18) 3 85 := ⟨by decide +kernel, rfl⟩
theorem d_Sb_reverse_85 : dd m_Sb_reverse 85 (.iload_n 2) 1 86 := ⟨by decide +kernel, rfl⟩
theorem d_Sb_reverse_86 : dd m_Sb_reverse 86 (.invokestatic 36) 3 89 := ⟨by decide +kernel, rfl⟩
theorem d_Sb_reverse_89 : dd m_Sb_reverse 89 (.iinc 4 1) 3 92 := ⟨by decide +kernel, rfl⟩
theorem d_Sb_reverse_92 : db m_Sb_reverse 92 .goto 95 50 := ⟨(-42), by decide +kernel, rfl, rfl⟩
theorem d_Sb_reverse_95 : decode (mbt m_Sb_reverse) 95 = .ok (.return_, 1) := by decide +kernel
theorem d_Sb_raiseTo_0 : dd m_Sb_raiseTo 0 (.aload_n 0) 1 1 := ⟨by decide +kernel, rfl⟩
theorem d_Sb_raiseTo_1 : dd m_Sb_raiseTo 1 (.getfield 9) 3 4 := ⟨by decide +kernel, rfl⟩
theorem d_Sb_raiseTo_4 : dd m_Sb_raiseTo 4 (.iconst 1) 1 5 := ⟨by decide +kernel, rfl⟩
theorem d_Sb_raiseTo_5 : dd m_Sb_raiseTo 5 (.invokestatic 64) 3 8 := ⟨by decide +kernel, rfl⟩
theorem d_Sb_raiseTo_8 : dd m_Sb_raiseTo 8 (.bipush 6) 2 10 := ⟨by decide +kernel, rfl⟩
theorem d_Sb_raiseTo_10 : dd m_Sb_raiseTo 10 (.istore 4) 2 12 := ⟨by decide +kernel, rfl⟩
theorem d_Sb_raiseTo_12 : dd m_Sb_raiseTo 12 (.iload 4) 2 14 := ⟨by decide +kernel, rfl⟩
theorem d_Sb_raiseTo_14 : db m_Sb_raiseTo 14 (.ifCond .lt) 17 68 := ⟨54, by decide +kernel, rfl, rfl⟩
theorem d_Sb_raiseTo_17 : dd m_Sb_raiseTo 17 (.aload_n 0) 1 18 := ⟨by decide +kernel, rfl⟩
theorem d_Sb_raiseTo_18 : dd m_Sb_raiseTo 18 (.getfield 9) 3 21 := ⟨by decide +kernel, rfl⟩
theorem d_Sb_raiseTo_21 : dd m_Sb_raiseTo 21 (.iconst 0) 1 22 := ⟨by decide +kernel, rfl⟩
theorem d_Sb_raiseTo_22 : dd m_Sb_raiseTo 22 (.aload_n 0) 1 23 := ⟨by decide +kernel, rfl⟩
theorem d_Sb_raiseTo_23 : dd m_Sb_raiseTo 23 (.getfield 15) 3 26 := ⟨by decide +kernel, rfl⟩
theorem d_Sb_raiseTo_26 : dd m_Sb_raiseTo 26 (.iconst 0) 1 27 := ⟨by decide +kernel, rfl⟩
theorem d_Sb_raiseTo_27 : dd m_Sb_raiseTo 27 (.bipush 10) 2 29 := ⟨by decide +kernel, rfl⟩
theorem d_Sb_raiseTo_29 : dd m_Sb_raiseTo 29 (.invokestatic 21) 3 32 := ⟨by decide +kernel, rfl⟩
theorem d_Sb_raiseTo_32 : dd m_Sb_raiseTo 32 (.aload_n 0) 1 33 := ⟨by decide +kernel, rfl⟩
theorem d_Sb_raiseTo_33 : dd m_Sb_raiseTo 33 (.getfield 9) 3 36 := ⟨by decide +kernel, rfl⟩
theorem d_Sb_raiseTo_36 : dd m_Sb_raiseTo 36 (.aload_n 0) 1 37 := ⟨by decide +kernel, rfl⟩
theorem d_Sb_raiseTo_37 : dd m_Sb_raiseTo 37 (.getfield 15) 3 40 := ⟨by decide +kernel, rfl⟩
theorem d_Sb_raiseTo_40 : dd m_Sb_raiseTo 40 (.iload_n 3) 1 41 := ⟨by decide +kernel, rfl⟩
theorem d_Sb_raiseTo_41 : dd m_Sb_raiseTo 41 (.invokestatic 36) 3 44 := ⟨by decide +kernel, rfl⟩
theorem d_Sb_raiseTo_44 : dd m_Sb_raiseTo 44 (.iload_n 2) 1 45 := ⟨by decide +kernel, rfl⟩
theorem d_Sb_raiseTo_45 : dd m_Sb_raiseTo 45 (.iload 4) 2 47 := ⟨by decide +kernel, rfl⟩
theorem d_Sb_raiseTo_47 : dd m_Sb_raiseTo 47 .ishr 1 48 := ⟨by decide +kernel, rfl⟩
theorem d_Sb_raiseTo_48 : dd m_Sb_raiseTo 48 (.iconst 1) 1 49 := ⟨by decide +kernel, rfl⟩
theorem d_Sb_raiseTo_49 : dd m_Sb_raiseTo 49 .iand 1 50 := ⟨by decide +kernel, rfl⟩
theorem d_Sb_raiseTo_50 : db m_Sb_raiseTo 50 (.ifCond .eq) 53 62 := ⟨12, by decide +kernel, rfl, rfl⟩
theorem d_Sb_raiseTo_53 : dd m_Sb_raiseTo 53 (.aload_n 0) 1 54 := ⟨by decide +kernel, rfl⟩
theorem d_Sb_raiseTo_54 : dd m_Sb_raiseTo 54 (.getfield 9) 3 57 := ⟨by decide +kernel, rfl⟩
theorem d_Sb_raiseTo_57 : dd m_Sb_raiseTo 57 (.aload_n 1) 1 58 := ⟨by decide +kernel, rfl⟩
theorem d_Sb_raiseTo_58 : dd m_Sb_raiseTo 58 (.iload_n 3) 1 59 := ⟨by decide +kernel, rfl⟩
theorem d_Sb_raiseTo_59 : dd m_Sb_raiseTo 59 (.invokestatic 36) 3 62 := ⟨by decide +kernel, rfl⟩
theorem d_Sb_raiseTo_62 : dd m_Sb_raiseTo 62 (.iinc 4 (-1)) 3 65 := ⟨by decide +kernel, rfl⟩
theorem d_Sb_raiseTo_65 : db m_Sb_raiseTo 65 .goto 68 12 := ⟨(-53), by decide +kernel, rfl, rfl⟩
theorem d_Sb_raiseTo_68 : decode (mbt m_Sb_raiseTo) 68 = .ok (.return_, 1) := by decide +kernel
theorem d_Ma_abs_0 : dd m_Ma_abs 0 (.iload_n 0) 1 1 := ⟨by decide +kernel, rfl⟩
theorem d_Ma_abs_1 : db m_Ma_abs 1 (.ifCond .ge) 4 9 := ⟨8, by decide +kernel, rfl, rfl⟩
theorem d_Ma_abs_4 : dd m_Ma_abs 4 (.iload_n 0) 1 5 := ⟨by decide +kernel, rfl⟩
theorem d_Ma_abs_5 : dd m_Ma_abs 5 .ineg 1 6 := ⟨by decide +kernel, rfl⟩
theorem d_Ma_abs_6 : db m_Ma_abs 6 .goto 9 10 := ⟨4, by decide +kernel, rfl, rfl⟩
theorem d_Ma_abs_9 : dd m_Ma_abs 9 (.iload_n 0) 1 10 := ⟨by decide +kernel, rfl⟩
theorem d_Ma_abs_10 : decode (mbt m_Ma_abs) 10 = .ok (.ireturn, 1) := by decide +kernel
theorem d_Rw_isT_0 : dd m_Rw_isT 0 (.aload_n 0) 1 1 := ⟨by decide +kernel, rfl⟩
theorem d_Rw_isT_1 : dd m_Rw_isT 1 (.iconst 0) 1 2 := ⟨by decide +kernel, rfl⟩
theorem d_Rw_isT_2 : dd m_Rw_isT 2 .iaload 1 3 := ⟨by decide +kernel, rfl⟩
theorem d_Rw_isT_3 : db m_Rw_isT 3 (.ifCond .ne) 6 26 := ⟨23, by decide +kernel, rfl, rfl⟩
theorem d_Rw_isT_6 : dd m_Rw_isT 6 (.aload_n 0) 1 7 := ⟨by decide +kernel, rfl⟩
theorem d_Rw_isT_7 : dd m_Rw_isT 7 (.iconst 1) 1 8 := ⟨by decide +kernel, rfl⟩
theorem d_Rw_isT_8 : dd m_Rw_isT 8 .iaload 1 9 := ⟨by decide +kernel, rfl⟩
theorem d_Rw_isT_9 : dd m_Rw_isT 9 (.iconst 1) 1 10 := ⟨by decide +kernel, rfl⟩
theorem d_Rw_isT_10 : db m_Rw_isT 10 (.if_icmp .ne) 13 26 := ⟨16, by decide +kernel, rfl, rfl⟩
theorem d_Rw_isT_13 : dd m_Rw_isT 13 (.aload_n 0) 1 14 := ⟨by decide +kernel, rfl⟩
theorem d_Rw_isT_14 : dd m_Rw_isT 14 (.iconst 2) 1 15 := ⟨by decide +kernel, rfl⟩
theorem d_Rw_isT_15 : dd m_Rw_isT 15 (.iload_n 1) 1 16 := ⟨by decide +kernel, rfl⟩
theorem d_Rw_isT_16 : dd m_Rw_isT 16 (.invokestatic 40) 3 19 := ⟨by decide +kernel, rfl⟩
theorem d_Rw_isT_19 : db m_Rw_isT 19 (.ifCond .eq) 22 26 := ⟨7, by decide +kernel, rfl, rfl⟩
theorem d_Rw_isT_22 : dd m_Rw_isT 22 (.iconst 1) 1 23 := ⟨by decide +kernel, rfl⟩
theorem d_Rw_isT_23 : db m_Rw_isT 23 .goto 26 27 := ⟨4, by decide +kernel, rfl, rfl⟩
theorem d_Rw_isT_26 : dd m_Rw_isT 26 (.iconst 0) 1 27 := ⟨by decide +kernel, rfl⟩
theorem d_Rw_isT_27 : decode (mbt m_Rw_isT) 27 = .ok (.ireturn, 1) := by decide +kernel
theorem d_Rw_isZeroFrom_0 : dd m_Rw_isZeroFrom 0 (.iload_n 1) 1 1 := ⟨by decide +kernel, rfl⟩
theorem d_Rw_isZeroFrom_1 : dd m_Rw_isZeroFrom 1 (.istore_n 3) 1 2 := ⟨by decide +kernel, rfl⟩
theorem d_Rw_isZeroFrom_2 : dd m_Rw_isZeroFrom 2 (.iload_n 3) 1 3 := ⟨by decide +kernel, rfl⟩
theorem d_Rw_isZeroFrom_3 : dd m_Rw_isZeroFrom 3 (.iload_n 2) 1 4 := ⟨by decide +kernel, rfl⟩
theorem d_Rw_isZeroFrom_4 : db m_Rw_isZeroFrom 4 (.if_icmp .ge) 7 21 := ⟨17, by decide +kernel, rfl, rfl⟩
theorem d_Rw_isZeroFrom_7 : dd m_Rw_isZeroFrom 7 (.aload_n 0) 1 8 := ⟨by decide +kernel, rfl⟩
theorem d_Rw_isZeroFrom_8 : dd m_Rw_isZeroFrom 8 (.iload_n 3) 1 9 := ⟨by decide +kernel, rfl⟩
theorem d_Rw_isZeroFrom_9 : dd m_Rw_isZeroFrom 9 .iaload 1 10 := ⟨by decide +kernel, rfl⟩
theorem d_Rw_isZeroFrom_10 : db m_Rw_isZeroFrom 10 (.ifCond .eq) 13 15 := ⟨5, by decide +kernel, rfl, rfl⟩
theorem d_Rw_isZeroFrom_13 : dd m_Rw_isZeroFrom 13 (.iconst 0) 1 14 := ⟨by decide +kernel, rfl⟩
theorem d_Rw_isZeroFrom_14 : decode (mbt m_Rw_isZeroFrom) 14 = .ok (.ireturn, 1) := by decide +kernel
theorem d_Rw_isZeroFrom_15 : dd m_Rw_isZeroFrom 15 (.iinc 3 1) 3 18 := ⟨by decide +kernel, rfl⟩
theorem d_Rw_isZeroFrom_18 : db m_Rw_isZeroFrom 18 .goto 21 2 := ⟨(-16), by decide +kernel, rfl, rfl⟩
theorem d_Rw_isZeroFrom_21 : dd m_Rw_isZeroFrom 21 (.iconst 1) 1 22 := ⟨by decide +kernel, rfl⟩
theorem d_Rw_isZeroFrom_22 : decode (mbt m_Rw_isZeroFrom) 22 = .ok (.ireturn, 1) := by decide +kernel
theorem d_Rw_isOne_0 : dd m_Rw_isOne 0 (.aload_n 0) 1 1 := ⟨by decide +kernel, rfl⟩
theorem d_Rw_isOne_1 : dd m_Rw_isOne 1 (.iconst 0) 1 2 := ⟨by decide +kernel, rfl⟩
theorem d_Rw_isOne_2 : dd m_Rw_isOne 2 .iaload 1 3 := ⟨by decide +kernel, rfl⟩
theorem d_Rw_isOne_3 : dd m_Rw_isOne 3 (.iconst 1) 1 4 := ⟨by decide +kernel, rfl⟩
theorem d_Rw_isOne_4 : db m_Rw_isOne 4 (.if_icmp .ne) 7 20 := ⟨16, by decide +kernel, rfl, rfl⟩
theorem d_Rw_isOne_7 : dd m_Rw_isOne 7 (.aload_n 0) 1 8 := ⟨by decide +kernel, rfl⟩
theorem d_Rw_isOne_8 : dd m_Rw_isOne 8 (.iconst 1) 1 9 := ⟨by decide +kernel, rfl⟩
theorem d_Rw_isOne_9 : dd m_Rw_isOne 9 (.iload_n 1) 1 10 := ⟨by decide +kernel, rfl⟩
theorem d_Rw_isOne_10 : dd m_Rw_isOne 10 (.invokestatic 40) 3 13 := ⟨by decide +kernel, rfl⟩
theorem d_Rw_isOne_13 : db m_Rw_isOne 13 (.ifCond .eq) 16 20 := ⟨7, by decide +kernel, rfl, rfl⟩
theorem d_Rw_isOne_16 : dd m_Rw_isOne 16 (.iconst 1) 1 17 := ⟨by decide +kernel, rfl⟩
theorem d_Rw_isOne_17 : db m_Rw_isOne 17 .goto 20 21 := ⟨4, by decide +kernel, rfl, rfl⟩
theorem d_Rw_isOne_20 : dd m_Rw_isOne 20 (.iconst 0) 1 21 := ⟨by decide +kernel, rfl⟩
theorem d_Rw_isOne_21 : decode (mbt m_Rw_isOne) 21 = .ok (.ireturn, 1) := by decide +kernel
theorem d_St_sumOfSeries_0 : dd m_St_sumOfSeries 0 (.iconst 0) 1 1 := ⟨by decide +kernel, rfl⟩
theorem d_St_sumOfSeries_1 : dd m_St_sumOfSeries 1 (.istore_n 1) 1 2 := ⟨by decide +kernel, rfl⟩
theorem d_St_sumOfSeries_2 : dd m_St_sumOfSeries 2 (.iconst 0) 1 3 := ⟨by decide +kernel, rfl⟩
theorem d_St_sumOfSeries_3 : dd m_St_sumOfSeries 3 (.istore_n 2) 1 4 := ⟨by decide +kernel, rfl⟩
theorem d_St_sumOfSeries_4 : dd m_St_sumOfSeries 4 (.iload_n 2) 1 5 := ⟨by decide +kernel, rfl⟩
theorem d_St_sumOfSeries_5 : dd m_St_sumOfSeries 5 (.bipush 6) 2 7 := ⟨by decide +kernel, rfl⟩
theorem d_St_sumOfSeries_7 : db m_St_sumOfSeries 7 (.if_icmp .ge) 10 46 := ⟨39, by decide +kernel, rfl, rfl⟩
theorem d_St_sumOfSeries_10 : dd m_St_sumOfSeries 10 (.iconst 0) 1 11 := ⟨by decide +kernel, rfl⟩
theorem d_St_sumOfSeries_11 : dd m_St_sumOfSeries 11 (.istore_n 3) 1 12 := ⟨by decide +kernel, rfl⟩
theorem d_St_sumOfSeries_12 : dd m_St_sumOfSeries 12 (.iload_n 3) 1 13 := ⟨by decide +kernel, rfl⟩
theorem d_St_sumOfSeries_13 : dd m_St_sumOfSeries 13 (.aload_n 0) 1 14 := ⟨by decide +kernel, rfl⟩
theorem d_St_sumOfSeries_14 : dd m_St_sumOfSeries 14 (.getfield 26) 3 17 := ⟨by decide +kernel, rfl⟩
theorem d_St_sumOfSeries_17 : db m_St_sumOfSeries 17 (.if_icmp .ge) 20 40 := ⟨23, by decide +kernel, rfl, rfl⟩
theorem d_St_sumOfSeries_20 : dd m_St_sumOfSeries 20 (.iload_n 1) 1 21 := ⟨by decide +kernel, rfl⟩
theorem d_St_sumOfSeries_21 : dd m_St_sumOfSeries 21 (.aload_n 0) 1 22 := ⟨by decide +kernel, rfl⟩
theorem d_St_sumOfSeries_22 : dd m_St_sumOfSeries 22 (.getfield 11) 3 25 := ⟨by decide +kernel, rfl⟩
theorem d_St_sumOfSeries_25 : dd m_St_sumOfSeries 25 (.iload_n 2) 1 26 := ⟨by decide +kernel, rfl⟩
theorem d_St_sumOfSeries_26 : dd m_St_sumOfSeries 26 .aaload 1 27 := ⟨by decide +kernel, rfl⟩
theorem d_St_sumOfSeries_27 : dd m_St_sumOfSeries 27 (.iload_n 3) 1 28 := ⟨by decide +kernel, rfl⟩
theorem d_St_sumOfSeries_28 : dd m_St_sumOfSeries 28 .iaload 1 29 := ⟨by decide +kernel, rfl⟩
theorem d_St_sumOfSeries_29 : dd m_St_sumOfSeries 29 .iadd 1 30 := ⟨by decide +kernel, rfl⟩
theorem d_St_sumOfSeries_30 : dd m_St_sumOfSeries 30 (.ldc 49) 2 32 := ⟨by decide +kernel, rfl⟩
theorem d_St_sumOfSeries_32 : dd m_St_sumOfSeries 32 .irem 1 33 := ⟨by decide +kernel, rfl⟩
theorem d_St_sumOfSeries_33 : dd m_St_sumOfSeries 33 (.istore_n 1) 1 34 := ⟨by decide +kernel, rfl⟩
theorem d_St_sumOfSeries_34 : dd m_St_sumOfSeries 34 (.iinc 3 1) 3 37 := ⟨by decide +kernel, rfl⟩
theorem d_St_sumOfSeries_37 : db m_St_sumOfSeries 37 .goto 40 12 := ⟨(-25), by decide +kernel, rfl, rfl⟩
theorem d_St_sumOfSeries_40 : dd m_St_sumOfSeries 40 (.iinc 2 1) 3 43 := ⟨by decide +kernel, rfl⟩
theorem d_St_sumOfSeries_43 : db m_St_sumOfSeries 43 .goto 46 4 := ⟨(-39), by decide +kernel, rfl, rfl⟩
theorem d_St_sumOfSeries_46 : dd m_St_sumOfSeries 46 (.iload_n 1) 1 47 := ⟨by decide +kernel, rfl⟩
theorem d_St_sumOfSeries_47 : decode (mbt m_St_sumOfSeries) 47 = .ok (.ireturn, 1) := by decide +kernel
theorem d_Hi_takeBack_0 : dd m_Hi_takeBack 0 (.aload_n 0) 1 1 := ⟨by decide +kernel, rfl⟩
theorem d_Hi_takeBack_1 : dd m_Hi_takeBack 1 (.getfield 26) 3 4 := ⟨by decide +kernel, rfl⟩
theorem d_Hi_takeBack_4 : db m_Hi_takeBack 4 (.ifCond .le) 7 46 := ⟨42, by decide +kernel, rfl, rfl⟩
theorem d_Hi_takeBack_7 : dd m_Hi_takeBack 7 (.aload_n 0) 1 8 := ⟨by decide +kernel, rfl⟩
theorem d_Hi_takeBack_8 : dd m_Hi_takeBack 8 (.aload_n 0) 1 9 := ⟨by decide +kernel, rfl⟩
theorem d_Hi_takeBack_9 : dd m_Hi_takeBack 9 (.getfield 18) 3 12 := ⟨by decide +kernel, rfl⟩
theorem d_Hi_takeBack_12 : dd m_Hi_takeBack 12 (.bipush 8) 2 14 := ⟨by decide +kernel, rfl⟩
theorem d_Hi_takeBack_14 : dd m_Hi_takeBack 14 .iadd 1 15 := ⟨by decide +kernel, rfl⟩
theorem d_Hi_takeBack_15 : dd m_Hi_takeBack 15 (.iconst 1) 1 16 := ⟨by decide +kernel, rfl⟩
theorem d_Hi_takeBack_16 : dd m_Hi_takeBack 16 .isub 1 17 := ⟨by decide +kernel, rfl⟩
theorem d_Hi_takeBack_17 : dd m_Hi_takeBack 17 (.bipush 8) 2 19 := ⟨by decide +kernel, rfl⟩
theorem d_Hi_takeBack_19 : dd m_Hi_takeBack 19 .irem 1 20 := ⟨by decide +kernel, rfl⟩
theorem d_Hi_takeBack_20 : dd m_Hi_takeBack 20 (.putfield 18) 3 23 := ⟨by decide +kernel, rfl⟩
theorem d_Hi_takeBack_23 : dd m_Hi_takeBack 23 (.aload_n 1) 1 24 := ⟨by decide +kernel, rfl⟩
theorem d_Hi_takeBack_24 : dd m_Hi_takeBack 24 (.aload_n 0) 1 25 := ⟨by decide +kernel, rfl⟩
theorem d_Hi_takeBack_25 : dd m_Hi_takeBack 25 (.getfield 11) 3 28 := ⟨by decide +kernel, rfl⟩
theorem d_Hi_takeBack_28 : dd m_Hi_takeBack 28 (.aload_n 0) 1 29 := ⟨by decide +kernel, rfl⟩
theorem d_Hi_takeBack_29 : dd m_Hi_takeBack 29 (.getfield 18) 3 32 := ⟨by decide +kernel, rfl⟩
theorem d_Hi_takeBack_32 : dd m_Hi_takeBack 32 .aaload 1 33 := ⟨by decide +kernel, rfl⟩
theorem d_Hi_takeBack_33 : dd m_Hi_takeBack 33 (.invokevirtual 22) 3 36 := ⟨by decide +kernel, rfl⟩
theorem d_Hi_takeBack_36 : dd m_Hi_takeBack 36 (.aload_n 0) 1 37 := ⟨by decide +kernel, rfl⟩
theorem d_Hi_takeBack_37 : dd m_Hi_takeBack 37 .dup 1 38 := ⟨by decide +kernel, rfl⟩
theorem d_Hi_takeBack_38 : dd m_Hi_takeBack 38 (.getfield 26) 3 41 := ⟨by decide +kernel, rfl⟩
theorem d_Hi_takeBack_41 : dd m_Hi_takeBack 41 (.iconst 1) 1 42 := ⟨by decide +kernel, rfl⟩
theorem d_Hi_takeBack_42 : dd m_Hi_takeBack 42 .isub 1 43 := ⟨by decide +kernel, rfl⟩
theorem d_Hi_takeBack_43 : dd m_Hi_takeBack 43 (.putfield 26) 3 46 := ⟨by decide +kernel, rfl⟩
theorem d_Hi_takeBack_46 : decode (mbt m_Hi_takeBack) 46 = .ok (.return_, 1) := by decide +kernel
end
section
theorem d_Re_init_0 : dd m_Re_init 0 (.aload_n 0) 1 1 := ⟨by decide +kernel, rfl⟩
theorem d_Re_init_1 : dd m_Re_init 1 (.invokespecial 3) 3 4 := ⟨by decide +kernel, rfl⟩
theorem d_Re_init_4 : dd m_Re_init 4 (.aload_n 0) 1 5 := ⟨by decide +kernel, rfl⟩
theorem d_Re_init_5 : dd m_Re_init 5 (.new 9) 3 8 := ⟨by decide +kernel, rfl⟩
theorem d_Re_init_8 : dd m_Re_init 8 .dup 1 9 := ⟨by decide +kernel, rfl⟩
theorem d_Re_init_9 : dd m_Re_init 9 (.invokespecial 11) 3 12 := ⟨by decide +kernel, rfl⟩
theorem d_Re_init_12 : dd m_Re_init 12 (.putfield 12) 3 15 := ⟨by decide +kernel, rfl⟩
theorem d_Re_init_15 : dd m_Re_init 15 (.aload_n 0) 1 16 := ⟨by decide +kernel, rfl⟩
theorem d_Re_init_16 : dd m_Re_init 16 (.new 18) 3 19 := ⟨by decide +kernel, rfl⟩
theorem d_Re_init_19 : dd m_Re_init 19 .dup 1 20 := ⟨by decide +kernel, rfl⟩
theorem d_Re_init_20 : dd m_Re_init 20 (.invokespecial 20) 3 23 := ⟨by decide +kernel, rfl⟩
theorem d_Re_init_23 : dd m_Re_init 23 (.putfield 21) 3 26 := ⟨by decide +kernel, rfl⟩
theorem d_Re_init_26 : dd m_Re_init 26 (.aload_n 0) 1 27 := ⟨by decide +kernel, rfl⟩
theorem d_Re_init_27 : dd m_Re_init 27 (.bipush 10) 2 29 := ⟨by decide +kernel, rfl⟩
theorem d_Re_init_29 : dd m_Re_init 29 (.newarray .int) 2 31 := ⟨by decide +kernel, rfl⟩
theorem d_Re_init_31 : dd m_Re_init 31 (.putfield 25) 3 34 := ⟨by decide +kernel, rfl⟩
theorem d_Re_init_34 : decode (mbt m_Re_init) 34 = .ok (.return_, 1) := by decide +kernel
theorem d_Tb_init_0 : dd m_Tb_init 0 (.aload_n 0) 1 1 := ⟨by decide +kernel, rfl⟩
theorem d_Tb_init_1 : dd m_Tb_init 1 (.invokespecial 3) 3 4 := ⟨by decide +kernel, rfl⟩
theorem d_Tb_init_4 : dd m_Tb_init 4 (.aload_n 0) 1 5 := ⟨by decide +kernel, rfl⟩
theorem d_Tb_init_5 : dd m_Tb_init 5 (.new 9) 3 8 := ⟨by decide +kernel, rfl⟩
theorem d_Tb_init_8 : dd m_Tb_init 8 .dup 1 9 := ⟨by decide +kernel, rfl⟩
theorem d_Tb_init_9 : dd m_Tb_init 9 (.invokespecial 11) 3 12 := ⟨by decide +kernel, rfl⟩
theorem d_Tb_init_12 : dd m_Tb_init 12 (.putfield 12) 3 15 := ⟨by decide +kernel, rfl⟩
theorem d_Tb_init_15 : dd m_Tb_init 15 (.aload_n 0) 1 16 := ⟨by decide +kernel, rfl⟩
theorem d_Tb_init_16 : dd m_Tb_init 16 (.new 9) 3 19 := ⟨by decide +kernel, rfl⟩
theorem d_Tb_init_19 : dd m_Tb_init 19 .dup 1 20 := ⟨by decide +kernel, rfl⟩
theorem d_Tb_init_20 : dd m_Tb_init 20 (.invokespecial 11) 3 23 := ⟨by decide +kernel, rfl⟩
theorem d_Tb_init_23 : dd m_Tb_init 23 (.putfield 18) 3 26 := ⟨by decide +kernel, rfl⟩
theorem d_Tb_init_26 : dd m_Tb_init 26 (.aload_n 0) 1 27 := ⟨by decide +kernel, rfl⟩
theorem d_Tb_init_27 : dd m_Tb_init 27 (.new 9) 3 30 := ⟨by decide +kernel, rfl⟩
theorem d_Tb_init_30 : dd m_Tb_init 30 .dup 1 31 := ⟨by decide +kernel, rfl⟩
theorem d_Tb_init_31 : dd m_Tb_init 31 (.invokespecial 11) 3 34 := ⟨by decide +kernel, rfl⟩
theorem d_Tb_init_34 : dd m_Tb_init 34 (.putfield 21) 3 37 := ⟨by decide +kernel, rfl⟩
theorem d_Tb_init_37 : dd m_Tb_init 37 (.aload_n 0) 1 38 := ⟨by decide +kernel, rfl⟩
theorem d_Tb_init_38 : dd m_Tb_init 38 (.bipush 10) 2 40 := ⟨by decide +kernel, rfl⟩
theorem d_Tb_init_40 : dd m_Tb_init 40 (.newarray .int) 2 42 := ⟨by decide +kernel, rfl⟩
theorem d_Tb_init_42 : dd m_Tb_init 42 (.putfield 24) 3 45 := ⟨by decide +kernel, rfl⟩
theorem d_Tb_init_45 : dd m_Tb_init 45 (.aload_n 0) 1 46 := ⟨by decide +kernel, rfl⟩
theorem d_Tb_init_46 : dd m_Tb_init 46 (.bipush 10) 2 48 := ⟨by decide +kernel, rfl⟩
theorem d_Tb_init_48 : dd m_Tb_init 48 (.newarray .int) 2 50 := ⟨by decide +kernel, rfl⟩
theorem d_Tb_init_50 : dd m_Tb_init 50 (.putfield 28) 3 53 := ⟨by decide +kernel, rfl⟩
theorem d_Tb_init_53 : dd m_Tb_init 53 (.aload_n 0) 1 54 := ⟨by decide +kernel, rfl⟩
theorem d_Tb_init_54 : dd m_Tb_init 54 (.bipush 10) 2 56 := ⟨by decide +kernel, rfl⟩
theorem d_Tb_init_56 : dd m_Tb_init 56 (.newarray .int) 2 58 := ⟨by decide +kernel, rfl⟩
theorem d_Tb_init_58 : dd m_Tb_init 58 (.putfield 31) 3 61 := ⟨by decide +kernel, rfl⟩
theorem d_Tb_init_61 : dd m_Tb_init 61 (.aload_n 0) 1 62 := ⟨by decide +kernel, rfl⟩
theorem d_Tb_init_62 : dd m_Tb_init 62 (.bipush 10) 2 64 := ⟨by decide +kernel, rfl⟩
theorem d_Tb_init_64 : dd m_Tb_init 64 (.bipush 10) 2 66 := ⟨by decide +kernel, rfl⟩
theorem d_Tb_init_66 : dd m_Tb_init 66 (.multianewarray 34 2) 4 70 := ⟨by decide +kernel, rfl⟩
theorem d_Tb_init_70 : dd m_Tb_init 70 (.putfield 36) 3 73 := ⟨by decide +kernel, rfl⟩
theorem d_Tb_init_73 : dd m_Tb_init 73 (.aload_n 0) 1 74 := ⟨by decide +kernel, rfl⟩
theorem d_Tb_init_74 : dd m_Tb_init 74 (.bipush 10) 2 76 := ⟨by decide +kernel, rfl⟩
theorem d_Tb_init_76 : dd m_Tb_init 76 (.bipush 10) 2 78 := ⟨by decide +kernel, rfl⟩
theorem d_Tb_init_78 : dd m_Tb_init 78 (.multianewarray 34 2) 4 82 := ⟨by decide +kernel, rfl⟩
theorem d_Tb_init_82 : dd m_Tb_init 82 (.putfield 39) 3 85 := ⟨by decide +kernel, rfl⟩
theorem d_Tb_init_85 : dd m_Tb_init 85 (.aload_n 0) 1 86 := ⟨by decide +kernel, rfl⟩
theorem d_Tb_init_86 : dd m_Tb_init 86 (.new 42) 3 89 := ⟨by decide +kernel, rfl⟩
theorem d_Tb_init_89 : dd m_Tb_init 89 .dup 1 90 := ⟨by decide +kernel, rfl⟩
theorem d_Tb_init_90 : dd m_Tb_init 90 (.invokespecial 44) 3 93 := ⟨by decide +kernel, rfl⟩
theorem d_Tb_init_93 : dd m_Tb_init 93 (.putfield 45) 3 96 := ⟨by decide +kernel, rfl⟩
theorem d_Tb_init_96 : decode (mbt m_Tb_init) 96 = .ok (.return_, 1) := by decide +kernel
theorem d_Re_readText_0 : dd m_Re_readText 0 (.aload_n 0) 1 1 := ⟨by decide +kernel, rfl⟩
theorem d_Re_readText_1 : dd m_Re_readText 1 (.getfield 12) 3 4 := ⟨by decide +kernel, rfl⟩
theorem d_Re_readText_4 : dd m_Re_readText 4 (.invokevirtual 29) 3 7 := ⟨by decide +kernel, rfl⟩
theorem d_Re_readText_7 : dd m_Re_readText 7 (.aload_n 0) 1 8 := ⟨by decide +kernel, rfl⟩
theorem d_Re_readText_8 : dd m_Re_readText 8 (.iconst 0) 1 9 := ⟨by decide +kernel, rfl⟩
theorem d_Re_readText_9 : dd m_Re_readText 9 (.putfield 32) 3 12 := ⟨by decide +kernel, rfl⟩
theorem d_Re_readText_12 : dd m_Re_readText 12 (.aload_n 0) 1 13 := ⟨by decide +kernel, rfl⟩
theorem d_Re_readText_13 : dd m_Re_readText 13 (.iconst 0) 1 14 := ⟨by decide +kernel, rfl⟩
theorem d_Re_readText_14 : dd m_Re_readText 14 (.putfield 36) 3 17 := ⟨by decide +kernel, rfl⟩
theorem d_Re_readText_17 : dd m_Re_readText 17 (.aload_n 0) 1 18 := ⟨by decide +kernel, rfl⟩
theorem d_Re_readText_18 : dd m_Re_readText 18 (.iconst 0) 1 19 := ⟨by decide +kernel, rfl⟩
theorem d_Re_readText_19 : dd m_Re_readText 19 (.putfield 39) 3 22 := ⟨by decide +kernel, rfl⟩
theorem d_Re_readText_22 : dd m_Re_readText 22 (.aload_n 0) 1 23 := ⟨by decide +kernel, rfl⟩
theorem d_Re_readText_23 : dd m_Re_readText 23 (.iconst 0) 1 24 := ⟨by decide +kernel, rfl⟩
theorem d_Re_readText_24 : dd m_Re_readText 24 (.putfield 42) 3 27 := ⟨by decide +kernel, rfl⟩
theorem d_Re_readText_27 : dd m_Re_readText 27 (.aload_n 0) 1 28 := ⟨by decide +kernel, rfl⟩
theorem d_Re_readText_28 : dd m_Re_readText 28 (.iconst 0) 1 29 := ⟨by decide +kernel, rfl⟩
theorem d_Re_readText_29 : dd m_Re_readText 29 (.putfield 45) 3 32 := ⟨by decide +kernel, rfl⟩
theorem d_Re_readText_32 : dd m_Re_readText 32 (.aload_n 0) 1 33 := ⟨by decide +kernel, rfl⟩
theorem d_Re_readText_33 : dd m_Re_readText 33 (.iconst 0) 1 34 := ⟨by decide +kernel, rfl⟩
theorem d_Re_readText_34 : dd m_Re_readText 34 (.putfield 48) 3 37 := ⟨by decide +kernel, rfl⟩
theorem d_Re_readText_37 : dd m_Re_readText 37 (.aload_n 0) 1 38 := ⟨by decide +kernel, rfl⟩
theorem d_Re_readText_38 : dd m_Re_readText 38 (.invokevirtual 51) 3 41 := ⟨by decide +kernel, rfl⟩
theorem d_Re_readText_41 : dd m_Re_readText 41 (.aload_n 0) 1 42 := ⟨by decide +kernel, rfl⟩
theorem d_Re_readText_42 : dd m_Re_readText 42 (.getfield 54) 3 45 := ⟨by decide +kernel, rfl⟩
theorem d_Re_readText_45 : dd m_Re_readText 45 (.iconst 1) 1 46 := ⟨by decide +kernel, rfl⟩
theorem d_Re_readText_46 : db m_Re_readText 46 (.if_icmp .ne) 49 51 := ⟨5, by decide +kernel, rfl, rfl⟩
theorem d_Re_readText_49 : dd m_Re_readText 49 (.iconst 1) 1 50 := ⟨by decide +kernel, rfl⟩
theorem d_Re_readText_50 : decode (mbt m_Re_readText) 50 = .ok (.ireturn, 1) := by decide +kernel
theorem d_Re_readText_51 : dd m_Re_readText 51 (.aload_n 0) 1 52 := ⟨by decide +kernel, rfl⟩
theorem d_Re_readText_52 : dd m_Re_readText 52 (.invokevirtual 57) 3 55 := ⟨by decide +kernel, rfl⟩
theorem d_Re_readText_55 : db m_Re_readText 55 (.ifCond .ne) 58 60 := ⟨5, by decide +kernel, rfl, rfl⟩
theorem d_Re_readText_58 : dd m_Re_readText 58 (.iconst 0) 1 59 := ⟨by decide +kernel, rfl⟩
theorem d_Re_readText_59 : decode (mbt m_Re_readText) 59 = .ok (.ireturn, 1) := by decide +kernel
theorem d_Re_readText_60 : dd m_Re_readText 60 (.aload_n 0) 1 61 := ⟨by decide +kernel, rfl⟩
theorem d_Re_readText_61 : dd m_Re_readText 61 (.iconst 1) 1 62 := ⟨by decide +kernel, rfl⟩
theorem d_Re_readText_62 : dd m_Re_readText 62 (.putfield 36) 3 65 := ⟨by decide +kernel, rfl⟩
theorem d_Re_readText_65 : dd m_Re_readText 65 (.aload_n 0) 1 66 := ⟨by decide +kernel, rfl⟩
theorem d_Re_readText_66 : dd m_Re_readText 66 (.getfield 36) 3 69 := ⟨by decide +kernel, rfl⟩
theorem d_Re_readText_69 : dd m_Re_readText 69 (.sipush 500) 3 72 := ⟨by decide +kernel, rfl⟩
theorem d_Re_readText_72 : db m_Re_readText 72 (.if_icmp .ge) 75 148 := ⟨76, by decide +kernel, rfl, rfl⟩
theorem d_Re_readText_75 : dd m_Re_readText 75 (.aload_n 0) 1 76 := ⟨by decide +kernel, rfl⟩
theorem d_Re_readText_76 : dd m_Re_readText 76 (.getfield 54) 3 79 := ⟨by decide +kernel, rfl⟩
theorem d_Re_readText_79 : dd m_Re_readText 79 (.iconst 1) 1 80 := ⟨by decide +kernel, rfl⟩
theorem d_Re_readText_80 : db m_Re_readText 80 (.if_icmp .eq) 83 148 := ⟨68, by decide +kernel, rfl, rfl⟩
theorem d_Re_readText_83 : dd m_Re_readText 83 (.aload_n 0) 1 84 := ⟨by decide +kernel, rfl⟩
theorem d_Re_readText_84 : dd m_Re_readText 84 (.getfield 54) 3 87 := ⟨by decide +kernel, rfl⟩
theorem d_Re_readText_87 : dd m_Re_readText 87 (.bipush 6) 2 89 := ⟨by decide +kernel, rfl⟩
theorem d_Re_readText_89 : db m_Re_readText 89 (.if_icmp .eq) 92 107 := ⟨18, by decide +kernel, rfl, rfl⟩
theorem d_Re_readText_92 : dd m_Re_readText 92 (.aload_n 0) 1 93 := ⟨by decide +kernel, rfl⟩
theorem d_Re_readText_93 : dd m_Re_readText 93 (.getfield 54) 3 96 := ⟨by decide +kernel, rfl⟩
theorem d_Re_readText_96 : dd m_Re_readText 96 (.bipush 8) 2 98 := ⟨by decide +kernel, rfl⟩
theorem d_Re_readText_98 : db m_Re_readText 98 (.if_icmp .eq) 101 107 := ⟨9, by decide +kernel, rfl, rfl⟩
theorem d_Re_readText_101 : dd m_Re_readText 101 (.aload_n 0) 1 102 := ⟨by decide +kernel, rfl⟩
theorem d_Re_readText_102 : dd m_Re_readText 102 (.iconst 1) 1 103 := ⟨by decide +kernel, rfl⟩
theorem d_Re_readText_103 : dd m_Re_readText 103 (.invokevirtual 61) 3 106 := ⟨by decide +kernel, rfl⟩
theorem d_Re_readText_106 : decode (mbt m_Re_readText) 106 = .ok (.ireturn, 1) := by decide +kernel
theorem d_Re_readText_107 : dd m_Re_readText 107 (.aload_n 0) 1 108 := ⟨by decide +kernel, rfl⟩
theorem d_Re_readText_108 : dd m_Re_readText 108 (.getfield 54) 3 111 := ⟨by decide +kernel, rfl⟩
theorem d_Re_readText_111 : dd m_Re_readText 111 (.bipush 6) 2 113 := ⟨by decide +kernel, rfl⟩
theorem d_Re_readText_113 : db m_Re_readText 113 (.if_icmp .ne) 116 126 := ⟨13, by decide +kernel, rfl, rfl⟩
theorem d_Re_readText_116 : dd m_Re_readText 116 (.aload_n 0) 1 117 := ⟨by decide +kernel, rfl⟩
theorem d_Re_readText_117 : dd m_Re_readText 117 (.invokevirtual 65) 3 120 := ⟨by decide +kernel, rfl⟩
theorem d_Re_readText_120 : db m_Re_readText 120 (.ifCond .eq) 123 133 := ⟨13, by decide +kernel, rfl, rfl⟩
theorem d_Re_readText_123 : db m_Re_readText 123 .goto 126 135 := ⟨12, by decide +kernel, rfl, rfl⟩
theorem d_Re_readText_126 : dd m_Re_readText 126 (.aload_n 0) 1 127 := ⟨by decide +kernel, rfl⟩
theorem d_Re_readText_127 : dd m_Re_readText 127 (.invokevirtual 68) 3 130 := ⟨by decide +kernel, rfl⟩
theorem d_Re_readText_130 : db m_Re_readText 130 (.ifCond .ne) 133 135 := ⟨5, by decide +kernel, rfl, rfl⟩
theorem d_Re_readText_133 : dd m_Re_readText 133 (.iconst 0) 1 134 := ⟨by decide +kernel, rfl⟩
theorem d_Re_readText_134 : decode (mbt m_Re_readText) 134 = .ok (.ireturn, 1) := by decide +kernel
theorem d_Re_readText_135 : dd m_Re_readText 135 (.aload_n 0) 1 136 := ⟨by decide +kernel, rfl⟩
theorem d_Re_readText_136 : dd m_Re_readText 136 .dup 1 137 := ⟨by decide +kernel, rfl⟩
theorem d_Re_readText_137 : dd m_Re_readText 137 (.getfield 36) 3 140 := ⟨by decide +kernel, rfl⟩
theorem d_Re_readText_140 : dd m_Re_readText 140 (.iconst 1) 1 141 := ⟨by decide +kernel, rfl⟩
theorem d_Re_readText_141 : dd m_Re_readText 141 .iadd 1 142 := ⟨by decide +kernel, rfl⟩
theorem d_Re_readText_142 : dd m_Re_readText 142 (.putfield 36) 3 145 := ⟨by decide +kernel, rfl⟩
theorem d_Re_readText_145 : db m_Re_readText 145 .goto 148 65 := ⟨(-80), by decide +kernel, rfl, rfl⟩
theorem d_Re_readText_148 : dd m_Re_readText 148 (.iconst 1) 1 149 := ⟨by decide +kernel, rfl⟩
theorem d_Re_readText_149 : decode (mbt m_Re_readText) 149 = .ok (.ireturn, 1) := by decide +kernel
theorem d_Re_step_0 : dd m_Re_step 0 (.aload_n 0) 1 1 := ⟨by decide +kernel, rfl⟩
theorem d_Re_step_1 : dd m_Re_step 1 (.getfield 32) 3 4 := ⟨by decide +kernel, rfl⟩
theorem d_Re_step_4 : dd m_Re_step 4 (.aload_n 0) 1 5 := ⟨by decide +kernel, rfl⟩
theorem d_Re_step_5 : dd m_Re_step 5 (.getfield 21) 3 8 := ⟨by decide +kernel, rfl⟩
theorem d_Re_step_8 : dd m_Re_step 8 (.getfield 124) 3 11 := ⟨by decide +kernel, rfl⟩
theorem d_Re_step_11 : db m_Re_step 11 (.if_icmp .ge) 14 45 := ⟨34, by decide +kernel, rfl, rfl⟩
theorem d_Re_step_14 : dd m_Re_step 14 (.aload_n 0) 1 15 := ⟨by decide +kernel, rfl⟩
theorem d_Re_step_15 : dd m_Re_step 15 (.getfield 21) 3 18 := ⟨by decide +kernel, rfl⟩
theorem d_Re_step_18 : dd m_Re_step 18 (.getfield 127) 3 21 := ⟨by decide +kernel, rfl⟩
theorem d_Re_step_21 : dd m_Re_step 21 (.aload_n 0) 1 22 := ⟨by decide +kernel, rfl⟩
theorem d_Re_step_22 : dd m_Re_step 22 (.getfield 32) 3 25 := ⟨by decide +kernel, rfl⟩
theorem d_Re_step_25 : dd m_Re_step 25 .baload 1 26 := ⟨by decide +kernel, rfl⟩
theorem d_Re_step_26 : dd m_Re_step 26 (.invokestatic 131) 3 29 := ⟨by decide +kernel, rfl⟩
theorem d_Re_step_29 : db m_Re_step 29 (.ifCond .eq) 32 45 := ⟨16, by decide +kernel, rfl, rfl⟩
theorem d_Re_step_32 : dd m_Re_step 32 (.aload_n 0) 1 33 := ⟨by decide +kernel, rfl⟩
theorem d_Re_step_33 : dd m_Re_step 33 .dup 1 34 := ⟨by decide +kernel, rfl⟩
theorem d_Re_step_34 : dd m_Re_step 34 (.getfield 32) 3 37 := ⟨by decide +kernel, rfl⟩
theorem d_Re_step_37 : dd m_Re_step 37 (.iconst 1) 1 38 := ⟨by decide +kernel, rfl⟩
theorem d_Re_step_38 : dd m_Re_step 38 .iadd 1 39 := ⟨by decide +kernel, rfl⟩
theorem d_Re_step_39 : dd m_Re_step 39 (.putfield 32) 3 42 := ⟨by decide +kernel, rfl⟩
theorem d_Re_step_42 : db m_Re_step 42 .goto 45 0 := ⟨(-42), by decide +kernel, rfl, rfl⟩
theorem d_Re_step_45 : dd m_Re_step 45 (.aload_n 0) 1 46 := ⟨by decide +kernel, rfl⟩
theorem d_Re_step_46 : dd m_Re_step 46 (.aload_n 0) 1 47 := ⟨by decide +kernel, rfl⟩
theorem d_Re_step_47 : dd m_Re_step 47 (.getfield 32) 3 50 := ⟨by decide +kernel, rfl⟩
theorem d_Re_step_50 : dd m_Re_step 50 (.putfield 121) 3 53 := ⟨by decide +kernel, rfl⟩
theorem d_Re_step_53 : dd m_Re_step 53 (.aload_n 0) 1 54 := ⟨by decide +kernel, rfl⟩
theorem d_Re_step_54 : dd m_Re_step 54 (.getfield 21) 3 57 := ⟨by decide +kernel, rfl⟩
theorem d_Re_step_57 : dd m_Re_step 57 (.getfield 124) 3 60 := ⟨by decide +kernel, rfl⟩
theorem d_Re_step_60 : dd m_Re_step 60 (.sipush 500) 3 63 := ⟨by decide +kernel, rfl⟩
theorem d_Re_step_63 : db m_Re_step 63 (.if_icmp .le) 66 91 := ⟨28, by decide +kernel, rfl, rfl⟩
theorem d_Re_step_66 : dd m_Re_step 66 (.aload_n 0) 1 67 := ⟨by decide +kernel, rfl⟩
theorem d_Re_step_67 : dd m_Re_step 67 (.getfield 32) 3 70 := ⟨by decide +kernel, rfl⟩
theorem d_Re_step_70 : dd m_Re_step 70 (.sipush 500) 3 73 := ⟨by decide +kernel, rfl⟩
theorem d_Re_step_73 : db m_Re_step 73 (.if_icmp .lt) 76 91 := ⟨18, by decide +kernel, rfl, rfl⟩
theorem d_Re_step_76 : dd m_Re_step 76 (.aload_n 0) 1 77 := ⟨by decide +kernel, rfl⟩
theorem d_Re_step_77 : dd m_Re_step 77 (.sipush 500) 3 80 := ⟨by decide +kernel, rfl⟩
theorem d_Re_step_80 : dd m_Re_step 80 (.putfield 121) 3 83 := ⟨by decide +kernel, rfl⟩
theorem d_Re_step_83 : dd m_Re_step 83 (.aload_n 0) 1 84 := ⟨by decide +kernel, rfl⟩
theorem d_Re_step_84 : dd m_Re_step 84 (.iconst 0) 1 85 := ⟨by decide +kernel, rfl⟩
theorem d_Re_step_85 : dd m_Re_step 85 (.putfield 54) 3 88 := ⟨by decide +kernel, rfl⟩
theorem d_Re_step_88 : db m_Re_step 88 .goto 91 187 := ⟨99, by decide +kernel, rfl, rfl⟩
theorem d_Re_step_91 : dd m_Re_step 91 (.aload_n 0) 1 92 := ⟨by decide +kernel, rfl⟩
theorem d_Re_step_92 : dd m_Re_step 92 (.getfield 32) 3 95 := ⟨by decide +kernel, rfl⟩
theorem d_Re_step_95 : dd m_Re_step 95 (.aload_n 0) 1 96 := ⟨by decide +kernel, rfl⟩
theorem d_Re_step_96 : dd m_Re_step 96 (.getfield 21) 3 99 := ⟨by decide +kernel, rfl⟩
theorem d_Re_step_99 : dd m_Re_step 99 (.getfield 124) 3 102 := ⟨by decide +kernel, rfl⟩
theorem d_Re_step_102 : db m_Re_step 102 (.if_icmp .lt) 105 113 := ⟨11, by decide +kernel, rfl, rfl⟩
theorem d_Re_step_105 : dd m_Re_step 105 (.aload_n 0) 1 106 := ⟨by decide +kernel, rfl⟩
theorem d_Re_step_106 : dd m_Re_step 106 (.iconst 1) 1 107 := ⟨by decide +kernel, rfl⟩
theorem d_Re_step_107 : dd m_Re_step 107 (.putfield 54) 3 110 := ⟨by decide +kernel, rfl⟩
theorem d_Re_step_110 : db m_Re_step 110 .goto 113 187 := ⟨77, by decide +kernel, rfl, rfl⟩
theorem d_Re_step_113 : dd m_Re_step 113 (.aload_n 0) 1 114 := ⟨by decide +kernel, rfl⟩
theorem d_Re_step_114 : dd m_Re_step 114 (.getfield 21) 3 117 := ⟨by decide +kernel, rfl⟩
theorem d_Re_step_117 : dd m_Re_step 117 (.getfield 127) 3 120 := ⟨by decide +kernel, rfl⟩
theorem d_Re_step_120 : dd m_Re_step 120 (.aload_n 0) 1 121 := ⟨by decide +kernel, rfl⟩
theorem d_Re_step_121 : dd m_Re_step 121 (.getfield 32) 3 124 := ⟨by decide +kernel, rfl⟩
theorem d_Re_step_124 : dd m_Re_step 124 .baload 1 125 := ⟨by decide +kernel, rfl⟩
theorem d_Re_step_125 : dd m_Re_step 125 (.bipush 59) 2 127 := ⟨by decide +kernel, rfl⟩
theorem d_Re_step_127 : db m_Re_step 127 (.if_icmp .ne) 130 148 := ⟨21, by decide +kernel, rfl, rfl⟩
theorem d_Re_step_130 : dd m_Re_step 130 (.aload_n 0) 1 131 := ⟨by decide +kernel, rfl⟩
theorem d_Re_step_131 : dd m_Re_step 131 (.iconst 3) 1 132 := ⟨by decide +kernel, rfl⟩
theorem d_Re_step_132 : dd m_Re_step 132 (.putfield 54) 3 135 := ⟨by decide +kernel, rfl⟩
theorem d_Re_step_135 : dd m_Re_step 135 (.aload_n 0) 1 136 := ⟨by decide +kernel, rfl⟩
theorem d_Re_step_136 : dd m_Re_step 136 .dup 1 137 := ⟨by decide +kernel, rfl⟩
theorem d_Re_step_137 : dd m_Re_step 137 (.getfield 32) 3 140 := ⟨by decide +kernel, rfl⟩
theorem d_Re_step_140 : dd m_Re_step 140 (.iconst 1) 1 141 := ⟨by decide +kernel, rfl⟩
theorem d_Re_step_141 : dd m_Re_step 141 .iadd 1 142 := ⟨by decide +kernel, rfl⟩
theorem d_Re_step_142 : dd m_Re_step 142 (.putfield 32) 3 145 := ⟨by decide +kernel, rfl⟩
theorem d_Re_step_145 : db m_Re_step 145 .goto 148 187 := ⟨42, by decide +kernel, rfl, rfl⟩
theorem d_Re_step_148 : dd m_Re_step 148 (.aload_n 0) 1 149 := ⟨by decide +kernel, rfl⟩
theorem d_Re_step_149 : dd m_Re_step 149 (.getfield 21) 3 152 := ⟨by decide +kernel, rfl⟩
theorem d_Re_step_152 : dd m_Re_step 152 (.getfield 127) 3 155 := ⟨by decide +kernel, rfl⟩
theorem d_Re_step_155 : dd m_Re_step 155 (.aload_n 0) 1 156 := ⟨by decide +kernel, rfl⟩
theorem d_Re_step_156 : dd m_Re_step 156 (.getfield 32) 3 159 := ⟨by decide +kernel, rfl⟩
theorem d_Re_step_159 : dd m_Re_step 159 .baload 1 160 := ⟨by decide +kernel, rfl⟩
theorem d_Re_step_160 : dd m_Re_step 160 (.bipush 45) 2 162 := ⟨by decide +kernel, rfl⟩
theorem d_Re_step_162 : db m_Re_step 162 (.if_icmp .ne) 165 183 := ⟨21, by decide +kernel, rfl, rfl⟩
theorem d_Re_step_165 : dd m_Re_step 165 (.aload_n 0) 1 166 := ⟨by decide +kernel, rfl⟩
theorem d_Re_step_166 : dd m_Re_step 166 (.iconst 4) 1 167 := ⟨by decide +kernel, rfl⟩
theorem d_Re_step_167 : dd m_Re_step 167 (.putfield 54) 3 170 := ⟨by decide +kernel, rfl⟩
theorem d_Re_step_170 : dd m_Re_step 170 (.aload_n 0) 1 171 := ⟨by decide +kernel, rfl⟩
theorem d_Re_step_171 : dd m_Re_step 171 .dup 1 172 := ⟨by decide +kernel, rfl⟩
theorem d_Re_step_172 : dd m_Re_step 172 (.getfield 32) 3 175 := ⟨by decide +kernel, rfl⟩
theorem d_Re_step_175 : dd m_Re_step 175 (.iconst 1) 1 176 := ⟨by decide +kernel, rfl⟩
theorem d_Re_step_176 : dd m_Re_step 176 .iadd 1 177 := ⟨by decide +kernel, rfl⟩
theorem d_Re_step_177 : dd m_Re_step 177 (.putfield 32) 3 180 := ⟨by decide +kernel, rfl⟩
theorem d_Re_step_180 : db m_Re_step 180 .goto 183 187 := ⟨7, by decide +kernel, rfl, rfl⟩
theorem d_Re_step_183 : dd m_Re_step 183 (.aload_n 0) 1 184 := ⟨by decide +kernel, rfl⟩
theorem d_Re_step_184 : dd m_Re_step 184 (.invokevirtual 135) 3 187 := ⟨by decide +kernel, rfl⟩
theorem d_Re_step_187 : decode (mbt m_Re_step) 187 = .ok (.return_, 1) := by decide +kernel
theorem d_Re_isBlank_0 : dd m_Re_isBlank 0 (.iload_n 0) 1 1 := ⟨by decide +kernel, rfl⟩
theorem d_Re_isBlank_1 : dd m_Re_isBlank 1 (.bipush 32) 2 3 := ⟨by decide +kernel, rfl⟩
theorem d_Re_isBlank_3 : db m_Re_isBlank 3 (.if_icmp .eq) 6 12 := ⟨9, by decide +kernel, rfl, rfl⟩
theorem d_Re_isBlank_6 : dd m_Re_isBlank 6 (.iload_n 0) 1 7 := ⟨by decide +kernel, rfl⟩
theorem d_Re_isBlank_7 : dd m_Re_isBlank 7 (.bipush 10) 2 9 := ⟨by decide +kernel, rfl⟩
theorem d_Re_isBlank_9 : db m_Re_isBlank 9 (.if_icmp .ne) 12 16 := ⟨7, by decide +kernel, rfl, rfl⟩
theorem d_Re_isBlank_12 : dd m_Re_isBlank 12 (.iconst 1) 1 13 := ⟨by decide +kernel, rfl⟩
theorem d_Re_isBlank_13 : db m_Re_isBlank 13 .goto 16 17 := ⟨4, by decide +kernel, rfl, rfl⟩
theorem d_Re_isBlank_16 : dd m_Re_isBlank 16 (.iconst 0) 1 17 := ⟨by decide +kernel, rfl⟩
theorem d_Re_isBlank_17 : decode (mbt m_Re_isBlank) 17 = .ok (.ireturn, 1) := by decide +kernel
theorem d_Re_readWordOrNumber_0 : dd m_Re_readWordOrNumber 0 (.iconst 0) 1 1 := ⟨by decide +kernel, rfl⟩
theorem d_Re_readWordOrNumber_1 : dd m_Re_readWordOrNumber 1 (.istore_n 1) 1 2 := ⟨by decide +kernel, rfl⟩
theorem d_Re_readWordOrNumber_2 : dd m_Re_readWordOrNumber 2 (.iconst 0) 1 3 := ⟨by decide +kernel, rfl⟩
theorem d_Re_readWordOrNumber_3 : dd m_Re_readWordOrNumber 3 (.istore_n 2) 1 4 := ⟨by decide +kernel, rfl⟩
theorem d_Re_readWordOrNumber_4 : dd m_Re_readWordOrNumber 4 (.aload_n 0) 1 5 := ⟨by decide +kernel, rfl⟩
theorem d_Re_readWordOrNumber_5 : dd m_Re_readWordOrNumber 5 (.iconst 0) 1 6 := ⟨by decide +kernel, rfl⟩
theorem d_Re_readWordOrNumber_6 : dd m_Re_readWordOrNumber 6 (.putfield 71) 3 9 := ⟨by decide +kernel, rfl⟩
theorem d_Re_readWordOrNumber_9 : dd m_Re_readWordOrNumber 9 (.aload_n 0) 1 10 := ⟨by decide +kernel, rfl⟩
theorem d_Re_readWordOrNumber_10 : dd m_Re_readWordOrNumber 10 (.getfield 32) 3 13 := ⟨by decide +kernel, rfl⟩
theorem d_Re_readWordOrNumber_13 : dd m_Re_readWordOrNumber 13 (.aload_n 0) 1 14 := ⟨by decide +kernel, rfl⟩
theorem d_Re_readWordOrNumber_14 : dd m_Re_readWordOrNumber 14 (.getfield 21) 3 17 := ⟨by decide +kernel, rfl⟩
theorem d_Re_readWordOrNumber_17 : dd m_Re_readWordOrNumber 17 (.getfield 124) 3 20 := ⟨by decide +kernel, rfl⟩
theorem d_Re_readWordOrNumber_20 : db m_Re_readWordOrNumber 20 (.if_icmp .ge) 23 97 := ⟨77, by decide +kernel, rfl, rfl⟩
theorem d_Re_readWordOrNumber_23 : dd m_Re_readWordOrNumber 23 (.aload_n 0) 1 24 := ⟨by decide +kernel, rfl⟩
theorem d_Re_readWordOrNumber_24 : dd m_Re_readWordOrNumber 24 (.getfield 21) 3 27 := ⟨by decide +kernel, rfl⟩
theorem d_Re_readWordOrNumber_27 : dd m_Re_readWordOrNumber 27 (.getfield 127) 3 30 := ⟨by decide +kernel, rfl⟩
theorem d_Re_readWordOrNumber_30 : dd m_Re_readWordOrNumber 30 (.aload_n 0) 1 31 := ⟨by decide +kernel, rfl⟩
theorem d_Re_readWordOrNumber_31 : dd m_Re_readWordOrNumber 31 (.getfield 32) 3 34 := ⟨by decide +kernel, rfl⟩
theorem d_Re_readWordOrNumber_34 : dd m_Re_readWordOrNumber 34 .baload 1 35 := ⟨by decide +kernel, rfl⟩
theorem d_Re_readWordOrNumber_35 : dd m_Re_readWordOrNumber 35 (.istore_n 3) 1 36 := ⟨by decide +kernel, rfl⟩
theorem d_Re_readWordOrNumber_36 : dd m_Re_readWordOrNumber 36 (.iload_n 3) 1 37 := ⟨by decide +kernel, rfl⟩
theorem d_Re_readWordOrNumber_37 : dd m_Re_readWordOrNumber 37 (.invokestatic 138) 3 40 := ⟨by decide +kernel, rfl⟩
theorem d_Re_readWordOrNumber_40 : db m_Re_readWordOrNumber 40 (.ifCond .eq) 43 74 := ⟨34, by decide +kernel, rfl, rfl⟩
theorem d_Re_readWordOrNumber_43 : dd m_Re_readWordOrNumber 43 (.iinc 2 1) 3 46 := ⟨by decide +kernel, rfl⟩
theorem d_Re_readWordOrNumber_46 : dd m_Re_readWordOrNumber 46 (.aload_n 0) 1 47 := ⟨by decide +kernel, rfl⟩
theorem d_Re_readWordOrNumber_47 : dd m_Re_readWordOrNumber 47 (.iload_n 2) 1 48 := ⟨by decide +kernel, rfl⟩
theorem d_Re_readWordOrNumber_48 : dd m_Re_readWordOrNumber 48 (.iconst 3) 1 49 := ⟨by decide +kernel, rfl⟩
theorem d_Re_readWordOrNumber_49 : db m_Re_readWordOrNumber 49 (.if_icmp .gt) 52 67 := ⟨18, by decide +kernel, rfl, rfl⟩
theorem d_Re_readWordOrNumber_52 : dd m_Re_readWordOrNumber 52 (.aload_n 0) 1 53 := ⟨by decide +kernel, rfl⟩
theorem d_Re_readWordOrNumber_53 : dd m_Re_readWordOrNumber 53 (.getfield 71) 3 56 := ⟨by decide +kernel, rfl⟩
theorem d_Re_readWordOrNumber_56 : dd m_Re_readWordOrNumber 56 (.bipush 10) 2 58 := ⟨by decide +kernel, rfl⟩
theorem d_Re_readWordOrNumber_58 : dd m_Re_readWordOrNumber 58 .imul 1 59 := ⟨by decide +kernel, rfl⟩
theorem d_Re_readWordOrNumber_59 : dd m_Re_readWordOrNumber 59 (.iload_n 3) 1 60 := ⟨by decide +kernel, rfl⟩
theorem d_Re_readWordOrNumber_60 : dd m_Re_readWordOrNumber 60 .iadd 1 61 := ⟨by decide +kernel, rfl⟩
theorem d_Re_readWordOrNumber_61 : dd m_Re_readWordOrNumber 61 (.bipush 48) 2 63 := ⟨by decide +kernel, rfl⟩
theorem d_Re_readWordOrNumber_63 : dd m_Re_readWordOrNumber 63 .isub 1 64 := ⟨by decide +kernel, rfl⟩
theorem d_Re_readWordOrNumber_64 : db m_Re_readWordOrNumber 64 .goto 67 68 := ⟨4, by decide +kernel, rfl, rfl⟩
theorem d_Re_readWordOrNumber_67 : dd m_Re_readWordOrNumber 67 (.iconst 0) 1 68 := ⟨by decide +kernel, rfl⟩
theorem d_Re_readWordOrNumber_68 : dd m_Re_readWordOrNumber 68 (.putfield 71) 3 71 := ⟨by decide +kernel, rfl⟩
theorem d_Re_readWordOrNumber_71 : db m_Re_readWordOrNumber 71 .goto 74 84 := ⟨13, by decide +kernel, rfl, rfl⟩
theorem d_Re_readWordOrNumber_74 : dd m_Re_readWordOrNumber 74 (.iload_n 3) 1 75 := ⟨by decide +kernel, rfl⟩
theorem d_Re_readWordOrNumber_75 : dd m_Re_readWordOrNumber 75 (.invokestatic 141) 3 78 := ⟨by decide +kernel, rfl⟩
theorem d_Re_readWordOrNumber_78 : db m_Re_readWordOrNumber 78 (.ifCond .eq) 81 97 := ⟨19, by decide +kernel, rfl, rfl⟩
theorem d_Re_readWordOrNumber_81 : dd m_Re_readWordOrNumber 81 (.iinc 1 1) 3 84 := ⟨by decide +kernel, rfl⟩
theorem d_Re_readWordOrNumber_84 : dd m_Re_readWordOrNumber 84 (.aload_n 0) 1 85 := ⟨by decide +kernel, rfl⟩
theorem d_Re_readWordOrNumber_85 : dd m_Re_readWordOrNumber 85 .dup 1 86 := ⟨by decide +kernel, rfl⟩
theorem d_Re_readWordOrNumber_86 : dd m_Re_readWordOrNumber 86 (.getfield 32) 3 89 := ⟨by decide +kernel, rfl⟩
theorem d_Re_readWordOrNumber_89 : dd m_Re_readWordOrNumber 89 (.iconst 1) 1 90 := ⟨by decide +kernel, rfl⟩
theorem d_Re_readWordOrNumber_90 : dd m_Re_readWordOrNumber 90 .iadd 1 91 := ⟨by decide +kernel, rfl⟩
theorem d_Re_readWordOrNumber_91 : dd m_Re_readWordOrNumber 91 (.putfield 32) 3 94 := ⟨by decide +kernel, rfl⟩
theorem d_Re_readWordOrNumber_94 : db m_Re_readWordOrNumber 94 .goto 97 9 := ⟨(-85), by decide +kernel, rfl, rfl⟩
theorem d_Re_readWordOrNumber_97 : dd m_Re_readWordOrNumber 97 (.iload_n 1) 1 98 := ⟨by decide +kernel, rfl⟩
theorem d_Re_readWordOrNumber_98 : db m_Re_readWordOrNumber 98 (.ifCond .ne) 101 119 := ⟨21, by decide +kernel, rfl, rfl⟩
theorem d_Re_readWordOrNumber_101 : dd m_Re_readWordOrNumber 101 (.iload_n 2) 1 102 := ⟨by decide +kernel, rfl⟩
theorem d_Re_readWordOrNumber_102 : dd m_Re_readWordOrNumber 102 (.iconst 1) 1 103 := ⟨by decide +kernel, rfl⟩
theorem d_Re_readWordOrNumber_103 : db m_Re_readWordOrNumber 103 (.if_icmp .lt) 106 119 := ⟨16, by decide +kernel, rfl, rfl⟩
theorem d_Re_readWordOrNumber_106 : dd m_Re_readWordOrNumber 106 (.iload_n 2) 1 107 := ⟨by decide +kernel, rfl⟩
theorem d_Re_readWordOrNumber_107 : dd m_Re_readWordOrNumber 107 (.iconst 3) 1 108 := ⟨by decide +kernel, rfl⟩
theorem d_Re_readWordOrNumber_108 : db m_Re_readWordOrNumber 108 (.if_icmp .gt) 111 119 := ⟨11, by decide +kernel, rfl, rfl⟩
theorem d_Re_readWordOrNumber_111 : dd m_Re_readWordOrNumber 111 (.aload_n 0) 1 112 := ⟨by decide +kernel, rfl⟩
theorem d_Re_readWordOrNumber_112 : dd m_Re_readWordOrNumber 112 (.iconst 2) 1 113 := ⟨by decide +kernel, rfl⟩
theorem d_Re_readWordOrNumber_113 : dd m_Re_readWordOrNumber 113 (.putfield 54) 3 116 := ⟨by decide +kernel, rfl⟩
theorem d_Re_readWordOrNumber_116 : db m_Re_readWordOrNumber 116 .goto 119 195 := ⟨79, by decide +kernel, rfl, rfl⟩
theorem d_Re_readWordOrNumber_119 : dd m_Re_readWordOrNumber 119 (.aload_n 0) 1 120 := ⟨by decide +kernel, rfl⟩
theorem d_Re_readWordOrNumber_120 : dd m_Re_readWordOrNumber 120 (.ldc 144) 2 122 := ⟨by decide +kernel, rfl⟩
theorem d_Re_readWordOrNumber_122 : dd m_Re_readWordOrNumber 122 (.invokevirtual 145) 3 125 := ⟨by decide +kernel, rfl⟩
theorem d_Re_readWordOrNumber_125 : db m_Re_readWordOrNumber 125 (.ifCond .eq) 128 136 := ⟨11, by decide +kernel, rfl, rfl⟩
theorem d_Re_readWordOrNumber_128 : dd m_Re_readWordOrNumber 128 (.aload_n 0) 1 129 := ⟨by decide +kernel, rfl⟩
theorem d_Re_readWordOrNumber_129 : dd m_Re_readWordOrNumber 129 (.iconst 5) 1 130 := ⟨by decide +kernel, rfl⟩
theorem d_Re_readWordOrNumber_130 : dd m_Re_readWordOrNumber 130 (.putfield 54) 3 133 := ⟨by decide +kernel, rfl⟩
theorem d_Re_readWordOrNumber_133 : db m_Re_readWordOrNumber 133 .goto 136 195 := ⟨62, by decide +kernel, rfl, rfl⟩
theorem d_Re_readWordOrNumber_136 : dd m_Re_readWordOrNumber 136 (.aload_n 0) 1 137 := ⟨by decide +kernel, rfl⟩
theorem d_Re_readWordOrNumber_137 : dd m_Re_readWordOrNumber 137 (.ldc 149) 2 139 := ⟨by decide +kernel, rfl⟩
theorem d_Re_readWordOrNumber_139 : dd m_Re_readWordOrNumber 139 (.invokevirtual 145) 3 142 := ⟨by decide +kernel, rfl⟩
theorem d_Re_readWordOrNumber_142 : db m_Re_readWordOrNumber 142 (.ifCond .eq) 145 154 := ⟨12, by decide +kernel, rfl, rfl⟩
theorem d_Re_readWordOrNumber_145 : dd m_Re_readWordOrNumber 145 (.aload_n 0) 1 146 := ⟨by decide +kernel, rfl⟩
theorem d_Re_readWordOrNumber_146 : dd m_Re_readWordOrNumber 146 (.bipush 6) 2 148 := ⟨by decide +kernel, rfl⟩
theorem d_Re_readWordOrNumber_148 : dd m_Re_readWordOrNumber 148 (.putfield 54) 3 151 := ⟨by decide +kernel, rfl⟩
theorem d_Re_readWordOrNumber_151 : db m_Re_readWordOrNumber 151 .goto 154 195 := ⟨44, by decide +kernel, rfl, rfl⟩
theorem d_Re_readWordOrNumber_154 : dd m_Re_readWordOrNumber 154 (.aload_n 0) 1 155 := ⟨by decide +kernel, rfl⟩
theorem d_Re_readWordOrNumber_155 : dd m_Re_readWordOrNumber 155 (.ldc 150) 2 157 := ⟨by decide +kernel, rfl⟩
theorem d_Re_readWordOrNumber_157 : dd m_Re_readWordOrNumber 157 (.invokevirtual 145) 3 160 := ⟨by decide +kernel, rfl⟩
theorem d_Re_readWordOrNumber_160 : db m_Re_readWordOrNumber 160 (.ifCond .eq) 163 172 := ⟨12, by decide +kernel, rfl, rfl⟩
theorem d_Re_readWordOrNumber_163 : dd m_Re_readWordOrNumber 163 (.aload_n 0) 1 164 := ⟨by decide +kernel, rfl⟩
theorem d_Re_readWordOrNumber_164 : dd m_Re_readWordOrNumber 164 (.bipush 7) 2 166 := ⟨by decide +kernel, rfl⟩
theorem d_Re_readWordOrNumber_166 : dd m_Re_readWordOrNumber 166 (.putfield 54) 3 169 := ⟨by decide +kernel, rfl⟩
theorem d_Re_readWordOrNumber_169 : db m_Re_readWordOrNumber 169 .goto 172 195 := ⟨26, by decide +kernel, rfl, rfl⟩
theorem d_Re_readWordOrNumber_172 : dd m_Re_readWordOrNumber 172 (.aload_n 0) 1 173 := ⟨by decide +kernel, rfl⟩
theorem d_Re_readWordOrNumber_173 : dd m_Re_readWordOrNumber 173 (.ldc 152) 2 175 := ⟨by decide +kernel, rfl⟩
theorem d_Re_readWordOrNumber_175 : dd m_Re_readWordOrNumber 175 (.invokevirtual 145) 3 178 := ⟨by decide +kernel, rfl⟩
theorem d_Re_readWordOrNumber_178 : db m_Re_readWordOrNumber 178 (.ifCond .eq) 181 190 := ⟨12, by decide +kernel, rfl, rfl⟩
theorem d_Re_readWordOrNumber_181 : dd m_Re_readWordOrNumber 181 (.aload_n 0) 1 182 := ⟨by decide +kernel, rfl⟩
theorem d_Re_readWordOrNumber_182 : dd m_Re_readWordOrNumber 182 (.bipush 8) 2 184 := ⟨by decide +kernel, rfl⟩
theorem d_Re_readWordOrNumber_184 : dd m_Re_readWordOrNumber 184 (.putfield 54) 3 187 := ⟨by decide +kernel, rfl⟩
theorem d_Re_readWordOrNumber_187 : db m_Re_readWordOrNumber 187 .goto 190 195 := ⟨8, by decide +kernel, rfl, rfl⟩
theorem d_Re_readWordOrNumber_190 : dd m_Re_readWordOrNumber 190 (.aload_n 0) 1 191 := ⟨by decide +kernel, rfl⟩
theorem d_Re_readWordOrNumber_191 : dd m_Re_readWordOrNumber 191 (.iconst 0) 1 192 := ⟨by decide +kernel, rfl⟩
theorem d_Re_readWordOrNumber_192 : dd m_Re_readWordOrNumber 192 (.putfield 54) 3 195 := ⟨by decide +kernel, rfl⟩
theorem d_Re_readWordOrNumber_195 : decode (mbt m_Re_readWordOrNumber) 195 = .ok (.return_, 1) := by decide +kernel
theorem d_Re_isDigit_0 : dd m_Re_isDigit 0 (.iload_n 0) 1 1 := ⟨by decide +kernel, rfl⟩
theorem d_Re_isDigit_1 : dd m_Re_isDigit 1 (.bipush 48) 2 3 := ⟨by decide +kernel, rfl⟩
theorem d_Re_isDigit_3 : db m_Re_isDigit 3 (.if_icmp .lt) 6 16 := ⟨13, by decide +kernel, rfl, rfl⟩
theorem d_Re_isDigit_6 : dd m_Re_isDigit 6 (.iload_n 0) 1 7 := ⟨by decide +kernel, rfl⟩
theorem d_Re_isDigit_7 : dd m_Re_isDigit 7 (.bipush 57) 2 9 := ⟨by decide +kernel, rfl⟩
theorem d_Re_isDigit_9 : db m_Re_isDigit 9 (.if_icmp .gt) 12 16 := ⟨7, by decide +kernel, rfl, rfl⟩
theorem d_Re_isDigit_12 : dd m_Re_isDigit 12 (.iconst 1) 1 13 := ⟨by decide +kernel, rfl⟩
theorem d_Re_isDigit_13 : db m_Re_isDigit 13 .goto 16 17 := ⟨4, by decide +kernel, rfl, rfl⟩
theorem d_Re_isDigit_16 : dd m_Re_isDigit 16 (.iconst 0) 1 17 := ⟨by decide +kernel, rfl⟩
theorem d_Re_isDigit_17 : decode (mbt m_Re_isDigit) 17 = .ok (.ireturn, 1) := by decide +kernel
theorem d_Re_isLetter_0 : dd m_Re_isLetter 0 (.iload_n 0) 1 1 := ⟨by decide +kernel, rfl⟩
theorem d_Re_isLetter_1 : dd m_Re_isLetter 1 (.bipush 97) 2 3 := ⟨by decide +kernel, rfl⟩
theorem d_Re_isLetter_3 : db m_Re_isLetter 3 (.if_icmp .lt) 6 16 := ⟨13, by decide +kernel, rfl, rfl⟩
theorem d_Re_isLetter_6 : dd m_Re_isLetter 6 (.iload_n 0) 1 7 := ⟨by decide +kernel, rfl⟩
theorem d_Re_isLetter_7 : dd m_Re_isLetter 7 (.bipush 122) 2 9 := ⟨by decide +kernel, rfl⟩
theorem d_Re_isLetter_9 : db m_Re_isLetter 9 (.if_icmp .gt) 12 16 := ⟨7, by decide +kernel, rfl, rfl⟩
theorem d_Re_isLetter_12 : dd m_Re_isLetter 12 (.iconst 1) 1 13 := ⟨by decide +kernel, rfl⟩
theorem d_Re_isLetter_13 : db m_Re_isLetter 13 .goto 16 17 := ⟨4, by decide +kernel, rfl, rfl⟩
theorem d_Re_isLetter_16 : dd m_Re_isLetter 16 (.iconst 0) 1 17 := ⟨by decide +kernel, rfl⟩
theorem d_Re_isLetter_17 : decode (mbt m_Re_isLetter) 17 = .ok (.ireturn, 1) := by decide +kernel
theorem d_Re_isWord_0 : dd m_Re_isWord 0 (.aload_n 0) 1 1 := ⟨by decide +kernel, rfl⟩
theorem d_Re_isWord_1 : dd m_Re_isWord 1 (.getfield 32) 3 4 := ⟨by decide +kernel, rfl⟩
theorem d_Re_isWord_4 : dd m_Re_isWord 4 (.aload_n 0) 1 5 := ⟨by decide +kernel, rfl⟩
theorem d_Re_isWord_5 : dd m_Re_isWord 5 (.getfield 121) 3 8 := ⟨by decide +kernel, rfl⟩
theorem d_Re_isWord_8 : dd m_Re_isWord 8 .isub 1 9 := ⟨by decide +kernel, rfl⟩
theorem d_Re_isWord_9 : dd m_Re_isWord 9 (.aload_n 1) 1 10 := ⟨by decide +kernel, rfl⟩
theorem d_Re_isWord_10 : dd m_Re_isWord 10 (.invokevirtual 154) 3 13 := ⟨by decide +kernel, rfl⟩
theorem d_Re_isWord_13 : db m_Re_isWord 13 (.if_icmp .eq) 16 18 := ⟨5, by decide +kernel, rfl, rfl⟩
theorem d_Re_isWord_16 : dd m_Re_isWord 16 (.iconst 0) 1 17 := ⟨by decide +kernel, rfl⟩
theorem d_Re_isWord_17 : decode (mbt m_Re_isWord) 17 = .ok (.ireturn, 1) := by decide +kernel
theorem d_Re_isWord_18 : dd m_Re_isWord 18 (.iconst 0) 1 19 := ⟨by decide +kernel, rfl⟩
theorem d_Re_isWord_19 : dd m_Re_isWord 19 (.istore_n 2) 1 20 := ⟨by decide +kernel, rfl⟩
theorem d_Re_isWord_20 : dd m_Re_isWord 20 (.iload_n 2) 1 21 := ⟨by decide +kernel, rfl⟩
theorem d_Re_isWord_21 : dd m_Re_isWord 21 (.aload_n 1) 1 22 := ⟨by decide +kernel, rfl⟩
theorem d_Re_isWord_22 : dd m_Re_isWord 22 (.invokevirtual 154) 3 25 := ⟨by decide +kernel, rfl⟩
theorem d_Re_isWord_25 : db m_Re_isWord 25 (.if_icmp .ge) 28 58 := ⟨33, by decide +kernel, rfl, rfl⟩
theorem d_Re_isWord_28 : dd m_Re_isWord 28 (.aload_n 0) 1 29 := ⟨by decide +kernel, rfl⟩
theorem d_Re_isWord_29 : dd m_Re_isWord 29 (.getfield 21) 3 32 := ⟨by decide +kernel, rfl⟩
theorem d_Re_isWord_32 : dd m_Re_isWord 32 (.getfield 127) 3 35 := ⟨by decide +kernel, rfl⟩
theorem d_Re_isWord_35 : dd m_Re_isWord 35 (.aload_n 0) 1 36 := ⟨by decide +kernel, rfl⟩
theorem d_Re_isWord_36 : dd m_Re_isWord 36 (.getfield 121) 3 39 := ⟨by decide +kernel, rfl⟩
theorem d_Re_isWord_39 : dd m_Re_isWord 39 (.iload_n 2) 1 40 := ⟨by decide +kernel, rfl⟩
theorem d_Re_isWord_40 : dd m_Re_isWord 40 .iadd 1 41 := ⟨by decide +kernel, rfl⟩
theorem d_Re_isWord_41 : dd m_Re_isWord 41 .baload 1 42 := ⟨by decide +kernel, rfl⟩
theorem d_Re_isWord_42 : dd m_Re_isWord 42 (.aload_n 1) 1 43 := ⟨by decide +kernel, rfl⟩
theorem d_Re_isWord_43 : dd m_Re_isWord 43 (.iload_n 2) 1 44 := ⟨by decide +kernel, rfl⟩
theorem d_Re_isWord_44 : dd m_Re_isWord 44 (.invokevirtual 159) 3 47 := ⟨by decide +kernel, rfl⟩
theorem d_Re_isWord_47 : db m_Re_isWord 47 (.if_icmp .eq) 50 52 := ⟨5, by decide +kernel, rfl, rfl⟩
theorem d_Re_isWord_50 : dd m_Re_isWord 50 (.iconst 0) 1 51 := ⟨by decide +kernel, rfl⟩
theorem d_Re_isWord_51 : decode (mbt m_Re_isWord) 51 = .ok (.ireturn, 1) := by decide +kernel
theorem d_Re_isWord_52 : dd m_Re_isWord 52 (.iinc 2 1) 3 55 := ⟨by decide +kernel, rfl⟩
theorem d_Re_isWord_55 : db m_Re_isWord 55 .goto 58 20 := ⟨(-35), by decide +kernel, rfl, rfl⟩
theorem d_Re_isWord_58 : dd m_Re_isWord 58 (.iconst 1) 1 59 := ⟨by decide +kernel, rfl⟩
theorem d_Re_isWord_59 : decode (mbt m_Re_isWord) 59 = .ok (.ireturn, 1) := by decide +kernel
theorem d_Re_readSizeLine_0 : dd m_Re_readSizeLine 0 (.aload_n 0) 1 1 := ⟨by decide +kernel, rfl⟩
theorem d_Re_readSizeLine_1 : dd m_Re_readSizeLine 1 (.getfield 54) 3 4 := ⟨by decide +kernel, rfl⟩
theorem d_Re_readSizeLine_4 : dd m_Re_readSizeLine 4 (.iconst 5) 1 5 := ⟨by decide +kernel, rfl⟩
theorem d_Re_readSizeLine_5 : db m_Re_readSizeLine 5 (.if_icmp .eq) 8 14 := ⟨9, by decide +kernel, rfl, rfl⟩
theorem d_Re_readSizeLine_8 : dd m_Re_readSizeLine 8 (.aload_n 0) 1 9 := ⟨by decide +kernel, rfl⟩
theorem d_Re_readSizeLine_9 : dd m_Re_readSizeLine 9 (.iconst 1) 1 10 := ⟨by decide +kernel, rfl⟩
theorem d_Re_readSizeLine_10 : dd m_Re_readSizeLine 10 (.invokevirtual 61) 3 13 := ⟨by decide +kernel, rfl⟩
theorem d_Re_readSizeLine_13 : decode (mbt m_Re_readSizeLine) 13 = .ok (.ireturn, 1) := by decide +kernel
theorem d_Re_readSizeLine_14 : dd m_Re_readSizeLine 14 (.aload_n 0) 1 15 := ⟨by decide +kernel, rfl⟩
theorem d_Re_readSizeLine_15 : dd m_Re_readSizeLine 15 (.invokevirtual 51) 3 18 := ⟨by decide +kernel, rfl⟩
theorem d_Re_readSizeLine_18 : dd m_Re_readSizeLine 18 (.aload_n 0) 1 19 := ⟨by decide +kernel, rfl⟩
theorem d_Re_readSizeLine_19 : dd m_Re_readSizeLine 19 (.getfield 54) 3 22 := ⟨by decide +kernel, rfl⟩
theorem d_Re_readSizeLine_22 : dd m_Re_readSizeLine 22 (.iconst 2) 1 23 := ⟨by decide +kernel, rfl⟩
theorem d_Re_readSizeLine_23 : db m_Re_readSizeLine 23 (.if_icmp .eq) 26 32 := ⟨9, by decide +kernel, rfl, rfl⟩
theorem d_Re_readSizeLine_26 : dd m_Re_readSizeLine 26 (.aload_n 0) 1 27 := ⟨by decide +kernel, rfl⟩
theorem d_Re_readSizeLine_27 : dd m_Re_readSizeLine 27 (.iconst 1) 1 28 := ⟨by decide +kernel, rfl⟩
theorem d_Re_readSizeLine_28 : dd m_Re_readSizeLine 28 (.invokevirtual 61) 3 31 := ⟨by decide +kernel, rfl⟩
theorem d_Re_readSizeLine_31 : decode (mbt m_Re_readSizeLine) 31 = .ok (.ireturn, 1) := by decide +kernel
theorem d_Re_readSizeLine_32 : dd m_Re_readSizeLine 32 (.aload_n 0) 1 33 := ⟨by decide +kernel, rfl⟩
theorem d_Re_readSizeLine_33 : dd m_Re_readSizeLine 33 (.getfield 71) 3 36 := ⟨by decide +kernel, rfl⟩
theorem d_Re_readSizeLine_36 : dd m_Re_readSizeLine 36 (.iconst 2) 1 37 := ⟨by decide +kernel, rfl⟩
theorem d_Re_readSizeLine_37 : db m_Re_readSizeLine 37 (.if_icmp .lt) 40 49 := ⟨12, by decide +kernel, rfl, rfl⟩
theorem d_Re_readSizeLine_40 : dd m_Re_readSizeLine 40 (.aload_n 0) 1 41 := ⟨by decide +kernel, rfl⟩
theorem d_Re_readSizeLine_41 : dd m_Re_readSizeLine 41 (.getfield 71) 3 44 := ⟨by decide +kernel, rfl⟩
theorem d_Re_readSizeLine_44 : dd m_Re_readSizeLine 44 (.bipush 10) 2 46 := ⟨by decide +kernel, rfl⟩
theorem d_Re_readSizeLine_46 : db m_Re_readSizeLine 46 (.if_icmp .le) 49 55 := ⟨9, by decide +kernel, rfl, rfl⟩
theorem d_Re_readSizeLine_49 : dd m_Re_readSizeLine 49 (.aload_n 0) 1 50 := ⟨by decide +kernel, rfl⟩
theorem d_Re_readSizeLine_50 : dd m_Re_readSizeLine 50 (.iconst 2) 1 51 := ⟨by decide +kernel, rfl⟩
theorem d_Re_readSizeLine_51 : dd m_Re_readSizeLine 51 (.invokevirtual 61) 3 54 := ⟨by decide +kernel, rfl⟩
theorem d_Re_readSizeLine_54 : decode (mbt m_Re_readSizeLine) 54 = .ok (.ireturn, 1) := by decide +kernel
theorem d_Re_readSizeLine_55 : dd m_Re_readSizeLine 55 (.aload_n 0) 1 56 := ⟨by decide +kernel, rfl⟩
theorem d_Re_readSizeLine_56 : dd m_Re_readSizeLine 56 (.getfield 12) 3 59 := ⟨by decide +kernel, rfl⟩
theorem d_Re_readSizeLine_59 : dd m_Re_readSizeLine 59 (.aload_n 0) 1 60 := ⟨by decide +kernel, rfl⟩
theorem d_Re_readSizeLine_60 : dd m_Re_readSizeLine 60 (.getfield 71) 3 63 := ⟨by decide +kernel, rfl⟩
theorem d_Re_readSizeLine_63 : dd m_Re_readSizeLine 63 (.putfield 74) 3 66 := ⟨by decide +kernel, rfl⟩
theorem d_Re_readSizeLine_66 : dd m_Re_readSizeLine 66 (.aload_n 0) 1 67 := ⟨by decide +kernel, rfl⟩
theorem d_Re_readSizeLine_67 : dd m_Re_readSizeLine 67 (.invokevirtual 51) 3 70 := ⟨by decide +kernel, rfl⟩
theorem d_Re_readSizeLine_70 : dd m_Re_readSizeLine 70 (.aload_n 0) 1 71 := ⟨by decide +kernel, rfl⟩
theorem d_Re_readSizeLine_71 : dd m_Re_readSizeLine 71 (.invokevirtual 77) 3 74 := ⟨by decide +kernel, rfl⟩
theorem d_Re_readSizeLine_74 : decode (mbt m_Re_readSizeLine) 74 = .ok (.ireturn, 1) := by decide +kernel
theorem d_Re_refuse_0 : dd m_Re_refuse 0 (.aload_n 0) 1 1 := ⟨by decide +kernel, rfl⟩
theorem d_Re_refuse_1 : dd m_Re_refuse 1 (.iload_n 1) 1 2 := ⟨by decide +kernel, rfl⟩
theorem d_Re_refuse_2 : dd m_Re_refuse 2 (.putfield 45) 3 5 := ⟨by decide +kernel, rfl⟩
theorem d_Re_refuse_5 : dd m_Re_refuse 5 (.aload_n 0) 1 6 := ⟨by decide +kernel, rfl⟩
theorem d_Re_refuse_6 : dd m_Re_refuse 6 (.aload_n 0) 1 7 := ⟨by decide +kernel, rfl⟩
theorem d_Re_refuse_7 : dd m_Re_refuse 7 (.getfield 121) 3 10 := ⟨by decide +kernel, rfl⟩
theorem d_Re_refuse_10 : dd m_Re_refuse 10 (.putfield 48) 3 13 := ⟨by decide +kernel, rfl⟩
theorem d_Re_refuse_13 : dd m_Re_refuse 13 (.iconst 0) 1 14 := ⟨by decide +kernel, rfl⟩
theorem d_Re_refuse_14 : decode (mbt m_Re_refuse) 14 = .ok (.ireturn, 1) := by decide +kernel
theorem d_Re_readSemicolon_0 : dd m_Re_readSemicolon 0 (.aload_n 0) 1 1 := ⟨by decide +kernel, rfl⟩
theorem d_Re_readSemicolon_1 : dd m_Re_readSemicolon 1 (.getfield 54) 3 4 := ⟨by decide +kernel, rfl⟩
theorem d_Re_readSemicolon_4 : dd m_Re_readSemicolon 4 (.iconst 3) 1 5 := ⟨by decide +kernel, rfl⟩
theorem d_Re_readSemicolon_5 : db m_Re_readSemicolon 5 (.if_icmp .eq) 8 14 := ⟨9, by decide +kernel, rfl, rfl⟩
theorem d_Re_readSemicolon_8 : dd m_Re_readSemicolon 8 (.aload_n 0) 1 9 := ⟨by decide +kernel, rfl⟩
theorem d_Re_readSemicolon_9 : dd m_Re_readSemicolon 9 (.iconst 1) 1 10 := ⟨by decide +kernel, rfl⟩
theorem d_Re_readSemicolon_10 : dd m_Re_readSemicolon 10 (.invokevirtual 61) 3 13 := ⟨by decide +kernel, rfl⟩
theorem d_Re_readSemicolon_13 : decode (mbt m_Re_readSemicolon) 13 = .ok (.ireturn, 1) := by decide +kernel
theorem d_Re_readSemicolon_14 : dd m_Re_readSemicolon 14 (.aload_n 0) 1 15 := ⟨by decide +kernel, rfl⟩
theorem d_Re_readSemicolon_15 : dd m_Re_readSemicolon 15 (.invokevirtual 51) 3 18 := ⟨by decide +kernel, rfl⟩
theorem d_Re_readSemicolon_18 : dd m_Re_readSemicolon 18 (.iconst 1) 1 19 := ⟨by decide +kernel, rfl⟩
theorem d_Re_readSemicolon_19 : decode (mbt m_Re_readSemicolon) 19 = .ok (.ireturn, 1) := by decide +kernel
theorem d_Re_readSeriesLine_0 : dd m_Re_readSeriesLine 0 (.aload_n 0) 1 1 := ⟨by decide +kernel, rfl⟩
theorem d_Re_readSeriesLine_1 : dd m_Re_readSeriesLine 1 (.getfield 39) 3 4 := ⟨by decide +kernel, rfl⟩
theorem d_Re_readSeriesLine_4 : dd m_Re_readSeriesLine 4 (.bipush 6) 2 6 := ⟨by decide +kernel, rfl⟩
theorem d_Re_readSeriesLine_6 : db m_Re_readSeriesLine 6 (.if_icmp .lt) 9 15 := ⟨9, by decide +kernel, rfl, rfl⟩
theorem d_Re_readSeriesLine_9 : dd m_Re_readSeriesLine 9 (.aload_n 0) 1 10 := ⟨by decide +kernel, rfl⟩
theorem d_Re_readSeriesLine_10 : dd m_Re_readSeriesLine 10 (.iconst 3) 1 11 := ⟨by decide +kernel, rfl⟩
theorem d_Re_readSeriesLine_11 : dd m_Re_readSeriesLine 11 (.invokevirtual 61) 3 14 := ⟨by decide +kernel, rfl⟩
theorem d_Re_readSeriesLine_14 : decode (mbt m_Re_readSeriesLine) 14 = .ok (.ireturn, 1) := by decide +kernel
theorem d_Re_readSeriesLine_15 : dd m_Re_readSeriesLine 15 (.aload_n 0) 1 16 := ⟨by decide +kernel, rfl⟩
theorem d_Re_readSeriesLine_16 : dd m_Re_readSeriesLine 16 (.getfield 12) 3 19 := ⟨by decide +kernel, rfl⟩
theorem d_Re_readSeriesLine_19 : dd m_Re_readSeriesLine 19 (.getfield 80) 3 22 := ⟨by decide +kernel, rfl⟩
theorem d_Re_readSeriesLine_22 : dd m_Re_readSeriesLine 22 (.aload_n 0) 1 23 := ⟨by decide +kernel, rfl⟩
theorem d_Re_readSeriesLine_23 : dd m_Re_readSeriesLine 23 (.getfield 39) 3 26 := ⟨by decide +kernel, rfl⟩
theorem d_Re_readSeriesLine_26 : dd m_Re_readSeriesLine 26 .aaload 1 27 := ⟨by decide +kernel, rfl⟩
theorem d_Re_readSeriesLine_27 : dd m_Re_readSeriesLine 27 (.astore_n 1) 1 28 := ⟨by decide +kernel, rfl⟩
theorem d_Re_readSeriesLine_28 : dd m_Re_readSeriesLine 28 (.aload_n 0) 1 29 := ⟨by decide +kernel, rfl⟩
theorem d_Re_readSeriesLine_29 : dd m_Re_readSeriesLine 29 (.invokevirtual 51) 3 32 := ⟨by decide +kernel, rfl⟩
theorem d_Re_readSeriesLine_32 : dd m_Re_readSeriesLine 32 (.aload_n 0) 1 33 := ⟨by decide +kernel, rfl⟩
theorem d_Re_readSeriesLine_33 : dd m_Re_readSeriesLine 33 (.aload_n 1) 1 34 := ⟨by decide +kernel, rfl⟩
theorem d_Re_readSeriesLine_34 : dd m_Re_readSeriesLine 34 (.iconst 0) 1 35 := ⟨by decide +kernel, rfl⟩
theorem d_Re_readSeriesLine_35 : dd m_Re_readSeriesLine 35 (.invokevirtual 84) 3 38 := ⟨by decide +kernel, rfl⟩
theorem d_Re_readSeriesLine_38 : db m_Re_readSeriesLine 38 (.ifCond .ne) 41 43 := ⟨5, by decide +kernel, rfl, rfl⟩
theorem d_Re_readSeriesLine_41 : dd m_Re_readSeriesLine 41 (.iconst 0) 1 42 := ⟨by decide +kernel, rfl⟩
theorem d_Re_readSeriesLine_42 : decode (mbt m_Re_readSeriesLine) 42 = .ok (.ireturn, 1) := by decide +kernel
theorem d_Re_readSeriesLine_43 : dd m_Re_readSeriesLine 43 (.aload_n 0) 1 44 := ⟨by decide +kernel, rfl⟩
theorem d_Re_readSeriesLine_44 : dd m_Re_readSeriesLine 44 (.getfield 54) 3 47 := ⟨by decide +kernel, rfl⟩
theorem d_Re_readSeriesLine_47 : dd m_Re_readSeriesLine 47 (.bipush 7) 2 49 := ⟨by decide +kernel, rfl⟩
theorem d_Re_readSeriesLine_49 : db m_Re_readSeriesLine 49 (.if_icmp .ne) 52 85 := ⟨36, by decide +kernel, rfl, rfl⟩
theorem d_Re_readSeriesLine_52 : dd m_Re_readSeriesLine 52 (.aload_n 0) 1 53 := ⟨by decide +kernel, rfl⟩
theorem d_Re_readSeriesLine_53 : dd m_Re_readSeriesLine 53 (.invokevirtual 51) 3 56 := ⟨by decide +kernel, rfl⟩
theorem d_Re_readSeriesLine_56 : dd m_Re_readSeriesLine 56 (.aload_n 0) 1 57 := ⟨by decide +kernel, rfl⟩
theorem d_Re_readSeriesLine_57 : dd m_Re_readSeriesLine 57 (.aload_n 0) 1 58 := ⟨by decide +kernel, rfl⟩
theorem d_Re_readSeriesLine_58 : dd m_Re_readSeriesLine 58 (.getfield 25) 3 61 := ⟨by decide +kernel, rfl⟩
theorem d_Re_readSeriesLine_61 : dd m_Re_readSeriesLine 61 (.iconst 1) 1 62 := ⟨by decide +kernel, rfl⟩
theorem d_Re_readSeriesLine_62 : dd m_Re_readSeriesLine 62 (.invokevirtual 84) 3 65 := ⟨by decide +kernel, rfl⟩
theorem d_Re_readSeriesLine_65 : db m_Re_readSeriesLine 65 (.ifCond .ne) 68 70 := ⟨5, by decide +kernel, rfl, rfl⟩
theorem d_Re_readSeriesLine_68 : dd m_Re_readSeriesLine 68 (.iconst 0) 1 69 := ⟨by decide +kernel, rfl⟩
theorem d_Re_readSeriesLine_69 : decode (mbt m_Re_readSeriesLine) 69 = .ok (.ireturn, 1) := by decide +kernel
theorem d_Re_readSeriesLine_70 : dd m_Re_readSeriesLine 70 (.aload_n 1) 1 71 := ⟨by decide +kernel, rfl⟩
theorem d_Re_readSeriesLine_71 : dd m_Re_readSeriesLine 71 (.aload_n 0) 1 72 := ⟨by decide +kernel, rfl⟩
theorem d_Re_readSeriesLine_72 : dd m_Re_readSeriesLine 72 (.getfield 25) 3 75 := ⟨by decide +kernel, rfl⟩
theorem d_Re_readSeriesLine_75 : dd m_Re_readSeriesLine 75 (.aload_n 0) 1 76 := ⟨by decide +kernel, rfl⟩
theorem d_Re_readSeriesLine_76 : dd m_Re_readSeriesLine 76 (.getfield 12) 3 79 := ⟨by decide +kernel, rfl⟩
theorem d_Re_readSeriesLine_79 : dd m_Re_readSeriesLine 79 (.getfield 74) 3 82 := ⟨by decide +kernel, rfl⟩
theorem d_Re_readSeriesLine_82 : dd m_Re_readSeriesLine 82 (.invokestatic 88) 3 85 := ⟨by decide +kernel, rfl⟩
theorem d_Re_readSeriesLine_85 : dd m_Re_readSeriesLine 85 (.aload_n 0) 1 86 := ⟨by decide +kernel, rfl⟩
theorem d_Re_readSeriesLine_86 : dd m_Re_readSeriesLine 86 .dup 1 87 := ⟨by decide +kernel, rfl⟩
theorem d_Re_readSeriesLine_87 : dd m_Re_readSeriesLine 87 (.getfield 39) 3 90 := ⟨by decide +kernel, rfl⟩
theorem d_Re_readSeriesLine_90 : dd m_Re_readSeriesLine 90 (.iconst 1) 1 91 := ⟨by decide +kernel, rfl⟩
theorem d_Re_readSeriesLine_91 : dd m_Re_readSeriesLine 91 .iadd 1 92 := ⟨by decide +kernel, rfl⟩
theorem d_Re_readSeriesLine_92 : dd m_Re_readSeriesLine 92 (.putfield 39) 3 95 := ⟨by decide +kernel, rfl⟩
theorem d_Re_readSeriesLine_95 : dd m_Re_readSeriesLine 95 (.aload_n 0) 1 96 := ⟨by decide +kernel, rfl⟩
theorem d_Re_readSeriesLine_96 : dd m_Re_readSeriesLine 96 (.invokevirtual 77) 3 99 := ⟨by decide +kernel, rfl⟩
theorem d_Re_readSeriesLine_99 : decode (mbt m_Re_readSeriesLine) 99 = .ok (.ireturn, 1) := by decide +kernel
theorem d_Re_readSum_0 : dd m_Re_readSum 0 (.aload_n 1) 1 1 := ⟨by decide +kernel, rfl⟩
theorem d_Re_readSum_1 : dd m_Re_readSum 1 (.iconst 0) 1 2 := ⟨by decide +kernel, rfl⟩
theorem d_Re_readSum_2 : dd m_Re_readSum 2 (.invokestatic 94) 3 5 := ⟨by decide +kernel, rfl⟩
theorem d_Re_readSum_5 : dd m_Re_readSum 5 (.iconst 0) 1 6 := ⟨by decide +kernel, rfl⟩
theorem d_Re_readSum_6 : dd m_Re_readSum 6 (.istore_n 3) 1 7 := ⟨by decide +kernel, rfl⟩
theorem d_Re_readSum_7 : dd m_Re_readSum 7 (.iload_n 3) 1 8 := ⟨by decide +kernel, rfl⟩
theorem d_Re_readSum_8 : dd m_Re_readSum 8 (.aload_n 0) 1 9 := ⟨by decide +kernel, rfl⟩
theorem d_Re_readSum_9 : dd m_Re_readSum 9 (.getfield 12) 3 12 := ⟨by decide +kernel, rfl⟩
theorem d_Re_readSum_12 : dd m_Re_readSum 12 (.getfield 74) 3 15 := ⟨by decide +kernel, rfl⟩
theorem d_Re_readSum_15 : db m_Re_readSum 15 (.if_icmp .ge) 18 132 := ⟨117, by decide +kernel, rfl, rfl⟩
theorem d_Re_readSum_18 : dd m_Re_readSum 18 (.iload_n 3) 1 19 := ⟨by decide +kernel, rfl⟩
theorem d_Re_readSum_19 : db m_Re_readSum 19 (.ifCond .le) 22 40 := ⟨21, by decide +kernel, rfl, rfl⟩
theorem d_Re_readSum_22 : dd m_Re_readSum 22 (.aload_n 0) 1 23 := ⟨by decide +kernel, rfl⟩
theorem d_Re_readSum_23 : dd m_Re_readSum 23 (.getfield 54) 3 26 := ⟨by decide +kernel, rfl⟩
theorem d_Re_readSum_26 : dd m_Re_readSum 26 (.iconst 4) 1 27 := ⟨by decide +kernel, rfl⟩
theorem d_Re_readSum_27 : db m_Re_readSum 27 (.if_icmp .eq) 30 40 := ⟨13, by decide +kernel, rfl, rfl⟩
theorem d_Re_readSum_30 : dd m_Re_readSum 30 (.aload_n 0) 1 31 := ⟨by decide +kernel, rfl⟩
theorem d_Re_readSum_31 : dd m_Re_readSum 31 (.getfield 54) 3 34 := ⟨by decide +kernel, rfl⟩
theorem d_Re_readSum_34 : dd m_Re_readSum 34 (.iconst 2) 1 35 := ⟨by decide +kernel, rfl⟩
theorem d_Re_readSum_35 : db m_Re_readSum 35 (.if_icmp .eq) 38 40 := ⟨5, by decide +kernel, rfl, rfl⟩
theorem d_Re_readSum_38 : dd m_Re_readSum 38 (.iconst 1) 1 39 := ⟨by decide +kernel, rfl⟩
theorem d_Re_readSum_39 : decode (mbt m_Re_readSum) 39 = .ok (.ireturn, 1) := by decide +kernel
theorem d_Re_readSum_40 : dd m_Re_readSum 40 (.aload_n 0) 1 41 := ⟨by decide +kernel, rfl⟩
theorem d_Re_readSum_41 : dd m_Re_readSum 41 (.getfield 54) 3 44 := ⟨by decide +kernel, rfl⟩
theorem d_Re_readSum_44 : dd m_Re_readSum 44 (.iconst 4) 1 45 := ⟨by decide +kernel, rfl⟩
theorem d_Re_readSum_45 : db m_Re_readSum 45 (.if_icmp .ne) 48 52 := ⟨7, by decide +kernel, rfl, rfl⟩
theorem d_Re_readSum_48 : dd m_Re_readSum 48 (.iconst 1) 1 49 := ⟨by decide +kernel, rfl⟩
theorem d_Re_readSum_49 : db m_Re_readSum 49 .goto 52 53 := ⟨4, by decide +kernel, rfl, rfl⟩
theorem d_Re_readSum_52 : dd m_Re_readSum 52 (.iconst 0) 1 53 := ⟨by decide +kernel, rfl⟩
theorem d_Re_readSum_53 : dd m_Re_readSum 53 (.istore 4) 2 55 := ⟨by decide +kernel, rfl⟩
theorem d_Re_readSum_55 : dd m_Re_readSum 55 (.iload 4) 2 57 := ⟨by decide +kernel, rfl⟩
theorem d_Re_readSum_57 : db m_Re_readSum 57 (.ifCond .eq) 60 64 := ⟨7, by decide +kernel, rfl, rfl⟩
theorem d_Re_readSum_60 : dd m_Re_readSum 60 (.aload_n 0) 1 61 := ⟨by decide +kernel, rfl⟩
theorem d_Re_readSum_61 : dd m_Re_readSum 61 (.invokevirtual 51) 3 64 := ⟨by decide +kernel, rfl⟩
theorem d_Re_readSum_64 : dd m_Re_readSum 64 (.aload_n 0) 1 65 := ⟨by decide +kernel, rfl⟩
theorem d_Re_readSum_65 : dd m_Re_readSum 65 (.getfield 54) 3 68 := ⟨by decide +kernel, rfl⟩
theorem d_Re_readSum_68 : dd m_Re_readSum 68 (.iconst 2) 1 69 := ⟨by decide +kernel, rfl⟩
theorem d_Re_readSum_69 : db m_Re_readSum 69 (.if_icmp .eq) 72 78 := ⟨9, by decide +kernel, rfl, rfl⟩
theorem d_Re_readSum_72 : dd m_Re_readSum 72 (.aload_n 0) 1 73 := ⟨by decide +kernel, rfl⟩
theorem d_Re_readSum_73 : dd m_Re_readSum 73 (.iconst 1) 1 74 := ⟨by decide +kernel, rfl⟩
theorem d_Re_readSum_74 : dd m_Re_readSum 74 (.invokevirtual 61) 3 77 := ⟨by decide +kernel, rfl⟩
theorem d_Re_readSum_77 : decode (mbt m_Re_readSum) 77 = .ok (.ireturn, 1) := by decide +kernel
theorem d_Re_readSum_78 : dd m_Re_readSum 78 (.iload_n 3) 1 79 := ⟨by decide +kernel, rfl⟩
theorem d_Re_readSum_79 : db m_Re_readSum 79 (.ifCond .ne) 82 99 := ⟨20, by decide +kernel, rfl, rfl⟩
theorem d_Re_readSum_82 : dd m_Re_readSum 82 (.iload_n 2) 1 83 := ⟨by decide +kernel, rfl⟩
theorem d_Re_readSum_83 : db m_Re_readSum 83 (.ifCond .eq) 86 99 := ⟨16, by decide +kernel, rfl, rfl⟩
theorem d_Re_readSum_86 : dd m_Re_readSum 86 (.aload_n 0) 1 87 := ⟨by decide +kernel, rfl⟩
theorem d_Re_readSum_87 : dd m_Re_readSum 87 (.getfield 71) 3 90 := ⟨by decide +kernel, rfl⟩
theorem d_Re_readSum_90 : db m_Re_readSum 90 (.ifCond .ne) 93 99 := ⟨9, by decide +kernel, rfl, rfl⟩
theorem d_Re_readSum_93 : dd m_Re_readSum 93 (.aload_n 0) 1 94 := ⟨by decide +kernel, rfl⟩
theorem d_Re_readSum_94 : dd m_Re_readSum 94 (.iconst 2) 1 95 := ⟨by decide +kernel, rfl⟩
theorem d_Re_readSum_95 : dd m_Re_readSum 95 (.invokevirtual 61) 3 98 := ⟨by decide +kernel, rfl⟩
theorem d_Re_readSum_98 : decode (mbt m_Re_readSum) 98 = .ok (.ireturn, 1) := by decide +kernel
theorem d_Re_readSum_99 : dd m_Re_readSum 99 (.aload_n 1) 1 100 := ⟨by decide +kernel, rfl⟩
theorem d_Re_readSum_100 : dd m_Re_readSum 100 (.iload_n 3) 1 101 := ⟨by decide +kernel, rfl⟩
theorem d_Re_readSum_101 : dd m_Re_readSum 101 (.iload 4) 2 103 := ⟨by decide +kernel, rfl⟩
theorem d_Re_readSum_103 : db m_Re_readSum 103 (.ifCond .eq) 106 117 := ⟨14, by decide +kernel, rfl, rfl⟩
theorem d_Re_readSum_106 : dd m_Re_readSum 106 (.iconst 0) 1 107 := ⟨by decide +kernel, rfl⟩
theorem d_Re_readSum_107 : dd m_Re_readSum 107 (.aload_n 0) 1 108 := ⟨by decide +kernel, rfl⟩
theorem d_Re_readSum_108 : dd m_Re_readSum 108 (.getfield 71) 3 111 := ⟨by decide +kernel, rfl⟩
theorem d_Re_readSum_111 : dd m_Re_readSum 111 (.invokestatic 100) 3 114 := ⟨by decide +kernel, rfl⟩
theorem d_Re_readSum_114 : db m_Re_readSum 114 .goto 117 121 := ⟨7, by decide +kernel, rfl, rfl⟩
theorem d_Re_readSum_117 : dd m_Re_readSum 117 (.aload_n 0) 1 118 := ⟨by decide +kernel, rfl⟩
theorem d_Re_readSum_118 : dd m_Re_readSum 118 (.getfield 71) 3 121 := ⟨by decide +kernel, rfl⟩
theorem d_Re_readSum_121 : dd m_Re_readSum 121 .iastore 1 122 := ⟨by decide +kernel, rfl⟩
theorem d_Re_readSum_122 : dd m_Re_readSum 122 (.aload_n 0) 1 123 := ⟨by decide +kernel, rfl⟩
theorem d_Re_readSum_123 : dd m_Re_readSum 123 (.invokevirtual 51) 3 126 := ⟨by decide +kernel, rfl⟩
theorem d_Re_readSum_126 : dd m_Re_readSum 126 (.iinc 3 1) 3 129 := ⟨by decide +kernel, rfl⟩
theorem d_Re_readSum_129 : db m_Re_readSum 129 .goto 132 7 := ⟨(-122), by decide +kernel, rfl, rfl⟩
theorem d_Re_readSum_132 : dd m_Re_readSum 132 (.iconst 1) 1 133 := ⟨by decide +kernel, rfl⟩
theorem d_Re_readSum_133 : decode (mbt m_Re_readSum) 133 = .ok (.ireturn, 1) := by decide +kernel
theorem d_Re_readTableLine_0 : dd m_Re_readTableLine 0 (.aload_n 0) 1 1 := ⟨by decide +kernel, rfl⟩
theorem d_Re_readTableLine_1 : dd m_Re_readTableLine 1 (.getfield 42) 3 4 := ⟨by decide +kernel, rfl⟩
theorem d_Re_readTableLine_4 : dd m_Re_readTableLine 4 (.iconst 4) 1 5 := ⟨by decide +kernel, rfl⟩
theorem d_Re_readTableLine_5 : db m_Re_readTableLine 5 (.if_icmp .lt) 8 14 := ⟨9, by decide +kernel, rfl, rfl⟩
theorem d_Re_readTableLine_8 : dd m_Re_readTableLine 8 (.aload_n 0) 1 9 := ⟨by decide +kernel, rfl⟩
theorem d_Re_readTableLine_9 : dd m_Re_readTableLine 9 (.iconst 3) 1 10 := ⟨by decide +kernel, rfl⟩
theorem d_Re_readTableLine_10 : dd m_Re_readTableLine 10 (.invokevirtual 61) 3 13 := ⟨by decide +kernel, rfl⟩
theorem d_Re_readTableLine_13 : decode (mbt m_Re_readTableLine) 13 = .ok (.ireturn, 1) := by decide +kernel
theorem d_Re_readTableLine_14 : dd m_Re_readTableLine 14 (.aload_n 0) 1 15 := ⟨by decide +kernel, rfl⟩
theorem d_Re_readTableLine_15 : dd m_Re_readTableLine 15 (.invokevirtual 51) 3 18 := ⟨by decide +kernel, rfl⟩
theorem d_Re_readTableLine_18 : dd m_Re_readTableLine 18 (.aload_n 0) 1 19 := ⟨by decide +kernel, rfl⟩
theorem d_Re_readTableLine_19 : dd m_Re_readTableLine 19 (.invokevirtual 104) 3 22 := ⟨by decide +kernel, rfl⟩
theorem d_Re_readTableLine_22 : db m_Re_readTableLine 22 (.ifCond .ne) 25 27 := ⟨5, by decide +kernel, rfl, rfl⟩
theorem d_Re_readTableLine_25 : dd m_Re_readTableLine 25 (.iconst 0) 1 26 := ⟨by decide +kernel, rfl⟩
theorem d_Re_readTableLine_26 : decode (mbt m_Re_readTableLine) 26 = .ok (.ireturn, 1) := by decide +kernel
theorem d_Re_readTableLine_27 : dd m_Re_readTableLine 27 (.aload_n 0) 1 28 := ⟨by decide +kernel, rfl⟩
theorem d_Re_readTableLine_28 : dd m_Re_readTableLine 28 (.getfield 12) 3 31 := ⟨by decide +kernel, rfl⟩
theorem d_Re_readTableLine_31 : dd m_Re_readTableLine 31 (.getfield 80) 3 34 := ⟨by decide +kernel, rfl⟩
theorem d_Re_readTableLine_34 : dd m_Re_readTableLine 34 (.aload_n 0) 1 35 := ⟨by decide +kernel, rfl⟩
theorem d_Re_readTableLine_35 : dd m_Re_readTableLine 35 (.getfield 71) 3 38 := ⟨by decide +kernel, rfl⟩
theorem d_Re_readTableLine_38 : dd m_Re_readTableLine 38 .aaload 1 39 := ⟨by decide +kernel, rfl⟩
theorem d_Re_readTableLine_39 : dd m_Re_readTableLine 39 (.astore_n 1) 1 40 := ⟨by decide +kernel, rfl⟩
theorem d_Re_readTableLine_40 : dd m_Re_readTableLine 40 (.aload_n 0) 1 41 := ⟨by decide +kernel, rfl⟩
theorem d_Re_readTableLine_41 : dd m_Re_readTableLine 41 (.invokevirtual 51) 3 44 := ⟨by decide +kernel, rfl⟩
theorem d_Re_readTableLine_44 : dd m_Re_readTableLine 44 (.aload_n 0) 1 45 := ⟨by decide +kernel, rfl⟩
theorem d_Re_readTableLine_45 : dd m_Re_readTableLine 45 (.invokevirtual 104) 3 48 := ⟨by decide +kernel, rfl⟩
theorem d_Re_readTableLine_48 : db m_Re_readTableLine 48 (.ifCond .ne) 51 53 := ⟨5, by decide +kernel, rfl, rfl⟩
theorem d_Re_readTableLine_51 : dd m_Re_readTableLine 51 (.iconst 0) 1 52 := ⟨by decide +kernel, rfl⟩
theorem d_Re_readTableLine_52 : decode (mbt m_Re_readTableLine) 52 = .ok (.ireturn, 1) := by decide +kernel
theorem d_Re_readTableLine_53 : dd m_Re_readTableLine 53 (.aload_n 0) 1 54 := ⟨by decide +kernel, rfl⟩
theorem d_Re_readTableLine_54 : dd m_Re_readTableLine 54 (.getfield 12) 3 57 := ⟨by decide +kernel, rfl⟩
theorem d_Re_readTableLine_57 : dd m_Re_readTableLine 57 (.getfield 80) 3 60 := ⟨by decide +kernel, rfl⟩
theorem d_Re_readTableLine_60 : dd m_Re_readTableLine 60 (.aload_n 0) 1 61 := ⟨by decide +kernel, rfl⟩
theorem d_Re_readTableLine_61 : dd m_Re_readTableLine 61 (.getfield 71) 3 64 := ⟨by decide +kernel, rfl⟩
theorem d_Re_readTableLine_64 : dd m_Re_readTableLine 64 .aaload 1 65 := ⟨by decide +kernel, rfl⟩
theorem d_Re_readTableLine_65 : dd m_Re_readTableLine 65 (.astore_n 2) 1 66 := ⟨by decide +kernel, rfl⟩
theorem d_Re_readTableLine_66 : dd m_Re_readTableLine 66 (.aload_n 1) 1 67 := ⟨by decide +kernel, rfl⟩
theorem d_Re_readTableLine_67 : dd m_Re_readTableLine 67 (.aload_n 2) 1 68 := ⟨by decide +kernel, rfl⟩
theorem d_Re_readTableLine_68 : dd m_Re_readTableLine 68 (.invokestatic 107) 3 71 := ⟨by decide +kernel, rfl⟩
theorem d_Re_readTableLine_71 : db m_Re_readTableLine 71 (.ifCond .ne) 74 80 := ⟨9, by decide +kernel, rfl, rfl⟩
theorem d_Re_readTableLine_74 : dd m_Re_readTableLine 74 (.aload_n 0) 1 75 := ⟨by decide +kernel, rfl⟩
theorem d_Re_readTableLine_75 : dd m_Re_readTableLine 75 (.iconst 4) 1 76 := ⟨by decide +kernel, rfl⟩
theorem d_Re_readTableLine_76 : dd m_Re_readTableLine 76 (.invokevirtual 61) 3 79 := ⟨by decide +kernel, rfl⟩
theorem d_Re_readTableLine_79 : decode (mbt m_Re_readTableLine) 79 = .ok (.ireturn, 1) := by decide +kernel
theorem d_Re_readTableLine_80 : dd m_Re_readTableLine 80 (.aload_n 0) 1 81 := ⟨by decide +kernel, rfl⟩
theorem d_Re_readTableLine_81 : dd m_Re_readTableLine 81 (.getfield 12) 3 84 := ⟨by decide +kernel, rfl⟩
theorem d_Re_readTableLine_84 : dd m_Re_readTableLine 84 (.getfield 111) 3 87 := ⟨by decide +kernel, rfl⟩
theorem d_Re_readTableLine_87 : dd m_Re_readTableLine 87 (.aload_n 0) 1 88 := ⟨by decide +kernel, rfl⟩
theorem d_Re_readTableLine_88 : dd m_Re_readTableLine 88 (.getfield 42) 3 91 := ⟨by decide +kernel, rfl⟩
theorem d_Re_readTableLine_91 : dd m_Re_readTableLine 91 .aaload 1 92 := ⟨by decide +kernel, rfl⟩
theorem d_Re_readTableLine_92 : dd m_Re_readTableLine 92 (.aload_n 1) 1 93 := ⟨by decide +kernel, rfl⟩
theorem d_Re_readTableLine_93 : dd m_Re_readTableLine 93 (.aload_n 2) 1 94 := ⟨by decide +kernel, rfl⟩
theorem d_Re_readTableLine_94 : dd m_Re_readTableLine 94 (.invokevirtual 115) 3 97 := ⟨by decide +kernel, rfl⟩
theorem d_Re_readTableLine_97 : dd m_Re_readTableLine 97 (.aload_n 0) 1 98 := ⟨by decide +kernel, rfl⟩
theorem d_Re_readTableLine_98 : dd m_Re_readTableLine 98 .dup 1 99 := ⟨by decide +kernel, rfl⟩
theorem d_Re_readTableLine_99 : dd m_Re_readTableLine 99 (.getfield 42) 3 102 := ⟨by decide +kernel, rfl⟩
theorem d_Re_readTableLine_102 : dd m_Re_readTableLine 102 (.iconst 1) 1 103 := ⟨by decide +kernel, rfl⟩
theorem d_Re_readTableLine_103 : dd m_Re_readTableLine 103 .iadd 1 104 := ⟨by decide +kernel, rfl⟩
theorem d_Re_readTableLine_104 : dd m_Re_readTableLine 104 (.putfield 42) 3 107 := ⟨by decide +kernel, rfl⟩
theorem d_Re_readTableLine_107 : dd m_Re_readTableLine 107 (.aload_n 0) 1 108 := ⟨by decide +kernel, rfl⟩
theorem d_Re_readTableLine_108 : dd m_Re_readTableLine 108 (.invokevirtual 51) 3 111 := ⟨by decide +kernel, rfl⟩
theorem d_Re_readTableLine_111 : dd m_Re_readTableLine 111 (.aload_n 0) 1 112 := ⟨by decide +kernel, rfl⟩
theorem d_Re_readTableLine_112 : dd m_Re_readTableLine 112 (.invokevirtual 77) 3 115 := ⟨by decide +kernel, rfl⟩
theorem d_Re_readTableLine_115 : decode (mbt m_Re_readTableLine) 115 = .ok (.ireturn, 1) := by decide +kernel
theorem d_Re_isToldSeries_0 : dd m_Re_isToldSeries 0 (.aload_n 0) 1 1 := ⟨by decide +kernel, rfl⟩
theorem d_Re_isToldSeries_1 : dd m_Re_isToldSeries 1 (.getfield 54) 3 4 := ⟨by decide +kernel, rfl⟩
theorem d_Re_isToldSeries_4 : dd m_Re_isToldSeries 4 (.iconst 2) 1 5 := ⟨by decide +kernel, rfl⟩
theorem d_Re_isToldSeries_5 : db m_Re_isToldSeries 5 (.if_icmp .eq) 8 14 := ⟨9, by decide +kernel, rfl, rfl⟩
theorem d_Re_isToldSeries_8 : dd m_Re_isToldSeries 8 (.aload_n 0) 1 9 := ⟨by decide +kernel, rfl⟩
theorem d_Re_isToldSeries_9 : dd m_Re_isToldSeries 9 (.iconst 1) 1 10 := ⟨by decide +kernel, rfl⟩
theorem d_Re_isToldSeries_10 : dd m_Re_isToldSeries 10 (.invokevirtual 61) 3 13 := ⟨by decide +kernel, rfl⟩
theorem d_Re_isToldSeries_13 : decode (mbt m_Re_isToldSeries) 13 = .ok (.ireturn, 1) := by decide +kernel
theorem d_Re_isToldSeries_14 : dd m_Re_isToldSeries 14 (.aload_n 0) 1 15 := ⟨by decide +kernel, rfl⟩
theorem d_Re_isToldSeries_15 : dd m_Re_isToldSeries 15 (.getfield 71) 3 18 := ⟨by decide +kernel, rfl⟩
theorem d_Re_isToldSeries_18 : db m_Re_isToldSeries 18 (.ifCond .lt) 21 32 := ⟨14, by decide +kernel, rfl, rfl⟩
theorem d_Re_isToldSeries_21 : dd m_Re_isToldSeries 21 (.aload_n 0) 1 22 := ⟨by decide +kernel, rfl⟩
theorem d_Re_isToldSeries_22 : dd m_Re_isToldSeries 22 (.getfield 71) 3 25 := ⟨by decide +kernel, rfl⟩
theorem d_Re_isToldSeries_25 : dd m_Re_isToldSeries 25 (.aload_n 0) 1 26 := ⟨by decide +kernel, rfl⟩
theorem d_Re_isToldSeries_26 : dd m_Re_isToldSeries 26 (.getfield 39) 3 29 := ⟨by decide +kernel, rfl⟩
theorem d_Re_isToldSeries_29 : db m_Re_isToldSeries 29 (.if_icmp .lt) 32 38 := ⟨9, by decide +kernel, rfl, rfl⟩
theorem d_Re_isToldSeries_32 : dd m_Re_isToldSeries 32 (.aload_n 0) 1 33 := ⟨by decide +kernel, rfl⟩
theorem d_Re_isToldSeries_33 : dd m_Re_isToldSeries 33 (.iconst 2) 1 34 := ⟨by decide +kernel, rfl⟩
theorem d_Re_isToldSeries_34 : dd m_Re_isToldSeries 34 (.invokevirtual 61) 3 37 := ⟨by decide +kernel, rfl⟩
theorem d_Re_isToldSeries_37 : decode (mbt m_Re_isToldSeries) 37 = .ok (.ireturn, 1) := by decide +kernel
theorem d_Re_isToldSeries_38 : dd m_Re_isToldSeries 38 (.iconst 1) 1 39 := ⟨by decide +kernel, rfl⟩
theorem d_Re_isToldSeries_39 : decode (mbt m_Re_isToldSeries) 39 = .ok (.ireturn, 1) := by decide +kernel
theorem d_Tb_entryOf_0 : dd m_Tb_entryOf 0 (.aload_n 1) 1 1 := ⟨by decide +kernel, rfl⟩
theorem d_Tb_entryOf_1 : dd m_Tb_entryOf 1 (.getfield 49) 3 4 := ⟨by decide +kernel, rfl⟩
theorem d_Tb_entryOf_4 : dd m_Tb_entryOf 4 (.iconst 0) 1 5 := ⟨by decide +kernel, rfl⟩
theorem d_Tb_entryOf_5 : dd m_Tb_entryOf 5 (.aload_n 0) 1 6 := ⟨by decide +kernel, rfl⟩
theorem d_Tb_entryOf_6 : dd m_Tb_entryOf 6 (.getfield 24) 3 9 := ⟨by decide +kernel, rfl⟩
theorem d_Tb_entryOf_9 : dd m_Tb_entryOf 9 (.iconst 0) 1 10 := ⟨by decide +kernel, rfl⟩
theorem d_Tb_entryOf_10 : dd m_Tb_entryOf 10 (.bipush 10) 2 12 := ⟨by decide +kernel, rfl⟩
theorem d_Tb_entryOf_12 : dd m_Tb_entryOf 12 (.invokestatic 52) 3 15 := ⟨by decide +kernel, rfl⟩
theorem d_Tb_entryOf_15 : dd m_Tb_entryOf 15 (.iconst 0) 1 16 := ⟨by decide +kernel, rfl⟩
theorem d_Tb_entryOf_16 : dd m_Tb_entryOf 16 (.istore 5) 2 18 := ⟨by decide +kernel, rfl⟩
theorem d_Tb_entryOf_18 : dd m_Tb_entryOf 18 (.iload 5) 2 20 := ⟨by decide +kernel, rfl⟩
theorem d_Tb_entryOf_20 : dd m_Tb_entryOf 20 (.iload_n 3) 1 21 := ⟨by decide +kernel, rfl⟩
theorem d_Tb_entryOf_21 : db m_Tb_entryOf 21 (.if_icmp .ge) 24 43 := ⟨22, by decide +kernel, rfl, rfl⟩
theorem d_Tb_entryOf_24 : dd m_Tb_entryOf 24 (.aload_n 0) 1 25 := ⟨by decide +kernel, rfl⟩
theorem d_Tb_entryOf_25 : dd m_Tb_entryOf 25 (.getfield 24) 3 28 := ⟨by decide +kernel, rfl⟩
theorem d_Tb_entryOf_28 : dd m_Tb_entryOf 28 (.aload_n 1) 1 29 := ⟨by decide +kernel, rfl⟩
theorem d_Tb_entryOf_29 : dd m_Tb_entryOf 29 (.getfield 58) 3 32 := ⟨by decide +kernel, rfl⟩
theorem d_Tb_entryOf_32 : dd m_Tb_entryOf 32 (.iload 4) 2 34 := ⟨by decide +kernel, rfl⟩
theorem d_Tb_entryOf_34 : dd m_Tb_entryOf 34 (.invokestatic 61) 3 37 := ⟨by decide +kernel, rfl⟩
theorem d_Tb_entryOf_37 : dd m_Tb_entryOf 37 (.iinc 5 1) 3 40 := ⟨by decide +kernel, rfl⟩
theorem d_Tb_entryOf_40 : db m_Tb_entryOf 40 .goto 43 18 := ⟨(-22), by decide +kernel, rfl, rfl⟩
theorem d_Tb_entryOf_43 : dd m_Tb_entryOf 43 (.aload_n 0) 1 44 := ⟨by decide +kernel, rfl⟩
theorem d_Tb_entryOf_44 : dd m_Tb_entryOf 44 (.getfield 24) 3 47 := ⟨by decide +kernel, rfl⟩
theorem d_Tb_entryOf_47 : dd m_Tb_entryOf 47 (.iload_n 2) 1 48 := ⟨by decide +kernel, rfl⟩
theorem d_Tb_entryOf_48 : dd m_Tb_entryOf 48 .iaload 1 49 := ⟨by decide +kernel, rfl⟩
theorem d_Tb_entryOf_49 : decode (mbt m_Tb_entryOf) 49 = .ok (.ireturn, 1) := by decide +kernel
theorem d_Tb_multiply_0 : dd m_Tb_multiply 0 (.aload_n 1) 1 1 := ⟨by decide +kernel, rfl⟩
theorem d_Tb_multiply_1 : dd m_Tb_multiply 1 (.getfield 49) 3 4 := ⟨by decide +kernel, rfl⟩
theorem d_Tb_multiply_4 : dd m_Tb_multiply 4 (.aload_n 0) 1 5 := ⟨by decide +kernel, rfl⟩
theorem d_Tb_multiply_5 : dd m_Tb_multiply 5 (.getfield 58) 3 8 := ⟨by decide +kernel, rfl⟩
theorem d_Tb_multiply_8 : dd m_Tb_multiply 8 (.iload_n 2) 1 9 := ⟨by decide +kernel, rfl⟩
theorem d_Tb_multiply_9 : dd m_Tb_multiply 9 (.aload_n 3) 1 10 := ⟨by decide +kernel, rfl⟩
theorem d_Tb_multiply_10 : dd m_Tb_multiply 10 (.getfield 49) 3 13 := ⟨by decide +kernel, rfl⟩
theorem d_Tb_multiply_13 : dd m_Tb_multiply 13 (.invokestatic 67) 3 16 := ⟨by decide +kernel, rfl⟩
theorem d_Tb_multiply_16 : dd m_Tb_multiply 16 (.aload_n 3) 1 17 := ⟨by decide +kernel, rfl⟩
theorem d_Tb_multiply_17 : dd m_Tb_multiply 17 (.getfield 49) 3 20 := ⟨by decide +kernel, rfl⟩
theorem d_Tb_multiply_20 : dd m_Tb_multiply 20 (.aload_n 0) 1 21 := ⟨by decide +kernel, rfl⟩
theorem d_Tb_multiply_21 : dd m_Tb_multiply 21 (.getfield 49) 3 24 := ⟨by decide +kernel, rfl⟩
theorem d_Tb_multiply_24 : dd m_Tb_multiply 24 (.iload_n 2) 1 25 := ⟨by decide +kernel, rfl⟩
theorem d_Tb_multiply_25 : dd m_Tb_multiply 25 (.invokestatic 61) 3 28 := ⟨by decide +kernel, rfl⟩
theorem d_Tb_multiply_28 : dd m_Tb_multiply 28 (.aload_n 1) 1 29 := ⟨by decide +kernel, rfl⟩
theorem d_Tb_multiply_29 : dd m_Tb_multiply 29 (.getfield 58) 3 32 := ⟨by decide +kernel, rfl⟩
theorem d_Tb_multiply_32 : dd m_Tb_multiply 32 (.aload_n 0) 1 33 := ⟨by decide +kernel, rfl⟩
theorem d_Tb_multiply_33 : dd m_Tb_multiply 33 (.getfield 58) 3 36 := ⟨by decide +kernel, rfl⟩
theorem d_Tb_multiply_36 : dd m_Tb_multiply 36 (.iload_n 2) 1 37 := ⟨by decide +kernel, rfl⟩
theorem d_Tb_multiply_37 : dd m_Tb_multiply 37 (.aload_n 3) 1 38 := ⟨by decide +kernel, rfl⟩
theorem d_Tb_multiply_38 : dd m_Tb_multiply 38 (.getfield 58) 3 41 := ⟨by decide +kernel, rfl⟩
theorem d_Tb_multiply_41 : dd m_Tb_multiply 41 (.invokestatic 67) 3 44 := ⟨by decide +kernel, rfl⟩
theorem d_Tb_multiply_44 : decode (mbt m_Tb_multiply) 44 = .ok (.return_, 1) := by decide +kernel
theorem d_Tb_powerOf_0 : dd m_Tb_powerOf 0 (.iload_n 2) 1 1 := ⟨by decide +kernel, rfl⟩
theorem d_Tb_powerOf_1 : db m_Tb_powerOf 1 (.ifCond .ge) 4 17 := ⟨16, by decide +kernel, rfl, rfl⟩
theorem d_Tb_powerOf_4 : dd m_Tb_powerOf 4 (.aload_n 0) 1 5 := ⟨by decide +kernel, rfl⟩
theorem d_Tb_powerOf_5 : dd m_Tb_powerOf 5 (.aload_n 1) 1 6 := ⟨by decide +kernel, rfl⟩
theorem d_Tb_powerOf_6 : dd m_Tb_powerOf 6 (.iload_n 3) 1 7 := ⟨by decide +kernel, rfl⟩
theorem d_Tb_powerOf_7 : dd m_Tb_powerOf 7 (.aload_n 0) 1 8 := ⟨by decide +kernel, rfl⟩
theorem d_Tb_powerOf_8 : dd m_Tb_powerOf 8 (.getfield 18) 3 11 := ⟨by decide +kernel, rfl⟩
theorem d_Tb_powerOf_11 : dd m_Tb_powerOf 11 (.invokevirtual 82) 3 14 := ⟨by decide +kernel, rfl⟩
theorem d_Tb_powerOf_14 : db m_Tb_powerOf 14 .goto 17 25 := ⟨11, by decide +kernel, rfl, rfl⟩
theorem d_Tb_powerOf_17 : dd m_Tb_powerOf 17 (.aload_n 0) 1 18 := ⟨by decide +kernel, rfl⟩
theorem d_Tb_powerOf_18 : dd m_Tb_powerOf 18 (.getfield 18) 3 21 := ⟨by decide +kernel, rfl⟩
theorem d_Tb_powerOf_21 : dd m_Tb_powerOf 21 (.aload_n 1) 1 22 := ⟨by decide +kernel, rfl⟩
theorem d_Tb_powerOf_22 : dd m_Tb_powerOf 22 (.invokevirtual 86) 3 25 := ⟨by decide +kernel, rfl⟩
theorem d_Tb_powerOf_25 : dd m_Tb_powerOf 25 (.aload_n 0) 1 26 := ⟨by decide +kernel, rfl⟩
theorem d_Tb_powerOf_26 : dd m_Tb_powerOf 26 (.getfield 12) 3 29 := ⟨by decide +kernel, rfl⟩
theorem d_Tb_powerOf_29 : dd m_Tb_powerOf 29 (.invokevirtual 90) 3 32 := ⟨by decide +kernel, rfl⟩
theorem d_Tb_powerOf_32 : dd m_Tb_powerOf 32 (.iconst 0) 1 33 := ⟨by decide +kernel, rfl⟩
theorem d_Tb_powerOf_33 : dd m_Tb_powerOf 33 (.istore 4) 2 35 := ⟨by decide +kernel, rfl⟩
theorem d_Tb_powerOf_35 : dd m_Tb_powerOf 35 (.iload 4) 2 37 := ⟨by decide +kernel, rfl⟩
theorem d_Tb_powerOf_37 : dd m_Tb_powerOf 37 (.iload_n 2) 1 38 := ⟨by decide +kernel, rfl⟩
theorem d_Tb_powerOf_38 : dd m_Tb_powerOf 38 (.invokestatic 93) 3 41 := ⟨by decide +kernel, rfl⟩
theorem d_Tb_powerOf_41 : db m_Tb_powerOf 41 (.if_icmp .ge) 44 77 := ⟨36, by decide +kernel, rfl, rfl⟩
theorem d_Tb_powerOf_44 : dd m_Tb_powerOf 44 (.aload_n 0) 1 45 := ⟨by decide +kernel, rfl⟩
theorem d_Tb_powerOf_45 : dd m_Tb_powerOf 45 (.getfield 12) 3 48 := ⟨by decide +kernel, rfl⟩
theorem d_Tb_powerOf_48 : dd m_Tb_powerOf 48 (.aload_n 0) 1 49 := ⟨by decide +kernel, rfl⟩
theorem d_Tb_powerOf_49 : dd m_Tb_powerOf 49 (.getfield 18) 3 52 := ⟨by decide +kernel, rfl⟩
theorem d_Tb_powerOf_52 : dd m_Tb_powerOf 52 (.iload_n 3) 1 53 := ⟨by decide +kernel, rfl⟩
theorem d_Tb_powerOf_53 : dd m_Tb_powerOf 53 (.aload_n 0) 1 54 := ⟨by decide +kernel, rfl⟩
theorem d_Tb_powerOf_54 : dd m_Tb_powerOf 54 (.getfield 21) 3 57 := ⟨by decide +kernel, rfl⟩
theorem d_Tb_powerOf_57 : dd m_Tb_powerOf 57 (.invokestatic 99) 3 60 := ⟨by decide +kernel, rfl⟩
theorem d_Tb_powerOf_60 : dd m_Tb_powerOf 60 (.aload_n 0) 1 61 := ⟨by decide +kernel, rfl⟩
theorem d_Tb_powerOf_61 : dd m_Tb_powerOf 61 (.getfield 12) 3 64 := ⟨by decide +kernel, rfl⟩
theorem d_Tb_powerOf_64 : dd m_Tb_powerOf 64 (.aload_n 0) 1 65 := ⟨by decide +kernel, rfl⟩
theorem d_Tb_powerOf_65 : dd m_Tb_powerOf 65 (.getfield 21) 3 68 := ⟨by decide +kernel, rfl⟩
theorem d_Tb_powerOf_68 : dd m_Tb_powerOf 68 (.invokevirtual 86) 3 71 := ⟨by decide +kernel, rfl⟩
theorem d_Tb_powerOf_71 : dd m_Tb_powerOf 71 (.iinc 4 1) 3 74 := ⟨by decide +kernel, rfl⟩
theorem d_Tb_powerOf_74 : db m_Tb_powerOf 74 .goto 77 35 := ⟨(-39), by decide +kernel, rfl, rfl⟩
theorem d_Tb_powerOf_77 : decode (mbt m_Tb_powerOf) 77 = .ok (.return_, 1) := by decide +kernel
theorem d_Tb_invert_0 : dd m_Tb_invert 0 (.aload_n 0) 1 1 := ⟨by decide +kernel, rfl⟩
theorem d_Tb_invert_1 : dd m_Tb_invert 1 (.getfield 45) 3 4 := ⟨by decide +kernel, rfl⟩
theorem d_Tb_invert_4 : dd m_Tb_invert 4 (.aload_n 1) 1 5 := ⟨by decide +kernel, rfl⟩
theorem d_Tb_invert_5 : dd m_Tb_invert 5 (.getfield 58) 3 8 := ⟨by decide +kernel, rfl⟩
theorem d_Tb_invert_8 : dd m_Tb_invert 8 (.iload_n 2) 1 9 := ⟨by decide +kernel, rfl⟩
theorem d_Tb_invert_9 : dd m_Tb_invert 9 (.aload_n 3) 1 10 := ⟨by decide +kernel, rfl⟩
theorem d_Tb_invert_10 : dd m_Tb_invert 10 (.getfield 58) 3 13 := ⟨by decide +kernel, rfl⟩
theorem d_Tb_invert_13 : dd m_Tb_invert 13 (.invokevirtual 71) 3 16 := ⟨by decide +kernel, rfl⟩
theorem d_Tb_invert_16 : dd m_Tb_invert 16 (.aload_n 1) 1 17 := ⟨by decide +kernel, rfl⟩
theorem d_Tb_invert_17 : dd m_Tb_invert 17 (.getfield 49) 3 20 := ⟨by decide +kernel, rfl⟩
theorem d_Tb_invert_20 : dd m_Tb_invert 20 (.aload_n 3) 1 21 := ⟨by decide +kernel, rfl⟩
theorem d_Tb_invert_21 : dd m_Tb_invert 21 (.getfield 58) 3 24 := ⟨by decide +kernel, rfl⟩
theorem d_Tb_invert_24 : dd m_Tb_invert 24 (.iload_n 2) 1 25 := ⟨by decide +kernel, rfl⟩
theorem d_Tb_invert_25 : dd m_Tb_invert 25 (.aload_n 0) 1 26 := ⟨by decide +kernel, rfl⟩
theorem d_Tb_invert_26 : dd m_Tb_invert 26 (.getfield 31) 3 29 := ⟨by decide +kernel, rfl⟩
theorem d_Tb_invert_29 : dd m_Tb_invert 29 (.invokestatic 67) 3 32 := ⟨by decide +kernel, rfl⟩
theorem d_Tb_invert_32 : dd m_Tb_invert 32 (.aload_n 3) 1 33 := ⟨by decide +kernel, rfl⟩
theorem d_Tb_invert_33 : dd m_Tb_invert 33 (.getfield 49) 3 36 := ⟨by decide +kernel, rfl⟩
theorem d_Tb_invert_36 : dd m_Tb_invert 36 (.iconst 1) 1 37 := ⟨by decide +kernel, rfl⟩
theorem d_Tb_invert_37 : dd m_Tb_invert 37 (.invokestatic 75) 3 40 := ⟨by decide +kernel, rfl⟩
theorem d_Tb_invert_40 : dd m_Tb_invert 40 (.aload_n 3) 1 41 := ⟨by decide +kernel, rfl⟩
theorem d_Tb_invert_41 : dd m_Tb_invert 41 (.getfield 49) 3 44 := ⟨by decide +kernel, rfl⟩
theorem d_Tb_invert_44 : dd m_Tb_invert 44 (.aload_n 0) 1 45 := ⟨by decide +kernel, rfl⟩
theorem d_Tb_invert_45 : dd m_Tb_invert 45 (.getfield 31) 3 48 := ⟨by decide +kernel, rfl⟩
theorem d_Tb_invert_48 : dd m_Tb_invert 48 (.iload_n 2) 1 49 := ⟨by decide +kernel, rfl⟩
theorem d_Tb_invert_49 : dd m_Tb_invert 49 (.invokestatic 79) 3 52 := ⟨by decide +kernel, rfl⟩
theorem d_Tb_invert_52 : decode (mbt m_Tb_invert) 52 = .ok (.return_, 1) := by decide +kernel
theorem d_Tb_partOf_0 : dd m_Tb_partOf 0 (.iload_n 2) 1 1 := ⟨by decide +kernel, rfl⟩
theorem d_Tb_partOf_1 : decode (mbt m_Tb_partOf) 1 = .ok (.tableswitch 81 0 3 #[31, 48, 65, 73], 31) := by decide +kernel
theorem d_Tb_partOf_32 : dd m_Tb_partOf 32 (.aload_n 1) 1 33 := ⟨by decide +kernel, rfl⟩
theorem d_Tb_partOf_33 : dd m_Tb_partOf 33 (.getfield 49) 3 36 := ⟨by decide +kernel, rfl⟩
theorem d_Tb_partOf_36 : dd m_Tb_partOf 36 (.iconst 0) 1 37 := ⟨by decide +kernel, rfl⟩
theorem d_Tb_partOf_37 : dd m_Tb_partOf 37 (.aload_n 0) 1 38 := ⟨by decide +kernel, rfl⟩
theorem d_Tb_partOf_38 : dd m_Tb_partOf 38 (.getfield 24) 3 41 := ⟨by decide +kernel, rfl⟩
theorem d_Tb_partOf_41 : dd m_Tb_partOf 41 (.iconst 0) 1 42 := ⟨by decide +kernel, rfl⟩
theorem d_Tb_partOf_42 : dd m_Tb_partOf 42 (.bipush 10) 2 44 := ⟨by decide +kernel, rfl⟩
theorem d_Tb_partOf_44 : dd m_Tb_partOf 44 (.invokestatic 52) 3 47 := ⟨by decide +kernel, rfl⟩
theorem d_Tb_partOf_47 : dd m_Tb_partOf 47 (.iconst 1) 1 48 := ⟨by decide +kernel, rfl⟩
theorem d_Tb_partOf_48 : decode (mbt m_Tb_partOf) 48 = .ok (.ireturn, 1) := by decide +kernel
theorem d_Tb_partOf_49 : dd m_Tb_partOf 49 (.aload_n 1) 1 50 := ⟨by decide +kernel, rfl⟩
theorem d_Tb_partOf_50 : dd m_Tb_partOf 50 (.getfield 58) 3 53 := ⟨by decide +kernel, rfl⟩
theorem d_Tb_partOf_53 : dd m_Tb_partOf 53 (.iconst 0) 1 54 := ⟨by decide +kernel, rfl⟩
theorem d_Tb_partOf_54 : dd m_Tb_partOf 54 (.aload_n 0) 1 55 := ⟨by decide +kernel, rfl⟩
theorem d_Tb_partOf_55 : dd m_Tb_partOf 55 (.getfield 24) 3 58 := ⟨by decide +kernel, rfl⟩
theorem d_Tb_partOf_58 : dd m_Tb_partOf 58 (.iconst 0) 1 59 := ⟨by decide +kernel, rfl⟩
theorem d_Tb_partOf_59 : dd m_Tb_partOf 59 (.bipush 10) 2 61 := ⟨by decide +kernel, rfl⟩
theorem d_Tb_partOf_61 : dd m_Tb_partOf 61 (.invokestatic 52) 3 64 := ⟨by decide +kernel, rfl⟩
theorem d_Tb_partOf_64 : dd m_Tb_partOf 64 (.iconst 1) 1 65 := ⟨by decide +kernel, rfl⟩
theorem d_Tb_partOf_65 : decode (mbt m_Tb_partOf) 65 = .ok (.ireturn, 1) := by decide +kernel
theorem d_Tb_partOf_66 : dd m_Tb_partOf 66 (.aload_n 0) 1 67 := ⟨by decide +kernel, rfl⟩
theorem d_Tb_partOf_67 : dd m_Tb_partOf 67 (.aload_n 1) 1 68 := ⟨by decide +kernel, rfl⟩
theorem d_Tb_partOf_68 : dd m_Tb_partOf 68 (.iload_n 3) 1 69 := ⟨by decide +kernel, rfl⟩
theorem d_Tb_partOf_69 : dd m_Tb_partOf 69 (.invokevirtual 102) 3 72 := ⟨by decide +kernel, rfl⟩
theorem d_Tb_partOf_72 : dd m_Tb_partOf 72 (.iconst 1) 1 73 := ⟨by decide +kernel, rfl⟩
theorem d_Tb_partOf_73 : decode (mbt m_Tb_partOf) 73 = .ok (.ireturn, 1) := by decide +kernel
theorem d_Tb_partOf_74 : dd m_Tb_partOf 74 (.aload_n 0) 1 75 := ⟨by decide +kernel, rfl⟩
theorem d_Tb_partOf_75 : dd m_Tb_partOf 75 (.aload_n 1) 1 76 := ⟨by decide +kernel, rfl⟩
theorem d_Tb_partOf_76 : dd m_Tb_partOf 76 (.iload_n 3) 1 77 := ⟨by decide +kernel, rfl⟩
theorem d_Tb_partOf_77 : dd m_Tb_partOf 77 (.invokevirtual 106) 3 80 := ⟨by decide +kernel, rfl⟩
theorem d_Tb_partOf_80 : dd m_Tb_partOf 80 (.iconst 1) 1 81 := ⟨by decide +kernel, rfl⟩
theorem d_Tb_partOf_81 : decode (mbt m_Tb_partOf) 81 = .ok (.ireturn, 1) := by decide +kernel
theorem d_Tb_partOf_82 : dd m_Tb_partOf 82 (.iconst 0) 1 83 := ⟨by decide +kernel, rfl⟩
theorem d_Tb_partOf_83 : decode (mbt m_Tb_partOf) 83 = .ok (.ireturn, 1) := by decide +kernel
theorem d_Tb_findA_0 : dd m_Tb_findA 0 (.aload_n 0) 1 1 := ⟨by decide +kernel, rfl⟩
theorem d_Tb_findA_1 : dd m_Tb_findA 1 (.getfield 45) 3 4 := ⟨by decide +kernel, rfl⟩
theorem d_Tb_findA_4 : dd m_Tb_findA 4 (.aload_n 1) 1 5 := ⟨by decide +kernel, rfl⟩
theorem d_Tb_findA_5 : dd m_Tb_findA 5 (.getfield 58) 3 8 := ⟨by decide +kernel, rfl⟩
theorem d_Tb_findA_8 : dd m_Tb_findA 8 (.iload_n 2) 1 9 := ⟨by decide +kernel, rfl⟩
theorem d_Tb_findA_9 : dd m_Tb_findA 9 (.aload_n 0) 1 10 := ⟨by decide +kernel, rfl⟩
theorem d_Tb_findA_10 : dd m_Tb_findA 10 (.getfield 28) 3 13 := ⟨by decide +kernel, rfl⟩
theorem d_Tb_findA_13 : dd m_Tb_findA 13 (.invokevirtual 71) 3 16 := ⟨by decide +kernel, rfl⟩
theorem d_Tb_findA_16 : dd m_Tb_findA 16 (.aload_n 0) 1 17 := ⟨by decide +kernel, rfl⟩
theorem d_Tb_findA_17 : dd m_Tb_findA 17 (.getfield 28) 3 20 := ⟨by decide +kernel, rfl⟩
theorem d_Tb_findA_20 : dd m_Tb_findA 20 (.iload_n 2) 1 21 := ⟨by decide +kernel, rfl⟩
theorem d_Tb_findA_21 : dd m_Tb_findA 21 (.aload_n 0) 1 22 := ⟨by decide +kernel, rfl⟩
theorem d_Tb_findA_22 : dd m_Tb_findA 22 (.getfield 31) 3 25 := ⟨by decide +kernel, rfl⟩
theorem d_Tb_findA_25 : dd m_Tb_findA 25 (.invokestatic 109) 3 28 := ⟨by decide +kernel, rfl⟩
theorem d_Tb_findA_28 : dd m_Tb_findA 28 (.aload_n 0) 1 29 := ⟨by decide +kernel, rfl⟩
theorem d_Tb_findA_29 : dd m_Tb_findA 29 (.getfield 24) 3 32 := ⟨by decide +kernel, rfl⟩
theorem d_Tb_findA_32 : dd m_Tb_findA 32 (.iconst 1) 1 33 := ⟨by decide +kernel, rfl⟩
theorem d_Tb_findA_33 : dd m_Tb_findA 33 (.invokestatic 75) 3 36 := ⟨by decide +kernel, rfl⟩
theorem d_Tb_findA_36 : dd m_Tb_findA 36 (.aload_n 0) 1 37 := ⟨by decide +kernel, rfl⟩
theorem d_Tb_findA_37 : dd m_Tb_findA 37 (.getfield 24) 3 40 := ⟨by decide +kernel, rfl⟩
theorem d_Tb_findA_40 : dd m_Tb_findA 40 (.aload_n 0) 1 41 := ⟨by decide +kernel, rfl⟩
theorem d_Tb_findA_41 : dd m_Tb_findA 41 (.getfield 31) 3 44 := ⟨by decide +kernel, rfl⟩
theorem d_Tb_findA_44 : dd m_Tb_findA 44 (.iload_n 2) 1 45 := ⟨by decide +kernel, rfl⟩
theorem d_Tb_findA_45 : dd m_Tb_findA 45 (.invokestatic 79) 3 48 := ⟨by decide +kernel, rfl⟩
theorem d_Tb_findA_48 : dd m_Tb_findA 48 (.aload_n 0) 1 49 := ⟨by decide +kernel, rfl⟩
theorem d_Tb_findA_49 : dd m_Tb_findA 49 (.getfield 24) 3 52 := ⟨by decide +kernel, rfl⟩
theorem d_Tb_findA_52 : dd m_Tb_findA 52 (.iload_n 2) 1 53 := ⟨by decide +kernel, rfl⟩
theorem d_Tb_findA_53 : dd m_Tb_findA 53 (.iconst 1) 1 54 := ⟨by decide +kernel, rfl⟩
theorem d_Tb_findA_54 : dd m_Tb_findA 54 .isub 1 55 := ⟨by decide +kernel, rfl⟩
theorem d_Tb_findA_55 : dd m_Tb_findA 55 (.iconst 0) 1 56 := ⟨by decide +kernel, rfl⟩
theorem d_Tb_findA_56 : dd m_Tb_findA 56 .iastore 1 57 := ⟨by decide +kernel, rfl⟩
theorem d_Tb_findA_57 : decode (mbt m_Tb_findA) 57 = .ok (.return_, 1) := by decide +kernel
theorem d_Tb_findZ_0 : dd m_Tb_findZ 0 (.aload_n 0) 1 1 := ⟨by decide +kernel, rfl⟩
theorem d_Tb_findZ_1 : dd m_Tb_findZ 1 (.getfield 45) 3 4 := ⟨by decide +kernel, rfl⟩
theorem d_Tb_findZ_4 : dd m_Tb_findZ 4 (.aload_n 1) 1 5 := ⟨by decide +kernel, rfl⟩
theorem d_Tb_findZ_5 : dd m_Tb_findZ 5 (.getfield 58) 3 8 := ⟨by decide +kernel, rfl⟩
theorem d_Tb_findZ_8 : dd m_Tb_findZ 8 (.iload_n 2) 1 9 := ⟨by decide +kernel, rfl⟩
theorem d_Tb_findZ_9 : dd m_Tb_findZ 9 (.aload_n 0) 1 10 := ⟨by decide +kernel, rfl⟩
theorem d_Tb_findZ_10 : dd m_Tb_findZ 10 (.getfield 28) 3 13 := ⟨by decide +kernel, rfl⟩
theorem d_Tb_findZ_13 : dd m_Tb_findZ 13 (.invokevirtual 71) 3 16 := ⟨by decide +kernel, rfl⟩
theorem d_Tb_findZ_16 : dd m_Tb_findZ 16 (.aload_n 1) 1 17 := ⟨by decide +kernel, rfl⟩
theorem d_Tb_findZ_17 : dd m_Tb_findZ 17 (.getfield 49) 3 20 := ⟨by decide +kernel, rfl⟩
theorem d_Tb_findZ_20 : dd m_Tb_findZ 20 (.aload_n 0) 1 21 := ⟨by decide +kernel, rfl⟩
theorem d_Tb_findZ_21 : dd m_Tb_findZ 21 (.getfield 28) 3 24 := ⟨by decide +kernel, rfl⟩
theorem d_Tb_findZ_24 : dd m_Tb_findZ 24 (.iload_n 2) 1 25 := ⟨by decide +kernel, rfl⟩
theorem d_Tb_findZ_25 : dd m_Tb_findZ 25 (.aload_n 0) 1 26 := ⟨by decide +kernel, rfl⟩
theorem d_Tb_findZ_26 : dd m_Tb_findZ 26 (.getfield 31) 3 29 := ⟨by decide +kernel, rfl⟩
theorem d_Tb_findZ_29 : dd m_Tb_findZ 29 (.invokestatic 67) 3 32 := ⟨by decide +kernel, rfl⟩
theorem d_Tb_findZ_32 : dd m_Tb_findZ 32 (.aload_n 0) 1 33 := ⟨by decide +kernel, rfl⟩
theorem d_Tb_findZ_33 : dd m_Tb_findZ 33 (.getfield 24) 3 36 := ⟨by decide +kernel, rfl⟩
theorem d_Tb_findZ_36 : dd m_Tb_findZ 36 (.aload_n 1) 1 37 := ⟨by decide +kernel, rfl⟩
theorem d_Tb_findZ_37 : dd m_Tb_findZ 37 (.getfield 49) 3 40 := ⟨by decide +kernel, rfl⟩
theorem d_Tb_findZ_40 : dd m_Tb_findZ 40 (.iconst 0) 1 41 := ⟨by decide +kernel, rfl⟩
theorem d_Tb_findZ_41 : dd m_Tb_findZ 41 .iaload 1 42 := ⟨by decide +kernel, rfl⟩
theorem d_Tb_findZ_42 : dd m_Tb_findZ 42 (.invokestatic 75) 3 45 := ⟨by decide +kernel, rfl⟩
theorem d_Tb_findZ_45 : dd m_Tb_findZ 45 (.aload_n 0) 1 46 := ⟨by decide +kernel, rfl⟩
theorem d_Tb_findZ_46 : dd m_Tb_findZ 46 (.getfield 24) 3 49 := ⟨by decide +kernel, rfl⟩
theorem d_Tb_findZ_49 : dd m_Tb_findZ 49 (.aload_n 0) 1 50 := ⟨by decide +kernel, rfl⟩
theorem d_Tb_findZ_50 : dd m_Tb_findZ 50 (.getfield 31) 3 53 := ⟨by decide +kernel, rfl⟩
theorem d_Tb_findZ_53 : dd m_Tb_findZ 53 (.iload_n 2) 1 54 := ⟨by decide +kernel, rfl⟩
theorem d_Tb_findZ_54 : dd m_Tb_findZ 54 (.invokestatic 79) 3 57 := ⟨by decide +kernel, rfl⟩
theorem d_Tb_findZ_57 : dd m_Tb_findZ 57 (.iconst 1) 1 58 := ⟨by decide +kernel, rfl⟩
theorem d_Tb_findZ_58 : dd m_Tb_findZ 58 (.istore_n 3) 1 59 := ⟨by decide +kernel, rfl⟩
theorem d_Tb_findZ_59 : dd m_Tb_findZ 59 (.iload_n 3) 1 60 := ⟨by decide +kernel, rfl⟩
theorem d_Tb_findZ_60 : dd m_Tb_findZ 60 (.iload_n 2) 1 61 := ⟨by decide +kernel, rfl⟩
theorem d_Tb_findZ_61 : db m_Tb_findZ 61 (.if_icmp .ge) 64 88 := ⟨27, by decide +kernel, rfl, rfl⟩
theorem d_Tb_findZ_64 : dd m_Tb_findZ 64 (.aload_n 0) 1 65 := ⟨by decide +kernel, rfl⟩
theorem d_Tb_findZ_65 : dd m_Tb_findZ 65 (.getfield 24) 3 68 := ⟨by decide +kernel, rfl⟩
theorem d_Tb_findZ_68 : dd m_Tb_findZ 68 (.iload_n 3) 1 69 := ⟨by decide +kernel, rfl⟩
theorem d_Tb_findZ_69 : dd m_Tb_findZ 69 (.iconst 1) 1 70 := ⟨by decide +kernel, rfl⟩
theorem d_Tb_findZ_70 : dd m_Tb_findZ 70 .isub 1 71 := ⟨by decide +kernel, rfl⟩
theorem d_Tb_findZ_71 : dd m_Tb_findZ 71 (.iconst 0) 1 72 := ⟨by decide +kernel, rfl⟩
theorem d_Tb_findZ_72 : dd m_Tb_findZ 72 (.aload_n 0) 1 73 := ⟨by decide +kernel, rfl⟩
theorem d_Tb_findZ_73 : dd m_Tb_findZ 73 (.getfield 24) 3 76 := ⟨by decide +kernel, rfl⟩
theorem d_Tb_findZ_76 : dd m_Tb_findZ 76 (.iload_n 3) 1 77 := ⟨by decide +kernel, rfl⟩
theorem d_Tb_findZ_77 : dd m_Tb_findZ 77 .iaload 1 78 := ⟨by decide +kernel, rfl⟩
theorem d_Tb_findZ_78 : dd m_Tb_findZ 78 (.invokestatic 112) 3 81 := ⟨by decide +kernel, rfl⟩
theorem d_Tb_findZ_81 : dd m_Tb_findZ 81 .iastore 1 82 := ⟨by decide +kernel, rfl⟩
theorem d_Tb_findZ_82 : dd m_Tb_findZ 82 (.iinc 3 1) 3 85 := ⟨by decide +kernel, rfl⟩
theorem d_Tb_findZ_85 : db m_Tb_findZ 85 .goto 88 59 := ⟨(-26), by decide +kernel, rfl, rfl⟩
theorem d_Tb_findZ_88 : dd m_Tb_findZ 88 (.aload_n 0) 1 89 := ⟨by decide +kernel, rfl⟩
theorem d_Tb_findZ_89 : dd m_Tb_findZ 89 (.getfield 28) 3 92 := ⟨by decide +kernel, rfl⟩
theorem d_Tb_findZ_92 : dd m_Tb_findZ 92 (.iload_n 2) 1 93 := ⟨by decide +kernel, rfl⟩
theorem d_Tb_findZ_93 : dd m_Tb_findZ 93 (.aload_n 0) 1 94 := ⟨by decide +kernel, rfl⟩
theorem d_Tb_findZ_94 : dd m_Tb_findZ 94 (.getfield 31) 3 97 := ⟨by decide +kernel, rfl⟩
theorem d_Tb_findZ_97 : dd m_Tb_findZ 97 (.invokestatic 109) 3 100 := ⟨by decide +kernel, rfl⟩
theorem d_Tb_findZ_100 : dd m_Tb_findZ 100 (.aload_n 0) 1 101 := ⟨by decide +kernel, rfl⟩
theorem d_Tb_findZ_101 : dd m_Tb_findZ 101 (.getfield 24) 3 104 := ⟨by decide +kernel, rfl⟩
theorem d_Tb_findZ_104 : dd m_Tb_findZ 104 (.aload_n 0) 1 105 := ⟨by decide +kernel, rfl⟩
theorem d_Tb_findZ_105 : dd m_Tb_findZ 105 (.getfield 31) 3 108 := ⟨by decide +kernel, rfl⟩
theorem d_Tb_findZ_108 : dd m_Tb_findZ 108 (.iload_n 2) 1 109 := ⟨by decide +kernel, rfl⟩
theorem d_Tb_findZ_109 : dd m_Tb_findZ 109 (.invokestatic 79) 3 112 := ⟨by decide +kernel, rfl⟩
theorem d_Tb_findZ_112 : dd m_Tb_findZ 112 (.aload_n 0) 1 113 := ⟨by decide +kernel, rfl⟩
theorem d_Tb_findZ_113 : dd m_Tb_findZ 113 (.getfield 24) 3 116 := ⟨by decide +kernel, rfl⟩
theorem d_Tb_findZ_116 : dd m_Tb_findZ 116 (.iload_n 2) 1 117 := ⟨by decide +kernel, rfl⟩
theorem d_Tb_findZ_117 : dd m_Tb_findZ 117 (.iconst 1) 1 118 := ⟨by decide +kernel, rfl⟩
theorem d_Tb_findZ_118 : dd m_Tb_findZ 118 .isub 1 119 := ⟨by decide +kernel, rfl⟩
theorem d_Tb_findZ_119 : dd m_Tb_findZ 119 (.iconst 0) 1 120 := ⟨by decide +kernel, rfl⟩
theorem d_Tb_findZ_120 : dd m_Tb_findZ 120 .iastore 1 121 := ⟨by decide +kernel, rfl⟩
theorem d_Tb_findZ_121 : decode (mbt m_Tb_findZ) 121 = .ok (.return_, 1) := by decide +kernel
theorem d_Tb_makeOf_0 : dd m_Tb_makeOf 0 (.aload_n 2) 1 1 := ⟨by decide +kernel, rfl⟩
theorem d_Tb_makeOf_1 : dd m_Tb_makeOf 1 (.aload_n 1) 1 2 := ⟨by decide +kernel, rfl⟩
theorem d_Tb_makeOf_2 : dd m_Tb_makeOf 2 (.getfield 58) 3 5 := ⟨by decide +kernel, rfl⟩
theorem d_Tb_makeOf_5 : dd m_Tb_makeOf 5 (.iload_n 3) 1 6 := ⟨by decide +kernel, rfl⟩
theorem d_Tb_makeOf_6 : dd m_Tb_makeOf 6 (.aload_n 0) 1 7 := ⟨by decide +kernel, rfl⟩
theorem d_Tb_makeOf_7 : dd m_Tb_makeOf 7 (.getfield 24) 3 10 := ⟨by decide +kernel, rfl⟩
theorem d_Tb_makeOf_10 : dd m_Tb_makeOf 10 (.invokestatic 67) 3 13 := ⟨by decide +kernel, rfl⟩
theorem d_Tb_makeOf_13 : dd m_Tb_makeOf 13 (.aload_n 0) 1 14 := ⟨by decide +kernel, rfl⟩
theorem d_Tb_makeOf_14 : dd m_Tb_makeOf 14 (.getfield 24) 3 17 := ⟨by decide +kernel, rfl⟩
theorem d_Tb_makeOf_17 : dd m_Tb_makeOf 17 (.aload_n 1) 1 18 := ⟨by decide +kernel, rfl⟩
theorem d_Tb_makeOf_18 : dd m_Tb_makeOf 18 (.getfield 49) 3 21 := ⟨by decide +kernel, rfl⟩
theorem d_Tb_makeOf_21 : dd m_Tb_makeOf 21 (.iload_n 3) 1 22 := ⟨by decide +kernel, rfl⟩
theorem d_Tb_makeOf_22 : dd m_Tb_makeOf 22 (.invokestatic 61) 3 25 := ⟨by decide +kernel, rfl⟩
theorem d_Tb_makeOf_25 : decode (mbt m_Tb_makeOf) 25 = .ok (.return_, 1) := by decide +kernel
theorem d_Tb_sumRows_0 : dd m_Tb_sumRows 0 (.aload_n 1) 1 1 := ⟨by decide +kernel, rfl⟩
theorem d_Tb_sumRows_1 : dd m_Tb_sumRows 1 (.iload_n 3) 1 2 := ⟨by decide +kernel, rfl⟩
theorem d_Tb_sumRows_2 : dd m_Tb_sumRows 2 (.aload_n 0) 1 3 := ⟨by decide +kernel, rfl⟩
theorem d_Tb_sumRows_3 : dd m_Tb_sumRows 3 (.getfield 36) 3 6 := ⟨by decide +kernel, rfl⟩
theorem d_Tb_sumRows_6 : dd m_Tb_sumRows 6 (.invokestatic 116) 3 9 := ⟨by decide +kernel, rfl⟩
theorem d_Tb_sumRows_9 : dd m_Tb_sumRows 9 (.iconst 0) 1 10 := ⟨by decide +kernel, rfl⟩
theorem d_Tb_sumRows_10 : dd m_Tb_sumRows 10 (.istore 4) 2 12 := ⟨by decide +kernel, rfl⟩
theorem d_Tb_sumRows_12 : dd m_Tb_sumRows 12 (.iload 4) 2 14 := ⟨by decide +kernel, rfl⟩
theorem d_Tb_sumRows_14 : dd m_Tb_sumRows 14 (.iload_n 3) 1 15 := ⟨by decide +kernel, rfl⟩
theorem d_Tb_sumRows_15 : db m_Tb_sumRows 15 (.if_icmp .ge) 18 71 := ⟨56, by decide +kernel, rfl, rfl⟩
theorem d_Tb_sumRows_18 : dd m_Tb_sumRows 18 (.lconst 0) 1 19 := ⟨by decide +kernel, rfl⟩
theorem d_Tb_sumRows_19 : dd m_Tb_sumRows 19 (.lstore 5) 2 21 := ⟨by decide +kernel, rfl⟩
theorem d_Tb_sumRows_21 : dd m_Tb_sumRows 21 (.iconst 0) 1 22 := ⟨by decide +kernel, rfl⟩
theorem d_Tb_sumRows_22 : dd m_Tb_sumRows 22 (.istore 7) 2 24 := ⟨by decide +kernel, rfl⟩
theorem d_Tb_sumRows_24 : dd m_Tb_sumRows 24 (.iload 7) 2 26 := ⟨by decide +kernel, rfl⟩
theorem d_Tb_sumRows_26 : dd m_Tb_sumRows 26 (.iload 4) 2 28 := ⟨by decide +kernel, rfl⟩
theorem d_Tb_sumRows_28 : db m_Tb_sumRows 28 (.if_icmp .gt) 31 51 := ⟨23, by decide +kernel, rfl, rfl⟩
theorem d_Tb_sumRows_31 : dd m_Tb_sumRows 31 (.lload 5) 2 33 := ⟨by decide +kernel, rfl⟩
theorem d_Tb_sumRows_33 : dd m_Tb_sumRows 33 (.aload_n 0) 1 34 := ⟨by decide +kernel, rfl⟩
theorem d_Tb_sumRows_34 : dd m_Tb_sumRows 34 (.iload_n 2) 1 35 := ⟨by decide +kernel, rfl⟩
theorem d_Tb_sumRows_35 : dd m_Tb_sumRows 35 (.iload 4) 2 37 := ⟨by decide +kernel, rfl⟩
theorem d_Tb_sumRows_37 : dd m_Tb_sumRows 37 (.iload 7) 2 39 := ⟨by decide +kernel, rfl⟩
theorem d_Tb_sumRows_39 : dd m_Tb_sumRows 39 (.invokevirtual 120) 3 42 := ⟨by decide +kernel, rfl⟩
theorem d_Tb_sumRows_42 : dd m_Tb_sumRows 42 .ladd 1 43 := ⟨by decide +kernel, rfl⟩
theorem d_Tb_sumRows_43 : dd m_Tb_sumRows 43 (.lstore 5) 2 45 := ⟨by decide +kernel, rfl⟩
theorem d_Tb_sumRows_45 : dd m_Tb_sumRows 45 (.iinc 7 1) 3 48 := ⟨by decide +kernel, rfl⟩
theorem d_Tb_sumRows_48 : db m_Tb_sumRows 48 .goto 51 24 := ⟨(-24), by decide +kernel, rfl, rfl⟩
theorem d_Tb_sumRows_51 : dd m_Tb_sumRows 51 (.aload_n 0) 1 52 := ⟨by decide +kernel, rfl⟩
theorem d_Tb_sumRows_52 : dd m_Tb_sumRows 52 (.getfield 24) 3 55 := ⟨by decide +kernel, rfl⟩
theorem d_Tb_sumRows_55 : dd m_Tb_sumRows 55 (.iload 4) 2 57 := ⟨by decide +kernel, rfl⟩
theorem d_Tb_sumRows_57 : dd m_Tb_sumRows 57 (.lload 5) 2 59 := ⟨by decide +kernel, rfl⟩
theorem d_Tb_sumRows_59 : dd m_Tb_sumRows 59 (.ldc2_w 124) 3 62 := ⟨by decide +kernel, rfl⟩
theorem d_Tb_sumRows_62 : dd m_Tb_sumRows 62 .lrem 1 63 := ⟨by decide +kernel, rfl⟩
theorem d_Tb_sumRows_63 : dd m_Tb_sumRows 63 .l2i 1 64 := ⟨by decide +kernel, rfl⟩
theorem d_Tb_sumRows_64 : dd m_Tb_sumRows 64 .iastore 1 65 := ⟨by decide +kernel, rfl⟩
theorem d_Tb_sumRows_65 : dd m_Tb_sumRows 65 (.iinc 4 1) 3 68 := ⟨by decide +kernel, rfl⟩
theorem d_Tb_sumRows_68 : db m_Tb_sumRows 68 .goto 71 12 := ⟨(-56), by decide +kernel, rfl, rfl⟩
theorem d_Tb_sumRows_71 : decode (mbt m_Tb_sumRows) 71 = .ok (.return_, 1) := by decide +kernel
theorem d_Tb_fillColumns_0 : dd m_Tb_fillColumns 0 (.aload_n 0) 1 1 := ⟨by decide +kernel, rfl⟩
theorem d_Tb_fillColumns_1 : dd m_Tb_fillColumns 1 (.getfield 49) 3 4 := ⟨by decide +kernel, rfl⟩
theorem d_Tb_fillColumns_4 : dd m_Tb_fillColumns 4 (.iconst 0) 1 5 := ⟨by decide +kernel, rfl⟩
theorem d_Tb_fillColumns_5 : dd m_Tb_fillColumns 5 (.aload_n 2) 1 6 := ⟨by decide +kernel, rfl⟩
theorem d_Tb_fillColumns_6 : dd m_Tb_fillColumns 6 (.iconst 0) 1 7 := ⟨by decide +kernel, rfl⟩
theorem d_Tb_fillColumns_7 : dd m_Tb_fillColumns 7 .aaload 1 8 := ⟨by decide +kernel, rfl⟩
theorem d_Tb_fillColumns_8 : dd m_Tb_fillColumns 8 (.iconst 0) 1 9 := ⟨by decide +kernel, rfl⟩
theorem d_Tb_fillColumns_9 : dd m_Tb_fillColumns 9 (.bipush 10) 2 11 := ⟨by decide +kernel, rfl⟩
theorem d_Tb_fillColumns_11 : dd m_Tb_fillColumns 11 (.invokestatic 52) 3 14 := ⟨by decide +kernel, rfl⟩
theorem d_Tb_fillColumns_14 : dd m_Tb_fillColumns 14 (.iconst 1) 1 15 := ⟨by decide +kernel, rfl⟩
theorem d_Tb_fillColumns_15 : dd m_Tb_fillColumns 15 (.istore_n 3) 1 16 := ⟨by decide +kernel, rfl⟩
theorem d_Tb_fillColumns_16 : dd m_Tb_fillColumns 16 (.iload_n 3) 1 17 := ⟨by decide +kernel, rfl⟩
theorem d_Tb_fillColumns_17 : dd m_Tb_fillColumns 17 (.iload_n 1) 1 18 := ⟨by decide +kernel, rfl⟩
theorem d_Tb_fillColumns_18 : db m_Tb_fillColumns 18 (.if_icmp .ge) 21 53 := ⟨35, by decide +kernel, rfl, rfl⟩
theorem d_Tb_fillColumns_21 : dd m_Tb_fillColumns 21 (.aload_n 2) 1 22 := ⟨by decide +kernel, rfl⟩
theorem d_Tb_fillColumns_22 : dd m_Tb_fillColumns 22 (.iload_n 3) 1 23 := ⟨by decide +kernel, rfl⟩
theorem d_Tb_fillColumns_23 : dd m_Tb_fillColumns 23 (.iconst 1) 1 24 := ⟨by decide +kernel, rfl⟩
theorem d_Tb_fillColumns_24 : dd m_Tb_fillColumns 24 .isub 1 25 := ⟨by decide +kernel, rfl⟩
theorem d_Tb_fillColumns_25 : dd m_Tb_fillColumns 25 .aaload 1 26 := ⟨by decide +kernel, rfl⟩
theorem d_Tb_fillColumns_26 : dd m_Tb_fillColumns 26 (.iconst 0) 1 27 := ⟨by decide +kernel, rfl⟩
theorem d_Tb_fillColumns_27 : dd m_Tb_fillColumns 27 (.aload_n 2) 1 28 := ⟨by decide +kernel, rfl⟩
theorem d_Tb_fillColumns_28 : dd m_Tb_fillColumns 28 (.iload_n 3) 1 29 := ⟨by decide +kernel, rfl⟩
theorem d_Tb_fillColumns_29 : dd m_Tb_fillColumns 29 .aaload 1 30 := ⟨by decide +kernel, rfl⟩
theorem d_Tb_fillColumns_30 : dd m_Tb_fillColumns 30 (.iconst 0) 1 31 := ⟨by decide +kernel, rfl⟩
theorem d_Tb_fillColumns_31 : dd m_Tb_fillColumns 31 (.bipush 10) 2 33 := ⟨by decide +kernel, rfl⟩
theorem d_Tb_fillColumns_33 : dd m_Tb_fillColumns 33 (.invokestatic 52) 3 36 := ⟨by decide +kernel, rfl⟩
theorem d_Tb_fillColumns_36 : dd m_Tb_fillColumns 36 (.aload_n 2) 1 37 := ⟨by decide +kernel, rfl⟩
theorem d_Tb_fillColumns_37 : dd m_Tb_fillColumns 37 (.iload_n 3) 1 38 := ⟨by decide +kernel, rfl⟩
theorem d_Tb_fillColumns_38 : dd m_Tb_fillColumns 38 .aaload 1 39 := ⟨by decide +kernel, rfl⟩
theorem d_Tb_fillColumns_39 : dd m_Tb_fillColumns 39 (.aload_n 0) 1 40 := ⟨by decide +kernel, rfl⟩
theorem d_Tb_fillColumns_40 : dd m_Tb_fillColumns 40 (.getfield 58) 3 43 := ⟨by decide +kernel, rfl⟩
theorem d_Tb_fillColumns_43 : dd m_Tb_fillColumns 43 (.iload_n 1) 1 44 := ⟨by decide +kernel, rfl⟩
theorem d_Tb_fillColumns_44 : dd m_Tb_fillColumns 44 (.invokestatic 61) 3 47 := ⟨by decide +kernel, rfl⟩
theorem d_Tb_fillColumns_47 : dd m_Tb_fillColumns 47 (.iinc 3 1) 3 50 := ⟨by decide +kernel, rfl⟩
theorem d_Tb_fillColumns_50 : db m_Tb_fillColumns 50 .goto 53 16 := ⟨(-34), by decide +kernel, rfl, rfl⟩
theorem d_Tb_fillColumns_53 : decode (mbt m_Tb_fillColumns) 53 = .ok (.return_, 1) := by decide +kernel
theorem d_Tb_termOfSum_0 : dd m_Tb_termOfSum 0 (.iload_n 1) 1 1 := ⟨by decide +kernel, rfl⟩
theorem d_Tb_termOfSum_1 : decode (mbt m_Tb_termOfSum) 1 = .ok (.tableswitch 83 1 3 #[27, 58, 71], 27) := by decide +kernel
theorem d_Tb_termOfSum_28 : dd m_Tb_termOfSum 28 (.iload_n 3) 1 29 := ⟨by decide +kernel, rfl⟩
theorem d_Tb_termOfSum_29 : dd m_Tb_termOfSum 29 (.iconst 2) 1 30 := ⟨by decide +kernel, rfl⟩
theorem d_Tb_termOfSum_30 : dd m_Tb_termOfSum 30 .irem 1 31 := ⟨by decide +kernel, rfl⟩
theorem d_Tb_termOfSum_31 : db m_Tb_termOfSum 31 (.ifCond .ne) 34 46 := ⟨15, by decide +kernel, rfl, rfl⟩
theorem d_Tb_termOfSum_34 : dd m_Tb_termOfSum 34 (.aload_n 0) 1 35 := ⟨by decide +kernel, rfl⟩
theorem d_Tb_termOfSum_35 : dd m_Tb_termOfSum 35 (.getfield 36) 3 38 := ⟨by decide +kernel, rfl⟩
theorem d_Tb_termOfSum_38 : dd m_Tb_termOfSum 38 (.iload_n 3) 1 39 := ⟨by decide +kernel, rfl⟩
theorem d_Tb_termOfSum_39 : dd m_Tb_termOfSum 39 .aaload 1 40 := ⟨by decide +kernel, rfl⟩
theorem d_Tb_termOfSum_40 : dd m_Tb_termOfSum 40 (.iload_n 2) 1 41 := ⟨by decide +kernel, rfl⟩
theorem d_Tb_termOfSum_41 : dd m_Tb_termOfSum 41 .iaload 1 42 := ⟨by decide +kernel, rfl⟩
theorem d_Tb_termOfSum_42 : dd m_Tb_termOfSum 42 .i2l 1 43 := ⟨by decide +kernel, rfl⟩
theorem d_Tb_termOfSum_43 : db m_Tb_termOfSum 43 .goto 46 58 := ⟨15, by decide +kernel, rfl, rfl⟩
theorem d_Tb_termOfSum_46 : dd m_Tb_termOfSum 46 (.ldc 126) 2 48 := ⟨by decide +kernel, rfl⟩
theorem d_Tb_termOfSum_48 : dd m_Tb_termOfSum 48 (.aload_n 0) 1 49 := ⟨by decide +kernel, rfl⟩
theorem d_Tb_termOfSum_49 : dd m_Tb_termOfSum 49 (.getfield 36) 3 52 := ⟨by decide +kernel, rfl⟩
theorem d_Tb_termOfSum_52 : dd m_Tb_termOfSum 52 (.iload_n 3) 1 53 := ⟨by decide +kernel, rfl⟩
theorem d_Tb_termOfSum_53 : dd m_Tb_termOfSum 53 .aaload 1 54 := ⟨by decide +kernel, rfl⟩
theorem d_Tb_termOfSum_54 : dd m_Tb_termOfSum 54 (.iload_n 2) 1 55 := ⟨by decide +kernel, rfl⟩
theorem d_Tb_termOfSum_55 : dd m_Tb_termOfSum 55 .iaload 1 56 := ⟨by decide +kernel, rfl⟩
theorem d_Tb_termOfSum_56 : dd m_Tb_termOfSum 56 .isub 1 57 := ⟨by decide +kernel, rfl⟩
theorem d_Tb_termOfSum_57 : dd m_Tb_termOfSum 57 .i2l 1 58 := ⟨by decide +kernel, rfl⟩
theorem d_Tb_termOfSum_58 : decode (mbt m_Tb_termOfSum) 58 = .ok (.lreturn, 1) := by decide +kernel
theorem d_Tb_termOfSum_59 : dd m_Tb_termOfSum 59 (.aload_n 0) 1 60 := ⟨by decide +kernel, rfl⟩
theorem d_Tb_termOfSum_60 : dd m_Tb_termOfSum 60 (.getfield 36) 3 63 := ⟨by decide +kernel, rfl⟩
theorem d_Tb_termOfSum_63 : dd m_Tb_termOfSum 63 (.iload_n 3) 1 64 := ⟨by decide +kernel, rfl⟩
theorem d_Tb_termOfSum_64 : dd m_Tb_termOfSum 64 .aaload 1 65 := ⟨by decide +kernel, rfl⟩
theorem d_Tb_termOfSum_65 : dd m_Tb_termOfSum 65 (.iload_n 2) 1 66 := ⟨by decide +kernel, rfl⟩
theorem d_Tb_termOfSum_66 : dd m_Tb_termOfSum 66 .iaload 1 67 := ⟨by decide +kernel, rfl⟩
theorem d_Tb_termOfSum_67 : dd m_Tb_termOfSum 67 .i2l 1 68 := ⟨by decide +kernel, rfl⟩
theorem d_Tb_termOfSum_68 : dd m_Tb_termOfSum 68 (.iload_n 3) 1 69 := ⟨by decide +kernel, rfl⟩
theorem d_Tb_termOfSum_69 : dd m_Tb_termOfSum 69 .i2l 1 70 := ⟨by decide +kernel, rfl⟩
theorem d_Tb_termOfSum_70 : dd m_Tb_termOfSum 70 .lmul 1 71 := ⟨by decide +kernel, rfl⟩
theorem d_Tb_termOfSum_71 : decode (mbt m_Tb_termOfSum) 71 = .ok (.lreturn, 1) := by decide +kernel
theorem d_Tb_termOfSum_72 : dd m_Tb_termOfSum 72 (.aload_n 0) 1 73 := ⟨by decide +kernel, rfl⟩
theorem d_Tb_termOfSum_73 : dd m_Tb_termOfSum 73 (.getfield 36) 3 76 := ⟨by decide +kernel, rfl⟩
theorem d_Tb_termOfSum_76 : dd m_Tb_termOfSum 76 (.iload_n 3) 1 77 := ⟨by decide +kernel, rfl⟩
theorem d_Tb_termOfSum_77 : dd m_Tb_termOfSum 77 .aaload 1 78 := ⟨by decide +kernel, rfl⟩
theorem d_Tb_termOfSum_78 : dd m_Tb_termOfSum 78 (.iload_n 2) 1 79 := ⟨by decide +kernel, rfl⟩
theorem d_Tb_termOfSum_79 : dd m_Tb_termOfSum 79 (.iload_n 3) 1 80 := ⟨by decide +kernel, rfl⟩
theorem d_Tb_termOfSum_80 : dd m_Tb_termOfSum 80 .isub 1 81 := ⟨by decide +kernel, rfl⟩
theorem d_Tb_termOfSum_81 : dd m_Tb_termOfSum 81 .iaload 1 82 := ⟨by decide +kernel, rfl⟩
theorem d_Tb_termOfSum_82 : dd m_Tb_termOfSum 82 .i2l 1 83 := ⟨by decide +kernel, rfl⟩
theorem d_Tb_termOfSum_83 : decode (mbt m_Tb_termOfSum) 83 = .ok (.lreturn, 1) := by decide +kernel
theorem d_Tb_termOfSum_84 : dd m_Tb_termOfSum 84 (.aload_n 0) 1 85 := ⟨by decide +kernel, rfl⟩
theorem d_Tb_termOfSum_85 : dd m_Tb_termOfSum 85 (.getfield 36) 3 88 := ⟨by decide +kernel, rfl⟩
theorem d_Tb_termOfSum_88 : dd m_Tb_termOfSum 88 (.iload_n 3) 1 89 := ⟨by decide +kernel, rfl⟩
theorem d_Tb_termOfSum_89 : dd m_Tb_termOfSum 89 .aaload 1 90 := ⟨by decide +kernel, rfl⟩
theorem d_Tb_termOfSum_90 : dd m_Tb_termOfSum 90 (.iload_n 2) 1 91 := ⟨by decide +kernel, rfl⟩
theorem d_Tb_termOfSum_91 : dd m_Tb_termOfSum 91 .iaload 1 92 := ⟨by decide +kernel, rfl⟩
theorem d_Tb_termOfSum_92 : dd m_Tb_termOfSum 92 .i2l 1 93 := ⟨by decide +kernel, rfl⟩
theorem d_Tb_termOfSum_93 : decode (mbt m_Tb_termOfSum) 93 = .ok (.lreturn, 1) := by decide +kernel
theorem d_Tb_kindsOf_0 : dd m_Tb_kindsOf 0 (.iconst 0) 1 1 := ⟨by decide +kernel, rfl⟩
theorem d_Tb_kindsOf_1 : dd m_Tb_kindsOf 1 (.istore_n 3) 1 2 := ⟨by decide +kernel, rfl⟩
theorem d_Tb_kindsOf_2 : dd m_Tb_kindsOf 2 (.aload_n 1) 1 3 := ⟨by decide +kernel, rfl⟩
theorem d_Tb_kindsOf_3 : dd m_Tb_kindsOf 3 (.getfield 58) 3 6 := ⟨by decide +kernel, rfl⟩
theorem d_Tb_kindsOf_6 : dd m_Tb_kindsOf 6 (.iload_n 2) 1 7 := ⟨by decide +kernel, rfl⟩
theorem d_Tb_kindsOf_7 : dd m_Tb_kindsOf 7 (.invokestatic 133) 3 10 := ⟨by decide +kernel, rfl⟩
theorem d_Tb_kindsOf_10 : db m_Tb_kindsOf 10 (.ifCond .eq) 13 17 := ⟨7, by decide +kernel, rfl, rfl⟩
theorem d_Tb_kindsOf_13 : dd m_Tb_kindsOf 13 (.iload_n 3) 1 14 := ⟨by decide +kernel, rfl⟩
theorem d_Tb_kindsOf_14 : dd m_Tb_kindsOf 14 (.iconst 1) 1 15 := ⟨by decide +kernel, rfl⟩
theorem d_Tb_kindsOf_15 : dd m_Tb_kindsOf 15 .ior 1 16 := ⟨by decide +kernel, rfl⟩
theorem d_Tb_kindsOf_16 : dd m_Tb_kindsOf 16 (.istore_n 3) 1 17 := ⟨by decide +kernel, rfl⟩
theorem d_Tb_kindsOf_17 : dd m_Tb_kindsOf 17 (.aload_n 1) 1 18 := ⟨by decide +kernel, rfl⟩
theorem d_Tb_kindsOf_18 : dd m_Tb_kindsOf 18 (.getfield 49) 3 21 := ⟨by decide +kernel, rfl⟩
theorem d_Tb_kindsOf_21 : dd m_Tb_kindsOf 21 (.iload_n 2) 1 22 := ⟨by decide +kernel, rfl⟩
theorem d_Tb_kindsOf_22 : dd m_Tb_kindsOf 22 (.invokestatic 137) 3 25 := ⟨by decide +kernel, rfl⟩
theorem d_Tb_kindsOf_25 : db m_Tb_kindsOf 25 (.ifCond .eq) 28 32 := ⟨7, by decide +kernel, rfl, rfl⟩
theorem d_Tb_kindsOf_28 : dd m_Tb_kindsOf 28 (.iload_n 3) 1 29 := ⟨by decide +kernel, rfl⟩
theorem d_Tb_kindsOf_29 : dd m_Tb_kindsOf 29 (.iconst 2) 1 30 := ⟨by decide +kernel, rfl⟩
theorem d_Tb_kindsOf_30 : dd m_Tb_kindsOf 30 .ior 1 31 := ⟨by decide +kernel, rfl⟩
theorem d_Tb_kindsOf_31 : dd m_Tb_kindsOf 31 (.istore_n 3) 1 32 := ⟨by decide +kernel, rfl⟩
theorem d_Tb_kindsOf_32 : dd m_Tb_kindsOf 32 (.aload_n 1) 1 33 := ⟨by decide +kernel, rfl⟩
theorem d_Tb_kindsOf_33 : dd m_Tb_kindsOf 33 (.iload_n 2) 1 34 := ⟨by decide +kernel, rfl⟩
theorem d_Tb_kindsOf_34 : dd m_Tb_kindsOf 34 (.invokestatic 140) 3 37 := ⟨by decide +kernel, rfl⟩
theorem d_Tb_kindsOf_37 : db m_Tb_kindsOf 37 (.ifCond .eq) 40 44 := ⟨7, by decide +kernel, rfl, rfl⟩
theorem d_Tb_kindsOf_40 : dd m_Tb_kindsOf 40 (.iload_n 3) 1 41 := ⟨by decide +kernel, rfl⟩
theorem d_Tb_kindsOf_41 : dd m_Tb_kindsOf 41 (.iconst 4) 1 42 := ⟨by decide +kernel, rfl⟩
theorem d_Tb_kindsOf_42 : dd m_Tb_kindsOf 42 .ior 1 43 := ⟨by decide +kernel, rfl⟩
theorem d_Tb_kindsOf_43 : dd m_Tb_kindsOf 43 (.istore_n 3) 1 44 := ⟨by decide +kernel, rfl⟩
theorem d_Tb_kindsOf_44 : dd m_Tb_kindsOf 44 (.aload_n 1) 1 45 := ⟨by decide +kernel, rfl⟩
theorem d_Tb_kindsOf_45 : dd m_Tb_kindsOf 45 (.iload_n 2) 1 46 := ⟨by decide +kernel, rfl⟩
theorem d_Tb_kindsOf_46 : dd m_Tb_kindsOf 46 (.invokestatic 144) 3 49 := ⟨by decide +kernel, rfl⟩
theorem d_Tb_kindsOf_49 : db m_Tb_kindsOf 49 (.ifCond .eq) 52 57 := ⟨8, by decide +kernel, rfl, rfl⟩
theorem d_Tb_kindsOf_52 : dd m_Tb_kindsOf 52 (.iload_n 3) 1 53 := ⟨by decide +kernel, rfl⟩
theorem d_Tb_kindsOf_53 : dd m_Tb_kindsOf 53 (.bipush 8) 2 55 := ⟨by decide +kernel, rfl⟩
theorem d_Tb_kindsOf_55 : dd m_Tb_kindsOf 55 .ior 1 56 := ⟨by decide +kernel, rfl⟩
theorem d_Tb_kindsOf_56 : dd m_Tb_kindsOf 56 (.istore_n 3) 1 57 := ⟨by decide +kernel, rfl⟩
theorem d_Tb_kindsOf_57 : dd m_Tb_kindsOf 57 (.aload_n 0) 1 58 := ⟨by decide +kernel, rfl⟩
theorem d_Tb_kindsOf_58 : dd m_Tb_kindsOf 58 (.aload_n 1) 1 59 := ⟨by decide +kernel, rfl⟩
theorem d_Tb_kindsOf_59 : dd m_Tb_kindsOf 59 (.iload_n 2) 1 60 := ⟨by decide +kernel, rfl⟩
theorem d_Tb_kindsOf_60 : dd m_Tb_kindsOf 60 (.invokevirtual 147) 3 63 := ⟨by decide +kernel, rfl⟩
theorem d_Tb_kindsOf_63 : db m_Tb_kindsOf 63 (.ifCond .eq) 66 71 := ⟨8, by decide +kernel, rfl, rfl⟩
theorem d_Tb_kindsOf_66 : dd m_Tb_kindsOf 66 (.iload_n 3) 1 67 := ⟨by decide +kernel, rfl⟩
theorem d_Tb_kindsOf_67 : dd m_Tb_kindsOf 67 (.bipush 16) 2 69 := ⟨by decide +kernel, rfl⟩
theorem d_Tb_kindsOf_69 : dd m_Tb_kindsOf 69 .ior 1 70 := ⟨by decide +kernel, rfl⟩
theorem d_Tb_kindsOf_70 : dd m_Tb_kindsOf 70 (.istore_n 3) 1 71 := ⟨by decide +kernel, rfl⟩
theorem d_Tb_kindsOf_71 : dd m_Tb_kindsOf 71 (.aload_n 1) 1 72 := ⟨by decide +kernel, rfl⟩
theorem d_Tb_kindsOf_72 : dd m_Tb_kindsOf 72 (.aload_n 1) 1 73 := ⟨by decide +kernel, rfl⟩
theorem d_Tb_kindsOf_73 : dd m_Tb_kindsOf 73 (.iload_n 2) 1 74 := ⟨by decide +kernel, rfl⟩
theorem d_Tb_kindsOf_74 : dd m_Tb_kindsOf 74 (.aload_n 0) 1 75 := ⟨by decide +kernel, rfl⟩
theorem d_Tb_kindsOf_75 : dd m_Tb_kindsOf 75 (.getfield 18) 3 78 := ⟨by decide +kernel, rfl⟩
theorem d_Tb_kindsOf_78 : dd m_Tb_kindsOf 78 (.invokestatic 99) 3 81 := ⟨by decide +kernel, rfl⟩
theorem d_Tb_kindsOf_81 : dd m_Tb_kindsOf 81 (.aload_n 0) 1 82 := ⟨by decide +kernel, rfl⟩
theorem d_Tb_kindsOf_82 : dd m_Tb_kindsOf 82 (.getfield 18) 3 85 := ⟨by decide +kernel, rfl⟩
theorem d_Tb_kindsOf_85 : dd m_Tb_kindsOf 85 (.getfield 49) 3 88 := ⟨by decide +kernel, rfl⟩
theorem d_Tb_kindsOf_88 : dd m_Tb_kindsOf 88 (.iload_n 2) 1 89 := ⟨by decide +kernel, rfl⟩
theorem d_Tb_kindsOf_89 : dd m_Tb_kindsOf 89 (.invokestatic 137) 3 92 := ⟨by decide +kernel, rfl⟩
theorem d_Tb_kindsOf_92 : db m_Tb_kindsOf 92 (.ifCond .eq) 95 114 := ⟨22, by decide +kernel, rfl, rfl⟩
theorem d_Tb_kindsOf_95 : dd m_Tb_kindsOf 95 (.aload_n 0) 1 96 := ⟨by decide +kernel, rfl⟩
theorem d_Tb_kindsOf_96 : dd m_Tb_kindsOf 96 (.getfield 18) 3 99 := ⟨by decide +kernel, rfl⟩
theorem d_Tb_kindsOf_99 : dd m_Tb_kindsOf 99 (.getfield 58) 3 102 := ⟨by decide +kernel, rfl⟩
theorem d_Tb_kindsOf_102 : dd m_Tb_kindsOf 102 (.iload_n 2) 1 103 := ⟨by decide +kernel, rfl⟩
theorem d_Tb_kindsOf_103 : dd m_Tb_kindsOf 103 (.invokestatic 133) 3 106 := ⟨by decide +kernel, rfl⟩
theorem d_Tb_kindsOf_106 : db m_Tb_kindsOf 106 (.ifCond .eq) 109 114 := ⟨8, by decide +kernel, rfl, rfl⟩
theorem d_Tb_kindsOf_109 : dd m_Tb_kindsOf 109 (.iload_n 3) 1 110 := ⟨by decide +kernel, rfl⟩
theorem d_Tb_kindsOf_110 : dd m_Tb_kindsOf 110 (.bipush 32) 2 112 := ⟨by decide +kernel, rfl⟩
theorem d_Tb_kindsOf_112 : dd m_Tb_kindsOf 112 .ior 1 113 := ⟨by decide +kernel, rfl⟩
theorem d_Tb_kindsOf_113 : dd m_Tb_kindsOf 113 (.istore_n 3) 1 114 := ⟨by decide +kernel, rfl⟩
theorem d_Tb_kindsOf_114 : dd m_Tb_kindsOf 114 (.iload_n 3) 1 115 := ⟨by decide +kernel, rfl⟩
theorem d_Tb_kindsOf_115 : decode (mbt m_Tb_kindsOf) 115 = .ok (.ireturn, 1) := by decide +kernel
theorem d_Tb_isShifted_0 : dd m_Tb_isShifted 0 (.iconst 1) 1 1 := ⟨by decide +kernel, rfl⟩
theorem d_Tb_isShifted_1 : dd m_Tb_isShifted 1 (.istore_n 2) 1 2 := ⟨by decide +kernel, rfl⟩
theorem d_Tb_isShifted_2 : dd m_Tb_isShifted 2 (.iload_n 2) 1 3 := ⟨by decide +kernel, rfl⟩
theorem d_Tb_isShifted_3 : dd m_Tb_isShifted 3 (.iload_n 1) 1 4 := ⟨by decide +kernel, rfl⟩
theorem d_Tb_isShifted_4 : db m_Tb_isShifted 4 (.if_icmp .ge) 7 32 := ⟨28, by decide +kernel, rfl, rfl⟩
theorem d_Tb_isShifted_7 : dd m_Tb_isShifted 7 (.aload_n 0) 1 8 := ⟨by decide +kernel, rfl⟩
theorem d_Tb_isShifted_8 : dd m_Tb_isShifted 8 (.getfield 58) 3 11 := ⟨by decide +kernel, rfl⟩
theorem d_Tb_isShifted_11 : dd m_Tb_isShifted 11 (.iload_n 2) 1 12 := ⟨by decide +kernel, rfl⟩
theorem d_Tb_isShifted_12 : dd m_Tb_isShifted 12 .iaload 1 13 := ⟨by decide +kernel, rfl⟩
theorem d_Tb_isShifted_13 : dd m_Tb_isShifted 13 (.aload_n 0) 1 14 := ⟨by decide +kernel, rfl⟩
theorem d_Tb_isShifted_14 : dd m_Tb_isShifted 14 (.getfield 49) 3 17 := ⟨by decide +kernel, rfl⟩
theorem d_Tb_isShifted_17 : dd m_Tb_isShifted 17 (.iload_n 2) 1 18 := ⟨by decide +kernel, rfl⟩
theorem d_Tb_isShifted_18 : dd m_Tb_isShifted 18 (.iconst 1) 1 19 := ⟨by decide +kernel, rfl⟩
theorem d_Tb_isShifted_19 : dd m_Tb_isShifted 19 .isub 1 20 := ⟨by decide +kernel, rfl⟩
theorem d_Tb_isShifted_20 : dd m_Tb_isShifted 20 .iaload 1 21 := ⟨by decide +kernel, rfl⟩
theorem d_Tb_isShifted_21 : db m_Tb_isShifted 21 (.if_icmp .eq) 24 26 := ⟨5, by decide +kernel, rfl, rfl⟩
theorem d_Tb_isShifted_24 : dd m_Tb_isShifted 24 (.iconst 0) 1 25 := ⟨by decide +kernel, rfl⟩
theorem d_Tb_isShifted_25 : decode (mbt m_Tb_isShifted) 25 = .ok (.ireturn, 1) := by decide +kernel
theorem d_Tb_isShifted_26 : dd m_Tb_isShifted 26 (.iinc 2 1) 3 29 := ⟨by decide +kernel, rfl⟩
theorem d_Tb_isShifted_29 : db m_Tb_isShifted 29 .goto 32 2 := ⟨(-27), by decide +kernel, rfl, rfl⟩
theorem d_Tb_isShifted_32 : dd m_Tb_isShifted 32 (.iconst 1) 1 33 := ⟨by decide +kernel, rfl⟩
theorem d_Tb_isShifted_33 : decode (mbt m_Tb_isShifted) 33 = .ok (.ireturn, 1) := by decide +kernel
theorem d_Tb_isDerivative_0 : dd m_Tb_isDerivative 0 (.iconst 1) 1 1 := ⟨by decide +kernel, rfl⟩
theorem d_Tb_isDerivative_1 : dd m_Tb_isDerivative 1 (.istore_n 2) 1 2 := ⟨by decide +kernel, rfl⟩
theorem d_Tb_isDerivative_2 : dd m_Tb_isDerivative 2 (.iload_n 2) 1 3 := ⟨by decide +kernel, rfl⟩
theorem d_Tb_isDerivative_3 : dd m_Tb_isDerivative 3 (.iload_n 1) 1 4 := ⟨by decide +kernel, rfl⟩
theorem d_Tb_isDerivative_4 : db m_Tb_isDerivative 4 (.if_icmp .ge) 7 36 := ⟨32, by decide +kernel, rfl, rfl⟩
theorem d_Tb_isDerivative_7 : dd m_Tb_isDerivative 7 (.aload_n 0) 1 8 := ⟨by decide +kernel, rfl⟩
theorem d_Tb_isDerivative_8 : dd m_Tb_isDerivative 8 (.getfield 49) 3 11 := ⟨by decide +kernel, rfl⟩
theorem d_Tb_isDerivative_11 : dd m_Tb_isDerivative 11 (.iload_n 2) 1 12 := ⟨by decide +kernel, rfl⟩
theorem d_Tb_isDerivative_12 : dd m_Tb_isDerivative 12 (.iconst 1) 1 13 := ⟨by decide +kernel, rfl⟩
theorem d_Tb_isDerivative_13 : dd m_Tb_isDerivative 13 .isub 1 14 := ⟨by decide +kernel, rfl⟩
theorem d_Tb_isDerivative_14 : dd m_Tb_isDerivative 14 .iaload 1 15 := ⟨by decide +kernel, rfl⟩
theorem d_Tb_isDerivative_15 : dd m_Tb_isDerivative 15 (.aload_n 0) 1 16 := ⟨by decide +kernel, rfl⟩
theorem d_Tb_isDerivative_16 : dd m_Tb_isDerivative 16 (.getfield 58) 3 19 := ⟨by decide +kernel, rfl⟩
theorem d_Tb_isDerivative_19 : dd m_Tb_isDerivative 19 (.iload_n 2) 1 20 := ⟨by decide +kernel, rfl⟩
theorem d_Tb_isDerivative_20 : dd m_Tb_isDerivative 20 .iaload 1 21 := ⟨by decide +kernel, rfl⟩
theorem d_Tb_isDerivative_21 : dd m_Tb_isDerivative 21 (.iload_n 2) 1 22 := ⟨by decide +kernel, rfl⟩
theorem d_Tb_isDerivative_22 : dd m_Tb_isDerivative 22 (.invokestatic 130) 3 25 := ⟨by decide +kernel, rfl⟩
theorem d_Tb_isDerivative_25 : db m_Tb_isDerivative 25 (.if_icmp .eq) 28 30 := ⟨5, by decide +kernel, rfl, rfl⟩
theorem d_Tb_isDerivative_28 : dd m_Tb_isDerivative 28 (.iconst 0) 1 29 := ⟨by decide +kernel, rfl⟩
theorem d_Tb_isDerivative_29 : decode (mbt m_Tb_isDerivative) 29 = .ok (.ireturn, 1) := by decide +kernel
theorem d_Tb_isDerivative_30 : dd m_Tb_isDerivative 30 (.iinc 2 1) 3 33 := ⟨by decide +kernel, rfl⟩
theorem d_Tb_isDerivative_33 : db m_Tb_isDerivative 33 .goto 36 2 := ⟨(-31), by decide +kernel, rfl, rfl⟩
theorem d_Tb_isDerivative_36 : dd m_Tb_isDerivative 36 (.iconst 1) 1 37 := ⟨by decide +kernel, rfl⟩
theorem d_Tb_isDerivative_37 : decode (mbt m_Tb_isDerivative) 37 = .ok (.ireturn, 1) := by decide +kernel
theorem d_Tb_isChequered_0 : dd m_Tb_isChequered 0 (.aload_n 1) 1 1 := ⟨by decide +kernel, rfl⟩
theorem d_Tb_isChequered_1 : dd m_Tb_isChequered 1 (.iload_n 2) 1 2 := ⟨by decide +kernel, rfl⟩
theorem d_Tb_isChequered_2 : dd m_Tb_isChequered 2 (.aload_n 0) 1 3 := ⟨by decide +kernel, rfl⟩
theorem d_Tb_isChequered_3 : dd m_Tb_isChequered 3 (.getfield 36) 3 6 := ⟨by decide +kernel, rfl⟩
theorem d_Tb_isChequered_6 : dd m_Tb_isChequered 6 (.invokestatic 116) 3 9 := ⟨by decide +kernel, rfl⟩
theorem d_Tb_isChequered_9 : dd m_Tb_isChequered 9 (.iconst 0) 1 10 := ⟨by decide +kernel, rfl⟩
theorem d_Tb_isChequered_10 : dd m_Tb_isChequered 10 (.istore_n 3) 1 11 := ⟨by decide +kernel, rfl⟩
theorem d_Tb_isChequered_11 : dd m_Tb_isChequered 11 (.iload_n 3) 1 12 := ⟨by decide +kernel, rfl⟩
theorem d_Tb_isChequered_12 : dd m_Tb_isChequered 12 (.iload_n 2) 1 13 := ⟨by decide +kernel, rfl⟩
theorem d_Tb_isChequered_13 : db m_Tb_isChequered 13 (.if_icmp .ge) 16 53 := ⟨40, by decide +kernel, rfl, rfl⟩
theorem d_Tb_isChequered_16 : dd m_Tb_isChequered 16 (.iload_n 3) 1 17 := ⟨by decide +kernel, rfl⟩
theorem d_Tb_isChequered_17 : dd m_Tb_isChequered 17 (.iconst 1) 1 18 := ⟨by decide +kernel, rfl⟩
theorem d_Tb_isChequered_18 : dd m_Tb_isChequered 18 .iadd 1 19 := ⟨by decide +kernel, rfl⟩
theorem d_Tb_isChequered_19 : dd m_Tb_isChequered 19 (.istore 4) 2 21 := ⟨by decide +kernel, rfl⟩
theorem d_Tb_isChequered_21 : dd m_Tb_isChequered 21 (.iload 4) 2 23 := ⟨by decide +kernel, rfl⟩
theorem d_Tb_isChequered_23 : dd m_Tb_isChequered 23 (.iload_n 2) 1 24 := ⟨by decide +kernel, rfl⟩
theorem d_Tb_isChequered_24 : db m_Tb_isChequered 24 (.if_icmp .ge) 27 47 := ⟨23, by decide +kernel, rfl, rfl⟩
theorem d_Tb_isChequered_27 : dd m_Tb_isChequered 27 (.aload_n 0) 1 28 := ⟨by decide +kernel, rfl⟩
theorem d_Tb_isChequered_28 : dd m_Tb_isChequered 28 (.getfield 36) 3 31 := ⟨by decide +kernel, rfl⟩
theorem d_Tb_isChequered_31 : dd m_Tb_isChequered 31 (.iload_n 3) 1 32 := ⟨by decide +kernel, rfl⟩
theorem d_Tb_isChequered_32 : dd m_Tb_isChequered 32 .aaload 1 33 := ⟨by decide +kernel, rfl⟩
theorem d_Tb_isChequered_33 : dd m_Tb_isChequered 33 (.iload 4) 2 35 := ⟨by decide +kernel, rfl⟩
theorem d_Tb_isChequered_35 : dd m_Tb_isChequered 35 .iaload 1 36 := ⟨by decide +kernel, rfl⟩
theorem d_Tb_isChequered_36 : db m_Tb_isChequered 36 (.ifCond .eq) 39 41 := ⟨5, by decide +kernel, rfl, rfl⟩
theorem d_Tb_isChequered_39 : dd m_Tb_isChequered 39 (.iconst 0) 1 40 := ⟨by decide +kernel, rfl⟩
theorem d_Tb_isChequered_40 : decode (mbt m_Tb_isChequered) 40 = .ok (.ireturn, 1) := by decide +kernel
theorem d_Tb_isChequered_41 : dd m_Tb_isChequered 41 (.iinc 4 2) 3 44 := ⟨by decide +kernel, rfl⟩
theorem d_Tb_isChequered_44 : db m_Tb_isChequered 44 .goto 47 21 := ⟨(-23), by decide +kernel, rfl, rfl⟩
theorem d_Tb_isChequered_47 : dd m_Tb_isChequered 47 (.iinc 3 1) 3 50 := ⟨by decide +kernel, rfl⟩
theorem d_Tb_isChequered_50 : db m_Tb_isChequered 50 .goto 53 11 := ⟨(-39), by decide +kernel, rfl, rfl⟩
theorem d_Tb_isChequered_53 : dd m_Tb_isChequered 53 (.iconst 1) 1 54 := ⟨by decide +kernel, rfl⟩
theorem d_Tb_isChequered_54 : decode (mbt m_Tb_isChequered) 54 = .ok (.ireturn, 1) := by decide +kernel
theorem d_Tb_firstDifference_0 : dd m_Tb_firstDifference 0 (.aload_n 1) 1 1 := ⟨by decide +kernel, rfl⟩
theorem d_Tb_firstDifference_1 : dd m_Tb_firstDifference 1 (.iload_n 3) 1 2 := ⟨by decide +kernel, rfl⟩
theorem d_Tb_firstDifference_2 : dd m_Tb_firstDifference 2 (.aload_n 0) 1 3 := ⟨by decide +kernel, rfl⟩
theorem d_Tb_firstDifference_3 : dd m_Tb_firstDifference 3 (.getfield 36) 3 6 := ⟨by decide +kernel, rfl⟩
theorem d_Tb_firstDifference_6 : dd m_Tb_firstDifference 6 (.invokestatic 116) 3 9 := ⟨by decide +kernel, rfl⟩
theorem d_Tb_firstDifference_9 : dd m_Tb_firstDifference 9 (.aload_n 2) 1 10 := ⟨by decide +kernel, rfl⟩
theorem d_Tb_firstDifference_10 : dd m_Tb_firstDifference 10 (.iload_n 3) 1 11 := ⟨by decide +kernel, rfl⟩
theorem d_Tb_firstDifference_11 : dd m_Tb_firstDifference 11 (.aload_n 0) 1 12 := ⟨by decide +kernel, rfl⟩
theorem d_Tb_firstDifference_12 : dd m_Tb_firstDifference 12 (.getfield 39) 3 15 := ⟨by decide +kernel, rfl⟩
theorem d_Tb_firstDifference_15 : dd m_Tb_firstDifference 15 (.invokestatic 116) 3 18 := ⟨by decide +kernel, rfl⟩
theorem d_Tb_firstDifference_18 : dd m_Tb_firstDifference 18 (.iconst 0) 1 19 := ⟨by decide +kernel, rfl⟩
theorem d_Tb_firstDifference_19 : dd m_Tb_firstDifference 19 (.istore 4) 2 21 := ⟨by decide +kernel, rfl⟩
theorem d_Tb_firstDifference_21 : dd m_Tb_firstDifference 21 (.iload 4) 2 23 := ⟨by decide +kernel, rfl⟩
theorem d_Tb_firstDifference_23 : dd m_Tb_firstDifference 23 (.iload_n 3) 1 24 := ⟨by decide +kernel, rfl⟩
theorem d_Tb_firstDifference_24 : db m_Tb_firstDifference 24 (.if_icmp .ge) 27 81 := ⟨57, by decide +kernel, rfl, rfl⟩
theorem d_Tb_firstDifference_27 : dd m_Tb_firstDifference 27 (.iconst 0) 1 28 := ⟨by decide +kernel, rfl⟩
theorem d_Tb_firstDifference_28 : dd m_Tb_firstDifference 28 (.istore 5) 2 30 := ⟨by decide +kernel, rfl⟩
theorem d_Tb_firstDifference_30 : dd m_Tb_firstDifference 30 (.iload 5) 2 32 := ⟨by decide +kernel, rfl⟩
theorem d_Tb_firstDifference_32 : dd m_Tb_firstDifference 32 (.iload 4) 2 34 := ⟨by decide +kernel, rfl⟩
theorem d_Tb_firstDifference_34 : db m_Tb_firstDifference 34 (.if_icmp .gt) 37 75 := ⟨41, by decide +kernel, rfl, rfl⟩
theorem d_Tb_firstDifference_37 : dd m_Tb_firstDifference 37 (.aload_n 0) 1 38 := ⟨by decide +kernel, rfl⟩
theorem d_Tb_firstDifference_38 : dd m_Tb_firstDifference 38 (.getfield 36) 3 41 := ⟨by decide +kernel, rfl⟩
theorem d_Tb_firstDifference_41 : dd m_Tb_firstDifference 41 (.iload 5) 2 43 := ⟨by decide +kernel, rfl⟩
theorem d_Tb_firstDifference_43 : dd m_Tb_firstDifference 43 .aaload 1 44 := ⟨by decide +kernel, rfl⟩
theorem d_Tb_firstDifference_44 : dd m_Tb_firstDifference 44 (.iload 4) 2 46 := ⟨by decide +kernel, rfl⟩
theorem d_Tb_firstDifference_46 : dd m_Tb_firstDifference 46 .iaload 1 47 := ⟨by decide +kernel, rfl⟩
theorem d_Tb_firstDifference_47 : dd m_Tb_firstDifference 47 (.aload_n 0) 1 48 := ⟨by decide +kernel, rfl⟩
theorem d_Tb_firstDifference_48 : dd m_Tb_firstDifference 48 (.getfield 39) 3 51 := ⟨by decide +kernel, rfl⟩
theorem d_Tb_firstDifference_51 : dd m_Tb_firstDifference 51 (.iload 5) 2 53 := ⟨by decide +kernel, rfl⟩
theorem d_Tb_firstDifference_53 : dd m_Tb_firstDifference 53 .aaload 1 54 := ⟨by decide +kernel, rfl⟩
theorem d_Tb_firstDifference_54 : dd m_Tb_firstDifference 54 (.iload 4) 2 56 := ⟨by decide +kernel, rfl⟩
theorem d_Tb_firstDifference_56 : dd m_Tb_firstDifference 56 .iaload 1 57 := ⟨by decide +kernel, rfl⟩
theorem d_Tb_firstDifference_57 : db m_Tb_firstDifference 57 (.if_icmp .eq) 60 69 := ⟨12, by decide +kernel, rfl, rfl⟩
theorem d_Tb_firstDifference_60 : dd m_Tb_firstDifference 60 (.bipush 10) 2 62 := ⟨by decide +kernel, rfl⟩
theorem d_Tb_firstDifference_62 : dd m_Tb_firstDifference 62 (.iload 4) 2 64 := ⟨by decide +kernel, rfl⟩
theorem d_Tb_firstDifference_64 : dd m_Tb_firstDifference 64 .imul 1 65 := ⟨by decide +kernel, rfl⟩
theorem d_Tb_firstDifference_65 : dd m_Tb_firstDifference 65 (.iload 5) 2 67 := ⟨by decide +kernel, rfl⟩
theorem d_Tb_firstDifference_67 : dd m_Tb_firstDifference 67 .iadd 1 68 := ⟨by decide +kernel, rfl⟩
theorem d_Tb_firstDifference_68 : decode (mbt m_Tb_firstDifference) 68 = .ok (.ireturn, 1) := by decide +kernel
theorem d_Tb_firstDifference_69 : dd m_Tb_firstDifference 69 (.iinc 5 1) 3 72 := ⟨by decide +kernel, rfl⟩
theorem d_Tb_firstDifference_72 : db m_Tb_firstDifference 72 .goto 75 30 := ⟨(-42), by decide +kernel, rfl, rfl⟩
theorem d_Tb_firstDifference_75 : dd m_Tb_firstDifference 75 (.iinc 4 1) 3 78 := ⟨by decide +kernel, rfl⟩
theorem d_Tb_firstDifference_78 : db m_Tb_firstDifference 78 .goto 81 21 := ⟨(-57), by decide +kernel, rfl, rfl⟩
theorem d_Tb_firstDifference_81 : dd m_Tb_firstDifference 81 (.iconst (-1)) 1 82 := ⟨by decide +kernel, rfl⟩
theorem d_Tb_firstDifference_82 : decode (mbt m_Tb_firstDifference) 82 = .ok (.ireturn, 1) := by decide +kernel
theorem d_Tb_firstOfChangedPlaces_0 : dd m_Tb_firstOfChangedPlaces 0 (.aload_n 1) 1 1 := ⟨by decide +kernel, rfl⟩
theorem d_Tb_firstOfChangedPlaces_1 : dd m_Tb_firstOfChangedPlaces 1 (.aload_n 2) 1 2 := ⟨by decide +kernel, rfl⟩
theorem d_Tb_firstOfChangedPlaces_2 : dd m_Tb_firstOfChangedPlaces 2 (.iload_n 3) 1 3 := ⟨by decide +kernel, rfl⟩
theorem d_Tb_firstOfChangedPlaces_3 : dd m_Tb_firstOfChangedPlaces 3 (.aload_n 0) 1 4 := ⟨by decide +kernel, rfl⟩
theorem d_Tb_firstOfChangedPlaces_4 : dd m_Tb_firstOfChangedPlaces 4 (.getfield 18) 3 7 := ⟨by decide +kernel, rfl⟩
theorem d_Tb_firstOfChangedPlaces_7 : dd m_Tb_firstOfChangedPlaces 7 (.invokestatic 99) 3 10 := ⟨by decide +kernel, rfl⟩
theorem d_Tb_firstOfChangedPlaces_10 : dd m_Tb_firstOfChangedPlaces 10 (.aload_n 2) 1 11 := ⟨by decide +kernel, rfl⟩
theorem d_Tb_firstOfChangedPlaces_11 : dd m_Tb_firstOfChangedPlaces 11 (.aload_n 1) 1 12 := ⟨by decide +kernel, rfl⟩
theorem d_Tb_firstOfChangedPlaces_12 : dd m_Tb_firstOfChangedPlaces 12 (.iload_n 3) 1 13 := ⟨by decide +kernel, rfl⟩
theorem d_Tb_firstOfChangedPlaces_13 : dd m_Tb_firstOfChangedPlaces 13 (.aload_n 0) 1 14 := ⟨by decide +kernel, rfl⟩
theorem d_Tb_firstOfChangedPlaces_14 : dd m_Tb_firstOfChangedPlaces 14 (.getfield 21) 3 17 := ⟨by decide +kernel, rfl⟩
theorem d_Tb_firstOfChangedPlaces_17 : dd m_Tb_firstOfChangedPlaces 17 (.invokestatic 99) 3 20 := ⟨by decide +kernel, rfl⟩
theorem d_Tb_firstOfChangedPlaces_20 : dd m_Tb_firstOfChangedPlaces 20 (.aload_n 0) 1 21 := ⟨by decide +kernel, rfl⟩
theorem d_Tb_firstOfChangedPlaces_21 : dd m_Tb_firstOfChangedPlaces 21 (.aload_n 0) 1 22 := ⟨by decide +kernel, rfl⟩
theorem d_Tb_firstOfChangedPlaces_22 : dd m_Tb_firstOfChangedPlaces 22 (.getfield 18) 3 25 := ⟨by decide +kernel, rfl⟩
theorem d_Tb_firstOfChangedPlaces_25 : dd m_Tb_firstOfChangedPlaces 25 (.aload_n 0) 1 26 := ⟨by decide +kernel, rfl⟩
theorem d_Tb_firstOfChangedPlaces_26 : dd m_Tb_firstOfChangedPlaces 26 (.getfield 21) 3 29 := ⟨by decide +kernel, rfl⟩
theorem d_Tb_firstOfChangedPlaces_29 : dd m_Tb_firstOfChangedPlaces 29 (.iload_n 3) 1 30 := ⟨by decide +kernel, rfl⟩
theorem d_Tb_firstOfChangedPlaces_30 : dd m_Tb_firstOfChangedPlaces 30 (.invokevirtual 150) 3 33 := ⟨by decide +kernel, rfl⟩
theorem d_Tb_firstOfChangedPlaces_33 : decode (mbt m_Tb_firstOfChangedPlaces) 33 = .ok (.ireturn, 1) := by decide +kernel
theorem d_Tb_layEntries_0 : dd m_Tb_layEntries 0 (.aload_n 1) 1 1 := ⟨by decide +kernel, rfl⟩
theorem d_Tb_layEntries_1 : dd m_Tb_layEntries 1 (.iload_n 2) 1 2 := ⟨by decide +kernel, rfl⟩
theorem d_Tb_layEntries_2 : dd m_Tb_layEntries 2 (.aload_n 0) 1 3 := ⟨by decide +kernel, rfl⟩
theorem d_Tb_layEntries_3 : dd m_Tb_layEntries 3 (.getfield 36) 3 6 := ⟨by decide +kernel, rfl⟩
theorem d_Tb_layEntries_6 : dd m_Tb_layEntries 6 (.invokestatic 116) 3 9 := ⟨by decide +kernel, rfl⟩
theorem d_Tb_layEntries_9 : dd m_Tb_layEntries 9 (.iconst 0) 1 10 := ⟨by decide +kernel, rfl⟩
theorem d_Tb_layEntries_10 : dd m_Tb_layEntries 10 (.istore 4) 2 12 := ⟨by decide +kernel, rfl⟩
theorem d_Tb_layEntries_12 : dd m_Tb_layEntries 12 (.iload 4) 2 14 := ⟨by decide +kernel, rfl⟩
theorem d_Tb_layEntries_14 : dd m_Tb_layEntries 14 (.iload_n 2) 1 15 := ⟨by decide +kernel, rfl⟩
theorem d_Tb_layEntries_15 : db m_Tb_layEntries 15 (.if_icmp .ge) 18 57 := ⟨42, by decide +kernel, rfl, rfl⟩
theorem d_Tb_layEntries_18 : dd m_Tb_layEntries 18 (.iconst 0) 1 19 := ⟨by decide +kernel, rfl⟩
theorem d_Tb_layEntries_19 : dd m_Tb_layEntries 19 (.istore 5) 2 21 := ⟨by decide +kernel, rfl⟩
theorem d_Tb_layEntries_21 : dd m_Tb_layEntries 21 (.iload 5) 2 23 := ⟨by decide +kernel, rfl⟩
theorem d_Tb_layEntries_23 : dd m_Tb_layEntries 23 (.iload 4) 2 25 := ⟨by decide +kernel, rfl⟩
theorem d_Tb_layEntries_25 : db m_Tb_layEntries 25 (.if_icmp .gt) 28 51 := ⟨26, by decide +kernel, rfl, rfl⟩
theorem d_Tb_layEntries_28 : dd m_Tb_layEntries 28 (.aload_n 3) 1 29 := ⟨by decide +kernel, rfl⟩
theorem d_Tb_layEntries_29 : dd m_Tb_layEntries 29 (.iload 4) 2 31 := ⟨by decide +kernel, rfl⟩
theorem d_Tb_layEntries_31 : dd m_Tb_layEntries 31 .aaload 1 32 := ⟨by decide +kernel, rfl⟩
theorem d_Tb_layEntries_32 : dd m_Tb_layEntries 32 (.iload 5) 2 34 := ⟨by decide +kernel, rfl⟩
theorem d_Tb_layEntries_34 : dd m_Tb_layEntries 34 (.aload_n 0) 1 35 := ⟨by decide +kernel, rfl⟩
theorem d_Tb_layEntries_35 : dd m_Tb_layEntries 35 (.getfield 36) 3 38 := ⟨by decide +kernel, rfl⟩
theorem d_Tb_layEntries_38 : dd m_Tb_layEntries 38 (.iload 5) 2 40 := ⟨by decide +kernel, rfl⟩
theorem d_Tb_layEntries_40 : dd m_Tb_layEntries 40 .aaload 1 41 := ⟨by decide +kernel, rfl⟩
theorem d_Tb_layEntries_41 : dd m_Tb_layEntries 41 (.iload 4) 2 43 := ⟨by decide +kernel, rfl⟩
theorem d_Tb_layEntries_43 : dd m_Tb_layEntries 43 .iaload 1 44 := ⟨by decide +kernel, rfl⟩
theorem d_Tb_layEntries_44 : dd m_Tb_layEntries 44 .iastore 1 45 := ⟨by decide +kernel, rfl⟩
theorem d_Tb_layEntries_45 : dd m_Tb_layEntries 45 (.iinc 5 1) 3 48 := ⟨by decide +kernel, rfl⟩
theorem d_Tb_layEntries_48 : db m_Tb_layEntries 48 .goto 51 21 := ⟨(-27), by decide +kernel, rfl, rfl⟩
theorem d_Tb_layEntries_51 : dd m_Tb_layEntries 51 (.iinc 4 1) 3 54 := ⟨by decide +kernel, rfl⟩
theorem d_Tb_layEntries_54 : db m_Tb_layEntries 54 .goto 57 12 := ⟨(-42), by decide +kernel, rfl, rfl⟩
theorem d_Tb_layEntries_57 : decode (mbt m_Tb_layEntries) 57 = .ok (.return_, 1) := by decide +kernel
theorem d_Tb_recognise_0 : dd m_Tb_recognise 0 (.aload_n 1) 1 1 := ⟨by decide +kernel, rfl⟩
theorem d_Tb_recognise_1 : dd m_Tb_recognise 1 (.iconst 0) 1 2 := ⟨by decide +kernel, rfl⟩
theorem d_Tb_recognise_2 : dd m_Tb_recognise 2 .aaload 1 3 := ⟨by decide +kernel, rfl⟩
theorem d_Tb_recognise_3 : dd m_Tb_recognise 3 (.iconst 0) 1 4 := ⟨by decide +kernel, rfl⟩
theorem d_Tb_recognise_4 : dd m_Tb_recognise 4 .iaload 1 5 := ⟨by decide +kernel, rfl⟩
theorem d_Tb_recognise_5 : db m_Tb_recognise 5 (.ifCond .eq) 8 16 := ⟨11, by decide +kernel, rfl, rfl⟩
theorem d_Tb_recognise_8 : dd m_Tb_recognise 8 (.aload_n 1) 1 9 := ⟨by decide +kernel, rfl⟩
theorem d_Tb_recognise_9 : dd m_Tb_recognise 9 (.iconst 1) 1 10 := ⟨by decide +kernel, rfl⟩
theorem d_Tb_recognise_10 : dd m_Tb_recognise 10 .aaload 1 11 := ⟨by decide +kernel, rfl⟩
theorem d_Tb_recognise_11 : dd m_Tb_recognise 11 (.iconst 1) 1 12 := ⟨by decide +kernel, rfl⟩
theorem d_Tb_recognise_12 : dd m_Tb_recognise 12 .iaload 1 13 := ⟨by decide +kernel, rfl⟩
theorem d_Tb_recognise_13 : db m_Tb_recognise 13 (.ifCond .ne) 16 19 := ⟨6, by decide +kernel, rfl, rfl⟩
theorem d_Tb_recognise_16 : dd m_Tb_recognise 16 (.bipush 100) 2 18 := ⟨by decide +kernel, rfl⟩
theorem d_Tb_recognise_18 : decode (mbt m_Tb_recognise) 18 = .ok (.ireturn, 1) := by decide +kernel
theorem d_Tb_recognise_19 : dd m_Tb_recognise 19 (.aload_n 0) 1 20 := ⟨by decide +kernel, rfl⟩
theorem d_Tb_recognise_20 : dd m_Tb_recognise 20 (.getfield 12) 3 23 := ⟨by decide +kernel, rfl⟩
theorem d_Tb_recognise_23 : dd m_Tb_recognise 23 (.invokevirtual 90) 3 26 := ⟨by decide +kernel, rfl⟩
theorem d_Tb_recognise_26 : dd m_Tb_recognise 26 (.iconst 0) 1 27 := ⟨by decide +kernel, rfl⟩
theorem d_Tb_recognise_27 : dd m_Tb_recognise 27 (.istore_n 3) 1 28 := ⟨by decide +kernel, rfl⟩
theorem d_Tb_recognise_28 : dd m_Tb_recognise 28 (.iload_n 3) 1 29 := ⟨by decide +kernel, rfl⟩
theorem d_Tb_recognise_29 : dd m_Tb_recognise 29 (.iload_n 2) 1 30 := ⟨by decide +kernel, rfl⟩
theorem d_Tb_recognise_30 : db m_Tb_recognise 30 (.if_icmp .ge) 33 67 := ⟨37, by decide +kernel, rfl, rfl⟩
theorem d_Tb_recognise_33 : dd m_Tb_recognise 33 (.aload_n 0) 1 34 := ⟨by decide +kernel, rfl⟩
theorem d_Tb_recognise_34 : dd m_Tb_recognise 34 (.getfield 12) 3 37 := ⟨by decide +kernel, rfl⟩
theorem d_Tb_recognise_37 : dd m_Tb_recognise 37 (.getfield 49) 3 40 := ⟨by decide +kernel, rfl⟩
theorem d_Tb_recognise_40 : dd m_Tb_recognise 40 (.iload_n 3) 1 41 := ⟨by decide +kernel, rfl⟩
theorem d_Tb_recognise_41 : dd m_Tb_recognise 41 (.aload_n 1) 1 42 := ⟨by decide +kernel, rfl⟩
theorem d_Tb_recognise_42 : dd m_Tb_recognise 42 (.iload_n 3) 1 43 := ⟨by decide +kernel, rfl⟩
theorem d_Tb_recognise_43 : dd m_Tb_recognise 43 .aaload 1 44 := ⟨by decide +kernel, rfl⟩
theorem d_Tb_recognise_44 : dd m_Tb_recognise 44 (.iconst 0) 1 45 := ⟨by decide +kernel, rfl⟩
theorem d_Tb_recognise_45 : dd m_Tb_recognise 45 .iaload 1 46 := ⟨by decide +kernel, rfl⟩
theorem d_Tb_recognise_46 : dd m_Tb_recognise 46 .iastore 1 47 := ⟨by decide +kernel, rfl⟩
theorem d_Tb_recognise_47 : dd m_Tb_recognise 47 (.aload_n 0) 1 48 := ⟨by decide +kernel, rfl⟩
theorem d_Tb_recognise_48 : dd m_Tb_recognise 48 (.getfield 12) 3 51 := ⟨by decide +kernel, rfl⟩
theorem d_Tb_recognise_51 : dd m_Tb_recognise 51 (.getfield 58) 3 54 := ⟨by decide +kernel, rfl⟩
theorem d_Tb_recognise_54 : dd m_Tb_recognise 54 (.iload_n 3) 1 55 := ⟨by decide +kernel, rfl⟩
theorem d_Tb_recognise_55 : dd m_Tb_recognise 55 (.aload_n 1) 1 56 := ⟨by decide +kernel, rfl⟩
theorem d_Tb_recognise_56 : dd m_Tb_recognise 56 (.iload_n 3) 1 57 := ⟨by decide +kernel, rfl⟩
theorem d_Tb_recognise_57 : dd m_Tb_recognise 57 .aaload 1 58 := ⟨by decide +kernel, rfl⟩
theorem d_Tb_recognise_58 : dd m_Tb_recognise 58 (.iconst 1) 1 59 := ⟨by decide +kernel, rfl⟩
theorem d_Tb_recognise_59 : dd m_Tb_recognise 59 .iaload 1 60 := ⟨by decide +kernel, rfl⟩
theorem d_Tb_recognise_60 : dd m_Tb_recognise 60 .iastore 1 61 := ⟨by decide +kernel, rfl⟩
theorem d_Tb_recognise_61 : dd m_Tb_recognise 61 (.iinc 3 1) 3 64 := ⟨by decide +kernel, rfl⟩
theorem d_Tb_recognise_64 : db m_Tb_recognise 64 .goto 67 28 := ⟨(-36), by decide +kernel, rfl, rfl⟩
theorem d_Tb_recognise_67 : dd m_Tb_recognise 67 (.aload_n 0) 1 68 := ⟨by decide +kernel, rfl⟩
theorem d_Tb_recognise_68 : dd m_Tb_recognise 68 (.getfield 12) 3 71 := ⟨by decide +kernel, rfl⟩
theorem d_Tb_recognise_71 : dd m_Tb_recognise 71 (.getfield 58) 3 74 := ⟨by decide +kernel, rfl⟩
theorem d_Tb_recognise_74 : dd m_Tb_recognise 74 (.aload_n 0) 1 75 := ⟨by decide +kernel, rfl⟩
theorem d_Tb_recognise_75 : dd m_Tb_recognise 75 (.getfield 12) 3 78 := ⟨by decide +kernel, rfl⟩
theorem d_Tb_recognise_78 : dd m_Tb_recognise 78 (.getfield 49) 3 81 := ⟨by decide +kernel, rfl⟩
theorem d_Tb_recognise_81 : dd m_Tb_recognise 81 (.iload_n 2) 1 82 := ⟨by decide +kernel, rfl⟩
theorem d_Tb_recognise_82 : dd m_Tb_recognise 82 (.invokestatic 79) 3 85 := ⟨by decide +kernel, rfl⟩
theorem d_Tb_recognise_85 : dd m_Tb_recognise 85 (.aload_n 0) 1 86 := ⟨by decide +kernel, rfl⟩
theorem d_Tb_recognise_86 : dd m_Tb_recognise 86 (.getfield 12) 3 89 := ⟨by decide +kernel, rfl⟩
theorem d_Tb_recognise_89 : dd m_Tb_recognise 89 (.iload_n 2) 1 90 := ⟨by decide +kernel, rfl⟩
theorem d_Tb_recognise_90 : dd m_Tb_recognise 90 (.aload_n 0) 1 91 := ⟨by decide +kernel, rfl⟩
theorem d_Tb_recognise_91 : dd m_Tb_recognise 91 (.getfield 36) 3 94 := ⟨by decide +kernel, rfl⟩
theorem d_Tb_recognise_94 : dd m_Tb_recognise 94 (.invokestatic 116) 3 97 := ⟨by decide +kernel, rfl⟩
theorem d_Tb_recognise_97 : dd m_Tb_recognise 97 (.iconst 0) 1 98 := ⟨by decide +kernel, rfl⟩
theorem d_Tb_recognise_98 : dd m_Tb_recognise 98 (.istore_n 3) 1 99 := ⟨by decide +kernel, rfl⟩
theorem d_Tb_recognise_99 : dd m_Tb_recognise 99 (.iload_n 3) 1 100 := ⟨by decide +kernel, rfl⟩
theorem d_Tb_recognise_100 : dd m_Tb_recognise 100 (.iload_n 2) 1 101 := ⟨by decide +kernel, rfl⟩
theorem d_Tb_recognise_101 : db m_Tb_recognise 101 (.if_icmp .ge) 104 151 := ⟨50, by decide +kernel, rfl, rfl⟩
theorem d_Tb_recognise_104 : dd m_Tb_recognise 104 (.iconst 0) 1 105 := ⟨by decide +kernel, rfl⟩
theorem d_Tb_recognise_105 : dd m_Tb_recognise 105 (.istore 4) 2 107 := ⟨by decide +kernel, rfl⟩
theorem d_Tb_recognise_107 : dd m_Tb_recognise 107 (.iload 4) 2 109 := ⟨by decide +kernel, rfl⟩
theorem d_Tb_recognise_109 : dd m_Tb_recognise 109 (.iload_n 3) 1 110 := ⟨by decide +kernel, rfl⟩
theorem d_Tb_recognise_110 : db m_Tb_recognise 110 (.if_icmp .gt) 113 145 := ⟨35, by decide +kernel, rfl, rfl⟩
theorem d_Tb_recognise_113 : dd m_Tb_recognise 113 (.aload_n 1) 1 114 := ⟨by decide +kernel, rfl⟩
theorem d_Tb_recognise_114 : dd m_Tb_recognise 114 (.iload_n 3) 1 115 := ⟨by decide +kernel, rfl⟩
theorem d_Tb_recognise_115 : dd m_Tb_recognise 115 .aaload 1 116 := ⟨by decide +kernel, rfl⟩
theorem d_Tb_recognise_116 : dd m_Tb_recognise 116 (.iload 4) 2 118 := ⟨by decide +kernel, rfl⟩
theorem d_Tb_recognise_118 : dd m_Tb_recognise 118 .iaload 1 119 := ⟨by decide +kernel, rfl⟩
theorem d_Tb_recognise_119 : dd m_Tb_recognise 119 (.aload_n 0) 1 120 := ⟨by decide +kernel, rfl⟩
theorem d_Tb_recognise_120 : dd m_Tb_recognise 120 (.getfield 36) 3 123 := ⟨by decide +kernel, rfl⟩
theorem d_Tb_recognise_123 : dd m_Tb_recognise 123 (.iload 4) 2 125 := ⟨by decide +kernel, rfl⟩
theorem d_Tb_recognise_125 : dd m_Tb_recognise 125 .aaload 1 126 := ⟨by decide +kernel, rfl⟩
theorem d_Tb_recognise_126 : dd m_Tb_recognise 126 (.iload_n 3) 1 127 := ⟨by decide +kernel, rfl⟩
theorem d_Tb_recognise_127 : dd m_Tb_recognise 127 .iaload 1 128 := ⟨by decide +kernel, rfl⟩
theorem d_Tb_recognise_128 : db m_Tb_recognise 128 (.if_icmp .eq) 131 139 := ⟨11, by decide +kernel, rfl, rfl⟩
theorem d_Tb_recognise_131 : dd m_Tb_recognise 131 (.bipush 10) 2 133 := ⟨by decide +kernel, rfl⟩
theorem d_Tb_recognise_133 : dd m_Tb_recognise 133 (.iload_n 3) 1 134 := ⟨by decide +kernel, rfl⟩
theorem d_Tb_recognise_134 : dd m_Tb_recognise 134 .imul 1 135 := ⟨by decide +kernel, rfl⟩
theorem d_Tb_recognise_135 : dd m_Tb_recognise 135 (.iload 4) 2 137 := ⟨by decide +kernel, rfl⟩
theorem d_Tb_recognise_137 : dd m_Tb_recognise 137 .iadd 1 138 := ⟨by decide +kernel, rfl⟩
theorem d_Tb_recognise_138 : decode (mbt m_Tb_recognise) 138 = .ok (.ireturn, 1) := by decide +kernel
theorem d_Tb_recognise_139 : dd m_Tb_recognise 139 (.iinc 4 1) 3 142 := ⟨by decide +kernel, rfl⟩
theorem d_Tb_recognise_142 : db m_Tb_recognise 142 .goto 145 107 := ⟨(-35), by decide +kernel, rfl, rfl⟩
theorem d_Tb_recognise_145 : dd m_Tb_recognise 145 (.iinc 3 1) 3 148 := ⟨by decide +kernel, rfl⟩
theorem d_Tb_recognise_148 : db m_Tb_recognise 148 .goto 151 99 := ⟨(-49), by decide +kernel, rfl, rfl⟩
theorem d_Tb_recognise_151 : dd m_Tb_recognise 151 (.iconst (-1)) 1 152 := ⟨by decide +kernel, rfl⟩
theorem d_Tb_recognise_152 : decode (mbt m_Tb_recognise) 152 = .ok (.ireturn, 1) := by decide +kernel
theorem d_Tb_productionOf_0 : dd m_Tb_productionOf 0 (.aload_n 1) 1 1 := ⟨by decide +kernel, rfl⟩
theorem d_Tb_productionOf_1 : dd m_Tb_productionOf 1 (.iload 4) 2 3 := ⟨by decide +kernel, rfl⟩
theorem d_Tb_productionOf_3 : dd m_Tb_productionOf 3 (.aload_n 0) 1 4 := ⟨by decide +kernel, rfl⟩
theorem d_Tb_productionOf_4 : dd m_Tb_productionOf 4 (.getfield 36) 3 7 := ⟨by decide +kernel, rfl⟩
theorem d_Tb_productionOf_7 : dd m_Tb_productionOf 7 (.invokestatic 116) 3 10 := ⟨by decide +kernel, rfl⟩
theorem d_Tb_productionOf_10 : dd m_Tb_productionOf 10 (.iconst 0) 1 11 := ⟨by decide +kernel, rfl⟩
theorem d_Tb_productionOf_11 : dd m_Tb_productionOf 11 (.istore 5) 2 13 := ⟨by decide +kernel, rfl⟩
theorem d_Tb_productionOf_13 : dd m_Tb_productionOf 13 (.iload 5) 2 15 := ⟨by decide +kernel, rfl⟩
theorem d_Tb_productionOf_15 : dd m_Tb_productionOf 15 (.iload_n 2) 1 16 := ⟨by decide +kernel, rfl⟩
theorem d_Tb_productionOf_16 : db m_Tb_productionOf 16 (.if_icmp .gt) 19 117 := ⟨101, by decide +kernel, rfl, rfl⟩
theorem d_Tb_productionOf_19 : dd m_Tb_productionOf 19 (.lconst 0) 1 20 := ⟨by decide +kernel, rfl⟩
theorem d_Tb_productionOf_20 : dd m_Tb_productionOf 20 (.lstore 6) 2 22 := ⟨by decide +kernel, rfl⟩
theorem d_Tb_productionOf_22 : dd m_Tb_productionOf 22 (.iconst 0) 1 23 := ⟨by decide +kernel, rfl⟩
theorem d_Tb_productionOf_23 : dd m_Tb_productionOf 23 (.istore 8) 2 25 := ⟨by decide +kernel, rfl⟩
theorem d_Tb_productionOf_25 : dd m_Tb_productionOf 25 (.iload 8) 2 27 := ⟨by decide +kernel, rfl⟩
theorem d_Tb_productionOf_27 : dd m_Tb_productionOf 27 (.iload 5) 2 29 := ⟨by decide +kernel, rfl⟩
theorem d_Tb_productionOf_29 : db m_Tb_productionOf 29 (.if_icmp .ge) 32 63 := ⟨34, by decide +kernel, rfl, rfl⟩
theorem d_Tb_productionOf_32 : dd m_Tb_productionOf 32 (.lload 6) 2 34 := ⟨by decide +kernel, rfl⟩
theorem d_Tb_productionOf_34 : dd m_Tb_productionOf 34 (.aload_n 0) 1 35 := ⟨by decide +kernel, rfl⟩
theorem d_Tb_productionOf_35 : dd m_Tb_productionOf 35 (.getfield 36) 3 38 := ⟨by decide +kernel, rfl⟩
theorem d_Tb_productionOf_38 : dd m_Tb_productionOf 38 (.iload 8) 2 40 := ⟨by decide +kernel, rfl⟩
theorem d_Tb_productionOf_40 : dd m_Tb_productionOf 40 .aaload 1 41 := ⟨by decide +kernel, rfl⟩
theorem d_Tb_productionOf_41 : dd m_Tb_productionOf 41 (.iload 5) 2 43 := ⟨by decide +kernel, rfl⟩
theorem d_Tb_productionOf_43 : dd m_Tb_productionOf 43 .iaload 1 44 := ⟨by decide +kernel, rfl⟩
theorem d_Tb_productionOf_44 : dd m_Tb_productionOf 44 .i2l 1 45 := ⟨by decide +kernel, rfl⟩
theorem d_Tb_productionOf_45 : dd m_Tb_productionOf 45 (.aload_n 0) 1 46 := ⟨by decide +kernel, rfl⟩
theorem d_Tb_productionOf_46 : dd m_Tb_productionOf 46 (.getfield 24) 3 49 := ⟨by decide +kernel, rfl⟩
theorem d_Tb_productionOf_49 : dd m_Tb_productionOf 49 (.iload 8) 2 51 := ⟨by decide +kernel, rfl⟩
theorem d_Tb_productionOf_51 : dd m_Tb_productionOf 51 .iaload 1 52 := ⟨by decide +kernel, rfl⟩
theorem d_Tb_productionOf_52 : dd m_Tb_productionOf 52 .i2l 1 53 := ⟨by decide +kernel, rfl⟩
theorem d_Tb_productionOf_53 : dd m_Tb_productionOf 53 .lmul 1 54 := ⟨by decide +kernel, rfl⟩
theorem d_Tb_productionOf_54 : dd m_Tb_productionOf 54 .ladd 1 55 := ⟨by decide +kernel, rfl⟩
theorem d_Tb_productionOf_55 : dd m_Tb_productionOf 55 (.lstore 6) 2 57 := ⟨by decide +kernel, rfl⟩
theorem d_Tb_productionOf_57 : dd m_Tb_productionOf 57 (.iinc 8 1) 3 60 := ⟨by decide +kernel, rfl⟩
theorem d_Tb_productionOf_60 : db m_Tb_productionOf 60 .goto 63 25 := ⟨(-35), by decide +kernel, rfl, rfl⟩
theorem d_Tb_productionOf_63 : dd m_Tb_productionOf 63 (.aload_n 0) 1 64 := ⟨by decide +kernel, rfl⟩
theorem d_Tb_productionOf_64 : dd m_Tb_productionOf 64 (.getfield 36) 3 67 := ⟨by decide +kernel, rfl⟩
theorem d_Tb_productionOf_67 : dd m_Tb_productionOf 67 (.iload_n 3) 1 68 := ⟨by decide +kernel, rfl⟩
theorem d_Tb_productionOf_68 : dd m_Tb_productionOf 68 .aaload 1 69 := ⟨by decide +kernel, rfl⟩
theorem d_Tb_productionOf_69 : dd m_Tb_productionOf 69 (.iload 5) 2 71 := ⟨by decide +kernel, rfl⟩
theorem d_Tb_productionOf_71 : dd m_Tb_productionOf 71 (.iconst 1) 1 72 := ⟨by decide +kernel, rfl⟩
theorem d_Tb_productionOf_72 : dd m_Tb_productionOf 72 .iadd 1 73 := ⟨by decide +kernel, rfl⟩
theorem d_Tb_productionOf_73 : dd m_Tb_productionOf 73 .iaload 1 74 := ⟨by decide +kernel, rfl⟩
theorem d_Tb_productionOf_74 : dd m_Tb_productionOf 74 (.lload 6) 2 76 := ⟨by decide +kernel, rfl⟩
theorem d_Tb_productionOf_76 : dd m_Tb_productionOf 76 (.ldc2_w 124) 3 79 := ⟨by decide +kernel, rfl⟩
theorem d_Tb_productionOf_79 : dd m_Tb_productionOf 79 .lrem 1 80 := ⟨by decide +kernel, rfl⟩
theorem d_Tb_productionOf_80 : dd m_Tb_productionOf 80 .l2i 1 81 := ⟨by decide +kernel, rfl⟩
theorem d_Tb_productionOf_81 : dd m_Tb_productionOf 81 (.invokestatic 112) 3 84 := ⟨by decide +kernel, rfl⟩
theorem d_Tb_productionOf_84 : dd m_Tb_productionOf 84 (.istore 8) 2 86 := ⟨by decide +kernel, rfl⟩
theorem d_Tb_productionOf_86 : dd m_Tb_productionOf 86 (.aload_n 0) 1 87 := ⟨by decide +kernel, rfl⟩
theorem d_Tb_productionOf_87 : dd m_Tb_productionOf 87 (.getfield 24) 3 90 := ⟨by decide +kernel, rfl⟩
theorem d_Tb_productionOf_90 : dd m_Tb_productionOf 90 (.iload 5) 2 92 := ⟨by decide +kernel, rfl⟩
theorem d_Tb_productionOf_92 : dd m_Tb_productionOf 92 (.iload 8) 2 94 := ⟨by decide +kernel, rfl⟩
theorem d_Tb_productionOf_94 : dd m_Tb_productionOf 94 (.aload_n 0) 1 95 := ⟨by decide +kernel, rfl⟩
theorem d_Tb_productionOf_95 : dd m_Tb_productionOf 95 (.getfield 36) 3 98 := ⟨by decide +kernel, rfl⟩
theorem d_Tb_productionOf_98 : dd m_Tb_productionOf 98 (.iload 5) 2 100 := ⟨by decide +kernel, rfl⟩
theorem d_Tb_productionOf_100 : dd m_Tb_productionOf 100 .aaload 1 101 := ⟨by decide +kernel, rfl⟩
theorem d_Tb_productionOf_101 : dd m_Tb_productionOf 101 (.iload 5) 2 103 := ⟨by decide +kernel, rfl⟩
theorem d_Tb_productionOf_103 : dd m_Tb_productionOf 103 .iaload 1 104 := ⟨by decide +kernel, rfl⟩
theorem d_Tb_productionOf_104 : dd m_Tb_productionOf 104 (.invokestatic 127) 3 107 := ⟨by decide +kernel, rfl⟩
theorem d_Tb_productionOf_107 : dd m_Tb_productionOf 107 (.invokestatic 130) 3 110 := ⟨by decide +kernel, rfl⟩
theorem d_Tb_productionOf_110 : dd m_Tb_productionOf 110 .iastore 1 111 := ⟨by decide +kernel, rfl⟩
theorem d_Tb_productionOf_111 : dd m_Tb_productionOf 111 (.iinc 5 1) 3 114 := ⟨by decide +kernel, rfl⟩
theorem d_Tb_productionOf_114 : db m_Tb_productionOf 114 .goto 117 13 := ⟨(-101), by decide +kernel, rfl, rfl⟩
theorem d_Tb_productionOf_117 : dd m_Tb_productionOf 117 (.aload_n 0) 1 118 := ⟨by decide +kernel, rfl⟩
theorem d_Tb_productionOf_118 : dd m_Tb_productionOf 118 (.getfield 24) 3 121 := ⟨by decide +kernel, rfl⟩
theorem d_Tb_productionOf_121 : dd m_Tb_productionOf 121 (.iload_n 2) 1 122 := ⟨by decide +kernel, rfl⟩
theorem d_Tb_productionOf_122 : dd m_Tb_productionOf 122 .iaload 1 123 := ⟨by decide +kernel, rfl⟩
theorem d_Tb_productionOf_123 : decode (mbt m_Tb_productionOf) 123 = .ok (.ireturn, 1) := by decide +kernel
end
section
theorem d_X_init_0 : dd m_X_init 0 (.aload_n 0) 1 1 := ⟨by decide +kernel, rfl⟩
theorem d_X_init_1 : dd m_X_init 1 (.invokespecial 1) 3 4 := ⟨by decide +kernel, rfl⟩
theorem d_X_init_4 : dd m_X_init 4 (.aload_n 0) 1 5 := ⟨by decide +kernel, rfl⟩
theorem d_X_init_5 : dd m_X_init 5 (.new 7) 3 8 := ⟨by decide +kernel, rfl⟩
theorem d_X_init_8 : dd m_X_init 8 .dup 1 9 := ⟨by decide +kernel, rfl⟩
theorem d_X_init_9 : dd m_X_init 9 (.invokespecial 9) 3 12 := ⟨by decide +kernel, rfl⟩
theorem d_X_init_12 : dd m_X_init 12 (.putfield 10) 3 15 := ⟨by decide +kernel, rfl⟩
theorem d_X_init_15 : dd m_X_init 15 (.aload_n 0) 1 16 := ⟨by decide +kernel, rfl⟩
theorem d_X_init_16 : dd m_X_init 16 (.aload_n 0) 1 17 := ⟨by decide +kernel, rfl⟩
theorem d_X_init_17 : dd m_X_init 17 (.getfield 10) 3 20 := ⟨by decide +kernel, rfl⟩
theorem d_X_init_20 : dd m_X_init 20 (.getfield 16) 3 23 := ⟨by decide +kernel, rfl⟩
theorem d_X_init_23 : dd m_X_init 23 (.putfield 20) 3 26 := ⟨by decide +kernel, rfl⟩
theorem d_X_init_26 : dd m_X_init 26 (.aload_n 0) 1 27 := ⟨by decide +kernel, rfl⟩
theorem d_X_init_27 : dd m_X_init 27 (.new 21) 3 30 := ⟨by decide +kernel, rfl⟩
theorem d_X_init_30 : dd m_X_init 30 .dup 1 31 := ⟨by decide +kernel, rfl⟩
theorem d_X_init_31 : dd m_X_init 31 (.invokespecial 23) 3 34 := ⟨by decide +kernel, rfl⟩
theorem d_X_init_34 : dd m_X_init 34 (.putfield 24) 3 37 := ⟨by decide +kernel, rfl⟩
theorem d_X_init_37 : dd m_X_init 37 (.aload_n 0) 1 38 := ⟨by decide +kernel, rfl⟩
theorem d_X_init_38 : dd m_X_init 38 (.new 28) 3 41 := ⟨by decide +kernel, rfl⟩
theorem d_X_init_41 : dd m_X_init 41 .dup 1 42 := ⟨by decide +kernel, rfl⟩
theorem d_X_init_42 : dd m_X_init 42 (.invokespecial 30) 3 45 := ⟨by decide +kernel, rfl⟩
theorem d_X_init_45 : dd m_X_init 45 (.putfield 31) 3 48 := ⟨by decide +kernel, rfl⟩
theorem d_X_init_48 : dd m_X_init 48 (.aload_n 0) 1 49 := ⟨by decide +kernel, rfl⟩
theorem d_X_init_49 : dd m_X_init 49 (.iconst 2) 1 50 := ⟨by decide +kernel, rfl⟩
theorem d_X_init_50 : dd m_X_init 50 (.anewarray 21) 3 53 := ⟨by decide +kernel, rfl⟩
theorem d_X_init_53 : dd m_X_init 53 (.putfield 35) 3 56 := ⟨by decide +kernel, rfl⟩
theorem d_X_init_56 : dd m_X_init 56 (.iconst 0) 1 57 := ⟨by decide +kernel, rfl⟩
theorem d_X_init_57 : dd m_X_init 57 (.istore_n 1) 1 58 := ⟨by decide +kernel, rfl⟩
theorem d_X_init_58 : dd m_X_init 58 (.iload_n 1) 1 59 := ⟨by decide +kernel, rfl⟩
theorem d_X_init_59 : dd m_X_init 59 (.iconst 2) 1 60 := ⟨by decide +kernel, rfl⟩
theorem d_X_init_60 : db m_X_init 60 (.if_icmp .ge) 63 82 := ⟨22, by decide +kernel, rfl, rfl⟩
theorem d_X_init_63 : dd m_X_init 63 (.aload_n 0) 1 64 := ⟨by decide +kernel, rfl⟩
theorem d_X_init_64 : dd m_X_init 64 (.getfield 35) 3 67 := ⟨by decide +kernel, rfl⟩
theorem d_X_init_67 : dd m_X_init 67 (.iload_n 1) 1 68 := ⟨by decide +kernel, rfl⟩
theorem d_X_init_68 : dd m_X_init 68 (.new 21) 3 71 := ⟨by decide +kernel, rfl⟩
theorem d_X_init_71 : dd m_X_init 71 .dup 1 72 := ⟨by decide +kernel, rfl⟩
theorem d_X_init_72 : dd m_X_init 72 (.invokespecial 23) 3 75 := ⟨by decide +kernel, rfl⟩
theorem d_X_init_75 : dd m_X_init 75 .aastore 1 76 := ⟨by decide +kernel, rfl⟩
theorem d_X_init_76 : dd m_X_init 76 (.iinc 1 1) 3 79 := ⟨by decide +kernel, rfl⟩
theorem d_X_init_79 : db m_X_init 79 .goto 82 58 := ⟨(-21), by decide +kernel, rfl, rfl⟩
theorem d_X_init_82 : dd m_X_init 82 (.aload_n 0) 1 83 := ⟨by decide +kernel, rfl⟩
theorem d_X_init_83 : dd m_X_init 83 (.iconst 2) 1 84 := ⟨by decide +kernel, rfl⟩
theorem d_X_init_84 : dd m_X_init 84 (.newarray .boolean) 2 86 := ⟨by decide +kernel, rfl⟩
theorem d_X_init_86 : dd m_X_init 86 (.putfield 39) 3 89 := ⟨by decide +kernel, rfl⟩
theorem d_X_init_89 : dd m_X_init 89 (.aload_n 0) 1 90 := ⟨by decide +kernel, rfl⟩
theorem d_X_init_90 : dd m_X_init 90 (.new 43) 3 93 := ⟨by decide +kernel, rfl⟩
theorem d_X_init_93 : dd m_X_init 93 .dup 1 94 := ⟨by decide +kernel, rfl⟩
theorem d_X_init_94 : dd m_X_init 94 (.invokespecial 45) 3 97 := ⟨by decide +kernel, rfl⟩
theorem d_X_init_97 : dd m_X_init 97 (.putfield 46) 3 100 := ⟨by decide +kernel, rfl⟩
theorem d_X_init_100 : dd m_X_init 100 (.aload_n 0) 1 101 := ⟨by decide +kernel, rfl⟩
theorem d_X_init_101 : dd m_X_init 101 (.new 50) 3 104 := ⟨by decide +kernel, rfl⟩
theorem d_X_init_104 : dd m_X_init 104 .dup 1 105 := ⟨by decide +kernel, rfl⟩
theorem d_X_init_105 : dd m_X_init 105 (.invokespecial 52) 3 108 := ⟨by decide +kernel, rfl⟩
theorem d_X_init_108 : dd m_X_init 108 (.putfield 53) 3 111 := ⟨by decide +kernel, rfl⟩
theorem d_X_init_111 : decode (mbt m_X_init) 111 = .ok (.return_, 1) := by decide +kernel
theorem d_X_feed_0 : dd m_X_feed 0 (.aload_n 0) 1 1 := ⟨by decide +kernel, rfl⟩
theorem d_X_feed_1 : dd m_X_feed 1 (.getfield 20) 3 4 := ⟨by decide +kernel, rfl⟩
theorem d_X_feed_4 : dd m_X_feed 4 (.getfield 57) 3 7 := ⟨by decide +kernel, rfl⟩
theorem d_X_feed_7 : dd m_X_feed 7 (.bipush 20) 2 9 := ⟨by decide +kernel, rfl⟩
theorem d_X_feed_9 : dd m_X_feed 9 .iadd 1 10 := ⟨by decide +kernel, rfl⟩
theorem d_X_feed_10 : dd m_X_feed 10 (.sipush 540) 3 13 := ⟨by decide +kernel, rfl⟩
theorem d_X_feed_13 : db m_X_feed 13 (.if_icmp .le) 16 18 := ⟨5, by decide +kernel, rfl, rfl⟩
theorem d_X_feed_16 : dd m_X_feed 16 (.iconst (-1)) 1 17 := ⟨by decide +kernel, rfl⟩
theorem d_X_feed_17 : decode (mbt m_X_feed) 17 = .ok (.ireturn, 1) := by decide +kernel
theorem d_X_feed_18 : dd m_X_feed 18 (.aload_n 0) 1 19 := ⟨by decide +kernel, rfl⟩
theorem d_X_feed_19 : dd m_X_feed 19 (.getfield 20) 3 22 := ⟨by decide +kernel, rfl⟩
theorem d_X_feed_22 : dd m_X_feed 22 (.iload_n 1) 1 23 := ⟨by decide +kernel, rfl⟩
theorem d_X_feed_23 : dd m_X_feed 23 (.invokevirtual 63) 3 26 := ⟨by decide +kernel, rfl⟩
theorem d_X_feed_26 : dd m_X_feed 26 (.aload_n 0) 1 27 := ⟨by decide +kernel, rfl⟩
theorem d_X_feed_27 : dd m_X_feed 27 (.getfield 20) 3 30 := ⟨by decide +kernel, rfl⟩
theorem d_X_feed_30 : dd m_X_feed 30 (.iload_n 2) 1 31 := ⟨by decide +kernel, rfl⟩
theorem d_X_feed_31 : dd m_X_feed 31 (.invokevirtual 63) 3 34 := ⟨by decide +kernel, rfl⟩
theorem d_X_feed_34 : dd m_X_feed 34 (.aload_n 0) 1 35 := ⟨by decide +kernel, rfl⟩
theorem d_X_feed_35 : dd m_X_feed 35 (.getfield 20) 3 38 := ⟨by decide +kernel, rfl⟩
theorem d_X_feed_38 : dd m_X_feed 38 (.iload_n 3) 1 39 := ⟨by decide +kernel, rfl⟩
theorem d_X_feed_39 : dd m_X_feed 39 (.invokevirtual 63) 3 42 := ⟨by decide +kernel, rfl⟩
theorem d_X_feed_42 : dd m_X_feed 42 (.aload_n 0) 1 43 := ⟨by decide +kernel, rfl⟩
theorem d_X_feed_43 : dd m_X_feed 43 (.getfield 20) 3 46 := ⟨by decide +kernel, rfl⟩
theorem d_X_feed_46 : dd m_X_feed 46 (.iload 4) 2 48 := ⟨by decide +kernel, rfl⟩
theorem d_X_feed_48 : dd m_X_feed 48 (.invokevirtual 63) 3 51 := ⟨by decide +kernel, rfl⟩
theorem d_X_feed_51 : dd m_X_feed 51 (.aload_n 0) 1 52 := ⟨by decide +kernel, rfl⟩
theorem d_X_feed_52 : dd m_X_feed 52 (.getfield 20) 3 55 := ⟨by decide +kernel, rfl⟩
theorem d_X_feed_55 : dd m_X_feed 55 (.iload 5) 2 57 := ⟨by decide +kernel, rfl⟩
theorem d_X_feed_57 : dd m_X_feed 57 (.invokevirtual 63) 3 60 := ⟨by decide +kernel, rfl⟩
theorem d_X_feed_60 : dd m_X_feed 60 (.aload_n 0) 1 61 := ⟨by decide +kernel, rfl⟩
theorem d_X_feed_61 : dd m_X_feed 61 (.getfield 20) 3 64 := ⟨by decide +kernel, rfl⟩
theorem d_X_feed_64 : dd m_X_feed 64 (.getfield 57) 3 67 := ⟨by decide +kernel, rfl⟩
theorem d_X_feed_67 : decode (mbt m_X_feed) 67 = .ok (.ireturn, 1) := by decide +kernel
theorem d_X_end_0 : dd m_X_end 0 (.iload_n 1) 1 1 := ⟨by decide +kernel, rfl⟩
theorem d_X_end_1 : db m_X_end 1 (.ifCond .lt) 4 15 := ⟨14, by decide +kernel, rfl, rfl⟩
theorem d_X_end_4 : dd m_X_end 4 (.iload_n 1) 1 5 := ⟨by decide +kernel, rfl⟩
theorem d_X_end_5 : dd m_X_end 5 (.aload_n 0) 1 6 := ⟨by decide +kernel, rfl⟩
theorem d_X_end_6 : dd m_X_end 6 (.getfield 20) 3 9 := ⟨by decide +kernel, rfl⟩
theorem d_X_end_9 : dd m_X_end 9 (.getfield 57) 3 12 := ⟨by decide +kernel, rfl⟩
theorem d_X_end_12 : db m_X_end 12 (.if_icmp .le) 15 17 := ⟨5, by decide +kernel, rfl, rfl⟩
theorem d_X_end_15 : dd m_X_end 15 (.iconst 0) 1 16 := ⟨by decide +kernel, rfl⟩
theorem d_X_end_16 : decode (mbt m_X_end) 16 = .ok (.ireturn, 1) := by decide +kernel
theorem d_X_end_17 : dd m_X_end 17 (.aload_n 0) 1 18 := ⟨by decide +kernel, rfl⟩
theorem d_X_end_18 : dd m_X_end 18 (.getfield 20) 3 21 := ⟨by decide +kernel, rfl⟩
theorem d_X_end_21 : dd m_X_end 21 (.iload_n 1) 1 22 := ⟨by decide +kernel, rfl⟩
theorem d_X_end_22 : dd m_X_end 22 (.putfield 57) 3 25 := ⟨by decide +kernel, rfl⟩
theorem d_X_end_25 : dd m_X_end 25 (.iconst 1) 1 26 := ⟨by decide +kernel, rfl⟩
theorem d_X_end_26 : decode (mbt m_X_end) 26 = .ok (.ireturn, 1) := by decide +kernel
theorem d_X_text_0 : dd m_X_text 0 (.aload_n 0) 1 1 := ⟨by decide +kernel, rfl⟩
theorem d_X_text_1 : dd m_X_text 1 (.getfield 10) 3 4 := ⟨by decide +kernel, rfl⟩
theorem d_X_text_4 : dd m_X_text 4 (.invokevirtual 67) 3 7 := ⟨by decide +kernel, rfl⟩
theorem d_X_text_7 : dd m_X_text 7 (.istore_n 1) 1 8 := ⟨by decide +kernel, rfl⟩
theorem d_X_text_8 : dd m_X_text 8 (.aload_n 0) 1 9 := ⟨by decide +kernel, rfl⟩
theorem d_X_text_9 : dd m_X_text 9 (.getfield 20) 3 12 := ⟨by decide +kernel, rfl⟩
theorem d_X_text_12 : dd m_X_text 12 (.iconst 0) 1 13 := ⟨by decide +kernel, rfl⟩
theorem d_X_text_13 : dd m_X_text 13 (.putfield 57) 3 16 := ⟨by decide +kernel, rfl⟩
theorem d_X_text_16 : dd m_X_text 16 (.aload_n 0) 1 17 := ⟨by decide +kernel, rfl⟩
theorem d_X_text_17 : dd m_X_text 17 (.aload_n 0) 1 18 := ⟨by decide +kernel, rfl⟩
theorem d_X_text_18 : dd m_X_text 18 (.getfield 10) 3 21 := ⟨by decide +kernel, rfl⟩
theorem d_X_text_21 : dd m_X_text 21 (.getfield 71) 3 24 := ⟨by decide +kernel, rfl⟩
theorem d_X_text_24 : dd m_X_text 24 (.putfield 74) 3 27 := ⟨by decide +kernel, rfl⟩
theorem d_X_text_27 : dd m_X_text 27 (.iload_n 1) 1 28 := ⟨by decide +kernel, rfl⟩
theorem d_X_text_28 : db m_X_text 28 (.ifCond .ne) 31 41 := ⟨13, by decide +kernel, rfl, rfl⟩
theorem d_X_text_31 : dd m_X_text 31 (.iconst (-1)) 1 32 := ⟨by decide +kernel, rfl⟩
theorem d_X_text_32 : dd m_X_text 32 (.aload_n 0) 1 33 := ⟨by decide +kernel, rfl⟩
theorem d_X_text_33 : dd m_X_text 33 (.getfield 10) 3 36 := ⟨by decide +kernel, rfl⟩
theorem d_X_text_36 : dd m_X_text 36 (.getfield 75) 3 39 := ⟨by decide +kernel, rfl⟩
theorem d_X_text_39 : dd m_X_text 39 .isub 1 40 := ⟨by decide +kernel, rfl⟩
theorem d_X_text_40 : decode (mbt m_X_text) 40 = .ok (.ireturn, 1) := by decide +kernel
theorem d_X_text_41 : dd m_X_text 41 (.aload_n 0) 1 42 := ⟨by decide +kernel, rfl⟩
theorem d_X_text_42 : dd m_X_text 42 (.getfield 24) 3 45 := ⟨by decide +kernel, rfl⟩
theorem d_X_text_45 : dd m_X_text 45 (.aload_n 0) 1 46 := ⟨by decide +kernel, rfl⟩
theorem d_X_text_46 : dd m_X_text 46 (.getfield 10) 3 49 := ⟨by decide +kernel, rfl⟩
theorem d_X_text_49 : dd m_X_text 49 (.getfield 78) 3 52 := ⟨by decide +kernel, rfl⟩
theorem d_X_text_52 : dd m_X_text 52 (.invokevirtual 81) 3 55 := ⟨by decide +kernel, rfl⟩
theorem d_X_text_55 : dd m_X_text 55 (.aload_n 0) 1 56 := ⟨by decide +kernel, rfl⟩
theorem d_X_text_56 : dd m_X_text 56 (.aload_n 0) 1 57 := ⟨by decide +kernel, rfl⟩
theorem d_X_text_57 : dd m_X_text 57 (.getfield 10) 3 60 := ⟨by decide +kernel, rfl⟩
theorem d_X_text_60 : dd m_X_text 60 (.getfield 85) 3 63 := ⟨by decide +kernel, rfl⟩
theorem d_X_text_63 : dd m_X_text 63 (.putfield 88) 3 66 := ⟨by decide +kernel, rfl⟩
theorem d_X_text_66 : dd m_X_text 66 (.aload_n 0) 1 67 := ⟨by decide +kernel, rfl⟩
theorem d_X_text_67 : dd m_X_text 67 (.aload_n 0) 1 68 := ⟨by decide +kernel, rfl⟩
theorem d_X_text_68 : dd m_X_text 68 (.getfield 10) 3 71 := ⟨by decide +kernel, rfl⟩
theorem d_X_text_71 : dd m_X_text 71 (.getfield 89) 3 74 := ⟨by decide +kernel, rfl⟩
theorem d_X_text_74 : dd m_X_text 74 (.putfield 92) 3 77 := ⟨by decide +kernel, rfl⟩
theorem d_X_text_77 : dd m_X_text 77 (.aload_n 0) 1 78 := ⟨by decide +kernel, rfl⟩
theorem d_X_text_78 : dd m_X_text 78 (.getfield 31) 3 81 := ⟨by decide +kernel, rfl⟩
theorem d_X_text_81 : dd m_X_text 81 (.invokevirtual 93) 3 84 := ⟨by decide +kernel, rfl⟩
theorem d_X_text_84 : dd m_X_text 84 (.aload_n 0) 1 85 := ⟨by decide +kernel, rfl⟩
theorem d_X_text_85 : dd m_X_text 85 (.getfield 10) 3 88 := ⟨by decide +kernel, rfl⟩
theorem d_X_text_88 : dd m_X_text 88 (.getfield 96) 3 91 := ⟨by decide +kernel, rfl⟩
theorem d_X_text_91 : decode (mbt m_X_text) 91 = .ok (.ireturn, 1) := by decide +kernel
theorem d_X_fault_0 : dd m_X_fault 0 (.aload_n 0) 1 1 := ⟨by decide +kernel, rfl⟩
theorem d_X_fault_1 : dd m_X_fault 1 (.getfield 74) 3 4 := ⟨by decide +kernel, rfl⟩
theorem d_X_fault_4 : decode (mbt m_X_fault) 4 = .ok (.ireturn, 1) := by decide +kernel
theorem d_X_now_0 : dd m_X_now 0 (.iload_n 1) 1 1 := ⟨by decide +kernel, rfl⟩
theorem d_X_now_1 : decode (mbt m_X_now) 1 = .ok (.tableswitch 69 0 4 #[35, 43, 48, 53, 61], 35) := by decide +kernel
theorem d_X_now_36 : dd m_X_now 36 (.aload_n 0) 1 37 := ⟨by decide +kernel, rfl⟩
theorem d_X_now_37 : dd m_X_now 37 (.getfield 24) 3 40 := ⟨by decide +kernel, rfl⟩
theorem d_X_now_40 : dd m_X_now 40 (.getfield 99) 3 43 := ⟨by decide +kernel, rfl⟩
theorem d_X_now_43 : decode (mbt m_X_now) 43 = .ok (.ireturn, 1) := by decide +kernel
theorem d_X_now_44 : dd m_X_now 44 (.aload_n 0) 1 45 := ⟨by decide +kernel, rfl⟩
theorem d_X_now_45 : dd m_X_now 45 (.getfield 88) 3 48 := ⟨by decide +kernel, rfl⟩
theorem d_X_now_48 : decode (mbt m_X_now) 48 = .ok (.ireturn, 1) := by decide +kernel
theorem d_X_now_49 : dd m_X_now 49 (.aload_n 0) 1 50 := ⟨by decide +kernel, rfl⟩
theorem d_X_now_50 : dd m_X_now 50 (.getfield 92) 3 53 := ⟨by decide +kernel, rfl⟩
theorem d_X_now_53 : decode (mbt m_X_now) 53 = .ok (.ireturn, 1) := by decide +kernel
theorem d_X_now_54 : dd m_X_now 54 (.aload_n 0) 1 55 := ⟨by decide +kernel, rfl⟩
theorem d_X_now_55 : dd m_X_now 55 (.getfield 31) 3 58 := ⟨by decide +kernel, rfl⟩
theorem d_X_now_58 : dd m_X_now 58 (.getfield 102) 3 61 := ⟨by decide +kernel, rfl⟩
theorem d_X_now_61 : decode (mbt m_X_now) 61 = .ok (.ireturn, 1) := by decide +kernel
theorem d_X_now_62 : dd m_X_now 62 (.aload_n 0) 1 63 := ⟨by decide +kernel, rfl⟩
theorem d_X_now_63 : dd m_X_now 63 (.getfield 20) 3 66 := ⟨by decide +kernel, rfl⟩
theorem d_X_now_66 : dd m_X_now 66 (.getfield 57) 3 69 := ⟨by decide +kernel, rfl⟩
theorem d_X_now_69 : decode (mbt m_X_now) 69 = .ok (.ireturn, 1) := by decide +kernel
theorem d_X_now_70 : dd m_X_now 70 (.iconst (-1)) 1 71 := ⟨by decide +kernel, rfl⟩
theorem d_X_now_71 : decode (mbt m_X_now) 71 = .ok (.ireturn, 1) := by decide +kernel
theorem d_X_at_0 : dd m_X_at 0 (.aload_n 0) 1 1 := ⟨by decide +kernel, rfl⟩
theorem d_X_at_1 : dd m_X_at 1 (.iload_n 1) 1 2 := ⟨by decide +kernel, rfl⟩
theorem d_X_at_2 : dd m_X_at 2 (.invokevirtual 105) 3 5 := ⟨by decide +kernel, rfl⟩
theorem d_X_at_5 : db m_X_at 5 (.ifCond .eq) 8 16 := ⟨11, by decide +kernel, rfl, rfl⟩
theorem d_X_at_8 : dd m_X_at 8 (.aload_n 0) 1 9 := ⟨by decide +kernel, rfl⟩
theorem d_X_at_9 : dd m_X_at 9 (.iload_n 2) 1 10 := ⟨by decide +kernel, rfl⟩
theorem d_X_at_10 : dd m_X_at 10 (.invokevirtual 109) 3 13 := ⟨by decide +kernel, rfl⟩
theorem d_X_at_13 : db m_X_at 13 (.ifCond .ne) 16 18 := ⟨5, by decide +kernel, rfl, rfl⟩
theorem d_X_at_16 : dd m_X_at 16 (.iconst (-1)) 1 17 := ⟨by decide +kernel, rfl⟩
theorem d_X_at_17 : decode (mbt m_X_at) 17 = .ok (.ireturn, 1) := by decide +kernel
theorem d_X_at_18 : dd m_X_at 18 (.aload_n 0) 1 19 := ⟨by decide +kernel, rfl⟩
theorem d_X_at_19 : dd m_X_at 19 (.getfield 24) 3 22 := ⟨by decide +kernel, rfl⟩
theorem d_X_at_22 : dd m_X_at 22 (.getfield 112) 3 25 := ⟨by decide +kernel, rfl⟩
theorem d_X_at_25 : dd m_X_at 25 (.iload_n 1) 1 26 := ⟨by decide +kernel, rfl⟩
theorem d_X_at_26 : dd m_X_at 26 .aaload 1 27 := ⟨by decide +kernel, rfl⟩
theorem d_X_at_27 : dd m_X_at 27 (.iload_n 2) 1 28 := ⟨by decide +kernel, rfl⟩
theorem d_X_at_28 : dd m_X_at 28 .iaload 1 29 := ⟨by decide +kernel, rfl⟩
theorem d_X_at_29 : decode (mbt m_X_at) 29 = .ok (.ireturn, 1) := by decide +kernel
theorem d_X_isSeries_0 : dd m_X_isSeries 0 (.aload_n 0) 1 1 := ⟨by decide +kernel, rfl⟩
theorem d_X_isSeries_1 : dd m_X_isSeries 1 (.getfield 24) 3 4 := ⟨by decide +kernel, rfl⟩
theorem d_X_isSeries_4 : dd m_X_isSeries 4 (.getfield 99) 3 7 := ⟨by decide +kernel, rfl⟩
theorem d_X_isSeries_7 : db m_X_isSeries 7 (.ifCond .le) 10 24 := ⟨17, by decide +kernel, rfl, rfl⟩
theorem d_X_isSeries_10 : dd m_X_isSeries 10 (.iload_n 1) 1 11 := ⟨by decide +kernel, rfl⟩
theorem d_X_isSeries_11 : db m_X_isSeries 11 (.ifCond .lt) 14 24 := ⟨13, by decide +kernel, rfl, rfl⟩
theorem d_X_isSeries_14 : dd m_X_isSeries 14 (.iload_n 1) 1 15 := ⟨by decide +kernel, rfl⟩
theorem d_X_isSeries_15 : dd m_X_isSeries 15 (.bipush 6) 2 17 := ⟨by decide +kernel, rfl⟩
theorem d_X_isSeries_17 : db m_X_isSeries 17 (.if_icmp .ge) 20 24 := ⟨7, by decide +kernel, rfl, rfl⟩
theorem d_X_isSeries_20 : dd m_X_isSeries 20 (.iconst 1) 1 21 := ⟨by decide +kernel, rfl⟩
theorem d_X_isSeries_21 : db m_X_isSeries 21 .goto 24 25 := ⟨4, by decide +kernel, rfl, rfl⟩
theorem d_X_isSeries_24 : dd m_X_isSeries 24 (.iconst 0) 1 25 := ⟨by decide +kernel, rfl⟩
theorem d_X_isSeries_25 : decode (mbt m_X_isSeries) 25 = .ok (.ireturn, 1) := by decide +kernel
theorem d_X_isWithinSize_0 : dd m_X_isWithinSize 0 (.iload_n 1) 1 1 := ⟨by decide +kernel, rfl⟩
theorem d_X_isWithinSize_1 : db m_X_isWithinSize 1 (.ifCond .lt) 4 19 := ⟨18, by decide +kernel, rfl, rfl⟩
theorem d_X_isWithinSize_4 : dd m_X_isWithinSize 4 (.iload_n 1) 1 5 := ⟨by decide +kernel, rfl⟩
theorem d_X_isWithinSize_5 : dd m_X_isWithinSize 5 (.aload_n 0) 1 6 := ⟨by decide +kernel, rfl⟩
theorem d_X_isWithinSize_6 : dd m_X_isWithinSize 6 (.getfield 24) 3 9 := ⟨by decide +kernel, rfl⟩
theorem d_X_isWithinSize_9 : dd m_X_isWithinSize 9 (.getfield 99) 3 12 := ⟨by decide +kernel, rfl⟩
theorem d_X_isWithinSize_12 : db m_X_isWithinSize 12 (.if_icmp .ge) 15 19 := ⟨7, by decide +kernel, rfl, rfl⟩
theorem d_X_isWithinSize_15 : dd m_X_isWithinSize 15 (.iconst 1) 1 16 := ⟨by decide +kernel, rfl⟩
theorem d_X_isWithinSize_16 : db m_X_isWithinSize 16 .goto 19 20 := ⟨4, by decide +kernel, rfl, rfl⟩
theorem d_X_isWithinSize_19 : dd m_X_isWithinSize 19 (.iconst 0) 1 20 := ⟨by decide +kernel, rfl⟩
theorem d_X_isWithinSize_20 : decode (mbt m_X_isWithinSize) 20 = .ok (.ireturn, 1) := by decide +kernel
theorem d_X_put_0 : dd m_X_put 0 (.aload_n 0) 1 1 := ⟨by decide +kernel, rfl⟩
theorem d_X_put_1 : dd m_X_put 1 (.iload_n 1) 1 2 := ⟨by decide +kernel, rfl⟩
theorem d_X_put_2 : dd m_X_put 2 (.invokevirtual 105) 3 5 := ⟨by decide +kernel, rfl⟩
theorem d_X_put_5 : db m_X_put 5 (.ifCond .eq) 8 16 := ⟨11, by decide +kernel, rfl, rfl⟩
theorem d_X_put_8 : dd m_X_put 8 (.aload_n 0) 1 9 := ⟨by decide +kernel, rfl⟩
theorem d_X_put_9 : dd m_X_put 9 (.iload_n 2) 1 10 := ⟨by decide +kernel, rfl⟩
theorem d_X_put_10 : dd m_X_put 10 (.invokevirtual 109) 3 13 := ⟨by decide +kernel, rfl⟩
theorem d_X_put_13 : db m_X_put 13 (.ifCond .ne) 16 18 := ⟨5, by decide +kernel, rfl, rfl⟩
theorem d_X_put_16 : dd m_X_put 16 (.iconst (-1)) 1 17 := ⟨by decide +kernel, rfl⟩
theorem d_X_put_17 : decode (mbt m_X_put) 17 = .ok (.ireturn, 1) := by decide +kernel
theorem d_X_put_18 : dd m_X_put 18 (.aload_n 0) 1 19 := ⟨by decide +kernel, rfl⟩
theorem d_X_put_19 : dd m_X_put 19 (.getfield 31) 3 22 := ⟨by decide +kernel, rfl⟩
theorem d_X_put_22 : dd m_X_put 22 (.aload_n 0) 1 23 := ⟨by decide +kernel, rfl⟩
theorem d_X_put_23 : dd m_X_put 23 (.getfield 24) 3 26 := ⟨by decide +kernel, rfl⟩
theorem d_X_put_26 : dd m_X_put 26 (.invokevirtual 116) 3 29 := ⟨by decide +kernel, rfl⟩
theorem d_X_put_29 : dd m_X_put 29 (.aload_n 0) 1 30 := ⟨by decide +kernel, rfl⟩
theorem d_X_put_30 : dd m_X_put 30 (.getfield 24) 3 33 := ⟨by decide +kernel, rfl⟩
theorem d_X_put_33 : dd m_X_put 33 (.getfield 112) 3 36 := ⟨by decide +kernel, rfl⟩
theorem d_X_put_36 : dd m_X_put 36 (.iload_n 1) 1 37 := ⟨by decide +kernel, rfl⟩
theorem d_X_put_37 : dd m_X_put 37 .aaload 1 38 := ⟨by decide +kernel, rfl⟩
theorem d_X_put_38 : dd m_X_put 38 (.iload_n 2) 1 39 := ⟨by decide +kernel, rfl⟩
theorem d_X_put_39 : dd m_X_put 39 (.iload_n 3) 1 40 := ⟨by decide +kernel, rfl⟩
theorem d_X_put_40 : dd m_X_put 40 (.ldc 119) 2 42 := ⟨by decide +kernel, rfl⟩
theorem d_X_put_42 : dd m_X_put 42 (.invokestatic 120) 3 45 := ⟨by decide +kernel, rfl⟩
theorem d_X_put_45 : dd m_X_put 45 .iastore 1 46 := ⟨by decide +kernel, rfl⟩
theorem d_X_put_46 : dd m_X_put 46 (.aload_n 0) 1 47 := ⟨by decide +kernel, rfl⟩
theorem d_X_put_47 : dd m_X_put 47 (.getfield 24) 3 50 := ⟨by decide +kernel, rfl⟩
theorem d_X_put_50 : dd m_X_put 50 (.getfield 112) 3 53 := ⟨by decide +kernel, rfl⟩
theorem d_X_put_53 : dd m_X_put 53 (.iload_n 1) 1 54 := ⟨by decide +kernel, rfl⟩
theorem d_X_put_54 : dd m_X_put 54 .aaload 1 55 := ⟨by decide +kernel, rfl⟩
theorem d_X_put_55 : dd m_X_put 55 (.iload_n 2) 1 56 := ⟨by decide +kernel, rfl⟩
theorem d_X_put_56 : dd m_X_put 56 .iaload 1 57 := ⟨by decide +kernel, rfl⟩
theorem d_X_put_57 : decode (mbt m_X_put) 57 = .ok (.ireturn, 1) := by decide +kernel
theorem d_X_make_0 : dd m_X_make 0 (.aload_n 0) 1 1 := ⟨by decide +kernel, rfl⟩
theorem d_X_make_1 : dd m_X_make 1 (.iload_n 1) 1 2 := ⟨by decide +kernel, rfl⟩
theorem d_X_make_2 : dd m_X_make 2 (.invokevirtual 105) 3 5 := ⟨by decide +kernel, rfl⟩
theorem d_X_make_5 : db m_X_make 5 (.ifCond .eq) 8 25 := ⟨20, by decide +kernel, rfl, rfl⟩
theorem d_X_make_8 : dd m_X_make 8 (.aload_n 0) 1 9 := ⟨by decide +kernel, rfl⟩
theorem d_X_make_9 : dd m_X_make 9 (.iload_n 2) 1 10 := ⟨by decide +kernel, rfl⟩
theorem d_X_make_10 : dd m_X_make 10 (.invokevirtual 105) 3 13 := ⟨by decide +kernel, rfl⟩
theorem d_X_make_13 : db m_X_make 13 (.ifCond .eq) 16 25 := ⟨12, by decide +kernel, rfl, rfl⟩
theorem d_X_make_16 : dd m_X_make 16 (.aload_n 0) 1 17 := ⟨by decide +kernel, rfl⟩
theorem d_X_make_17 : dd m_X_make 17 (.iload 4) 2 19 := ⟨by decide +kernel, rfl⟩
theorem d_X_make_19 : dd m_X_make 19 (.invokevirtual 105) 3 22 := ⟨by decide +kernel, rfl⟩
theorem d_X_make_22 : db m_X_make 22 (.ifCond .ne) 25 27 := ⟨5, by decide +kernel, rfl, rfl⟩
theorem d_X_make_25 : dd m_X_make 25 (.iconst (-1)) 1 26 := ⟨by decide +kernel, rfl⟩
theorem d_X_make_26 : decode (mbt m_X_make) 26 = .ok (.ireturn, 1) := by decide +kernel
theorem d_X_make_27 : dd m_X_make 27 (.aload_n 0) 1 28 := ⟨by decide +kernel, rfl⟩
theorem d_X_make_28 : dd m_X_make 28 (.getfield 46) 3 31 := ⟨by decide +kernel, rfl⟩
theorem d_X_make_31 : dd m_X_make 31 (.aload_n 0) 1 32 := ⟨by decide +kernel, rfl⟩
theorem d_X_make_32 : dd m_X_make 32 (.getfield 24) 3 35 := ⟨by decide +kernel, rfl⟩
theorem d_X_make_35 : dd m_X_make 35 (.getfield 112) 3 38 := ⟨by decide +kernel, rfl⟩
theorem d_X_make_38 : dd m_X_make 38 (.iload_n 1) 1 39 := ⟨by decide +kernel, rfl⟩
theorem d_X_make_39 : dd m_X_make 39 .aaload 1 40 := ⟨by decide +kernel, rfl⟩
theorem d_X_make_40 : dd m_X_make 40 (.aload_n 0) 1 41 := ⟨by decide +kernel, rfl⟩
theorem d_X_make_41 : dd m_X_make 41 (.getfield 24) 3 44 := ⟨by decide +kernel, rfl⟩
theorem d_X_make_44 : dd m_X_make 44 (.getfield 112) 3 47 := ⟨by decide +kernel, rfl⟩
theorem d_X_make_47 : dd m_X_make 47 (.iload_n 2) 1 48 := ⟨by decide +kernel, rfl⟩
theorem d_X_make_48 : dd m_X_make 48 .aaload 1 49 := ⟨by decide +kernel, rfl⟩
theorem d_X_make_49 : dd m_X_make 49 (.iload_n 3) 1 50 := ⟨by decide +kernel, rfl⟩
theorem d_X_make_50 : dd m_X_make 50 (.aload_n 0) 1 51 := ⟨by decide +kernel, rfl⟩
theorem d_X_make_51 : dd m_X_make 51 (.getfield 24) 3 54 := ⟨by decide +kernel, rfl⟩
theorem d_X_make_54 : dd m_X_make 54 (.getfield 99) 3 57 := ⟨by decide +kernel, rfl⟩
theorem d_X_make_57 : dd m_X_make 57 (.invokevirtual 126) 3 60 := ⟨by decide +kernel, rfl⟩
theorem d_X_make_60 : db m_X_make 60 (.ifCond .ne) 63 65 := ⟨5, by decide +kernel, rfl, rfl⟩
theorem d_X_make_63 : dd m_X_make 63 (.iconst (-1)) 1 64 := ⟨by decide +kernel, rfl⟩
theorem d_X_make_64 : decode (mbt m_X_make) 64 = .ok (.ireturn, 1) := by decide +kernel
theorem d_X_make_65 : dd m_X_make 65 (.aload_n 0) 1 66 := ⟨by decide +kernel, rfl⟩
theorem d_X_make_66 : dd m_X_make 66 (.aload_n 0) 1 67 := ⟨by decide +kernel, rfl⟩
theorem d_X_make_67 : dd m_X_make 67 (.getfield 46) 3 70 := ⟨by decide +kernel, rfl⟩
theorem d_X_make_70 : dd m_X_make 70 (.getfield 130) 3 73 := ⟨by decide +kernel, rfl⟩
theorem d_X_make_73 : dd m_X_make 73 (.iload 4) 2 75 := ⟨by decide +kernel, rfl⟩
theorem d_X_make_75 : dd m_X_make 75 (.invokevirtual 134) 3 78 := ⟨by decide +kernel, rfl⟩
theorem d_X_make_78 : decode (mbt m_X_make) 78 = .ok (.ireturn, 1) := by decide +kernel
theorem d_X_landSeries_0 : dd m_X_landSeries 0 (.aload_n 0) 1 1 := ⟨by decide +kernel, rfl⟩
theorem d_X_landSeries_1 : dd m_X_landSeries 1 (.getfield 31) 3 4 := ⟨by decide +kernel, rfl⟩
theorem d_X_landSeries_4 : dd m_X_landSeries 4 (.aload_n 0) 1 5 := ⟨by decide +kernel, rfl⟩
theorem d_X_landSeries_5 : dd m_X_landSeries 5 (.getfield 24) 3 8 := ⟨by decide +kernel, rfl⟩
theorem d_X_landSeries_8 : dd m_X_landSeries 8 (.invokevirtual 116) 3 11 := ⟨by decide +kernel, rfl⟩
theorem d_X_landSeries_11 : dd m_X_landSeries 11 (.aload_n 1) 1 12 := ⟨by decide +kernel, rfl⟩
theorem d_X_landSeries_12 : dd m_X_landSeries 12 (.iconst 0) 1 13 := ⟨by decide +kernel, rfl⟩
theorem d_X_landSeries_13 : dd m_X_landSeries 13 (.aload_n 0) 1 14 := ⟨by decide +kernel, rfl⟩
theorem d_X_landSeries_14 : dd m_X_landSeries 14 (.getfield 24) 3 17 := ⟨by decide +kernel, rfl⟩
theorem d_X_landSeries_17 : dd m_X_landSeries 17 (.getfield 112) 3 20 := ⟨by decide +kernel, rfl⟩
theorem d_X_landSeries_20 : dd m_X_landSeries 20 (.iload_n 2) 1 21 := ⟨by decide +kernel, rfl⟩
theorem d_X_landSeries_21 : dd m_X_landSeries 21 .aaload 1 22 := ⟨by decide +kernel, rfl⟩
theorem d_X_landSeries_22 : dd m_X_landSeries 22 (.iconst 0) 1 23 := ⟨by decide +kernel, rfl⟩
theorem d_X_landSeries_23 : dd m_X_landSeries 23 (.aload_n 0) 1 24 := ⟨by decide +kernel, rfl⟩
theorem d_X_landSeries_24 : dd m_X_landSeries 24 (.getfield 24) 3 27 := ⟨by decide +kernel, rfl⟩
theorem d_X_landSeries_27 : dd m_X_landSeries 27 (.getfield 99) 3 30 := ⟨by decide +kernel, rfl⟩
theorem d_X_landSeries_30 : dd m_X_landSeries 30 (.invokestatic 242) 3 33 := ⟨by decide +kernel, rfl⟩
theorem d_X_landSeries_33 : dd m_X_landSeries 33 (.aload_n 0) 1 34 := ⟨by decide +kernel, rfl⟩
theorem d_X_landSeries_34 : dd m_X_landSeries 34 (.getfield 24) 3 37 := ⟨by decide +kernel, rfl⟩
theorem d_X_landSeries_37 : dd m_X_landSeries 37 (.getfield 112) 3 40 := ⟨by decide +kernel, rfl⟩
theorem d_X_landSeries_40 : dd m_X_landSeries 40 (.iload_n 2) 1 41 := ⟨by decide +kernel, rfl⟩
theorem d_X_landSeries_41 : dd m_X_landSeries 41 .aaload 1 42 := ⟨by decide +kernel, rfl⟩
theorem d_X_landSeries_42 : dd m_X_landSeries 42 (.aload_n 0) 1 43 := ⟨by decide +kernel, rfl⟩
theorem d_X_landSeries_43 : dd m_X_landSeries 43 (.getfield 24) 3 46 := ⟨by decide +kernel, rfl⟩
theorem d_X_landSeries_46 : dd m_X_landSeries 46 (.getfield 99) 3 49 := ⟨by decide +kernel, rfl⟩
theorem d_X_landSeries_49 : dd m_X_landSeries 49 (.iconst 1) 1 50 := ⟨by decide +kernel, rfl⟩
theorem d_X_landSeries_50 : dd m_X_landSeries 50 .isub 1 51 := ⟨by decide +kernel, rfl⟩
theorem d_X_landSeries_51 : dd m_X_landSeries 51 .iaload 1 52 := ⟨by decide +kernel, rfl⟩
theorem d_X_landSeries_52 : decode (mbt m_X_landSeries) 52 = .ok (.ireturn, 1) := by decide +kernel
theorem d_X_turn_0 : dd m_X_turn 0 (.aload_n 0) 1 1 := ⟨by decide +kernel, rfl⟩
theorem d_X_turn_1 : dd m_X_turn 1 (.iload_n 1) 1 2 := ⟨by decide +kernel, rfl⟩
theorem d_X_turn_2 : dd m_X_turn 2 (.invokevirtual 105) 3 5 := ⟨by decide +kernel, rfl⟩
theorem d_X_turn_5 : db m_X_turn 5 (.ifCond .eq) 8 16 := ⟨11, by decide +kernel, rfl, rfl⟩
theorem d_X_turn_8 : dd m_X_turn 8 (.aload_n 0) 1 9 := ⟨by decide +kernel, rfl⟩
theorem d_X_turn_9 : dd m_X_turn 9 (.iload_n 3) 1 10 := ⟨by decide +kernel, rfl⟩
theorem d_X_turn_10 : dd m_X_turn 10 (.invokevirtual 105) 3 13 := ⟨by decide +kernel, rfl⟩
theorem d_X_turn_13 : db m_X_turn 13 (.ifCond .ne) 16 18 := ⟨5, by decide +kernel, rfl, rfl⟩
theorem d_X_turn_16 : dd m_X_turn 16 (.iconst (-1)) 1 17 := ⟨by decide +kernel, rfl⟩
theorem d_X_turn_17 : decode (mbt m_X_turn) 17 = .ok (.ireturn, 1) := by decide +kernel
theorem d_X_turn_18 : dd m_X_turn 18 (.aload_n 0) 1 19 := ⟨by decide +kernel, rfl⟩
theorem d_X_turn_19 : dd m_X_turn 19 (.getfield 46) 3 22 := ⟨by decide +kernel, rfl⟩
theorem d_X_turn_22 : dd m_X_turn 22 (.aload_n 0) 1 23 := ⟨by decide +kernel, rfl⟩
theorem d_X_turn_23 : dd m_X_turn 23 (.getfield 24) 3 26 := ⟨by decide +kernel, rfl⟩
theorem d_X_turn_26 : dd m_X_turn 26 (.getfield 112) 3 29 := ⟨by decide +kernel, rfl⟩
theorem d_X_turn_29 : dd m_X_turn 29 (.iload_n 1) 1 30 := ⟨by decide +kernel, rfl⟩
theorem d_X_turn_30 : dd m_X_turn 30 .aaload 1 31 := ⟨by decide +kernel, rfl⟩
theorem d_X_turn_31 : dd m_X_turn 31 (.iload_n 2) 1 32 := ⟨by decide +kernel, rfl⟩
theorem d_X_turn_32 : dd m_X_turn 32 (.aload_n 0) 1 33 := ⟨by decide +kernel, rfl⟩
theorem d_X_turn_33 : dd m_X_turn 33 (.getfield 24) 3 36 := ⟨by decide +kernel, rfl⟩
theorem d_X_turn_36 : dd m_X_turn 36 (.getfield 99) 3 39 := ⟨by decide +kernel, rfl⟩
theorem d_X_turn_39 : dd m_X_turn 39 (.invokevirtual 138) 3 42 := ⟨by decide +kernel, rfl⟩
theorem d_X_turn_42 : db m_X_turn 42 (.ifCond .ne) 45 47 := ⟨5, by decide +kernel, rfl, rfl⟩
theorem d_X_turn_45 : dd m_X_turn 45 (.iconst (-1)) 1 46 := ⟨by decide +kernel, rfl⟩
theorem d_X_turn_46 : decode (mbt m_X_turn) 46 = .ok (.ireturn, 1) := by decide +kernel
theorem d_X_turn_47 : dd m_X_turn 47 (.aload_n 0) 1 48 := ⟨by decide +kernel, rfl⟩
theorem d_X_turn_48 : dd m_X_turn 48 (.aload_n 0) 1 49 := ⟨by decide +kernel, rfl⟩
theorem d_X_turn_49 : dd m_X_turn 49 (.getfield 46) 3 52 := ⟨by decide +kernel, rfl⟩
theorem d_X_turn_52 : dd m_X_turn 52 (.getfield 130) 3 55 := ⟨by decide +kernel, rfl⟩
theorem d_X_turn_55 : dd m_X_turn 55 (.iload_n 3) 1 56 := ⟨by decide +kernel, rfl⟩
theorem d_X_turn_56 : dd m_X_turn 56 (.invokevirtual 134) 3 59 := ⟨by decide +kernel, rfl⟩
theorem d_X_turn_59 : decode (mbt m_X_turn) 59 = .ok (.ireturn, 1) := by decide +kernel
theorem d_X_raise_0 : dd m_X_raise 0 (.aload_n 0) 1 1 := ⟨by decide +kernel, rfl⟩
theorem d_X_raise_1 : dd m_X_raise 1 (.iload_n 1) 1 2 := ⟨by decide +kernel, rfl⟩
theorem d_X_raise_2 : dd m_X_raise 2 (.invokevirtual 105) 3 5 := ⟨by decide +kernel, rfl⟩
theorem d_X_raise_5 : db m_X_raise 5 (.ifCond .eq) 8 26 := ⟨21, by decide +kernel, rfl, rfl⟩
theorem d_X_raise_8 : dd m_X_raise 8 (.aload_n 0) 1 9 := ⟨by decide +kernel, rfl⟩
theorem d_X_raise_9 : dd m_X_raise 9 (.iload_n 3) 1 10 := ⟨by decide +kernel, rfl⟩
theorem d_X_raise_10 : dd m_X_raise 10 (.invokevirtual 105) 3 13 := ⟨by decide +kernel, rfl⟩
theorem d_X_raise_13 : db m_X_raise 13 (.ifCond .eq) 16 26 := ⟨13, by decide +kernel, rfl, rfl⟩
theorem d_X_raise_16 : dd m_X_raise 16 (.iload_n 2) 1 17 := ⟨by decide +kernel, rfl⟩
theorem d_X_raise_17 : db m_X_raise 17 (.ifCond .lt) 20 26 := ⟨9, by decide +kernel, rfl, rfl⟩
theorem d_X_raise_20 : dd m_X_raise 20 (.iload_n 2) 1 21 := ⟨by decide +kernel, rfl⟩
theorem d_X_raise_21 : dd m_X_raise 21 (.bipush 99) 2 23 := ⟨by decide +kernel, rfl⟩
theorem d_X_raise_23 : db m_X_raise 23 (.if_icmp .le) 26 28 := ⟨5, by decide +kernel, rfl, rfl⟩
theorem d_X_raise_26 : dd m_X_raise 26 (.iconst (-1)) 1 27 := ⟨by decide +kernel, rfl⟩
theorem d_X_raise_27 : decode (mbt m_X_raise) 27 = .ok (.ireturn, 1) := by decide +kernel
theorem d_X_raise_28 : dd m_X_raise 28 (.aload_n 0) 1 29 := ⟨by decide +kernel, rfl⟩
theorem d_X_raise_29 : dd m_X_raise 29 (.getfield 46) 3 32 := ⟨by decide +kernel, rfl⟩
theorem d_X_raise_32 : dd m_X_raise 32 (.aload_n 0) 1 33 := ⟨by decide +kernel, rfl⟩
theorem d_X_raise_33 : dd m_X_raise 33 (.getfield 24) 3 36 := ⟨by decide +kernel, rfl⟩
theorem d_X_raise_36 : dd m_X_raise 36 (.getfield 112) 3 39 := ⟨by decide +kernel, rfl⟩
theorem d_X_raise_39 : dd m_X_raise 39 (.iload_n 1) 1 40 := ⟨by decide +kernel, rfl⟩
theorem d_X_raise_40 : dd m_X_raise 40 .aaload 1 41 := ⟨by decide +kernel, rfl⟩
theorem d_X_raise_41 : dd m_X_raise 41 (.iload_n 2) 1 42 := ⟨by decide +kernel, rfl⟩
theorem d_X_raise_42 : dd m_X_raise 42 (.aload_n 0) 1 43 := ⟨by decide +kernel, rfl⟩
theorem d_X_raise_43 : dd m_X_raise 43 (.getfield 24) 3 46 := ⟨by decide +kernel, rfl⟩
theorem d_X_raise_46 : dd m_X_raise 46 (.getfield 99) 3 49 := ⟨by decide +kernel, rfl⟩
theorem d_X_raise_49 : dd m_X_raise 49 (.invokevirtual 142) 3 52 := ⟨by decide +kernel, rfl⟩
theorem d_X_raise_52 : dd m_X_raise 52 (.aload_n 0) 1 53 := ⟨by decide +kernel, rfl⟩
theorem d_X_raise_53 : dd m_X_raise 53 (.aload_n 0) 1 54 := ⟨by decide +kernel, rfl⟩
theorem d_X_raise_54 : dd m_X_raise 54 (.getfield 46) 3 57 := ⟨by decide +kernel, rfl⟩
theorem d_X_raise_57 : dd m_X_raise 57 (.getfield 130) 3 60 := ⟨by decide +kernel, rfl⟩
theorem d_X_raise_60 : dd m_X_raise 60 (.iload_n 3) 1 61 := ⟨by decide +kernel, rfl⟩
theorem d_X_raise_61 : dd m_X_raise 61 (.invokevirtual 134) 3 64 := ⟨by decide +kernel, rfl⟩
theorem d_X_raise_64 : decode (mbt m_X_raise) 64 = .ok (.ireturn, 1) := by decide +kernel
theorem d_X_pair_0 : dd m_X_pair 0 (.aload_n 0) 1 1 := ⟨by decide +kernel, rfl⟩
theorem d_X_pair_1 : dd m_X_pair 1 (.iload_n 1) 1 2 := ⟨by decide +kernel, rfl⟩
theorem d_X_pair_2 : dd m_X_pair 2 (.invokevirtual 105) 3 5 := ⟨by decide +kernel, rfl⟩
theorem d_X_pair_5 : db m_X_pair 5 (.ifCond .eq) 8 24 := ⟨19, by decide +kernel, rfl, rfl⟩
theorem d_X_pair_8 : dd m_X_pair 8 (.aload_n 0) 1 9 := ⟨by decide +kernel, rfl⟩
theorem d_X_pair_9 : dd m_X_pair 9 (.iload_n 2) 1 10 := ⟨by decide +kernel, rfl⟩
theorem d_X_pair_10 : dd m_X_pair 10 (.invokevirtual 105) 3 13 := ⟨by decide +kernel, rfl⟩
theorem d_X_pair_13 : db m_X_pair 13 (.ifCond .eq) 16 24 := ⟨11, by decide +kernel, rfl, rfl⟩
theorem d_X_pair_16 : dd m_X_pair 16 (.aload_n 0) 1 17 := ⟨by decide +kernel, rfl⟩
theorem d_X_pair_17 : dd m_X_pair 17 (.iload_n 3) 1 18 := ⟨by decide +kernel, rfl⟩
theorem d_X_pair_18 : dd m_X_pair 18 (.invokevirtual 146) 3 21 := ⟨by decide +kernel, rfl⟩
theorem d_X_pair_21 : db m_X_pair 21 (.ifCond .ne) 24 26 := ⟨5, by decide +kernel, rfl, rfl⟩
theorem d_X_pair_24 : dd m_X_pair 24 (.iconst (-1)) 1 25 := ⟨by decide +kernel, rfl⟩
theorem d_X_pair_25 : decode (mbt m_X_pair) 25 = .ok (.ireturn, 1) := by decide +kernel
theorem d_X_pair_26 : dd m_X_pair 26 (.aload_n 0) 1 27 := ⟨by decide +kernel, rfl⟩
theorem d_X_pair_27 : dd m_X_pair 27 (.getfield 24) 3 30 := ⟨by decide +kernel, rfl⟩
theorem d_X_pair_30 : dd m_X_pair 30 (.getfield 112) 3 33 := ⟨by decide +kernel, rfl⟩
theorem d_X_pair_33 : dd m_X_pair 33 (.iload_n 1) 1 34 := ⟨by decide +kernel, rfl⟩
theorem d_X_pair_34 : dd m_X_pair 34 .aaload 1 35 := ⟨by decide +kernel, rfl⟩
theorem d_X_pair_35 : dd m_X_pair 35 (.aload_n 0) 1 36 := ⟨by decide +kernel, rfl⟩
theorem d_X_pair_36 : dd m_X_pair 36 (.getfield 24) 3 39 := ⟨by decide +kernel, rfl⟩
theorem d_X_pair_39 : dd m_X_pair 39 (.getfield 112) 3 42 := ⟨by decide +kernel, rfl⟩
theorem d_X_pair_42 : dd m_X_pair 42 (.iload_n 2) 1 43 := ⟨by decide +kernel, rfl⟩
theorem d_X_pair_43 : dd m_X_pair 43 .aaload 1 44 := ⟨by decide +kernel, rfl⟩
theorem d_X_pair_44 : dd m_X_pair 44 (.invokestatic 149) 3 47 := ⟨by decide +kernel, rfl⟩
theorem d_X_pair_47 : db m_X_pair 47 (.ifCond .ne) 50 52 := ⟨5, by decide +kernel, rfl, rfl⟩
theorem d_X_pair_50 : dd m_X_pair 50 (.iconst (-1)) 1 51 := ⟨by decide +kernel, rfl⟩
theorem d_X_pair_51 : decode (mbt m_X_pair) 51 = .ok (.ireturn, 1) := by decide +kernel
theorem d_X_pair_52 : dd m_X_pair 52 (.aload_n 0) 1 53 := ⟨by decide +kernel, rfl⟩
theorem d_X_pair_53 : dd m_X_pair 53 (.getfield 53) 3 56 := ⟨by decide +kernel, rfl⟩
theorem d_X_pair_56 : dd m_X_pair 56 (.getfield 155) 3 59 := ⟨by decide +kernel, rfl⟩
theorem d_X_pair_59 : dd m_X_pair 59 (.aload_n 0) 1 60 := ⟨by decide +kernel, rfl⟩
theorem d_X_pair_60 : dd m_X_pair 60 (.getfield 24) 3 63 := ⟨by decide +kernel, rfl⟩
theorem d_X_pair_63 : dd m_X_pair 63 (.getfield 112) 3 66 := ⟨by decide +kernel, rfl⟩
theorem d_X_pair_66 : dd m_X_pair 66 (.iload_n 1) 1 67 := ⟨by decide +kernel, rfl⟩
theorem d_X_pair_67 : dd m_X_pair 67 .aaload 1 68 := ⟨by decide +kernel, rfl⟩
theorem d_X_pair_68 : dd m_X_pair 68 (.aload_n 0) 1 69 := ⟨by decide +kernel, rfl⟩
theorem d_X_pair_69 : dd m_X_pair 69 (.getfield 24) 3 72 := ⟨by decide +kernel, rfl⟩
theorem d_X_pair_72 : dd m_X_pair 72 (.getfield 112) 3 75 := ⟨by decide +kernel, rfl⟩
theorem d_X_pair_75 : dd m_X_pair 75 (.iload_n 2) 1 76 := ⟨by decide +kernel, rfl⟩
theorem d_X_pair_76 : dd m_X_pair 76 .aaload 1 77 := ⟨by decide +kernel, rfl⟩
theorem d_X_pair_77 : dd m_X_pair 77 (.invokevirtual 158) 3 80 := ⟨by decide +kernel, rfl⟩
theorem d_X_pair_80 : dd m_X_pair 80 (.aload_n 0) 1 81 := ⟨by decide +kernel, rfl⟩
theorem d_X_pair_81 : dd m_X_pair 81 (.iload_n 3) 1 82 := ⟨by decide +kernel, rfl⟩
theorem d_X_pair_82 : dd m_X_pair 82 (.invokevirtual 164) 3 85 := ⟨by decide +kernel, rfl⟩
theorem d_X_pair_85 : decode (mbt m_X_pair) 85 = .ok (.ireturn, 1) := by decide +kernel
theorem d_X_isTable_0 : dd m_X_isTable 0 (.aload_n 0) 1 1 := ⟨by decide +kernel, rfl⟩
theorem d_X_isTable_1 : dd m_X_isTable 1 (.getfield 24) 3 4 := ⟨by decide +kernel, rfl⟩
theorem d_X_isTable_4 : dd m_X_isTable 4 (.getfield 99) 3 7 := ⟨by decide +kernel, rfl⟩
theorem d_X_isTable_7 : db m_X_isTable 7 (.ifCond .le) 10 23 := ⟨16, by decide +kernel, rfl, rfl⟩
theorem d_X_isTable_10 : dd m_X_isTable 10 (.iload_n 1) 1 11 := ⟨by decide +kernel, rfl⟩
theorem d_X_isTable_11 : db m_X_isTable 11 (.ifCond .lt) 14 23 := ⟨12, by decide +kernel, rfl, rfl⟩
theorem d_X_isTable_14 : dd m_X_isTable 14 (.iload_n 1) 1 15 := ⟨by decide +kernel, rfl⟩
theorem d_X_isTable_15 : dd m_X_isTable 15 (.iconst 4) 1 16 := ⟨by decide +kernel, rfl⟩
theorem d_X_isTable_16 : db m_X_isTable 16 (.if_icmp .ge) 19 23 := ⟨7, by decide +kernel, rfl, rfl⟩
theorem d_X_isTable_19 : dd m_X_isTable 19 (.iconst 1) 1 20 := ⟨by decide +kernel, rfl⟩
theorem d_X_isTable_20 : db m_X_isTable 20 .goto 23 24 := ⟨4, by decide +kernel, rfl, rfl⟩
theorem d_X_isTable_23 : dd m_X_isTable 23 (.iconst 0) 1 24 := ⟨by decide +kernel, rfl⟩
theorem d_X_isTable_24 : decode (mbt m_X_isTable) 24 = .ok (.ireturn, 1) := by decide +kernel
theorem d_X_landTable_0 : dd m_X_landTable 0 (.aload_n 0) 1 1 := ⟨by decide +kernel, rfl⟩
theorem d_X_landTable_1 : dd m_X_landTable 1 (.getfield 31) 3 4 := ⟨by decide +kernel, rfl⟩
theorem d_X_landTable_4 : dd m_X_landTable 4 (.aload_n 0) 1 5 := ⟨by decide +kernel, rfl⟩
theorem d_X_landTable_5 : dd m_X_landTable 5 (.getfield 24) 3 8 := ⟨by decide +kernel, rfl⟩
theorem d_X_landTable_8 : dd m_X_landTable 8 (.invokevirtual 116) 3 11 := ⟨by decide +kernel, rfl⟩
theorem d_X_landTable_11 : dd m_X_landTable 11 (.aload_n 0) 1 12 := ⟨by decide +kernel, rfl⟩
theorem d_X_landTable_12 : dd m_X_landTable 12 (.getfield 24) 3 15 := ⟨by decide +kernel, rfl⟩
theorem d_X_landTable_15 : dd m_X_landTable 15 (.getfield 171) 3 18 := ⟨by decide +kernel, rfl⟩
theorem d_X_landTable_18 : dd m_X_landTable 18 (.iload_n 1) 1 19 := ⟨by decide +kernel, rfl⟩
theorem d_X_landTable_19 : dd m_X_landTable 19 .aaload 1 20 := ⟨by decide +kernel, rfl⟩
theorem d_X_landTable_20 : dd m_X_landTable 20 (.aload_n 0) 1 21 := ⟨by decide +kernel, rfl⟩
theorem d_X_landTable_21 : dd m_X_landTable 21 (.getfield 53) 3 24 := ⟨by decide +kernel, rfl⟩
theorem d_X_landTable_24 : dd m_X_landTable 24 (.getfield 155) 3 27 := ⟨by decide +kernel, rfl⟩
theorem d_X_landTable_27 : dd m_X_landTable 27 (.invokevirtual 248) 3 30 := ⟨by decide +kernel, rfl⟩
theorem d_X_landTable_30 : dd m_X_landTable 30 (.aload_n 0) 1 31 := ⟨by decide +kernel, rfl⟩
theorem d_X_landTable_31 : dd m_X_landTable 31 (.getfield 53) 3 34 := ⟨by decide +kernel, rfl⟩
theorem d_X_landTable_34 : dd m_X_landTable 34 (.aload_n 0) 1 35 := ⟨by decide +kernel, rfl⟩
theorem d_X_landTable_35 : dd m_X_landTable 35 (.getfield 24) 3 38 := ⟨by decide +kernel, rfl⟩
theorem d_X_landTable_38 : dd m_X_landTable 38 (.getfield 171) 3 41 := ⟨by decide +kernel, rfl⟩
theorem d_X_landTable_41 : dd m_X_landTable 41 (.iload_n 1) 1 42 := ⟨by decide +kernel, rfl⟩
theorem d_X_landTable_42 : dd m_X_landTable 42 .aaload 1 43 := ⟨by decide +kernel, rfl⟩
theorem d_X_landTable_43 : dd m_X_landTable 43 (.aload_n 0) 1 44 := ⟨by decide +kernel, rfl⟩
theorem d_X_landTable_44 : dd m_X_landTable 44 (.getfield 24) 3 47 := ⟨by decide +kernel, rfl⟩
theorem d_X_landTable_47 : dd m_X_landTable 47 (.getfield 99) 3 50 := ⟨by decide +kernel, rfl⟩
theorem d_X_landTable_50 : dd m_X_landTable 50 (.iconst 1) 1 51 := ⟨by decide +kernel, rfl⟩
theorem d_X_landTable_51 : dd m_X_landTable 51 .isub 1 52 := ⟨by decide +kernel, rfl⟩
theorem d_X_landTable_52 : dd m_X_landTable 52 (.iconst 1) 1 53 := ⟨by decide +kernel, rfl⟩
theorem d_X_landTable_53 : dd m_X_landTable 53 (.aload_n 0) 1 54 := ⟨by decide +kernel, rfl⟩
theorem d_X_landTable_54 : dd m_X_landTable 54 (.getfield 24) 3 57 := ⟨by decide +kernel, rfl⟩
theorem d_X_landTable_57 : dd m_X_landTable 57 (.getfield 99) 3 60 := ⟨by decide +kernel, rfl⟩
theorem d_X_landTable_60 : dd m_X_landTable 60 (.invokevirtual 175) 3 63 := ⟨by decide +kernel, rfl⟩
theorem d_X_landTable_63 : decode (mbt m_X_landTable) 63 = .ok (.ireturn, 1) := by decide +kernel
theorem d_X_times_0 : dd m_X_times 0 (.aload_n 0) 1 1 := ⟨by decide +kernel, rfl⟩
theorem d_X_times_1 : dd m_X_times 1 (.iload_n 1) 1 2 := ⟨by decide +kernel, rfl⟩
theorem d_X_times_2 : dd m_X_times 2 (.invokevirtual 146) 3 5 := ⟨by decide +kernel, rfl⟩
theorem d_X_times_5 : db m_X_times 5 (.ifCond .eq) 8 24 := ⟨19, by decide +kernel, rfl, rfl⟩
theorem d_X_times_8 : dd m_X_times 8 (.aload_n 0) 1 9 := ⟨by decide +kernel, rfl⟩
theorem d_X_times_9 : dd m_X_times 9 (.iload_n 2) 1 10 := ⟨by decide +kernel, rfl⟩
theorem d_X_times_10 : dd m_X_times 10 (.invokevirtual 146) 3 13 := ⟨by decide +kernel, rfl⟩
theorem d_X_times_13 : db m_X_times 13 (.ifCond .eq) 16 24 := ⟨11, by decide +kernel, rfl, rfl⟩
theorem d_X_times_16 : dd m_X_times 16 (.aload_n 0) 1 17 := ⟨by decide +kernel, rfl⟩
theorem d_X_times_17 : dd m_X_times 17 (.iload_n 3) 1 18 := ⟨by decide +kernel, rfl⟩
theorem d_X_times_18 : dd m_X_times 18 (.invokevirtual 146) 3 21 := ⟨by decide +kernel, rfl⟩
theorem d_X_times_21 : db m_X_times 21 (.ifCond .ne) 24 26 := ⟨5, by decide +kernel, rfl, rfl⟩
theorem d_X_times_24 : dd m_X_times 24 (.iconst (-1)) 1 25 := ⟨by decide +kernel, rfl⟩
theorem d_X_times_25 : decode (mbt m_X_times) 25 = .ok (.ireturn, 1) := by decide +kernel
theorem d_X_times_26 : dd m_X_times 26 (.aload_n 0) 1 27 := ⟨by decide +kernel, rfl⟩
theorem d_X_times_27 : dd m_X_times 27 (.getfield 24) 3 30 := ⟨by decide +kernel, rfl⟩
theorem d_X_times_30 : dd m_X_times 30 (.getfield 171) 3 33 := ⟨by decide +kernel, rfl⟩
theorem d_X_times_33 : dd m_X_times 33 (.iload_n 1) 1 34 := ⟨by decide +kernel, rfl⟩
theorem d_X_times_34 : dd m_X_times 34 .aaload 1 35 := ⟨by decide +kernel, rfl⟩
theorem d_X_times_35 : dd m_X_times 35 (.aload_n 0) 1 36 := ⟨by decide +kernel, rfl⟩
theorem d_X_times_36 : dd m_X_times 36 (.getfield 24) 3 39 := ⟨by decide +kernel, rfl⟩
theorem d_X_times_39 : dd m_X_times 39 (.getfield 171) 3 42 := ⟨by decide +kernel, rfl⟩
theorem d_X_times_42 : dd m_X_times 42 (.iload_n 2) 1 43 := ⟨by decide +kernel, rfl⟩
theorem d_X_times_43 : dd m_X_times 43 .aaload 1 44 := ⟨by decide +kernel, rfl⟩
theorem d_X_times_44 : dd m_X_times 44 (.aload_n 0) 1 45 := ⟨by decide +kernel, rfl⟩
theorem d_X_times_45 : dd m_X_times 45 (.getfield 24) 3 48 := ⟨by decide +kernel, rfl⟩
theorem d_X_times_48 : dd m_X_times 48 (.getfield 99) 3 51 := ⟨by decide +kernel, rfl⟩
theorem d_X_times_51 : dd m_X_times 51 (.aload_n 0) 1 52 := ⟨by decide +kernel, rfl⟩
theorem d_X_times_52 : dd m_X_times 52 (.getfield 53) 3 55 := ⟨by decide +kernel, rfl⟩
theorem d_X_times_55 : dd m_X_times 55 (.getfield 155) 3 58 := ⟨by decide +kernel, rfl⟩
theorem d_X_times_58 : dd m_X_times 58 (.invokestatic 179) 3 61 := ⟨by decide +kernel, rfl⟩
theorem d_X_times_61 : dd m_X_times 61 (.aload_n 0) 1 62 := ⟨by decide +kernel, rfl⟩
theorem d_X_times_62 : dd m_X_times 62 (.iload_n 3) 1 63 := ⟨by decide +kernel, rfl⟩
theorem d_X_times_63 : dd m_X_times 63 (.invokevirtual 164) 3 66 := ⟨by decide +kernel, rfl⟩
theorem d_X_times_66 : decode (mbt m_X_times) 66 = .ok (.ireturn, 1) := by decide +kernel
theorem d_X_power_0 : dd m_X_power 0 (.aload_n 0) 1 1 := ⟨by decide +kernel, rfl⟩
theorem d_X_power_1 : dd m_X_power 1 (.iload_n 1) 1 2 := ⟨by decide +kernel, rfl⟩
theorem d_X_power_2 : dd m_X_power 2 (.invokevirtual 146) 3 5 := ⟨by decide +kernel, rfl⟩
theorem d_X_power_5 : db m_X_power 5 (.ifCond .eq) 8 28 := ⟨23, by decide +kernel, rfl, rfl⟩
theorem d_X_power_8 : dd m_X_power 8 (.aload_n 0) 1 9 := ⟨by decide +kernel, rfl⟩
theorem d_X_power_9 : dd m_X_power 9 (.iload_n 3) 1 10 := ⟨by decide +kernel, rfl⟩
theorem d_X_power_10 : dd m_X_power 10 (.invokevirtual 146) 3 13 := ⟨by decide +kernel, rfl⟩
theorem d_X_power_13 : db m_X_power 13 (.ifCond .eq) 16 28 := ⟨15, by decide +kernel, rfl, rfl⟩
theorem d_X_power_16 : dd m_X_power 16 (.iload_n 2) 1 17 := ⟨by decide +kernel, rfl⟩
theorem d_X_power_17 : dd m_X_power 17 (.bipush (-9)) 2 19 := ⟨by decide +kernel, rfl⟩
theorem d_X_power_19 : db m_X_power 19 (.if_icmp .lt) 22 28 := ⟨9, by decide +kernel, rfl, rfl⟩
theorem d_X_power_22 : dd m_X_power 22 (.iload_n 2) 1 23 := ⟨by decide +kernel, rfl⟩
theorem d_X_power_23 : dd m_X_power 23 (.bipush 9) 2 25 := ⟨by decide +kernel, rfl⟩
theorem d_X_power_25 : db m_X_power 25 (.if_icmp .le) 28 30 := ⟨5, by decide +kernel, rfl, rfl⟩
theorem d_X_power_28 : dd m_X_power 28 (.iconst (-1)) 1 29 := ⟨by decide +kernel, rfl⟩
theorem d_X_power_29 : decode (mbt m_X_power) 29 = .ok (.ireturn, 1) := by decide +kernel
theorem d_X_power_30 : dd m_X_power 30 (.aload_n 0) 1 31 := ⟨by decide +kernel, rfl⟩
theorem d_X_power_31 : dd m_X_power 31 (.getfield 53) 3 34 := ⟨by decide +kernel, rfl⟩
theorem d_X_power_34 : dd m_X_power 34 (.aload_n 0) 1 35 := ⟨by decide +kernel, rfl⟩
theorem d_X_power_35 : dd m_X_power 35 (.getfield 24) 3 38 := ⟨by decide +kernel, rfl⟩
theorem d_X_power_38 : dd m_X_power 38 (.getfield 171) 3 41 := ⟨by decide +kernel, rfl⟩
theorem d_X_power_41 : dd m_X_power 41 (.iload_n 1) 1 42 := ⟨by decide +kernel, rfl⟩
theorem d_X_power_42 : dd m_X_power 42 .aaload 1 43 := ⟨by decide +kernel, rfl⟩
theorem d_X_power_43 : dd m_X_power 43 (.iload_n 2) 1 44 := ⟨by decide +kernel, rfl⟩
theorem d_X_power_44 : dd m_X_power 44 (.aload_n 0) 1 45 := ⟨by decide +kernel, rfl⟩
theorem d_X_power_45 : dd m_X_power 45 (.getfield 24) 3 48 := ⟨by decide +kernel, rfl⟩
theorem d_X_power_48 : dd m_X_power 48 (.getfield 99) 3 51 := ⟨by decide +kernel, rfl⟩
theorem d_X_power_51 : dd m_X_power 51 (.invokevirtual 183) 3 54 := ⟨by decide +kernel, rfl⟩
theorem d_X_power_54 : dd m_X_power 54 (.aload_n 0) 1 55 := ⟨by decide +kernel, rfl⟩
theorem d_X_power_55 : dd m_X_power 55 (.iload_n 3) 1 56 := ⟨by decide +kernel, rfl⟩
theorem d_X_power_56 : dd m_X_power 56 (.invokevirtual 164) 3 59 := ⟨by decide +kernel, rfl⟩
theorem d_X_power_59 : decode (mbt m_X_power) 59 = .ok (.ireturn, 1) := by decide +kernel
theorem d_X_part_0 : dd m_X_part 0 (.aload_n 0) 1 1 := ⟨by decide +kernel, rfl⟩
theorem d_X_part_1 : dd m_X_part 1 (.iload_n 1) 1 2 := ⟨by decide +kernel, rfl⟩
theorem d_X_part_2 : dd m_X_part 2 (.invokevirtual 146) 3 5 := ⟨by decide +kernel, rfl⟩
theorem d_X_part_5 : db m_X_part 5 (.ifCond .eq) 8 16 := ⟨11, by decide +kernel, rfl, rfl⟩
theorem d_X_part_8 : dd m_X_part 8 (.aload_n 0) 1 9 := ⟨by decide +kernel, rfl⟩
theorem d_X_part_9 : dd m_X_part 9 (.iload_n 3) 1 10 := ⟨by decide +kernel, rfl⟩
theorem d_X_part_10 : dd m_X_part 10 (.invokevirtual 105) 3 13 := ⟨by decide +kernel, rfl⟩
theorem d_X_part_13 : db m_X_part 13 (.ifCond .ne) 16 18 := ⟨5, by decide +kernel, rfl, rfl⟩
theorem d_X_part_16 : dd m_X_part 16 (.iconst (-1)) 1 17 := ⟨by decide +kernel, rfl⟩
theorem d_X_part_17 : decode (mbt m_X_part) 17 = .ok (.ireturn, 1) := by decide +kernel
theorem d_X_part_18 : dd m_X_part 18 (.aload_n 0) 1 19 := ⟨by decide +kernel, rfl⟩
theorem d_X_part_19 : dd m_X_part 19 (.getfield 53) 3 22 := ⟨by decide +kernel, rfl⟩
theorem d_X_part_22 : dd m_X_part 22 (.aload_n 0) 1 23 := ⟨by decide +kernel, rfl⟩
theorem d_X_part_23 : dd m_X_part 23 (.getfield 24) 3 26 := ⟨by decide +kernel, rfl⟩
theorem d_X_part_26 : dd m_X_part 26 (.getfield 171) 3 29 := ⟨by decide +kernel, rfl⟩
theorem d_X_part_29 : dd m_X_part 29 (.iload_n 1) 1 30 := ⟨by decide +kernel, rfl⟩
theorem d_X_part_30 : dd m_X_part 30 .aaload 1 31 := ⟨by decide +kernel, rfl⟩
theorem d_X_part_31 : dd m_X_part 31 (.iload_n 2) 1 32 := ⟨by decide +kernel, rfl⟩
theorem d_X_part_32 : dd m_X_part 32 (.aload_n 0) 1 33 := ⟨by decide +kernel, rfl⟩
theorem d_X_part_33 : dd m_X_part 33 (.getfield 24) 3 36 := ⟨by decide +kernel, rfl⟩
theorem d_X_part_36 : dd m_X_part 36 (.getfield 99) 3 39 := ⟨by decide +kernel, rfl⟩
theorem d_X_part_39 : dd m_X_part 39 (.invokevirtual 187) 3 42 := ⟨by decide +kernel, rfl⟩
theorem d_X_part_42 : db m_X_part 42 (.ifCond .ne) 45 47 := ⟨5, by decide +kernel, rfl, rfl⟩
theorem d_X_part_45 : dd m_X_part 45 (.iconst (-1)) 1 46 := ⟨by decide +kernel, rfl⟩
theorem d_X_part_46 : decode (mbt m_X_part) 46 = .ok (.ireturn, 1) := by decide +kernel
theorem d_X_part_47 : dd m_X_part 47 (.aload_n 0) 1 48 := ⟨by decide +kernel, rfl⟩
theorem d_X_part_48 : dd m_X_part 48 (.aload_n 0) 1 49 := ⟨by decide +kernel, rfl⟩
theorem d_X_part_49 : dd m_X_part 49 (.getfield 53) 3 52 := ⟨by decide +kernel, rfl⟩
theorem d_X_part_52 : dd m_X_part 52 (.getfield 191) 3 55 := ⟨by decide +kernel, rfl⟩
theorem d_X_part_55 : dd m_X_part 55 (.iload_n 3) 1 56 := ⟨by decide +kernel, rfl⟩
theorem d_X_part_56 : dd m_X_part 56 (.invokevirtual 134) 3 59 := ⟨by decide +kernel, rfl⟩
theorem d_X_part_59 : dd m_X_part 59 .pop 1 60 := ⟨by decide +kernel, rfl⟩
theorem d_X_part_60 : dd m_X_part 60 (.aload_n 0) 1 61 := ⟨by decide +kernel, rfl⟩
theorem d_X_part_61 : dd m_X_part 61 (.getfield 24) 3 64 := ⟨by decide +kernel, rfl⟩
theorem d_X_part_64 : dd m_X_part 64 (.getfield 112) 3 67 := ⟨by decide +kernel, rfl⟩
theorem d_X_part_67 : dd m_X_part 67 (.iload_n 3) 1 68 := ⟨by decide +kernel, rfl⟩
theorem d_X_part_68 : dd m_X_part 68 .aaload 1 69 := ⟨by decide +kernel, rfl⟩
theorem d_X_part_69 : dd m_X_part 69 (.iconst 0) 1 70 := ⟨by decide +kernel, rfl⟩
theorem d_X_part_70 : dd m_X_part 70 .iaload 1 71 := ⟨by decide +kernel, rfl⟩
theorem d_X_part_71 : decode (mbt m_X_part) 71 = .ok (.ireturn, 1) := by decide +kernel
theorem d_X_apply_0 : dd m_X_apply 0 (.aload_n 0) 1 1 := ⟨by decide +kernel, rfl⟩
theorem d_X_apply_1 : dd m_X_apply 1 (.iload_n 1) 1 2 := ⟨by decide +kernel, rfl⟩
theorem d_X_apply_2 : dd m_X_apply 2 (.invokevirtual 146) 3 5 := ⟨by decide +kernel, rfl⟩
theorem d_X_apply_5 : db m_X_apply 5 (.ifCond .eq) 8 24 := ⟨19, by decide +kernel, rfl, rfl⟩
theorem d_X_apply_8 : dd m_X_apply 8 (.aload_n 0) 1 9 := ⟨by decide +kernel, rfl⟩
theorem d_X_apply_9 : dd m_X_apply 9 (.iload_n 2) 1 10 := ⟨by decide +kernel, rfl⟩
theorem d_X_apply_10 : dd m_X_apply 10 (.invokevirtual 105) 3 13 := ⟨by decide +kernel, rfl⟩
theorem d_X_apply_13 : db m_X_apply 13 (.ifCond .eq) 16 24 := ⟨11, by decide +kernel, rfl, rfl⟩
theorem d_X_apply_16 : dd m_X_apply 16 (.aload_n 0) 1 17 := ⟨by decide +kernel, rfl⟩
theorem d_X_apply_17 : dd m_X_apply 17 (.iload_n 3) 1 18 := ⟨by decide +kernel, rfl⟩
theorem d_X_apply_18 : dd m_X_apply 18 (.invokevirtual 105) 3 21 := ⟨by decide +kernel, rfl⟩
theorem d_X_apply_21 : db m_X_apply 21 (.ifCond .ne) 24 26 := ⟨5, by decide +kernel, rfl, rfl⟩
theorem d_X_apply_24 : dd m_X_apply 24 (.iconst (-1)) 1 25 := ⟨by decide +kernel, rfl⟩
theorem d_X_apply_25 : decode (mbt m_X_apply) 25 = .ok (.ireturn, 1) := by decide +kernel
theorem d_X_apply_26 : dd m_X_apply 26 (.aload_n 0) 1 27 := ⟨by decide +kernel, rfl⟩
theorem d_X_apply_27 : dd m_X_apply 27 (.getfield 53) 3 30 := ⟨by decide +kernel, rfl⟩
theorem d_X_apply_30 : dd m_X_apply 30 (.aload_n 0) 1 31 := ⟨by decide +kernel, rfl⟩
theorem d_X_apply_31 : dd m_X_apply 31 (.getfield 24) 3 34 := ⟨by decide +kernel, rfl⟩
theorem d_X_apply_34 : dd m_X_apply 34 (.getfield 171) 3 37 := ⟨by decide +kernel, rfl⟩
theorem d_X_apply_37 : dd m_X_apply 37 (.iload_n 1) 1 38 := ⟨by decide +kernel, rfl⟩
theorem d_X_apply_38 : dd m_X_apply 38 .aaload 1 39 := ⟨by decide +kernel, rfl⟩
theorem d_X_apply_39 : dd m_X_apply 39 (.aload_n 0) 1 40 := ⟨by decide +kernel, rfl⟩
theorem d_X_apply_40 : dd m_X_apply 40 (.getfield 24) 3 43 := ⟨by decide +kernel, rfl⟩
theorem d_X_apply_43 : dd m_X_apply 43 (.getfield 112) 3 46 := ⟨by decide +kernel, rfl⟩
theorem d_X_apply_46 : dd m_X_apply 46 (.iload_n 2) 1 47 := ⟨by decide +kernel, rfl⟩
theorem d_X_apply_47 : dd m_X_apply 47 .aaload 1 48 := ⟨by decide +kernel, rfl⟩
theorem d_X_apply_48 : dd m_X_apply 48 (.aload_n 0) 1 49 := ⟨by decide +kernel, rfl⟩
theorem d_X_apply_49 : dd m_X_apply 49 (.getfield 24) 3 52 := ⟨by decide +kernel, rfl⟩
theorem d_X_apply_52 : dd m_X_apply 52 (.getfield 99) 3 55 := ⟨by decide +kernel, rfl⟩
theorem d_X_apply_55 : dd m_X_apply 55 (.invokevirtual 194) 3 58 := ⟨by decide +kernel, rfl⟩
theorem d_X_apply_58 : dd m_X_apply 58 (.aload_n 0) 1 59 := ⟨by decide +kernel, rfl⟩
theorem d_X_apply_59 : dd m_X_apply 59 (.aload_n 0) 1 60 := ⟨by decide +kernel, rfl⟩
theorem d_X_apply_60 : dd m_X_apply 60 (.getfield 53) 3 63 := ⟨by decide +kernel, rfl⟩
theorem d_X_apply_63 : dd m_X_apply 63 (.getfield 191) 3 66 := ⟨by decide +kernel, rfl⟩
theorem d_X_apply_66 : dd m_X_apply 66 (.iload_n 3) 1 67 := ⟨by decide +kernel, rfl⟩
theorem d_X_apply_67 : dd m_X_apply 67 (.invokevirtual 134) 3 70 := ⟨by decide +kernel, rfl⟩
theorem d_X_apply_70 : decode (mbt m_X_apply) 70 = .ok (.ireturn, 1) := by decide +kernel
theorem d_X_sums_0 : dd m_X_sums 0 (.aload_n 0) 1 1 := ⟨by decide +kernel, rfl⟩
theorem d_X_sums_1 : dd m_X_sums 1 (.iload_n 1) 1 2 := ⟨by decide +kernel, rfl⟩
theorem d_X_sums_2 : dd m_X_sums 2 (.invokevirtual 146) 3 5 := ⟨by decide +kernel, rfl⟩
theorem d_X_sums_5 : db m_X_sums 5 (.ifCond .eq) 8 25 := ⟨20, by decide +kernel, rfl, rfl⟩
theorem d_X_sums_8 : dd m_X_sums 8 (.aload_n 0) 1 9 := ⟨by decide +kernel, rfl⟩
theorem d_X_sums_9 : dd m_X_sums 9 (.iload_n 3) 1 10 := ⟨by decide +kernel, rfl⟩
theorem d_X_sums_10 : dd m_X_sums 10 (.invokevirtual 105) 3 13 := ⟨by decide +kernel, rfl⟩
theorem d_X_sums_13 : db m_X_sums 13 (.ifCond .eq) 16 25 := ⟨12, by decide +kernel, rfl, rfl⟩
theorem d_X_sums_16 : dd m_X_sums 16 (.iload_n 2) 1 17 := ⟨by decide +kernel, rfl⟩
theorem d_X_sums_17 : db m_X_sums 17 (.ifCond .lt) 20 25 := ⟨8, by decide +kernel, rfl, rfl⟩
theorem d_X_sums_20 : dd m_X_sums 20 (.iload_n 2) 1 21 := ⟨by decide +kernel, rfl⟩
theorem d_X_sums_21 : dd m_X_sums 21 (.iconst 3) 1 22 := ⟨by decide +kernel, rfl⟩
theorem d_X_sums_22 : db m_X_sums 22 (.if_icmp .le) 25 27 := ⟨5, by decide +kernel, rfl, rfl⟩
theorem d_X_sums_25 : dd m_X_sums 25 (.iconst (-1)) 1 26 := ⟨by decide +kernel, rfl⟩
theorem d_X_sums_26 : decode (mbt m_X_sums) 26 = .ok (.ireturn, 1) := by decide +kernel
theorem d_X_sums_27 : dd m_X_sums 27 (.aload_n 0) 1 28 := ⟨by decide +kernel, rfl⟩
theorem d_X_sums_28 : dd m_X_sums 28 (.getfield 53) 3 31 := ⟨by decide +kernel, rfl⟩
theorem d_X_sums_31 : dd m_X_sums 31 (.aload_n 0) 1 32 := ⟨by decide +kernel, rfl⟩
theorem d_X_sums_32 : dd m_X_sums 32 (.getfield 24) 3 35 := ⟨by decide +kernel, rfl⟩
theorem d_X_sums_35 : dd m_X_sums 35 (.getfield 171) 3 38 := ⟨by decide +kernel, rfl⟩
theorem d_X_sums_38 : dd m_X_sums 38 (.iload_n 1) 1 39 := ⟨by decide +kernel, rfl⟩
theorem d_X_sums_39 : dd m_X_sums 39 .aaload 1 40 := ⟨by decide +kernel, rfl⟩
theorem d_X_sums_40 : dd m_X_sums 40 (.iload_n 2) 1 41 := ⟨by decide +kernel, rfl⟩
theorem d_X_sums_41 : dd m_X_sums 41 (.aload_n 0) 1 42 := ⟨by decide +kernel, rfl⟩
theorem d_X_sums_42 : dd m_X_sums 42 (.getfield 24) 3 45 := ⟨by decide +kernel, rfl⟩
theorem d_X_sums_45 : dd m_X_sums 45 (.getfield 99) 3 48 := ⟨by decide +kernel, rfl⟩
theorem d_X_sums_48 : dd m_X_sums 48 (.invokevirtual 198) 3 51 := ⟨by decide +kernel, rfl⟩
theorem d_X_sums_51 : dd m_X_sums 51 (.aload_n 0) 1 52 := ⟨by decide +kernel, rfl⟩
theorem d_X_sums_52 : dd m_X_sums 52 (.aload_n 0) 1 53 := ⟨by decide +kernel, rfl⟩
theorem d_X_sums_53 : dd m_X_sums 53 (.getfield 53) 3 56 := ⟨by decide +kernel, rfl⟩
theorem d_X_sums_56 : dd m_X_sums 56 (.getfield 191) 3 59 := ⟨by decide +kernel, rfl⟩
theorem d_X_sums_59 : dd m_X_sums 59 (.iload_n 3) 1 60 := ⟨by decide +kernel, rfl⟩
theorem d_X_sums_60 : dd m_X_sums 60 (.invokevirtual 134) 3 63 := ⟨by decide +kernel, rfl⟩
theorem d_X_sums_63 : decode (mbt m_X_sums) 63 = .ok (.ireturn, 1) := by decide +kernel
theorem d_X_kinds_0 : dd m_X_kinds 0 (.aload_n 0) 1 1 := ⟨by decide +kernel, rfl⟩
theorem d_X_kinds_1 : dd m_X_kinds 1 (.iload_n 1) 1 2 := ⟨by decide +kernel, rfl⟩
theorem d_X_kinds_2 : dd m_X_kinds 2 (.invokevirtual 146) 3 5 := ⟨by decide +kernel, rfl⟩
theorem d_X_kinds_5 : db m_X_kinds 5 (.ifCond .ne) 8 10 := ⟨5, by decide +kernel, rfl, rfl⟩
theorem d_X_kinds_8 : dd m_X_kinds 8 (.iconst (-1)) 1 9 := ⟨by decide +kernel, rfl⟩
theorem d_X_kinds_9 : decode (mbt m_X_kinds) 9 = .ok (.ireturn, 1) := by decide +kernel
theorem d_X_kinds_10 : dd m_X_kinds 10 (.aload_n 0) 1 11 := ⟨by decide +kernel, rfl⟩
theorem d_X_kinds_11 : dd m_X_kinds 11 (.getfield 53) 3 14 := ⟨by decide +kernel, rfl⟩
theorem d_X_kinds_14 : dd m_X_kinds 14 (.aload_n 0) 1 15 := ⟨by decide +kernel, rfl⟩
theorem d_X_kinds_15 : dd m_X_kinds 15 (.getfield 24) 3 18 := ⟨by decide +kernel, rfl⟩
theorem d_X_kinds_18 : dd m_X_kinds 18 (.getfield 171) 3 21 := ⟨by decide +kernel, rfl⟩
theorem d_X_kinds_21 : dd m_X_kinds 21 (.iload_n 1) 1 22 := ⟨by decide +kernel, rfl⟩
theorem d_X_kinds_22 : dd m_X_kinds 22 .aaload 1 23 := ⟨by decide +kernel, rfl⟩
theorem d_X_kinds_23 : dd m_X_kinds 23 (.aload_n 0) 1 24 := ⟨by decide +kernel, rfl⟩
theorem d_X_kinds_24 : dd m_X_kinds 24 (.getfield 24) 3 27 := ⟨by decide +kernel, rfl⟩
theorem d_X_kinds_27 : dd m_X_kinds 27 (.getfield 99) 3 30 := ⟨by decide +kernel, rfl⟩
theorem d_X_kinds_30 : dd m_X_kinds 30 (.invokevirtual 207) 3 33 := ⟨by decide +kernel, rfl⟩
theorem d_X_kinds_33 : decode (mbt m_X_kinds) 33 = .ok (.ireturn, 1) := by decide +kernel
theorem d_X_differ_0 : dd m_X_differ 0 (.aload_n 0) 1 1 := ⟨by decide +kernel, rfl⟩
theorem d_X_differ_1 : dd m_X_differ 1 (.iload_n 1) 1 2 := ⟨by decide +kernel, rfl⟩
theorem d_X_differ_2 : dd m_X_differ 2 (.invokevirtual 146) 3 5 := ⟨by decide +kernel, rfl⟩
theorem d_X_differ_5 : db m_X_differ 5 (.ifCond .eq) 8 16 := ⟨11, by decide +kernel, rfl, rfl⟩
theorem d_X_differ_8 : dd m_X_differ 8 (.aload_n 0) 1 9 := ⟨by decide +kernel, rfl⟩
theorem d_X_differ_9 : dd m_X_differ 9 (.iload_n 2) 1 10 := ⟨by decide +kernel, rfl⟩
theorem d_X_differ_10 : dd m_X_differ 10 (.invokevirtual 146) 3 13 := ⟨by decide +kernel, rfl⟩
theorem d_X_differ_13 : db m_X_differ 13 (.ifCond .ne) 16 18 := ⟨5, by decide +kernel, rfl, rfl⟩
theorem d_X_differ_16 : dd m_X_differ 16 (.iconst (-1)) 1 17 := ⟨by decide +kernel, rfl⟩
theorem d_X_differ_17 : decode (mbt m_X_differ) 17 = .ok (.ireturn, 1) := by decide +kernel
theorem d_X_differ_18 : dd m_X_differ 18 (.iload_n 3) 1 19 := ⟨by decide +kernel, rfl⟩
theorem d_X_differ_19 : db m_X_differ 19 (.ifCond .ne) 22 55 := ⟨36, by decide +kernel, rfl, rfl⟩
theorem d_X_differ_22 : dd m_X_differ 22 (.aload_n 0) 1 23 := ⟨by decide +kernel, rfl⟩
theorem d_X_differ_23 : dd m_X_differ 23 (.getfield 53) 3 26 := ⟨by decide +kernel, rfl⟩
theorem d_X_differ_26 : dd m_X_differ 26 (.aload_n 0) 1 27 := ⟨by decide +kernel, rfl⟩
theorem d_X_differ_27 : dd m_X_differ 27 (.getfield 24) 3 30 := ⟨by decide +kernel, rfl⟩
theorem d_X_differ_30 : dd m_X_differ 30 (.getfield 171) 3 33 := ⟨by decide +kernel, rfl⟩
theorem d_X_differ_33 : dd m_X_differ 33 (.iload_n 1) 1 34 := ⟨by decide +kernel, rfl⟩
theorem d_X_differ_34 : dd m_X_differ 34 .aaload 1 35 := ⟨by decide +kernel, rfl⟩
theorem d_X_differ_35 : dd m_X_differ 35 (.aload_n 0) 1 36 := ⟨by decide +kernel, rfl⟩
theorem d_X_differ_36 : dd m_X_differ 36 (.getfield 24) 3 39 := ⟨by decide +kernel, rfl⟩
theorem d_X_differ_39 : dd m_X_differ 39 (.getfield 171) 3 42 := ⟨by decide +kernel, rfl⟩
theorem d_X_differ_42 : dd m_X_differ 42 (.iload_n 2) 1 43 := ⟨by decide +kernel, rfl⟩
theorem d_X_differ_43 : dd m_X_differ 43 .aaload 1 44 := ⟨by decide +kernel, rfl⟩
theorem d_X_differ_44 : dd m_X_differ 44 (.aload_n 0) 1 45 := ⟨by decide +kernel, rfl⟩
theorem d_X_differ_45 : dd m_X_differ 45 (.getfield 24) 3 48 := ⟨by decide +kernel, rfl⟩
theorem d_X_differ_48 : dd m_X_differ 48 (.getfield 99) 3 51 := ⟨by decide +kernel, rfl⟩
theorem d_X_differ_51 : dd m_X_differ 51 (.invokevirtual 211) 3 54 := ⟨by decide +kernel, rfl⟩
theorem d_X_differ_54 : decode (mbt m_X_differ) 54 = .ok (.ireturn, 1) := by decide +kernel
theorem d_X_differ_55 : dd m_X_differ 55 (.iload_n 3) 1 56 := ⟨by decide +kernel, rfl⟩
theorem d_X_differ_56 : dd m_X_differ 56 (.iconst 1) 1 57 := ⟨by decide +kernel, rfl⟩
theorem d_X_differ_57 : db m_X_differ 57 (.if_icmp .ne) 60 93 := ⟨36, by decide +kernel, rfl, rfl⟩
theorem d_X_differ_60 : dd m_X_differ 60 (.aload_n 0) 1 61 := ⟨by decide +kernel, rfl⟩
theorem d_X_differ_61 : dd m_X_differ 61 (.getfield 53) 3 64 := ⟨by decide +kernel, rfl⟩
theorem d_X_differ_64 : dd m_X_differ 64 (.aload_n 0) 1 65 := ⟨by decide +kernel, rfl⟩
theorem d_X_differ_65 : dd m_X_differ 65 (.getfield 24) 3 68 := ⟨by decide +kernel, rfl⟩
theorem d_X_differ_68 : dd m_X_differ 68 (.getfield 171) 3 71 := ⟨by decide +kernel, rfl⟩
theorem d_X_differ_71 : dd m_X_differ 71 (.iload_n 1) 1 72 := ⟨by decide +kernel, rfl⟩
theorem d_X_differ_72 : dd m_X_differ 72 .aaload 1 73 := ⟨by decide +kernel, rfl⟩
theorem d_X_differ_73 : dd m_X_differ 73 (.aload_n 0) 1 74 := ⟨by decide +kernel, rfl⟩
theorem d_X_differ_74 : dd m_X_differ 74 (.getfield 24) 3 77 := ⟨by decide +kernel, rfl⟩
theorem d_X_differ_77 : dd m_X_differ 77 (.getfield 171) 3 80 := ⟨by decide +kernel, rfl⟩
theorem d_X_differ_80 : dd m_X_differ 80 (.iload_n 2) 1 81 := ⟨by decide +kernel, rfl⟩
theorem d_X_differ_81 : dd m_X_differ 81 .aaload 1 82 := ⟨by decide +kernel, rfl⟩
theorem d_X_differ_82 : dd m_X_differ 82 (.aload_n 0) 1 83 := ⟨by decide +kernel, rfl⟩
theorem d_X_differ_83 : dd m_X_differ 83 (.getfield 24) 3 86 := ⟨by decide +kernel, rfl⟩
theorem d_X_differ_86 : dd m_X_differ 86 (.getfield 99) 3 89 := ⟨by decide +kernel, rfl⟩
theorem d_X_differ_89 : dd m_X_differ 89 (.invokevirtual 215) 3 92 := ⟨by decide +kernel, rfl⟩
theorem d_X_differ_92 : decode (mbt m_X_differ) 92 = .ok (.ireturn, 1) := by decide +kernel
theorem d_X_differ_93 : dd m_X_differ 93 (.iconst (-1)) 1 94 := ⟨by decide +kernel, rfl⟩
theorem d_X_differ_94 : decode (mbt m_X_differ) 94 = .ok (.ireturn, 1) := by decide +kernel
theorem d_X_fails_0 : dd m_X_fails 0 (.aload_n 0) 1 1 := ⟨by decide +kernel, rfl⟩
theorem d_X_fails_1 : dd m_X_fails 1 (.iload_n 1) 1 2 := ⟨by decide +kernel, rfl⟩
theorem d_X_fails_2 : dd m_X_fails 2 (.invokevirtual 146) 3 5 := ⟨by decide +kernel, rfl⟩
theorem d_X_fails_5 : db m_X_fails 5 (.ifCond .eq) 8 24 := ⟨19, by decide +kernel, rfl, rfl⟩
theorem d_X_fails_8 : dd m_X_fails 8 (.aload_n 0) 1 9 := ⟨by decide +kernel, rfl⟩
theorem d_X_fails_9 : dd m_X_fails 9 (.iload_n 2) 1 10 := ⟨by decide +kernel, rfl⟩
theorem d_X_fails_10 : dd m_X_fails 10 (.invokevirtual 105) 3 13 := ⟨by decide +kernel, rfl⟩
theorem d_X_fails_13 : db m_X_fails 13 (.ifCond .eq) 16 24 := ⟨11, by decide +kernel, rfl, rfl⟩
theorem d_X_fails_16 : dd m_X_fails 16 (.aload_n 0) 1 17 := ⟨by decide +kernel, rfl⟩
theorem d_X_fails_17 : dd m_X_fails 17 (.iload_n 3) 1 18 := ⟨by decide +kernel, rfl⟩
theorem d_X_fails_18 : dd m_X_fails 18 (.invokevirtual 105) 3 21 := ⟨by decide +kernel, rfl⟩
theorem d_X_fails_21 : db m_X_fails 21 (.ifCond .ne) 24 26 := ⟨5, by decide +kernel, rfl, rfl⟩
theorem d_X_fails_24 : dd m_X_fails 24 (.iconst (-1)) 1 25 := ⟨by decide +kernel, rfl⟩
theorem d_X_fails_25 : decode (mbt m_X_fails) 25 = .ok (.ireturn, 1) := by decide +kernel
theorem d_X_fails_26 : dd m_X_fails 26 (.aload_n 0) 1 27 := ⟨by decide +kernel, rfl⟩
theorem d_X_fails_27 : dd m_X_fails 27 (.getfield 53) 3 30 := ⟨by decide +kernel, rfl⟩
theorem d_X_fails_30 : dd m_X_fails 30 (.aload_n 0) 1 31 := ⟨by decide +kernel, rfl⟩
theorem d_X_fails_31 : dd m_X_fails 31 (.getfield 24) 3 34 := ⟨by decide +kernel, rfl⟩
theorem d_X_fails_34 : dd m_X_fails 34 (.getfield 171) 3 37 := ⟨by decide +kernel, rfl⟩
theorem d_X_fails_37 : dd m_X_fails 37 (.iload_n 1) 1 38 := ⟨by decide +kernel, rfl⟩
theorem d_X_fails_38 : dd m_X_fails 38 .aaload 1 39 := ⟨by decide +kernel, rfl⟩
theorem d_X_fails_39 : dd m_X_fails 39 (.aload_n 0) 1 40 := ⟨by decide +kernel, rfl⟩
theorem d_X_fails_40 : dd m_X_fails 40 (.getfield 24) 3 43 := ⟨by decide +kernel, rfl⟩
theorem d_X_fails_43 : dd m_X_fails 43 (.getfield 112) 3 46 := ⟨by decide +kernel, rfl⟩
theorem d_X_fails_46 : dd m_X_fails 46 (.iload_n 2) 1 47 := ⟨by decide +kernel, rfl⟩
theorem d_X_fails_47 : dd m_X_fails 47 .aaload 1 48 := ⟨by decide +kernel, rfl⟩
theorem d_X_fails_48 : dd m_X_fails 48 (.aload_n 0) 1 49 := ⟨by decide +kernel, rfl⟩
theorem d_X_fails_49 : dd m_X_fails 49 (.getfield 24) 3 52 := ⟨by decide +kernel, rfl⟩
theorem d_X_fails_52 : dd m_X_fails 52 (.getfield 99) 3 55 := ⟨by decide +kernel, rfl⟩
theorem d_X_fails_55 : dd m_X_fails 55 (.invokevirtual 194) 3 58 := ⟨by decide +kernel, rfl⟩
theorem d_X_fails_58 : dd m_X_fails 58 (.iconst 0) 1 59 := ⟨by decide +kernel, rfl⟩
theorem d_X_fails_59 : dd m_X_fails 59 (.istore 4) 2 61 := ⟨by decide +kernel, rfl⟩
theorem d_X_fails_61 : dd m_X_fails 61 (.iload 4) 2 63 := ⟨by decide +kernel, rfl⟩
theorem d_X_fails_63 : dd m_X_fails 63 (.aload_n 0) 1 64 := ⟨by decide +kernel, rfl⟩
theorem d_X_fails_64 : dd m_X_fails 64 (.getfield 24) 3 67 := ⟨by decide +kernel, rfl⟩
theorem d_X_fails_67 : dd m_X_fails 67 (.getfield 99) 3 70 := ⟨by decide +kernel, rfl⟩
theorem d_X_fails_70 : db m_X_fails 70 (.if_icmp .ge) 73 107 := ⟨37, by decide +kernel, rfl, rfl⟩
theorem d_X_fails_73 : dd m_X_fails 73 (.aload_n 0) 1 74 := ⟨by decide +kernel, rfl⟩
theorem d_X_fails_74 : dd m_X_fails 74 (.getfield 53) 3 77 := ⟨by decide +kernel, rfl⟩
theorem d_X_fails_77 : dd m_X_fails 77 (.getfield 191) 3 80 := ⟨by decide +kernel, rfl⟩
theorem d_X_fails_80 : dd m_X_fails 80 (.iload 4) 2 82 := ⟨by decide +kernel, rfl⟩
theorem d_X_fails_82 : dd m_X_fails 82 .iaload 1 83 := ⟨by decide +kernel, rfl⟩
theorem d_X_fails_83 : dd m_X_fails 83 (.aload_n 0) 1 84 := ⟨by decide +kernel, rfl⟩
theorem d_X_fails_84 : dd m_X_fails 84 (.getfield 24) 3 87 := ⟨by decide +kernel, rfl⟩
theorem d_X_fails_87 : dd m_X_fails 87 (.getfield 112) 3 90 := ⟨by decide +kernel, rfl⟩
theorem d_X_fails_90 : dd m_X_fails 90 (.iload_n 3) 1 91 := ⟨by decide +kernel, rfl⟩
theorem d_X_fails_91 : dd m_X_fails 91 .aaload 1 92 := ⟨by decide +kernel, rfl⟩
theorem d_X_fails_92 : dd m_X_fails 92 (.iload 4) 2 94 := ⟨by decide +kernel, rfl⟩
theorem d_X_fails_94 : dd m_X_fails 94 .iaload 1 95 := ⟨by decide +kernel, rfl⟩
theorem d_X_fails_95 : db m_X_fails 95 (.if_icmp .eq) 98 101 := ⟨6, by decide +kernel, rfl, rfl⟩
theorem d_X_fails_98 : dd m_X_fails 98 (.iload 4) 2 100 := ⟨by decide +kernel, rfl⟩
theorem d_X_fails_100 : decode (mbt m_X_fails) 100 = .ok (.ireturn, 1) := by decide +kernel
theorem d_X_fails_101 : dd m_X_fails 101 (.iinc 4 1) 3 104 := ⟨by decide +kernel, rfl⟩
theorem d_X_fails_104 : db m_X_fails 104 .goto 107 61 := ⟨(-43), by decide +kernel, rfl, rfl⟩
theorem d_X_fails_107 : dd m_X_fails 107 (.iconst (-1)) 1 108 := ⟨by decide +kernel, rfl⟩
theorem d_X_fails_108 : decode (mbt m_X_fails) 108 = .ok (.ireturn, 1) := by decide +kernel
theorem d_X_free_0 : dd m_X_free 0 (.aload_n 0) 1 1 := ⟨by decide +kernel, rfl⟩
theorem d_X_free_1 : dd m_X_free 1 (.iload_n 1) 1 2 := ⟨by decide +kernel, rfl⟩
theorem d_X_free_2 : dd m_X_free 2 (.invokevirtual 109) 3 5 := ⟨by decide +kernel, rfl⟩
theorem d_X_free_5 : db m_X_free 5 (.ifCond .eq) 8 16 := ⟨11, by decide +kernel, rfl, rfl⟩
theorem d_X_free_8 : dd m_X_free 8 (.aload_n 0) 1 9 := ⟨by decide +kernel, rfl⟩
theorem d_X_free_9 : dd m_X_free 9 (.iload_n 2) 1 10 := ⟨by decide +kernel, rfl⟩
theorem d_X_free_10 : dd m_X_free 10 (.invokevirtual 109) 3 13 := ⟨by decide +kernel, rfl⟩
theorem d_X_free_13 : db m_X_free 13 (.ifCond .ne) 16 18 := ⟨5, by decide +kernel, rfl, rfl⟩
theorem d_X_free_16 : dd m_X_free 16 (.iconst (-1)) 1 17 := ⟨by decide +kernel, rfl⟩
theorem d_X_free_17 : decode (mbt m_X_free) 17 = .ok (.ireturn, 1) := by decide +kernel
theorem d_X_free_18 : dd m_X_free 18 (.aload_n 0) 1 19 := ⟨by decide +kernel, rfl⟩
theorem d_X_free_19 : dd m_X_free 19 (.getfield 24) 3 22 := ⟨by decide +kernel, rfl⟩
theorem d_X_free_22 : dd m_X_free 22 (.getfield 218) 3 25 := ⟨by decide +kernel, rfl⟩
theorem d_X_free_25 : dd m_X_free 25 (.iload_n 1) 1 26 := ⟨by decide +kernel, rfl⟩
theorem d_X_free_26 : dd m_X_free 26 .aaload 1 27 := ⟨by decide +kernel, rfl⟩
theorem d_X_free_27 : dd m_X_free 27 (.iload_n 2) 1 28 := ⟨by decide +kernel, rfl⟩
theorem d_X_free_28 : dd m_X_free 28 .iaload 1 29 := ⟨by decide +kernel, rfl⟩
theorem d_X_free_29 : decode (mbt m_X_free) 29 = .ok (.ireturn, 1) := by decide +kernel
theorem d_X_set_0 : dd m_X_set 0 (.aload_n 0) 1 1 := ⟨by decide +kernel, rfl⟩
theorem d_X_set_1 : dd m_X_set 1 (.iload_n 1) 1 2 := ⟨by decide +kernel, rfl⟩
theorem d_X_set_2 : dd m_X_set 2 (.invokevirtual 109) 3 5 := ⟨by decide +kernel, rfl⟩
theorem d_X_set_5 : db m_X_set 5 (.ifCond .eq) 8 21 := ⟨16, by decide +kernel, rfl, rfl⟩
theorem d_X_set_8 : dd m_X_set 8 (.aload_n 0) 1 9 := ⟨by decide +kernel, rfl⟩
theorem d_X_set_9 : dd m_X_set 9 (.iload_n 2) 1 10 := ⟨by decide +kernel, rfl⟩
theorem d_X_set_10 : dd m_X_set 10 (.invokevirtual 109) 3 13 := ⟨by decide +kernel, rfl⟩
theorem d_X_set_13 : db m_X_set 13 (.ifCond .eq) 16 21 := ⟨8, by decide +kernel, rfl, rfl⟩
theorem d_X_set_16 : dd m_X_set 16 (.iload_n 2) 1 17 := ⟨by decide +kernel, rfl⟩
theorem d_X_set_17 : dd m_X_set 17 (.iload_n 1) 1 18 := ⟨by decide +kernel, rfl⟩
theorem d_X_set_18 : db m_X_set 18 (.if_icmp .le) 21 23 := ⟨5, by decide +kernel, rfl, rfl⟩
theorem d_X_set_21 : dd m_X_set 21 (.iconst (-1)) 1 22 := ⟨by decide +kernel, rfl⟩
theorem d_X_set_22 : decode (mbt m_X_set) 22 = .ok (.ireturn, 1) := by decide +kernel
theorem d_X_set_23 : dd m_X_set 23 (.aload_n 0) 1 24 := ⟨by decide +kernel, rfl⟩
theorem d_X_set_24 : dd m_X_set 24 (.getfield 31) 3 27 := ⟨by decide +kernel, rfl⟩
theorem d_X_set_27 : dd m_X_set 27 (.aload_n 0) 1 28 := ⟨by decide +kernel, rfl⟩
theorem d_X_set_28 : dd m_X_set 28 (.getfield 24) 3 31 := ⟨by decide +kernel, rfl⟩
theorem d_X_set_31 : dd m_X_set 31 (.invokevirtual 116) 3 34 := ⟨by decide +kernel, rfl⟩
theorem d_X_set_34 : dd m_X_set 34 (.aload_n 0) 1 35 := ⟨by decide +kernel, rfl⟩
theorem d_X_set_35 : dd m_X_set 35 (.getfield 24) 3 38 := ⟨by decide +kernel, rfl⟩
theorem d_X_set_38 : dd m_X_set 38 (.getfield 218) 3 41 := ⟨by decide +kernel, rfl⟩
theorem d_X_set_41 : dd m_X_set 41 (.iload_n 1) 1 42 := ⟨by decide +kernel, rfl⟩
theorem d_X_set_42 : dd m_X_set 42 .aaload 1 43 := ⟨by decide +kernel, rfl⟩
theorem d_X_set_43 : dd m_X_set 43 (.iload_n 2) 1 44 := ⟨by decide +kernel, rfl⟩
theorem d_X_set_44 : dd m_X_set 44 (.iload_n 3) 1 45 := ⟨by decide +kernel, rfl⟩
theorem d_X_set_45 : dd m_X_set 45 (.ldc 119) 2 47 := ⟨by decide +kernel, rfl⟩
theorem d_X_set_47 : dd m_X_set 47 (.invokestatic 120) 3 50 := ⟨by decide +kernel, rfl⟩
theorem d_X_set_50 : dd m_X_set 50 .iastore 1 51 := ⟨by decide +kernel, rfl⟩
theorem d_X_set_51 : dd m_X_set 51 (.aload_n 0) 1 52 := ⟨by decide +kernel, rfl⟩
theorem d_X_set_52 : dd m_X_set 52 (.getfield 24) 3 55 := ⟨by decide +kernel, rfl⟩
theorem d_X_set_55 : dd m_X_set 55 (.getfield 218) 3 58 := ⟨by decide +kernel, rfl⟩
theorem d_X_set_58 : dd m_X_set 58 (.iload_n 1) 1 59 := ⟨by decide +kernel, rfl⟩
theorem d_X_set_59 : dd m_X_set 59 .aaload 1 60 := ⟨by decide +kernel, rfl⟩
theorem d_X_set_60 : dd m_X_set 60 (.iload_n 2) 1 61 := ⟨by decide +kernel, rfl⟩
theorem d_X_set_61 : dd m_X_set 61 .iaload 1 62 := ⟨by decide +kernel, rfl⟩
theorem d_X_set_62 : decode (mbt m_X_set) 62 = .ok (.ireturn, 1) := by decide +kernel
theorem d_X_lay_0 : dd m_X_lay 0 (.aload_n 0) 1 1 := ⟨by decide +kernel, rfl⟩
theorem d_X_lay_1 : dd m_X_lay 1 (.iload_n 1) 1 2 := ⟨by decide +kernel, rfl⟩
theorem d_X_lay_2 : dd m_X_lay 2 (.invokevirtual 146) 3 5 := ⟨by decide +kernel, rfl⟩
theorem d_X_lay_5 : db m_X_lay 5 (.ifCond .ne) 8 10 := ⟨5, by decide +kernel, rfl, rfl⟩
theorem d_X_lay_8 : dd m_X_lay 8 (.iconst (-1)) 1 9 := ⟨by decide +kernel, rfl⟩
theorem d_X_lay_9 : decode (mbt m_X_lay) 9 = .ok (.ireturn, 1) := by decide +kernel
theorem d_X_lay_10 : dd m_X_lay 10 (.aload_n 0) 1 11 := ⟨by decide +kernel, rfl⟩
theorem d_X_lay_11 : dd m_X_lay 11 (.getfield 31) 3 14 := ⟨by decide +kernel, rfl⟩
theorem d_X_lay_14 : dd m_X_lay 14 (.aload_n 0) 1 15 := ⟨by decide +kernel, rfl⟩
theorem d_X_lay_15 : dd m_X_lay 15 (.getfield 24) 3 18 := ⟨by decide +kernel, rfl⟩
theorem d_X_lay_18 : dd m_X_lay 18 (.invokevirtual 116) 3 21 := ⟨by decide +kernel, rfl⟩
theorem d_X_lay_21 : dd m_X_lay 21 (.aload_n 0) 1 22 := ⟨by decide +kernel, rfl⟩
theorem d_X_lay_22 : dd m_X_lay 22 (.getfield 53) 3 25 := ⟨by decide +kernel, rfl⟩
theorem d_X_lay_25 : dd m_X_lay 25 (.aload_n 0) 1 26 := ⟨by decide +kernel, rfl⟩
theorem d_X_lay_26 : dd m_X_lay 26 (.getfield 24) 3 29 := ⟨by decide +kernel, rfl⟩
theorem d_X_lay_29 : dd m_X_lay 29 (.getfield 171) 3 32 := ⟨by decide +kernel, rfl⟩
theorem d_X_lay_32 : dd m_X_lay 32 (.iload_n 1) 1 33 := ⟨by decide +kernel, rfl⟩
theorem d_X_lay_33 : dd m_X_lay 33 .aaload 1 34 := ⟨by decide +kernel, rfl⟩
theorem d_X_lay_34 : dd m_X_lay 34 (.aload_n 0) 1 35 := ⟨by decide +kernel, rfl⟩
theorem d_X_lay_35 : dd m_X_lay 35 (.getfield 24) 3 38 := ⟨by decide +kernel, rfl⟩
theorem d_X_lay_38 : dd m_X_lay 38 (.getfield 99) 3 41 := ⟨by decide +kernel, rfl⟩
theorem d_X_lay_41 : dd m_X_lay 41 (.aload_n 0) 1 42 := ⟨by decide +kernel, rfl⟩
theorem d_X_lay_42 : dd m_X_lay 42 (.getfield 24) 3 45 := ⟨by decide +kernel, rfl⟩
theorem d_X_lay_45 : dd m_X_lay 45 (.getfield 218) 3 48 := ⟨by decide +kernel, rfl⟩
theorem d_X_lay_48 : dd m_X_lay 48 (.invokevirtual 221) 3 51 := ⟨by decide +kernel, rfl⟩
theorem d_X_lay_51 : dd m_X_lay 51 (.aload_n 0) 1 52 := ⟨by decide +kernel, rfl⟩
theorem d_X_lay_52 : dd m_X_lay 52 (.getfield 53) 3 55 := ⟨by decide +kernel, rfl⟩
theorem d_X_lay_55 : dd m_X_lay 55 (.aload_n 0) 1 56 := ⟨by decide +kernel, rfl⟩
theorem d_X_lay_56 : dd m_X_lay 56 (.getfield 24) 3 59 := ⟨by decide +kernel, rfl⟩
theorem d_X_lay_59 : dd m_X_lay 59 (.getfield 171) 3 62 := ⟨by decide +kernel, rfl⟩
theorem d_X_lay_62 : dd m_X_lay 62 (.iload_n 1) 1 63 := ⟨by decide +kernel, rfl⟩
theorem d_X_lay_63 : dd m_X_lay 63 .aaload 1 64 := ⟨by decide +kernel, rfl⟩
theorem d_X_lay_64 : dd m_X_lay 64 (.aload_n 0) 1 65 := ⟨by decide +kernel, rfl⟩
theorem d_X_lay_65 : dd m_X_lay 65 (.getfield 24) 3 68 := ⟨by decide +kernel, rfl⟩
theorem d_X_lay_68 : dd m_X_lay 68 (.getfield 99) 3 71 := ⟨by decide +kernel, rfl⟩
theorem d_X_lay_71 : dd m_X_lay 71 (.invokevirtual 207) 3 74 := ⟨by decide +kernel, rfl⟩
theorem d_X_lay_74 : decode (mbt m_X_lay) 74 = .ok (.ireturn, 1) := by decide +kernel
theorem d_X_unlike_0 : dd m_X_unlike 0 (.aload_n 0) 1 1 := ⟨by decide +kernel, rfl⟩
theorem d_X_unlike_1 : dd m_X_unlike 1 (.getfield 24) 3 4 := ⟨by decide +kernel, rfl⟩
theorem d_X_unlike_4 : dd m_X_unlike 4 (.getfield 99) 3 7 := ⟨by decide +kernel, rfl⟩
theorem d_X_unlike_7 : db m_X_unlike 7 (.ifCond .ne) 10 13 := ⟨6, by decide +kernel, rfl, rfl⟩
theorem d_X_unlike_10 : dd m_X_unlike 10 (.bipush 101) 2 12 := ⟨by decide +kernel, rfl⟩
theorem d_X_unlike_12 : decode (mbt m_X_unlike) 12 = .ok (.ireturn, 1) := by decide +kernel
theorem d_X_unlike_13 : dd m_X_unlike 13 (.aload_n 0) 1 14 := ⟨by decide +kernel, rfl⟩
theorem d_X_unlike_14 : dd m_X_unlike 14 (.getfield 53) 3 17 := ⟨by decide +kernel, rfl⟩
theorem d_X_unlike_17 : dd m_X_unlike 17 (.aload_n 0) 1 18 := ⟨by decide +kernel, rfl⟩
theorem d_X_unlike_18 : dd m_X_unlike 18 (.getfield 24) 3 21 := ⟨by decide +kernel, rfl⟩
theorem d_X_unlike_21 : dd m_X_unlike 21 (.getfield 218) 3 24 := ⟨by decide +kernel, rfl⟩
theorem d_X_unlike_24 : dd m_X_unlike 24 (.aload_n 0) 1 25 := ⟨by decide +kernel, rfl⟩
theorem d_X_unlike_25 : dd m_X_unlike 25 (.getfield 24) 3 28 := ⟨by decide +kernel, rfl⟩
theorem d_X_unlike_28 : dd m_X_unlike 28 (.getfield 99) 3 31 := ⟨by decide +kernel, rfl⟩
theorem d_X_unlike_31 : dd m_X_unlike 31 (.invokevirtual 225) 3 34 := ⟨by decide +kernel, rfl⟩
theorem d_X_unlike_34 : decode (mbt m_X_unlike) 34 = .ok (.ireturn, 1) := by decide +kernel
theorem d_X_rebuild_0 : dd m_X_rebuild 0 (.aload_n 0) 1 1 := ⟨by decide +kernel, rfl⟩
theorem d_X_rebuild_1 : dd m_X_rebuild 1 (.iload_n 1) 1 2 := ⟨by decide +kernel, rfl⟩
theorem d_X_rebuild_2 : dd m_X_rebuild 2 (.invokevirtual 146) 3 5 := ⟨by decide +kernel, rfl⟩
theorem d_X_rebuild_5 : db m_X_rebuild 5 (.ifCond .eq) 8 33 := ⟨28, by decide +kernel, rfl, rfl⟩
theorem d_X_rebuild_8 : dd m_X_rebuild 8 (.aload_n 0) 1 9 := ⟨by decide +kernel, rfl⟩
theorem d_X_rebuild_9 : dd m_X_rebuild 9 (.getfield 53) 3 12 := ⟨by decide +kernel, rfl⟩
theorem d_X_rebuild_12 : dd m_X_rebuild 12 (.aload_n 0) 1 13 := ⟨by decide +kernel, rfl⟩
theorem d_X_rebuild_13 : dd m_X_rebuild 13 (.getfield 24) 3 16 := ⟨by decide +kernel, rfl⟩
theorem d_X_rebuild_16 : dd m_X_rebuild 16 (.getfield 218) 3 19 := ⟨by decide +kernel, rfl⟩
theorem d_X_rebuild_19 : dd m_X_rebuild 19 (.aload_n 0) 1 20 := ⟨by decide +kernel, rfl⟩
theorem d_X_rebuild_20 : dd m_X_rebuild 20 (.getfield 24) 3 23 := ⟨by decide +kernel, rfl⟩
theorem d_X_rebuild_23 : dd m_X_rebuild 23 (.getfield 99) 3 26 := ⟨by decide +kernel, rfl⟩
theorem d_X_rebuild_26 : dd m_X_rebuild 26 (.invokevirtual 225) 3 29 := ⟨by decide +kernel, rfl⟩
theorem d_X_rebuild_29 : dd m_X_rebuild 29 (.iconst (-1)) 1 30 := ⟨by decide +kernel, rfl⟩
theorem d_X_rebuild_30 : db m_X_rebuild 30 (.if_icmp .eq) 33 35 := ⟨5, by decide +kernel, rfl, rfl⟩
theorem d_X_rebuild_33 : dd m_X_rebuild 33 (.iconst (-1)) 1 34 := ⟨by decide +kernel, rfl⟩
theorem d_X_rebuild_34 : decode (mbt m_X_rebuild) 34 = .ok (.ireturn, 1) := by decide +kernel
theorem d_X_rebuild_35 : dd m_X_rebuild 35 (.aload_n 0) 1 36 := ⟨by decide +kernel, rfl⟩
theorem d_X_rebuild_36 : dd m_X_rebuild 36 (.iload_n 1) 1 37 := ⟨by decide +kernel, rfl⟩
theorem d_X_rebuild_37 : dd m_X_rebuild 37 (.invokevirtual 164) 3 40 := ⟨by decide +kernel, rfl⟩
theorem d_X_rebuild_40 : decode (mbt m_X_rebuild) 40 = .ok (.ireturn, 1) := by decide +kernel
theorem d_X_drawn_0 : dd m_X_drawn 0 (.iload_n 1) 1 1 := ⟨by decide +kernel, rfl⟩
theorem d_X_drawn_1 : dd m_X_drawn 1 (.iconst 1) 1 2 := ⟨by decide +kernel, rfl⟩
theorem d_X_drawn_2 : db m_X_drawn 2 (.if_icmp .lt) 5 11 := ⟨9, by decide +kernel, rfl, rfl⟩
theorem d_X_drawn_5 : dd m_X_drawn 5 (.iload_n 1) 1 6 := ⟨by decide +kernel, rfl⟩
theorem d_X_drawn_6 : dd m_X_drawn 6 (.bipush 60) 2 8 := ⟨by decide +kernel, rfl⟩
theorem d_X_drawn_8 : db m_X_drawn 8 (.if_icmp .le) 11 13 := ⟨5, by decide +kernel, rfl, rfl⟩
theorem d_X_drawn_11 : dd m_X_drawn 11 (.iconst (-1)) 1 12 := ⟨by decide +kernel, rfl⟩
theorem d_X_drawn_12 : decode (mbt m_X_drawn) 12 = .ok (.ireturn, 1) := by decide +kernel
theorem d_X_drawn_13 : dd m_X_drawn 13 (.aload_n 0) 1 14 := ⟨by decide +kernel, rfl⟩
theorem d_X_drawn_14 : dd m_X_drawn 14 (.getfield 24) 3 17 := ⟨by decide +kernel, rfl⟩
theorem d_X_drawn_17 : dd m_X_drawn 17 (.getfield 99) 3 20 := ⟨by decide +kernel, rfl⟩
theorem d_X_drawn_20 : db m_X_drawn 20 (.ifCond .ne) 23 25 := ⟨5, by decide +kernel, rfl, rfl⟩
theorem d_X_drawn_23 : dd m_X_drawn 23 (.iconst 0) 1 24 := ⟨by decide +kernel, rfl⟩
theorem d_X_drawn_24 : decode (mbt m_X_drawn) 24 = .ok (.ireturn, 1) := by decide +kernel
theorem d_X_drawn_25 : dd m_X_drawn 25 (.aload_n 0) 1 26 := ⟨by decide +kernel, rfl⟩
theorem d_X_drawn_26 : dd m_X_drawn 26 (.getfield 31) 3 29 := ⟨by decide +kernel, rfl⟩
theorem d_X_drawn_29 : dd m_X_drawn 29 (.aload_n 0) 1 30 := ⟨by decide +kernel, rfl⟩
theorem d_X_drawn_30 : dd m_X_drawn 30 (.getfield 24) 3 33 := ⟨by decide +kernel, rfl⟩
theorem d_X_drawn_33 : dd m_X_drawn 33 (.invokevirtual 116) 3 36 := ⟨by decide +kernel, rfl⟩
theorem d_X_drawn_36 : dd m_X_drawn 36 (.iload_n 2) 1 37 := ⟨by decide +kernel, rfl⟩
theorem d_X_drawn_37 : dd m_X_drawn 37 (.istore_n 3) 1 38 := ⟨by decide +kernel, rfl⟩
theorem d_X_drawn_38 : dd m_X_drawn 38 (.iconst 0) 1 39 := ⟨by decide +kernel, rfl⟩
theorem d_X_drawn_39 : dd m_X_drawn 39 (.istore 4) 2 41 := ⟨by decide +kernel, rfl⟩
theorem d_X_drawn_41 : dd m_X_drawn 41 (.iload 4) 2 43 := ⟨by decide +kernel, rfl⟩
theorem d_X_drawn_43 : dd m_X_drawn 43 (.iload_n 1) 1 44 := ⟨by decide +kernel, rfl⟩
theorem d_X_drawn_44 : db m_X_drawn 44 (.if_icmp .ge) 47 116 := ⟨72, by decide +kernel, rfl, rfl⟩
theorem d_X_drawn_47 : dd m_X_drawn 47 (.iload_n 3) 1 48 := ⟨by decide +kernel, rfl⟩
theorem d_X_drawn_48 : dd m_X_drawn 48 (.invokestatic 229) 3 51 := ⟨by decide +kernel, rfl⟩
theorem d_X_drawn_51 : dd m_X_drawn 51 (.istore_n 3) 1 52 := ⟨by decide +kernel, rfl⟩
theorem d_X_drawn_52 : dd m_X_drawn 52 (.iload_n 3) 1 53 := ⟨by decide +kernel, rfl⟩
theorem d_X_drawn_53 : dd m_X_drawn 53 (.bipush 6) 2 55 := ⟨by decide +kernel, rfl⟩
theorem d_X_drawn_55 : dd m_X_drawn 55 (.invokestatic 232) 3 58 := ⟨by decide +kernel, rfl⟩
theorem d_X_drawn_58 : dd m_X_drawn 58 (.istore 5) 2 60 := ⟨by decide +kernel, rfl⟩
theorem d_X_drawn_60 : dd m_X_drawn 60 (.iload_n 3) 1 61 := ⟨by decide +kernel, rfl⟩
theorem d_X_drawn_61 : dd m_X_drawn 61 (.invokestatic 229) 3 64 := ⟨by decide +kernel, rfl⟩
theorem d_X_drawn_64 : dd m_X_drawn 64 (.istore_n 3) 1 65 := ⟨by decide +kernel, rfl⟩
theorem d_X_drawn_65 : dd m_X_drawn 65 (.iload_n 3) 1 66 := ⟨by decide +kernel, rfl⟩
theorem d_X_drawn_66 : dd m_X_drawn 66 (.aload_n 0) 1 67 := ⟨by decide +kernel, rfl⟩
theorem d_X_drawn_67 : dd m_X_drawn 67 (.getfield 24) 3 70 := ⟨by decide +kernel, rfl⟩
theorem d_X_drawn_70 : dd m_X_drawn 70 (.getfield 99) 3 73 := ⟨by decide +kernel, rfl⟩
theorem d_X_drawn_73 : dd m_X_drawn 73 (.invokestatic 232) 3 76 := ⟨by decide +kernel, rfl⟩
theorem d_X_drawn_76 : dd m_X_drawn 76 (.istore 6) 2 78 := ⟨by decide +kernel, rfl⟩
theorem d_X_drawn_78 : dd m_X_drawn 78 (.iload_n 3) 1 79 := ⟨by decide +kernel, rfl⟩
theorem d_X_drawn_79 : dd m_X_drawn 79 (.invokestatic 229) 3 82 := ⟨by decide +kernel, rfl⟩
theorem d_X_drawn_82 : dd m_X_drawn 82 (.istore_n 3) 1 83 := ⟨by decide +kernel, rfl⟩
theorem d_X_drawn_83 : dd m_X_drawn 83 (.aload_n 0) 1 84 := ⟨by decide +kernel, rfl⟩
theorem d_X_drawn_84 : dd m_X_drawn 84 (.getfield 24) 3 87 := ⟨by decide +kernel, rfl⟩
theorem d_X_drawn_87 : dd m_X_drawn 87 (.getfield 112) 3 90 := ⟨by decide +kernel, rfl⟩
theorem d_X_drawn_90 : dd m_X_drawn 90 (.iload 5) 2 92 := ⟨by decide +kernel, rfl⟩
theorem d_X_drawn_92 : dd m_X_drawn 92 .aaload 1 93 := ⟨by decide +kernel, rfl⟩
theorem d_X_drawn_93 : dd m_X_drawn 93 (.iload 6) 2 95 := ⟨by decide +kernel, rfl⟩
theorem d_X_drawn_95 : dd m_X_drawn 95 (.iload_n 3) 1 96 := ⟨by decide +kernel, rfl⟩
theorem d_X_drawn_96 : dd m_X_drawn 96 (.bipush 19) 2 98 := ⟨by decide +kernel, rfl⟩
theorem d_X_drawn_98 : dd m_X_drawn 98 (.invokestatic 232) 3 101 := ⟨by decide +kernel, rfl⟩
theorem d_X_drawn_101 : dd m_X_drawn 101 (.bipush 9) 2 103 := ⟨by decide +kernel, rfl⟩
theorem d_X_drawn_103 : dd m_X_drawn 103 .isub 1 104 := ⟨by decide +kernel, rfl⟩
theorem d_X_drawn_104 : dd m_X_drawn 104 (.ldc 119) 2 106 := ⟨by decide +kernel, rfl⟩
theorem d_X_drawn_106 : dd m_X_drawn 106 (.invokestatic 120) 3 109 := ⟨by decide +kernel, rfl⟩
theorem d_X_drawn_109 : dd m_X_drawn 109 .iastore 1 110 := ⟨by decide +kernel, rfl⟩
theorem d_X_drawn_110 : dd m_X_drawn 110 (.iinc 4 1) 3 113 := ⟨by decide +kernel, rfl⟩
theorem d_X_drawn_113 : db m_X_drawn 113 .goto 116 41 := ⟨(-72), by decide +kernel, rfl, rfl⟩
theorem d_X_drawn_116 : dd m_X_drawn 116 (.aload_n 0) 1 117 := ⟨by decide +kernel, rfl⟩
theorem d_X_drawn_117 : dd m_X_drawn 117 (.getfield 24) 3 120 := ⟨by decide +kernel, rfl⟩
theorem d_X_drawn_120 : dd m_X_drawn 120 (.invokevirtual 235) 3 123 := ⟨by decide +kernel, rfl⟩
theorem d_X_drawn_123 : decode (mbt m_X_drawn) 123 = .ok (.ireturn, 1) := by decide +kernel
theorem d_X_nextSeed_0 : dd m_X_nextSeed 0 (.iload_n 0) 1 1 := ⟨by decide +kernel, rfl⟩
theorem d_X_nextSeed_1 : dd m_X_nextSeed 1 (.ldc 251) 2 3 := ⟨by decide +kernel, rfl⟩
theorem d_X_nextSeed_3 : dd m_X_nextSeed 3 .imul 1 4 := ⟨by decide +kernel, rfl⟩
theorem d_X_nextSeed_4 : dd m_X_nextSeed 4 (.sipush 12345) 3 7 := ⟨by decide +kernel, rfl⟩
theorem d_X_nextSeed_7 : dd m_X_nextSeed 7 .iadd 1 8 := ⟨by decide +kernel, rfl⟩
theorem d_X_nextSeed_8 : decode (mbt m_X_nextSeed) 8 = .ok (.ireturn, 1) := by decide +kernel
theorem d_X_drawOf_0 : dd m_X_drawOf 0 (.iload_n 1) 1 1 := ⟨by decide +kernel, rfl⟩
theorem d_X_drawOf_1 : db m_X_drawOf 1 (.ifCond .le) 4 13 := ⟨12, by decide +kernel, rfl, rfl⟩
theorem d_X_drawOf_4 : dd m_X_drawOf 4 (.iload_n 0) 1 5 := ⟨by decide +kernel, rfl⟩
theorem d_X_drawOf_5 : dd m_X_drawOf 5 (.bipush 8) 2 7 := ⟨by decide +kernel, rfl⟩
theorem d_X_drawOf_7 : dd m_X_drawOf 7 .iushr 1 8 := ⟨by decide +kernel, rfl⟩
theorem d_X_drawOf_8 : dd m_X_drawOf 8 (.iload_n 1) 1 9 := ⟨by decide +kernel, rfl⟩
theorem d_X_drawOf_9 : dd m_X_drawOf 9 .irem 1 10 := ⟨by decide +kernel, rfl⟩
theorem d_X_drawOf_10 : db m_X_drawOf 10 .goto 13 14 := ⟨4, by decide +kernel, rfl, rfl⟩
theorem d_X_drawOf_13 : dd m_X_drawOf 13 (.iconst 0) 1 14 := ⟨by decide +kernel, rfl⟩
theorem d_X_drawOf_14 : decode (mbt m_X_drawOf) 14 = .ok (.ireturn, 1) := by decide +kernel
theorem d_X_undo_0 : dd m_X_undo 0 (.aload_n 0) 1 1 := ⟨by decide +kernel, rfl⟩
theorem d_X_undo_1 : dd m_X_undo 1 (.getfield 31) 3 4 := ⟨by decide +kernel, rfl⟩
theorem d_X_undo_4 : dd m_X_undo 4 (.getfield 102) 3 7 := ⟨by decide +kernel, rfl⟩
theorem d_X_undo_7 : db m_X_undo 7 (.ifCond .ne) 10 12 := ⟨5, by decide +kernel, rfl, rfl⟩
theorem d_X_undo_10 : dd m_X_undo 10 (.iconst (-1)) 1 11 := ⟨by decide +kernel, rfl⟩
theorem d_X_undo_11 : decode (mbt m_X_undo) 11 = .ok (.ireturn, 1) := by decide +kernel
theorem d_X_undo_12 : dd m_X_undo 12 (.aload_n 0) 1 13 := ⟨by decide +kernel, rfl⟩
theorem d_X_undo_13 : dd m_X_undo 13 (.getfield 31) 3 16 := ⟨by decide +kernel, rfl⟩
theorem d_X_undo_16 : dd m_X_undo 16 (.aload_n 0) 1 17 := ⟨by decide +kernel, rfl⟩
theorem d_X_undo_17 : dd m_X_undo 17 (.getfield 24) 3 20 := ⟨by decide +kernel, rfl⟩
theorem d_X_undo_20 : dd m_X_undo 20 (.invokevirtual 239) 3 23 := ⟨by decide +kernel, rfl⟩
theorem d_X_undo_23 : dd m_X_undo 23 (.aload_n 0) 1 24 := ⟨by decide +kernel, rfl⟩
theorem d_X_undo_24 : dd m_X_undo 24 (.getfield 31) 3 27 := ⟨by decide +kernel, rfl⟩
theorem d_X_undo_27 : dd m_X_undo 27 (.getfield 102) 3 30 := ⟨by decide +kernel, rfl⟩
theorem d_X_undo_30 : decode (mbt m_X_undo) 30 = .ok (.ireturn, 1) := by decide +kernel
theorem d_X_image_0 : dd m_X_image 0 (.iload_n 1) 1 1 := ⟨by decide +kernel, rfl⟩
theorem d_X_image_1 : db m_X_image 1 (.ifCond .lt) 4 9 := ⟨8, by decide +kernel, rfl, rfl⟩
theorem d_X_image_4 : dd m_X_image 4 (.iload_n 1) 1 5 := ⟨by decide +kernel, rfl⟩
theorem d_X_image_5 : dd m_X_image 5 (.iconst 2) 1 6 := ⟨by decide +kernel, rfl⟩
theorem d_X_image_6 : db m_X_image 6 (.if_icmp .lt) 9 11 := ⟨5, by decide +kernel, rfl, rfl⟩
theorem d_X_image_9 : dd m_X_image 9 (.iconst 0) 1 10 := ⟨by decide +kernel, rfl⟩
theorem d_X_image_10 : decode (mbt m_X_image) 10 = .ok (.ireturn, 1) := by decide +kernel
theorem d_X_image_11 : dd m_X_image 11 (.aload_n 0) 1 12 := ⟨by decide +kernel, rfl⟩
theorem d_X_image_12 : dd m_X_image 12 (.getfield 35) 3 15 := ⟨by decide +kernel, rfl⟩
theorem d_X_image_15 : dd m_X_image 15 (.iload_n 1) 1 16 := ⟨by decide +kernel, rfl⟩
theorem d_X_image_16 : dd m_X_image 16 .aaload 1 17 := ⟨by decide +kernel, rfl⟩
theorem d_X_image_17 : dd m_X_image 17 (.aload_n 0) 1 18 := ⟨by decide +kernel, rfl⟩
theorem d_X_image_18 : dd m_X_image 18 (.getfield 24) 3 21 := ⟨by decide +kernel, rfl⟩
theorem d_X_image_21 : dd m_X_image 21 (.invokevirtual 81) 3 24 := ⟨by decide +kernel, rfl⟩
theorem d_X_image_24 : dd m_X_image 24 (.aload_n 0) 1 25 := ⟨by decide +kernel, rfl⟩
theorem d_X_image_25 : dd m_X_image 25 (.getfield 39) 3 28 := ⟨by decide +kernel, rfl⟩
theorem d_X_image_28 : dd m_X_image 28 (.iload_n 1) 1 29 := ⟨by decide +kernel, rfl⟩
theorem d_X_image_29 : dd m_X_image 29 (.iconst 1) 1 30 := ⟨by decide +kernel, rfl⟩
theorem d_X_image_30 : dd m_X_image 30 .bastore 1 31 := ⟨by decide +kernel, rfl⟩
theorem d_X_image_31 : dd m_X_image 31 (.iconst 1) 1 32 := ⟨by decide +kernel, rfl⟩
theorem d_X_image_32 : decode (mbt m_X_image) 32 = .ok (.ireturn, 1) := by decide +kernel
theorem d_X_restore_0 : dd m_X_restore 0 (.iload_n 1) 1 1 := ⟨by decide +kernel, rfl⟩
theorem d_X_restore_1 : db m_X_restore 1 (.ifCond .lt) 4 18 := ⟨17, by decide +kernel, rfl, rfl⟩
theorem d_X_restore_4 : dd m_X_restore 4 (.iload_n 1) 1 5 := ⟨by decide +kernel, rfl⟩
theorem d_X_restore_5 : dd m_X_restore 5 (.iconst 2) 1 6 := ⟨by decide +kernel, rfl⟩
theorem d_X_restore_6 : db m_X_restore 6 (.if_icmp .ge) 9 18 := ⟨12, by decide +kernel, rfl, rfl⟩
theorem d_X_restore_9 : dd m_X_restore 9 (.aload_n 0) 1 10 := ⟨by decide +kernel, rfl⟩
theorem d_X_restore_10 : dd m_X_restore 10 (.getfield 39) 3 13 := ⟨by decide +kernel, rfl⟩
theorem d_X_restore_13 : dd m_X_restore 13 (.iload_n 1) 1 14 := ⟨by decide +kernel, rfl⟩
theorem d_X_restore_14 : dd m_X_restore 14 .baload 1 15 := ⟨by decide +kernel, rfl⟩
theorem d_X_restore_15 : db m_X_restore 15 (.ifCond .ne) 18 20 := ⟨5, by decide +kernel, rfl, rfl⟩
theorem d_X_restore_18 : dd m_X_restore 18 (.iconst 0) 1 19 := ⟨by decide +kernel, rfl⟩
theorem d_X_restore_19 : decode (mbt m_X_restore) 19 = .ok (.ireturn, 1) := by decide +kernel
theorem d_X_restore_20 : dd m_X_restore 20 (.aload_n 0) 1 21 := ⟨by decide +kernel, rfl⟩
theorem d_X_restore_21 : dd m_X_restore 21 (.getfield 24) 3 24 := ⟨by decide +kernel, rfl⟩
theorem d_X_restore_24 : dd m_X_restore 24 (.aload_n 0) 1 25 := ⟨by decide +kernel, rfl⟩
theorem d_X_restore_25 : dd m_X_restore 25 (.getfield 35) 3 28 := ⟨by decide +kernel, rfl⟩
theorem d_X_restore_28 : dd m_X_restore 28 (.iload_n 1) 1 29 := ⟨by decide +kernel, rfl⟩
theorem d_X_restore_29 : dd m_X_restore 29 .aaload 1 30 := ⟨by decide +kernel, rfl⟩
theorem d_X_restore_30 : dd m_X_restore 30 (.invokevirtual 81) 3 33 := ⟨by decide +kernel, rfl⟩
theorem d_X_restore_33 : dd m_X_restore 33 (.aload_n 0) 1 34 := ⟨by decide +kernel, rfl⟩
theorem d_X_restore_34 : dd m_X_restore 34 (.getfield 31) 3 37 := ⟨by decide +kernel, rfl⟩
theorem d_X_restore_37 : dd m_X_restore 37 (.invokevirtual 93) 3 40 := ⟨by decide +kernel, rfl⟩
theorem d_X_restore_40 : dd m_X_restore 40 (.iconst 1) 1 41 := ⟨by decide +kernel, rfl⟩
theorem d_X_restore_41 : decode (mbt m_X_restore) 41 = .ok (.ireturn, 1) := by decide +kernel
theorem d_X_entry_0 : dd m_X_entry 0 (.aload_n 0) 1 1 := ⟨by decide +kernel, rfl⟩
theorem d_X_entry_1 : dd m_X_entry 1 (.iload_n 1) 1 2 := ⟨by decide +kernel, rfl⟩
theorem d_X_entry_2 : dd m_X_entry 2 (.invokevirtual 146) 3 5 := ⟨by decide +kernel, rfl⟩
theorem d_X_entry_5 : db m_X_entry 5 (.ifCond .eq) 8 24 := ⟨19, by decide +kernel, rfl, rfl⟩
theorem d_X_entry_8 : dd m_X_entry 8 (.aload_n 0) 1 9 := ⟨by decide +kernel, rfl⟩
theorem d_X_entry_9 : dd m_X_entry 9 (.iload_n 2) 1 10 := ⟨by decide +kernel, rfl⟩
theorem d_X_entry_10 : dd m_X_entry 10 (.invokevirtual 109) 3 13 := ⟨by decide +kernel, rfl⟩
theorem d_X_entry_13 : db m_X_entry 13 (.ifCond .eq) 16 24 := ⟨11, by decide +kernel, rfl, rfl⟩
theorem d_X_entry_16 : dd m_X_entry 16 (.aload_n 0) 1 17 := ⟨by decide +kernel, rfl⟩
theorem d_X_entry_17 : dd m_X_entry 17 (.iload_n 3) 1 18 := ⟨by decide +kernel, rfl⟩
theorem d_X_entry_18 : dd m_X_entry 18 (.invokevirtual 109) 3 21 := ⟨by decide +kernel, rfl⟩
theorem d_X_entry_21 : db m_X_entry 21 (.ifCond .ne) 24 32 := ⟨11, by decide +kernel, rfl, rfl⟩
theorem d_X_entry_24 : dd m_X_entry 24 (.new 168) 3 27 := ⟨by decide +kernel, rfl⟩
theorem d_X_entry_27 : dd m_X_entry 27 .dup 1 28 := ⟨by decide +kernel, rfl⟩
theorem d_X_entry_28 : dd m_X_entry 28 (.invokespecial 170) 3 31 := ⟨by decide +kernel, rfl⟩
theorem d_X_entry_31 : dd m_X_entry 31 .athrow 1 32 := ⟨by decide +kernel, rfl⟩
theorem d_X_entry_32 : dd m_X_entry 32 (.aload_n 0) 1 33 := ⟨by decide +kernel, rfl⟩
theorem d_X_entry_33 : dd m_X_entry 33 (.getfield 53) 3 36 := ⟨by decide +kernel, rfl⟩
theorem d_X_entry_36 : dd m_X_entry 36 (.aload_n 0) 1 37 := ⟨by decide +kernel, rfl⟩
theorem d_X_entry_37 : dd m_X_entry 37 (.getfield 24) 3 40 := ⟨by decide +kernel, rfl⟩
theorem d_X_entry_40 : dd m_X_entry 40 (.getfield 171) 3 43 := ⟨by decide +kernel, rfl⟩
theorem d_X_entry_43 : dd m_X_entry 43 (.iload_n 1) 1 44 := ⟨by decide +kernel, rfl⟩
theorem d_X_entry_44 : dd m_X_entry 44 .aaload 1 45 := ⟨by decide +kernel, rfl⟩
theorem d_X_entry_45 : dd m_X_entry 45 (.iload_n 2) 1 46 := ⟨by decide +kernel, rfl⟩
theorem d_X_entry_46 : dd m_X_entry 46 (.iload_n 3) 1 47 := ⟨by decide +kernel, rfl⟩
theorem d_X_entry_47 : dd m_X_entry 47 (.aload_n 0) 1 48 := ⟨by decide +kernel, rfl⟩
theorem d_X_entry_48 : dd m_X_entry 48 (.getfield 24) 3 51 := ⟨by decide +kernel, rfl⟩
theorem d_X_entry_51 : dd m_X_entry 51 (.getfield 99) 3 54 := ⟨by decide +kernel, rfl⟩
theorem d_X_entry_54 : dd m_X_entry 54 (.invokevirtual 175) 3 57 := ⟨by decide +kernel, rfl⟩
theorem d_X_entry_57 : decode (mbt m_X_entry) 57 = .ok (.ireturn, 1) := by decide +kernel
theorem d_X_production_0 : dd m_X_production 0 (.aload_n 0) 1 1 := ⟨by decide +kernel, rfl⟩
theorem d_X_production_1 : dd m_X_production 1 (.iload_n 1) 1 2 := ⟨by decide +kernel, rfl⟩
theorem d_X_production_2 : dd m_X_production 2 (.invokevirtual 146) 3 5 := ⟨by decide +kernel, rfl⟩
theorem d_X_production_5 : db m_X_production 5 (.ifCond .eq) 8 24 := ⟨19, by decide +kernel, rfl, rfl⟩
theorem d_X_production_8 : dd m_X_production 8 (.aload_n 0) 1 9 := ⟨by decide +kernel, rfl⟩
theorem d_X_production_9 : dd m_X_production 9 (.iload_n 2) 1 10 := ⟨by decide +kernel, rfl⟩
theorem d_X_production_10 : dd m_X_production 10 (.invokevirtual 201) 3 13 := ⟨by decide +kernel, rfl⟩
theorem d_X_production_13 : db m_X_production 13 (.ifCond .eq) 16 24 := ⟨11, by decide +kernel, rfl, rfl⟩
theorem d_X_production_16 : dd m_X_production 16 (.aload_n 0) 1 17 := ⟨by decide +kernel, rfl⟩
theorem d_X_production_17 : dd m_X_production 17 (.iload_n 3) 1 18 := ⟨by decide +kernel, rfl⟩
theorem d_X_production_18 : dd m_X_production 18 (.invokevirtual 201) 3 21 := ⟨by decide +kernel, rfl⟩
theorem d_X_production_21 : db m_X_production 21 (.ifCond .ne) 24 32 := ⟨11, by decide +kernel, rfl, rfl⟩
theorem d_X_production_24 : dd m_X_production 24 (.new 168) 3 27 := ⟨by decide +kernel, rfl⟩
theorem d_X_production_27 : dd m_X_production 27 .dup 1 28 := ⟨by decide +kernel, rfl⟩
theorem d_X_production_28 : dd m_X_production 28 (.invokespecial 170) 3 31 := ⟨by decide +kernel, rfl⟩
theorem d_X_production_31 : dd m_X_production 31 .athrow 1 32 := ⟨by decide +kernel, rfl⟩
theorem d_X_production_32 : dd m_X_production 32 (.aload_n 0) 1 33 := ⟨by decide +kernel, rfl⟩
theorem d_X_production_33 : dd m_X_production 33 (.getfield 53) 3 36 := ⟨by decide +kernel, rfl⟩
theorem d_X_production_36 : dd m_X_production 36 (.aload_n 0) 1 37 := ⟨by decide +kernel, rfl⟩
theorem d_X_production_37 : dd m_X_production 37 (.getfield 24) 3 40 := ⟨by decide +kernel, rfl⟩
theorem d_X_production_40 : dd m_X_production 40 (.getfield 171) 3 43 := ⟨by decide +kernel, rfl⟩
theorem d_X_production_43 : dd m_X_production 43 (.iload_n 1) 1 44 := ⟨by decide +kernel, rfl⟩
theorem d_X_production_44 : dd m_X_production 44 .aaload 1 45 := ⟨by decide +kernel, rfl⟩
theorem d_X_production_45 : dd m_X_production 45 (.iload_n 2) 1 46 := ⟨by decide +kernel, rfl⟩
theorem d_X_production_46 : dd m_X_production 46 (.iload_n 3) 1 47 := ⟨by decide +kernel, rfl⟩
theorem d_X_production_47 : dd m_X_production 47 (.aload_n 0) 1 48 := ⟨by decide +kernel, rfl⟩
theorem d_X_production_48 : dd m_X_production 48 (.getfield 24) 3 51 := ⟨by decide +kernel, rfl⟩
theorem d_X_production_51 : dd m_X_production 51 (.getfield 99) 3 54 := ⟨by decide +kernel, rfl⟩
theorem d_X_production_54 : dd m_X_production 54 (.invokevirtual 204) 3 57 := ⟨by decide +kernel, rfl⟩
theorem d_X_production_57 : decode (mbt m_X_production) 57 = .ok (.ireturn, 1) := by decide +kernel
theorem d_X_isWithinProduction_0 : dd m_X_isWithinProduction 0 (.iload_n 1) 1 1 := ⟨by decide +kernel, rfl⟩
theorem d_X_isWithinProduction_1 : db m_X_isWithinProduction 1 (.ifCond .lt) 4 21 := ⟨20, by decide +kernel, rfl, rfl⟩
theorem d_X_isWithinProduction_4 : dd m_X_isWithinProduction 4 (.iload_n 1) 1 5 := ⟨by decide +kernel, rfl⟩
theorem d_X_isWithinProduction_5 : dd m_X_isWithinProduction 5 (.aload_n 0) 1 6 := ⟨by decide +kernel, rfl⟩
theorem d_X_isWithinProduction_6 : dd m_X_isWithinProduction 6 (.getfield 24) 3 9 := ⟨by decide +kernel, rfl⟩
theorem d_X_isWithinProduction_9 : dd m_X_isWithinProduction 9 (.getfield 99) 3 12 := ⟨by decide +kernel, rfl⟩
theorem d_X_isWithinProduction_12 : dd m_X_isWithinProduction 12 (.iconst 1) 1 13 := ⟨by decide +kernel, rfl⟩
theorem d_X_isWithinProduction_13 : dd m_X_isWithinProduction 13 .isub 1 14 := ⟨by decide +kernel, rfl⟩
theorem d_X_isWithinProduction_14 : db m_X_isWithinProduction 14 (.if_icmp .ge) 17 21 := ⟨7, by decide +kernel, rfl, rfl⟩
theorem d_X_isWithinProduction_17 : dd m_X_isWithinProduction 17 (.iconst 1) 1 18 := ⟨by decide +kernel, rfl⟩
theorem d_X_isWithinProduction_18 : db m_X_isWithinProduction 18 .goto 21 22 := ⟨4, by decide +kernel, rfl, rfl⟩
theorem d_X_isWithinProduction_21 : dd m_X_isWithinProduction 21 (.iconst 0) 1 22 := ⟨by decide +kernel, rfl⟩
theorem d_X_isWithinProduction_22 : decode (mbt m_X_isWithinProduction) 22 = .ok (.ireturn, 1) := by decide +kernel
end
section
theorem d_Md_thrown_0 : dd m_Md_thrown 0 (.aload_n 0) 1 1 := ⟨by decide +kernel, rfl⟩
theorem d_Md_thrown_1 : dd m_Md_thrown 1 (.getfield 1) 3 4 := ⟨by decide +kernel, rfl⟩
theorem d_Md_thrown_4 : decode (mbt m_Md_thrown) 4 = .ok (.ireturn, 1) := by decide +kernel
theorem d_Md_feed_0 : dd m_Md_feed 0 (.aload_n 0) 1 1 := ⟨by decide +kernel, rfl⟩
theorem d_Md_feed_1 : dd m_Md_feed 1 (.iconst 0) 1 2 := ⟨by decide +kernel, rfl⟩
theorem d_Md_feed_2 : dd m_Md_feed 2 (.putfield 1) 3 5 := ⟨by decide +kernel, rfl⟩
theorem d_Md_feed_5 : dd m_Md_feed 5 (.aload_n 0) 1 6 := ⟨by decide +kernel, rfl⟩
theorem d_Md_feed_6 : dd m_Md_feed 6 (.getfield 11) 3 9 := ⟨by decide +kernel, rfl⟩
theorem d_Md_feed_9 : dd m_Md_feed 9 (.bipush 20) 2 11 := ⟨by decide +kernel, rfl⟩
theorem d_Md_feed_11 : dd m_Md_feed 11 .iadd 1 12 := ⟨by decide +kernel, rfl⟩
theorem d_Md_feed_12 : dd m_Md_feed 12 (.sipush 540) 3 15 := ⟨by decide +kernel, rfl⟩
theorem d_Md_feed_15 : db m_Md_feed 15 (.if_icmp .le) 18 20 := ⟨5, by decide +kernel, rfl, rfl⟩
theorem d_Md_feed_18 : dd m_Md_feed 18 (.iconst (-1)) 1 19 := ⟨by decide +kernel, rfl⟩
theorem d_Md_feed_19 : decode (mbt m_Md_feed) 19 = .ok (.ireturn, 1) := by decide +kernel
theorem d_Md_feed_20 : dd m_Md_feed 20 (.aload_n 0) 1 21 := ⟨by decide +kernel, rfl⟩
theorem d_Md_feed_21 : dd m_Md_feed 21 (.iload_n 1) 1 22 := ⟨by decide +kernel, rfl⟩
theorem d_Md_feed_22 : dd m_Md_feed 22 (.invokevirtual 14) 3 25 := ⟨by decide +kernel, rfl⟩
theorem d_Md_feed_25 : dd m_Md_feed 25 (.aload_n 0) 1 26 := ⟨by decide +kernel, rfl⟩
theorem d_Md_feed_26 : dd m_Md_feed 26 (.iload_n 2) 1 27 := ⟨by decide +kernel, rfl⟩
theorem d_Md_feed_27 : dd m_Md_feed 27 (.invokevirtual 14) 3 30 := ⟨by decide +kernel, rfl⟩
theorem d_Md_feed_30 : dd m_Md_feed 30 (.aload_n 0) 1 31 := ⟨by decide +kernel, rfl⟩
theorem d_Md_feed_31 : dd m_Md_feed 31 (.iload_n 3) 1 32 := ⟨by decide +kernel, rfl⟩
theorem d_Md_feed_32 : dd m_Md_feed 32 (.invokevirtual 14) 3 35 := ⟨by decide +kernel, rfl⟩
theorem d_Md_feed_35 : dd m_Md_feed 35 (.aload_n 0) 1 36 := ⟨by decide +kernel, rfl⟩
theorem d_Md_feed_36 : dd m_Md_feed 36 (.iload 4) 2 38 := ⟨by decide +kernel, rfl⟩
theorem d_Md_feed_38 : dd m_Md_feed 38 (.invokevirtual 14) 3 41 := ⟨by decide +kernel, rfl⟩
theorem d_Md_feed_41 : dd m_Md_feed 41 (.aload_n 0) 1 42 := ⟨by decide +kernel, rfl⟩
theorem d_Md_feed_42 : dd m_Md_feed 42 (.iload 5) 2 44 := ⟨by decide +kernel, rfl⟩
theorem d_Md_feed_44 : dd m_Md_feed 44 (.invokevirtual 14) 3 47 := ⟨by decide +kernel, rfl⟩
theorem d_Md_feed_47 : dd m_Md_feed 47 (.aload_n 0) 1 48 := ⟨by decide +kernel, rfl⟩
theorem d_Md_feed_48 : dd m_Md_feed 48 (.getfield 11) 3 51 := ⟨by decide +kernel, rfl⟩
theorem d_Md_feed_51 : decode (mbt m_Md_feed) 51 = .ok (.ireturn, 1) := by decide +kernel
theorem d_Md_lays_0 : dd m_Md_lays 0 (.bipush 24) 2 2 := ⟨by decide +kernel, rfl⟩
theorem d_Md_lays_2 : dd m_Md_lays 2 (.istore_n 2) 1 3 := ⟨by decide +kernel, rfl⟩
theorem d_Md_lays_3 : dd m_Md_lays 3 (.iload_n 2) 1 4 := ⟨by decide +kernel, rfl⟩
theorem d_Md_lays_4 : db m_Md_lays 4 (.ifCond .lt) 7 39 := ⟨35, by decide +kernel, rfl, rfl⟩
theorem d_Md_lays_7 : dd m_Md_lays 7 (.aload_n 0) 1 8 := ⟨by decide +kernel, rfl⟩
theorem d_Md_lays_8 : dd m_Md_lays 8 (.getfield 7) 3 11 := ⟨by decide +kernel, rfl⟩
theorem d_Md_lays_11 : dd m_Md_lays 11 (.aload_n 0) 1 12 := ⟨by decide +kernel, rfl⟩
theorem d_Md_lays_12 : dd m_Md_lays 12 (.getfield 11) 3 15 := ⟨by decide +kernel, rfl⟩
theorem d_Md_lays_15 : dd m_Md_lays 15 (.iload_n 1) 1 16 := ⟨by decide +kernel, rfl⟩
theorem d_Md_lays_16 : dd m_Md_lays 16 (.iload_n 2) 1 17 := ⟨by decide +kernel, rfl⟩
theorem d_Md_lays_17 : dd m_Md_lays 17 .iushr 1 18 := ⟨by decide +kernel, rfl⟩
theorem d_Md_lays_18 : dd m_Md_lays 18 (.sipush 255) 3 21 := ⟨by decide +kernel, rfl⟩
theorem d_Md_lays_21 : dd m_Md_lays 21 .iand 1 22 := ⟨by decide +kernel, rfl⟩
theorem d_Md_lays_22 : dd m_Md_lays 22 .iastore 1 23 := ⟨by decide +kernel, rfl⟩
theorem d_Md_lays_23 : dd m_Md_lays 23 (.aload_n 0) 1 24 := ⟨by decide +kernel, rfl⟩
theorem d_Md_lays_24 : dd m_Md_lays 24 .dup 1 25 := ⟨by decide +kernel, rfl⟩
theorem d_Md_lays_25 : dd m_Md_lays 25 (.getfield 11) 3 28 := ⟨by decide +kernel, rfl⟩
theorem d_Md_lays_28 : dd m_Md_lays 28 (.iconst 1) 1 29 := ⟨by decide +kernel, rfl⟩
theorem d_Md_lays_29 : dd m_Md_lays 29 .iadd 1 30 := ⟨by decide +kernel, rfl⟩
theorem d_Md_lays_30 : dd m_Md_lays 30 (.putfield 11) 3 33 := ⟨by decide +kernel, rfl⟩
theorem d_Md_lays_33 : dd m_Md_lays 33 (.iinc 2 (-8)) 3 36 := ⟨by decide +kernel, rfl⟩
theorem d_Md_lays_36 : db m_Md_lays 36 .goto 39 3 := ⟨(-33), by decide +kernel, rfl, rfl⟩
theorem d_Md_lays_39 : decode (mbt m_Md_lays) 39 = .ok (.return_, 1) := by decide +kernel
theorem d_Md_end_0 : dd m_Md_end 0 (.aload_n 0) 1 1 := ⟨by decide +kernel, rfl⟩
theorem d_Md_end_1 : dd m_Md_end 1 (.iconst 0) 1 2 := ⟨by decide +kernel, rfl⟩
theorem d_Md_end_2 : dd m_Md_end 2 (.putfield 1) 3 5 := ⟨by decide +kernel, rfl⟩
theorem d_Md_end_5 : dd m_Md_end 5 (.iload_n 1) 1 6 := ⟨by decide +kernel, rfl⟩
theorem d_Md_end_6 : db m_Md_end 6 (.ifCond .lt) 9 17 := ⟨11, by decide +kernel, rfl, rfl⟩
theorem d_Md_end_9 : dd m_Md_end 9 (.iload_n 1) 1 10 := ⟨by decide +kernel, rfl⟩
theorem d_Md_end_10 : dd m_Md_end 10 (.aload_n 0) 1 11 := ⟨by decide +kernel, rfl⟩
theorem d_Md_end_11 : dd m_Md_end 11 (.getfield 11) 3 14 := ⟨by decide +kernel, rfl⟩
theorem d_Md_end_14 : db m_Md_end 14 (.if_icmp .le) 17 19 := ⟨5, by decide +kernel, rfl, rfl⟩
theorem d_Md_end_17 : dd m_Md_end 17 (.iconst 0) 1 18 := ⟨by decide +kernel, rfl⟩
theorem d_Md_end_18 : decode (mbt m_Md_end) 18 = .ok (.ireturn, 1) := by decide +kernel
theorem d_Md_end_19 : dd m_Md_end 19 (.aload_n 0) 1 20 := ⟨by decide +kernel, rfl⟩
theorem d_Md_end_20 : dd m_Md_end 20 (.iload_n 1) 1 21 := ⟨by decide +kernel, rfl⟩
theorem d_Md_end_21 : dd m_Md_end 21 (.putfield 11) 3 24 := ⟨by decide +kernel, rfl⟩
theorem d_Md_end_24 : dd m_Md_end 24 (.iconst 1) 1 25 := ⟨by decide +kernel, rfl⟩
theorem d_Md_end_25 : decode (mbt m_Md_end) 25 = .ok (.ireturn, 1) := by decide +kernel
theorem d_Md_init_0 : dd m_Md_init 0 (.aload_n 0) 1 1 := ⟨by decide +kernel, rfl⟩
theorem d_Md_init_1 : dd m_Md_init 1 (.invokespecial 50) 3 4 := ⟨by decide +kernel, rfl⟩
theorem d_Md_init_4 : dd m_Md_init 4 (.aload_n 0) 1 5 := ⟨by decide +kernel, rfl⟩
theorem d_Md_init_5 : dd m_Md_init 5 (.sipush 540) 3 8 := ⟨by decide +kernel, rfl⟩
theorem d_Md_init_8 : dd m_Md_init 8 (.newarray .int) 2 10 := ⟨by decide +kernel, rfl⟩
theorem d_Md_init_10 : dd m_Md_init 10 (.putfield 7) 3 13 := ⟨by decide +kernel, rfl⟩
theorem d_Md_init_13 : dd m_Md_init 13 (.aload_n 0) 1 14 := ⟨by decide +kernel, rfl⟩
theorem d_Md_init_14 : dd m_Md_init 14 (.sipush 241) 3 17 := ⟨by decide +kernel, rfl⟩
theorem d_Md_init_17 : dd m_Md_init 17 (.newarray .int) 2 19 := ⟨by decide +kernel, rfl⟩
theorem d_Md_init_19 : dd m_Md_init 19 (.putfield 56) 3 22 := ⟨by decide +kernel, rfl⟩
theorem d_Md_init_22 : dd m_Md_init 22 (.aload_n 0) 1 23 := ⟨by decide +kernel, rfl⟩
theorem d_Md_init_23 : dd m_Md_init 23 (.sipush 241) 3 26 := ⟨by decide +kernel, rfl⟩
theorem d_Md_init_26 : dd m_Md_init 26 (.newarray .int) 2 28 := ⟨by decide +kernel, rfl⟩
theorem d_Md_init_28 : dd m_Md_init 28 (.putfield 59) 3 31 := ⟨by decide +kernel, rfl⟩
theorem d_Md_init_31 : dd m_Md_init 31 (.aload_n 0) 1 32 := ⟨by decide +kernel, rfl⟩
theorem d_Md_init_32 : dd m_Md_init 32 (.sipush 482) 3 35 := ⟨by decide +kernel, rfl⟩
theorem d_Md_init_35 : dd m_Md_init 35 (.newarray .int) 2 37 := ⟨by decide +kernel, rfl⟩
theorem d_Md_init_37 : dd m_Md_init 37 (.putfield 62) 3 40 := ⟨by decide +kernel, rfl⟩
theorem d_Md_init_40 : dd m_Md_init 40 (.aload_n 0) 1 41 := ⟨by decide +kernel, rfl⟩
theorem d_Md_init_41 : dd m_Md_init 41 (.sipush 1928) 3 44 := ⟨by decide +kernel, rfl⟩
theorem d_Md_init_44 : dd m_Md_init 44 (.newarray .int) 2 46 := ⟨by decide +kernel, rfl⟩
theorem d_Md_init_46 : dd m_Md_init 46 (.putfield 65) 3 49 := ⟨by decide +kernel, rfl⟩
theorem d_Md_init_49 : dd m_Md_init 49 (.aload_n 0) 1 50 := ⟨by decide +kernel, rfl⟩
theorem d_Md_init_50 : dd m_Md_init 50 (.iconst 2) 1 51 := ⟨by decide +kernel, rfl⟩
theorem d_Md_init_51 : dd m_Md_init 51 (.newarray .boolean) 2 53 := ⟨by decide +kernel, rfl⟩
theorem d_Md_init_53 : dd m_Md_init 53 (.putfield 68) 3 56 := ⟨by decide +kernel, rfl⟩
theorem d_Md_init_56 : dd m_Md_init 56 (.aload_n 0) 1 57 := ⟨by decide +kernel, rfl⟩
theorem d_Md_init_57 : dd m_Md_init 57 (.bipush 10) 2 59 := ⟨by decide +kernel, rfl⟩
theorem d_Md_init_59 : dd m_Md_init 59 (.newarray .int) 2 61 := ⟨by decide +kernel, rfl⟩
theorem d_Md_init_61 : dd m_Md_init 61 (.putfield 72) 3 64 := ⟨by decide +kernel, rfl⟩
theorem d_Md_init_64 : dd m_Md_init 64 (.aload_n 0) 1 65 := ⟨by decide +kernel, rfl⟩
theorem d_Md_init_65 : dd m_Md_init 65 (.bipush 10) 2 67 := ⟨by decide +kernel, rfl⟩
theorem d_Md_init_67 : dd m_Md_init 67 (.newarray .int) 2 69 := ⟨by decide +kernel, rfl⟩
theorem d_Md_init_69 : dd m_Md_init 69 (.putfield 75) 3 72 := ⟨by decide +kernel, rfl⟩
theorem d_Md_init_72 : dd m_Md_init 72 (.aload_n 0) 1 73 := ⟨by decide +kernel, rfl⟩
theorem d_Md_init_73 : dd m_Md_init 73 (.bipush 10) 2 75 := ⟨by decide +kernel, rfl⟩
theorem d_Md_init_75 : dd m_Md_init 75 (.newarray .int) 2 77 := ⟨by decide +kernel, rfl⟩
theorem d_Md_init_77 : dd m_Md_init 77 (.putfield 78) 3 80 := ⟨by decide +kernel, rfl⟩
theorem d_Md_init_80 : dd m_Md_init 80 (.aload_n 0) 1 81 := ⟨by decide +kernel, rfl⟩
theorem d_Md_init_81 : dd m_Md_init 81 (.bipush 10) 2 83 := ⟨by decide +kernel, rfl⟩
theorem d_Md_init_83 : dd m_Md_init 83 (.newarray .int) 2 85 := ⟨by decide +kernel, rfl⟩
theorem d_Md_init_85 : dd m_Md_init 85 (.putfield 81) 3 88 := ⟨by decide +kernel, rfl⟩
theorem d_Md_init_88 : dd m_Md_init 88 (.aload_n 0) 1 89 := ⟨by decide +kernel, rfl⟩
theorem d_Md_init_89 : dd m_Md_init 89 (.bipush 10) 2 91 := ⟨by decide +kernel, rfl⟩
theorem d_Md_init_91 : dd m_Md_init 91 (.newarray .int) 2 93 := ⟨by decide +kernel, rfl⟩
theorem d_Md_init_93 : dd m_Md_init 93 (.putfield 84) 3 96 := ⟨by decide +kernel, rfl⟩
theorem d_Md_init_96 : dd m_Md_init 96 (.aload_n 0) 1 97 := ⟨by decide +kernel, rfl⟩
theorem d_Md_init_97 : dd m_Md_init 97 (.bipush 100) 2 99 := ⟨by decide +kernel, rfl⟩
theorem d_Md_init_99 : dd m_Md_init 99 (.newarray .int) 2 101 := ⟨by decide +kernel, rfl⟩
theorem d_Md_init_101 : dd m_Md_init 101 (.putfield 87) 3 104 := ⟨by decide +kernel, rfl⟩
theorem d_Md_init_104 : dd m_Md_init 104 (.aload_n 0) 1 105 := ⟨by decide +kernel, rfl⟩
theorem d_Md_init_105 : dd m_Md_init 105 (.bipush 100) 2 107 := ⟨by decide +kernel, rfl⟩
theorem d_Md_init_107 : dd m_Md_init 107 (.newarray .int) 2 109 := ⟨by decide +kernel, rfl⟩
theorem d_Md_init_109 : dd m_Md_init 109 (.putfield 90) 3 112 := ⟨by decide +kernel, rfl⟩
theorem d_Md_init_112 : dd m_Md_init 112 (.aload_n 0) 1 113 := ⟨by decide +kernel, rfl⟩
theorem d_Md_init_113 : dd m_Md_init 113 (.bipush 100) 2 115 := ⟨by decide +kernel, rfl⟩
theorem d_Md_init_115 : dd m_Md_init 115 (.newarray .int) 2 117 := ⟨by decide +kernel, rfl⟩
theorem d_Md_init_117 : dd m_Md_init 117 (.putfield 93) 3 120 := ⟨by decide +kernel, rfl⟩
theorem d_Md_init_120 : dd m_Md_init 120 (.aload_n 0) 1 121 := ⟨by decide +kernel, rfl⟩
theorem d_Md_init_121 : dd m_Md_init 121 (.bipush 100) 2 123 := ⟨by decide +kernel, rfl⟩
theorem d_Md_init_123 : dd m_Md_init 123 (.newarray .int) 2 125 := ⟨by decide +kernel, rfl⟩
theorem d_Md_init_125 : dd m_Md_init 125 (.putfield 96) 3 128 := ⟨by decide +kernel, rfl⟩
theorem d_Md_init_128 : dd m_Md_init 128 (.aload_n 0) 1 129 := ⟨by decide +kernel, rfl⟩
theorem d_Md_init_129 : dd m_Md_init 129 (.bipush 10) 2 131 := ⟨by decide +kernel, rfl⟩
theorem d_Md_init_131 : dd m_Md_init 131 (.newarray .int) 2 133 := ⟨by decide +kernel, rfl⟩
theorem d_Md_init_133 : dd m_Md_init 133 (.putfield 99) 3 136 := ⟨by decide +kernel, rfl⟩
theorem d_Md_init_136 : decode (mbt m_Md_init) 136 = .ok (.return_, 1) := by decide +kernel
theorem d_Md_text_0 : dd m_Md_text 0 (.aload_n 0) 1 1 := ⟨by decide +kernel, rfl⟩
theorem d_Md_text_1 : dd m_Md_text 1 (.iconst 0) 1 2 := ⟨by decide +kernel, rfl⟩
theorem d_Md_text_2 : dd m_Md_text 2 (.putfield 1) 3 5 := ⟨by decide +kernel, rfl⟩
theorem d_Md_text_5 : dd m_Md_text 5 (.aload_n 0) 1 6 := ⟨by decide +kernel, rfl⟩
theorem d_Md_text_6 : dd m_Md_text 6 (.aload_n 0) 1 7 := ⟨by decide +kernel, rfl⟩
theorem d_Md_text_7 : dd m_Md_text 7 (.getfield 11) 3 10 := ⟨by decide +kernel, rfl⟩
theorem d_Md_text_10 : dd m_Md_text 10 (.putfield 18) 3 13 := ⟨by decide +kernel, rfl⟩
theorem d_Md_text_13 : dd m_Md_text 13 (.aload_n 0) 1 14 := ⟨by decide +kernel, rfl⟩
theorem d_Md_text_14 : dd m_Md_text 14 (.iconst 0) 1 15 := ⟨by decide +kernel, rfl⟩
theorem d_Md_text_15 : dd m_Md_text 15 (.putfield 11) 3 18 := ⟨by decide +kernel, rfl⟩
theorem d_Md_text_18 : dd m_Md_text 18 (.aload_n 0) 1 19 := ⟨by decide +kernel, rfl⟩
theorem d_Md_text_19 : dd m_Md_text 19 (.iconst 0) 1 20 := ⟨by decide +kernel, rfl⟩
theorem d_Md_text_20 : dd m_Md_text 20 (.putfield 44) 3 23 := ⟨by decide +kernel, rfl⟩
theorem d_Md_text_23 : dd m_Md_text 23 (.aload_n 0) 1 24 := ⟨by decide +kernel, rfl⟩
theorem d_Md_text_24 : dd m_Md_text 24 (.iconst 0) 1 25 := ⟨by decide +kernel, rfl⟩
theorem d_Md_text_25 : dd m_Md_text 25 (.putfield 21) 3 28 := ⟨by decide +kernel, rfl⟩
theorem d_Md_text_28 : dd m_Md_text 28 (.aload_n 0) 1 29 := ⟨by decide +kernel, rfl⟩
theorem d_Md_text_29 : dd m_Md_text 29 (.iconst 0) 1 30 := ⟨by decide +kernel, rfl⟩
theorem d_Md_text_30 : dd m_Md_text 30 (.putfield 122) 3 33 := ⟨by decide +kernel, rfl⟩
theorem d_Md_text_33 : dd m_Md_text 33 (.aload_n 0) 1 34 := ⟨by decide +kernel, rfl⟩
theorem d_Md_text_34 : dd m_Md_text 34 (.iconst 0) 1 35 := ⟨by decide +kernel, rfl⟩
theorem d_Md_text_35 : dd m_Md_text 35 (.putfield 137) 3 38 := ⟨by decide +kernel, rfl⟩
theorem d_Md_text_38 : dd m_Md_text 38 (.iconst 0) 1 39 := ⟨by decide +kernel, rfl⟩
theorem d_Md_text_39 : dd m_Md_text 39 (.istore_n 1) 1 40 := ⟨by decide +kernel, rfl⟩
theorem d_Md_text_40 : dd m_Md_text 40 (.iconst 0) 1 41 := ⟨by decide +kernel, rfl⟩
theorem d_Md_text_41 : dd m_Md_text 41 (.istore_n 2) 1 42 := ⟨by decide +kernel, rfl⟩
theorem d_Md_text_42 : dd m_Md_text 42 (.iload_n 2) 1 43 := ⟨by decide +kernel, rfl⟩
theorem d_Md_text_43 : dd m_Md_text 43 (.sipush 241) 3 46 := ⟨by decide +kernel, rfl⟩
theorem d_Md_text_46 : db m_Md_text 46 (.if_icmp .ge) 49 62 := ⟨16, by decide +kernel, rfl, rfl⟩
theorem d_Md_text_49 : dd m_Md_text 49 (.aload_n 0) 1 50 := ⟨by decide +kernel, rfl⟩
theorem d_Md_text_50 : dd m_Md_text 50 (.getfield 59) 3 53 := ⟨by decide +kernel, rfl⟩
theorem d_Md_text_53 : dd m_Md_text 53 (.iload_n 2) 1 54 := ⟨by decide +kernel, rfl⟩
theorem d_Md_text_54 : dd m_Md_text 54 (.iconst 0) 1 55 := ⟨by decide +kernel, rfl⟩
theorem d_Md_text_55 : dd m_Md_text 55 .iastore 1 56 := ⟨by decide +kernel, rfl⟩
theorem d_Md_text_56 : dd m_Md_text 56 (.iinc 2 1) 3 59 := ⟨by decide +kernel, rfl⟩
theorem d_Md_text_59 : db m_Md_text 59 .goto 62 42 := ⟨(-17), by decide +kernel, rfl, rfl⟩
theorem d_Md_text_62 : dd m_Md_text 62 (.iconst 0) 1 63 := ⟨by decide +kernel, rfl⟩
theorem d_Md_text_63 : dd m_Md_text 63 (.istore_n 2) 1 64 := ⟨by decide +kernel, rfl⟩
theorem d_Md_text_64 : dd m_Md_text 64 (.iload_n 2) 1 65 := ⟨by decide +kernel, rfl⟩
theorem d_Md_text_65 : dd m_Md_text 65 (.iconst 4) 1 66 := ⟨by decide +kernel, rfl⟩
theorem d_Md_text_66 : db m_Md_text 66 (.if_icmp .ge) 69 104 := ⟨38, by decide +kernel, rfl, rfl⟩
theorem d_Md_text_69 : dd m_Md_text 69 (.aload_n 0) 1 70 := ⟨by decide +kernel, rfl⟩
theorem d_Md_text_70 : dd m_Md_text 70 (.getfield 59) 3 73 := ⟨by decide +kernel, rfl⟩
theorem d_Md_text_73 : dd m_Md_text 73 (.bipush 61) 2 75 := ⟨by decide +kernel, rfl⟩
theorem d_Md_text_75 : dd m_Md_text 75 (.bipush 20) 2 77 := ⟨by decide +kernel, rfl⟩
theorem d_Md_text_77 : dd m_Md_text 77 (.iload_n 2) 1 78 := ⟨by decide +kernel, rfl⟩
theorem d_Md_text_78 : dd m_Md_text 78 .imul 1 79 := ⟨by decide +kernel, rfl⟩
theorem d_Md_text_79 : dd m_Md_text 79 .iadd 1 80 := ⟨by decide +kernel, rfl⟩
theorem d_Md_text_80 : dd m_Md_text 80 (.iconst 1) 1 81 := ⟨by decide +kernel, rfl⟩
theorem d_Md_text_81 : dd m_Md_text 81 .iastore 1 82 := ⟨by decide +kernel, rfl⟩
theorem d_Md_text_82 : dd m_Md_text 82 (.aload_n 0) 1 83 := ⟨by decide +kernel, rfl⟩
theorem d_Md_text_83 : dd m_Md_text 83 (.getfield 59) 3 86 := ⟨by decide +kernel, rfl⟩
theorem d_Md_text_86 : dd m_Md_text 86 (.bipush 61) 2 88 := ⟨by decide +kernel, rfl⟩
theorem d_Md_text_88 : dd m_Md_text 88 (.bipush 20) 2 90 := ⟨by decide +kernel, rfl⟩
theorem d_Md_text_90 : dd m_Md_text 90 (.iload_n 2) 1 91 := ⟨by decide +kernel, rfl⟩
theorem d_Md_text_91 : dd m_Md_text 91 .imul 1 92 := ⟨by decide +kernel, rfl⟩
theorem d_Md_text_92 : dd m_Md_text 92 .iadd 1 93 := ⟨by decide +kernel, rfl⟩
theorem d_Md_text_93 : dd m_Md_text 93 (.bipush 11) 2 95 := ⟨by decide +kernel, rfl⟩
theorem d_Md_text_95 : dd m_Md_text 95 .iadd 1 96 := ⟨by decide +kernel, rfl⟩
theorem d_Md_text_96 : dd m_Md_text 96 (.iconst 1) 1 97 := ⟨by decide +kernel, rfl⟩
theorem d_Md_text_97 : dd m_Md_text 97 .iastore 1 98 := ⟨by decide +kernel, rfl⟩
theorem d_Md_text_98 : dd m_Md_text 98 (.iinc 2 1) 3 101 := ⟨by decide +kernel, rfl⟩
theorem d_Md_text_101 : db m_Md_text 101 .goto 104 64 := ⟨(-37), by decide +kernel, rfl, rfl⟩
theorem d_Md_text_104 : dd m_Md_text 104 (.aload_n 0) 1 105 := ⟨by decide +kernel, rfl⟩
theorem d_Md_text_105 : dd m_Md_text 105 (.invokevirtual 112) 3 108 := ⟨by decide +kernel, rfl⟩
theorem d_Md_text_108 : dd m_Md_text 108 (.aload_n 0) 1 109 := ⟨by decide +kernel, rfl⟩
theorem d_Md_text_109 : dd m_Md_text 109 (.getfield 27) 3 112 := ⟨by decide +kernel, rfl⟩
theorem d_Md_text_112 : db m_Md_text 112 (.ifCond .eq) 115 142 := ⟨30, by decide +kernel, rfl, rfl⟩
theorem d_Md_text_115 : dd m_Md_text 115 (.aload_n 0) 1 116 := ⟨by decide +kernel, rfl⟩
theorem d_Md_text_116 : dd m_Md_text 116 (.invokevirtual 154) 3 119 := ⟨by decide +kernel, rfl⟩
theorem d_Md_text_119 : db m_Md_text 119 (.ifCond .eq) 122 129 := ⟨10, by decide +kernel, rfl, rfl⟩
theorem d_Md_text_122 : dd m_Md_text 122 (.aload_n 0) 1 123 := ⟨by decide +kernel, rfl⟩
theorem d_Md_text_123 : dd m_Md_text 123 (.invokevirtual 157) 3 126 := ⟨by decide +kernel, rfl⟩
theorem d_Md_text_126 : db m_Md_text 126 (.ifCond .ne) 129 136 := ⟨10, by decide +kernel, rfl, rfl⟩
theorem d_Md_text_129 : dd m_Md_text 129 (.iconst (-1)) 1 130 := ⟨by decide +kernel, rfl⟩
theorem d_Md_text_130 : dd m_Md_text 130 (.aload_n 0) 1 131 := ⟨by decide +kernel, rfl⟩
theorem d_Md_text_131 : dd m_Md_text 131 (.getfield 47) 3 134 := ⟨by decide +kernel, rfl⟩
theorem d_Md_text_134 : dd m_Md_text 134 .isub 1 135 := ⟨by decide +kernel, rfl⟩
theorem d_Md_text_135 : decode (mbt m_Md_text) 135 = .ok (.ireturn, 1) := by decide +kernel
theorem d_Md_text_136 : dd m_Md_text 136 (.iinc 1 1) 3 139 := ⟨by decide +kernel, rfl⟩
theorem d_Md_text_139 : db m_Md_text 139 .goto 142 108 := ⟨(-31), by decide +kernel, rfl, rfl⟩
theorem d_Md_text_142 : dd m_Md_text 142 (.aload_n 0) 1 143 := ⟨by decide +kernel, rfl⟩
theorem d_Md_text_143 : dd m_Md_text 143 (.getfield 59) 3 146 := ⟨by decide +kernel, rfl⟩
theorem d_Md_text_146 : dd m_Md_text 146 (.iconst 0) 1 147 := ⟨by decide +kernel, rfl⟩
theorem d_Md_text_147 : dd m_Md_text 147 (.aload_n 0) 1 148 := ⟨by decide +kernel, rfl⟩
theorem d_Md_text_148 : dd m_Md_text 148 (.getfield 56) 3 151 := ⟨by decide +kernel, rfl⟩
theorem d_Md_text_151 : dd m_Md_text 151 (.iconst 0) 1 152 := ⟨by decide +kernel, rfl⟩
theorem d_Md_text_152 : dd m_Md_text 152 (.invokestatic 160) 3 155 := ⟨by decide +kernel, rfl⟩
theorem d_Md_text_155 : dd m_Md_text 155 (.aload_n 0) 1 156 := ⟨by decide +kernel, rfl⟩
theorem d_Md_text_156 : dd m_Md_text 156 (.iconst 0) 1 157 := ⟨by decide +kernel, rfl⟩
theorem d_Md_text_157 : dd m_Md_text 157 (.putfield 164) 3 160 := ⟨by decide +kernel, rfl⟩
theorem d_Md_text_160 : dd m_Md_text 160 (.aload_n 0) 1 161 := ⟨by decide +kernel, rfl⟩
theorem d_Md_text_161 : dd m_Md_text 161 (.aload_n 0) 1 162 := ⟨by decide +kernel, rfl⟩
theorem d_Md_text_162 : dd m_Md_text 162 (.getfield 122) 3 165 := ⟨by decide +kernel, rfl⟩
theorem d_Md_text_165 : dd m_Md_text 165 (.putfield 167) 3 168 := ⟨by decide +kernel, rfl⟩
theorem d_Md_text_168 : dd m_Md_text 168 (.aload_n 0) 1 169 := ⟨by decide +kernel, rfl⟩
theorem d_Md_text_169 : dd m_Md_text 169 (.aload_n 0) 1 170 := ⟨by decide +kernel, rfl⟩
theorem d_Md_text_170 : dd m_Md_text 170 (.getfield 137) 3 173 := ⟨by decide +kernel, rfl⟩
theorem d_Md_text_173 : dd m_Md_text 173 (.putfield 170) 3 176 := ⟨by decide +kernel, rfl⟩
theorem d_Md_text_176 : dd m_Md_text 176 (.iload_n 1) 1 177 := ⟨by decide +kernel, rfl⟩
theorem d_Md_text_177 : decode (mbt m_Md_text) 177 = .ok (.ireturn, 1) := by decide +kernel
theorem d_Md_next_0 : dd m_Md_next 0 (.aload_n 0) 1 1 := ⟨by decide +kernel, rfl⟩
theorem d_Md_next_1 : dd m_Md_next 1 (.getfield 21) 3 4 := ⟨by decide +kernel, rfl⟩
theorem d_Md_next_4 : dd m_Md_next 4 (.aload_n 0) 1 5 := ⟨by decide +kernel, rfl⟩
theorem d_Md_next_5 : dd m_Md_next 5 (.getfield 18) 3 8 := ⟨by decide +kernel, rfl⟩
theorem d_Md_next_8 : db m_Md_next 8 (.if_icmp .ge) 11 52 := ⟨44, by decide +kernel, rfl, rfl⟩
theorem d_Md_next_11 : dd m_Md_next 11 (.aload_n 0) 1 12 := ⟨by decide +kernel, rfl⟩
theorem d_Md_next_12 : dd m_Md_next 12 (.getfield 7) 3 15 := ⟨by decide +kernel, rfl⟩
theorem d_Md_next_15 : dd m_Md_next 15 (.aload_n 0) 1 16 := ⟨by decide +kernel, rfl⟩
theorem d_Md_next_16 : dd m_Md_next 16 (.getfield 21) 3 19 := ⟨by decide +kernel, rfl⟩
theorem d_Md_next_19 : dd m_Md_next 19 .iaload 1 20 := ⟨by decide +kernel, rfl⟩
theorem d_Md_next_20 : dd m_Md_next 20 (.bipush 32) 2 22 := ⟨by decide +kernel, rfl⟩
theorem d_Md_next_22 : db m_Md_next 22 (.if_icmp .eq) 25 39 := ⟨17, by decide +kernel, rfl, rfl⟩
theorem d_Md_next_25 : dd m_Md_next 25 (.aload_n 0) 1 26 := ⟨by decide +kernel, rfl⟩
theorem d_Md_next_26 : dd m_Md_next 26 (.getfield 7) 3 29 := ⟨by decide +kernel, rfl⟩
theorem d_Md_next_29 : dd m_Md_next 29 (.aload_n 0) 1 30 := ⟨by decide +kernel, rfl⟩
theorem d_Md_next_30 : dd m_Md_next 30 (.getfield 21) 3 33 := ⟨by decide +kernel, rfl⟩
theorem d_Md_next_33 : dd m_Md_next 33 .iaload 1 34 := ⟨by decide +kernel, rfl⟩
theorem d_Md_next_34 : dd m_Md_next 34 (.bipush 10) 2 36 := ⟨by decide +kernel, rfl⟩
theorem d_Md_next_36 : db m_Md_next 36 (.if_icmp .ne) 39 52 := ⟨16, by decide +kernel, rfl, rfl⟩
theorem d_Md_next_39 : dd m_Md_next 39 (.aload_n 0) 1 40 := ⟨by decide +kernel, rfl⟩
theorem d_Md_next_40 : dd m_Md_next 40 .dup 1 41 := ⟨by decide +kernel, rfl⟩
theorem d_Md_next_41 : dd m_Md_next 41 (.getfield 21) 3 44 := ⟨by decide +kernel, rfl⟩
theorem d_Md_next_44 : dd m_Md_next 44 (.iconst 1) 1 45 := ⟨by decide +kernel, rfl⟩
theorem d_Md_next_45 : dd m_Md_next 45 .iadd 1 46 := ⟨by decide +kernel, rfl⟩
theorem d_Md_next_46 : dd m_Md_next 46 (.putfield 21) 3 49 := ⟨by decide +kernel, rfl⟩
theorem d_Md_next_49 : db m_Md_next 49 .goto 52 0 := ⟨(-49), by decide +kernel, rfl, rfl⟩
theorem d_Md_next_52 : dd m_Md_next 52 (.aload_n 0) 1 53 := ⟨by decide +kernel, rfl⟩
theorem d_Md_next_53 : dd m_Md_next 53 (.aload_n 0) 1 54 := ⟨by decide +kernel, rfl⟩
theorem d_Md_next_54 : dd m_Md_next 54 (.getfield 21) 3 57 := ⟨by decide +kernel, rfl⟩
theorem d_Md_next_57 : dd m_Md_next 57 (.putfield 24) 3 60 := ⟨by decide +kernel, rfl⟩
theorem d_Md_next_60 : dd m_Md_next 60 (.aload_n 0) 1 61 := ⟨by decide +kernel, rfl⟩
theorem d_Md_next_61 : dd m_Md_next 61 (.getfield 18) 3 64 := ⟨by decide +kernel, rfl⟩
theorem d_Md_next_64 : dd m_Md_next 64 (.sipush 500) 3 67 := ⟨by decide +kernel, rfl⟩
theorem d_Md_next_67 : db m_Md_next 67 (.if_icmp .le) 70 93 := ⟨26, by decide +kernel, rfl, rfl⟩
theorem d_Md_next_70 : dd m_Md_next 70 (.aload_n 0) 1 71 := ⟨by decide +kernel, rfl⟩
theorem d_Md_next_71 : dd m_Md_next 71 (.getfield 24) 3 74 := ⟨by decide +kernel, rfl⟩
theorem d_Md_next_74 : dd m_Md_next 74 (.sipush 500) 3 77 := ⟨by decide +kernel, rfl⟩
theorem d_Md_next_77 : db m_Md_next 77 (.if_icmp .lt) 80 93 := ⟨16, by decide +kernel, rfl, rfl⟩
theorem d_Md_next_80 : dd m_Md_next 80 (.aload_n 0) 1 81 := ⟨by decide +kernel, rfl⟩
theorem d_Md_next_81 : dd m_Md_next 81 (.sipush 500) 3 84 := ⟨by decide +kernel, rfl⟩
theorem d_Md_next_84 : dd m_Md_next 84 (.putfield 24) 3 87 := ⟨by decide +kernel, rfl⟩
theorem d_Md_next_87 : dd m_Md_next 87 (.aload_n 0) 1 88 := ⟨by decide +kernel, rfl⟩
theorem d_Md_next_88 : dd m_Md_next 88 (.iconst 1) 1 89 := ⟨by decide +kernel, rfl⟩
theorem d_Md_next_89 : dd m_Md_next 89 (.putfield 27) 3 92 := ⟨by decide +kernel, rfl⟩
theorem d_Md_next_92 : decode (mbt m_Md_next) 92 = .ok (.return_, 1) := by decide +kernel
theorem d_Md_next_93 : dd m_Md_next 93 (.aload_n 0) 1 94 := ⟨by decide +kernel, rfl⟩
theorem d_Md_next_94 : dd m_Md_next 94 (.getfield 21) 3 97 := ⟨by decide +kernel, rfl⟩
theorem d_Md_next_97 : dd m_Md_next 97 (.aload_n 0) 1 98 := ⟨by decide +kernel, rfl⟩
theorem d_Md_next_98 : dd m_Md_next 98 (.getfield 18) 3 101 := ⟨by decide +kernel, rfl⟩
theorem d_Md_next_101 : db m_Md_next 101 (.if_icmp .lt) 104 110 := ⟨9, by decide +kernel, rfl, rfl⟩
theorem d_Md_next_104 : dd m_Md_next 104 (.aload_n 0) 1 105 := ⟨by decide +kernel, rfl⟩
theorem d_Md_next_105 : dd m_Md_next 105 (.iconst 0) 1 106 := ⟨by decide +kernel, rfl⟩
theorem d_Md_next_106 : dd m_Md_next 106 (.putfield 27) 3 109 := ⟨by decide +kernel, rfl⟩
theorem d_Md_next_109 : decode (mbt m_Md_next) 109 = .ok (.return_, 1) := by decide +kernel
theorem d_Md_next_110 : dd m_Md_next 110 (.aload_n 0) 1 111 := ⟨by decide +kernel, rfl⟩
theorem d_Md_next_111 : dd m_Md_next 111 (.getfield 7) 3 114 := ⟨by decide +kernel, rfl⟩
theorem d_Md_next_114 : dd m_Md_next 114 (.aload_n 0) 1 115 := ⟨by decide +kernel, rfl⟩
theorem d_Md_next_115 : dd m_Md_next 115 (.getfield 21) 3 118 := ⟨by decide +kernel, rfl⟩
theorem d_Md_next_118 : dd m_Md_next 118 .iaload 1 119 := ⟨by decide +kernel, rfl⟩
theorem d_Md_next_119 : dd m_Md_next 119 (.istore_n 1) 1 120 := ⟨by decide +kernel, rfl⟩
theorem d_Md_next_120 : dd m_Md_next 120 (.iload_n 1) 1 121 := ⟨by decide +kernel, rfl⟩
theorem d_Md_next_121 : dd m_Md_next 121 (.invokestatic 30) 3 124 := ⟨by decide +kernel, rfl⟩
theorem d_Md_next_124 : db m_Md_next 124 (.ifCond .ne) 127 170 := ⟨46, by decide +kernel, rfl, rfl⟩
theorem d_Md_next_127 : dd m_Md_next 127 (.iload_n 1) 1 128 := ⟨by decide +kernel, rfl⟩
theorem d_Md_next_128 : dd m_Md_next 128 (.invokestatic 34) 3 131 := ⟨by decide +kernel, rfl⟩
theorem d_Md_next_131 : db m_Md_next 131 (.ifCond .ne) 134 170 := ⟨39, by decide +kernel, rfl, rfl⟩
theorem d_Md_next_134 : dd m_Md_next 134 (.aload_n 0) 1 135 := ⟨by decide +kernel, rfl⟩
theorem d_Md_next_135 : dd m_Md_next 135 (.iload_n 1) 1 136 := ⟨by decide +kernel, rfl⟩
theorem d_Md_next_136 : dd m_Md_next 136 (.bipush 59) 2 138 := ⟨by decide +kernel, rfl⟩
theorem d_Md_next_138 : db m_Md_next 138 (.if_icmp .ne) 141 145 := ⟨7, by decide +kernel, rfl, rfl⟩
theorem d_Md_next_141 : dd m_Md_next 141 (.iconst 4) 1 142 := ⟨by decide +kernel, rfl⟩
theorem d_Md_next_142 : db m_Md_next 142 .goto 145 156 := ⟨14, by decide +kernel, rfl, rfl⟩
theorem d_Md_next_145 : dd m_Md_next 145 (.iload_n 1) 1 146 := ⟨by decide +kernel, rfl⟩
theorem d_Md_next_146 : dd m_Md_next 146 (.bipush 45) 2 148 := ⟨by decide +kernel, rfl⟩
theorem d_Md_next_148 : db m_Md_next 148 (.if_icmp .ne) 151 155 := ⟨7, by decide +kernel, rfl, rfl⟩
theorem d_Md_next_151 : dd m_Md_next 151 (.iconst 5) 1 152 := ⟨by decide +kernel, rfl⟩
theorem d_Md_next_152 : db m_Md_next 152 .goto 155 156 := ⟨4, by decide +kernel, rfl, rfl⟩
theorem d_Md_next_155 : dd m_Md_next 155 (.iconst 1) 1 156 := ⟨by decide +kernel, rfl⟩
theorem d_Md_next_156 : dd m_Md_next 156 (.putfield 27) 3 159 := ⟨by decide +kernel, rfl⟩
theorem d_Md_next_159 : dd m_Md_next 159 (.aload_n 0) 1 160 := ⟨by decide +kernel, rfl⟩
theorem d_Md_next_160 : dd m_Md_next 160 .dup 1 161 := ⟨by decide +kernel, rfl⟩
theorem d_Md_next_161 : dd m_Md_next 161 (.getfield 21) 3 164 := ⟨by decide +kernel, rfl⟩
theorem d_Md_next_164 : dd m_Md_next 164 (.iconst 1) 1 165 := ⟨by decide +kernel, rfl⟩
theorem d_Md_next_165 : dd m_Md_next 165 .iadd 1 166 := ⟨by decide +kernel, rfl⟩
theorem d_Md_next_166 : dd m_Md_next 166 (.putfield 21) 3 169 := ⟨by decide +kernel, rfl⟩
theorem d_Md_next_169 : decode (mbt m_Md_next) 169 = .ok (.return_, 1) := by decide +kernel
theorem d_Md_next_170 : dd m_Md_next 170 (.iload_n 1) 1 171 := ⟨by decide +kernel, rfl⟩
theorem d_Md_next_171 : dd m_Md_next 171 (.invokestatic 30) 3 174 := ⟨by decide +kernel, rfl⟩
theorem d_Md_next_174 : dd m_Md_next 174 (.istore_n 2) 1 175 := ⟨by decide +kernel, rfl⟩
theorem d_Md_next_175 : dd m_Md_next 175 (.iconst 1) 1 176 := ⟨by decide +kernel, rfl⟩
theorem d_Md_next_176 : dd m_Md_next 176 (.istore_n 3) 1 177 := ⟨by decide +kernel, rfl⟩
theorem d_Md_next_177 : dd m_Md_next 177 (.aload_n 0) 1 178 := ⟨by decide +kernel, rfl⟩
theorem d_Md_next_178 : dd m_Md_next 178 (.iconst 0) 1 179 := ⟨by decide +kernel, rfl⟩
theorem d_Md_next_179 : dd m_Md_next 179 (.putfield 37) 3 182 := ⟨by decide +kernel, rfl⟩
theorem d_Md_next_182 : dd m_Md_next 182 (.aload_n 0) 1 183 := ⟨by decide +kernel, rfl⟩
theorem d_Md_next_183 : dd m_Md_next 183 (.aload_n 0) 1 184 := ⟨by decide +kernel, rfl⟩
theorem d_Md_next_184 : dd m_Md_next 184 (.getfield 21) 3 187 := ⟨by decide +kernel, rfl⟩
theorem d_Md_next_187 : dd m_Md_next 187 (.invokevirtual 40) 3 190 := ⟨by decide +kernel, rfl⟩
theorem d_Md_next_190 : dd m_Md_next 190 (.invokestatic 30) 3 193 := ⟨by decide +kernel, rfl⟩
theorem d_Md_next_193 : db m_Md_next 193 (.ifCond .ne) 196 210 := ⟨17, by decide +kernel, rfl, rfl⟩
theorem d_Md_next_196 : dd m_Md_next 196 (.aload_n 0) 1 197 := ⟨by decide +kernel, rfl⟩
theorem d_Md_next_197 : dd m_Md_next 197 (.aload_n 0) 1 198 := ⟨by decide +kernel, rfl⟩
theorem d_Md_next_198 : dd m_Md_next 198 (.getfield 21) 3 201 := ⟨by decide +kernel, rfl⟩
theorem d_Md_next_201 : dd m_Md_next 201 (.invokevirtual 40) 3 204 := ⟨by decide +kernel, rfl⟩
theorem d_Md_next_204 : dd m_Md_next 204 (.invokestatic 34) 3 207 := ⟨by decide +kernel, rfl⟩
theorem d_Md_next_207 : db m_Md_next 207 (.ifCond .eq) 210 283 := ⟨76, by decide +kernel, rfl, rfl⟩
theorem d_Md_next_210 : dd m_Md_next 210 (.aload_n 0) 1 211 := ⟨by decide +kernel, rfl⟩
theorem d_Md_next_211 : dd m_Md_next 211 (.getfield 7) 3 214 := ⟨by decide +kernel, rfl⟩
theorem d_Md_next_214 : dd m_Md_next 214 (.aload_n 0) 1 215 := ⟨by decide +kernel, rfl⟩
theorem d_Md_next_215 : dd m_Md_next 215 (.getfield 21) 3 218 := ⟨by decide +kernel, rfl⟩
theorem d_Md_next_218 : dd m_Md_next 218 .iaload 1 219 := ⟨by decide +kernel, rfl⟩
theorem d_Md_next_219 : dd m_Md_next 219 (.istore 4) 2 221 := ⟨by decide +kernel, rfl⟩
theorem d_Md_next_221 : dd m_Md_next 221 (.iload_n 3) 1 222 := ⟨by decide +kernel, rfl⟩
theorem d_Md_next_222 : db m_Md_next 222 (.ifCond .eq) 225 238 := ⟨16, by decide +kernel, rfl, rfl⟩
theorem d_Md_next_225 : dd m_Md_next 225 (.iload 4) 2 227 := ⟨by decide +kernel, rfl⟩
theorem d_Md_next_227 : dd m_Md_next 227 (.invokestatic 30) 3 230 := ⟨by decide +kernel, rfl⟩
theorem d_Md_next_230 : dd m_Md_next 230 (.iload_n 2) 1 231 := ⟨by decide +kernel, rfl⟩
theorem d_Md_next_231 : db m_Md_next 231 (.if_icmp .ne) 234 238 := ⟨7, by decide +kernel, rfl, rfl⟩
theorem d_Md_next_234 : dd m_Md_next 234 (.iconst 1) 1 235 := ⟨by decide +kernel, rfl⟩
theorem d_Md_next_235 : db m_Md_next 235 .goto 238 239 := ⟨4, by decide +kernel, rfl, rfl⟩
theorem d_Md_next_238 : dd m_Md_next 238 (.iconst 0) 1 239 := ⟨by decide +kernel, rfl⟩
theorem d_Md_next_239 : dd m_Md_next 239 (.istore_n 3) 1 240 := ⟨by decide +kernel, rfl⟩
theorem d_Md_next_240 : dd m_Md_next 240 (.aload_n 0) 1 241 := ⟨by decide +kernel, rfl⟩
theorem d_Md_next_241 : dd m_Md_next 241 (.getfield 21) 3 244 := ⟨by decide +kernel, rfl⟩
theorem d_Md_next_244 : dd m_Md_next 244 (.aload_n 0) 1 245 := ⟨by decide +kernel, rfl⟩
theorem d_Md_next_245 : dd m_Md_next 245 (.getfield 24) 3 248 := ⟨by decide +kernel, rfl⟩
theorem d_Md_next_248 : dd m_Md_next 248 .isub 1 249 := ⟨by decide +kernel, rfl⟩
theorem d_Md_next_249 : dd m_Md_next 249 (.iconst 3) 1 250 := ⟨by decide +kernel, rfl⟩
theorem d_Md_next_250 : db m_Md_next 250 (.if_icmp .ge) 253 270 := ⟨20, by decide +kernel, rfl, rfl⟩
theorem d_Md_next_253 : dd m_Md_next 253 (.aload_n 0) 1 254 := ⟨by decide +kernel, rfl⟩
theorem d_Md_next_254 : dd m_Md_next 254 (.bipush 10) 2 256 := ⟨by decide +kernel, rfl⟩
theorem d_Md_next_256 : dd m_Md_next 256 (.aload_n 0) 1 257 := ⟨by decide +kernel, rfl⟩
theorem d_Md_next_257 : dd m_Md_next 257 (.getfield 37) 3 260 := ⟨by decide +kernel, rfl⟩
theorem d_Md_next_260 : dd m_Md_next 260 .imul 1 261 := ⟨by decide +kernel, rfl⟩
theorem d_Md_next_261 : dd m_Md_next 261 (.iload 4) 2 263 := ⟨by decide +kernel, rfl⟩
theorem d_Md_next_263 : dd m_Md_next 263 .iadd 1 264 := ⟨by decide +kernel, rfl⟩
theorem d_Md_next_264 : dd m_Md_next 264 (.bipush 48) 2 266 := ⟨by decide +kernel, rfl⟩
theorem d_Md_next_266 : dd m_Md_next 266 .isub 1 267 := ⟨by decide +kernel, rfl⟩
theorem d_Md_next_267 : dd m_Md_next 267 (.putfield 37) 3 270 := ⟨by decide +kernel, rfl⟩
theorem d_Md_next_270 : dd m_Md_next 270 (.aload_n 0) 1 271 := ⟨by decide +kernel, rfl⟩
theorem d_Md_next_271 : dd m_Md_next 271 .dup 1 272 := ⟨by decide +kernel, rfl⟩
theorem d_Md_next_272 : dd m_Md_next 272 (.getfield 21) 3 275 := ⟨by decide +kernel, rfl⟩
theorem d_Md_next_275 : dd m_Md_next 275 (.iconst 1) 1 276 := ⟨by decide +kernel, rfl⟩
theorem d_Md_next_276 : dd m_Md_next 276 .iadd 1 277 := ⟨by decide +kernel, rfl⟩
theorem d_Md_next_277 : dd m_Md_next 277 (.putfield 21) 3 280 := ⟨by decide +kernel, rfl⟩
theorem d_Md_next_280 : db m_Md_next 280 .goto 283 182 := ⟨(-98), by decide +kernel, rfl, rfl⟩
theorem d_Md_next_283 : dd m_Md_next 283 (.aload_n 0) 1 284 := ⟨by decide +kernel, rfl⟩
theorem d_Md_next_284 : dd m_Md_next 284 (.iload_n 3) 1 285 := ⟨by decide +kernel, rfl⟩
theorem d_Md_next_285 : db m_Md_next 285 (.ifCond .eq) 288 305 := ⟨20, by decide +kernel, rfl, rfl⟩
theorem d_Md_next_288 : dd m_Md_next 288 (.iload_n 2) 1 289 := ⟨by decide +kernel, rfl⟩
theorem d_Md_next_289 : db m_Md_next 289 (.ifCond .ne) 292 309 := ⟨20, by decide +kernel, rfl, rfl⟩
theorem d_Md_next_292 : dd m_Md_next 292 (.aload_n 0) 1 293 := ⟨by decide +kernel, rfl⟩
theorem d_Md_next_293 : dd m_Md_next 293 (.getfield 21) 3 296 := ⟨by decide +kernel, rfl⟩
theorem d_Md_next_296 : dd m_Md_next 296 (.aload_n 0) 1 297 := ⟨by decide +kernel, rfl⟩
theorem d_Md_next_297 : dd m_Md_next 297 (.getfield 24) 3 300 := ⟨by decide +kernel, rfl⟩
theorem d_Md_next_300 : dd m_Md_next 300 .isub 1 301 := ⟨by decide +kernel, rfl⟩
theorem d_Md_next_301 : dd m_Md_next 301 (.iconst 3) 1 302 := ⟨by decide +kernel, rfl⟩
theorem d_Md_next_302 : db m_Md_next 302 (.if_icmp .le) 305 309 := ⟨7, by decide +kernel, rfl, rfl⟩
theorem d_Md_next_305 : dd m_Md_next 305 (.iconst 1) 1 306 := ⟨by decide +kernel, rfl⟩
theorem d_Md_next_306 : db m_Md_next 306 .goto 309 318 := ⟨12, by decide +kernel, rfl, rfl⟩
theorem d_Md_next_309 : dd m_Md_next 309 (.iload_n 2) 1 310 := ⟨by decide +kernel, rfl⟩
theorem d_Md_next_310 : db m_Md_next 310 (.ifCond .eq) 313 317 := ⟨7, by decide +kernel, rfl, rfl⟩
theorem d_Md_next_313 : dd m_Md_next 313 (.iconst 2) 1 314 := ⟨by decide +kernel, rfl⟩
theorem d_Md_next_314 : db m_Md_next 314 .goto 317 318 := ⟨4, by decide +kernel, rfl, rfl⟩
theorem d_Md_next_317 : dd m_Md_next 317 (.iconst 3) 1 318 := ⟨by decide +kernel, rfl⟩
theorem d_Md_next_318 : dd m_Md_next 318 (.putfield 27) 3 321 := ⟨by decide +kernel, rfl⟩
theorem d_Md_next_321 : decode (mbt m_Md_next) 321 = .ok (.return_, 1) := by decide +kernel
theorem d_Md_isLetter_0 : dd m_Md_isLetter 0 (.iload_n 0) 1 1 := ⟨by decide +kernel, rfl⟩
theorem d_Md_isLetter_1 : dd m_Md_isLetter 1 (.bipush 97) 2 3 := ⟨by decide +kernel, rfl⟩
theorem d_Md_isLetter_3 : db m_Md_isLetter 3 (.if_icmp .lt) 6 16 := ⟨13, by decide +kernel, rfl, rfl⟩
theorem d_Md_isLetter_6 : dd m_Md_isLetter 6 (.iload_n 0) 1 7 := ⟨by decide +kernel, rfl⟩
theorem d_Md_isLetter_7 : dd m_Md_isLetter 7 (.bipush 122) 2 9 := ⟨by decide +kernel, rfl⟩
theorem d_Md_isLetter_9 : db m_Md_isLetter 9 (.if_icmp .gt) 12 16 := ⟨7, by decide +kernel, rfl, rfl⟩
theorem d_Md_isLetter_12 : dd m_Md_isLetter 12 (.iconst 1) 1 13 := ⟨by decide +kernel, rfl⟩
theorem d_Md_isLetter_13 : db m_Md_isLetter 13 .goto 16 17 := ⟨4, by decide +kernel, rfl, rfl⟩
theorem d_Md_isLetter_16 : dd m_Md_isLetter 16 (.iconst 0) 1 17 := ⟨by decide +kernel, rfl⟩
theorem d_Md_isLetter_17 : decode (mbt m_Md_isLetter) 17 = .ok (.ireturn, 1) := by decide +kernel
theorem d_Md_isDigit_0 : dd m_Md_isDigit 0 (.iload_n 0) 1 1 := ⟨by decide +kernel, rfl⟩
theorem d_Md_isDigit_1 : dd m_Md_isDigit 1 (.bipush 48) 2 3 := ⟨by decide +kernel, rfl⟩
theorem d_Md_isDigit_3 : db m_Md_isDigit 3 (.if_icmp .lt) 6 16 := ⟨13, by decide +kernel, rfl, rfl⟩
theorem d_Md_isDigit_6 : dd m_Md_isDigit 6 (.iload_n 0) 1 7 := ⟨by decide +kernel, rfl⟩
theorem d_Md_isDigit_7 : dd m_Md_isDigit 7 (.bipush 57) 2 9 := ⟨by decide +kernel, rfl⟩
theorem d_Md_isDigit_9 : db m_Md_isDigit 9 (.if_icmp .gt) 12 16 := ⟨7, by decide +kernel, rfl, rfl⟩
theorem d_Md_isDigit_12 : dd m_Md_isDigit 12 (.iconst 1) 1 13 := ⟨by decide +kernel, rfl⟩
theorem d_Md_isDigit_13 : db m_Md_isDigit 13 .goto 16 17 := ⟨4, by decide +kernel, rfl, rfl⟩
theorem d_Md_isDigit_16 : dd m_Md_isDigit 16 (.iconst 0) 1 17 := ⟨by decide +kernel, rfl⟩
theorem d_Md_isDigit_17 : decode (mbt m_Md_isDigit) 17 = .ok (.ireturn, 1) := by decide +kernel
theorem d_Md_tapeAt_0 : dd m_Md_tapeAt 0 (.iload_n 1) 1 1 := ⟨by decide +kernel, rfl⟩
theorem d_Md_tapeAt_1 : dd m_Md_tapeAt 1 (.aload_n 0) 1 2 := ⟨by decide +kernel, rfl⟩
theorem d_Md_tapeAt_2 : dd m_Md_tapeAt 2 (.getfield 18) 3 5 := ⟨by decide +kernel, rfl⟩
theorem d_Md_tapeAt_5 : db m_Md_tapeAt 5 (.if_icmp .ge) 8 17 := ⟨12, by decide +kernel, rfl, rfl⟩
theorem d_Md_tapeAt_8 : dd m_Md_tapeAt 8 (.aload_n 0) 1 9 := ⟨by decide +kernel, rfl⟩
theorem d_Md_tapeAt_9 : dd m_Md_tapeAt 9 (.getfield 7) 3 12 := ⟨by decide +kernel, rfl⟩
theorem d_Md_tapeAt_12 : dd m_Md_tapeAt 12 (.iload_n 1) 1 13 := ⟨by decide +kernel, rfl⟩
theorem d_Md_tapeAt_13 : dd m_Md_tapeAt 13 .iaload 1 14 := ⟨by decide +kernel, rfl⟩
theorem d_Md_tapeAt_14 : db m_Md_tapeAt 14 .goto 17 18 := ⟨4, by decide +kernel, rfl, rfl⟩
theorem d_Md_tapeAt_17 : dd m_Md_tapeAt 17 (.iconst 0) 1 18 := ⟨by decide +kernel, rfl⟩
theorem d_Md_tapeAt_18 : decode (mbt m_Md_tapeAt) 18 = .ok (.ireturn, 1) := by decide +kernel
theorem d_Md_readLine_0 : dd m_Md_readLine 0 (.aload_n 0) 1 1 := ⟨by decide +kernel, rfl⟩
theorem d_Md_readLine_1 : dd m_Md_readLine 1 (.getfield 59) 3 4 := ⟨by decide +kernel, rfl⟩
theorem d_Md_readLine_4 : dd m_Md_readLine 4 (.iconst 0) 1 5 := ⟨by decide +kernel, rfl⟩
theorem d_Md_readLine_5 : dd m_Md_readLine 5 .iaload 1 6 := ⟨by decide +kernel, rfl⟩
theorem d_Md_readLine_6 : db m_Md_readLine 6 (.ifCond .ne) 9 39 := ⟨33, by decide +kernel, rfl, rfl⟩
theorem d_Md_readLine_9 : dd m_Md_readLine 9 (.aload_n 0) 1 10 := ⟨by decide +kernel, rfl⟩
theorem d_Md_readLine_10 : dd m_Md_readLine 10 (.bipush 115) 2 12 := ⟨by decide +kernel, rfl⟩
theorem d_Md_readLine_12 : dd m_Md_readLine 12 (.bipush 105) 2 14 := ⟨by decide +kernel, rfl⟩
theorem d_Md_readLine_14 : dd m_Md_readLine 14 (.bipush 122) 2 16 := ⟨by decide +kernel, rfl⟩
theorem d_Md_readLine_16 : dd m_Md_readLine 16 (.bipush 101) 2 18 := ⟨by decide +kernel, rfl⟩
theorem d_Md_readLine_18 : dd m_Md_readLine 18 (.iconst 0) 1 19 := ⟨by decide +kernel, rfl⟩
theorem d_Md_readLine_19 : dd m_Md_readLine 19 (.iconst 0) 1 20 := ⟨by decide +kernel, rfl⟩
theorem d_Md_readLine_20 : dd m_Md_readLine 20 (.invokevirtual 129) 3 23 := ⟨by decide +kernel, rfl⟩
theorem d_Md_readLine_23 : db m_Md_readLine 23 (.ifCond .eq) 26 33 := ⟨10, by decide +kernel, rfl, rfl⟩
theorem d_Md_readLine_26 : dd m_Md_readLine 26 (.aload_n 0) 1 27 := ⟨by decide +kernel, rfl⟩
theorem d_Md_readLine_27 : dd m_Md_readLine 27 (.invokevirtual 144) 3 30 := ⟨by decide +kernel, rfl⟩
theorem d_Md_readLine_30 : db m_Md_readLine 30 .goto 33 38 := ⟨8, by decide +kernel, rfl, rfl⟩
theorem d_Md_readLine_33 : dd m_Md_readLine 33 (.aload_n 0) 1 34 := ⟨by decide +kernel, rfl⟩
theorem d_Md_readLine_34 : dd m_Md_readLine 34 (.iconst 1) 1 35 := ⟨by decide +kernel, rfl⟩
theorem d_Md_readLine_35 : dd m_Md_readLine 35 (.invokevirtual 115) 3 38 := ⟨by decide +kernel, rfl⟩
theorem d_Md_readLine_38 : decode (mbt m_Md_readLine) 38 = .ok (.ireturn, 1) := by decide +kernel
theorem d_Md_readLine_39 : dd m_Md_readLine 39 (.aload_n 0) 1 40 := ⟨by decide +kernel, rfl⟩
theorem d_Md_readLine_40 : dd m_Md_readLine 40 (.bipush 115) 2 42 := ⟨by decide +kernel, rfl⟩
theorem d_Md_readLine_42 : dd m_Md_readLine 42 (.bipush 101) 2 44 := ⟨by decide +kernel, rfl⟩
theorem d_Md_readLine_44 : dd m_Md_readLine 44 (.bipush 114) 2 46 := ⟨by decide +kernel, rfl⟩
theorem d_Md_readLine_46 : dd m_Md_readLine 46 (.bipush 105) 2 48 := ⟨by decide +kernel, rfl⟩
theorem d_Md_readLine_48 : dd m_Md_readLine 48 (.bipush 101) 2 50 := ⟨by decide +kernel, rfl⟩
theorem d_Md_readLine_50 : dd m_Md_readLine 50 (.bipush 115) 2 52 := ⟨by decide +kernel, rfl⟩
theorem d_Md_readLine_52 : dd m_Md_readLine 52 (.invokevirtual 129) 3 55 := ⟨by decide +kernel, rfl⟩
theorem d_Md_readLine_55 : db m_Md_readLine 55 (.ifCond .eq) 58 63 := ⟨8, by decide +kernel, rfl, rfl⟩
theorem d_Md_readLine_58 : dd m_Md_readLine 58 (.aload_n 0) 1 59 := ⟨by decide +kernel, rfl⟩
theorem d_Md_readLine_59 : dd m_Md_readLine 59 (.invokevirtual 148) 3 62 := ⟨by decide +kernel, rfl⟩
theorem d_Md_readLine_62 : decode (mbt m_Md_readLine) 62 = .ok (.ireturn, 1) := by decide +kernel
theorem d_Md_readLine_63 : dd m_Md_readLine 63 (.aload_n 0) 1 64 := ⟨by decide +kernel, rfl⟩
theorem d_Md_readLine_64 : dd m_Md_readLine 64 (.bipush 116) 2 66 := ⟨by decide +kernel, rfl⟩
theorem d_Md_readLine_66 : dd m_Md_readLine 66 (.bipush 97) 2 68 := ⟨by decide +kernel, rfl⟩
theorem d_Md_readLine_68 : dd m_Md_readLine 68 (.bipush 98) 2 70 := ⟨by decide +kernel, rfl⟩
theorem d_Md_readLine_70 : dd m_Md_readLine 70 (.bipush 108) 2 72 := ⟨by decide +kernel, rfl⟩
theorem d_Md_readLine_72 : dd m_Md_readLine 72 (.bipush 101) 2 74 := ⟨by decide +kernel, rfl⟩
theorem d_Md_readLine_74 : dd m_Md_readLine 74 (.iconst 0) 1 75 := ⟨by decide +kernel, rfl⟩
theorem d_Md_readLine_75 : dd m_Md_readLine 75 (.invokevirtual 129) 3 78 := ⟨by decide +kernel, rfl⟩
theorem d_Md_readLine_78 : db m_Md_readLine 78 (.ifCond .eq) 81 88 := ⟨10, by decide +kernel, rfl, rfl⟩
theorem d_Md_readLine_81 : dd m_Md_readLine 81 (.aload_n 0) 1 82 := ⟨by decide +kernel, rfl⟩
theorem d_Md_readLine_82 : dd m_Md_readLine 82 (.invokevirtual 151) 3 85 := ⟨by decide +kernel, rfl⟩
theorem d_Md_readLine_85 : db m_Md_readLine 85 .goto 88 93 := ⟨8, by decide +kernel, rfl, rfl⟩
theorem d_Md_readLine_88 : dd m_Md_readLine 88 (.aload_n 0) 1 89 := ⟨by decide +kernel, rfl⟩
theorem d_Md_readLine_89 : dd m_Md_readLine 89 (.iconst 1) 1 90 := ⟨by decide +kernel, rfl⟩
theorem d_Md_readLine_90 : dd m_Md_readLine 90 (.invokevirtual 115) 3 93 := ⟨by decide +kernel, rfl⟩
theorem d_Md_readLine_93 : decode (mbt m_Md_readLine) 93 = .ok (.ireturn, 1) := by decide +kernel
theorem d_Md_isWord_0 : dd m_Md_isWord 0 (.iload 5) 2 2 := ⟨by decide +kernel, rfl⟩
theorem d_Md_isWord_2 : db m_Md_isWord 2 (.ifCond .ne) 5 9 := ⟨7, by decide +kernel, rfl, rfl⟩
theorem d_Md_isWord_5 : dd m_Md_isWord 5 (.iconst 4) 1 6 := ⟨by decide +kernel, rfl⟩
theorem d_Md_isWord_6 : db m_Md_isWord 6 .goto 9 20 := ⟨14, by decide +kernel, rfl, rfl⟩
theorem d_Md_isWord_9 : dd m_Md_isWord 9 (.iload 6) 2 11 := ⟨by decide +kernel, rfl⟩
theorem d_Md_isWord_11 : db m_Md_isWord 11 (.ifCond .ne) 14 18 := ⟨7, by decide +kernel, rfl, rfl⟩
theorem d_Md_isWord_14 : dd m_Md_isWord 14 (.iconst 5) 1 15 := ⟨by decide +kernel, rfl⟩
theorem d_Md_isWord_15 : db m_Md_isWord 15 .goto 18 20 := ⟨5, by decide +kernel, rfl, rfl⟩
theorem d_Md_isWord_18 : dd m_Md_isWord 18 (.bipush 6) 2 20 := ⟨by decide +kernel, rfl⟩
theorem d_Md_isWord_20 : dd m_Md_isWord 20 (.istore 7) 2 22 := ⟨by decide +kernel, rfl⟩
theorem d_Md_isWord_22 : dd m_Md_isWord 22 (.aload_n 0) 1 23 := ⟨by decide +kernel, rfl⟩
theorem d_Md_isWord_23 : dd m_Md_isWord 23 (.getfield 27) 3 26 := ⟨by decide +kernel, rfl⟩
theorem d_Md_isWord_26 : dd m_Md_isWord 26 (.iconst 2) 1 27 := ⟨by decide +kernel, rfl⟩
theorem d_Md_isWord_27 : db m_Md_isWord 27 (.if_icmp .ne) 30 44 := ⟨17, by decide +kernel, rfl, rfl⟩
theorem d_Md_isWord_30 : dd m_Md_isWord 30 (.aload_n 0) 1 31 := ⟨by decide +kernel, rfl⟩
theorem d_Md_isWord_31 : dd m_Md_isWord 31 (.getfield 21) 3 34 := ⟨by decide +kernel, rfl⟩
theorem d_Md_isWord_34 : dd m_Md_isWord 34 (.aload_n 0) 1 35 := ⟨by decide +kernel, rfl⟩
theorem d_Md_isWord_35 : dd m_Md_isWord 35 (.getfield 24) 3 38 := ⟨by decide +kernel, rfl⟩
theorem d_Md_isWord_38 : dd m_Md_isWord 38 .isub 1 39 := ⟨by decide +kernel, rfl⟩
theorem d_Md_isWord_39 : dd m_Md_isWord 39 (.iload 7) 2 41 := ⟨by decide +kernel, rfl⟩
theorem d_Md_isWord_41 : db m_Md_isWord 41 (.if_icmp .eq) 44 46 := ⟨5, by decide +kernel, rfl, rfl⟩
theorem d_Md_isWord_44 : dd m_Md_isWord 44 (.iconst 0) 1 45 := ⟨by decide +kernel, rfl⟩
theorem d_Md_isWord_45 : decode (mbt m_Md_isWord) 45 = .ok (.ireturn, 1) := by decide +kernel
theorem d_Md_isWord_46 : dd m_Md_isWord 46 (.iconst 0) 1 47 := ⟨by decide +kernel, rfl⟩
theorem d_Md_isWord_47 : dd m_Md_isWord 47 (.istore 8) 2 49 := ⟨by decide +kernel, rfl⟩
theorem d_Md_isWord_49 : dd m_Md_isWord 49 (.iload 8) 2 51 := ⟨by decide +kernel, rfl⟩
theorem d_Md_isWord_51 : dd m_Md_isWord 51 (.iload 7) 2 53 := ⟨by decide +kernel, rfl⟩
theorem d_Md_isWord_53 : db m_Md_isWord 53 (.if_icmp .ge) 56 132 := ⟨79, by decide +kernel, rfl, rfl⟩
theorem d_Md_isWord_56 : dd m_Md_isWord 56 (.aload_n 0) 1 57 := ⟨by decide +kernel, rfl⟩
theorem d_Md_isWord_57 : dd m_Md_isWord 57 (.getfield 7) 3 60 := ⟨by decide +kernel, rfl⟩
theorem d_Md_isWord_60 : dd m_Md_isWord 60 (.aload_n 0) 1 61 := ⟨by decide +kernel, rfl⟩
theorem d_Md_isWord_61 : dd m_Md_isWord 61 (.getfield 24) 3 64 := ⟨by decide +kernel, rfl⟩
theorem d_Md_isWord_64 : dd m_Md_isWord 64 (.iload 8) 2 66 := ⟨by decide +kernel, rfl⟩
theorem d_Md_isWord_66 : dd m_Md_isWord 66 .iadd 1 67 := ⟨by decide +kernel, rfl⟩
theorem d_Md_isWord_67 : dd m_Md_isWord 67 .iaload 1 68 := ⟨by decide +kernel, rfl⟩
theorem d_Md_isWord_68 : dd m_Md_isWord 68 (.iload 8) 2 70 := ⟨by decide +kernel, rfl⟩
theorem d_Md_isWord_70 : db m_Md_isWord 70 (.ifCond .ne) 73 77 := ⟨7, by decide +kernel, rfl, rfl⟩
theorem d_Md_isWord_73 : dd m_Md_isWord 73 (.iload_n 1) 1 74 := ⟨by decide +kernel, rfl⟩
theorem d_Md_isWord_74 : db m_Md_isWord 74 .goto 77 121 := ⟨47, by decide +kernel, rfl, rfl⟩
theorem d_Md_isWord_77 : dd m_Md_isWord 77 (.iload 8) 2 79 := ⟨by decide +kernel, rfl⟩
theorem d_Md_isWord_79 : dd m_Md_isWord 79 (.iconst 1) 1 80 := ⟨by decide +kernel, rfl⟩
theorem d_Md_isWord_80 : db m_Md_isWord 80 (.if_icmp .ne) 83 87 := ⟨7, by decide +kernel, rfl, rfl⟩
theorem d_Md_isWord_83 : dd m_Md_isWord 83 (.iload_n 2) 1 84 := ⟨by decide +kernel, rfl⟩
theorem d_Md_isWord_84 : db m_Md_isWord 84 .goto 87 121 := ⟨37, by decide +kernel, rfl, rfl⟩
theorem d_Md_isWord_87 : dd m_Md_isWord 87 (.iload 8) 2 89 := ⟨by decide +kernel, rfl⟩
theorem d_Md_isWord_89 : dd m_Md_isWord 89 (.iconst 2) 1 90 := ⟨by decide +kernel, rfl⟩
theorem d_Md_isWord_90 : db m_Md_isWord 90 (.if_icmp .ne) 93 97 := ⟨7, by decide +kernel, rfl, rfl⟩
theorem d_Md_isWord_93 : dd m_Md_isWord 93 (.iload_n 3) 1 94 := ⟨by decide +kernel, rfl⟩
theorem d_Md_isWord_94 : db m_Md_isWord 94 .goto 97 121 := ⟨27, by decide +kernel, rfl, rfl⟩
theorem d_Md_isWord_97 : dd m_Md_isWord 97 (.iload 8) 2 99 := ⟨by decide +kernel, rfl⟩
theorem d_Md_isWord_99 : dd m_Md_isWord 99 (.iconst 3) 1 100 := ⟨by decide +kernel, rfl⟩
theorem d_Md_isWord_100 : db m_Md_isWord 100 (.if_icmp .ne) 103 108 := ⟨8, by decide +kernel, rfl, rfl⟩
theorem d_Md_isWord_103 : dd m_Md_isWord 103 (.iload 4) 2 105 := ⟨by decide +kernel, rfl⟩
theorem d_Md_isWord_105 : db m_Md_isWord 105 .goto 108 121 := ⟨16, by decide +kernel, rfl, rfl⟩
theorem d_Md_isWord_108 : dd m_Md_isWord 108 (.iload 8) 2 110 := ⟨by decide +kernel, rfl⟩
theorem d_Md_isWord_110 : dd m_Md_isWord 110 (.iconst 4) 1 111 := ⟨by decide +kernel, rfl⟩
theorem d_Md_isWord_111 : db m_Md_isWord 111 (.if_icmp .ne) 114 119 := ⟨8, by decide +kernel, rfl, rfl⟩
theorem d_Md_isWord_114 : dd m_Md_isWord 114 (.iload 5) 2 116 := ⟨by decide +kernel, rfl⟩
theorem d_Md_isWord_116 : db m_Md_isWord 116 .goto 119 121 := ⟨5, by decide +kernel, rfl, rfl⟩
theorem d_Md_isWord_119 : dd m_Md_isWord 119 (.iload 6) 2 121 := ⟨by decide +kernel, rfl⟩
theorem d_Md_isWord_121 : db m_Md_isWord 121 (.if_icmp .eq) 124 126 := ⟨5, by decide +kernel, rfl, rfl⟩
theorem d_Md_isWord_124 : dd m_Md_isWord 124 (.iconst 0) 1 125 := ⟨by decide +kernel, rfl⟩
theorem d_Md_isWord_125 : decode (mbt m_Md_isWord) 125 = .ok (.ireturn, 1) := by decide +kernel
theorem d_Md_isWord_126 : dd m_Md_isWord 126 (.iinc 8 1) 3 129 := ⟨by decide +kernel, rfl⟩
theorem d_Md_isWord_129 : db m_Md_isWord 129 .goto 132 49 := ⟨(-80), by decide +kernel, rfl, rfl⟩
theorem d_Md_isWord_132 : dd m_Md_isWord 132 (.iconst 1) 1 133 := ⟨by decide +kernel, rfl⟩
theorem d_Md_isWord_133 : decode (mbt m_Md_isWord) 133 = .ok (.ireturn, 1) := by decide +kernel
theorem d_Md_readSize_0 : dd m_Md_readSize 0 (.aload_n 0) 1 1 := ⟨by decide +kernel, rfl⟩
theorem d_Md_readSize_1 : dd m_Md_readSize 1 (.invokevirtual 112) 3 4 := ⟨by decide +kernel, rfl⟩
theorem d_Md_readSize_4 : dd m_Md_readSize 4 (.aload_n 0) 1 5 := ⟨by decide +kernel, rfl⟩
theorem d_Md_readSize_5 : dd m_Md_readSize 5 (.getfield 27) 3 8 := ⟨by decide +kernel, rfl⟩
theorem d_Md_readSize_8 : dd m_Md_readSize 8 (.iconst 3) 1 9 := ⟨by decide +kernel, rfl⟩
theorem d_Md_readSize_9 : db m_Md_readSize 9 (.if_icmp .eq) 12 18 := ⟨9, by decide +kernel, rfl, rfl⟩
theorem d_Md_readSize_12 : dd m_Md_readSize 12 (.aload_n 0) 1 13 := ⟨by decide +kernel, rfl⟩
theorem d_Md_readSize_13 : dd m_Md_readSize 13 (.iconst 1) 1 14 := ⟨by decide +kernel, rfl⟩
theorem d_Md_readSize_14 : dd m_Md_readSize 14 (.invokevirtual 115) 3 17 := ⟨by decide +kernel, rfl⟩
theorem d_Md_readSize_17 : decode (mbt m_Md_readSize) 17 = .ok (.ireturn, 1) := by decide +kernel
theorem d_Md_readSize_18 : dd m_Md_readSize 18 (.aload_n 0) 1 19 := ⟨by decide +kernel, rfl⟩
theorem d_Md_readSize_19 : dd m_Md_readSize 19 (.getfield 37) 3 22 := ⟨by decide +kernel, rfl⟩
theorem d_Md_readSize_22 : dd m_Md_readSize 22 (.iconst 2) 1 23 := ⟨by decide +kernel, rfl⟩
theorem d_Md_readSize_23 : dd m_Md_readSize 23 (.bipush 10) 2 25 := ⟨by decide +kernel, rfl⟩
theorem d_Md_readSize_25 : dd m_Md_readSize 25 (.invokestatic 118) 3 28 := ⟨by decide +kernel, rfl⟩
theorem d_Md_readSize_28 : db m_Md_readSize 28 (.ifCond .ne) 31 37 := ⟨9, by decide +kernel, rfl, rfl⟩
theorem d_Md_readSize_31 : dd m_Md_readSize 31 (.aload_n 0) 1 32 := ⟨by decide +kernel, rfl⟩
theorem d_Md_readSize_32 : dd m_Md_readSize 32 (.iconst 2) 1 33 := ⟨by decide +kernel, rfl⟩
theorem d_Md_readSize_33 : dd m_Md_readSize 33 (.invokevirtual 115) 3 36 := ⟨by decide +kernel, rfl⟩
theorem d_Md_readSize_36 : decode (mbt m_Md_readSize) 36 = .ok (.ireturn, 1) := by decide +kernel
theorem d_Md_readSize_37 : dd m_Md_readSize 37 (.aload_n 0) 1 38 := ⟨by decide +kernel, rfl⟩
theorem d_Md_readSize_38 : dd m_Md_readSize 38 (.getfield 59) 3 41 := ⟨by decide +kernel, rfl⟩
theorem d_Md_readSize_41 : dd m_Md_readSize 41 (.iconst 0) 1 42 := ⟨by decide +kernel, rfl⟩
theorem d_Md_readSize_42 : dd m_Md_readSize 42 (.aload_n 0) 1 43 := ⟨by decide +kernel, rfl⟩
theorem d_Md_readSize_43 : dd m_Md_readSize 43 (.getfield 37) 3 46 := ⟨by decide +kernel, rfl⟩
theorem d_Md_readSize_46 : dd m_Md_readSize 46 .iastore 1 47 := ⟨by decide +kernel, rfl⟩
theorem d_Md_readSize_47 : dd m_Md_readSize 47 (.aload_n 0) 1 48 := ⟨by decide +kernel, rfl⟩
theorem d_Md_readSize_48 : dd m_Md_readSize 48 (.invokevirtual 112) 3 51 := ⟨by decide +kernel, rfl⟩
theorem d_Md_readSize_51 : dd m_Md_readSize 51 (.iconst 1) 1 52 := ⟨by decide +kernel, rfl⟩
theorem d_Md_readSize_52 : decode (mbt m_Md_readSize) 52 = .ok (.ireturn, 1) := by decide +kernel
theorem d_Md_bad_0 : dd m_Md_bad 0 (.aload_n 0) 1 1 := ⟨by decide +kernel, rfl⟩
theorem d_Md_bad_1 : dd m_Md_bad 1 (.aload_n 0) 1 2 := ⟨by decide +kernel, rfl⟩
theorem d_Md_bad_2 : dd m_Md_bad 2 (.getfield 27) 3 5 := ⟨by decide +kernel, rfl⟩
theorem d_Md_bad_5 : dd m_Md_bad 5 (.iconst 1) 1 6 := ⟨by decide +kernel, rfl⟩
theorem d_Md_bad_6 : db m_Md_bad 6 (.if_icmp .ne) 9 13 := ⟨7, by decide +kernel, rfl, rfl⟩
theorem d_Md_bad_9 : dd m_Md_bad 9 (.iconst 1) 1 10 := ⟨by decide +kernel, rfl⟩
theorem d_Md_bad_10 : db m_Md_bad 10 .goto 13 14 := ⟨4, by decide +kernel, rfl, rfl⟩
theorem d_Md_bad_13 : dd m_Md_bad 13 (.iload_n 1) 1 14 := ⟨by decide +kernel, rfl⟩
theorem d_Md_bad_14 : dd m_Md_bad 14 (.putfield 44) 3 17 := ⟨by decide +kernel, rfl⟩
theorem d_Md_bad_17 : dd m_Md_bad 17 (.aload_n 0) 1 18 := ⟨by decide +kernel, rfl⟩
theorem d_Md_bad_18 : dd m_Md_bad 18 (.aload_n 0) 1 19 := ⟨by decide +kernel, rfl⟩
theorem d_Md_bad_19 : dd m_Md_bad 19 (.getfield 24) 3 22 := ⟨by decide +kernel, rfl⟩
theorem d_Md_bad_22 : dd m_Md_bad 22 (.putfield 47) 3 25 := ⟨by decide +kernel, rfl⟩
theorem d_Md_bad_25 : dd m_Md_bad 25 (.iconst 0) 1 26 := ⟨by decide +kernel, rfl⟩
theorem d_Md_bad_26 : decode (mbt m_Md_bad) 26 = .ok (.ireturn, 1) := by decide +kernel
theorem d_Md_isIn_0 : dd m_Md_isIn 0 (.iload_n 0) 1 1 := ⟨by decide +kernel, rfl⟩
theorem d_Md_isIn_1 : dd m_Md_isIn 1 (.iload_n 1) 1 2 := ⟨by decide +kernel, rfl⟩
theorem d_Md_isIn_2 : db m_Md_isIn 2 (.if_icmp .lt) 5 14 := ⟨12, by decide +kernel, rfl, rfl⟩
theorem d_Md_isIn_5 : dd m_Md_isIn 5 (.iload_n 0) 1 6 := ⟨by decide +kernel, rfl⟩
theorem d_Md_isIn_6 : dd m_Md_isIn 6 (.iload_n 2) 1 7 := ⟨by decide +kernel, rfl⟩
theorem d_Md_isIn_7 : db m_Md_isIn 7 (.if_icmp .gt) 10 14 := ⟨7, by decide +kernel, rfl, rfl⟩
theorem d_Md_isIn_10 : dd m_Md_isIn 10 (.iconst 1) 1 11 := ⟨by decide +kernel, rfl⟩
theorem d_Md_isIn_11 : db m_Md_isIn 11 .goto 14 15 := ⟨4, by decide +kernel, rfl, rfl⟩
theorem d_Md_isIn_14 : dd m_Md_isIn 14 (.iconst 0) 1 15 := ⟨by decide +kernel, rfl⟩
theorem d_Md_isIn_15 : decode (mbt m_Md_isIn) 15 = .ok (.ireturn, 1) := by decide +kernel
theorem d_Md_readSeries_0 : dd m_Md_readSeries 0 (.aload_n 0) 1 1 := ⟨by decide +kernel, rfl⟩
theorem d_Md_readSeries_1 : dd m_Md_readSeries 1 (.getfield 122) 3 4 := ⟨by decide +kernel, rfl⟩
theorem d_Md_readSeries_4 : dd m_Md_readSeries 4 (.bipush 6) 2 6 := ⟨by decide +kernel, rfl⟩
theorem d_Md_readSeries_6 : db m_Md_readSeries 6 (.if_icmp .ne) 9 15 := ⟨9, by decide +kernel, rfl, rfl⟩
theorem d_Md_readSeries_9 : dd m_Md_readSeries 9 (.aload_n 0) 1 10 := ⟨by decide +kernel, rfl⟩
theorem d_Md_readSeries_10 : dd m_Md_readSeries 10 (.iconst 3) 1 11 := ⟨by decide +kernel, rfl⟩
theorem d_Md_readSeries_11 : dd m_Md_readSeries 11 (.invokevirtual 115) 3 14 := ⟨by decide +kernel, rfl⟩
theorem d_Md_readSeries_14 : decode (mbt m_Md_readSeries) 14 = .ok (.ireturn, 1) := by decide +kernel
theorem d_Md_readSeries_15 : dd m_Md_readSeries 15 (.aload_n 0) 1 16 := ⟨by decide +kernel, rfl⟩
theorem d_Md_readSeries_16 : dd m_Md_readSeries 16 (.invokevirtual 112) 3 19 := ⟨by decide +kernel, rfl⟩
theorem d_Md_readSeries_19 : dd m_Md_readSeries 19 (.aload_n 0) 1 20 := ⟨by decide +kernel, rfl⟩
theorem d_Md_readSeries_20 : dd m_Md_readSeries 20 (.aload_n 0) 1 21 := ⟨by decide +kernel, rfl⟩
theorem d_Md_readSeries_21 : dd m_Md_readSeries 21 (.getfield 72) 3 24 := ⟨by decide +kernel, rfl⟩
theorem d_Md_readSeries_24 : dd m_Md_readSeries 24 (.iconst 0) 1 25 := ⟨by decide +kernel, rfl⟩
theorem d_Md_readSeries_25 : dd m_Md_readSeries 25 (.invokevirtual 125) 3 28 := ⟨by decide +kernel, rfl⟩
theorem d_Md_readSeries_28 : db m_Md_readSeries 28 (.ifCond .ne) 31 33 := ⟨5, by decide +kernel, rfl, rfl⟩
theorem d_Md_readSeries_31 : dd m_Md_readSeries 31 (.iconst 0) 1 32 := ⟨by decide +kernel, rfl⟩
theorem d_Md_readSeries_32 : decode (mbt m_Md_readSeries) 32 = .ok (.ireturn, 1) := by decide +kernel
theorem d_Md_readSeries_33 : dd m_Md_readSeries 33 (.iconst 0) 1 34 := ⟨by decide +kernel, rfl⟩
theorem d_Md_readSeries_34 : dd m_Md_readSeries 34 (.istore_n 1) 1 35 := ⟨by decide +kernel, rfl⟩
theorem d_Md_readSeries_35 : dd m_Md_readSeries 35 (.iload_n 1) 1 36 := ⟨by decide +kernel, rfl⟩
theorem d_Md_readSeries_36 : dd m_Md_readSeries 36 (.bipush 10) 2 38 := ⟨by decide +kernel, rfl⟩
theorem d_Md_readSeries_38 : db m_Md_readSeries 38 (.if_icmp .ge) 41 62 := ⟨24, by decide +kernel, rfl, rfl⟩
theorem d_Md_readSeries_41 : dd m_Md_readSeries 41 (.aload_n 0) 1 42 := ⟨by decide +kernel, rfl⟩
theorem d_Md_readSeries_42 : dd m_Md_readSeries 42 (.getfield 75) 3 45 := ⟨by decide +kernel, rfl⟩
theorem d_Md_readSeries_45 : dd m_Md_readSeries 45 (.iload_n 1) 1 46 := ⟨by decide +kernel, rfl⟩
theorem d_Md_readSeries_46 : dd m_Md_readSeries 46 (.iload_n 1) 1 47 := ⟨by decide +kernel, rfl⟩
theorem d_Md_readSeries_47 : db m_Md_readSeries 47 (.ifCond .ne) 50 54 := ⟨7, by decide +kernel, rfl, rfl⟩
theorem d_Md_readSeries_50 : dd m_Md_readSeries 50 (.iconst 1) 1 51 := ⟨by decide +kernel, rfl⟩
theorem d_Md_readSeries_51 : db m_Md_readSeries 51 .goto 54 55 := ⟨4, by decide +kernel, rfl, rfl⟩
theorem d_Md_readSeries_54 : dd m_Md_readSeries 54 (.iconst 0) 1 55 := ⟨by decide +kernel, rfl⟩
theorem d_Md_readSeries_55 : dd m_Md_readSeries 55 .iastore 1 56 := ⟨by decide +kernel, rfl⟩
theorem d_Md_readSeries_56 : dd m_Md_readSeries 56 (.iinc 1 1) 3 59 := ⟨by decide +kernel, rfl⟩
theorem d_Md_readSeries_59 : db m_Md_readSeries 59 .goto 62 35 := ⟨(-24), by decide +kernel, rfl, rfl⟩
theorem d_Md_readSeries_62 : dd m_Md_readSeries 62 (.aload_n 0) 1 63 := ⟨by decide +kernel, rfl⟩
theorem d_Md_readSeries_63 : dd m_Md_readSeries 63 (.bipush 111) 2 65 := ⟨by decide +kernel, rfl⟩
theorem d_Md_readSeries_65 : dd m_Md_readSeries 65 (.bipush 118) 2 67 := ⟨by decide +kernel, rfl⟩
theorem d_Md_readSeries_67 : dd m_Md_readSeries 67 (.bipush 101) 2 69 := ⟨by decide +kernel, rfl⟩
theorem d_Md_readSeries_69 : dd m_Md_readSeries 69 (.bipush 114) 2 71 := ⟨by decide +kernel, rfl⟩
theorem d_Md_readSeries_71 : dd m_Md_readSeries 71 (.iconst 0) 1 72 := ⟨by decide +kernel, rfl⟩
theorem d_Md_readSeries_72 : dd m_Md_readSeries 72 (.iconst 0) 1 73 := ⟨by decide +kernel, rfl⟩
theorem d_Md_readSeries_73 : dd m_Md_readSeries 73 (.invokevirtual 129) 3 76 := ⟨by decide +kernel, rfl⟩
theorem d_Md_readSeries_76 : db m_Md_readSeries 76 (.ifCond .eq) 79 97 := ⟨21, by decide +kernel, rfl, rfl⟩
theorem d_Md_readSeries_79 : dd m_Md_readSeries 79 (.aload_n 0) 1 80 := ⟨by decide +kernel, rfl⟩
theorem d_Md_readSeries_80 : dd m_Md_readSeries 80 (.invokevirtual 112) 3 83 := ⟨by decide +kernel, rfl⟩
theorem d_Md_readSeries_83 : dd m_Md_readSeries 83 (.aload_n 0) 1 84 := ⟨by decide +kernel, rfl⟩
theorem d_Md_readSeries_84 : dd m_Md_readSeries 84 (.aload_n 0) 1 85 := ⟨by decide +kernel, rfl⟩
theorem d_Md_readSeries_85 : dd m_Md_readSeries 85 (.getfield 75) 3 88 := ⟨by decide +kernel, rfl⟩
theorem d_Md_readSeries_88 : dd m_Md_readSeries 88 (.iconst 1) 1 89 := ⟨by decide +kernel, rfl⟩
theorem d_Md_readSeries_89 : dd m_Md_readSeries 89 (.invokevirtual 125) 3 92 := ⟨by decide +kernel, rfl⟩
theorem d_Md_readSeries_92 : db m_Md_readSeries 92 (.ifCond .ne) 95 97 := ⟨5, by decide +kernel, rfl, rfl⟩
theorem d_Md_readSeries_95 : dd m_Md_readSeries 95 (.iconst 0) 1 96 := ⟨by decide +kernel, rfl⟩
theorem d_Md_readSeries_96 : decode (mbt m_Md_readSeries) 96 = .ok (.ireturn, 1) := by decide +kernel
theorem d_Md_readSeries_97 : dd m_Md_readSeries 97 (.aload_n 0) 1 98 := ⟨by decide +kernel, rfl⟩
theorem d_Md_readSeries_98 : dd m_Md_readSeries 98 (.getfield 72) 3 101 := ⟨by decide +kernel, rfl⟩
theorem d_Md_readSeries_101 : dd m_Md_readSeries 101 (.aload_n 0) 1 102 := ⟨by decide +kernel, rfl⟩
theorem d_Md_readSeries_102 : dd m_Md_readSeries 102 (.getfield 75) 3 105 := ⟨by decide +kernel, rfl⟩
theorem d_Md_readSeries_105 : dd m_Md_readSeries 105 (.aload_n 0) 1 106 := ⟨by decide +kernel, rfl⟩
theorem d_Md_readSeries_106 : dd m_Md_readSeries 106 (.getfield 78) 3 109 := ⟨by decide +kernel, rfl⟩
theorem d_Md_readSeries_109 : dd m_Md_readSeries 109 (.aload_n 0) 1 110 := ⟨by decide +kernel, rfl⟩
theorem d_Md_readSeries_110 : dd m_Md_readSeries 110 (.getfield 59) 3 113 := ⟨by decide +kernel, rfl⟩
theorem d_Md_readSeries_113 : dd m_Md_readSeries 113 (.iconst 0) 1 114 := ⟨by decide +kernel, rfl⟩
theorem d_Md_readSeries_114 : dd m_Md_readSeries 114 .iaload 1 115 := ⟨by decide +kernel, rfl⟩
theorem d_Md_readSeries_115 : dd m_Md_readSeries 115 (.invokestatic 133) 3 118 := ⟨by decide +kernel, rfl⟩
theorem d_Md_readSeries_118 : dd m_Md_readSeries 118 (.iconst 0) 1 119 := ⟨by decide +kernel, rfl⟩
theorem d_Md_readSeries_119 : dd m_Md_readSeries 119 (.istore_n 1) 1 120 := ⟨by decide +kernel, rfl⟩
theorem d_Md_readSeries_120 : dd m_Md_readSeries 120 (.iload_n 1) 1 121 := ⟨by decide +kernel, rfl⟩
theorem d_Md_readSeries_121 : dd m_Md_readSeries 121 (.aload_n 0) 1 122 := ⟨by decide +kernel, rfl⟩
theorem d_Md_readSeries_122 : dd m_Md_readSeries 122 (.getfield 59) 3 125 := ⟨by decide +kernel, rfl⟩
theorem d_Md_readSeries_125 : dd m_Md_readSeries 125 (.iconst 0) 1 126 := ⟨by decide +kernel, rfl⟩
theorem d_Md_readSeries_126 : dd m_Md_readSeries 126 .iaload 1 127 := ⟨by decide +kernel, rfl⟩
theorem d_Md_readSeries_127 : db m_Md_readSeries 127 (.if_icmp .ge) 130 158 := ⟨31, by decide +kernel, rfl, rfl⟩
theorem d_Md_readSeries_130 : dd m_Md_readSeries 130 (.aload_n 0) 1 131 := ⟨by decide +kernel, rfl⟩
theorem d_Md_readSeries_131 : dd m_Md_readSeries 131 (.getfield 59) 3 134 := ⟨by decide +kernel, rfl⟩
theorem d_Md_readSeries_134 : dd m_Md_readSeries 134 (.iconst 1) 1 135 := ⟨by decide +kernel, rfl⟩
theorem d_Md_readSeries_135 : dd m_Md_readSeries 135 (.bipush 10) 2 137 := ⟨by decide +kernel, rfl⟩
theorem d_Md_readSeries_137 : dd m_Md_readSeries 137 (.aload_n 0) 1 138 := ⟨by decide +kernel, rfl⟩
theorem d_Md_readSeries_138 : dd m_Md_readSeries 138 (.getfield 122) 3 141 := ⟨by decide +kernel, rfl⟩
theorem d_Md_readSeries_141 : dd m_Md_readSeries 141 .imul 1 142 := ⟨by decide +kernel, rfl⟩
theorem d_Md_readSeries_142 : dd m_Md_readSeries 142 .iadd 1 143 := ⟨by decide +kernel, rfl⟩
theorem d_Md_readSeries_143 : dd m_Md_readSeries 143 (.iload_n 1) 1 144 := ⟨by decide +kernel, rfl⟩
theorem d_Md_readSeries_144 : dd m_Md_readSeries 144 .iadd 1 145 := ⟨by decide +kernel, rfl⟩
theorem d_Md_readSeries_145 : dd m_Md_readSeries 145 (.aload_n 0) 1 146 := ⟨by decide +kernel, rfl⟩
theorem d_Md_readSeries_146 : dd m_Md_readSeries 146 (.getfield 78) 3 149 := ⟨by decide +kernel, rfl⟩
theorem d_Md_readSeries_149 : dd m_Md_readSeries 149 (.iload_n 1) 1 150 := ⟨by decide +kernel, rfl⟩
theorem d_Md_readSeries_150 : dd m_Md_readSeries 150 .iaload 1 151 := ⟨by decide +kernel, rfl⟩
theorem d_Md_readSeries_151 : dd m_Md_readSeries 151 .iastore 1 152 := ⟨by decide +kernel, rfl⟩
theorem d_Md_readSeries_152 : dd m_Md_readSeries 152 (.iinc 1 1) 3 155 := ⟨by decide +kernel, rfl⟩
theorem d_Md_readSeries_155 : db m_Md_readSeries 155 .goto 158 120 := ⟨(-35), by decide +kernel, rfl, rfl⟩
theorem d_Md_readSeries_158 : dd m_Md_readSeries 158 (.aload_n 0) 1 159 := ⟨by decide +kernel, rfl⟩
theorem d_Md_readSeries_159 : dd m_Md_readSeries 159 .dup 1 160 := ⟨by decide +kernel, rfl⟩
theorem d_Md_readSeries_160 : dd m_Md_readSeries 160 (.getfield 122) 3 163 := ⟨by decide +kernel, rfl⟩
theorem d_Md_readSeries_163 : dd m_Md_readSeries 163 (.iconst 1) 1 164 := ⟨by decide +kernel, rfl⟩
theorem d_Md_readSeries_164 : dd m_Md_readSeries 164 .iadd 1 165 := ⟨by decide +kernel, rfl⟩
theorem d_Md_readSeries_165 : dd m_Md_readSeries 165 (.putfield 122) 3 168 := ⟨by decide +kernel, rfl⟩
theorem d_Md_readSeries_168 : dd m_Md_readSeries 168 (.iconst 1) 1 169 := ⟨by decide +kernel, rfl⟩
theorem d_Md_readSeries_169 : decode (mbt m_Md_readSeries) 169 = .ok (.ireturn, 1) := by decide +kernel
theorem d_Md_readSum_0 : dd m_Md_readSum 0 (.iconst 0) 1 1 := ⟨by decide +kernel, rfl⟩
theorem d_Md_readSum_1 : dd m_Md_readSum 1 (.istore_n 3) 1 2 := ⟨by decide +kernel, rfl⟩
theorem d_Md_readSum_2 : dd m_Md_readSum 2 (.iload_n 3) 1 3 := ⟨by decide +kernel, rfl⟩
theorem d_Md_readSum_3 : dd m_Md_readSum 3 (.bipush 10) 2 5 := ⟨by decide +kernel, rfl⟩
theorem d_Md_readSum_5 : db m_Md_readSum 5 (.if_icmp .ge) 8 18 := ⟨13, by decide +kernel, rfl, rfl⟩
theorem d_Md_readSum_8 : dd m_Md_readSum 8 (.aload_n 1) 1 9 := ⟨by decide +kernel, rfl⟩
theorem d_Md_readSum_9 : dd m_Md_readSum 9 (.iload_n 3) 1 10 := ⟨by decide +kernel, rfl⟩
theorem d_Md_readSum_10 : dd m_Md_readSum 10 (.iconst 0) 1 11 := ⟨by decide +kernel, rfl⟩
theorem d_Md_readSum_11 : dd m_Md_readSum 11 .iastore 1 12 := ⟨by decide +kernel, rfl⟩
theorem d_Md_readSum_12 : dd m_Md_readSum 12 (.iinc 3 1) 3 15 := ⟨by decide +kernel, rfl⟩
theorem d_Md_readSum_15 : db m_Md_readSum 15 .goto 18 2 := ⟨(-13), by decide +kernel, rfl, rfl⟩
theorem d_Md_readSum_18 : dd m_Md_readSum 18 (.iconst 0) 1 19 := ⟨by decide +kernel, rfl⟩
theorem d_Md_readSum_19 : dd m_Md_readSum 19 (.istore_n 3) 1 20 := ⟨by decide +kernel, rfl⟩
theorem d_Md_readSum_20 : dd m_Md_readSum 20 (.iload_n 3) 1 21 := ⟨by decide +kernel, rfl⟩
theorem d_Md_readSum_21 : db m_Md_readSum 21 (.ifCond .eq) 24 40 := ⟨19, by decide +kernel, rfl, rfl⟩
theorem d_Md_readSum_24 : dd m_Md_readSum 24 (.aload_n 0) 1 25 := ⟨by decide +kernel, rfl⟩
theorem d_Md_readSum_25 : dd m_Md_readSum 25 (.getfield 27) 3 28 := ⟨by decide +kernel, rfl⟩
theorem d_Md_readSum_28 : dd m_Md_readSum 28 (.iconst 3) 1 29 := ⟨by decide +kernel, rfl⟩
theorem d_Md_readSum_29 : db m_Md_readSum 29 (.if_icmp .eq) 32 40 := ⟨11, by decide +kernel, rfl, rfl⟩
theorem d_Md_readSum_32 : dd m_Md_readSum 32 (.aload_n 0) 1 33 := ⟨by decide +kernel, rfl⟩
theorem d_Md_readSum_33 : dd m_Md_readSum 33 (.getfield 27) 3 36 := ⟨by decide +kernel, rfl⟩
theorem d_Md_readSum_36 : dd m_Md_readSum 36 (.iconst 5) 1 37 := ⟨by decide +kernel, rfl⟩
theorem d_Md_readSum_37 : db m_Md_readSum 37 (.if_icmp .ne) 40 150 := ⟨113, by decide +kernel, rfl, rfl⟩
theorem d_Md_readSum_40 : dd m_Md_readSum 40 (.iload_n 3) 1 41 := ⟨by decide +kernel, rfl⟩
theorem d_Md_readSum_41 : dd m_Md_readSum 41 (.aload_n 0) 1 42 := ⟨by decide +kernel, rfl⟩
theorem d_Md_readSum_42 : dd m_Md_readSum 42 (.getfield 59) 3 45 := ⟨by decide +kernel, rfl⟩
theorem d_Md_readSum_45 : dd m_Md_readSum 45 (.iconst 0) 1 46 := ⟨by decide +kernel, rfl⟩
theorem d_Md_readSum_46 : dd m_Md_readSum 46 .iaload 1 47 := ⟨by decide +kernel, rfl⟩
theorem d_Md_readSum_47 : db m_Md_readSum 47 (.if_icmp .ne) 50 56 := ⟨9, by decide +kernel, rfl, rfl⟩
theorem d_Md_readSum_50 : dd m_Md_readSum 50 (.aload_n 0) 1 51 := ⟨by decide +kernel, rfl⟩
theorem d_Md_readSum_51 : dd m_Md_readSum 51 (.iconst 1) 1 52 := ⟨by decide +kernel, rfl⟩
theorem d_Md_readSum_52 : dd m_Md_readSum 52 (.invokevirtual 115) 3 55 := ⟨by decide +kernel, rfl⟩
theorem d_Md_readSum_55 : decode (mbt m_Md_readSum) 55 = .ok (.ireturn, 1) := by decide +kernel
theorem d_Md_readSum_56 : dd m_Md_readSum 56 (.aload_n 0) 1 57 := ⟨by decide +kernel, rfl⟩
theorem d_Md_readSum_57 : dd m_Md_readSum 57 (.getfield 27) 3 60 := ⟨by decide +kernel, rfl⟩
theorem d_Md_readSum_60 : dd m_Md_readSum 60 (.iconst 5) 1 61 := ⟨by decide +kernel, rfl⟩
theorem d_Md_readSum_61 : db m_Md_readSum 61 (.if_icmp .ne) 64 68 := ⟨7, by decide +kernel, rfl, rfl⟩
theorem d_Md_readSum_64 : dd m_Md_readSum 64 (.iconst 1) 1 65 := ⟨by decide +kernel, rfl⟩
theorem d_Md_readSum_65 : db m_Md_readSum 65 .goto 68 69 := ⟨4, by decide +kernel, rfl, rfl⟩
theorem d_Md_readSum_68 : dd m_Md_readSum 68 (.iconst 0) 1 69 := ⟨by decide +kernel, rfl⟩
theorem d_Md_readSum_69 : dd m_Md_readSum 69 (.istore 4) 2 71 := ⟨by decide +kernel, rfl⟩
theorem d_Md_readSum_71 : dd m_Md_readSum 71 (.iload 4) 2 73 := ⟨by decide +kernel, rfl⟩
theorem d_Md_readSum_73 : db m_Md_readSum 73 (.ifCond .eq) 76 80 := ⟨7, by decide +kernel, rfl, rfl⟩
theorem d_Md_readSum_76 : dd m_Md_readSum 76 (.aload_n 0) 1 77 := ⟨by decide +kernel, rfl⟩
theorem d_Md_readSum_77 : dd m_Md_readSum 77 (.invokevirtual 112) 3 80 := ⟨by decide +kernel, rfl⟩
theorem d_Md_readSum_80 : dd m_Md_readSum 80 (.aload_n 0) 1 81 := ⟨by decide +kernel, rfl⟩
theorem d_Md_readSum_81 : dd m_Md_readSum 81 (.getfield 27) 3 84 := ⟨by decide +kernel, rfl⟩
theorem d_Md_readSum_84 : dd m_Md_readSum 84 (.iconst 3) 1 85 := ⟨by decide +kernel, rfl⟩
theorem d_Md_readSum_85 : db m_Md_readSum 85 (.if_icmp .eq) 88 94 := ⟨9, by decide +kernel, rfl, rfl⟩
theorem d_Md_readSum_88 : dd m_Md_readSum 88 (.aload_n 0) 1 89 := ⟨by decide +kernel, rfl⟩
theorem d_Md_readSum_89 : dd m_Md_readSum 89 (.iconst 1) 1 90 := ⟨by decide +kernel, rfl⟩
theorem d_Md_readSum_90 : dd m_Md_readSum 90 (.invokevirtual 115) 3 93 := ⟨by decide +kernel, rfl⟩
theorem d_Md_readSum_93 : decode (mbt m_Md_readSum) 93 = .ok (.ireturn, 1) := by decide +kernel
theorem d_Md_readSum_94 : dd m_Md_readSum 94 (.iload_n 2) 1 95 := ⟨by decide +kernel, rfl⟩
theorem d_Md_readSum_95 : db m_Md_readSum 95 (.ifCond .eq) 98 115 := ⟨20, by decide +kernel, rfl, rfl⟩
theorem d_Md_readSum_98 : dd m_Md_readSum 98 (.iload_n 3) 1 99 := ⟨by decide +kernel, rfl⟩
theorem d_Md_readSum_99 : db m_Md_readSum 99 (.ifCond .ne) 102 115 := ⟨16, by decide +kernel, rfl, rfl⟩
theorem d_Md_readSum_102 : dd m_Md_readSum 102 (.aload_n 0) 1 103 := ⟨by decide +kernel, rfl⟩
theorem d_Md_readSum_103 : dd m_Md_readSum 103 (.getfield 37) 3 106 := ⟨by decide +kernel, rfl⟩
theorem d_Md_readSum_106 : db m_Md_readSum 106 (.ifCond .ne) 109 115 := ⟨9, by decide +kernel, rfl, rfl⟩
theorem d_Md_readSum_109 : dd m_Md_readSum 109 (.aload_n 0) 1 110 := ⟨by decide +kernel, rfl⟩
theorem d_Md_readSum_110 : dd m_Md_readSum 110 (.iconst 2) 1 111 := ⟨by decide +kernel, rfl⟩
theorem d_Md_readSum_111 : dd m_Md_readSum 111 (.invokevirtual 115) 3 114 := ⟨by decide +kernel, rfl⟩
theorem d_Md_readSum_114 : decode (mbt m_Md_readSum) 114 = .ok (.ireturn, 1) := by decide +kernel
theorem d_Md_readSum_115 : dd m_Md_readSum 115 (.aload_n 1) 1 116 := ⟨by decide +kernel, rfl⟩
theorem d_Md_readSum_116 : dd m_Md_readSum 116 (.iload_n 3) 1 117 := ⟨by decide +kernel, rfl⟩
theorem d_Md_readSum_117 : dd m_Md_readSum 117 (.iload 4) 2 119 := ⟨by decide +kernel, rfl⟩
theorem d_Md_readSum_119 : db m_Md_readSum 119 (.ifCond .eq) 122 131 := ⟨12, by decide +kernel, rfl, rfl⟩
theorem d_Md_readSum_122 : dd m_Md_readSum 122 (.aload_n 0) 1 123 := ⟨by decide +kernel, rfl⟩
theorem d_Md_readSum_123 : dd m_Md_readSum 123 (.getfield 37) 3 126 := ⟨by decide +kernel, rfl⟩
theorem d_Md_readSum_126 : dd m_Md_readSum 126 .ineg 1 127 := ⟨by decide +kernel, rfl⟩
theorem d_Md_readSum_127 : dd m_Md_readSum 127 .i2l 1 128 := ⟨by decide +kernel, rfl⟩
theorem d_Md_readSum_128 : db m_Md_readSum 128 .goto 131 136 := ⟨8, by decide +kernel, rfl, rfl⟩
theorem d_Md_readSum_131 : dd m_Md_readSum 131 (.aload_n 0) 1 132 := ⟨by decide +kernel, rfl⟩
theorem d_Md_readSum_132 : dd m_Md_readSum 132 (.getfield 37) 3 135 := ⟨by decide +kernel, rfl⟩
theorem d_Md_readSum_135 : dd m_Md_readSum 135 .i2l 1 136 := ⟨by decide +kernel, rfl⟩
theorem d_Md_readSum_136 : dd m_Md_readSum 136 (.invokestatic 109) 3 139 := ⟨by decide +kernel, rfl⟩
theorem d_Md_readSum_139 : dd m_Md_readSum 139 .iastore 1 140 := ⟨by decide +kernel, rfl⟩
theorem d_Md_readSum_140 : dd m_Md_readSum 140 (.iinc 3 1) 3 143 := ⟨by decide +kernel, rfl⟩
theorem d_Md_readSum_143 : dd m_Md_readSum 143 (.aload_n 0) 1 144 := ⟨by decide +kernel, rfl⟩
theorem d_Md_readSum_144 : dd m_Md_readSum 144 (.invokevirtual 112) 3 147 := ⟨by decide +kernel, rfl⟩
theorem d_Md_readSum_147 : db m_Md_readSum 147 .goto 150 20 := ⟨(-127), by decide +kernel, rfl, rfl⟩
theorem d_Md_readSum_150 : dd m_Md_readSum 150 (.iconst 1) 1 151 := ⟨by decide +kernel, rfl⟩
theorem d_Md_readSum_151 : decode (mbt m_Md_readSum) 151 = .ok (.ireturn, 1) := by decide +kernel
theorem d_Md_rest_0 : dd m_Md_rest 0 (.lload_n 0) 1 1 := ⟨by decide +kernel, rfl⟩
theorem d_Md_rest_1 : dd m_Md_rest 1 (.ldc2_w 102) 3 4 := ⟨by decide +kernel, rfl⟩
theorem d_Md_rest_4 : dd m_Md_rest 4 .lrem 1 5 := ⟨by decide +kernel, rfl⟩
theorem d_Md_rest_5 : dd m_Md_rest 5 (.lstore_n 2) 1 6 := ⟨by decide +kernel, rfl⟩
theorem d_Md_rest_6 : dd m_Md_rest 6 (.lload_n 2) 1 7 := ⟨by decide +kernel, rfl⟩
theorem d_Md_rest_7 : dd m_Md_rest 7 (.lconst 0) 1 8 := ⟨by decide +kernel, rfl⟩
theorem d_Md_rest_8 : dd m_Md_rest 8 .lcmp 1 9 := ⟨by decide +kernel, rfl⟩
theorem d_Md_rest_9 : db m_Md_rest 9 (.ifCond .ge) 12 20 := ⟨11, by decide +kernel, rfl, rfl⟩
theorem d_Md_rest_12 : dd m_Md_rest 12 (.lload_n 2) 1 13 := ⟨by decide +kernel, rfl⟩
theorem d_Md_rest_13 : dd m_Md_rest 13 (.ldc2_w 102) 3 16 := ⟨by decide +kernel, rfl⟩
theorem d_Md_rest_16 : dd m_Md_rest 16 .ladd 1 17 := ⟨by decide +kernel, rfl⟩
theorem d_Md_rest_17 : db m_Md_rest 17 .goto 20 21 := ⟨4, by decide +kernel, rfl, rfl⟩
theorem d_Md_rest_20 : dd m_Md_rest 20 (.lload_n 2) 1 21 := ⟨by decide +kernel, rfl⟩
theorem d_Md_rest_21 : dd m_Md_rest 21 .l2i 1 22 := ⟨by decide +kernel, rfl⟩
theorem d_Md_rest_22 : decode (mbt m_Md_rest) 22 = .ok (.ireturn, 1) := by decide +kernel
theorem d_Md_divides_0 : dd m_Md_divides 0 (.aload_n 1) 1 1 := ⟨by decide +kernel, rfl⟩
theorem d_Md_divides_1 : dd m_Md_divides 1 (.iconst 0) 1 2 := ⟨by decide +kernel, rfl⟩
theorem d_Md_divides_2 : dd m_Md_divides 2 .iaload 1 3 := ⟨by decide +kernel, rfl⟩
theorem d_Md_divides_3 : dd m_Md_divides 3 .i2l 1 4 := ⟨by decide +kernel, rfl⟩
theorem d_Md_divides_4 : dd m_Md_divides 4 (.invokestatic 105) 3 7 := ⟨by decide +kernel, rfl⟩
theorem d_Md_divides_7 : dd m_Md_divides 7 (.istore 4) 2 9 := ⟨by decide +kernel, rfl⟩
theorem d_Md_divides_9 : dd m_Md_divides 9 (.iconst 0) 1 10 := ⟨by decide +kernel, rfl⟩
theorem d_Md_divides_10 : dd m_Md_divides 10 (.istore 5) 2 12 := ⟨by decide +kernel, rfl⟩
theorem d_Md_divides_12 : dd m_Md_divides 12 (.iload 5) 2 14 := ⟨by decide +kernel, rfl⟩
theorem d_Md_divides_14 : dd m_Md_divides 14 (.iload_n 3) 1 15 := ⟨by decide +kernel, rfl⟩
theorem d_Md_divides_15 : db m_Md_divides 15 (.if_icmp .ge) 18 89 := ⟨74, by decide +kernel, rfl, rfl⟩
theorem d_Md_divides_18 : dd m_Md_divides 18 (.aload_n 0) 1 19 := ⟨by decide +kernel, rfl⟩
theorem d_Md_divides_19 : dd m_Md_divides 19 (.iload 5) 2 21 := ⟨by decide +kernel, rfl⟩
theorem d_Md_divides_21 : dd m_Md_divides 21 .iaload 1 22 := ⟨by decide +kernel, rfl⟩
theorem d_Md_divides_22 : dd m_Md_divides 22 .i2l 1 23 := ⟨by decide +kernel, rfl⟩
theorem d_Md_divides_23 : dd m_Md_divides 23 (.lstore 6) 2 25 := ⟨by decide +kernel, rfl⟩
theorem d_Md_divides_25 : dd m_Md_divides 25 (.iconst 1) 1 26 := ⟨by decide +kernel, rfl⟩
theorem d_Md_divides_26 : dd m_Md_divides 26 (.istore 8) 2 28 := ⟨by decide +kernel, rfl⟩
theorem d_Md_divides_28 : dd m_Md_divides 28 (.iload 8) 2 30 := ⟨by decide +kernel, rfl⟩
theorem d_Md_divides_30 : dd m_Md_divides 30 (.iload 5) 2 32 := ⟨by decide +kernel, rfl⟩
theorem d_Md_divides_32 : db m_Md_divides 32 (.if_icmp .gt) 35 64 := ⟨32, by decide +kernel, rfl, rfl⟩
theorem d_Md_divides_35 : dd m_Md_divides 35 (.lload 6) 2 37 := ⟨by decide +kernel, rfl⟩
theorem d_Md_divides_37 : dd m_Md_divides 37 (.aload_n 1) 1 38 := ⟨by decide +kernel, rfl⟩
theorem d_Md_divides_38 : dd m_Md_divides 38 (.iload 8) 2 40 := ⟨by decide +kernel, rfl⟩
theorem d_Md_divides_40 : dd m_Md_divides 40 .iaload 1 41 := ⟨by decide +kernel, rfl⟩
theorem d_Md_divides_41 : dd m_Md_divides 41 .i2l 1 42 := ⟨by decide +kernel, rfl⟩
theorem d_Md_divides_42 : dd m_Md_divides 42 (.aload_n 2) 1 43 := ⟨by decide +kernel, rfl⟩
theorem d_Md_divides_43 : dd m_Md_divides 43 (.iload 5) 2 45 := ⟨by decide +kernel, rfl⟩
theorem d_Md_divides_45 : dd m_Md_divides 45 (.iload 8) 2 47 := ⟨by decide +kernel, rfl⟩
theorem d_Md_divides_47 : dd m_Md_divides 47 .isub 1 48 := ⟨by decide +kernel, rfl⟩
theorem d_Md_divides_48 : dd m_Md_divides 48 .iaload 1 49 := ⟨by decide +kernel, rfl⟩
theorem d_Md_divides_49 : dd m_Md_divides 49 .i2l 1 50 := ⟨by decide +kernel, rfl⟩
theorem d_Md_divides_50 : dd m_Md_divides 50 .lmul 1 51 := ⟨by decide +kernel, rfl⟩
theorem d_Md_divides_51 : dd m_Md_divides 51 (.ldc2_w 102) 3 54 := ⟨by decide +kernel, rfl⟩
theorem d_Md_divides_54 : dd m_Md_divides 54 .lrem 1 55 := ⟨by decide +kernel, rfl⟩
theorem d_Md_divides_55 : dd m_Md_divides 55 .lsub 1 56 := ⟨by decide +kernel, rfl⟩
theorem d_Md_divides_56 : dd m_Md_divides 56 (.lstore 6) 2 58 := ⟨by decide +kernel, rfl⟩
theorem d_Md_divides_58 : dd m_Md_divides 58 (.iinc 8 1) 3 61 := ⟨by decide +kernel, rfl⟩
theorem d_Md_divides_61 : db m_Md_divides 61 .goto 64 28 := ⟨(-33), by decide +kernel, rfl, rfl⟩
theorem d_Md_divides_64 : dd m_Md_divides 64 (.aload_n 2) 1 65 := ⟨by decide +kernel, rfl⟩
theorem d_Md_divides_65 : dd m_Md_divides 65 (.iload 5) 2 67 := ⟨by decide +kernel, rfl⟩
theorem d_Md_divides_67 : dd m_Md_divides 67 (.lload 6) 2 69 := ⟨by decide +kernel, rfl⟩
theorem d_Md_divides_69 : dd m_Md_divides 69 (.invokestatic 109) 3 72 := ⟨by decide +kernel, rfl⟩
theorem d_Md_divides_72 : dd m_Md_divides 72 .i2l 1 73 := ⟨by decide +kernel, rfl⟩
theorem d_Md_divides_73 : dd m_Md_divides 73 (.iload 4) 2 75 := ⟨by decide +kernel, rfl⟩
theorem d_Md_divides_75 : dd m_Md_divides 75 .i2l 1 76 := ⟨by decide +kernel, rfl⟩
theorem d_Md_divides_76 : dd m_Md_divides 76 .lmul 1 77 := ⟨by decide +kernel, rfl⟩
theorem d_Md_divides_77 : dd m_Md_divides 77 (.ldc2_w 102) 3 80 := ⟨by decide +kernel, rfl⟩
theorem d_Md_divides_80 : dd m_Md_divides 80 .lrem 1 81 := ⟨by decide +kernel, rfl⟩
theorem d_Md_divides_81 : dd m_Md_divides 81 .l2i 1 82 := ⟨by decide +kernel, rfl⟩
theorem d_Md_divides_82 : dd m_Md_divides 82 .iastore 1 83 := ⟨by decide +kernel, rfl⟩
theorem d_Md_divides_83 : dd m_Md_divides 83 (.iinc 5 1) 3 86 := ⟨by decide +kernel, rfl⟩
theorem d_Md_divides_86 : db m_Md_divides 86 .goto 89 12 := ⟨(-74), by decide +kernel, rfl, rfl⟩
theorem d_Md_divides_89 : decode (mbt m_Md_divides) 89 = .ok (.return_, 1) := by decide +kernel
theorem d_Md_turned_0 : dd m_Md_turned 0 (.lload_n 0) 1 1 := ⟨by decide +kernel, rfl⟩
theorem d_Md_turned_1 : dd m_Md_turned 1 (.lstore_n 2) 1 2 := ⟨by decide +kernel, rfl⟩
theorem d_Md_turned_2 : dd m_Md_turned 2 (.lconst 1) 1 3 := ⟨by decide +kernel, rfl⟩
theorem d_Md_turned_3 : dd m_Md_turned 3 (.lstore 4) 2 5 := ⟨by decide +kernel, rfl⟩
theorem d_Md_turned_5 : dd m_Md_turned 5 (.ldc 104) 2 7 := ⟨by decide +kernel, rfl⟩
theorem d_Md_turned_7 : dd m_Md_turned 7 (.istore 6) 2 9 := ⟨by decide +kernel, rfl⟩
theorem d_Md_turned_9 : dd m_Md_turned 9 (.iload 6) 2 11 := ⟨by decide +kernel, rfl⟩
theorem d_Md_turned_11 : db m_Md_turned 11 (.ifCond .le) 14 49 := ⟨38, by decide +kernel, rfl, rfl⟩
theorem d_Md_turned_14 : dd m_Md_turned 14 (.iload 6) 2 16 := ⟨by decide +kernel, rfl⟩
theorem d_Md_turned_16 : dd m_Md_turned 16 (.iconst 1) 1 17 := ⟨by decide +kernel, rfl⟩
theorem d_Md_turned_17 : dd m_Md_turned 17 .iand 1 18 := ⟨by decide +kernel, rfl⟩
theorem d_Md_turned_18 : dd m_Md_turned 18 (.iconst 1) 1 19 := ⟨by decide +kernel, rfl⟩
theorem d_Md_turned_19 : db m_Md_turned 19 (.if_icmp .ne) 22 32 := ⟨13, by decide +kernel, rfl, rfl⟩
theorem d_Md_turned_22 : dd m_Md_turned 22 (.lload 4) 2 24 := ⟨by decide +kernel, rfl⟩
theorem d_Md_turned_24 : dd m_Md_turned 24 (.lload_n 2) 1 25 := ⟨by decide +kernel, rfl⟩
theorem d_Md_turned_25 : dd m_Md_turned 25 .lmul 1 26 := ⟨by decide +kernel, rfl⟩
theorem d_Md_turned_26 : dd m_Md_turned 26 (.ldc2_w 102) 3 29 := ⟨by decide +kernel, rfl⟩
theorem d_Md_turned_29 : dd m_Md_turned 29 .lrem 1 30 := ⟨by decide +kernel, rfl⟩
theorem d_Md_turned_30 : dd m_Md_turned 30 (.lstore 4) 2 32 := ⟨by decide +kernel, rfl⟩
theorem d_Md_turned_32 : dd m_Md_turned 32 (.lload_n 2) 1 33 := ⟨by decide +kernel, rfl⟩
theorem d_Md_turned_33 : dd m_Md_turned 33 (.lload_n 2) 1 34 := ⟨by decide +kernel, rfl⟩
theorem d_Md_turned_34 : dd m_Md_turned 34 .lmul 1 35 := ⟨by decide +kernel, rfl⟩
theorem d_Md_turned_35 : dd m_Md_turned 35 (.ldc2_w 102) 3 38 := ⟨by decide +kernel, rfl⟩
theorem d_Md_turned_38 : dd m_Md_turned 38 .lrem 1 39 := ⟨by decide +kernel, rfl⟩
theorem d_Md_turned_39 : dd m_Md_turned 39 (.lstore_n 2) 1 40 := ⟨by decide +kernel, rfl⟩
theorem d_Md_turned_40 : dd m_Md_turned 40 (.iload 6) 2 42 := ⟨by decide +kernel, rfl⟩
theorem d_Md_turned_42 : dd m_Md_turned 42 (.iconst 1) 1 43 := ⟨by decide +kernel, rfl⟩
theorem d_Md_turned_43 : dd m_Md_turned 43 .ishr 1 44 := ⟨by decide +kernel, rfl⟩
theorem d_Md_turned_44 : dd m_Md_turned 44 (.istore 6) 2 46 := ⟨by decide +kernel, rfl⟩
theorem d_Md_turned_46 : db m_Md_turned 46 .goto 49 9 := ⟨(-37), by decide +kernel, rfl, rfl⟩
theorem d_Md_turned_49 : dd m_Md_turned 49 (.lload 4) 2 51 := ⟨by decide +kernel, rfl⟩
theorem d_Md_turned_51 : dd m_Md_turned 51 .l2i 1 52 := ⟨by decide +kernel, rfl⟩
theorem d_Md_turned_52 : decode (mbt m_Md_turned) 52 = .ok (.ireturn, 1) := by decide +kernel
theorem d_Md_readTable_0 : dd m_Md_readTable 0 (.aload_n 0) 1 1 := ⟨by decide +kernel, rfl⟩
theorem d_Md_readTable_1 : dd m_Md_readTable 1 (.getfield 137) 3 4 := ⟨by decide +kernel, rfl⟩
theorem d_Md_readTable_4 : dd m_Md_readTable 4 (.iconst 4) 1 5 := ⟨by decide +kernel, rfl⟩
theorem d_Md_readTable_5 : db m_Md_readTable 5 (.if_icmp .ne) 8 14 := ⟨9, by decide +kernel, rfl, rfl⟩
theorem d_Md_readTable_8 : dd m_Md_readTable 8 (.aload_n 0) 1 9 := ⟨by decide +kernel, rfl⟩
theorem d_Md_readTable_9 : dd m_Md_readTable 9 (.iconst 3) 1 10 := ⟨by decide +kernel, rfl⟩
theorem d_Md_readTable_10 : dd m_Md_readTable 10 (.invokevirtual 115) 3 13 := ⟨by decide +kernel, rfl⟩
theorem d_Md_readTable_13 : decode (mbt m_Md_readTable) 13 = .ok (.ireturn, 1) := by decide +kernel
theorem d_Md_readTable_14 : dd m_Md_readTable 14 (.aload_n 0) 1 15 := ⟨by decide +kernel, rfl⟩
theorem d_Md_readTable_15 : dd m_Md_readTable 15 (.invokevirtual 112) 3 18 := ⟨by decide +kernel, rfl⟩
theorem d_Md_readTable_18 : dd m_Md_readTable 18 (.iconst 0) 1 19 := ⟨by decide +kernel, rfl⟩
theorem d_Md_readTable_19 : dd m_Md_readTable 19 (.istore_n 1) 1 20 := ⟨by decide +kernel, rfl⟩
theorem d_Md_readTable_20 : dd m_Md_readTable 20 (.iconst 0) 1 21 := ⟨by decide +kernel, rfl⟩
theorem d_Md_readTable_21 : dd m_Md_readTable 21 (.istore_n 2) 1 22 := ⟨by decide +kernel, rfl⟩
theorem d_Md_readTable_22 : dd m_Md_readTable 22 (.iload_n 2) 1 23 := ⟨by decide +kernel, rfl⟩
theorem d_Md_readTable_23 : dd m_Md_readTable 23 (.iconst 2) 1 24 := ⟨by decide +kernel, rfl⟩
theorem d_Md_readTable_24 : db m_Md_readTable 24 (.if_icmp .ge) 27 176 := ⟨152, by decide +kernel, rfl, rfl⟩
theorem d_Md_readTable_27 : dd m_Md_readTable 27 (.aload_n 0) 1 28 := ⟨by decide +kernel, rfl⟩
theorem d_Md_readTable_28 : dd m_Md_readTable 28 (.getfield 27) 3 31 := ⟨by decide +kernel, rfl⟩
theorem d_Md_readTable_31 : dd m_Md_readTable 31 (.iconst 3) 1 32 := ⟨by decide +kernel, rfl⟩
theorem d_Md_readTable_32 : db m_Md_readTable 32 (.if_icmp .eq) 35 41 := ⟨9, by decide +kernel, rfl, rfl⟩
theorem d_Md_readTable_35 : dd m_Md_readTable 35 (.aload_n 0) 1 36 := ⟨by decide +kernel, rfl⟩
theorem d_Md_readTable_36 : dd m_Md_readTable 36 (.iconst 1) 1 37 := ⟨by decide +kernel, rfl⟩
theorem d_Md_readTable_37 : dd m_Md_readTable 37 (.invokevirtual 115) 3 40 := ⟨by decide +kernel, rfl⟩
theorem d_Md_readTable_40 : decode (mbt m_Md_readTable) 40 = .ok (.ireturn, 1) := by decide +kernel
theorem d_Md_readTable_41 : dd m_Md_readTable 41 (.aload_n 0) 1 42 := ⟨by decide +kernel, rfl⟩
theorem d_Md_readTable_42 : dd m_Md_readTable 42 (.getfield 37) 3 45 := ⟨by decide +kernel, rfl⟩
theorem d_Md_readTable_45 : dd m_Md_readTable 45 (.aload_n 0) 1 46 := ⟨by decide +kernel, rfl⟩
theorem d_Md_readTable_46 : dd m_Md_readTable 46 (.getfield 122) 3 49 := ⟨by decide +kernel, rfl⟩
theorem d_Md_readTable_49 : db m_Md_readTable 49 (.if_icmp .lt) 52 58 := ⟨9, by decide +kernel, rfl, rfl⟩
theorem d_Md_readTable_52 : dd m_Md_readTable 52 (.aload_n 0) 1 53 := ⟨by decide +kernel, rfl⟩
theorem d_Md_readTable_53 : dd m_Md_readTable 53 (.iconst 2) 1 54 := ⟨by decide +kernel, rfl⟩
theorem d_Md_readTable_54 : dd m_Md_readTable 54 (.invokevirtual 115) 3 57 := ⟨by decide +kernel, rfl⟩
theorem d_Md_readTable_57 : decode (mbt m_Md_readTable) 57 = .ok (.ireturn, 1) := by decide +kernel
theorem d_Md_readTable_58 : dd m_Md_readTable 58 (.iconst 1) 1 59 := ⟨by decide +kernel, rfl⟩
theorem d_Md_readTable_59 : dd m_Md_readTable 59 (.bipush 10) 2 61 := ⟨by decide +kernel, rfl⟩
theorem d_Md_readTable_61 : dd m_Md_readTable 61 (.aload_n 0) 1 62 := ⟨by decide +kernel, rfl⟩
theorem d_Md_readTable_62 : dd m_Md_readTable 62 (.getfield 37) 3 65 := ⟨by decide +kernel, rfl⟩
theorem d_Md_readTable_65 : dd m_Md_readTable 65 .imul 1 66 := ⟨by decide +kernel, rfl⟩
theorem d_Md_readTable_66 : dd m_Md_readTable 66 .iadd 1 67 := ⟨by decide +kernel, rfl⟩
theorem d_Md_readTable_67 : dd m_Md_readTable 67 (.istore_n 3) 1 68 := ⟨by decide +kernel, rfl⟩
theorem d_Md_readTable_68 : dd m_Md_readTable 68 (.iload_n 2) 1 69 := ⟨by decide +kernel, rfl⟩
theorem d_Md_readTable_69 : dd m_Md_readTable 69 (.iconst 1) 1 70 := ⟨by decide +kernel, rfl⟩
theorem d_Md_readTable_70 : db m_Md_readTable 70 (.if_icmp .ne) 73 164 := ⟨94, by decide +kernel, rfl, rfl⟩
theorem d_Md_readTable_73 : dd m_Md_readTable 73 (.aload_n 0) 1 74 := ⟨by decide +kernel, rfl⟩
theorem d_Md_readTable_74 : dd m_Md_readTable 74 (.getfield 59) 3 77 := ⟨by decide +kernel, rfl⟩
theorem d_Md_readTable_77 : dd m_Md_readTable 77 (.iload_n 1) 1 78 := ⟨by decide +kernel, rfl⟩
theorem d_Md_readTable_78 : dd m_Md_readTable 78 (.iload_n 3) 1 79 := ⟨by decide +kernel, rfl⟩
theorem d_Md_readTable_79 : dd m_Md_readTable 79 (.invokestatic 140) 3 82 := ⟨by decide +kernel, rfl⟩
theorem d_Md_readTable_82 : db m_Md_readTable 82 (.ifCond .ne) 85 91 := ⟨9, by decide +kernel, rfl, rfl⟩
theorem d_Md_readTable_85 : dd m_Md_readTable 85 (.aload_n 0) 1 86 := ⟨by decide +kernel, rfl⟩
theorem d_Md_readTable_86 : dd m_Md_readTable 86 (.iconst 4) 1 87 := ⟨by decide +kernel, rfl⟩
theorem d_Md_readTable_87 : dd m_Md_readTable 87 (.invokevirtual 115) 3 90 := ⟨by decide +kernel, rfl⟩
theorem d_Md_readTable_90 : decode (mbt m_Md_readTable) 90 = .ok (.ireturn, 1) := by decide +kernel
theorem d_Md_readTable_91 : dd m_Md_readTable 91 (.iconst 0) 1 92 := ⟨by decide +kernel, rfl⟩
theorem d_Md_readTable_92 : dd m_Md_readTable 92 (.istore 4) 2 94 := ⟨by decide +kernel, rfl⟩
theorem d_Md_readTable_94 : dd m_Md_readTable 94 (.iload 4) 2 96 := ⟨by decide +kernel, rfl⟩
theorem d_Md_readTable_96 : dd m_Md_readTable 96 (.bipush 10) 2 98 := ⟨by decide +kernel, rfl⟩
theorem d_Md_readTable_98 : db m_Md_readTable 98 (.if_icmp .ge) 101 164 := ⟨66, by decide +kernel, rfl, rfl⟩
theorem d_Md_readTable_101 : dd m_Md_readTable 101 (.aload_n 0) 1 102 := ⟨by decide +kernel, rfl⟩
theorem d_Md_readTable_102 : dd m_Md_readTable 102 (.getfield 59) 3 105 := ⟨by decide +kernel, rfl⟩
theorem d_Md_readTable_105 : dd m_Md_readTable 105 (.bipush 61) 2 107 := ⟨by decide +kernel, rfl⟩
theorem d_Md_readTable_107 : dd m_Md_readTable 107 (.bipush 20) 2 109 := ⟨by decide +kernel, rfl⟩
theorem d_Md_readTable_109 : dd m_Md_readTable 109 (.aload_n 0) 1 110 := ⟨by decide +kernel, rfl⟩
theorem d_Md_readTable_110 : dd m_Md_readTable 110 (.getfield 137) 3 113 := ⟨by decide +kernel, rfl⟩
theorem d_Md_readTable_113 : dd m_Md_readTable 113 .imul 1 114 := ⟨by decide +kernel, rfl⟩
theorem d_Md_readTable_114 : dd m_Md_readTable 114 .iadd 1 115 := ⟨by decide +kernel, rfl⟩
theorem d_Md_readTable_115 : dd m_Md_readTable 115 (.iload 4) 2 117 := ⟨by decide +kernel, rfl⟩
theorem d_Md_readTable_117 : dd m_Md_readTable 117 .iadd 1 118 := ⟨by decide +kernel, rfl⟩
theorem d_Md_readTable_118 : dd m_Md_readTable 118 (.aload_n 0) 1 119 := ⟨by decide +kernel, rfl⟩
theorem d_Md_readTable_119 : dd m_Md_readTable 119 (.getfield 59) 3 122 := ⟨by decide +kernel, rfl⟩
theorem d_Md_readTable_122 : dd m_Md_readTable 122 (.iload_n 1) 1 123 := ⟨by decide +kernel, rfl⟩
theorem d_Md_readTable_123 : dd m_Md_readTable 123 (.iload 4) 2 125 := ⟨by decide +kernel, rfl⟩
theorem d_Md_readTable_125 : dd m_Md_readTable 125 .iadd 1 126 := ⟨by decide +kernel, rfl⟩
theorem d_Md_readTable_126 : dd m_Md_readTable 126 .iaload 1 127 := ⟨by decide +kernel, rfl⟩
theorem d_Md_readTable_127 : dd m_Md_readTable 127 .iastore 1 128 := ⟨by decide +kernel, rfl⟩
theorem d_Md_readTable_128 : dd m_Md_readTable 128 (.aload_n 0) 1 129 := ⟨by decide +kernel, rfl⟩
theorem d_Md_readTable_129 : dd m_Md_readTable 129 (.getfield 59) 3 132 := ⟨by decide +kernel, rfl⟩
theorem d_Md_readTable_132 : dd m_Md_readTable 132 (.bipush 61) 2 134 := ⟨by decide +kernel, rfl⟩
theorem d_Md_readTable_134 : dd m_Md_readTable 134 (.bipush 20) 2 136 := ⟨by decide +kernel, rfl⟩
theorem d_Md_readTable_136 : dd m_Md_readTable 136 (.aload_n 0) 1 137 := ⟨by decide +kernel, rfl⟩
theorem d_Md_readTable_137 : dd m_Md_readTable 137 (.getfield 137) 3 140 := ⟨by decide +kernel, rfl⟩
theorem d_Md_readTable_140 : dd m_Md_readTable 140 .imul 1 141 := ⟨by decide +kernel, rfl⟩
theorem d_Md_readTable_141 : dd m_Md_readTable 141 .iadd 1 142 := ⟨by decide +kernel, rfl⟩
theorem d_Md_readTable_142 : dd m_Md_readTable 142 (.bipush 10) 2 144 := ⟨by decide +kernel, rfl⟩
theorem d_Md_readTable_144 : dd m_Md_readTable 144 .iadd 1 145 := ⟨by decide +kernel, rfl⟩
theorem d_Md_readTable_145 : dd m_Md_readTable 145 (.iload 4) 2 147 := ⟨by decide +kernel, rfl⟩
theorem d_Md_readTable_147 : dd m_Md_readTable 147 .iadd 1 148 := ⟨by decide +kernel, rfl⟩
theorem d_Md_readTable_148 : dd m_Md_readTable 148 (.aload_n 0) 1 149 := ⟨by decide +kernel, rfl⟩
theorem d_Md_readTable_149 : dd m_Md_readTable 149 (.getfield 59) 3 152 := ⟨by decide +kernel, rfl⟩
theorem d_Md_readTable_152 : dd m_Md_readTable 152 (.iload_n 3) 1 153 := ⟨by decide +kernel, rfl⟩
theorem d_Md_readTable_153 : dd m_Md_readTable 153 (.iload 4) 2 155 := ⟨by decide +kernel, rfl⟩
theorem d_Md_readTable_155 : dd m_Md_readTable 155 .iadd 1 156 := ⟨by decide +kernel, rfl⟩
theorem d_Md_readTable_156 : dd m_Md_readTable 156 .iaload 1 157 := ⟨by decide +kernel, rfl⟩
theorem d_Md_readTable_157 : dd m_Md_readTable 157 .iastore 1 158 := ⟨by decide +kernel, rfl⟩
theorem d_Md_readTable_158 : dd m_Md_readTable 158 (.iinc 4 1) 3 161 := ⟨by decide +kernel, rfl⟩
theorem d_Md_readTable_161 : db m_Md_readTable 161 .goto 164 94 := ⟨(-67), by decide +kernel, rfl, rfl⟩
theorem d_Md_readTable_164 : dd m_Md_readTable 164 (.iload_n 3) 1 165 := ⟨by decide +kernel, rfl⟩
theorem d_Md_readTable_165 : dd m_Md_readTable 165 (.istore_n 1) 1 166 := ⟨by decide +kernel, rfl⟩
theorem d_Md_readTable_166 : dd m_Md_readTable 166 (.aload_n 0) 1 167 := ⟨by decide +kernel, rfl⟩
theorem d_Md_readTable_167 : dd m_Md_readTable 167 (.invokevirtual 112) 3 170 := ⟨by decide +kernel, rfl⟩
theorem d_Md_readTable_170 : dd m_Md_readTable 170 (.iinc 2 1) 3 173 := ⟨by decide +kernel, rfl⟩
theorem d_Md_readTable_173 : db m_Md_readTable 173 .goto 176 22 := ⟨(-151), by decide +kernel, rfl, rfl⟩
theorem d_Md_readTable_176 : dd m_Md_readTable 176 (.aload_n 0) 1 177 := ⟨by decide +kernel, rfl⟩
theorem d_Md_readTable_177 : dd m_Md_readTable 177 .dup 1 178 := ⟨by decide +kernel, rfl⟩
theorem d_Md_readTable_178 : dd m_Md_readTable 178 (.getfield 137) 3 181 := ⟨by decide +kernel, rfl⟩
theorem d_Md_readTable_181 : dd m_Md_readTable 181 (.iconst 1) 1 182 := ⟨by decide +kernel, rfl⟩
theorem d_Md_readTable_182 : dd m_Md_readTable 182 .iadd 1 183 := ⟨by decide +kernel, rfl⟩
theorem d_Md_readTable_183 : dd m_Md_readTable 183 (.putfield 137) 3 186 := ⟨by decide +kernel, rfl⟩
theorem d_Md_readTable_186 : dd m_Md_readTable 186 (.iconst 1) 1 187 := ⟨by decide +kernel, rfl⟩
theorem d_Md_readTable_187 : decode (mbt m_Md_readTable) 187 = .ok (.ireturn, 1) := by decide +kernel
theorem d_Md_makesTable_0 : dd m_Md_makesTable 0 (.aload_n 0) 1 1 := ⟨by decide +kernel, rfl⟩
theorem d_Md_makesTable_1 : dd m_Md_makesTable 1 (.iload_n 1) 1 2 := ⟨by decide +kernel, rfl⟩
theorem d_Md_makesTable_2 : dd m_Md_makesTable 2 .iaload 1 3 := ⟨by decide +kernel, rfl⟩
theorem d_Md_makesTable_3 : db m_Md_makesTable 3 (.ifCond .eq) 6 24 := ⟨21, by decide +kernel, rfl, rfl⟩
theorem d_Md_makesTable_6 : dd m_Md_makesTable 6 (.aload_n 0) 1 7 := ⟨by decide +kernel, rfl⟩
theorem d_Md_makesTable_7 : dd m_Md_makesTable 7 (.iload_n 2) 1 8 := ⟨by decide +kernel, rfl⟩
theorem d_Md_makesTable_8 : dd m_Md_makesTable 8 .iaload 1 9 := ⟨by decide +kernel, rfl⟩
theorem d_Md_makesTable_9 : db m_Md_makesTable 9 (.ifCond .ne) 12 24 := ⟨15, by decide +kernel, rfl, rfl⟩
theorem d_Md_makesTable_12 : dd m_Md_makesTable 12 (.aload_n 0) 1 13 := ⟨by decide +kernel, rfl⟩
theorem d_Md_makesTable_13 : dd m_Md_makesTable 13 (.iload_n 2) 1 14 := ⟨by decide +kernel, rfl⟩
theorem d_Md_makesTable_14 : dd m_Md_makesTable 14 (.iconst 1) 1 15 := ⟨by decide +kernel, rfl⟩
theorem d_Md_makesTable_15 : dd m_Md_makesTable 15 .iadd 1 16 := ⟨by decide +kernel, rfl⟩
theorem d_Md_makesTable_16 : dd m_Md_makesTable 16 .iaload 1 17 := ⟨by decide +kernel, rfl⟩
theorem d_Md_makesTable_17 : db m_Md_makesTable 17 (.ifCond .eq) 20 24 := ⟨7, by decide +kernel, rfl, rfl⟩
theorem d_Md_makesTable_20 : dd m_Md_makesTable 20 (.iconst 1) 1 21 := ⟨by decide +kernel, rfl⟩
theorem d_Md_makesTable_21 : db m_Md_makesTable 21 .goto 24 25 := ⟨4, by decide +kernel, rfl, rfl⟩
theorem d_Md_makesTable_24 : dd m_Md_makesTable 24 (.iconst 0) 1 25 := ⟨by decide +kernel, rfl⟩
theorem d_Md_makesTable_25 : decode (mbt m_Md_makesTable) 25 = .ok (.ireturn, 1) := by decide +kernel
theorem d_Md_readEnd_0 : dd m_Md_readEnd 0 (.aload_n 0) 1 1 := ⟨by decide +kernel, rfl⟩
theorem d_Md_readEnd_1 : dd m_Md_readEnd 1 (.getfield 27) 3 4 := ⟨by decide +kernel, rfl⟩
theorem d_Md_readEnd_4 : dd m_Md_readEnd 4 (.iconst 4) 1 5 := ⟨by decide +kernel, rfl⟩
theorem d_Md_readEnd_5 : db m_Md_readEnd 5 (.if_icmp .eq) 8 14 := ⟨9, by decide +kernel, rfl, rfl⟩
theorem d_Md_readEnd_8 : dd m_Md_readEnd 8 (.aload_n 0) 1 9 := ⟨by decide +kernel, rfl⟩
theorem d_Md_readEnd_9 : dd m_Md_readEnd 9 (.iconst 1) 1 10 := ⟨by decide +kernel, rfl⟩
theorem d_Md_readEnd_10 : dd m_Md_readEnd 10 (.invokevirtual 115) 3 13 := ⟨by decide +kernel, rfl⟩
theorem d_Md_readEnd_13 : decode (mbt m_Md_readEnd) 13 = .ok (.ireturn, 1) := by decide +kernel
theorem d_Md_readEnd_14 : dd m_Md_readEnd 14 (.aload_n 0) 1 15 := ⟨by decide +kernel, rfl⟩
theorem d_Md_readEnd_15 : dd m_Md_readEnd 15 (.invokevirtual 112) 3 18 := ⟨by decide +kernel, rfl⟩
theorem d_Md_readEnd_18 : dd m_Md_readEnd 18 (.iconst 1) 1 19 := ⟨by decide +kernel, rfl⟩
theorem d_Md_readEnd_19 : decode (mbt m_Md_readEnd) 19 = .ok (.ireturn, 1) := by decide +kernel
theorem d_Md_copy_0 : dd m_Md_copy 0 (.iconst 0) 1 1 := ⟨by decide +kernel, rfl⟩
theorem d_Md_copy_1 : dd m_Md_copy 1 (.istore 4) 2 3 := ⟨by decide +kernel, rfl⟩
theorem d_Md_copy_3 : dd m_Md_copy 3 (.iload 4) 2 5 := ⟨by decide +kernel, rfl⟩
theorem d_Md_copy_5 : dd m_Md_copy 5 (.sipush 241) 3 8 := ⟨by decide +kernel, rfl⟩
theorem d_Md_copy_8 : db m_Md_copy 8 (.if_icmp .ge) 11 29 := ⟨21, by decide +kernel, rfl, rfl⟩
theorem d_Md_copy_11 : dd m_Md_copy 11 (.aload_n 2) 1 12 := ⟨by decide +kernel, rfl⟩
theorem d_Md_copy_12 : dd m_Md_copy 12 (.iload_n 3) 1 13 := ⟨by decide +kernel, rfl⟩
theorem d_Md_copy_13 : dd m_Md_copy 13 (.iload 4) 2 15 := ⟨by decide +kernel, rfl⟩
theorem d_Md_copy_15 : dd m_Md_copy 15 .iadd 1 16 := ⟨by decide +kernel, rfl⟩
theorem d_Md_copy_16 : dd m_Md_copy 16 (.aload_n 0) 1 17 := ⟨by decide +kernel, rfl⟩
theorem d_Md_copy_17 : dd m_Md_copy 17 (.iload_n 1) 1 18 := ⟨by decide +kernel, rfl⟩
theorem d_Md_copy_18 : dd m_Md_copy 18 (.iload 4) 2 20 := ⟨by decide +kernel, rfl⟩
theorem d_Md_copy_20 : dd m_Md_copy 20 .iadd 1 21 := ⟨by decide +kernel, rfl⟩
theorem d_Md_copy_21 : dd m_Md_copy 21 .iaload 1 22 := ⟨by decide +kernel, rfl⟩
theorem d_Md_copy_22 : dd m_Md_copy 22 .iastore 1 23 := ⟨by decide +kernel, rfl⟩
theorem d_Md_copy_23 : dd m_Md_copy 23 (.iinc 4 1) 3 26 := ⟨by decide +kernel, rfl⟩
theorem d_Md_copy_26 : db m_Md_copy 26 .goto 29 3 := ⟨(-23), by decide +kernel, rfl, rfl⟩
theorem d_Md_copy_29 : decode (mbt m_Md_copy) 29 = .ok (.return_, 1) := by decide +kernel
theorem d_Md_fault_0 : dd m_Md_fault 0 (.aload_n 0) 1 1 := ⟨by decide +kernel, rfl⟩
theorem d_Md_fault_1 : dd m_Md_fault 1 (.iconst 0) 1 2 := ⟨by decide +kernel, rfl⟩
theorem d_Md_fault_2 : dd m_Md_fault 2 (.putfield 1) 3 5 := ⟨by decide +kernel, rfl⟩
theorem d_Md_fault_5 : dd m_Md_fault 5 (.aload_n 0) 1 6 := ⟨by decide +kernel, rfl⟩
theorem d_Md_fault_6 : dd m_Md_fault 6 (.getfield 44) 3 9 := ⟨by decide +kernel, rfl⟩
theorem d_Md_fault_9 : decode (mbt m_Md_fault) 9 = .ok (.ireturn, 1) := by decide +kernel
theorem d_Md_now_0 : dd m_Md_now 0 (.aload_n 0) 1 1 := ⟨by decide +kernel, rfl⟩
theorem d_Md_now_1 : dd m_Md_now 1 (.iconst 0) 1 2 := ⟨by decide +kernel, rfl⟩
theorem d_Md_now_2 : dd m_Md_now 2 (.putfield 1) 3 5 := ⟨by decide +kernel, rfl⟩
theorem d_Md_now_5 : dd m_Md_now 5 (.iload_n 1) 1 6 := ⟨by decide +kernel, rfl⟩
theorem d_Md_now_6 : decode (mbt m_Md_now) 6 = .ok (.tableswitch 59 0 4 #[34, 39, 44, 49, 54], 34) := by decide +kernel
theorem d_Md_now_40 : dd m_Md_now 40 (.aload_n 0) 1 41 := ⟨by decide +kernel, rfl⟩
theorem d_Md_now_41 : dd m_Md_now 41 (.invokevirtual 173) 3 44 := ⟨by decide +kernel, rfl⟩
theorem d_Md_now_44 : decode (mbt m_Md_now) 44 = .ok (.ireturn, 1) := by decide +kernel
theorem d_Md_now_45 : dd m_Md_now 45 (.aload_n 0) 1 46 := ⟨by decide +kernel, rfl⟩
theorem d_Md_now_46 : dd m_Md_now 46 (.getfield 167) 3 49 := ⟨by decide +kernel, rfl⟩
theorem d_Md_now_49 : decode (mbt m_Md_now) 49 = .ok (.ireturn, 1) := by decide +kernel
theorem d_Md_now_50 : dd m_Md_now 50 (.aload_n 0) 1 51 := ⟨by decide +kernel, rfl⟩
theorem d_Md_now_51 : dd m_Md_now 51 (.getfield 170) 3 54 := ⟨by decide +kernel, rfl⟩
theorem d_Md_now_54 : decode (mbt m_Md_now) 54 = .ok (.ireturn, 1) := by decide +kernel
theorem d_Md_now_55 : dd m_Md_now 55 (.aload_n 0) 1 56 := ⟨by decide +kernel, rfl⟩
theorem d_Md_now_56 : dd m_Md_now 56 (.getfield 164) 3 59 := ⟨by decide +kernel, rfl⟩
theorem d_Md_now_59 : decode (mbt m_Md_now) 59 = .ok (.ireturn, 1) := by decide +kernel
theorem d_Md_now_60 : dd m_Md_now 60 (.aload_n 0) 1 61 := ⟨by decide +kernel, rfl⟩
theorem d_Md_now_61 : dd m_Md_now 61 (.getfield 11) 3 64 := ⟨by decide +kernel, rfl⟩
theorem d_Md_now_64 : decode (mbt m_Md_now) 64 = .ok (.ireturn, 1) := by decide +kernel
theorem d_Md_now_65 : dd m_Md_now 65 (.iconst (-1)) 1 66 := ⟨by decide +kernel, rfl⟩
theorem d_Md_now_66 : decode (mbt m_Md_now) 66 = .ok (.ireturn, 1) := by decide +kernel
theorem d_Md_wide_0 : dd m_Md_wide 0 (.aload_n 0) 1 1 := ⟨by decide +kernel, rfl⟩
theorem d_Md_wide_1 : dd m_Md_wide 1 (.getfield 56) 3 4 := ⟨by decide +kernel, rfl⟩
theorem d_Md_wide_4 : dd m_Md_wide 4 (.iconst 0) 1 5 := ⟨by decide +kernel, rfl⟩
theorem d_Md_wide_5 : dd m_Md_wide 5 .iaload 1 6 := ⟨by decide +kernel, rfl⟩
theorem d_Md_wide_6 : decode (mbt m_Md_wide) 6 = .ok (.ireturn, 1) := by decide +kernel
theorem d_Md_at_0 : dd m_Md_at 0 (.aload_n 0) 1 1 := ⟨by decide +kernel, rfl⟩
theorem d_Md_at_1 : dd m_Md_at 1 (.iconst 0) 1 2 := ⟨by decide +kernel, rfl⟩
theorem d_Md_at_2 : dd m_Md_at 2 (.putfield 1) 3 5 := ⟨by decide +kernel, rfl⟩
theorem d_Md_at_5 : dd m_Md_at 5 (.aload_n 0) 1 6 := ⟨by decide +kernel, rfl⟩
theorem d_Md_at_6 : dd m_Md_at 6 (.iload_n 1) 1 7 := ⟨by decide +kernel, rfl⟩
theorem d_Md_at_7 : dd m_Md_at 7 (.invokevirtual 180) 3 10 := ⟨by decide +kernel, rfl⟩
theorem d_Md_at_10 : db m_Md_at 10 (.ifCond .eq) 13 37 := ⟨27, by decide +kernel, rfl, rfl⟩
theorem d_Md_at_13 : dd m_Md_at 13 (.aload_n 0) 1 14 := ⟨by decide +kernel, rfl⟩
theorem d_Md_at_14 : dd m_Md_at 14 (.iload_n 2) 1 15 := ⟨by decide +kernel, rfl⟩
theorem d_Md_at_15 : dd m_Md_at 15 (.invokevirtual 183) 3 18 := ⟨by decide +kernel, rfl⟩
theorem d_Md_at_18 : db m_Md_at 18 (.ifCond .eq) 21 37 := ⟨19, by decide +kernel, rfl, rfl⟩
theorem d_Md_at_21 : dd m_Md_at 21 (.aload_n 0) 1 22 := ⟨by decide +kernel, rfl⟩
theorem d_Md_at_22 : dd m_Md_at 22 (.getfield 56) 3 25 := ⟨by decide +kernel, rfl⟩
theorem d_Md_at_25 : dd m_Md_at 25 (.iconst 1) 1 26 := ⟨by decide +kernel, rfl⟩
theorem d_Md_at_26 : dd m_Md_at 26 (.bipush 10) 2 28 := ⟨by decide +kernel, rfl⟩
theorem d_Md_at_28 : dd m_Md_at 28 (.iload_n 1) 1 29 := ⟨by decide +kernel, rfl⟩
theorem d_Md_at_29 : dd m_Md_at 29 .imul 1 30 := ⟨by decide +kernel, rfl⟩
theorem d_Md_at_30 : dd m_Md_at 30 .iadd 1 31 := ⟨by decide +kernel, rfl⟩
theorem d_Md_at_31 : dd m_Md_at 31 (.iload_n 2) 1 32 := ⟨by decide +kernel, rfl⟩
theorem d_Md_at_32 : dd m_Md_at 32 .iadd 1 33 := ⟨by decide +kernel, rfl⟩
theorem d_Md_at_33 : dd m_Md_at 33 .iaload 1 34 := ⟨by decide +kernel, rfl⟩
theorem d_Md_at_34 : db m_Md_at 34 .goto 37 38 := ⟨4, by decide +kernel, rfl, rfl⟩
theorem d_Md_at_37 : dd m_Md_at 37 (.iconst (-1)) 1 38 := ⟨by decide +kernel, rfl⟩
theorem d_Md_at_38 : decode (mbt m_Md_at) 38 = .ok (.ireturn, 1) := by decide +kernel
theorem d_Md_isSeries_0 : dd m_Md_isSeries 0 (.aload_n 0) 1 1 := ⟨by decide +kernel, rfl⟩
theorem d_Md_isSeries_1 : dd m_Md_isSeries 1 (.invokevirtual 173) 3 4 := ⟨by decide +kernel, rfl⟩
theorem d_Md_isSeries_4 : db m_Md_isSeries 4 (.ifCond .le) 7 20 := ⟨16, by decide +kernel, rfl, rfl⟩
theorem d_Md_isSeries_7 : dd m_Md_isSeries 7 (.iload_n 1) 1 8 := ⟨by decide +kernel, rfl⟩
theorem d_Md_isSeries_8 : dd m_Md_isSeries 8 (.iconst 0) 1 9 := ⟨by decide +kernel, rfl⟩
theorem d_Md_isSeries_9 : dd m_Md_isSeries 9 (.iconst 5) 1 10 := ⟨by decide +kernel, rfl⟩
theorem d_Md_isSeries_10 : dd m_Md_isSeries 10 (.invokestatic 118) 3 13 := ⟨by decide +kernel, rfl⟩
theorem d_Md_isSeries_13 : db m_Md_isSeries 13 (.ifCond .eq) 16 20 := ⟨7, by decide +kernel, rfl, rfl⟩
theorem d_Md_isSeries_16 : dd m_Md_isSeries 16 (.iconst 1) 1 17 := ⟨by decide +kernel, rfl⟩
theorem d_Md_isSeries_17 : db m_Md_isSeries 17 .goto 20 21 := ⟨4, by decide +kernel, rfl, rfl⟩
theorem d_Md_isSeries_20 : dd m_Md_isSeries 20 (.iconst 0) 1 21 := ⟨by decide +kernel, rfl⟩
theorem d_Md_isSeries_21 : decode (mbt m_Md_isSeries) 21 = .ok (.ireturn, 1) := by decide +kernel
theorem d_Md_isPlace_0 : dd m_Md_isPlace 0 (.iload_n 1) 1 1 := ⟨by decide +kernel, rfl⟩
theorem d_Md_isPlace_1 : dd m_Md_isPlace 1 (.iconst 0) 1 2 := ⟨by decide +kernel, rfl⟩
theorem d_Md_isPlace_2 : dd m_Md_isPlace 2 (.aload_n 0) 1 3 := ⟨by decide +kernel, rfl⟩
theorem d_Md_isPlace_3 : dd m_Md_isPlace 3 (.invokevirtual 173) 3 6 := ⟨by decide +kernel, rfl⟩
theorem d_Md_isPlace_6 : dd m_Md_isPlace 6 (.iconst 1) 1 7 := ⟨by decide +kernel, rfl⟩
theorem d_Md_isPlace_7 : dd m_Md_isPlace 7 .isub 1 8 := ⟨by decide +kernel, rfl⟩
theorem d_Md_isPlace_8 : dd m_Md_isPlace 8 (.invokestatic 118) 3 11 := ⟨by decide +kernel, rfl⟩
theorem d_Md_isPlace_11 : decode (mbt m_Md_isPlace) 11 = .ok (.ireturn, 1) := by decide +kernel
theorem d_Md_put_0 : dd m_Md_put 0 (.aload_n 0) 1 1 := ⟨by decide +kernel, rfl⟩
theorem d_Md_put_1 : dd m_Md_put 1 (.iconst 0) 1 2 := ⟨by decide +kernel, rfl⟩
theorem d_Md_put_2 : dd m_Md_put 2 (.putfield 1) 3 5 := ⟨by decide +kernel, rfl⟩
theorem d_Md_put_5 : dd m_Md_put 5 (.aload_n 0) 1 6 := ⟨by decide +kernel, rfl⟩
theorem d_Md_put_6 : dd m_Md_put 6 (.iload_n 1) 1 7 := ⟨by decide +kernel, rfl⟩
theorem d_Md_put_7 : dd m_Md_put 7 (.invokevirtual 180) 3 10 := ⟨by decide +kernel, rfl⟩
theorem d_Md_put_10 : db m_Md_put 10 (.ifCond .eq) 13 21 := ⟨11, by decide +kernel, rfl, rfl⟩
theorem d_Md_put_13 : dd m_Md_put 13 (.aload_n 0) 1 14 := ⟨by decide +kernel, rfl⟩
theorem d_Md_put_14 : dd m_Md_put 14 (.iload_n 2) 1 15 := ⟨by decide +kernel, rfl⟩
theorem d_Md_put_15 : dd m_Md_put 15 (.invokevirtual 183) 3 18 := ⟨by decide +kernel, rfl⟩
theorem d_Md_put_18 : db m_Md_put 18 (.ifCond .ne) 21 23 := ⟨5, by decide +kernel, rfl, rfl⟩
theorem d_Md_put_21 : dd m_Md_put 21 (.iconst (-1)) 1 22 := ⟨by decide +kernel, rfl⟩
theorem d_Md_put_22 : decode (mbt m_Md_put) 22 = .ok (.ireturn, 1) := by decide +kernel
theorem d_Md_put_23 : dd m_Md_put 23 (.aload_n 0) 1 24 := ⟨by decide +kernel, rfl⟩
theorem d_Md_put_24 : dd m_Md_put 24 (.invokevirtual 177) 3 27 := ⟨by decide +kernel, rfl⟩
theorem d_Md_put_27 : dd m_Md_put 27 (.aload_n 0) 1 28 := ⟨by decide +kernel, rfl⟩
theorem d_Md_put_28 : dd m_Md_put 28 (.getfield 56) 3 31 := ⟨by decide +kernel, rfl⟩
theorem d_Md_put_31 : dd m_Md_put 31 (.iconst 1) 1 32 := ⟨by decide +kernel, rfl⟩
theorem d_Md_put_32 : dd m_Md_put 32 (.bipush 10) 2 34 := ⟨by decide +kernel, rfl⟩
theorem d_Md_put_34 : dd m_Md_put 34 (.iload_n 1) 1 35 := ⟨by decide +kernel, rfl⟩
theorem d_Md_put_35 : dd m_Md_put 35 .imul 1 36 := ⟨by decide +kernel, rfl⟩
theorem d_Md_put_36 : dd m_Md_put 36 .iadd 1 37 := ⟨by decide +kernel, rfl⟩
theorem d_Md_put_37 : dd m_Md_put 37 (.iload_n 2) 1 38 := ⟨by decide +kernel, rfl⟩
theorem d_Md_put_38 : dd m_Md_put 38 .iadd 1 39 := ⟨by decide +kernel, rfl⟩
theorem d_Md_put_39 : dd m_Md_put 39 (.iload_n 3) 1 40 := ⟨by decide +kernel, rfl⟩
theorem d_Md_put_40 : dd m_Md_put 40 .i2l 1 41 := ⟨by decide +kernel, rfl⟩
theorem d_Md_put_41 : dd m_Md_put 41 (.invokestatic 109) 3 44 := ⟨by decide +kernel, rfl⟩
theorem d_Md_put_44 : dd m_Md_put 44 .iastore 1 45 := ⟨by decide +kernel, rfl⟩
theorem d_Md_put_45 : dd m_Md_put 45 (.iload_n 3) 1 46 := ⟨by decide +kernel, rfl⟩
theorem d_Md_put_46 : dd m_Md_put 46 .i2l 1 47 := ⟨by decide +kernel, rfl⟩
theorem d_Md_put_47 : dd m_Md_put 47 (.invokestatic 109) 3 50 := ⟨by decide +kernel, rfl⟩
theorem d_Md_put_50 : decode (mbt m_Md_put) 50 = .ok (.ireturn, 1) := by decide +kernel
theorem d_Md_snap_0 : dd m_Md_snap 0 (.aload_n 0) 1 1 := ⟨by decide +kernel, rfl⟩
theorem d_Md_snap_1 : dd m_Md_snap 1 (.getfield 164) 3 4 := ⟨by decide +kernel, rfl⟩
theorem d_Md_snap_4 : dd m_Md_snap 4 (.bipush 8) 2 6 := ⟨by decide +kernel, rfl⟩
theorem d_Md_snap_6 : db m_Md_snap 6 (.if_icmp .ne) 9 50 := ⟨44, by decide +kernel, rfl, rfl⟩
theorem d_Md_snap_9 : dd m_Md_snap 9 (.iconst 0) 1 10 := ⟨by decide +kernel, rfl⟩
theorem d_Md_snap_10 : dd m_Md_snap 10 (.istore_n 1) 1 11 := ⟨by decide +kernel, rfl⟩
theorem d_Md_snap_11 : dd m_Md_snap 11 (.iload_n 1) 1 12 := ⟨by decide +kernel, rfl⟩
theorem d_Md_snap_12 : dd m_Md_snap 12 (.sipush 1687) 3 15 := ⟨by decide +kernel, rfl⟩
theorem d_Md_snap_15 : db m_Md_snap 15 (.if_icmp .ge) 18 40 := ⟨25, by decide +kernel, rfl, rfl⟩
theorem d_Md_snap_18 : dd m_Md_snap 18 (.aload_n 0) 1 19 := ⟨by decide +kernel, rfl⟩
theorem d_Md_snap_19 : dd m_Md_snap 19 (.getfield 65) 3 22 := ⟨by decide +kernel, rfl⟩
theorem d_Md_snap_22 : dd m_Md_snap 22 (.iload_n 1) 1 23 := ⟨by decide +kernel, rfl⟩
theorem d_Md_snap_23 : dd m_Md_snap 23 (.aload_n 0) 1 24 := ⟨by decide +kernel, rfl⟩
theorem d_Md_snap_24 : dd m_Md_snap 24 (.getfield 65) 3 27 := ⟨by decide +kernel, rfl⟩
theorem d_Md_snap_27 : dd m_Md_snap 27 (.iload_n 1) 1 28 := ⟨by decide +kernel, rfl⟩
theorem d_Md_snap_28 : dd m_Md_snap 28 (.sipush 241) 3 31 := ⟨by decide +kernel, rfl⟩
theorem d_Md_snap_31 : dd m_Md_snap 31 .iadd 1 32 := ⟨by decide +kernel, rfl⟩
theorem d_Md_snap_32 : dd m_Md_snap 32 .iaload 1 33 := ⟨by decide +kernel, rfl⟩
theorem d_Md_snap_33 : dd m_Md_snap 33 .iastore 1 34 := ⟨by decide +kernel, rfl⟩
theorem d_Md_snap_34 : dd m_Md_snap 34 (.iinc 1 1) 3 37 := ⟨by decide +kernel, rfl⟩
theorem d_Md_snap_37 : db m_Md_snap 37 .goto 40 11 := ⟨(-26), by decide +kernel, rfl, rfl⟩
theorem d_Md_snap_40 : dd m_Md_snap 40 (.aload_n 0) 1 41 := ⟨by decide +kernel, rfl⟩
theorem d_Md_snap_41 : dd m_Md_snap 41 .dup 1 42 := ⟨by decide +kernel, rfl⟩
theorem d_Md_snap_42 : dd m_Md_snap 42 (.getfield 164) 3 45 := ⟨by decide +kernel, rfl⟩
theorem d_Md_snap_45 : dd m_Md_snap 45 (.iconst 1) 1 46 := ⟨by decide +kernel, rfl⟩
theorem d_Md_snap_46 : dd m_Md_snap 46 .isub 1 47 := ⟨by decide +kernel, rfl⟩
theorem d_Md_snap_47 : dd m_Md_snap 47 (.putfield 164) 3 50 := ⟨by decide +kernel, rfl⟩
theorem d_Md_snap_50 : dd m_Md_snap 50 (.aload_n 0) 1 51 := ⟨by decide +kernel, rfl⟩
theorem d_Md_snap_51 : dd m_Md_snap 51 (.getfield 56) 3 54 := ⟨by decide +kernel, rfl⟩
theorem d_Md_snap_54 : dd m_Md_snap 54 (.iconst 0) 1 55 := ⟨by decide +kernel, rfl⟩
theorem d_Md_snap_55 : dd m_Md_snap 55 (.aload_n 0) 1 56 := ⟨by decide +kernel, rfl⟩
theorem d_Md_snap_56 : dd m_Md_snap 56 (.getfield 65) 3 59 := ⟨by decide +kernel, rfl⟩
theorem d_Md_snap_59 : dd m_Md_snap 59 (.sipush 241) 3 62 := ⟨by decide +kernel, rfl⟩
theorem d_Md_snap_62 : dd m_Md_snap 62 (.aload_n 0) 1 63 := ⟨by decide +kernel, rfl⟩
theorem d_Md_snap_63 : dd m_Md_snap 63 (.getfield 164) 3 66 := ⟨by decide +kernel, rfl⟩
theorem d_Md_snap_66 : dd m_Md_snap 66 .imul 1 67 := ⟨by decide +kernel, rfl⟩
theorem d_Md_snap_67 : dd m_Md_snap 67 (.invokestatic 160) 3 70 := ⟨by decide +kernel, rfl⟩
theorem d_Md_snap_70 : dd m_Md_snap 70 (.aload_n 0) 1 71 := ⟨by decide +kernel, rfl⟩
theorem d_Md_snap_71 : dd m_Md_snap 71 .dup 1 72 := ⟨by decide +kernel, rfl⟩
theorem d_Md_snap_72 : dd m_Md_snap 72 (.getfield 164) 3 75 := ⟨by decide +kernel, rfl⟩
theorem d_Md_snap_75 : dd m_Md_snap 75 (.iconst 1) 1 76 := ⟨by decide +kernel, rfl⟩
theorem d_Md_snap_76 : dd m_Md_snap 76 .iadd 1 77 := ⟨by decide +kernel, rfl⟩
theorem d_Md_snap_77 : dd m_Md_snap 77 (.putfield 164) 3 80 := ⟨by decide +kernel, rfl⟩
theorem d_Md_snap_80 : decode (mbt m_Md_snap) 80 = .ok (.return_, 1) := by decide +kernel
theorem d_Md_make_0 : dd m_Md_make 0 (.aload_n 0) 1 1 := ⟨by decide +kernel, rfl⟩
theorem d_Md_make_1 : dd m_Md_make 1 (.iconst 0) 1 2 := ⟨by decide +kernel, rfl⟩
theorem d_Md_make_2 : dd m_Md_make 2 (.putfield 1) 3 5 := ⟨by decide +kernel, rfl⟩
theorem d_Md_make_5 : dd m_Md_make 5 (.aload_n 0) 1 6 := ⟨by decide +kernel, rfl⟩
theorem d_Md_make_6 : dd m_Md_make 6 (.iload_n 1) 1 7 := ⟨by decide +kernel, rfl⟩
theorem d_Md_make_7 : dd m_Md_make 7 (.invokevirtual 180) 3 10 := ⟨by decide +kernel, rfl⟩
theorem d_Md_make_10 : db m_Md_make 10 (.ifCond .eq) 13 39 := ⟨29, by decide +kernel, rfl, rfl⟩
theorem d_Md_make_13 : dd m_Md_make 13 (.aload_n 0) 1 14 := ⟨by decide +kernel, rfl⟩
theorem d_Md_make_14 : dd m_Md_make 14 (.iload_n 2) 1 15 := ⟨by decide +kernel, rfl⟩
theorem d_Md_make_15 : dd m_Md_make 15 (.invokevirtual 180) 3 18 := ⟨by decide +kernel, rfl⟩
theorem d_Md_make_18 : db m_Md_make 18 (.ifCond .eq) 21 39 := ⟨21, by decide +kernel, rfl, rfl⟩
theorem d_Md_make_21 : dd m_Md_make 21 (.aload_n 0) 1 22 := ⟨by decide +kernel, rfl⟩
theorem d_Md_make_22 : dd m_Md_make 22 (.iload 4) 2 24 := ⟨by decide +kernel, rfl⟩
theorem d_Md_make_24 : dd m_Md_make 24 (.invokevirtual 180) 3 27 := ⟨by decide +kernel, rfl⟩
theorem d_Md_make_27 : db m_Md_make 27 (.ifCond .eq) 30 39 := ⟨12, by decide +kernel, rfl, rfl⟩
theorem d_Md_make_30 : dd m_Md_make 30 (.iload_n 3) 1 31 := ⟨by decide +kernel, rfl⟩
theorem d_Md_make_31 : dd m_Md_make 31 (.iconst 0) 1 32 := ⟨by decide +kernel, rfl⟩
theorem d_Md_make_32 : dd m_Md_make 32 (.iconst 4) 1 33 := ⟨by decide +kernel, rfl⟩
theorem d_Md_make_33 : dd m_Md_make 33 (.invokestatic 118) 3 36 := ⟨by decide +kernel, rfl⟩
theorem d_Md_make_36 : db m_Md_make 36 (.ifCond .ne) 39 41 := ⟨5, by decide +kernel, rfl, rfl⟩
theorem d_Md_make_39 : dd m_Md_make 39 (.iconst (-1)) 1 40 := ⟨by decide +kernel, rfl⟩
theorem d_Md_make_40 : decode (mbt m_Md_make) 40 = .ok (.ireturn, 1) := by decide +kernel
theorem d_Md_make_41 : dd m_Md_make 41 (.aload_n 0) 1 42 := ⟨by decide +kernel, rfl⟩
theorem d_Md_make_42 : dd m_Md_make 42 (.iconst 1) 1 43 := ⟨by decide +kernel, rfl⟩
theorem d_Md_make_43 : dd m_Md_make 43 (.bipush 10) 2 45 := ⟨by decide +kernel, rfl⟩
theorem d_Md_make_45 : dd m_Md_make 45 (.iload_n 1) 1 46 := ⟨by decide +kernel, rfl⟩
theorem d_Md_make_46 : dd m_Md_make 46 .imul 1 47 := ⟨by decide +kernel, rfl⟩
theorem d_Md_make_47 : dd m_Md_make 47 .iadd 1 48 := ⟨by decide +kernel, rfl⟩
theorem d_Md_make_48 : dd m_Md_make 48 (.aload_n 0) 1 49 := ⟨by decide +kernel, rfl⟩
theorem d_Md_make_49 : dd m_Md_make 49 (.getfield 72) 3 52 := ⟨by decide +kernel, rfl⟩
theorem d_Md_make_52 : dd m_Md_make 52 (.invokevirtual 189) 3 55 := ⟨by decide +kernel, rfl⟩
theorem d_Md_make_55 : dd m_Md_make 55 (.aload_n 0) 1 56 := ⟨by decide +kernel, rfl⟩
theorem d_Md_make_56 : dd m_Md_make 56 (.iconst 1) 1 57 := ⟨by decide +kernel, rfl⟩
theorem d_Md_make_57 : dd m_Md_make 57 (.bipush 10) 2 59 := ⟨by decide +kernel, rfl⟩
theorem d_Md_make_59 : dd m_Md_make 59 (.iload_n 2) 1 60 := ⟨by decide +kernel, rfl⟩
theorem d_Md_make_60 : dd m_Md_make 60 .imul 1 61 := ⟨by decide +kernel, rfl⟩
theorem d_Md_make_61 : dd m_Md_make 61 .iadd 1 62 := ⟨by decide +kernel, rfl⟩
theorem d_Md_make_62 : dd m_Md_make 62 (.aload_n 0) 1 63 := ⟨by decide +kernel, rfl⟩
theorem d_Md_make_63 : dd m_Md_make 63 (.getfield 75) 3 66 := ⟨by decide +kernel, rfl⟩
theorem d_Md_make_66 : dd m_Md_make 66 (.invokevirtual 189) 3 69 := ⟨by decide +kernel, rfl⟩
theorem d_Md_make_69 : dd m_Md_make 69 (.iload_n 3) 1 70 := ⟨by decide +kernel, rfl⟩
theorem d_Md_make_70 : dd m_Md_make 70 (.iconst 3) 1 71 := ⟨by decide +kernel, rfl⟩
theorem d_Md_make_71 : db m_Md_make 71 (.if_icmp .ne) 74 83 := ⟨12, by decide +kernel, rfl, rfl⟩
theorem d_Md_make_74 : dd m_Md_make 74 (.aload_n 0) 1 75 := ⟨by decide +kernel, rfl⟩
theorem d_Md_make_75 : dd m_Md_make 75 (.getfield 75) 3 78 := ⟨by decide +kernel, rfl⟩
theorem d_Md_make_78 : dd m_Md_make 78 (.iconst 0) 1 79 := ⟨by decide +kernel, rfl⟩
theorem d_Md_make_79 : dd m_Md_make 79 .iaload 1 80 := ⟨by decide +kernel, rfl⟩
theorem d_Md_make_80 : db m_Md_make 80 (.ifCond .eq) 83 97 := ⟨17, by decide +kernel, rfl, rfl⟩
theorem d_Md_make_83 : dd m_Md_make 83 (.iload_n 3) 1 84 := ⟨by decide +kernel, rfl⟩
theorem d_Md_make_84 : dd m_Md_make 84 (.iconst 4) 1 85 := ⟨by decide +kernel, rfl⟩
theorem d_Md_make_85 : db m_Md_make 85 (.if_icmp .ne) 88 99 := ⟨14, by decide +kernel, rfl, rfl⟩
theorem d_Md_make_88 : dd m_Md_make 88 (.aload_n 0) 1 89 := ⟨by decide +kernel, rfl⟩
theorem d_Md_make_89 : dd m_Md_make 89 (.getfield 75) 3 92 := ⟨by decide +kernel, rfl⟩
theorem d_Md_make_92 : dd m_Md_make 92 (.iconst 0) 1 93 := ⟨by decide +kernel, rfl⟩
theorem d_Md_make_93 : dd m_Md_make 93 .iaload 1 94 := ⟨by decide +kernel, rfl⟩
theorem d_Md_make_94 : db m_Md_make 94 (.ifCond .eq) 97 99 := ⟨5, by decide +kernel, rfl, rfl⟩
theorem d_Md_make_97 : dd m_Md_make 97 (.iconst (-1)) 1 98 := ⟨by decide +kernel, rfl⟩
theorem d_Md_make_98 : decode (mbt m_Md_make) 98 = .ok (.ireturn, 1) := by decide +kernel
theorem d_Md_make_99 : dd m_Md_make 99 (.iload_n 3) 1 100 := ⟨by decide +kernel, rfl⟩
theorem d_Md_make_100 : dd m_Md_make 100 (.iconst 2) 1 101 := ⟨by decide +kernel, rfl⟩
theorem d_Md_make_101 : db m_Md_make 101 (.if_icmp .ge) 104 171 := ⟨70, by decide +kernel, rfl, rfl⟩
theorem d_Md_make_104 : dd m_Md_make 104 (.iconst 0) 1 105 := ⟨by decide +kernel, rfl⟩
theorem d_Md_make_105 : dd m_Md_make 105 (.istore 5) 2 107 := ⟨by decide +kernel, rfl⟩
theorem d_Md_make_107 : dd m_Md_make 107 (.iload 5) 2 109 := ⟨by decide +kernel, rfl⟩
theorem d_Md_make_109 : dd m_Md_make 109 (.aload_n 0) 1 110 := ⟨by decide +kernel, rfl⟩
theorem d_Md_make_110 : dd m_Md_make 110 (.invokevirtual 173) 3 113 := ⟨by decide +kernel, rfl⟩
theorem d_Md_make_113 : db m_Md_make 113 (.if_icmp .ge) 116 171 := ⟨58, by decide +kernel, rfl, rfl⟩
theorem d_Md_make_116 : dd m_Md_make 116 (.aload_n 0) 1 117 := ⟨by decide +kernel, rfl⟩
theorem d_Md_make_117 : dd m_Md_make 117 (.getfield 78) 3 120 := ⟨by decide +kernel, rfl⟩
theorem d_Md_make_120 : dd m_Md_make 120 (.iload 5) 2 122 := ⟨by decide +kernel, rfl⟩
theorem d_Md_make_122 : dd m_Md_make 122 (.iload_n 3) 1 123 := ⟨by decide +kernel, rfl⟩
theorem d_Md_make_123 : db m_Md_make 123 (.ifCond .ne) 126 145 := ⟨22, by decide +kernel, rfl, rfl⟩
theorem d_Md_make_126 : dd m_Md_make 126 (.aload_n 0) 1 127 := ⟨by decide +kernel, rfl⟩
theorem d_Md_make_127 : dd m_Md_make 127 (.getfield 72) 3 130 := ⟨by decide +kernel, rfl⟩
theorem d_Md_make_130 : dd m_Md_make 130 (.iload 5) 2 132 := ⟨by decide +kernel, rfl⟩
theorem d_Md_make_132 : dd m_Md_make 132 .iaload 1 133 := ⟨by decide +kernel, rfl⟩
theorem d_Md_make_133 : dd m_Md_make 133 (.aload_n 0) 1 134 := ⟨by decide +kernel, rfl⟩
theorem d_Md_make_134 : dd m_Md_make 134 (.getfield 75) 3 137 := ⟨by decide +kernel, rfl⟩
theorem d_Md_make_137 : dd m_Md_make 137 (.iload 5) 2 139 := ⟨by decide +kernel, rfl⟩
theorem d_Md_make_139 : dd m_Md_make 139 .iaload 1 140 := ⟨by decide +kernel, rfl⟩
theorem d_Md_make_140 : dd m_Md_make 140 .iadd 1 141 := ⟨by decide +kernel, rfl⟩
theorem d_Md_make_141 : dd m_Md_make 141 .i2l 1 142 := ⟨by decide +kernel, rfl⟩
theorem d_Md_make_142 : db m_Md_make 142 .goto 145 161 := ⟨19, by decide +kernel, rfl, rfl⟩
theorem d_Md_make_145 : dd m_Md_make 145 (.aload_n 0) 1 146 := ⟨by decide +kernel, rfl⟩
theorem d_Md_make_146 : dd m_Md_make 146 (.getfield 72) 3 149 := ⟨by decide +kernel, rfl⟩
theorem d_Md_make_149 : dd m_Md_make 149 (.iload 5) 2 151 := ⟨by decide +kernel, rfl⟩
theorem d_Md_make_151 : dd m_Md_make 151 .iaload 1 152 := ⟨by decide +kernel, rfl⟩
theorem d_Md_make_152 : dd m_Md_make 152 (.aload_n 0) 1 153 := ⟨by decide +kernel, rfl⟩
theorem d_Md_make_153 : dd m_Md_make 153 (.getfield 75) 3 156 := ⟨by decide +kernel, rfl⟩
theorem d_Md_make_156 : dd m_Md_make 156 (.iload 5) 2 158 := ⟨by decide +kernel, rfl⟩
theorem d_Md_make_158 : dd m_Md_make 158 .iaload 1 159 := ⟨by decide +kernel, rfl⟩
theorem d_Md_make_159 : dd m_Md_make 159 .isub 1 160 := ⟨by decide +kernel, rfl⟩
theorem d_Md_make_160 : dd m_Md_make 160 .i2l 1 161 := ⟨by decide +kernel, rfl⟩
theorem d_Md_make_161 : dd m_Md_make 161 (.invokestatic 109) 3 164 := ⟨by decide +kernel, rfl⟩
theorem d_Md_make_164 : dd m_Md_make 164 .iastore 1 165 := ⟨by decide +kernel, rfl⟩
theorem d_Md_make_165 : dd m_Md_make 165 (.iinc 5 1) 3 168 := ⟨by decide +kernel, rfl⟩
theorem d_Md_make_168 : db m_Md_make 168 .goto 171 107 := ⟨(-61), by decide +kernel, rfl, rfl⟩
theorem d_Md_make_171 : dd m_Md_make 171 (.iload_n 3) 1 172 := ⟨by decide +kernel, rfl⟩
theorem d_Md_make_172 : dd m_Md_make 172 (.iconst 2) 1 173 := ⟨by decide +kernel, rfl⟩
theorem d_Md_make_173 : db m_Md_make 173 (.if_icmp .ne) 176 195 := ⟨22, by decide +kernel, rfl, rfl⟩
theorem d_Md_make_176 : dd m_Md_make 176 (.aload_n 0) 1 177 := ⟨by decide +kernel, rfl⟩
theorem d_Md_make_177 : dd m_Md_make 177 (.getfield 72) 3 180 := ⟨by decide +kernel, rfl⟩
theorem d_Md_make_180 : dd m_Md_make 180 (.aload_n 0) 1 181 := ⟨by decide +kernel, rfl⟩
theorem d_Md_make_181 : dd m_Md_make 181 (.getfield 75) 3 184 := ⟨by decide +kernel, rfl⟩
theorem d_Md_make_184 : dd m_Md_make 184 (.aload_n 0) 1 185 := ⟨by decide +kernel, rfl⟩
theorem d_Md_make_185 : dd m_Md_make 185 (.getfield 78) 3 188 := ⟨by decide +kernel, rfl⟩
theorem d_Md_make_188 : dd m_Md_make 188 (.aload_n 0) 1 189 := ⟨by decide +kernel, rfl⟩
theorem d_Md_make_189 : dd m_Md_make 189 (.invokevirtual 173) 3 192 := ⟨by decide +kernel, rfl⟩
theorem d_Md_make_192 : dd m_Md_make 192 (.invokestatic 186) 3 195 := ⟨by decide +kernel, rfl⟩
theorem d_Md_make_195 : dd m_Md_make 195 (.iload_n 3) 1 196 := ⟨by decide +kernel, rfl⟩
theorem d_Md_make_196 : dd m_Md_make 196 (.iconst 3) 1 197 := ⟨by decide +kernel, rfl⟩
theorem d_Md_make_197 : db m_Md_make 197 (.if_icmp .ne) 200 219 := ⟨22, by decide +kernel, rfl, rfl⟩
theorem d_Md_make_200 : dd m_Md_make 200 (.aload_n 0) 1 201 := ⟨by decide +kernel, rfl⟩
theorem d_Md_make_201 : dd m_Md_make 201 (.getfield 72) 3 204 := ⟨by decide +kernel, rfl⟩
theorem d_Md_make_204 : dd m_Md_make 204 (.aload_n 0) 1 205 := ⟨by decide +kernel, rfl⟩
theorem d_Md_make_205 : dd m_Md_make 205 (.getfield 75) 3 208 := ⟨by decide +kernel, rfl⟩
theorem d_Md_make_208 : dd m_Md_make 208 (.aload_n 0) 1 209 := ⟨by decide +kernel, rfl⟩
theorem d_Md_make_209 : dd m_Md_make 209 (.getfield 78) 3 212 := ⟨by decide +kernel, rfl⟩
theorem d_Md_make_212 : dd m_Md_make 212 (.aload_n 0) 1 213 := ⟨by decide +kernel, rfl⟩
theorem d_Md_make_213 : dd m_Md_make 213 (.invokevirtual 173) 3 216 := ⟨by decide +kernel, rfl⟩
theorem d_Md_make_216 : dd m_Md_make 216 (.invokestatic 133) 3 219 := ⟨by decide +kernel, rfl⟩
theorem d_Md_make_219 : dd m_Md_make 219 (.iload_n 3) 1 220 := ⟨by decide +kernel, rfl⟩
theorem d_Md_make_220 : dd m_Md_make 220 (.iconst 4) 1 221 := ⟨by decide +kernel, rfl⟩
theorem d_Md_make_221 : db m_Md_make 221 (.if_icmp .ne) 224 260 := ⟨39, by decide +kernel, rfl, rfl⟩
theorem d_Md_make_224 : dd m_Md_make 224 (.aload_n 0) 1 225 := ⟨by decide +kernel, rfl⟩
theorem d_Md_make_225 : dd m_Md_make 225 (.invokevirtual 193) 3 228 := ⟨by decide +kernel, rfl⟩
theorem d_Md_make_228 : dd m_Md_make 228 (.aload_n 0) 1 229 := ⟨by decide +kernel, rfl⟩
theorem d_Md_make_229 : dd m_Md_make 229 (.aload_n 0) 1 230 := ⟨by decide +kernel, rfl⟩
theorem d_Md_make_230 : dd m_Md_make 230 (.getfield 99) 3 233 := ⟨by decide +kernel, rfl⟩
theorem d_Md_make_233 : dd m_Md_make 233 (.aload_n 0) 1 234 := ⟨by decide +kernel, rfl⟩
theorem d_Md_make_234 : dd m_Md_make 234 (.getfield 75) 3 237 := ⟨by decide +kernel, rfl⟩
theorem d_Md_make_237 : dd m_Md_make 237 (.aload_n 0) 1 238 := ⟨by decide +kernel, rfl⟩
theorem d_Md_make_238 : dd m_Md_make 238 (.getfield 87) 3 241 := ⟨by decide +kernel, rfl⟩
theorem d_Md_make_241 : dd m_Md_make 241 (.invokevirtual 196) 3 244 := ⟨by decide +kernel, rfl⟩
theorem d_Md_make_244 : dd m_Md_make 244 (.aload_n 0) 1 245 := ⟨by decide +kernel, rfl⟩
theorem d_Md_make_245 : dd m_Md_make 245 (.aload_n 0) 1 246 := ⟨by decide +kernel, rfl⟩
theorem d_Md_make_246 : dd m_Md_make 246 (.getfield 87) 3 249 := ⟨by decide +kernel, rfl⟩
theorem d_Md_make_249 : dd m_Md_make 249 (.aload_n 0) 1 250 := ⟨by decide +kernel, rfl⟩
theorem d_Md_make_250 : dd m_Md_make 250 (.getfield 72) 3 253 := ⟨by decide +kernel, rfl⟩
theorem d_Md_make_253 : dd m_Md_make 253 (.aload_n 0) 1 254 := ⟨by decide +kernel, rfl⟩
theorem d_Md_make_254 : dd m_Md_make 254 (.getfield 78) 3 257 := ⟨by decide +kernel, rfl⟩
theorem d_Md_make_257 : dd m_Md_make 257 (.invokevirtual 200) 3 260 := ⟨by decide +kernel, rfl⟩
theorem d_Md_make_260 : dd m_Md_make 260 (.aload_n 0) 1 261 := ⟨by decide +kernel, rfl⟩
theorem d_Md_make_261 : dd m_Md_make 261 (.aload_n 0) 1 262 := ⟨by decide +kernel, rfl⟩
theorem d_Md_make_262 : dd m_Md_make 262 (.getfield 78) 3 265 := ⟨by decide +kernel, rfl⟩
theorem d_Md_make_265 : dd m_Md_make 265 (.iload 4) 2 267 := ⟨by decide +kernel, rfl⟩
theorem d_Md_make_267 : dd m_Md_make 267 (.aload_n 0) 1 268 := ⟨by decide +kernel, rfl⟩
theorem d_Md_make_268 : dd m_Md_make 268 (.invokevirtual 173) 3 271 := ⟨by decide +kernel, rfl⟩
theorem d_Md_make_271 : dd m_Md_make 271 (.iconst 1) 1 272 := ⟨by decide +kernel, rfl⟩
theorem d_Md_make_272 : dd m_Md_make 272 .isub 1 273 := ⟨by decide +kernel, rfl⟩
theorem d_Md_make_273 : dd m_Md_make 273 (.invokevirtual 203) 3 276 := ⟨by decide +kernel, rfl⟩
theorem d_Md_make_276 : decode (mbt m_Md_make) 276 = .ok (.ireturn, 1) := by decide +kernel
theorem d_Md_takes_0 : dd m_Md_takes 0 (.iconst 0) 1 1 := ⟨by decide +kernel, rfl⟩
theorem d_Md_takes_1 : dd m_Md_takes 1 (.istore_n 3) 1 2 := ⟨by decide +kernel, rfl⟩
theorem d_Md_takes_2 : dd m_Md_takes 2 (.iload_n 3) 1 3 := ⟨by decide +kernel, rfl⟩
theorem d_Md_takes_3 : dd m_Md_takes 3 (.bipush 10) 2 5 := ⟨by decide +kernel, rfl⟩
theorem d_Md_takes_5 : db m_Md_takes 5 (.if_icmp .ge) 8 37 := ⟨32, by decide +kernel, rfl, rfl⟩
theorem d_Md_takes_8 : dd m_Md_takes 8 (.aload_n 2) 1 9 := ⟨by decide +kernel, rfl⟩
theorem d_Md_takes_9 : dd m_Md_takes 9 (.iload_n 3) 1 10 := ⟨by decide +kernel, rfl⟩
theorem d_Md_takes_10 : dd m_Md_takes 10 (.iload_n 3) 1 11 := ⟨by decide +kernel, rfl⟩
theorem d_Md_takes_11 : dd m_Md_takes 11 (.aload_n 0) 1 12 := ⟨by decide +kernel, rfl⟩
theorem d_Md_takes_12 : dd m_Md_takes 12 (.invokevirtual 173) 3 15 := ⟨by decide +kernel, rfl⟩
theorem d_Md_takes_15 : db m_Md_takes 15 (.if_icmp .ge) 18 29 := ⟨14, by decide +kernel, rfl, rfl⟩
theorem d_Md_takes_18 : dd m_Md_takes 18 (.aload_n 0) 1 19 := ⟨by decide +kernel, rfl⟩
theorem d_Md_takes_19 : dd m_Md_takes 19 (.getfield 56) 3 22 := ⟨by decide +kernel, rfl⟩
theorem d_Md_takes_22 : dd m_Md_takes 22 (.iload_n 1) 1 23 := ⟨by decide +kernel, rfl⟩
theorem d_Md_takes_23 : dd m_Md_takes 23 (.iload_n 3) 1 24 := ⟨by decide +kernel, rfl⟩
theorem d_Md_takes_24 : dd m_Md_takes 24 .iadd 1 25 := ⟨by decide +kernel, rfl⟩
theorem d_Md_takes_25 : dd m_Md_takes 25 .iaload 1 26 := ⟨by decide +kernel, rfl⟩
theorem d_Md_takes_26 : db m_Md_takes 26 .goto 29 30 := ⟨4, by decide +kernel, rfl, rfl⟩
theorem d_Md_takes_29 : dd m_Md_takes 29 (.iconst 0) 1 30 := ⟨by decide +kernel, rfl⟩
theorem d_Md_takes_30 : dd m_Md_takes 30 .iastore 1 31 := ⟨by decide +kernel, rfl⟩
theorem d_Md_takes_31 : dd m_Md_takes 31 (.iinc 3 1) 3 34 := ⟨by decide +kernel, rfl⟩
theorem d_Md_takes_34 : db m_Md_takes 34 .goto 37 2 := ⟨(-32), by decide +kernel, rfl, rfl⟩
theorem d_Md_takes_37 : decode (mbt m_Md_takes) 37 = .ok (.return_, 1) := by decide +kernel
theorem d_Md_multiplies_0 : dd m_Md_multiplies 0 (.iconst 0) 1 1 := ⟨by decide +kernel, rfl⟩
theorem d_Md_multiplies_1 : dd m_Md_multiplies 1 (.istore 4) 2 3 := ⟨by decide +kernel, rfl⟩
theorem d_Md_multiplies_3 : dd m_Md_multiplies 3 (.iload 4) 2 5 := ⟨by decide +kernel, rfl⟩
theorem d_Md_multiplies_5 : dd m_Md_multiplies 5 (.iload_n 3) 1 6 := ⟨by decide +kernel, rfl⟩
theorem d_Md_multiplies_6 : db m_Md_multiplies 6 (.if_icmp .ge) 9 66 := ⟨60, by decide +kernel, rfl, rfl⟩
theorem d_Md_multiplies_9 : dd m_Md_multiplies 9 (.lconst 0) 1 10 := ⟨by decide +kernel, rfl⟩
theorem d_Md_multiplies_10 : dd m_Md_multiplies 10 (.lstore 5) 2 12 := ⟨by decide +kernel, rfl⟩
theorem d_Md_multiplies_12 : dd m_Md_multiplies 12 (.iconst 0) 1 13 := ⟨by decide +kernel, rfl⟩
theorem d_Md_multiplies_13 : dd m_Md_multiplies 13 (.istore 7) 2 15 := ⟨by decide +kernel, rfl⟩
theorem d_Md_multiplies_15 : dd m_Md_multiplies 15 (.iload 7) 2 17 := ⟨by decide +kernel, rfl⟩
theorem d_Md_multiplies_17 : dd m_Md_multiplies 17 (.iload 4) 2 19 := ⟨by decide +kernel, rfl⟩
theorem d_Md_multiplies_19 : db m_Md_multiplies 19 (.if_icmp .gt) 22 51 := ⟨32, by decide +kernel, rfl, rfl⟩
theorem d_Md_multiplies_22 : dd m_Md_multiplies 22 (.lload 5) 2 24 := ⟨by decide +kernel, rfl⟩
theorem d_Md_multiplies_24 : dd m_Md_multiplies 24 (.aload_n 0) 1 25 := ⟨by decide +kernel, rfl⟩
theorem d_Md_multiplies_25 : dd m_Md_multiplies 25 (.iload 7) 2 27 := ⟨by decide +kernel, rfl⟩
theorem d_Md_multiplies_27 : dd m_Md_multiplies 27 .iaload 1 28 := ⟨by decide +kernel, rfl⟩
theorem d_Md_multiplies_28 : dd m_Md_multiplies 28 .i2l 1 29 := ⟨by decide +kernel, rfl⟩
theorem d_Md_multiplies_29 : dd m_Md_multiplies 29 (.aload_n 1) 1 30 := ⟨by decide +kernel, rfl⟩
theorem d_Md_multiplies_30 : dd m_Md_multiplies 30 (.iload 4) 2 32 := ⟨by decide +kernel, rfl⟩
theorem d_Md_multiplies_32 : dd m_Md_multiplies 32 (.iload 7) 2 34 := ⟨by decide +kernel, rfl⟩
theorem d_Md_multiplies_34 : dd m_Md_multiplies 34 .isub 1 35 := ⟨by decide +kernel, rfl⟩
theorem d_Md_multiplies_35 : dd m_Md_multiplies 35 .iaload 1 36 := ⟨by decide +kernel, rfl⟩
theorem d_Md_multiplies_36 : dd m_Md_multiplies 36 .i2l 1 37 := ⟨by decide +kernel, rfl⟩
theorem d_Md_multiplies_37 : dd m_Md_multiplies 37 .lmul 1 38 := ⟨by decide +kernel, rfl⟩
theorem d_Md_multiplies_38 : dd m_Md_multiplies 38 (.ldc2_w 102) 3 41 := ⟨by decide +kernel, rfl⟩
theorem d_Md_multiplies_41 : dd m_Md_multiplies 41 .lrem 1 42 := ⟨by decide +kernel, rfl⟩
theorem d_Md_multiplies_42 : dd m_Md_multiplies 42 .ladd 1 43 := ⟨by decide +kernel, rfl⟩
theorem d_Md_multiplies_43 : dd m_Md_multiplies 43 (.lstore 5) 2 45 := ⟨by decide +kernel, rfl⟩
theorem d_Md_multiplies_45 : dd m_Md_multiplies 45 (.iinc 7 1) 3 48 := ⟨by decide +kernel, rfl⟩
theorem d_Md_multiplies_48 : db m_Md_multiplies 48 .goto 51 15 := ⟨(-33), by decide +kernel, rfl, rfl⟩
theorem d_Md_multiplies_51 : dd m_Md_multiplies 51 (.aload_n 2) 1 52 := ⟨by decide +kernel, rfl⟩
theorem d_Md_multiplies_52 : dd m_Md_multiplies 52 (.iload 4) 2 54 := ⟨by decide +kernel, rfl⟩
theorem d_Md_multiplies_54 : dd m_Md_multiplies 54 (.lload 5) 2 56 := ⟨by decide +kernel, rfl⟩
theorem d_Md_multiplies_56 : dd m_Md_multiplies 56 (.invokestatic 109) 3 59 := ⟨by decide +kernel, rfl⟩
theorem d_Md_multiplies_59 : dd m_Md_multiplies 59 .iastore 1 60 := ⟨by decide +kernel, rfl⟩
theorem d_Md_multiplies_60 : dd m_Md_multiplies 60 (.iinc 4 1) 3 63 := ⟨by decide +kernel, rfl⟩
theorem d_Md_multiplies_63 : db m_Md_multiplies 63 .goto 66 3 := ⟨(-60), by decide +kernel, rfl, rfl⟩
theorem d_Md_multiplies_66 : decode (mbt m_Md_multiplies) 66 = .ok (.return_, 1) := by decide +kernel
theorem d_Md_laysUnit_0 : dd m_Md_laysUnit 0 (.iconst 0) 1 1 := ⟨by decide +kernel, rfl⟩
theorem d_Md_laysUnit_1 : dd m_Md_laysUnit 1 (.istore_n 1) 1 2 := ⟨by decide +kernel, rfl⟩
theorem d_Md_laysUnit_2 : dd m_Md_laysUnit 2 (.iload_n 1) 1 3 := ⟨by decide +kernel, rfl⟩
theorem d_Md_laysUnit_3 : dd m_Md_laysUnit 3 (.bipush 10) 2 5 := ⟨by decide +kernel, rfl⟩
theorem d_Md_laysUnit_5 : db m_Md_laysUnit 5 (.if_icmp .ge) 8 29 := ⟨24, by decide +kernel, rfl, rfl⟩
theorem d_Md_laysUnit_8 : dd m_Md_laysUnit 8 (.aload_n 0) 1 9 := ⟨by decide +kernel, rfl⟩
theorem d_Md_laysUnit_9 : dd m_Md_laysUnit 9 (.getfield 99) 3 12 := ⟨by decide +kernel, rfl⟩
theorem d_Md_laysUnit_12 : dd m_Md_laysUnit 12 (.iload_n 1) 1 13 := ⟨by decide +kernel, rfl⟩
theorem d_Md_laysUnit_13 : dd m_Md_laysUnit 13 (.iload_n 1) 1 14 := ⟨by decide +kernel, rfl⟩
theorem d_Md_laysUnit_14 : db m_Md_laysUnit 14 (.ifCond .ne) 17 21 := ⟨7, by decide +kernel, rfl, rfl⟩
theorem d_Md_laysUnit_17 : dd m_Md_laysUnit 17 (.iconst 1) 1 18 := ⟨by decide +kernel, rfl⟩
theorem d_Md_laysUnit_18 : db m_Md_laysUnit 18 .goto 21 22 := ⟨4, by decide +kernel, rfl, rfl⟩
theorem d_Md_laysUnit_21 : dd m_Md_laysUnit 21 (.iconst 0) 1 22 := ⟨by decide +kernel, rfl⟩
theorem d_Md_laysUnit_22 : dd m_Md_laysUnit 22 .iastore 1 23 := ⟨by decide +kernel, rfl⟩
theorem d_Md_laysUnit_23 : dd m_Md_laysUnit 23 (.iinc 1 1) 3 26 := ⟨by decide +kernel, rfl⟩
theorem d_Md_laysUnit_26 : db m_Md_laysUnit 26 .goto 29 2 := ⟨(-24), by decide +kernel, rfl, rfl⟩
theorem d_Md_laysUnit_29 : decode (mbt m_Md_laysUnit) 29 = .ok (.return_, 1) := by decide +kernel
theorem d_Md_columns_0 : dd m_Md_columns 0 (.iconst 0) 1 1 := ⟨by decide +kernel, rfl⟩
theorem d_Md_columns_1 : dd m_Md_columns 1 (.istore 4) 2 3 := ⟨by decide +kernel, rfl⟩
theorem d_Md_columns_3 : dd m_Md_columns 3 (.iload 4) 2 5 := ⟨by decide +kernel, rfl⟩
theorem d_Md_columns_5 : dd m_Md_columns 5 (.bipush 10) 2 7 := ⟨by decide +kernel, rfl⟩
theorem d_Md_columns_7 : db m_Md_columns 7 (.if_icmp .ge) 10 27 := ⟨20, by decide +kernel, rfl, rfl⟩
theorem d_Md_columns_10 : dd m_Md_columns 10 (.aload_n 0) 1 11 := ⟨by decide +kernel, rfl⟩
theorem d_Md_columns_11 : dd m_Md_columns 11 (.getfield 81) 3 14 := ⟨by decide +kernel, rfl⟩
theorem d_Md_columns_14 : dd m_Md_columns 14 (.iload 4) 2 16 := ⟨by decide +kernel, rfl⟩
theorem d_Md_columns_16 : dd m_Md_columns 16 (.aload_n 1) 1 17 := ⟨by decide +kernel, rfl⟩
theorem d_Md_columns_17 : dd m_Md_columns 17 (.iload 4) 2 19 := ⟨by decide +kernel, rfl⟩
theorem d_Md_columns_19 : dd m_Md_columns 19 .iaload 1 20 := ⟨by decide +kernel, rfl⟩
theorem d_Md_columns_20 : dd m_Md_columns 20 .iastore 1 21 := ⟨by decide +kernel, rfl⟩
theorem d_Md_columns_21 : dd m_Md_columns 21 (.iinc 4 1) 3 24 := ⟨by decide +kernel, rfl⟩
theorem d_Md_columns_24 : db m_Md_columns 24 .goto 27 3 := ⟨(-21), by decide +kernel, rfl, rfl⟩
theorem d_Md_columns_27 : dd m_Md_columns 27 (.iconst 0) 1 28 := ⟨by decide +kernel, rfl⟩
theorem d_Md_columns_28 : dd m_Md_columns 28 (.istore 4) 2 30 := ⟨by decide +kernel, rfl⟩
theorem d_Md_columns_30 : dd m_Md_columns 30 (.iload 4) 2 32 := ⟨by decide +kernel, rfl⟩
theorem d_Md_columns_32 : dd m_Md_columns 32 (.aload_n 0) 1 33 := ⟨by decide +kernel, rfl⟩
theorem d_Md_columns_33 : dd m_Md_columns 33 (.invokevirtual 173) 3 36 := ⟨by decide +kernel, rfl⟩
theorem d_Md_columns_36 : db m_Md_columns 36 (.if_icmp .ge) 39 128 := ⟨92, by decide +kernel, rfl, rfl⟩
theorem d_Md_columns_39 : dd m_Md_columns 39 (.iconst 0) 1 40 := ⟨by decide +kernel, rfl⟩
theorem d_Md_columns_40 : dd m_Md_columns 40 (.istore 5) 2 42 := ⟨by decide +kernel, rfl⟩
theorem d_Md_columns_42 : dd m_Md_columns 42 (.iload 5) 2 44 := ⟨by decide +kernel, rfl⟩
theorem d_Md_columns_44 : dd m_Md_columns 44 (.aload_n 0) 1 45 := ⟨by decide +kernel, rfl⟩
theorem d_Md_columns_45 : dd m_Md_columns 45 (.invokevirtual 173) 3 48 := ⟨by decide +kernel, rfl⟩
theorem d_Md_columns_48 : db m_Md_columns 48 (.if_icmp .ge) 51 74 := ⟨26, by decide +kernel, rfl, rfl⟩
theorem d_Md_columns_51 : dd m_Md_columns 51 (.aload_n 3) 1 52 := ⟨by decide +kernel, rfl⟩
theorem d_Md_columns_52 : dd m_Md_columns 52 (.bipush 10) 2 54 := ⟨by decide +kernel, rfl⟩
theorem d_Md_columns_54 : dd m_Md_columns 54 (.iload 5) 2 56 := ⟨by decide +kernel, rfl⟩
theorem d_Md_columns_56 : dd m_Md_columns 56 .imul 1 57 := ⟨by decide +kernel, rfl⟩
theorem d_Md_columns_57 : dd m_Md_columns 57 (.iload 4) 2 59 := ⟨by decide +kernel, rfl⟩
theorem d_Md_columns_59 : dd m_Md_columns 59 .iadd 1 60 := ⟨by decide +kernel, rfl⟩
theorem d_Md_columns_60 : dd m_Md_columns 60 (.aload_n 0) 1 61 := ⟨by decide +kernel, rfl⟩
theorem d_Md_columns_61 : dd m_Md_columns 61 (.getfield 81) 3 64 := ⟨by decide +kernel, rfl⟩
theorem d_Md_columns_64 : dd m_Md_columns 64 (.iload 5) 2 66 := ⟨by decide +kernel, rfl⟩
theorem d_Md_columns_66 : dd m_Md_columns 66 .iaload 1 67 := ⟨by decide +kernel, rfl⟩
theorem d_Md_columns_67 : dd m_Md_columns 67 .iastore 1 68 := ⟨by decide +kernel, rfl⟩
theorem d_Md_columns_68 : dd m_Md_columns 68 (.iinc 5 1) 3 71 := ⟨by decide +kernel, rfl⟩
theorem d_Md_columns_71 : db m_Md_columns 71 .goto 74 42 := ⟨(-29), by decide +kernel, rfl, rfl⟩
theorem d_Md_columns_74 : dd m_Md_columns 74 (.aload_n 0) 1 75 := ⟨by decide +kernel, rfl⟩
theorem d_Md_columns_75 : dd m_Md_columns 75 (.getfield 81) 3 78 := ⟨by decide +kernel, rfl⟩
theorem d_Md_columns_78 : dd m_Md_columns 78 (.aload_n 2) 1 79 := ⟨by decide +kernel, rfl⟩
theorem d_Md_columns_79 : dd m_Md_columns 79 (.aload_n 0) 1 80 := ⟨by decide +kernel, rfl⟩
theorem d_Md_columns_80 : dd m_Md_columns 80 (.getfield 84) 3 83 := ⟨by decide +kernel, rfl⟩
theorem d_Md_columns_83 : dd m_Md_columns 83 (.aload_n 0) 1 84 := ⟨by decide +kernel, rfl⟩
theorem d_Md_columns_84 : dd m_Md_columns 84 (.invokevirtual 173) 3 87 := ⟨by decide +kernel, rfl⟩
theorem d_Md_columns_87 : dd m_Md_columns 87 (.invokestatic 186) 3 90 := ⟨by decide +kernel, rfl⟩
theorem d_Md_columns_90 : dd m_Md_columns 90 (.iconst 0) 1 91 := ⟨by decide +kernel, rfl⟩
theorem d_Md_columns_91 : dd m_Md_columns 91 (.istore 5) 2 93 := ⟨by decide +kernel, rfl⟩
theorem d_Md_columns_93 : dd m_Md_columns 93 (.iload 5) 2 95 := ⟨by decide +kernel, rfl⟩
theorem d_Md_columns_95 : dd m_Md_columns 95 (.aload_n 0) 1 96 := ⟨by decide +kernel, rfl⟩
theorem d_Md_columns_96 : dd m_Md_columns 96 (.invokevirtual 173) 3 99 := ⟨by decide +kernel, rfl⟩
theorem d_Md_columns_99 : db m_Md_columns 99 (.if_icmp .ge) 102 122 := ⟨23, by decide +kernel, rfl, rfl⟩
theorem d_Md_columns_102 : dd m_Md_columns 102 (.aload_n 0) 1 103 := ⟨by decide +kernel, rfl⟩
theorem d_Md_columns_103 : dd m_Md_columns 103 (.getfield 81) 3 106 := ⟨by decide +kernel, rfl⟩
theorem d_Md_columns_106 : dd m_Md_columns 106 (.iload 5) 2 108 := ⟨by decide +kernel, rfl⟩
theorem d_Md_columns_108 : dd m_Md_columns 108 (.aload_n 0) 1 109 := ⟨by decide +kernel, rfl⟩
theorem d_Md_columns_109 : dd m_Md_columns 109 (.getfield 84) 3 112 := ⟨by decide +kernel, rfl⟩
theorem d_Md_columns_112 : dd m_Md_columns 112 (.iload 5) 2 114 := ⟨by decide +kernel, rfl⟩
theorem d_Md_columns_114 : dd m_Md_columns 114 .iaload 1 115 := ⟨by decide +kernel, rfl⟩
theorem d_Md_columns_115 : dd m_Md_columns 115 .iastore 1 116 := ⟨by decide +kernel, rfl⟩
theorem d_Md_columns_116 : dd m_Md_columns 116 (.iinc 5 1) 3 119 := ⟨by decide +kernel, rfl⟩
theorem d_Md_columns_119 : db m_Md_columns 119 .goto 122 93 := ⟨(-26), by decide +kernel, rfl, rfl⟩
theorem d_Md_columns_122 : dd m_Md_columns 122 (.iinc 4 1) 3 125 := ⟨by decide +kernel, rfl⟩
theorem d_Md_columns_125 : db m_Md_columns 125 .goto 128 30 := ⟨(-95), by decide +kernel, rfl, rfl⟩
theorem d_Md_columns_128 : decode (mbt m_Md_columns) 128 = .ok (.return_, 1) := by decide +kernel
theorem d_Md_makes_0 : dd m_Md_makes 0 (.iconst 0) 1 1 := ⟨by decide +kernel, rfl⟩
theorem d_Md_makes_1 : dd m_Md_makes 1 (.istore 4) 2 3 := ⟨by decide +kernel, rfl⟩
theorem d_Md_makes_3 : dd m_Md_makes 3 (.iload 4) 2 5 := ⟨by decide +kernel, rfl⟩
theorem d_Md_makes_5 : dd m_Md_makes 5 (.aload_n 0) 1 6 := ⟨by decide +kernel, rfl⟩
theorem d_Md_makes_6 : dd m_Md_makes 6 (.invokevirtual 173) 3 9 := ⟨by decide +kernel, rfl⟩
theorem d_Md_makes_9 : db m_Md_makes 9 (.if_icmp .ge) 12 74 := ⟨65, by decide +kernel, rfl, rfl⟩
theorem d_Md_makes_12 : dd m_Md_makes 12 (.lconst 0) 1 13 := ⟨by decide +kernel, rfl⟩
theorem d_Md_makes_13 : dd m_Md_makes 13 (.lstore 5) 2 15 := ⟨by decide +kernel, rfl⟩
theorem d_Md_makes_15 : dd m_Md_makes 15 (.iconst 0) 1 16 := ⟨by decide +kernel, rfl⟩
theorem d_Md_makes_16 : dd m_Md_makes 16 (.istore 7) 2 18 := ⟨by decide +kernel, rfl⟩
theorem d_Md_makes_18 : dd m_Md_makes 18 (.iload 7) 2 20 := ⟨by decide +kernel, rfl⟩
theorem d_Md_makes_20 : dd m_Md_makes 20 (.aload_n 0) 1 21 := ⟨by decide +kernel, rfl⟩
theorem d_Md_makes_21 : dd m_Md_makes 21 (.invokevirtual 173) 3 24 := ⟨by decide +kernel, rfl⟩
theorem d_Md_makes_24 : db m_Md_makes 24 (.if_icmp .ge) 27 59 := ⟨35, by decide +kernel, rfl, rfl⟩
theorem d_Md_makes_27 : dd m_Md_makes 27 (.lload 5) 2 29 := ⟨by decide +kernel, rfl⟩
theorem d_Md_makes_29 : dd m_Md_makes 29 (.aload_n 1) 1 30 := ⟨by decide +kernel, rfl⟩
theorem d_Md_makes_30 : dd m_Md_makes 30 (.bipush 10) 2 32 := ⟨by decide +kernel, rfl⟩
theorem d_Md_makes_32 : dd m_Md_makes 32 (.iload 4) 2 34 := ⟨by decide +kernel, rfl⟩
theorem d_Md_makes_34 : dd m_Md_makes 34 .imul 1 35 := ⟨by decide +kernel, rfl⟩
theorem d_Md_makes_35 : dd m_Md_makes 35 (.iload 7) 2 37 := ⟨by decide +kernel, rfl⟩
theorem d_Md_makes_37 : dd m_Md_makes 37 .iadd 1 38 := ⟨by decide +kernel, rfl⟩
theorem d_Md_makes_38 : dd m_Md_makes 38 .iaload 1 39 := ⟨by decide +kernel, rfl⟩
theorem d_Md_makes_39 : dd m_Md_makes 39 .i2l 1 40 := ⟨by decide +kernel, rfl⟩
theorem d_Md_makes_40 : dd m_Md_makes 40 (.aload_n 2) 1 41 := ⟨by decide +kernel, rfl⟩
theorem d_Md_makes_41 : dd m_Md_makes 41 (.iload 7) 2 43 := ⟨by decide +kernel, rfl⟩
theorem d_Md_makes_43 : dd m_Md_makes 43 .iaload 1 44 := ⟨by decide +kernel, rfl⟩
theorem d_Md_makes_44 : dd m_Md_makes 44 .i2l 1 45 := ⟨by decide +kernel, rfl⟩
theorem d_Md_makes_45 : dd m_Md_makes 45 .lmul 1 46 := ⟨by decide +kernel, rfl⟩
theorem d_Md_makes_46 : dd m_Md_makes 46 (.ldc2_w 102) 3 49 := ⟨by decide +kernel, rfl⟩
theorem d_Md_makes_49 : dd m_Md_makes 49 .lrem 1 50 := ⟨by decide +kernel, rfl⟩
theorem d_Md_makes_50 : dd m_Md_makes 50 .ladd 1 51 := ⟨by decide +kernel, rfl⟩
theorem d_Md_makes_51 : dd m_Md_makes 51 (.lstore 5) 2 53 := ⟨by decide +kernel, rfl⟩
theorem d_Md_makes_53 : dd m_Md_makes 53 (.iinc 7 1) 3 56 := ⟨by decide +kernel, rfl⟩
theorem d_Md_makes_56 : db m_Md_makes 56 .goto 59 18 := ⟨(-38), by decide +kernel, rfl, rfl⟩
theorem d_Md_makes_59 : dd m_Md_makes 59 (.aload_n 3) 1 60 := ⟨by decide +kernel, rfl⟩
theorem d_Md_makes_60 : dd m_Md_makes 60 (.iload 4) 2 62 := ⟨by decide +kernel, rfl⟩
theorem d_Md_makes_62 : dd m_Md_makes 62 (.lload 5) 2 64 := ⟨by decide +kernel, rfl⟩
theorem d_Md_makes_64 : dd m_Md_makes 64 (.invokestatic 109) 3 67 := ⟨by decide +kernel, rfl⟩
theorem d_Md_makes_67 : dd m_Md_makes 67 .iastore 1 68 := ⟨by decide +kernel, rfl⟩
theorem d_Md_makes_68 : dd m_Md_makes 68 (.iinc 4 1) 3 71 := ⟨by decide +kernel, rfl⟩
theorem d_Md_makes_71 : db m_Md_makes 71 .goto 74 3 := ⟨(-68), by decide +kernel, rfl, rfl⟩
theorem d_Md_makes_74 : decode (mbt m_Md_makes) 74 = .ok (.return_, 1) := by decide +kernel
theorem d_Md_comes_0 : dd m_Md_comes 0 (.aload_n 0) 1 1 := ⟨by decide +kernel, rfl⟩
theorem d_Md_comes_1 : dd m_Md_comes 1 (.invokevirtual 177) 3 4 := ⟨by decide +kernel, rfl⟩
theorem d_Md_comes_4 : dd m_Md_comes 4 (.iconst 0) 1 5 := ⟨by decide +kernel, rfl⟩
theorem d_Md_comes_5 : dd m_Md_comes 5 (.istore 4) 2 7 := ⟨by decide +kernel, rfl⟩
theorem d_Md_comes_7 : dd m_Md_comes 7 (.iload 4) 2 9 := ⟨by decide +kernel, rfl⟩
theorem d_Md_comes_9 : dd m_Md_comes 9 (.aload_n 0) 1 10 := ⟨by decide +kernel, rfl⟩
theorem d_Md_comes_10 : dd m_Md_comes 10 (.invokevirtual 173) 3 13 := ⟨by decide +kernel, rfl⟩
theorem d_Md_comes_13 : db m_Md_comes 13 (.if_icmp .ge) 16 40 := ⟨27, by decide +kernel, rfl, rfl⟩
theorem d_Md_comes_16 : dd m_Md_comes 16 (.aload_n 0) 1 17 := ⟨by decide +kernel, rfl⟩
theorem d_Md_comes_17 : dd m_Md_comes 17 (.getfield 56) 3 20 := ⟨by decide +kernel, rfl⟩
theorem d_Md_comes_20 : dd m_Md_comes 20 (.iconst 1) 1 21 := ⟨by decide +kernel, rfl⟩
theorem d_Md_comes_21 : dd m_Md_comes 21 (.bipush 10) 2 23 := ⟨by decide +kernel, rfl⟩
theorem d_Md_comes_23 : dd m_Md_comes 23 (.iload_n 2) 1 24 := ⟨by decide +kernel, rfl⟩
theorem d_Md_comes_24 : dd m_Md_comes 24 .imul 1 25 := ⟨by decide +kernel, rfl⟩
theorem d_Md_comes_25 : dd m_Md_comes 25 .iadd 1 26 := ⟨by decide +kernel, rfl⟩
theorem d_Md_comes_26 : dd m_Md_comes 26 (.iload 4) 2 28 := ⟨by decide +kernel, rfl⟩
theorem d_Md_comes_28 : dd m_Md_comes 28 .iadd 1 29 := ⟨by decide +kernel, rfl⟩
theorem d_Md_comes_29 : dd m_Md_comes 29 (.aload_n 1) 1 30 := ⟨by decide +kernel, rfl⟩
theorem d_Md_comes_30 : dd m_Md_comes 30 (.iload 4) 2 32 := ⟨by decide +kernel, rfl⟩
theorem d_Md_comes_32 : dd m_Md_comes 32 .iaload 1 33 := ⟨by decide +kernel, rfl⟩
theorem d_Md_comes_33 : dd m_Md_comes 33 .iastore 1 34 := ⟨by decide +kernel, rfl⟩
theorem d_Md_comes_34 : dd m_Md_comes 34 (.iinc 4 1) 3 37 := ⟨by decide +kernel, rfl⟩
theorem d_Md_comes_37 : db m_Md_comes 37 .goto 40 7 := ⟨(-30), by decide +kernel, rfl, rfl⟩
theorem d_Md_comes_40 : dd m_Md_comes 40 (.aload_n 1) 1 41 := ⟨by decide +kernel, rfl⟩
theorem d_Md_comes_41 : dd m_Md_comes 41 (.iload_n 3) 1 42 := ⟨by decide +kernel, rfl⟩
theorem d_Md_comes_42 : dd m_Md_comes 42 .iaload 1 43 := ⟨by decide +kernel, rfl⟩
theorem d_Md_comes_43 : decode (mbt m_Md_comes) 43 = .ok (.ireturn, 1) := by decide +kernel
theorem d_Md_turn_0 : dd m_Md_turn 0 (.aload_n 0) 1 1 := ⟨by decide +kernel, rfl⟩
theorem d_Md_turn_1 : dd m_Md_turn 1 (.iconst 0) 1 2 := ⟨by decide +kernel, rfl⟩
theorem d_Md_turn_2 : dd m_Md_turn 2 (.putfield 1) 3 5 := ⟨by decide +kernel, rfl⟩
theorem d_Md_turn_5 : dd m_Md_turn 5 (.aload_n 0) 1 6 := ⟨by decide +kernel, rfl⟩
theorem d_Md_turn_6 : dd m_Md_turn 6 (.iload_n 1) 1 7 := ⟨by decide +kernel, rfl⟩
theorem d_Md_turn_7 : dd m_Md_turn 7 (.invokevirtual 180) 3 10 := ⟨by decide +kernel, rfl⟩
theorem d_Md_turn_10 : db m_Md_turn 10 (.ifCond .eq) 13 30 := ⟨20, by decide +kernel, rfl, rfl⟩
theorem d_Md_turn_13 : dd m_Md_turn 13 (.aload_n 0) 1 14 := ⟨by decide +kernel, rfl⟩
theorem d_Md_turn_14 : dd m_Md_turn 14 (.iload_n 3) 1 15 := ⟨by decide +kernel, rfl⟩
theorem d_Md_turn_15 : dd m_Md_turn 15 (.invokevirtual 180) 3 18 := ⟨by decide +kernel, rfl⟩
theorem d_Md_turn_18 : db m_Md_turn 18 (.ifCond .eq) 21 30 := ⟨12, by decide +kernel, rfl, rfl⟩
theorem d_Md_turn_21 : dd m_Md_turn 21 (.iload_n 2) 1 22 := ⟨by decide +kernel, rfl⟩
theorem d_Md_turn_22 : dd m_Md_turn 22 (.iconst 0) 1 23 := ⟨by decide +kernel, rfl⟩
theorem d_Md_turn_23 : dd m_Md_turn 23 (.iconst 5) 1 24 := ⟨by decide +kernel, rfl⟩
theorem d_Md_turn_24 : dd m_Md_turn 24 (.invokestatic 118) 3 27 := ⟨by decide +kernel, rfl⟩
theorem d_Md_turn_27 : db m_Md_turn 27 (.ifCond .ne) 30 32 := ⟨5, by decide +kernel, rfl, rfl⟩
theorem d_Md_turn_30 : dd m_Md_turn 30 (.iconst (-1)) 1 31 := ⟨by decide +kernel, rfl⟩
theorem d_Md_turn_31 : decode (mbt m_Md_turn) 31 = .ok (.ireturn, 1) := by decide +kernel
theorem d_Md_turn_32 : dd m_Md_turn 32 (.aload_n 0) 1 33 := ⟨by decide +kernel, rfl⟩
theorem d_Md_turn_33 : dd m_Md_turn 33 (.iconst 1) 1 34 := ⟨by decide +kernel, rfl⟩
theorem d_Md_turn_34 : dd m_Md_turn 34 (.bipush 10) 2 36 := ⟨by decide +kernel, rfl⟩
theorem d_Md_turn_36 : dd m_Md_turn 36 (.iload_n 1) 1 37 := ⟨by decide +kernel, rfl⟩
theorem d_Md_turn_37 : dd m_Md_turn 37 .imul 1 38 := ⟨by decide +kernel, rfl⟩
theorem d_Md_turn_38 : dd m_Md_turn 38 .iadd 1 39 := ⟨by decide +kernel, rfl⟩
theorem d_Md_turn_39 : dd m_Md_turn 39 (.aload_n 0) 1 40 := ⟨by decide +kernel, rfl⟩
theorem d_Md_turn_40 : dd m_Md_turn 40 (.getfield 72) 3 43 := ⟨by decide +kernel, rfl⟩
theorem d_Md_turn_43 : dd m_Md_turn 43 (.invokevirtual 189) 3 46 := ⟨by decide +kernel, rfl⟩
theorem d_Md_turn_46 : dd m_Md_turn 46 (.iload_n 2) 1 47 := ⟨by decide +kernel, rfl⟩
theorem d_Md_turn_47 : dd m_Md_turn 47 (.iconst 4) 1 48 := ⟨by decide +kernel, rfl⟩
theorem d_Md_turn_48 : db m_Md_turn 48 (.if_icmp .ne) 51 69 := ⟨21, by decide +kernel, rfl, rfl⟩
theorem d_Md_turn_51 : dd m_Md_turn 51 (.aload_n 0) 1 52 := ⟨by decide +kernel, rfl⟩
theorem d_Md_turn_52 : dd m_Md_turn 52 (.getfield 72) 3 55 := ⟨by decide +kernel, rfl⟩
theorem d_Md_turn_55 : dd m_Md_turn 55 (.iconst 0) 1 56 := ⟨by decide +kernel, rfl⟩
theorem d_Md_turn_56 : dd m_Md_turn 56 .iaload 1 57 := ⟨by decide +kernel, rfl⟩
theorem d_Md_turn_57 : db m_Md_turn 57 (.ifCond .ne) 60 83 := ⟨26, by decide +kernel, rfl, rfl⟩
theorem d_Md_turn_60 : dd m_Md_turn 60 (.aload_n 0) 1 61 := ⟨by decide +kernel, rfl⟩
theorem d_Md_turn_61 : dd m_Md_turn 61 (.getfield 72) 3 64 := ⟨by decide +kernel, rfl⟩
theorem d_Md_turn_64 : dd m_Md_turn 64 (.iconst 1) 1 65 := ⟨by decide +kernel, rfl⟩
theorem d_Md_turn_65 : dd m_Md_turn 65 .iaload 1 66 := ⟨by decide +kernel, rfl⟩
theorem d_Md_turn_66 : db m_Md_turn 66 (.ifCond .eq) 69 83 := ⟨17, by decide +kernel, rfl, rfl⟩
theorem d_Md_turn_69 : dd m_Md_turn 69 (.iload_n 2) 1 70 := ⟨by decide +kernel, rfl⟩
theorem d_Md_turn_70 : dd m_Md_turn 70 (.iconst 5) 1 71 := ⟨by decide +kernel, rfl⟩
theorem d_Md_turn_71 : db m_Md_turn 71 (.if_icmp .ne) 74 85 := ⟨14, by decide +kernel, rfl, rfl⟩
theorem d_Md_turn_74 : dd m_Md_turn 74 (.aload_n 0) 1 75 := ⟨by decide +kernel, rfl⟩
theorem d_Md_turn_75 : dd m_Md_turn 75 (.getfield 72) 3 78 := ⟨by decide +kernel, rfl⟩
theorem d_Md_turn_78 : dd m_Md_turn 78 (.iconst 0) 1 79 := ⟨by decide +kernel, rfl⟩
theorem d_Md_turn_79 : dd m_Md_turn 79 .iaload 1 80 := ⟨by decide +kernel, rfl⟩
theorem d_Md_turn_80 : db m_Md_turn 80 (.ifCond .ne) 83 85 := ⟨5, by decide +kernel, rfl, rfl⟩
theorem d_Md_turn_83 : dd m_Md_turn 83 (.iconst (-1)) 1 84 := ⟨by decide +kernel, rfl⟩
theorem d_Md_turn_84 : decode (mbt m_Md_turn) 84 = .ok (.ireturn, 1) := by decide +kernel
theorem d_Md_turn_85 : dd m_Md_turn 85 (.iconst 0) 1 86 := ⟨by decide +kernel, rfl⟩
theorem d_Md_turn_86 : dd m_Md_turn 86 (.istore 4) 2 88 := ⟨by decide +kernel, rfl⟩
theorem d_Md_turn_88 : dd m_Md_turn 88 (.iload 4) 2 90 := ⟨by decide +kernel, rfl⟩
theorem d_Md_turn_90 : dd m_Md_turn 90 (.aload_n 0) 1 91 := ⟨by decide +kernel, rfl⟩
theorem d_Md_turn_91 : dd m_Md_turn 91 (.invokevirtual 173) 3 94 := ⟨by decide +kernel, rfl⟩
theorem d_Md_turn_94 : db m_Md_turn 94 (.if_icmp .ge) 97 235 := ⟨141, by decide +kernel, rfl, rfl⟩
theorem d_Md_turn_97 : dd m_Md_turn 97 (.iload 4) 2 99 := ⟨by decide +kernel, rfl⟩
theorem d_Md_turn_99 : db m_Md_turn 99 (.ifCond .le) 102 114 := ⟨15, by decide +kernel, rfl, rfl⟩
theorem d_Md_turn_102 : dd m_Md_turn 102 (.aload_n 0) 1 103 := ⟨by decide +kernel, rfl⟩
theorem d_Md_turn_103 : dd m_Md_turn 103 (.getfield 72) 3 106 := ⟨by decide +kernel, rfl⟩
theorem d_Md_turn_106 : dd m_Md_turn 106 (.iload 4) 2 108 := ⟨by decide +kernel, rfl⟩
theorem d_Md_turn_108 : dd m_Md_turn 108 (.iconst 1) 1 109 := ⟨by decide +kernel, rfl⟩
theorem d_Md_turn_109 : dd m_Md_turn 109 .isub 1 110 := ⟨by decide +kernel, rfl⟩
theorem d_Md_turn_110 : dd m_Md_turn 110 .iaload 1 111 := ⟨by decide +kernel, rfl⟩
theorem d_Md_turn_111 : db m_Md_turn 111 .goto 114 115 := ⟨4, by decide +kernel, rfl, rfl⟩
theorem d_Md_turn_114 : dd m_Md_turn 114 (.iconst 0) 1 115 := ⟨by decide +kernel, rfl⟩
theorem d_Md_turn_115 : dd m_Md_turn 115 (.istore 5) 2 117 := ⟨by decide +kernel, rfl⟩
theorem d_Md_turn_117 : dd m_Md_turn 117 (.iload 4) 2 119 := ⟨by decide +kernel, rfl⟩
theorem d_Md_turn_119 : dd m_Md_turn 119 (.iconst 1) 1 120 := ⟨by decide +kernel, rfl⟩
theorem d_Md_turn_120 : dd m_Md_turn 120 .iadd 1 121 := ⟨by decide +kernel, rfl⟩
theorem d_Md_turn_121 : dd m_Md_turn 121 (.aload_n 0) 1 122 := ⟨by decide +kernel, rfl⟩
theorem d_Md_turn_122 : dd m_Md_turn 122 (.invokevirtual 173) 3 125 := ⟨by decide +kernel, rfl⟩
theorem d_Md_turn_125 : db m_Md_turn 125 (.if_icmp .ge) 128 140 := ⟨15, by decide +kernel, rfl, rfl⟩
theorem d_Md_turn_128 : dd m_Md_turn 128 (.aload_n 0) 1 129 := ⟨by decide +kernel, rfl⟩
theorem d_Md_turn_129 : dd m_Md_turn 129 (.getfield 72) 3 132 := ⟨by decide +kernel, rfl⟩
theorem d_Md_turn_132 : dd m_Md_turn 132 (.iload 4) 2 134 := ⟨by decide +kernel, rfl⟩
theorem d_Md_turn_134 : dd m_Md_turn 134 (.iconst 1) 1 135 := ⟨by decide +kernel, rfl⟩
theorem d_Md_turn_135 : dd m_Md_turn 135 .iadd 1 136 := ⟨by decide +kernel, rfl⟩
theorem d_Md_turn_136 : dd m_Md_turn 136 .iaload 1 137 := ⟨by decide +kernel, rfl⟩
theorem d_Md_turn_137 : db m_Md_turn 137 .goto 140 141 := ⟨4, by decide +kernel, rfl, rfl⟩
theorem d_Md_turn_140 : dd m_Md_turn 140 (.iconst 0) 1 141 := ⟨by decide +kernel, rfl⟩
theorem d_Md_turn_141 : dd m_Md_turn 141 (.istore 6) 2 143 := ⟨by decide +kernel, rfl⟩
theorem d_Md_turn_143 : dd m_Md_turn 143 (.iload_n 2) 1 144 := ⟨by decide +kernel, rfl⟩
theorem d_Md_turn_144 : db m_Md_turn 144 (.ifCond .ne) 147 156 := ⟨12, by decide +kernel, rfl, rfl⟩
theorem d_Md_turn_147 : dd m_Md_turn 147 (.aload_n 0) 1 148 := ⟨by decide +kernel, rfl⟩
theorem d_Md_turn_148 : dd m_Md_turn 148 (.getfield 78) 3 151 := ⟨by decide +kernel, rfl⟩
theorem d_Md_turn_151 : dd m_Md_turn 151 (.iload 4) 2 153 := ⟨by decide +kernel, rfl⟩
theorem d_Md_turn_153 : dd m_Md_turn 153 (.iload 5) 2 155 := ⟨by decide +kernel, rfl⟩
theorem d_Md_turn_155 : dd m_Md_turn 155 .iastore 1 156 := ⟨by decide +kernel, rfl⟩
theorem d_Md_turn_156 : dd m_Md_turn 156 (.iload_n 2) 1 157 := ⟨by decide +kernel, rfl⟩
theorem d_Md_turn_157 : dd m_Md_turn 157 (.iconst 1) 1 158 := ⟨by decide +kernel, rfl⟩
theorem d_Md_turn_158 : db m_Md_turn 158 (.if_icmp .ne) 161 170 := ⟨12, by decide +kernel, rfl, rfl⟩
theorem d_Md_turn_161 : dd m_Md_turn 161 (.aload_n 0) 1 162 := ⟨by decide +kernel, rfl⟩
theorem d_Md_turn_162 : dd m_Md_turn 162 (.getfield 78) 3 165 := ⟨by decide +kernel, rfl⟩
theorem d_Md_turn_165 : dd m_Md_turn 165 (.iload 4) 2 167 := ⟨by decide +kernel, rfl⟩
theorem d_Md_turn_167 : dd m_Md_turn 167 (.iload 6) 2 169 := ⟨by decide +kernel, rfl⟩
theorem d_Md_turn_169 : dd m_Md_turn 169 .iastore 1 170 := ⟨by decide +kernel, rfl⟩
theorem d_Md_turn_170 : dd m_Md_turn 170 (.iload_n 2) 1 171 := ⟨by decide +kernel, rfl⟩
theorem d_Md_turn_171 : dd m_Md_turn 171 (.iconst 2) 1 172 := ⟨by decide +kernel, rfl⟩
theorem d_Md_turn_172 : db m_Md_turn 172 (.if_icmp .ne) 175 194 := ⟨22, by decide +kernel, rfl, rfl⟩
theorem d_Md_turn_175 : dd m_Md_turn 175 (.aload_n 0) 1 176 := ⟨by decide +kernel, rfl⟩
theorem d_Md_turn_176 : dd m_Md_turn 176 (.getfield 78) 3 179 := ⟨by decide +kernel, rfl⟩
theorem d_Md_turn_179 : dd m_Md_turn 179 (.iload 4) 2 181 := ⟨by decide +kernel, rfl⟩
theorem d_Md_turn_181 : dd m_Md_turn 181 (.iload 4) 2 183 := ⟨by decide +kernel, rfl⟩
theorem d_Md_turn_183 : dd m_Md_turn 183 .i2l 1 184 := ⟨by decide +kernel, rfl⟩
theorem d_Md_turn_184 : dd m_Md_turn 184 (.lconst 1) 1 185 := ⟨by decide +kernel, rfl⟩
theorem d_Md_turn_185 : dd m_Md_turn 185 .ladd 1 186 := ⟨by decide +kernel, rfl⟩
theorem d_Md_turn_186 : dd m_Md_turn 186 (.iload 6) 2 188 := ⟨by decide +kernel, rfl⟩
theorem d_Md_turn_188 : dd m_Md_turn 188 .i2l 1 189 := ⟨by decide +kernel, rfl⟩
theorem d_Md_turn_189 : dd m_Md_turn 189 .lmul 1 190 := ⟨by decide +kernel, rfl⟩
theorem d_Md_turn_190 : dd m_Md_turn 190 (.invokestatic 109) 3 193 := ⟨by decide +kernel, rfl⟩
theorem d_Md_turn_193 : dd m_Md_turn 193 .iastore 1 194 := ⟨by decide +kernel, rfl⟩
theorem d_Md_turn_194 : dd m_Md_turn 194 (.iload_n 2) 1 195 := ⟨by decide +kernel, rfl⟩
theorem d_Md_turn_195 : dd m_Md_turn 195 (.iconst 3) 1 196 := ⟨by decide +kernel, rfl⟩
theorem d_Md_turn_196 : db m_Md_turn 196 (.if_icmp .ne) 199 229 := ⟨33, by decide +kernel, rfl, rfl⟩
theorem d_Md_turn_199 : dd m_Md_turn 199 (.aload_n 0) 1 200 := ⟨by decide +kernel, rfl⟩
theorem d_Md_turn_200 : dd m_Md_turn 200 (.getfield 78) 3 203 := ⟨by decide +kernel, rfl⟩
theorem d_Md_turn_203 : dd m_Md_turn 203 (.iload 4) 2 205 := ⟨by decide +kernel, rfl⟩
theorem d_Md_turn_205 : dd m_Md_turn 205 (.iload 4) 2 207 := ⟨by decide +kernel, rfl⟩
theorem d_Md_turn_207 : db m_Md_turn 207 (.ifCond .ne) 210 214 := ⟨7, by decide +kernel, rfl, rfl⟩
theorem d_Md_turn_210 : dd m_Md_turn 210 (.iconst 0) 1 211 := ⟨by decide +kernel, rfl⟩
theorem d_Md_turn_211 : db m_Md_turn 211 .goto 214 228 := ⟨17, by decide +kernel, rfl, rfl⟩
theorem d_Md_turn_214 : dd m_Md_turn 214 (.iload 5) 2 216 := ⟨by decide +kernel, rfl⟩
theorem d_Md_turn_216 : dd m_Md_turn 216 .i2l 1 217 := ⟨by decide +kernel, rfl⟩
theorem d_Md_turn_217 : dd m_Md_turn 217 (.iload 4) 2 219 := ⟨by decide +kernel, rfl⟩
theorem d_Md_turn_219 : dd m_Md_turn 219 .i2l 1 220 := ⟨by decide +kernel, rfl⟩
theorem d_Md_turn_220 : dd m_Md_turn 220 (.invokestatic 105) 3 223 := ⟨by decide +kernel, rfl⟩
theorem d_Md_turn_223 : dd m_Md_turn 223 .i2l 1 224 := ⟨by decide +kernel, rfl⟩
theorem d_Md_turn_224 : dd m_Md_turn 224 .lmul 1 225 := ⟨by decide +kernel, rfl⟩
theorem d_Md_turn_225 : dd m_Md_turn 225 (.invokestatic 109) 3 228 := ⟨by decide +kernel, rfl⟩
theorem d_Md_turn_228 : dd m_Md_turn 228 .iastore 1 229 := ⟨by decide +kernel, rfl⟩
theorem d_Md_turn_229 : dd m_Md_turn 229 (.iinc 4 1) 3 232 := ⟨by decide +kernel, rfl⟩
theorem d_Md_turn_232 : db m_Md_turn 232 .goto 235 88 := ⟨(-144), by decide +kernel, rfl, rfl⟩
theorem d_Md_turn_235 : dd m_Md_turn 235 (.iload_n 2) 1 236 := ⟨by decide +kernel, rfl⟩
theorem d_Md_turn_236 : dd m_Md_turn 236 (.iconst 4) 1 237 := ⟨by decide +kernel, rfl⟩
theorem d_Md_turn_237 : db m_Md_turn 237 (.if_icmp .ne) 240 252 := ⟨15, by decide +kernel, rfl, rfl⟩
theorem d_Md_turn_240 : dd m_Md_turn 240 (.aload_n 0) 1 241 := ⟨by decide +kernel, rfl⟩
theorem d_Md_turn_241 : dd m_Md_turn 241 (.aload_n 0) 1 242 := ⟨by decide +kernel, rfl⟩
theorem d_Md_turn_242 : dd m_Md_turn 242 (.getfield 72) 3 245 := ⟨by decide +kernel, rfl⟩
theorem d_Md_turn_245 : dd m_Md_turn 245 (.aload_n 0) 1 246 := ⟨by decide +kernel, rfl⟩
theorem d_Md_turn_246 : dd m_Md_turn 246 (.getfield 78) 3 249 := ⟨by decide +kernel, rfl⟩
theorem d_Md_turn_249 : dd m_Md_turn 249 (.invokevirtual 214) 3 252 := ⟨by decide +kernel, rfl⟩
theorem d_Md_turn_252 : dd m_Md_turn 252 (.iload_n 2) 1 253 := ⟨by decide +kernel, rfl⟩
theorem d_Md_turn_253 : dd m_Md_turn 253 (.iconst 5) 1 254 := ⟨by decide +kernel, rfl⟩
theorem d_Md_turn_254 : db m_Md_turn 254 (.if_icmp .ne) 257 280 := ⟨26, by decide +kernel, rfl, rfl⟩
theorem d_Md_turn_257 : dd m_Md_turn 257 (.aload_n 0) 1 258 := ⟨by decide +kernel, rfl⟩
theorem d_Md_turn_258 : dd m_Md_turn 258 (.invokevirtual 193) 3 261 := ⟨by decide +kernel, rfl⟩
theorem d_Md_turn_261 : dd m_Md_turn 261 (.aload_n 0) 1 262 := ⟨by decide +kernel, rfl⟩
theorem d_Md_turn_262 : dd m_Md_turn 262 (.getfield 99) 3 265 := ⟨by decide +kernel, rfl⟩
theorem d_Md_turn_265 : dd m_Md_turn 265 (.aload_n 0) 1 266 := ⟨by decide +kernel, rfl⟩
theorem d_Md_turn_266 : dd m_Md_turn 266 (.getfield 72) 3 269 := ⟨by decide +kernel, rfl⟩
theorem d_Md_turn_269 : dd m_Md_turn 269 (.aload_n 0) 1 270 := ⟨by decide +kernel, rfl⟩
theorem d_Md_turn_270 : dd m_Md_turn 270 (.getfield 78) 3 273 := ⟨by decide +kernel, rfl⟩
theorem d_Md_turn_273 : dd m_Md_turn 273 (.aload_n 0) 1 274 := ⟨by decide +kernel, rfl⟩
theorem d_Md_turn_274 : dd m_Md_turn 274 (.invokevirtual 173) 3 277 := ⟨by decide +kernel, rfl⟩
theorem d_Md_turn_277 : dd m_Md_turn 277 (.invokestatic 133) 3 280 := ⟨by decide +kernel, rfl⟩
theorem d_Md_turn_280 : dd m_Md_turn 280 (.aload_n 0) 1 281 := ⟨by decide +kernel, rfl⟩
theorem d_Md_turn_281 : dd m_Md_turn 281 (.aload_n 0) 1 282 := ⟨by decide +kernel, rfl⟩
theorem d_Md_turn_282 : dd m_Md_turn 282 (.getfield 78) 3 285 := ⟨by decide +kernel, rfl⟩
theorem d_Md_turn_285 : dd m_Md_turn 285 (.iload_n 3) 1 286 := ⟨by decide +kernel, rfl⟩
theorem d_Md_turn_286 : dd m_Md_turn 286 (.aload_n 0) 1 287 := ⟨by decide +kernel, rfl⟩
theorem d_Md_turn_287 : dd m_Md_turn 287 (.invokevirtual 173) 3 290 := ⟨by decide +kernel, rfl⟩
theorem d_Md_turn_290 : dd m_Md_turn 290 (.iconst 1) 1 291 := ⟨by decide +kernel, rfl⟩
theorem d_Md_turn_291 : dd m_Md_turn 291 .isub 1 292 := ⟨by decide +kernel, rfl⟩
theorem d_Md_turn_292 : dd m_Md_turn 292 (.invokevirtual 203) 3 295 := ⟨by decide +kernel, rfl⟩
theorem d_Md_turn_295 : decode (mbt m_Md_turn) 295 = .ok (.ireturn, 1) := by decide +kernel
theorem d_Md_reverses_0 : dd m_Md_reverses 0 (.aload_n 0) 1 1 := ⟨by decide +kernel, rfl⟩
theorem d_Md_reverses_1 : dd m_Md_reverses 1 (.invokevirtual 193) 3 4 := ⟨by decide +kernel, rfl⟩
theorem d_Md_reverses_4 : dd m_Md_reverses 4 (.aload_n 0) 1 5 := ⟨by decide +kernel, rfl⟩
theorem d_Md_reverses_5 : dd m_Md_reverses 5 (.aload_n 0) 1 6 := ⟨by decide +kernel, rfl⟩
theorem d_Md_reverses_6 : dd m_Md_reverses 6 (.getfield 99) 3 9 := ⟨by decide +kernel, rfl⟩
theorem d_Md_reverses_9 : dd m_Md_reverses 9 (.aload_n 1) 1 10 := ⟨by decide +kernel, rfl⟩
theorem d_Md_reverses_10 : dd m_Md_reverses 10 (.aload_n 0) 1 11 := ⟨by decide +kernel, rfl⟩
theorem d_Md_reverses_11 : dd m_Md_reverses 11 (.getfield 87) 3 14 := ⟨by decide +kernel, rfl⟩
theorem d_Md_reverses_14 : dd m_Md_reverses 14 (.invokevirtual 196) 3 17 := ⟨by decide +kernel, rfl⟩
end
section
theorem d_Md_reverses_17 : dd m_Md_reverses 17 (.aload_n 0) 1 18 := ⟨by decide +kernel, rfl⟩
theorem d_Md_reverses_18 : dd m_Md_reverses 18 (.getfield 90) 3 21 := ⟨by decide +kernel, rfl⟩
theorem d_Md_reverses_21 : dd m_Md_reverses 21 (.invokestatic 207) 3 24 := ⟨by decide +kernel, rfl⟩
theorem d_Md_reverses_24 : dd m_Md_reverses 24 (.aload_n 0) 1 25 := ⟨by decide +kernel, rfl⟩
theorem d_Md_reverses_25 : dd m_Md_reverses 25 (.getfield 87) 3 28 := ⟨by decide +kernel, rfl⟩
theorem d_Md_reverses_28 : dd m_Md_reverses 28 (.aload_n 0) 1 29 := ⟨by decide +kernel, rfl⟩
theorem d_Md_reverses_29 : dd m_Md_reverses 29 (.getfield 90) 3 32 := ⟨by decide +kernel, rfl⟩
theorem d_Md_reverses_32 : dd m_Md_reverses 32 (.aload_n 0) 1 33 := ⟨by decide +kernel, rfl⟩
theorem d_Md_reverses_33 : dd m_Md_reverses 33 (.getfield 93) 3 36 := ⟨by decide +kernel, rfl⟩
theorem d_Md_reverses_36 : dd m_Md_reverses 36 (.aload_n 0) 1 37 := ⟨by decide +kernel, rfl⟩
theorem d_Md_reverses_37 : dd m_Md_reverses 37 (.invokevirtual 173) 3 40 := ⟨by decide +kernel, rfl⟩
theorem d_Md_reverses_40 : dd m_Md_reverses 40 (.invokestatic 211) 3 43 := ⟨by decide +kernel, rfl⟩
theorem d_Md_reverses_43 : dd m_Md_reverses 43 (.iconst 0) 1 44 := ⟨by decide +kernel, rfl⟩
theorem d_Md_reverses_44 : dd m_Md_reverses 44 (.istore_n 3) 1 45 := ⟨by decide +kernel, rfl⟩
theorem d_Md_reverses_45 : dd m_Md_reverses 45 (.iload_n 3) 1 46 := ⟨by decide +kernel, rfl⟩
theorem d_Md_reverses_46 : dd m_Md_reverses 46 (.aload_n 0) 1 47 := ⟨by decide +kernel, rfl⟩
theorem d_Md_reverses_47 : dd m_Md_reverses 47 (.invokevirtual 173) 3 50 := ⟨by decide +kernel, rfl⟩
theorem d_Md_reverses_50 : db m_Md_reverses 50 (.if_icmp .ge) 53 73 := ⟨23, by decide +kernel, rfl, rfl⟩
theorem d_Md_reverses_53 : dd m_Md_reverses 53 (.aload_n 2) 1 54 := ⟨by decide +kernel, rfl⟩
theorem d_Md_reverses_54 : dd m_Md_reverses 54 (.iload_n 3) 1 55 := ⟨by decide +kernel, rfl⟩
theorem d_Md_reverses_55 : dd m_Md_reverses 55 (.aload_n 0) 1 56 := ⟨by decide +kernel, rfl⟩
theorem d_Md_reverses_56 : dd m_Md_reverses 56 (.getfield 93) 3 59 := ⟨by decide +kernel, rfl⟩
theorem d_Md_reverses_59 : dd m_Md_reverses 59 (.bipush 10) 2 61 := ⟨by decide +kernel, rfl⟩
theorem d_Md_reverses_61 : dd m_Md_reverses 61 (.iload_n 3) 1 62 := ⟨by decide +kernel, rfl⟩
theorem d_Md_reverses_62 : dd m_Md_reverses 62 .imul 1 63 := ⟨by decide +kernel, rfl⟩
theorem d_Md_reverses_63 : dd m_Md_reverses 63 (.iconst 1) 1 64 := ⟨by decide +kernel, rfl⟩
theorem d_Md_reverses_64 : dd m_Md_reverses 64 .iadd 1 65 := ⟨by decide +kernel, rfl⟩
theorem d_Md_reverses_65 : dd m_Md_reverses 65 .iaload 1 66 := ⟨by decide +kernel, rfl⟩
theorem d_Md_reverses_66 : dd m_Md_reverses 66 .iastore 1 67 := ⟨by decide +kernel, rfl⟩
theorem d_Md_reverses_67 : dd m_Md_reverses 67 (.iinc 3 1) 3 70 := ⟨by decide +kernel, rfl⟩
theorem d_Md_reverses_70 : db m_Md_reverses 70 .goto 73 45 := ⟨(-25), by decide +kernel, rfl, rfl⟩
theorem d_Md_reverses_73 : decode (mbt m_Md_reverses) 73 = .ok (.return_, 1) := by decide +kernel
theorem d_Md_ones_0 : dd m_Md_ones 0 (.iconst 0) 1 1 := ⟨by decide +kernel, rfl⟩
theorem d_Md_ones_1 : dd m_Md_ones 1 (.istore_n 1) 1 2 := ⟨by decide +kernel, rfl⟩
theorem d_Md_ones_2 : dd m_Md_ones 2 (.iload_n 1) 1 3 := ⟨by decide +kernel, rfl⟩
theorem d_Md_ones_3 : dd m_Md_ones 3 (.bipush 100) 2 5 := ⟨by decide +kernel, rfl⟩
theorem d_Md_ones_5 : db m_Md_ones 5 (.if_icmp .ge) 8 29 := ⟨24, by decide +kernel, rfl, rfl⟩
theorem d_Md_ones_8 : dd m_Md_ones 8 (.aload_n 0) 1 9 := ⟨by decide +kernel, rfl⟩
theorem d_Md_ones_9 : dd m_Md_ones 9 (.iload_n 1) 1 10 := ⟨by decide +kernel, rfl⟩
theorem d_Md_ones_10 : dd m_Md_ones 10 (.iload_n 1) 1 11 := ⟨by decide +kernel, rfl⟩
theorem d_Md_ones_11 : dd m_Md_ones 11 (.bipush 11) 2 13 := ⟨by decide +kernel, rfl⟩
theorem d_Md_ones_13 : dd m_Md_ones 13 .irem 1 14 := ⟨by decide +kernel, rfl⟩
theorem d_Md_ones_14 : db m_Md_ones 14 (.ifCond .ne) 17 21 := ⟨7, by decide +kernel, rfl, rfl⟩
theorem d_Md_ones_17 : dd m_Md_ones 17 (.iconst 1) 1 18 := ⟨by decide +kernel, rfl⟩
theorem d_Md_ones_18 : db m_Md_ones 18 .goto 21 22 := ⟨4, by decide +kernel, rfl, rfl⟩
theorem d_Md_ones_21 : dd m_Md_ones 21 (.iconst 0) 1 22 := ⟨by decide +kernel, rfl⟩
theorem d_Md_ones_22 : dd m_Md_ones 22 .iastore 1 23 := ⟨by decide +kernel, rfl⟩
theorem d_Md_ones_23 : dd m_Md_ones 23 (.iinc 1 1) 3 26 := ⟨by decide +kernel, rfl⟩
theorem d_Md_ones_26 : db m_Md_ones 26 .goto 29 2 := ⟨(-24), by decide +kernel, rfl, rfl⟩
theorem d_Md_ones_29 : decode (mbt m_Md_ones) 29 = .ok (.return_, 1) := by decide +kernel
theorem d_Md_solves_0 : dd m_Md_solves 0 (.iconst 0) 1 1 := ⟨by decide +kernel, rfl⟩
theorem d_Md_solves_1 : dd m_Md_solves 1 (.istore 4) 2 3 := ⟨by decide +kernel, rfl⟩
theorem d_Md_solves_3 : dd m_Md_solves 3 (.iload 4) 2 5 := ⟨by decide +kernel, rfl⟩
theorem d_Md_solves_5 : dd m_Md_solves 5 (.iload_n 3) 1 6 := ⟨by decide +kernel, rfl⟩
theorem d_Md_solves_6 : db m_Md_solves 6 (.if_icmp .ge) 9 132 := ⟨126, by decide +kernel, rfl, rfl⟩
theorem d_Md_solves_9 : dd m_Md_solves 9 (.aload_n 0) 1 10 := ⟨by decide +kernel, rfl⟩
theorem d_Md_solves_10 : dd m_Md_solves 10 (.bipush 10) 2 12 := ⟨by decide +kernel, rfl⟩
theorem d_Md_solves_12 : dd m_Md_solves 12 (.iload 4) 2 14 := ⟨by decide +kernel, rfl⟩
theorem d_Md_solves_14 : dd m_Md_solves 14 .imul 1 15 := ⟨by decide +kernel, rfl⟩
theorem d_Md_solves_15 : dd m_Md_solves 15 (.iload 4) 2 17 := ⟨by decide +kernel, rfl⟩
theorem d_Md_solves_17 : dd m_Md_solves 17 .iadd 1 18 := ⟨by decide +kernel, rfl⟩
theorem d_Md_solves_18 : dd m_Md_solves 18 .iaload 1 19 := ⟨by decide +kernel, rfl⟩
theorem d_Md_solves_19 : dd m_Md_solves 19 .i2l 1 20 := ⟨by decide +kernel, rfl⟩
theorem d_Md_solves_20 : dd m_Md_solves 20 (.invokestatic 105) 3 23 := ⟨by decide +kernel, rfl⟩
theorem d_Md_solves_23 : dd m_Md_solves 23 (.istore 5) 2 25 := ⟨by decide +kernel, rfl⟩
theorem d_Md_solves_25 : dd m_Md_solves 25 (.iconst 0) 1 26 := ⟨by decide +kernel, rfl⟩
theorem d_Md_solves_26 : dd m_Md_solves 26 (.istore 6) 2 28 := ⟨by decide +kernel, rfl⟩
theorem d_Md_solves_28 : dd m_Md_solves 28 (.iload 6) 2 30 := ⟨by decide +kernel, rfl⟩
theorem d_Md_solves_30 : dd m_Md_solves 30 (.iload_n 3) 1 31 := ⟨by decide +kernel, rfl⟩
theorem d_Md_solves_31 : db m_Md_solves 31 (.if_icmp .ge) 34 126 := ⟨95, by decide +kernel, rfl, rfl⟩
theorem d_Md_solves_34 : dd m_Md_solves 34 (.aload_n 1) 1 35 := ⟨by decide +kernel, rfl⟩
theorem d_Md_solves_35 : dd m_Md_solves 35 (.bipush 10) 2 37 := ⟨by decide +kernel, rfl⟩
theorem d_Md_solves_37 : dd m_Md_solves 37 (.iload 4) 2 39 := ⟨by decide +kernel, rfl⟩
theorem d_Md_solves_39 : dd m_Md_solves 39 .imul 1 40 := ⟨by decide +kernel, rfl⟩
theorem d_Md_solves_40 : dd m_Md_solves 40 (.iload 6) 2 42 := ⟨by decide +kernel, rfl⟩
theorem d_Md_solves_42 : dd m_Md_solves 42 .iadd 1 43 := ⟨by decide +kernel, rfl⟩
theorem d_Md_solves_43 : dd m_Md_solves 43 .iaload 1 44 := ⟨by decide +kernel, rfl⟩
theorem d_Md_solves_44 : dd m_Md_solves 44 .i2l 1 45 := ⟨by decide +kernel, rfl⟩
theorem d_Md_solves_45 : dd m_Md_solves 45 (.lstore 7) 2 47 := ⟨by decide +kernel, rfl⟩
theorem d_Md_solves_47 : dd m_Md_solves 47 (.iconst 0) 1 48 := ⟨by decide +kernel, rfl⟩
theorem d_Md_solves_48 : dd m_Md_solves 48 (.istore 9) 2 50 := ⟨by decide +kernel, rfl⟩
theorem d_Md_solves_50 : dd m_Md_solves 50 (.iload 9) 2 52 := ⟨by decide +kernel, rfl⟩
theorem d_Md_solves_52 : dd m_Md_solves 52 (.iload 4) 2 54 := ⟨by decide +kernel, rfl⟩
theorem d_Md_solves_54 : db m_Md_solves 54 (.if_icmp .ge) 57 95 := ⟨41, by decide +kernel, rfl, rfl⟩
theorem d_Md_solves_57 : dd m_Md_solves 57 (.lload 7) 2 59 := ⟨by decide +kernel, rfl⟩
theorem d_Md_solves_59 : dd m_Md_solves 59 (.aload_n 0) 1 60 := ⟨by decide +kernel, rfl⟩
theorem d_Md_solves_60 : dd m_Md_solves 60 (.bipush 10) 2 62 := ⟨by decide +kernel, rfl⟩
theorem d_Md_solves_62 : dd m_Md_solves 62 (.iload 4) 2 64 := ⟨by decide +kernel, rfl⟩
theorem d_Md_solves_64 : dd m_Md_solves 64 .imul 1 65 := ⟨by decide +kernel, rfl⟩
theorem d_Md_solves_65 : dd m_Md_solves 65 (.iload 9) 2 67 := ⟨by decide +kernel, rfl⟩
theorem d_Md_solves_67 : dd m_Md_solves 67 .iadd 1 68 := ⟨by decide +kernel, rfl⟩
theorem d_Md_solves_68 : dd m_Md_solves 68 .iaload 1 69 := ⟨by decide +kernel, rfl⟩
theorem d_Md_solves_69 : dd m_Md_solves 69 .i2l 1 70 := ⟨by decide +kernel, rfl⟩
theorem d_Md_solves_70 : dd m_Md_solves 70 (.aload_n 2) 1 71 := ⟨by decide +kernel, rfl⟩
theorem d_Md_solves_71 : dd m_Md_solves 71 (.bipush 10) 2 73 := ⟨by decide +kernel, rfl⟩
theorem d_Md_solves_73 : dd m_Md_solves 73 (.iload 9) 2 75 := ⟨by decide +kernel, rfl⟩
theorem d_Md_solves_75 : dd m_Md_solves 75 .imul 1 76 := ⟨by decide +kernel, rfl⟩
theorem d_Md_solves_76 : dd m_Md_solves 76 (.iload 6) 2 78 := ⟨by decide +kernel, rfl⟩
theorem d_Md_solves_78 : dd m_Md_solves 78 .iadd 1 79 := ⟨by decide +kernel, rfl⟩
theorem d_Md_solves_79 : dd m_Md_solves 79 .iaload 1 80 := ⟨by decide +kernel, rfl⟩
theorem d_Md_solves_80 : dd m_Md_solves 80 .i2l 1 81 := ⟨by decide +kernel, rfl⟩
theorem d_Md_solves_81 : dd m_Md_solves 81 .lmul 1 82 := ⟨by decide +kernel, rfl⟩
theorem d_Md_solves_82 : dd m_Md_solves 82 (.ldc2_w 102) 3 85 := ⟨by decide +kernel, rfl⟩
theorem d_Md_solves_85 : dd m_Md_solves 85 .lrem 1 86 := ⟨by decide +kernel, rfl⟩
theorem d_Md_solves_86 : dd m_Md_solves 86 .lsub 1 87 := ⟨by decide +kernel, rfl⟩
theorem d_Md_solves_87 : dd m_Md_solves 87 (.lstore 7) 2 89 := ⟨by decide +kernel, rfl⟩
theorem d_Md_solves_89 : dd m_Md_solves 89 (.iinc 9 1) 3 92 := ⟨by decide +kernel, rfl⟩
theorem d_Md_solves_92 : db m_Md_solves 92 .goto 95 50 := ⟨(-42), by decide +kernel, rfl, rfl⟩
theorem d_Md_solves_95 : dd m_Md_solves 95 (.aload_n 2) 1 96 := ⟨by decide +kernel, rfl⟩
theorem d_Md_solves_96 : dd m_Md_solves 96 (.bipush 10) 2 98 := ⟨by decide +kernel, rfl⟩
theorem d_Md_solves_98 : dd m_Md_solves 98 (.iload 4) 2 100 := ⟨by decide +kernel, rfl⟩
theorem d_Md_solves_100 : dd m_Md_solves 100 .imul 1 101 := ⟨by decide +kernel, rfl⟩
theorem d_Md_solves_101 : dd m_Md_solves 101 (.iload 6) 2 103 := ⟨by decide +kernel, rfl⟩
theorem d_Md_solves_103 : dd m_Md_solves 103 .iadd 1 104 := ⟨by decide +kernel, rfl⟩
theorem d_Md_solves_104 : dd m_Md_solves 104 (.lload 7) 2 106 := ⟨by decide +kernel, rfl⟩
theorem d_Md_solves_106 : dd m_Md_solves 106 (.invokestatic 109) 3 109 := ⟨by decide +kernel, rfl⟩
theorem d_Md_solves_109 : dd m_Md_solves 109 .i2l 1 110 := ⟨by decide +kernel, rfl⟩
theorem d_Md_solves_110 : dd m_Md_solves 110 (.iload 5) 2 112 := ⟨by decide +kernel, rfl⟩
theorem d_Md_solves_112 : dd m_Md_solves 112 .i2l 1 113 := ⟨by decide +kernel, rfl⟩
theorem d_Md_solves_113 : dd m_Md_solves 113 .lmul 1 114 := ⟨by decide +kernel, rfl⟩
theorem d_Md_solves_114 : dd m_Md_solves 114 (.ldc2_w 102) 3 117 := ⟨by decide +kernel, rfl⟩
theorem d_Md_solves_117 : dd m_Md_solves 117 .lrem 1 118 := ⟨by decide +kernel, rfl⟩
theorem d_Md_solves_118 : dd m_Md_solves 118 .l2i 1 119 := ⟨by decide +kernel, rfl⟩
theorem d_Md_solves_119 : dd m_Md_solves 119 .iastore 1 120 := ⟨by decide +kernel, rfl⟩
theorem d_Md_solves_120 : dd m_Md_solves 120 (.iinc 6 1) 3 123 := ⟨by decide +kernel, rfl⟩
theorem d_Md_solves_123 : db m_Md_solves 123 .goto 126 28 := ⟨(-95), by decide +kernel, rfl, rfl⟩
theorem d_Md_solves_126 : dd m_Md_solves 126 (.iinc 4 1) 3 129 := ⟨by decide +kernel, rfl⟩
theorem d_Md_solves_129 : db m_Md_solves 129 .goto 132 3 := ⟨(-126), by decide +kernel, rfl, rfl⟩
theorem d_Md_solves_132 : decode (mbt m_Md_solves) 132 = .ok (.return_, 1) := by decide +kernel
theorem d_Md_raise_0 : dd m_Md_raise 0 (.aload_n 0) 1 1 := ⟨by decide +kernel, rfl⟩
theorem d_Md_raise_1 : dd m_Md_raise 1 (.iconst 0) 1 2 := ⟨by decide +kernel, rfl⟩
theorem d_Md_raise_2 : dd m_Md_raise 2 (.putfield 1) 3 5 := ⟨by decide +kernel, rfl⟩
theorem d_Md_raise_5 : dd m_Md_raise 5 (.aload_n 0) 1 6 := ⟨by decide +kernel, rfl⟩
theorem d_Md_raise_6 : dd m_Md_raise 6 (.iload_n 1) 1 7 := ⟨by decide +kernel, rfl⟩
theorem d_Md_raise_7 : dd m_Md_raise 7 (.invokevirtual 180) 3 10 := ⟨by decide +kernel, rfl⟩
theorem d_Md_raise_10 : db m_Md_raise 10 (.ifCond .eq) 13 31 := ⟨21, by decide +kernel, rfl, rfl⟩
theorem d_Md_raise_13 : dd m_Md_raise 13 (.aload_n 0) 1 14 := ⟨by decide +kernel, rfl⟩
theorem d_Md_raise_14 : dd m_Md_raise 14 (.iload_n 3) 1 15 := ⟨by decide +kernel, rfl⟩
theorem d_Md_raise_15 : dd m_Md_raise 15 (.invokevirtual 180) 3 18 := ⟨by decide +kernel, rfl⟩
theorem d_Md_raise_18 : db m_Md_raise 18 (.ifCond .eq) 21 31 := ⟨13, by decide +kernel, rfl, rfl⟩
theorem d_Md_raise_21 : dd m_Md_raise 21 (.iload_n 2) 1 22 := ⟨by decide +kernel, rfl⟩
theorem d_Md_raise_22 : dd m_Md_raise 22 (.iconst 0) 1 23 := ⟨by decide +kernel, rfl⟩
theorem d_Md_raise_23 : dd m_Md_raise 23 (.bipush 99) 2 25 := ⟨by decide +kernel, rfl⟩
theorem d_Md_raise_25 : dd m_Md_raise 25 (.invokestatic 118) 3 28 := ⟨by decide +kernel, rfl⟩
theorem d_Md_raise_28 : db m_Md_raise 28 (.ifCond .ne) 31 33 := ⟨5, by decide +kernel, rfl, rfl⟩
theorem d_Md_raise_31 : dd m_Md_raise 31 (.iconst (-1)) 1 32 := ⟨by decide +kernel, rfl⟩
theorem d_Md_raise_32 : decode (mbt m_Md_raise) 32 = .ok (.ireturn, 1) := by decide +kernel
theorem d_Md_raise_33 : dd m_Md_raise 33 (.aload_n 0) 1 34 := ⟨by decide +kernel, rfl⟩
theorem d_Md_raise_34 : dd m_Md_raise 34 (.iconst 1) 1 35 := ⟨by decide +kernel, rfl⟩
theorem d_Md_raise_35 : dd m_Md_raise 35 (.bipush 10) 2 37 := ⟨by decide +kernel, rfl⟩
theorem d_Md_raise_37 : dd m_Md_raise 37 (.iload_n 1) 1 38 := ⟨by decide +kernel, rfl⟩
theorem d_Md_raise_38 : dd m_Md_raise 38 .imul 1 39 := ⟨by decide +kernel, rfl⟩
theorem d_Md_raise_39 : dd m_Md_raise 39 .iadd 1 40 := ⟨by decide +kernel, rfl⟩
theorem d_Md_raise_40 : dd m_Md_raise 40 (.aload_n 0) 1 41 := ⟨by decide +kernel, rfl⟩
theorem d_Md_raise_41 : dd m_Md_raise 41 (.getfield 72) 3 44 := ⟨by decide +kernel, rfl⟩
theorem d_Md_raise_44 : dd m_Md_raise 44 (.invokevirtual 189) 3 47 := ⟨by decide +kernel, rfl⟩
theorem d_Md_raise_47 : dd m_Md_raise 47 (.iconst 0) 1 48 := ⟨by decide +kernel, rfl⟩
theorem d_Md_raise_48 : dd m_Md_raise 48 (.istore 4) 2 50 := ⟨by decide +kernel, rfl⟩
theorem d_Md_raise_50 : dd m_Md_raise 50 (.iload 4) 2 52 := ⟨by decide +kernel, rfl⟩
theorem d_Md_raise_52 : dd m_Md_raise 52 (.bipush 10) 2 54 := ⟨by decide +kernel, rfl⟩
theorem d_Md_raise_54 : db m_Md_raise 54 (.if_icmp .ge) 57 80 := ⟨26, by decide +kernel, rfl, rfl⟩
theorem d_Md_raise_57 : dd m_Md_raise 57 (.aload_n 0) 1 58 := ⟨by decide +kernel, rfl⟩
theorem d_Md_raise_58 : dd m_Md_raise 58 (.getfield 78) 3 61 := ⟨by decide +kernel, rfl⟩
theorem d_Md_raise_61 : dd m_Md_raise 61 (.iload 4) 2 63 := ⟨by decide +kernel, rfl⟩
theorem d_Md_raise_63 : dd m_Md_raise 63 (.iload 4) 2 65 := ⟨by decide +kernel, rfl⟩
theorem d_Md_raise_65 : db m_Md_raise 65 (.ifCond .ne) 68 72 := ⟨7, by decide +kernel, rfl, rfl⟩
theorem d_Md_raise_68 : dd m_Md_raise 68 (.iconst 1) 1 69 := ⟨by decide +kernel, rfl⟩
theorem d_Md_raise_69 : db m_Md_raise 69 .goto 72 73 := ⟨4, by decide +kernel, rfl, rfl⟩
theorem d_Md_raise_72 : dd m_Md_raise 72 (.iconst 0) 1 73 := ⟨by decide +kernel, rfl⟩
theorem d_Md_raise_73 : dd m_Md_raise 73 .iastore 1 74 := ⟨by decide +kernel, rfl⟩
theorem d_Md_raise_74 : dd m_Md_raise 74 (.iinc 4 1) 3 77 := ⟨by decide +kernel, rfl⟩
theorem d_Md_raise_77 : db m_Md_raise 77 .goto 80 50 := ⟨(-27), by decide +kernel, rfl, rfl⟩
theorem d_Md_raise_80 : dd m_Md_raise 80 (.iconst 0) 1 81 := ⟨by decide +kernel, rfl⟩
theorem d_Md_raise_81 : dd m_Md_raise 81 (.istore 4) 2 83 := ⟨by decide +kernel, rfl⟩
theorem d_Md_raise_83 : dd m_Md_raise 83 (.iload 4) 2 85 := ⟨by decide +kernel, rfl⟩
theorem d_Md_raise_85 : dd m_Md_raise 85 (.iload_n 2) 1 86 := ⟨by decide +kernel, rfl⟩
theorem d_Md_raise_86 : db m_Md_raise 86 (.if_icmp .ge) 89 146 := ⟨60, by decide +kernel, rfl, rfl⟩
theorem d_Md_raise_89 : dd m_Md_raise 89 (.aload_n 0) 1 90 := ⟨by decide +kernel, rfl⟩
theorem d_Md_raise_90 : dd m_Md_raise 90 (.getfield 78) 3 93 := ⟨by decide +kernel, rfl⟩
theorem d_Md_raise_93 : dd m_Md_raise 93 (.aload_n 0) 1 94 := ⟨by decide +kernel, rfl⟩
theorem d_Md_raise_94 : dd m_Md_raise 94 (.getfield 72) 3 97 := ⟨by decide +kernel, rfl⟩
theorem d_Md_raise_97 : dd m_Md_raise 97 (.aload_n 0) 1 98 := ⟨by decide +kernel, rfl⟩
theorem d_Md_raise_98 : dd m_Md_raise 98 (.getfield 81) 3 101 := ⟨by decide +kernel, rfl⟩
theorem d_Md_raise_101 : dd m_Md_raise 101 (.aload_n 0) 1 102 := ⟨by decide +kernel, rfl⟩
theorem d_Md_raise_102 : dd m_Md_raise 102 (.invokevirtual 173) 3 105 := ⟨by decide +kernel, rfl⟩
theorem d_Md_raise_105 : dd m_Md_raise 105 (.invokestatic 186) 3 108 := ⟨by decide +kernel, rfl⟩
theorem d_Md_raise_108 : dd m_Md_raise 108 (.iconst 0) 1 109 := ⟨by decide +kernel, rfl⟩
theorem d_Md_raise_109 : dd m_Md_raise 109 (.istore 5) 2 111 := ⟨by decide +kernel, rfl⟩
theorem d_Md_raise_111 : dd m_Md_raise 111 (.iload 5) 2 113 := ⟨by decide +kernel, rfl⟩
theorem d_Md_raise_113 : dd m_Md_raise 113 (.aload_n 0) 1 114 := ⟨by decide +kernel, rfl⟩
theorem d_Md_raise_114 : dd m_Md_raise 114 (.invokevirtual 173) 3 117 := ⟨by decide +kernel, rfl⟩
theorem d_Md_raise_117 : db m_Md_raise 117 (.if_icmp .ge) 120 140 := ⟨23, by decide +kernel, rfl, rfl⟩
theorem d_Md_raise_120 : dd m_Md_raise 120 (.aload_n 0) 1 121 := ⟨by decide +kernel, rfl⟩
theorem d_Md_raise_121 : dd m_Md_raise 121 (.getfield 78) 3 124 := ⟨by decide +kernel, rfl⟩
theorem d_Md_raise_124 : dd m_Md_raise 124 (.iload 5) 2 126 := ⟨by decide +kernel, rfl⟩
theorem d_Md_raise_126 : dd m_Md_raise 126 (.aload_n 0) 1 127 := ⟨by decide +kernel, rfl⟩
theorem d_Md_raise_127 : dd m_Md_raise 127 (.getfield 81) 3 130 := ⟨by decide +kernel, rfl⟩
theorem d_Md_raise_130 : dd m_Md_raise 130 (.iload 5) 2 132 := ⟨by decide +kernel, rfl⟩
theorem d_Md_raise_132 : dd m_Md_raise 132 .iaload 1 133 := ⟨by decide +kernel, rfl⟩
theorem d_Md_raise_133 : dd m_Md_raise 133 .iastore 1 134 := ⟨by decide +kernel, rfl⟩
theorem d_Md_raise_134 : dd m_Md_raise 134 (.iinc 5 1) 3 137 := ⟨by decide +kernel, rfl⟩
theorem d_Md_raise_137 : db m_Md_raise 137 .goto 140 111 := ⟨(-26), by decide +kernel, rfl, rfl⟩
theorem d_Md_raise_140 : dd m_Md_raise 140 (.iinc 4 1) 3 143 := ⟨by decide +kernel, rfl⟩
theorem d_Md_raise_143 : db m_Md_raise 143 .goto 146 83 := ⟨(-60), by decide +kernel, rfl, rfl⟩
theorem d_Md_raise_146 : dd m_Md_raise 146 (.aload_n 0) 1 147 := ⟨by decide +kernel, rfl⟩
theorem d_Md_raise_147 : dd m_Md_raise 147 (.aload_n 0) 1 148 := ⟨by decide +kernel, rfl⟩
theorem d_Md_raise_148 : dd m_Md_raise 148 (.getfield 78) 3 151 := ⟨by decide +kernel, rfl⟩
theorem d_Md_raise_151 : dd m_Md_raise 151 (.iload_n 3) 1 152 := ⟨by decide +kernel, rfl⟩
theorem d_Md_raise_152 : dd m_Md_raise 152 (.aload_n 0) 1 153 := ⟨by decide +kernel, rfl⟩
theorem d_Md_raise_153 : dd m_Md_raise 153 (.invokevirtual 173) 3 156 := ⟨by decide +kernel, rfl⟩
theorem d_Md_raise_156 : dd m_Md_raise 156 (.iconst 1) 1 157 := ⟨by decide +kernel, rfl⟩
theorem d_Md_raise_157 : dd m_Md_raise 157 .isub 1 158 := ⟨by decide +kernel, rfl⟩
theorem d_Md_raise_158 : dd m_Md_raise 158 (.invokevirtual 203) 3 161 := ⟨by decide +kernel, rfl⟩
theorem d_Md_raise_161 : decode (mbt m_Md_raise) 161 = .ok (.ireturn, 1) := by decide +kernel
theorem d_Md_pair_0 : dd m_Md_pair 0 (.aload_n 0) 1 1 := ⟨by decide +kernel, rfl⟩
theorem d_Md_pair_1 : dd m_Md_pair 1 (.iconst 0) 1 2 := ⟨by decide +kernel, rfl⟩
theorem d_Md_pair_2 : dd m_Md_pair 2 (.putfield 1) 3 5 := ⟨by decide +kernel, rfl⟩
theorem d_Md_pair_5 : dd m_Md_pair 5 (.aload_n 0) 1 6 := ⟨by decide +kernel, rfl⟩
theorem d_Md_pair_6 : dd m_Md_pair 6 (.iload_n 1) 1 7 := ⟨by decide +kernel, rfl⟩
theorem d_Md_pair_7 : dd m_Md_pair 7 (.invokevirtual 180) 3 10 := ⟨by decide +kernel, rfl⟩
theorem d_Md_pair_10 : db m_Md_pair 10 (.ifCond .eq) 13 51 := ⟨41, by decide +kernel, rfl, rfl⟩
theorem d_Md_pair_13 : dd m_Md_pair 13 (.aload_n 0) 1 14 := ⟨by decide +kernel, rfl⟩
theorem d_Md_pair_14 : dd m_Md_pair 14 (.iload_n 2) 1 15 := ⟨by decide +kernel, rfl⟩
theorem d_Md_pair_15 : dd m_Md_pair 15 (.invokevirtual 180) 3 18 := ⟨by decide +kernel, rfl⟩
theorem d_Md_pair_18 : db m_Md_pair 18 (.ifCond .eq) 21 51 := ⟨33, by decide +kernel, rfl, rfl⟩
theorem d_Md_pair_21 : dd m_Md_pair 21 (.aload_n 0) 1 22 := ⟨by decide +kernel, rfl⟩
theorem d_Md_pair_22 : dd m_Md_pair 22 (.iload_n 3) 1 23 := ⟨by decide +kernel, rfl⟩
theorem d_Md_pair_23 : dd m_Md_pair 23 (.invokevirtual 218) 3 26 := ⟨by decide +kernel, rfl⟩
theorem d_Md_pair_26 : db m_Md_pair 26 (.ifCond .eq) 29 51 := ⟨25, by decide +kernel, rfl, rfl⟩
theorem d_Md_pair_29 : dd m_Md_pair 29 (.aload_n 0) 1 30 := ⟨by decide +kernel, rfl⟩
theorem d_Md_pair_30 : dd m_Md_pair 30 (.getfield 56) 3 33 := ⟨by decide +kernel, rfl⟩
theorem d_Md_pair_33 : dd m_Md_pair 33 (.iconst 1) 1 34 := ⟨by decide +kernel, rfl⟩
theorem d_Md_pair_34 : dd m_Md_pair 34 (.bipush 10) 2 36 := ⟨by decide +kernel, rfl⟩
theorem d_Md_pair_36 : dd m_Md_pair 36 (.iload_n 1) 1 37 := ⟨by decide +kernel, rfl⟩
theorem d_Md_pair_37 : dd m_Md_pair 37 .imul 1 38 := ⟨by decide +kernel, rfl⟩
theorem d_Md_pair_38 : dd m_Md_pair 38 .iadd 1 39 := ⟨by decide +kernel, rfl⟩
theorem d_Md_pair_39 : dd m_Md_pair 39 (.iconst 1) 1 40 := ⟨by decide +kernel, rfl⟩
theorem d_Md_pair_40 : dd m_Md_pair 40 (.bipush 10) 2 42 := ⟨by decide +kernel, rfl⟩
theorem d_Md_pair_42 : dd m_Md_pair 42 (.iload_n 2) 1 43 := ⟨by decide +kernel, rfl⟩
theorem d_Md_pair_43 : dd m_Md_pair 43 .imul 1 44 := ⟨by decide +kernel, rfl⟩
theorem d_Md_pair_44 : dd m_Md_pair 44 .iadd 1 45 := ⟨by decide +kernel, rfl⟩
theorem d_Md_pair_45 : dd m_Md_pair 45 (.invokestatic 140) 3 48 := ⟨by decide +kernel, rfl⟩
theorem d_Md_pair_48 : db m_Md_pair 48 (.ifCond .ne) 51 53 := ⟨5, by decide +kernel, rfl, rfl⟩
theorem d_Md_pair_51 : dd m_Md_pair 51 (.iconst (-1)) 1 52 := ⟨by decide +kernel, rfl⟩
theorem d_Md_pair_52 : decode (mbt m_Md_pair) 52 = .ok (.ireturn, 1) := by decide +kernel
theorem d_Md_pair_53 : dd m_Md_pair 53 (.aload_n 0) 1 54 := ⟨by decide +kernel, rfl⟩
theorem d_Md_pair_54 : dd m_Md_pair 54 (.iconst 1) 1 55 := ⟨by decide +kernel, rfl⟩
theorem d_Md_pair_55 : dd m_Md_pair 55 (.bipush 10) 2 57 := ⟨by decide +kernel, rfl⟩
theorem d_Md_pair_57 : dd m_Md_pair 57 (.iload_n 1) 1 58 := ⟨by decide +kernel, rfl⟩
theorem d_Md_pair_58 : dd m_Md_pair 58 .imul 1 59 := ⟨by decide +kernel, rfl⟩
theorem d_Md_pair_59 : dd m_Md_pair 59 .iadd 1 60 := ⟨by decide +kernel, rfl⟩
theorem d_Md_pair_60 : dd m_Md_pair 60 (.aload_n 0) 1 61 := ⟨by decide +kernel, rfl⟩
theorem d_Md_pair_61 : dd m_Md_pair 61 (.getfield 72) 3 64 := ⟨by decide +kernel, rfl⟩
theorem d_Md_pair_64 : dd m_Md_pair 64 (.invokevirtual 189) 3 67 := ⟨by decide +kernel, rfl⟩
theorem d_Md_pair_67 : dd m_Md_pair 67 (.aload_n 0) 1 68 := ⟨by decide +kernel, rfl⟩
theorem d_Md_pair_68 : dd m_Md_pair 68 (.iconst 1) 1 69 := ⟨by decide +kernel, rfl⟩
theorem d_Md_pair_69 : dd m_Md_pair 69 (.bipush 10) 2 71 := ⟨by decide +kernel, rfl⟩
theorem d_Md_pair_71 : dd m_Md_pair 71 (.iload_n 2) 1 72 := ⟨by decide +kernel, rfl⟩
theorem d_Md_pair_72 : dd m_Md_pair 72 .imul 1 73 := ⟨by decide +kernel, rfl⟩
theorem d_Md_pair_73 : dd m_Md_pair 73 .iadd 1 74 := ⟨by decide +kernel, rfl⟩
theorem d_Md_pair_74 : dd m_Md_pair 74 (.aload_n 0) 1 75 := ⟨by decide +kernel, rfl⟩
theorem d_Md_pair_75 : dd m_Md_pair 75 (.getfield 75) 3 78 := ⟨by decide +kernel, rfl⟩
theorem d_Md_pair_78 : dd m_Md_pair 78 (.invokevirtual 189) 3 81 := ⟨by decide +kernel, rfl⟩
theorem d_Md_pair_81 : dd m_Md_pair 81 (.aload_n 0) 1 82 := ⟨by decide +kernel, rfl⟩
theorem d_Md_pair_82 : dd m_Md_pair 82 (.aload_n 0) 1 83 := ⟨by decide +kernel, rfl⟩
theorem d_Md_pair_83 : dd m_Md_pair 83 (.getfield 72) 3 86 := ⟨by decide +kernel, rfl⟩
theorem d_Md_pair_86 : dd m_Md_pair 86 (.aload_n 0) 1 87 := ⟨by decide +kernel, rfl⟩
theorem d_Md_pair_87 : dd m_Md_pair 87 (.getfield 75) 3 90 := ⟨by decide +kernel, rfl⟩
theorem d_Md_pair_90 : dd m_Md_pair 90 (.aload_n 0) 1 91 := ⟨by decide +kernel, rfl⟩
theorem d_Md_pair_91 : dd m_Md_pair 91 (.getfield 87) 3 94 := ⟨by decide +kernel, rfl⟩
theorem d_Md_pair_94 : dd m_Md_pair 94 (.invokevirtual 196) 3 97 := ⟨by decide +kernel, rfl⟩
theorem d_Md_pair_97 : dd m_Md_pair 97 (.aload_n 0) 1 98 := ⟨by decide +kernel, rfl⟩
theorem d_Md_pair_98 : dd m_Md_pair 98 (.aload_n 0) 1 99 := ⟨by decide +kernel, rfl⟩
theorem d_Md_pair_99 : dd m_Md_pair 99 (.getfield 87) 3 102 := ⟨by decide +kernel, rfl⟩
theorem d_Md_pair_102 : dd m_Md_pair 102 (.iload_n 3) 1 103 := ⟨by decide +kernel, rfl⟩
theorem d_Md_pair_103 : dd m_Md_pair 103 (.invokevirtual 221) 3 106 := ⟨by decide +kernel, rfl⟩
theorem d_Md_pair_106 : decode (mbt m_Md_pair) 106 = .ok (.ireturn, 1) := by decide +kernel
theorem d_Md_isTable_0 : dd m_Md_isTable 0 (.aload_n 0) 1 1 := ⟨by decide +kernel, rfl⟩
theorem d_Md_isTable_1 : dd m_Md_isTable 1 (.invokevirtual 173) 3 4 := ⟨by decide +kernel, rfl⟩
theorem d_Md_isTable_4 : db m_Md_isTable 4 (.ifCond .le) 7 20 := ⟨16, by decide +kernel, rfl, rfl⟩
theorem d_Md_isTable_7 : dd m_Md_isTable 7 (.iload_n 1) 1 8 := ⟨by decide +kernel, rfl⟩
theorem d_Md_isTable_8 : dd m_Md_isTable 8 (.iconst 0) 1 9 := ⟨by decide +kernel, rfl⟩
theorem d_Md_isTable_9 : dd m_Md_isTable 9 (.iconst 3) 1 10 := ⟨by decide +kernel, rfl⟩
theorem d_Md_isTable_10 : dd m_Md_isTable 10 (.invokestatic 118) 3 13 := ⟨by decide +kernel, rfl⟩
theorem d_Md_isTable_13 : db m_Md_isTable 13 (.ifCond .eq) 16 20 := ⟨7, by decide +kernel, rfl, rfl⟩
theorem d_Md_isTable_16 : dd m_Md_isTable 16 (.iconst 1) 1 17 := ⟨by decide +kernel, rfl⟩
theorem d_Md_isTable_17 : db m_Md_isTable 17 .goto 20 21 := ⟨4, by decide +kernel, rfl, rfl⟩
theorem d_Md_isTable_20 : dd m_Md_isTable 20 (.iconst 0) 1 21 := ⟨by decide +kernel, rfl⟩
theorem d_Md_isTable_21 : decode (mbt m_Md_isTable) 21 = .ok (.ireturn, 1) := by decide +kernel
theorem d_Md_comesAs_0 : dd m_Md_comesAs 0 (.iconst 0) 1 1 := ⟨by decide +kernel, rfl⟩
theorem d_Md_comesAs_1 : dd m_Md_comesAs 1 (.istore_n 3) 1 2 := ⟨by decide +kernel, rfl⟩
theorem d_Md_comesAs_2 : dd m_Md_comesAs 2 (.iload_n 3) 1 3 := ⟨by decide +kernel, rfl⟩
theorem d_Md_comesAs_3 : dd m_Md_comesAs 3 (.aload_n 0) 1 4 := ⟨by decide +kernel, rfl⟩
theorem d_Md_comesAs_4 : dd m_Md_comesAs 4 (.invokevirtual 173) 3 7 := ⟨by decide +kernel, rfl⟩
theorem d_Md_comesAs_7 : db m_Md_comesAs 7 (.if_icmp .ge) 10 42 := ⟨35, by decide +kernel, rfl, rfl⟩
theorem d_Md_comesAs_10 : dd m_Md_comesAs 10 (.aload_n 0) 1 11 := ⟨by decide +kernel, rfl⟩
theorem d_Md_comesAs_11 : dd m_Md_comesAs 11 (.getfield 72) 3 14 := ⟨by decide +kernel, rfl⟩
theorem d_Md_comesAs_14 : dd m_Md_comesAs 14 (.iload_n 3) 1 15 := ⟨by decide +kernel, rfl⟩
theorem d_Md_comesAs_15 : dd m_Md_comesAs 15 (.aload_n 1) 1 16 := ⟨by decide +kernel, rfl⟩
theorem d_Md_comesAs_16 : dd m_Md_comesAs 16 (.bipush 10) 2 18 := ⟨by decide +kernel, rfl⟩
theorem d_Md_comesAs_18 : dd m_Md_comesAs 18 (.iload_n 3) 1 19 := ⟨by decide +kernel, rfl⟩
theorem d_Md_comesAs_19 : dd m_Md_comesAs 19 .imul 1 20 := ⟨by decide +kernel, rfl⟩
theorem d_Md_comesAs_20 : dd m_Md_comesAs 20 .iaload 1 21 := ⟨by decide +kernel, rfl⟩
theorem d_Md_comesAs_21 : dd m_Md_comesAs 21 .iastore 1 22 := ⟨by decide +kernel, rfl⟩
theorem d_Md_comesAs_22 : dd m_Md_comesAs 22 (.aload_n 0) 1 23 := ⟨by decide +kernel, rfl⟩
theorem d_Md_comesAs_23 : dd m_Md_comesAs 23 (.getfield 75) 3 26 := ⟨by decide +kernel, rfl⟩
theorem d_Md_comesAs_26 : dd m_Md_comesAs 26 (.iload_n 3) 1 27 := ⟨by decide +kernel, rfl⟩
theorem d_Md_comesAs_27 : dd m_Md_comesAs 27 (.aload_n 1) 1 28 := ⟨by decide +kernel, rfl⟩
theorem d_Md_comesAs_28 : dd m_Md_comesAs 28 (.bipush 10) 2 30 := ⟨by decide +kernel, rfl⟩
theorem d_Md_comesAs_30 : dd m_Md_comesAs 30 (.iload_n 3) 1 31 := ⟨by decide +kernel, rfl⟩
theorem d_Md_comesAs_31 : dd m_Md_comesAs 31 .imul 1 32 := ⟨by decide +kernel, rfl⟩
theorem d_Md_comesAs_32 : dd m_Md_comesAs 32 (.iconst 1) 1 33 := ⟨by decide +kernel, rfl⟩
theorem d_Md_comesAs_33 : dd m_Md_comesAs 33 .iadd 1 34 := ⟨by decide +kernel, rfl⟩
theorem d_Md_comesAs_34 : dd m_Md_comesAs 34 .iaload 1 35 := ⟨by decide +kernel, rfl⟩
theorem d_Md_comesAs_35 : dd m_Md_comesAs 35 .iastore 1 36 := ⟨by decide +kernel, rfl⟩
theorem d_Md_comesAs_36 : dd m_Md_comesAs 36 (.iinc 3 1) 3 39 := ⟨by decide +kernel, rfl⟩
theorem d_Md_comesAs_39 : db m_Md_comesAs 39 .goto 42 2 := ⟨(-37), by decide +kernel, rfl, rfl⟩
theorem d_Md_comesAs_42 : dd m_Md_comesAs 42 (.aload_n 0) 1 43 := ⟨by decide +kernel, rfl⟩
theorem d_Md_comesAs_43 : dd m_Md_comesAs 43 (.getfield 75) 3 46 := ⟨by decide +kernel, rfl⟩
theorem d_Md_comesAs_46 : dd m_Md_comesAs 46 (.aload_n 0) 1 47 := ⟨by decide +kernel, rfl⟩
theorem d_Md_comesAs_47 : dd m_Md_comesAs 47 (.getfield 72) 3 50 := ⟨by decide +kernel, rfl⟩
theorem d_Md_comesAs_50 : dd m_Md_comesAs 50 (.aload_n 0) 1 51 := ⟨by decide +kernel, rfl⟩
theorem d_Md_comesAs_51 : dd m_Md_comesAs 51 (.getfield 78) 3 54 := ⟨by decide +kernel, rfl⟩
theorem d_Md_comesAs_54 : dd m_Md_comesAs 54 (.aload_n 0) 1 55 := ⟨by decide +kernel, rfl⟩
theorem d_Md_comesAs_55 : dd m_Md_comesAs 55 (.invokevirtual 173) 3 58 := ⟨by decide +kernel, rfl⟩
theorem d_Md_comesAs_58 : dd m_Md_comesAs 58 (.invokestatic 133) 3 61 := ⟨by decide +kernel, rfl⟩
theorem d_Md_comesAs_61 : dd m_Md_comesAs 61 (.aload_n 0) 1 62 := ⟨by decide +kernel, rfl⟩
theorem d_Md_comesAs_62 : dd m_Md_comesAs 62 (.invokevirtual 177) 3 65 := ⟨by decide +kernel, rfl⟩
theorem d_Md_comesAs_65 : dd m_Md_comesAs 65 (.iconst 0) 1 66 := ⟨by decide +kernel, rfl⟩
theorem d_Md_comesAs_66 : dd m_Md_comesAs 66 (.istore_n 3) 1 67 := ⟨by decide +kernel, rfl⟩
theorem d_Md_comesAs_67 : dd m_Md_comesAs 67 (.iload_n 3) 1 68 := ⟨by decide +kernel, rfl⟩
theorem d_Md_comesAs_68 : dd m_Md_comesAs 68 (.aload_n 0) 1 69 := ⟨by decide +kernel, rfl⟩
theorem d_Md_comesAs_69 : dd m_Md_comesAs 69 (.invokevirtual 173) 3 72 := ⟨by decide +kernel, rfl⟩
theorem d_Md_comesAs_72 : db m_Md_comesAs 72 (.if_icmp .ge) 75 124 := ⟨52, by decide +kernel, rfl, rfl⟩
theorem d_Md_comesAs_75 : dd m_Md_comesAs 75 (.aload_n 0) 1 76 := ⟨by decide +kernel, rfl⟩
theorem d_Md_comesAs_76 : dd m_Md_comesAs 76 (.getfield 56) 3 79 := ⟨by decide +kernel, rfl⟩
theorem d_Md_comesAs_79 : dd m_Md_comesAs 79 (.bipush 61) 2 81 := ⟨by decide +kernel, rfl⟩
theorem d_Md_comesAs_81 : dd m_Md_comesAs 81 (.bipush 20) 2 83 := ⟨by decide +kernel, rfl⟩
theorem d_Md_comesAs_83 : dd m_Md_comesAs 83 (.iload_n 2) 1 84 := ⟨by decide +kernel, rfl⟩
theorem d_Md_comesAs_84 : dd m_Md_comesAs 84 .imul 1 85 := ⟨by decide +kernel, rfl⟩
theorem d_Md_comesAs_85 : dd m_Md_comesAs 85 .iadd 1 86 := ⟨by decide +kernel, rfl⟩
theorem d_Md_comesAs_86 : dd m_Md_comesAs 86 (.iload_n 3) 1 87 := ⟨by decide +kernel, rfl⟩
theorem d_Md_comesAs_87 : dd m_Md_comesAs 87 .iadd 1 88 := ⟨by decide +kernel, rfl⟩
theorem d_Md_comesAs_88 : dd m_Md_comesAs 88 (.aload_n 0) 1 89 := ⟨by decide +kernel, rfl⟩
theorem d_Md_comesAs_89 : dd m_Md_comesAs 89 (.getfield 72) 3 92 := ⟨by decide +kernel, rfl⟩
theorem d_Md_comesAs_92 : dd m_Md_comesAs 92 (.iload_n 3) 1 93 := ⟨by decide +kernel, rfl⟩
theorem d_Md_comesAs_93 : dd m_Md_comesAs 93 .iaload 1 94 := ⟨by decide +kernel, rfl⟩
theorem d_Md_comesAs_94 : dd m_Md_comesAs 94 .iastore 1 95 := ⟨by decide +kernel, rfl⟩
theorem d_Md_comesAs_95 : dd m_Md_comesAs 95 (.aload_n 0) 1 96 := ⟨by decide +kernel, rfl⟩
theorem d_Md_comesAs_96 : dd m_Md_comesAs 96 (.getfield 56) 3 99 := ⟨by decide +kernel, rfl⟩
theorem d_Md_comesAs_99 : dd m_Md_comesAs 99 (.bipush 61) 2 101 := ⟨by decide +kernel, rfl⟩
theorem d_Md_comesAs_101 : dd m_Md_comesAs 101 (.bipush 20) 2 103 := ⟨by decide +kernel, rfl⟩
theorem d_Md_comesAs_103 : dd m_Md_comesAs 103 (.iload_n 2) 1 104 := ⟨by decide +kernel, rfl⟩
theorem d_Md_comesAs_104 : dd m_Md_comesAs 104 .imul 1 105 := ⟨by decide +kernel, rfl⟩
theorem d_Md_comesAs_105 : dd m_Md_comesAs 105 .iadd 1 106 := ⟨by decide +kernel, rfl⟩
theorem d_Md_comesAs_106 : dd m_Md_comesAs 106 (.bipush 10) 2 108 := ⟨by decide +kernel, rfl⟩
theorem d_Md_comesAs_108 : dd m_Md_comesAs 108 .iadd 1 109 := ⟨by decide +kernel, rfl⟩
theorem d_Md_comesAs_109 : dd m_Md_comesAs 109 (.iload_n 3) 1 110 := ⟨by decide +kernel, rfl⟩
theorem d_Md_comesAs_110 : dd m_Md_comesAs 110 .iadd 1 111 := ⟨by decide +kernel, rfl⟩
theorem d_Md_comesAs_111 : dd m_Md_comesAs 111 (.aload_n 0) 1 112 := ⟨by decide +kernel, rfl⟩
theorem d_Md_comesAs_112 : dd m_Md_comesAs 112 (.getfield 78) 3 115 := ⟨by decide +kernel, rfl⟩
theorem d_Md_comesAs_115 : dd m_Md_comesAs 115 (.iload_n 3) 1 116 := ⟨by decide +kernel, rfl⟩
theorem d_Md_comesAs_116 : dd m_Md_comesAs 116 .iaload 1 117 := ⟨by decide +kernel, rfl⟩
theorem d_Md_comesAs_117 : dd m_Md_comesAs 117 .iastore 1 118 := ⟨by decide +kernel, rfl⟩
theorem d_Md_comesAs_118 : dd m_Md_comesAs 118 (.iinc 3 1) 3 121 := ⟨by decide +kernel, rfl⟩
theorem d_Md_comesAs_121 : db m_Md_comesAs 121 .goto 124 67 := ⟨(-54), by decide +kernel, rfl, rfl⟩
theorem d_Md_comesAs_124 : dd m_Md_comesAs 124 (.aload_n 1) 1 125 := ⟨by decide +kernel, rfl⟩
theorem d_Md_comesAs_125 : dd m_Md_comesAs 125 (.bipush 10) 2 127 := ⟨by decide +kernel, rfl⟩
theorem d_Md_comesAs_127 : dd m_Md_comesAs 127 (.aload_n 0) 1 128 := ⟨by decide +kernel, rfl⟩
theorem d_Md_comesAs_128 : dd m_Md_comesAs 128 (.invokevirtual 173) 3 131 := ⟨by decide +kernel, rfl⟩
theorem d_Md_comesAs_131 : dd m_Md_comesAs 131 (.iconst 1) 1 132 := ⟨by decide +kernel, rfl⟩
theorem d_Md_comesAs_132 : dd m_Md_comesAs 132 .isub 1 133 := ⟨by decide +kernel, rfl⟩
theorem d_Md_comesAs_133 : dd m_Md_comesAs 133 .imul 1 134 := ⟨by decide +kernel, rfl⟩
theorem d_Md_comesAs_134 : dd m_Md_comesAs 134 (.iconst 1) 1 135 := ⟨by decide +kernel, rfl⟩
theorem d_Md_comesAs_135 : dd m_Md_comesAs 135 .iadd 1 136 := ⟨by decide +kernel, rfl⟩
theorem d_Md_comesAs_136 : dd m_Md_comesAs 136 .iaload 1 137 := ⟨by decide +kernel, rfl⟩
theorem d_Md_comesAs_137 : decode (mbt m_Md_comesAs) 137 = .ok (.ireturn, 1) := by decide +kernel
theorem d_Md_entry_0 : dd m_Md_entry 0 (.aload_n 0) 1 1 := ⟨by decide +kernel, rfl⟩
theorem d_Md_entry_1 : dd m_Md_entry 1 (.iconst 0) 1 2 := ⟨by decide +kernel, rfl⟩
theorem d_Md_entry_2 : dd m_Md_entry 2 (.putfield 1) 3 5 := ⟨by decide +kernel, rfl⟩
theorem d_Md_entry_5 : dd m_Md_entry 5 (.aload_n 0) 1 6 := ⟨by decide +kernel, rfl⟩
theorem d_Md_entry_6 : dd m_Md_entry 6 (.iload_n 1) 1 7 := ⟨by decide +kernel, rfl⟩
theorem d_Md_entry_7 : dd m_Md_entry 7 (.invokevirtual 218) 3 10 := ⟨by decide +kernel, rfl⟩
theorem d_Md_entry_10 : db m_Md_entry 10 (.ifCond .eq) 13 29 := ⟨19, by decide +kernel, rfl, rfl⟩
theorem d_Md_entry_13 : dd m_Md_entry 13 (.aload_n 0) 1 14 := ⟨by decide +kernel, rfl⟩
theorem d_Md_entry_14 : dd m_Md_entry 14 (.iload_n 2) 1 15 := ⟨by decide +kernel, rfl⟩
theorem d_Md_entry_15 : dd m_Md_entry 15 (.invokevirtual 183) 3 18 := ⟨by decide +kernel, rfl⟩
theorem d_Md_entry_18 : db m_Md_entry 18 (.ifCond .eq) 21 29 := ⟨11, by decide +kernel, rfl, rfl⟩
theorem d_Md_entry_21 : dd m_Md_entry 21 (.aload_n 0) 1 22 := ⟨by decide +kernel, rfl⟩
theorem d_Md_entry_22 : dd m_Md_entry 22 (.iload_n 3) 1 23 := ⟨by decide +kernel, rfl⟩
theorem d_Md_entry_23 : dd m_Md_entry 23 (.invokevirtual 183) 3 26 := ⟨by decide +kernel, rfl⟩
theorem d_Md_entry_26 : db m_Md_entry 26 (.ifCond .ne) 29 34 := ⟨8, by decide +kernel, rfl, rfl⟩
theorem d_Md_entry_29 : dd m_Md_entry 29 (.aload_n 0) 1 30 := ⟨by decide +kernel, rfl⟩
theorem d_Md_entry_30 : dd m_Md_entry 30 (.invokevirtual 225) 3 33 := ⟨by decide +kernel, rfl⟩
theorem d_Md_entry_33 : decode (mbt m_Md_entry) 33 = .ok (.ireturn, 1) := by decide +kernel
theorem d_Md_entry_34 : dd m_Md_entry 34 (.aload_n 0) 1 35 := ⟨by decide +kernel, rfl⟩
theorem d_Md_entry_35 : dd m_Md_entry 35 (.iload_n 1) 1 36 := ⟨by decide +kernel, rfl⟩
theorem d_Md_entry_36 : dd m_Md_entry 36 (.aload_n 0) 1 37 := ⟨by decide +kernel, rfl⟩
theorem d_Md_entry_37 : dd m_Md_entry 37 (.getfield 87) 3 40 := ⟨by decide +kernel, rfl⟩
theorem d_Md_entry_40 : dd m_Md_entry 40 (.invokevirtual 228) 3 43 := ⟨by decide +kernel, rfl⟩
theorem d_Md_entry_43 : dd m_Md_entry 43 (.aload_n 0) 1 44 := ⟨by decide +kernel, rfl⟩
theorem d_Md_entry_44 : dd m_Md_entry 44 (.getfield 87) 3 47 := ⟨by decide +kernel, rfl⟩
theorem d_Md_entry_47 : dd m_Md_entry 47 (.bipush 10) 2 49 := ⟨by decide +kernel, rfl⟩
theorem d_Md_entry_49 : dd m_Md_entry 49 (.iload_n 2) 1 50 := ⟨by decide +kernel, rfl⟩
theorem d_Md_entry_50 : dd m_Md_entry 50 .imul 1 51 := ⟨by decide +kernel, rfl⟩
theorem d_Md_entry_51 : dd m_Md_entry 51 (.iload_n 3) 1 52 := ⟨by decide +kernel, rfl⟩
theorem d_Md_entry_52 : dd m_Md_entry 52 .iadd 1 53 := ⟨by decide +kernel, rfl⟩
theorem d_Md_entry_53 : dd m_Md_entry 53 .iaload 1 54 := ⟨by decide +kernel, rfl⟩
theorem d_Md_entry_54 : decode (mbt m_Md_entry) 54 = .ok (.ireturn, 1) := by decide +kernel
theorem d_Md_refuse_0 : dd m_Md_refuse 0 (.aload_n 0) 1 1 := ⟨by decide +kernel, rfl⟩
theorem d_Md_refuse_1 : dd m_Md_refuse 1 (.iconst 1) 1 2 := ⟨by decide +kernel, rfl⟩
theorem d_Md_refuse_2 : dd m_Md_refuse 2 (.putfield 1) 3 5 := ⟨by decide +kernel, rfl⟩
theorem d_Md_refuse_5 : dd m_Md_refuse 5 (.iconst 0) 1 6 := ⟨by decide +kernel, rfl⟩
theorem d_Md_refuse_6 : decode (mbt m_Md_refuse) 6 = .ok (.ireturn, 1) := by decide +kernel
theorem d_Md_matrix_0 : dd m_Md_matrix 0 (.aload_n 0) 1 1 := ⟨by decide +kernel, rfl⟩
theorem d_Md_matrix_1 : dd m_Md_matrix 1 (.bipush 61) 2 3 := ⟨by decide +kernel, rfl⟩
theorem d_Md_matrix_3 : dd m_Md_matrix 3 (.bipush 20) 2 5 := ⟨by decide +kernel, rfl⟩
theorem d_Md_matrix_5 : dd m_Md_matrix 5 (.iload_n 1) 1 6 := ⟨by decide +kernel, rfl⟩
theorem d_Md_matrix_6 : dd m_Md_matrix 6 .imul 1 7 := ⟨by decide +kernel, rfl⟩
theorem d_Md_matrix_7 : dd m_Md_matrix 7 .iadd 1 8 := ⟨by decide +kernel, rfl⟩
theorem d_Md_matrix_8 : dd m_Md_matrix 8 (.aload_n 0) 1 9 := ⟨by decide +kernel, rfl⟩
theorem d_Md_matrix_9 : dd m_Md_matrix 9 (.getfield 72) 3 12 := ⟨by decide +kernel, rfl⟩
theorem d_Md_matrix_12 : dd m_Md_matrix 12 (.invokevirtual 189) 3 15 := ⟨by decide +kernel, rfl⟩
theorem d_Md_matrix_15 : dd m_Md_matrix 15 (.aload_n 0) 1 16 := ⟨by decide +kernel, rfl⟩
theorem d_Md_matrix_16 : dd m_Md_matrix 16 (.bipush 61) 2 18 := ⟨by decide +kernel, rfl⟩
theorem d_Md_matrix_18 : dd m_Md_matrix 18 (.bipush 20) 2 20 := ⟨by decide +kernel, rfl⟩
theorem d_Md_matrix_20 : dd m_Md_matrix 20 (.iload_n 1) 1 21 := ⟨by decide +kernel, rfl⟩
theorem d_Md_matrix_21 : dd m_Md_matrix 21 .imul 1 22 := ⟨by decide +kernel, rfl⟩
theorem d_Md_matrix_22 : dd m_Md_matrix 22 .iadd 1 23 := ⟨by decide +kernel, rfl⟩
theorem d_Md_matrix_23 : dd m_Md_matrix 23 (.bipush 10) 2 25 := ⟨by decide +kernel, rfl⟩
theorem d_Md_matrix_25 : dd m_Md_matrix 25 .iadd 1 26 := ⟨by decide +kernel, rfl⟩
theorem d_Md_matrix_26 : dd m_Md_matrix 26 (.aload_n 0) 1 27 := ⟨by decide +kernel, rfl⟩
theorem d_Md_matrix_27 : dd m_Md_matrix 27 (.getfield 75) 3 30 := ⟨by decide +kernel, rfl⟩
theorem d_Md_matrix_30 : dd m_Md_matrix 30 (.invokevirtual 189) 3 33 := ⟨by decide +kernel, rfl⟩
theorem d_Md_matrix_33 : dd m_Md_matrix 33 (.aload_n 0) 1 34 := ⟨by decide +kernel, rfl⟩
theorem d_Md_matrix_34 : dd m_Md_matrix 34 (.aload_n 0) 1 35 := ⟨by decide +kernel, rfl⟩
theorem d_Md_matrix_35 : dd m_Md_matrix 35 (.getfield 72) 3 38 := ⟨by decide +kernel, rfl⟩
theorem d_Md_matrix_38 : dd m_Md_matrix 38 (.aload_n 0) 1 39 := ⟨by decide +kernel, rfl⟩
theorem d_Md_matrix_39 : dd m_Md_matrix 39 (.getfield 75) 3 42 := ⟨by decide +kernel, rfl⟩
theorem d_Md_matrix_42 : dd m_Md_matrix 42 (.aload_n 2) 1 43 := ⟨by decide +kernel, rfl⟩
theorem d_Md_matrix_43 : dd m_Md_matrix 43 (.invokevirtual 196) 3 46 := ⟨by decide +kernel, rfl⟩
theorem d_Md_matrix_46 : decode (mbt m_Md_matrix) 46 = .ok (.return_, 1) := by decide +kernel
theorem d_Md_times_0 : dd m_Md_times 0 (.aload_n 0) 1 1 := ⟨by decide +kernel, rfl⟩
theorem d_Md_times_1 : dd m_Md_times 1 (.iconst 0) 1 2 := ⟨by decide +kernel, rfl⟩
theorem d_Md_times_2 : dd m_Md_times 2 (.putfield 1) 3 5 := ⟨by decide +kernel, rfl⟩
theorem d_Md_times_5 : dd m_Md_times 5 (.aload_n 0) 1 6 := ⟨by decide +kernel, rfl⟩
theorem d_Md_times_6 : dd m_Md_times 6 (.iload_n 1) 1 7 := ⟨by decide +kernel, rfl⟩
theorem d_Md_times_7 : dd m_Md_times 7 (.invokevirtual 218) 3 10 := ⟨by decide +kernel, rfl⟩
theorem d_Md_times_10 : db m_Md_times 10 (.ifCond .eq) 13 29 := ⟨19, by decide +kernel, rfl, rfl⟩
theorem d_Md_times_13 : dd m_Md_times 13 (.aload_n 0) 1 14 := ⟨by decide +kernel, rfl⟩
theorem d_Md_times_14 : dd m_Md_times 14 (.iload_n 2) 1 15 := ⟨by decide +kernel, rfl⟩
theorem d_Md_times_15 : dd m_Md_times 15 (.invokevirtual 218) 3 18 := ⟨by decide +kernel, rfl⟩
theorem d_Md_times_18 : db m_Md_times 18 (.ifCond .eq) 21 29 := ⟨11, by decide +kernel, rfl, rfl⟩
theorem d_Md_times_21 : dd m_Md_times 21 (.aload_n 0) 1 22 := ⟨by decide +kernel, rfl⟩
theorem d_Md_times_22 : dd m_Md_times 22 (.iload_n 3) 1 23 := ⟨by decide +kernel, rfl⟩
theorem d_Md_times_23 : dd m_Md_times 23 (.invokevirtual 218) 3 26 := ⟨by decide +kernel, rfl⟩
theorem d_Md_times_26 : db m_Md_times 26 (.ifCond .ne) 29 31 := ⟨5, by decide +kernel, rfl, rfl⟩
theorem d_Md_times_29 : dd m_Md_times 29 (.iconst (-1)) 1 30 := ⟨by decide +kernel, rfl⟩
theorem d_Md_times_30 : decode (mbt m_Md_times) 30 = .ok (.ireturn, 1) := by decide +kernel
theorem d_Md_times_31 : dd m_Md_times 31 (.aload_n 0) 1 32 := ⟨by decide +kernel, rfl⟩
theorem d_Md_times_32 : dd m_Md_times 32 (.iload_n 1) 1 33 := ⟨by decide +kernel, rfl⟩
theorem d_Md_times_33 : dd m_Md_times 33 (.aload_n 0) 1 34 := ⟨by decide +kernel, rfl⟩
theorem d_Md_times_34 : dd m_Md_times 34 (.getfield 87) 3 37 := ⟨by decide +kernel, rfl⟩
theorem d_Md_times_37 : dd m_Md_times 37 (.invokevirtual 228) 3 40 := ⟨by decide +kernel, rfl⟩
theorem d_Md_times_40 : dd m_Md_times 40 (.aload_n 0) 1 41 := ⟨by decide +kernel, rfl⟩
theorem d_Md_times_41 : dd m_Md_times 41 (.iload_n 2) 1 42 := ⟨by decide +kernel, rfl⟩
theorem d_Md_times_42 : dd m_Md_times 42 (.aload_n 0) 1 43 := ⟨by decide +kernel, rfl⟩
theorem d_Md_times_43 : dd m_Md_times 43 (.getfield 90) 3 46 := ⟨by decide +kernel, rfl⟩
theorem d_Md_times_46 : dd m_Md_times 46 (.invokevirtual 228) 3 49 := ⟨by decide +kernel, rfl⟩
theorem d_Md_times_49 : dd m_Md_times 49 (.aload_n 0) 1 50 := ⟨by decide +kernel, rfl⟩
theorem d_Md_times_50 : dd m_Md_times 50 (.getfield 87) 3 53 := ⟨by decide +kernel, rfl⟩
theorem d_Md_times_53 : dd m_Md_times 53 (.aload_n 0) 1 54 := ⟨by decide +kernel, rfl⟩
theorem d_Md_times_54 : dd m_Md_times 54 (.getfield 90) 3 57 := ⟨by decide +kernel, rfl⟩
theorem d_Md_times_57 : dd m_Md_times 57 (.aload_n 0) 1 58 := ⟨by decide +kernel, rfl⟩
theorem d_Md_times_58 : dd m_Md_times 58 (.getfield 93) 3 61 := ⟨by decide +kernel, rfl⟩
theorem d_Md_times_61 : dd m_Md_times 61 (.aload_n 0) 1 62 := ⟨by decide +kernel, rfl⟩
theorem d_Md_times_62 : dd m_Md_times 62 (.invokevirtual 173) 3 65 := ⟨by decide +kernel, rfl⟩
theorem d_Md_times_65 : dd m_Md_times 65 (.invokestatic 231) 3 68 := ⟨by decide +kernel, rfl⟩
theorem d_Md_times_68 : dd m_Md_times 68 (.aload_n 0) 1 69 := ⟨by decide +kernel, rfl⟩
theorem d_Md_times_69 : dd m_Md_times 69 (.aload_n 0) 1 70 := ⟨by decide +kernel, rfl⟩
theorem d_Md_times_70 : dd m_Md_times 70 (.getfield 93) 3 73 := ⟨by decide +kernel, rfl⟩
theorem d_Md_times_73 : dd m_Md_times 73 (.iload_n 3) 1 74 := ⟨by decide +kernel, rfl⟩
theorem d_Md_times_74 : dd m_Md_times 74 (.invokevirtual 221) 3 77 := ⟨by decide +kernel, rfl⟩
theorem d_Md_times_77 : decode (mbt m_Md_times) 77 = .ok (.ireturn, 1) := by decide +kernel
theorem d_Md_product_0 : dd m_Md_product 0 (.iconst 0) 1 1 := ⟨by decide +kernel, rfl⟩
theorem d_Md_product_1 : dd m_Md_product 1 (.istore 4) 2 3 := ⟨by decide +kernel, rfl⟩
theorem d_Md_product_3 : dd m_Md_product 3 (.iload 4) 2 5 := ⟨by decide +kernel, rfl⟩
theorem d_Md_product_5 : dd m_Md_product 5 (.iload_n 3) 1 6 := ⟨by decide +kernel, rfl⟩
theorem d_Md_product_6 : db m_Md_product 6 (.if_icmp .ge) 9 95 := ⟨89, by decide +kernel, rfl, rfl⟩
theorem d_Md_product_9 : dd m_Md_product 9 (.iconst 0) 1 10 := ⟨by decide +kernel, rfl⟩
theorem d_Md_product_10 : dd m_Md_product 10 (.istore 5) 2 12 := ⟨by decide +kernel, rfl⟩
theorem d_Md_product_12 : dd m_Md_product 12 (.iload 5) 2 14 := ⟨by decide +kernel, rfl⟩
theorem d_Md_product_14 : dd m_Md_product 14 (.iload_n 3) 1 15 := ⟨by decide +kernel, rfl⟩
theorem d_Md_product_15 : db m_Md_product 15 (.if_icmp .ge) 18 89 := ⟨74, by decide +kernel, rfl, rfl⟩
theorem d_Md_product_18 : dd m_Md_product 18 (.lconst 0) 1 19 := ⟨by decide +kernel, rfl⟩
theorem d_Md_product_19 : dd m_Md_product 19 (.lstore 6) 2 21 := ⟨by decide +kernel, rfl⟩
theorem d_Md_product_21 : dd m_Md_product 21 (.iconst 0) 1 22 := ⟨by decide +kernel, rfl⟩
theorem d_Md_product_22 : dd m_Md_product 22 (.istore 8) 2 24 := ⟨by decide +kernel, rfl⟩
theorem d_Md_product_24 : dd m_Md_product 24 (.iload 8) 2 26 := ⟨by decide +kernel, rfl⟩
theorem d_Md_product_26 : dd m_Md_product 26 (.iload_n 3) 1 27 := ⟨by decide +kernel, rfl⟩
theorem d_Md_product_27 : db m_Md_product 27 (.if_icmp .ge) 30 68 := ⟨41, by decide +kernel, rfl, rfl⟩
theorem d_Md_product_30 : dd m_Md_product 30 (.lload 6) 2 32 := ⟨by decide +kernel, rfl⟩
theorem d_Md_product_32 : dd m_Md_product 32 (.aload_n 0) 1 33 := ⟨by decide +kernel, rfl⟩
theorem d_Md_product_33 : dd m_Md_product 33 (.bipush 10) 2 35 := ⟨by decide +kernel, rfl⟩
theorem d_Md_product_35 : dd m_Md_product 35 (.iload 4) 2 37 := ⟨by decide +kernel, rfl⟩
theorem d_Md_product_37 : dd m_Md_product 37 .imul 1 38 := ⟨by decide +kernel, rfl⟩
theorem d_Md_product_38 : dd m_Md_product 38 (.iload 8) 2 40 := ⟨by decide +kernel, rfl⟩
theorem d_Md_product_40 : dd m_Md_product 40 .iadd 1 41 := ⟨by decide +kernel, rfl⟩
theorem d_Md_product_41 : dd m_Md_product 41 .iaload 1 42 := ⟨by decide +kernel, rfl⟩
theorem d_Md_product_42 : dd m_Md_product 42 .i2l 1 43 := ⟨by decide +kernel, rfl⟩
theorem d_Md_product_43 : dd m_Md_product 43 (.aload_n 1) 1 44 := ⟨by decide +kernel, rfl⟩
theorem d_Md_product_44 : dd m_Md_product 44 (.bipush 10) 2 46 := ⟨by decide +kernel, rfl⟩
theorem d_Md_product_46 : dd m_Md_product 46 (.iload 8) 2 48 := ⟨by decide +kernel, rfl⟩
theorem d_Md_product_48 : dd m_Md_product 48 .imul 1 49 := ⟨by decide +kernel, rfl⟩
theorem d_Md_product_49 : dd m_Md_product 49 (.iload 5) 2 51 := ⟨by decide +kernel, rfl⟩
theorem d_Md_product_51 : dd m_Md_product 51 .iadd 1 52 := ⟨by decide +kernel, rfl⟩
theorem d_Md_product_52 : dd m_Md_product 52 .iaload 1 53 := ⟨by decide +kernel, rfl⟩
theorem d_Md_product_53 : dd m_Md_product 53 .i2l 1 54 := ⟨by decide +kernel, rfl⟩
theorem d_Md_product_54 : dd m_Md_product 54 .lmul 1 55 := ⟨by decide +kernel, rfl⟩
theorem d_Md_product_55 : dd m_Md_product 55 (.ldc2_w 102) 3 58 := ⟨by decide +kernel, rfl⟩
theorem d_Md_product_58 : dd m_Md_product 58 .lrem 1 59 := ⟨by decide +kernel, rfl⟩
theorem d_Md_product_59 : dd m_Md_product 59 .ladd 1 60 := ⟨by decide +kernel, rfl⟩
theorem d_Md_product_60 : dd m_Md_product 60 (.lstore 6) 2 62 := ⟨by decide +kernel, rfl⟩
theorem d_Md_product_62 : dd m_Md_product 62 (.iinc 8 1) 3 65 := ⟨by decide +kernel, rfl⟩
theorem d_Md_product_65 : db m_Md_product 65 .goto 68 24 := ⟨(-41), by decide +kernel, rfl, rfl⟩
theorem d_Md_product_68 : dd m_Md_product 68 (.aload_n 2) 1 69 := ⟨by decide +kernel, rfl⟩
theorem d_Md_product_69 : dd m_Md_product 69 (.bipush 10) 2 71 := ⟨by decide +kernel, rfl⟩
theorem d_Md_product_71 : dd m_Md_product 71 (.iload 4) 2 73 := ⟨by decide +kernel, rfl⟩
theorem d_Md_product_73 : dd m_Md_product 73 .imul 1 74 := ⟨by decide +kernel, rfl⟩
theorem d_Md_product_74 : dd m_Md_product 74 (.iload 5) 2 76 := ⟨by decide +kernel, rfl⟩
theorem d_Md_product_76 : dd m_Md_product 76 .iadd 1 77 := ⟨by decide +kernel, rfl⟩
theorem d_Md_product_77 : dd m_Md_product 77 (.lload 6) 2 79 := ⟨by decide +kernel, rfl⟩
theorem d_Md_product_79 : dd m_Md_product 79 (.invokestatic 109) 3 82 := ⟨by decide +kernel, rfl⟩
theorem d_Md_product_82 : dd m_Md_product 82 .iastore 1 83 := ⟨by decide +kernel, rfl⟩
theorem d_Md_product_83 : dd m_Md_product 83 (.iinc 5 1) 3 86 := ⟨by decide +kernel, rfl⟩
theorem d_Md_product_86 : db m_Md_product 86 .goto 89 12 := ⟨(-74), by decide +kernel, rfl, rfl⟩
theorem d_Md_product_89 : dd m_Md_product 89 (.iinc 4 1) 3 92 := ⟨by decide +kernel, rfl⟩
theorem d_Md_product_92 : db m_Md_product 92 .goto 95 3 := ⟨(-89), by decide +kernel, rfl, rfl⟩
theorem d_Md_product_95 : decode (mbt m_Md_product) 95 = .ok (.return_, 1) := by decide +kernel
theorem d_Md_power_0 : dd m_Md_power 0 (.aload_n 0) 1 1 := ⟨by decide +kernel, rfl⟩
theorem d_Md_power_1 : dd m_Md_power 1 (.iconst 0) 1 2 := ⟨by decide +kernel, rfl⟩
theorem d_Md_power_2 : dd m_Md_power 2 (.putfield 1) 3 5 := ⟨by decide +kernel, rfl⟩
theorem d_Md_power_5 : dd m_Md_power 5 (.aload_n 0) 1 6 := ⟨by decide +kernel, rfl⟩
theorem d_Md_power_6 : dd m_Md_power 6 (.iload_n 1) 1 7 := ⟨by decide +kernel, rfl⟩
theorem d_Md_power_7 : dd m_Md_power 7 (.invokevirtual 218) 3 10 := ⟨by decide +kernel, rfl⟩
theorem d_Md_power_10 : db m_Md_power 10 (.ifCond .eq) 13 32 := ⟨22, by decide +kernel, rfl, rfl⟩
theorem d_Md_power_13 : dd m_Md_power 13 (.aload_n 0) 1 14 := ⟨by decide +kernel, rfl⟩
theorem d_Md_power_14 : dd m_Md_power 14 (.iload_n 3) 1 15 := ⟨by decide +kernel, rfl⟩
theorem d_Md_power_15 : dd m_Md_power 15 (.invokevirtual 218) 3 18 := ⟨by decide +kernel, rfl⟩
theorem d_Md_power_18 : db m_Md_power 18 (.ifCond .eq) 21 32 := ⟨14, by decide +kernel, rfl, rfl⟩
theorem d_Md_power_21 : dd m_Md_power 21 (.iload_n 2) 1 22 := ⟨by decide +kernel, rfl⟩
theorem d_Md_power_22 : dd m_Md_power 22 (.bipush (-9)) 2 24 := ⟨by decide +kernel, rfl⟩
theorem d_Md_power_24 : dd m_Md_power 24 (.bipush 9) 2 26 := ⟨by decide +kernel, rfl⟩
theorem d_Md_power_26 : dd m_Md_power 26 (.invokestatic 118) 3 29 := ⟨by decide +kernel, rfl⟩
theorem d_Md_power_29 : db m_Md_power 29 (.ifCond .ne) 32 34 := ⟨5, by decide +kernel, rfl, rfl⟩
theorem d_Md_power_32 : dd m_Md_power 32 (.iconst (-1)) 1 33 := ⟨by decide +kernel, rfl⟩
theorem d_Md_power_33 : decode (mbt m_Md_power) 33 = .ok (.ireturn, 1) := by decide +kernel
theorem d_Md_power_34 : dd m_Md_power 34 (.aload_n 0) 1 35 := ⟨by decide +kernel, rfl⟩
theorem d_Md_power_35 : dd m_Md_power 35 (.iload_n 1) 1 36 := ⟨by decide +kernel, rfl⟩
theorem d_Md_power_36 : dd m_Md_power 36 (.aload_n 0) 1 37 := ⟨by decide +kernel, rfl⟩
theorem d_Md_power_37 : dd m_Md_power 37 (.getfield 87) 3 40 := ⟨by decide +kernel, rfl⟩
theorem d_Md_power_40 : dd m_Md_power 40 (.invokevirtual 228) 3 43 := ⟨by decide +kernel, rfl⟩
theorem d_Md_power_43 : dd m_Md_power 43 (.iload_n 2) 1 44 := ⟨by decide +kernel, rfl⟩
theorem d_Md_power_44 : db m_Md_power 44 (.ifCond .ge) 47 103 := ⟨59, by decide +kernel, rfl, rfl⟩
theorem d_Md_power_47 : dd m_Md_power 47 (.aload_n 0) 1 48 := ⟨by decide +kernel, rfl⟩
theorem d_Md_power_48 : dd m_Md_power 48 (.getfield 90) 3 51 := ⟨by decide +kernel, rfl⟩
theorem d_Md_power_51 : dd m_Md_power 51 (.invokestatic 207) 3 54 := ⟨by decide +kernel, rfl⟩
theorem d_Md_power_54 : dd m_Md_power 54 (.aload_n 0) 1 55 := ⟨by decide +kernel, rfl⟩
theorem d_Md_power_55 : dd m_Md_power 55 (.getfield 87) 3 58 := ⟨by decide +kernel, rfl⟩
theorem d_Md_power_58 : dd m_Md_power 58 (.aload_n 0) 1 59 := ⟨by decide +kernel, rfl⟩
theorem d_Md_power_59 : dd m_Md_power 59 (.getfield 90) 3 62 := ⟨by decide +kernel, rfl⟩
theorem d_Md_power_62 : dd m_Md_power 62 (.aload_n 0) 1 63 := ⟨by decide +kernel, rfl⟩
theorem d_Md_power_63 : dd m_Md_power 63 (.getfield 93) 3 66 := ⟨by decide +kernel, rfl⟩
theorem d_Md_power_66 : dd m_Md_power 66 (.aload_n 0) 1 67 := ⟨by decide +kernel, rfl⟩
theorem d_Md_power_67 : dd m_Md_power 67 (.invokevirtual 173) 3 70 := ⟨by decide +kernel, rfl⟩
theorem d_Md_power_70 : dd m_Md_power 70 (.invokestatic 211) 3 73 := ⟨by decide +kernel, rfl⟩
theorem d_Md_power_73 : dd m_Md_power 73 (.iconst 0) 1 74 := ⟨by decide +kernel, rfl⟩
theorem d_Md_power_74 : dd m_Md_power 74 (.istore 4) 2 76 := ⟨by decide +kernel, rfl⟩
theorem d_Md_power_76 : dd m_Md_power 76 (.iload 4) 2 78 := ⟨by decide +kernel, rfl⟩
theorem d_Md_power_78 : dd m_Md_power 78 (.bipush 100) 2 80 := ⟨by decide +kernel, rfl⟩
theorem d_Md_power_80 : db m_Md_power 80 (.if_icmp .ge) 83 103 := ⟨23, by decide +kernel, rfl, rfl⟩
theorem d_Md_power_83 : dd m_Md_power 83 (.aload_n 0) 1 84 := ⟨by decide +kernel, rfl⟩
theorem d_Md_power_84 : dd m_Md_power 84 (.getfield 87) 3 87 := ⟨by decide +kernel, rfl⟩
theorem d_Md_power_87 : dd m_Md_power 87 (.iload 4) 2 89 := ⟨by decide +kernel, rfl⟩
theorem d_Md_power_89 : dd m_Md_power 89 (.aload_n 0) 1 90 := ⟨by decide +kernel, rfl⟩
theorem d_Md_power_90 : dd m_Md_power 90 (.getfield 93) 3 93 := ⟨by decide +kernel, rfl⟩
theorem d_Md_power_93 : dd m_Md_power 93 (.iload 4) 2 95 := ⟨by decide +kernel, rfl⟩
theorem d_Md_power_95 : dd m_Md_power 95 .iaload 1 96 := ⟨by decide +kernel, rfl⟩
theorem d_Md_power_96 : dd m_Md_power 96 .iastore 1 97 := ⟨by decide +kernel, rfl⟩
theorem d_Md_power_97 : dd m_Md_power 97 (.iinc 4 1) 3 100 := ⟨by decide +kernel, rfl⟩
theorem d_Md_power_100 : db m_Md_power 100 .goto 103 76 := ⟨(-24), by decide +kernel, rfl, rfl⟩
theorem d_Md_power_103 : dd m_Md_power 103 (.aload_n 0) 1 104 := ⟨by decide +kernel, rfl⟩
theorem d_Md_power_104 : dd m_Md_power 104 (.getfield 90) 3 107 := ⟨by decide +kernel, rfl⟩
theorem d_Md_power_107 : dd m_Md_power 107 (.invokestatic 207) 3 110 := ⟨by decide +kernel, rfl⟩
theorem d_Md_power_110 : dd m_Md_power 110 (.iconst 0) 1 111 := ⟨by decide +kernel, rfl⟩
theorem d_Md_power_111 : dd m_Md_power 111 (.istore 4) 2 113 := ⟨by decide +kernel, rfl⟩
theorem d_Md_power_113 : dd m_Md_power 113 (.iload 4) 2 115 := ⟨by decide +kernel, rfl⟩
theorem d_Md_power_115 : dd m_Md_power 115 (.iload_n 2) 1 116 := ⟨by decide +kernel, rfl⟩
theorem d_Md_power_116 : db m_Md_power 116 (.ifCond .ge) 119 124 := ⟨8, by decide +kernel, rfl, rfl⟩
theorem d_Md_power_119 : dd m_Md_power 119 (.iload_n 2) 1 120 := ⟨by decide +kernel, rfl⟩
theorem d_Md_power_120 : dd m_Md_power 120 .ineg 1 121 := ⟨by decide +kernel, rfl⟩
theorem d_Md_power_121 : db m_Md_power 121 .goto 124 125 := ⟨4, by decide +kernel, rfl, rfl⟩
theorem d_Md_power_124 : dd m_Md_power 124 (.iload_n 2) 1 125 := ⟨by decide +kernel, rfl⟩
theorem d_Md_power_125 : db m_Md_power 125 (.if_icmp .ge) 128 183 := ⟨58, by decide +kernel, rfl, rfl⟩
theorem d_Md_power_128 : dd m_Md_power 128 (.aload_n 0) 1 129 := ⟨by decide +kernel, rfl⟩
theorem d_Md_power_129 : dd m_Md_power 129 (.getfield 90) 3 132 := ⟨by decide +kernel, rfl⟩
theorem d_Md_power_132 : dd m_Md_power 132 (.aload_n 0) 1 133 := ⟨by decide +kernel, rfl⟩
theorem d_Md_power_133 : dd m_Md_power 133 (.getfield 87) 3 136 := ⟨by decide +kernel, rfl⟩
theorem d_Md_power_136 : dd m_Md_power 136 (.aload_n 0) 1 137 := ⟨by decide +kernel, rfl⟩
theorem d_Md_power_137 : dd m_Md_power 137 (.getfield 93) 3 140 := ⟨by decide +kernel, rfl⟩
theorem d_Md_power_140 : dd m_Md_power 140 (.aload_n 0) 1 141 := ⟨by decide +kernel, rfl⟩
theorem d_Md_power_141 : dd m_Md_power 141 (.invokevirtual 173) 3 144 := ⟨by decide +kernel, rfl⟩
theorem d_Md_power_144 : dd m_Md_power 144 (.invokestatic 231) 3 147 := ⟨by decide +kernel, rfl⟩
theorem d_Md_power_147 : dd m_Md_power 147 (.iconst 0) 1 148 := ⟨by decide +kernel, rfl⟩
theorem d_Md_power_148 : dd m_Md_power 148 (.istore 5) 2 150 := ⟨by decide +kernel, rfl⟩
theorem d_Md_power_150 : dd m_Md_power 150 (.iload 5) 2 152 := ⟨by decide +kernel, rfl⟩
theorem d_Md_power_152 : dd m_Md_power 152 (.bipush 100) 2 154 := ⟨by decide +kernel, rfl⟩
theorem d_Md_power_154 : db m_Md_power 154 (.if_icmp .ge) 157 177 := ⟨23, by decide +kernel, rfl, rfl⟩
theorem d_Md_power_157 : dd m_Md_power 157 (.aload_n 0) 1 158 := ⟨by decide +kernel, rfl⟩
theorem d_Md_power_158 : dd m_Md_power 158 (.getfield 90) 3 161 := ⟨by decide +kernel, rfl⟩
theorem d_Md_power_161 : dd m_Md_power 161 (.iload 5) 2 163 := ⟨by decide +kernel, rfl⟩
theorem d_Md_power_163 : dd m_Md_power 163 (.aload_n 0) 1 164 := ⟨by decide +kernel, rfl⟩
theorem d_Md_power_164 : dd m_Md_power 164 (.getfield 93) 3 167 := ⟨by decide +kernel, rfl⟩
theorem d_Md_power_167 : dd m_Md_power 167 (.iload 5) 2 169 := ⟨by decide +kernel, rfl⟩
theorem d_Md_power_169 : dd m_Md_power 169 .iaload 1 170 := ⟨by decide +kernel, rfl⟩
theorem d_Md_power_170 : dd m_Md_power 170 .iastore 1 171 := ⟨by decide +kernel, rfl⟩
theorem d_Md_power_171 : dd m_Md_power 171 (.iinc 5 1) 3 174 := ⟨by decide +kernel, rfl⟩
theorem d_Md_power_174 : db m_Md_power 174 .goto 177 150 := ⟨(-24), by decide +kernel, rfl, rfl⟩
theorem d_Md_power_177 : dd m_Md_power 177 (.iinc 4 1) 3 180 := ⟨by decide +kernel, rfl⟩
theorem d_Md_power_180 : db m_Md_power 180 .goto 183 113 := ⟨(-67), by decide +kernel, rfl, rfl⟩
theorem d_Md_power_183 : dd m_Md_power 183 (.aload_n 0) 1 184 := ⟨by decide +kernel, rfl⟩
theorem d_Md_power_184 : dd m_Md_power 184 (.aload_n 0) 1 185 := ⟨by decide +kernel, rfl⟩
theorem d_Md_power_185 : dd m_Md_power 185 (.getfield 90) 3 188 := ⟨by decide +kernel, rfl⟩
theorem d_Md_power_188 : dd m_Md_power 188 (.iload_n 3) 1 189 := ⟨by decide +kernel, rfl⟩
theorem d_Md_power_189 : dd m_Md_power 189 (.invokevirtual 221) 3 192 := ⟨by decide +kernel, rfl⟩
theorem d_Md_power_192 : decode (mbt m_Md_power) 192 = .ok (.ireturn, 1) := by decide +kernel
theorem d_Md_part_0 : dd m_Md_part 0 (.aload_n 0) 1 1 := ⟨by decide +kernel, rfl⟩
theorem d_Md_part_1 : dd m_Md_part 1 (.iconst 0) 1 2 := ⟨by decide +kernel, rfl⟩
theorem d_Md_part_2 : dd m_Md_part 2 (.putfield 1) 3 5 := ⟨by decide +kernel, rfl⟩
theorem d_Md_part_5 : dd m_Md_part 5 (.aload_n 0) 1 6 := ⟨by decide +kernel, rfl⟩
theorem d_Md_part_6 : dd m_Md_part 6 (.iload_n 1) 1 7 := ⟨by decide +kernel, rfl⟩
theorem d_Md_part_7 : dd m_Md_part 7 (.invokevirtual 218) 3 10 := ⟨by decide +kernel, rfl⟩
theorem d_Md_part_10 : db m_Md_part 10 (.ifCond .eq) 13 30 := ⟨20, by decide +kernel, rfl, rfl⟩
theorem d_Md_part_13 : dd m_Md_part 13 (.aload_n 0) 1 14 := ⟨by decide +kernel, rfl⟩
theorem d_Md_part_14 : dd m_Md_part 14 (.iload_n 3) 1 15 := ⟨by decide +kernel, rfl⟩
theorem d_Md_part_15 : dd m_Md_part 15 (.invokevirtual 180) 3 18 := ⟨by decide +kernel, rfl⟩
theorem d_Md_part_18 : db m_Md_part 18 (.ifCond .eq) 21 30 := ⟨12, by decide +kernel, rfl, rfl⟩
theorem d_Md_part_21 : dd m_Md_part 21 (.iload_n 2) 1 22 := ⟨by decide +kernel, rfl⟩
theorem d_Md_part_22 : dd m_Md_part 22 (.iconst 0) 1 23 := ⟨by decide +kernel, rfl⟩
theorem d_Md_part_23 : dd m_Md_part 23 (.iconst 3) 1 24 := ⟨by decide +kernel, rfl⟩
theorem d_Md_part_24 : dd m_Md_part 24 (.invokestatic 118) 3 27 := ⟨by decide +kernel, rfl⟩
theorem d_Md_part_27 : db m_Md_part 27 (.ifCond .ne) 30 32 := ⟨5, by decide +kernel, rfl, rfl⟩
theorem d_Md_part_30 : dd m_Md_part 30 (.iconst (-1)) 1 31 := ⟨by decide +kernel, rfl⟩
theorem d_Md_part_31 : decode (mbt m_Md_part) 31 = .ok (.ireturn, 1) := by decide +kernel
theorem d_Md_part_32 : dd m_Md_part 32 (.iload_n 2) 1 33 := ⟨by decide +kernel, rfl⟩
theorem d_Md_part_33 : dd m_Md_part 33 (.iconst 2) 1 34 := ⟨by decide +kernel, rfl⟩
theorem d_Md_part_34 : db m_Md_part 34 (.if_icmp .ge) 37 68 := ⟨34, by decide +kernel, rfl, rfl⟩
theorem d_Md_part_37 : dd m_Md_part 37 (.aload_n 0) 1 38 := ⟨by decide +kernel, rfl⟩
theorem d_Md_part_38 : dd m_Md_part 38 (.bipush 61) 2 40 := ⟨by decide +kernel, rfl⟩
theorem d_Md_part_40 : dd m_Md_part 40 (.bipush 20) 2 42 := ⟨by decide +kernel, rfl⟩
theorem d_Md_part_42 : dd m_Md_part 42 (.iload_n 1) 1 43 := ⟨by decide +kernel, rfl⟩
theorem d_Md_part_43 : dd m_Md_part 43 .imul 1 44 := ⟨by decide +kernel, rfl⟩
theorem d_Md_part_44 : dd m_Md_part 44 .iadd 1 45 := ⟨by decide +kernel, rfl⟩
theorem d_Md_part_45 : dd m_Md_part 45 (.bipush 10) 2 47 := ⟨by decide +kernel, rfl⟩
theorem d_Md_part_47 : dd m_Md_part 47 (.iload_n 2) 1 48 := ⟨by decide +kernel, rfl⟩
theorem d_Md_part_48 : dd m_Md_part 48 .imul 1 49 := ⟨by decide +kernel, rfl⟩
theorem d_Md_part_49 : dd m_Md_part 49 .iadd 1 50 := ⟨by decide +kernel, rfl⟩
theorem d_Md_part_50 : dd m_Md_part 50 (.aload_n 0) 1 51 := ⟨by decide +kernel, rfl⟩
theorem d_Md_part_51 : dd m_Md_part 51 (.getfield 78) 3 54 := ⟨by decide +kernel, rfl⟩
theorem d_Md_part_54 : dd m_Md_part 54 (.invokevirtual 189) 3 57 := ⟨by decide +kernel, rfl⟩
theorem d_Md_part_57 : dd m_Md_part 57 (.aload_n 0) 1 58 := ⟨by decide +kernel, rfl⟩
theorem d_Md_part_58 : dd m_Md_part 58 (.aload_n 0) 1 59 := ⟨by decide +kernel, rfl⟩
theorem d_Md_part_59 : dd m_Md_part 59 (.getfield 78) 3 62 := ⟨by decide +kernel, rfl⟩
theorem d_Md_part_62 : dd m_Md_part 62 (.iload_n 3) 1 63 := ⟨by decide +kernel, rfl⟩
theorem d_Md_part_63 : dd m_Md_part 63 (.iconst 0) 1 64 := ⟨by decide +kernel, rfl⟩
theorem d_Md_part_64 : dd m_Md_part 64 (.invokevirtual 203) 3 67 := ⟨by decide +kernel, rfl⟩
theorem d_Md_part_67 : decode (mbt m_Md_part) 67 = .ok (.ireturn, 1) := by decide +kernel
theorem d_Md_part_68 : dd m_Md_part 68 (.aload_n 0) 1 69 := ⟨by decide +kernel, rfl⟩
theorem d_Md_part_69 : dd m_Md_part 69 (.iload_n 1) 1 70 := ⟨by decide +kernel, rfl⟩
theorem d_Md_part_70 : dd m_Md_part 70 (.invokevirtual 234) 3 73 := ⟨by decide +kernel, rfl⟩
theorem d_Md_part_73 : dd m_Md_part 73 (.iconst 0) 1 74 := ⟨by decide +kernel, rfl⟩
theorem d_Md_part_74 : dd m_Md_part 74 (.istore 4) 2 76 := ⟨by decide +kernel, rfl⟩
theorem d_Md_part_76 : dd m_Md_part 76 (.iload 4) 2 78 := ⟨by decide +kernel, rfl⟩
theorem d_Md_part_78 : dd m_Md_part 78 (.aload_n 0) 1 79 := ⟨by decide +kernel, rfl⟩
theorem d_Md_part_79 : dd m_Md_part 79 (.invokevirtual 173) 3 82 := ⟨by decide +kernel, rfl⟩
theorem d_Md_part_82 : db m_Md_part 82 (.if_icmp .ge) 85 169 := ⟨87, by decide +kernel, rfl, rfl⟩
theorem d_Md_part_85 : dd m_Md_part 85 (.aload_n 0) 1 86 := ⟨by decide +kernel, rfl⟩
theorem d_Md_part_86 : dd m_Md_part 86 (.getfield 78) 3 89 := ⟨by decide +kernel, rfl⟩
theorem d_Md_part_89 : dd m_Md_part 89 (.iload 4) 2 91 := ⟨by decide +kernel, rfl⟩
theorem d_Md_part_91 : dd m_Md_part 91 (.iload 4) 2 93 := ⟨by decide +kernel, rfl⟩
theorem d_Md_part_93 : dd m_Md_part 93 (.aload_n 0) 1 94 := ⟨by decide +kernel, rfl⟩
theorem d_Md_part_94 : dd m_Md_part 94 (.invokevirtual 173) 3 97 := ⟨by decide +kernel, rfl⟩
theorem d_Md_part_97 : dd m_Md_part 97 (.iconst 1) 1 98 := ⟨by decide +kernel, rfl⟩
theorem d_Md_part_98 : dd m_Md_part 98 .isub 1 99 := ⟨by decide +kernel, rfl⟩
theorem d_Md_part_99 : db m_Md_part 99 (.if_icmp .ne) 102 106 := ⟨7, by decide +kernel, rfl, rfl⟩
theorem d_Md_part_102 : dd m_Md_part 102 (.iconst 0) 1 103 := ⟨by decide +kernel, rfl⟩
theorem d_Md_part_103 : db m_Md_part 103 .goto 106 162 := ⟨59, by decide +kernel, rfl, rfl⟩
theorem d_Md_part_106 : dd m_Md_part 106 (.iload_n 2) 1 107 := ⟨by decide +kernel, rfl⟩
theorem d_Md_part_107 : dd m_Md_part 107 (.iconst 3) 1 108 := ⟨by decide +kernel, rfl⟩
theorem d_Md_part_108 : db m_Md_part 108 (.if_icmp .ne) 111 124 := ⟨16, by decide +kernel, rfl, rfl⟩
theorem d_Md_part_111 : dd m_Md_part 111 (.aload_n 0) 1 112 := ⟨by decide +kernel, rfl⟩
theorem d_Md_part_112 : dd m_Md_part 112 (.getfield 93) 3 115 := ⟨by decide +kernel, rfl⟩
theorem d_Md_part_115 : dd m_Md_part 115 (.bipush 10) 2 117 := ⟨by decide +kernel, rfl⟩
theorem d_Md_part_117 : dd m_Md_part 117 (.iload 4) 2 119 := ⟨by decide +kernel, rfl⟩
theorem d_Md_part_119 : dd m_Md_part 119 .imul 1 120 := ⟨by decide +kernel, rfl⟩
theorem d_Md_part_120 : dd m_Md_part 120 .iaload 1 121 := ⟨by decide +kernel, rfl⟩
theorem d_Md_part_121 : db m_Md_part 121 .goto 124 162 := ⟨41, by decide +kernel, rfl, rfl⟩
theorem d_Md_part_124 : dd m_Md_part 124 (.aload_n 0) 1 125 := ⟨by decide +kernel, rfl⟩
theorem d_Md_part_125 : dd m_Md_part 125 (.invokevirtual 173) 3 128 := ⟨by decide +kernel, rfl⟩
theorem d_Md_part_128 : dd m_Md_part 128 (.iconst 2) 1 129 := ⟨by decide +kernel, rfl⟩
theorem d_Md_part_129 : db m_Md_part 129 (.if_icmp .ne) 132 150 := ⟨21, by decide +kernel, rfl, rfl⟩
theorem d_Md_part_132 : dd m_Md_part 132 (.aload_n 0) 1 133 := ⟨by decide +kernel, rfl⟩
theorem d_Md_part_133 : dd m_Md_part 133 (.getfield 56) 3 136 := ⟨by decide +kernel, rfl⟩
theorem d_Md_part_136 : dd m_Md_part 136 (.bipush 61) 2 138 := ⟨by decide +kernel, rfl⟩
theorem d_Md_part_138 : dd m_Md_part 138 (.bipush 20) 2 140 := ⟨by decide +kernel, rfl⟩
theorem d_Md_part_140 : dd m_Md_part 140 (.iload_n 1) 1 141 := ⟨by decide +kernel, rfl⟩
theorem d_Md_part_141 : dd m_Md_part 141 .imul 1 142 := ⟨by decide +kernel, rfl⟩
theorem d_Md_part_142 : dd m_Md_part 142 .iadd 1 143 := ⟨by decide +kernel, rfl⟩
theorem d_Md_part_143 : dd m_Md_part 143 (.bipush 11) 2 145 := ⟨by decide +kernel, rfl⟩
theorem d_Md_part_145 : dd m_Md_part 145 .iadd 1 146 := ⟨by decide +kernel, rfl⟩
theorem d_Md_part_146 : dd m_Md_part 146 .iaload 1 147 := ⟨by decide +kernel, rfl⟩
theorem d_Md_part_147 : db m_Md_part 147 .goto 150 162 := ⟨15, by decide +kernel, rfl, rfl⟩
theorem d_Md_part_150 : dd m_Md_part 150 (.aload_n 0) 1 151 := ⟨by decide +kernel, rfl⟩
theorem d_Md_part_151 : dd m_Md_part 151 (.getfield 93) 3 154 := ⟨by decide +kernel, rfl⟩
theorem d_Md_part_154 : dd m_Md_part 154 (.bipush 10) 2 156 := ⟨by decide +kernel, rfl⟩
theorem d_Md_part_156 : dd m_Md_part 156 (.iload 4) 2 158 := ⟨by decide +kernel, rfl⟩
theorem d_Md_part_158 : dd m_Md_part 158 .imul 1 159 := ⟨by decide +kernel, rfl⟩
theorem d_Md_part_159 : dd m_Md_part 159 (.iconst 1) 1 160 := ⟨by decide +kernel, rfl⟩
theorem d_Md_part_160 : dd m_Md_part 160 .iadd 1 161 := ⟨by decide +kernel, rfl⟩
theorem d_Md_part_161 : dd m_Md_part 161 .iaload 1 162 := ⟨by decide +kernel, rfl⟩
theorem d_Md_part_162 : dd m_Md_part 162 .iastore 1 163 := ⟨by decide +kernel, rfl⟩
theorem d_Md_part_163 : dd m_Md_part 163 (.iinc 4 1) 3 166 := ⟨by decide +kernel, rfl⟩
theorem d_Md_part_166 : db m_Md_part 166 .goto 169 76 := ⟨(-90), by decide +kernel, rfl, rfl⟩
theorem d_Md_part_169 : dd m_Md_part 169 (.aload_n 0) 1 170 := ⟨by decide +kernel, rfl⟩
theorem d_Md_part_170 : dd m_Md_part 170 (.aload_n 0) 1 171 := ⟨by decide +kernel, rfl⟩
theorem d_Md_part_171 : dd m_Md_part 171 (.getfield 78) 3 174 := ⟨by decide +kernel, rfl⟩
theorem d_Md_part_174 : dd m_Md_part 174 (.iload_n 3) 1 175 := ⟨by decide +kernel, rfl⟩
theorem d_Md_part_175 : dd m_Md_part 175 (.iconst 0) 1 176 := ⟨by decide +kernel, rfl⟩
theorem d_Md_part_176 : dd m_Md_part 176 (.invokevirtual 203) 3 179 := ⟨by decide +kernel, rfl⟩
theorem d_Md_part_179 : decode (mbt m_Md_part) 179 = .ok (.ireturn, 1) := by decide +kernel
theorem d_Md_laysProduction_0 : dd m_Md_laysProduction 0 (.aload_n 0) 1 1 := ⟨by decide +kernel, rfl⟩
theorem d_Md_laysProduction_1 : dd m_Md_laysProduction 1 (.iload_n 1) 1 2 := ⟨by decide +kernel, rfl⟩
theorem d_Md_laysProduction_2 : dd m_Md_laysProduction 2 (.aload_n 0) 1 3 := ⟨by decide +kernel, rfl⟩
theorem d_Md_laysProduction_3 : dd m_Md_laysProduction 3 (.getfield 87) 3 6 := ⟨by decide +kernel, rfl⟩
theorem d_Md_laysProduction_6 : dd m_Md_laysProduction 6 (.invokevirtual 228) 3 9 := ⟨by decide +kernel, rfl⟩
theorem d_Md_laysProduction_9 : dd m_Md_laysProduction 9 (.aload_n 0) 1 10 := ⟨by decide +kernel, rfl⟩
theorem d_Md_laysProduction_10 : dd m_Md_laysProduction 10 (.invokevirtual 173) 3 13 := ⟨by decide +kernel, rfl⟩
theorem d_Md_laysProduction_13 : dd m_Md_laysProduction 13 (.iconst 1) 1 14 := ⟨by decide +kernel, rfl⟩
theorem d_Md_laysProduction_14 : dd m_Md_laysProduction 14 .isub 1 15 := ⟨by decide +kernel, rfl⟩
theorem d_Md_laysProduction_15 : dd m_Md_laysProduction 15 (.istore_n 2) 1 16 := ⟨by decide +kernel, rfl⟩
theorem d_Md_laysProduction_16 : dd m_Md_laysProduction 16 (.iconst 0) 1 17 := ⟨by decide +kernel, rfl⟩
theorem d_Md_laysProduction_17 : dd m_Md_laysProduction 17 (.istore_n 3) 1 18 := ⟨by decide +kernel, rfl⟩
theorem d_Md_laysProduction_18 : dd m_Md_laysProduction 18 (.iload_n 3) 1 19 := ⟨by decide +kernel, rfl⟩
theorem d_Md_laysProduction_19 : dd m_Md_laysProduction 19 (.iload_n 2) 1 20 := ⟨by decide +kernel, rfl⟩
theorem d_Md_laysProduction_20 : db m_Md_laysProduction 20 (.if_icmp .ge) 23 70 := ⟨50, by decide +kernel, rfl, rfl⟩
theorem d_Md_laysProduction_23 : dd m_Md_laysProduction 23 (.iconst 0) 1 24 := ⟨by decide +kernel, rfl⟩
theorem d_Md_laysProduction_24 : dd m_Md_laysProduction 24 (.istore 4) 2 26 := ⟨by decide +kernel, rfl⟩
theorem d_Md_laysProduction_26 : dd m_Md_laysProduction 26 (.iload 4) 2 28 := ⟨by decide +kernel, rfl⟩
theorem d_Md_laysProduction_28 : dd m_Md_laysProduction 28 (.iload_n 2) 1 29 := ⟨by decide +kernel, rfl⟩
theorem d_Md_laysProduction_29 : db m_Md_laysProduction 29 (.if_icmp .ge) 32 64 := ⟨35, by decide +kernel, rfl, rfl⟩
theorem d_Md_laysProduction_32 : dd m_Md_laysProduction 32 (.aload_n 0) 1 33 := ⟨by decide +kernel, rfl⟩
theorem d_Md_laysProduction_33 : dd m_Md_laysProduction 33 (.getfield 90) 3 36 := ⟨by decide +kernel, rfl⟩
theorem d_Md_laysProduction_36 : dd m_Md_laysProduction 36 (.bipush 10) 2 38 := ⟨by decide +kernel, rfl⟩
theorem d_Md_laysProduction_38 : dd m_Md_laysProduction 38 (.iload_n 3) 1 39 := ⟨by decide +kernel, rfl⟩
theorem d_Md_laysProduction_39 : dd m_Md_laysProduction 39 .imul 1 40 := ⟨by decide +kernel, rfl⟩
theorem d_Md_laysProduction_40 : dd m_Md_laysProduction 40 (.iload 4) 2 42 := ⟨by decide +kernel, rfl⟩
theorem d_Md_laysProduction_42 : dd m_Md_laysProduction 42 .iadd 1 43 := ⟨by decide +kernel, rfl⟩
theorem d_Md_laysProduction_43 : dd m_Md_laysProduction 43 (.aload_n 0) 1 44 := ⟨by decide +kernel, rfl⟩
theorem d_Md_laysProduction_44 : dd m_Md_laysProduction 44 (.getfield 87) 3 47 := ⟨by decide +kernel, rfl⟩
theorem d_Md_laysProduction_47 : dd m_Md_laysProduction 47 (.bipush 10) 2 49 := ⟨by decide +kernel, rfl⟩
theorem d_Md_laysProduction_49 : dd m_Md_laysProduction 49 (.iload_n 3) 1 50 := ⟨by decide +kernel, rfl⟩
theorem d_Md_laysProduction_50 : dd m_Md_laysProduction 50 (.iconst 1) 1 51 := ⟨by decide +kernel, rfl⟩
theorem d_Md_laysProduction_51 : dd m_Md_laysProduction 51 .iadd 1 52 := ⟨by decide +kernel, rfl⟩
theorem d_Md_laysProduction_52 : dd m_Md_laysProduction 52 .imul 1 53 := ⟨by decide +kernel, rfl⟩
theorem d_Md_laysProduction_53 : dd m_Md_laysProduction 53 (.iload 4) 2 55 := ⟨by decide +kernel, rfl⟩
theorem d_Md_laysProduction_55 : dd m_Md_laysProduction 55 .iadd 1 56 := ⟨by decide +kernel, rfl⟩
theorem d_Md_laysProduction_56 : dd m_Md_laysProduction 56 .iaload 1 57 := ⟨by decide +kernel, rfl⟩
theorem d_Md_laysProduction_57 : dd m_Md_laysProduction 57 .iastore 1 58 := ⟨by decide +kernel, rfl⟩
theorem d_Md_laysProduction_58 : dd m_Md_laysProduction 58 (.iinc 4 1) 3 61 := ⟨by decide +kernel, rfl⟩
theorem d_Md_laysProduction_61 : db m_Md_laysProduction 61 .goto 64 26 := ⟨(-35), by decide +kernel, rfl, rfl⟩
theorem d_Md_laysProduction_64 : dd m_Md_laysProduction 64 (.iinc 3 1) 3 67 := ⟨by decide +kernel, rfl⟩
theorem d_Md_laysProduction_67 : db m_Md_laysProduction 67 .goto 70 18 := ⟨(-49), by decide +kernel, rfl, rfl⟩
theorem d_Md_laysProduction_70 : dd m_Md_laysProduction 70 (.aload_n 0) 1 71 := ⟨by decide +kernel, rfl⟩
theorem d_Md_laysProduction_71 : dd m_Md_laysProduction 71 (.getfield 87) 3 74 := ⟨by decide +kernel, rfl⟩
theorem d_Md_laysProduction_74 : dd m_Md_laysProduction 74 (.aload_n 0) 1 75 := ⟨by decide +kernel, rfl⟩
theorem d_Md_laysProduction_75 : dd m_Md_laysProduction 75 (.getfield 90) 3 78 := ⟨by decide +kernel, rfl⟩
theorem d_Md_laysProduction_78 : dd m_Md_laysProduction 78 (.aload_n 0) 1 79 := ⟨by decide +kernel, rfl⟩
theorem d_Md_laysProduction_79 : dd m_Md_laysProduction 79 (.getfield 93) 3 82 := ⟨by decide +kernel, rfl⟩
theorem d_Md_laysProduction_82 : dd m_Md_laysProduction 82 (.iload_n 2) 1 83 := ⟨by decide +kernel, rfl⟩
theorem d_Md_laysProduction_83 : dd m_Md_laysProduction 83 (.invokestatic 211) 3 86 := ⟨by decide +kernel, rfl⟩
theorem d_Md_laysProduction_86 : decode (mbt m_Md_laysProduction) 86 = .ok (.return_, 1) := by decide +kernel
theorem d_Md_apply_0 : dd m_Md_apply 0 (.aload_n 0) 1 1 := ⟨by decide +kernel, rfl⟩
theorem d_Md_apply_1 : dd m_Md_apply 1 (.iconst 0) 1 2 := ⟨by decide +kernel, rfl⟩
theorem d_Md_apply_2 : dd m_Md_apply 2 (.putfield 1) 3 5 := ⟨by decide +kernel, rfl⟩
theorem d_Md_apply_5 : dd m_Md_apply 5 (.aload_n 0) 1 6 := ⟨by decide +kernel, rfl⟩
theorem d_Md_apply_6 : dd m_Md_apply 6 (.iload_n 1) 1 7 := ⟨by decide +kernel, rfl⟩
theorem d_Md_apply_7 : dd m_Md_apply 7 (.invokevirtual 218) 3 10 := ⟨by decide +kernel, rfl⟩
theorem d_Md_apply_10 : db m_Md_apply 10 (.ifCond .eq) 13 29 := ⟨19, by decide +kernel, rfl, rfl⟩
theorem d_Md_apply_13 : dd m_Md_apply 13 (.aload_n 0) 1 14 := ⟨by decide +kernel, rfl⟩
theorem d_Md_apply_14 : dd m_Md_apply 14 (.iload_n 2) 1 15 := ⟨by decide +kernel, rfl⟩
theorem d_Md_apply_15 : dd m_Md_apply 15 (.invokevirtual 180) 3 18 := ⟨by decide +kernel, rfl⟩
theorem d_Md_apply_18 : db m_Md_apply 18 (.ifCond .eq) 21 29 := ⟨11, by decide +kernel, rfl, rfl⟩
theorem d_Md_apply_21 : dd m_Md_apply 21 (.aload_n 0) 1 22 := ⟨by decide +kernel, rfl⟩
theorem d_Md_apply_22 : dd m_Md_apply 22 (.iload_n 3) 1 23 := ⟨by decide +kernel, rfl⟩
theorem d_Md_apply_23 : dd m_Md_apply 23 (.invokevirtual 180) 3 26 := ⟨by decide +kernel, rfl⟩
theorem d_Md_apply_26 : db m_Md_apply 26 (.ifCond .ne) 29 31 := ⟨5, by decide +kernel, rfl, rfl⟩
theorem d_Md_apply_29 : dd m_Md_apply 29 (.iconst (-1)) 1 30 := ⟨by decide +kernel, rfl⟩
theorem d_Md_apply_30 : decode (mbt m_Md_apply) 30 = .ok (.ireturn, 1) := by decide +kernel
theorem d_Md_apply_31 : dd m_Md_apply 31 (.aload_n 0) 1 32 := ⟨by decide +kernel, rfl⟩
theorem d_Md_apply_32 : dd m_Md_apply 32 (.iload_n 1) 1 33 := ⟨by decide +kernel, rfl⟩
theorem d_Md_apply_33 : dd m_Md_apply 33 (.aload_n 0) 1 34 := ⟨by decide +kernel, rfl⟩
theorem d_Md_apply_34 : dd m_Md_apply 34 (.getfield 87) 3 37 := ⟨by decide +kernel, rfl⟩
theorem d_Md_apply_37 : dd m_Md_apply 37 (.invokevirtual 228) 3 40 := ⟨by decide +kernel, rfl⟩
theorem d_Md_apply_40 : dd m_Md_apply 40 (.aload_n 0) 1 41 := ⟨by decide +kernel, rfl⟩
theorem d_Md_apply_41 : dd m_Md_apply 41 (.iconst 1) 1 42 := ⟨by decide +kernel, rfl⟩
theorem d_Md_apply_42 : dd m_Md_apply 42 (.bipush 10) 2 44 := ⟨by decide +kernel, rfl⟩
theorem d_Md_apply_44 : dd m_Md_apply 44 (.iload_n 2) 1 45 := ⟨by decide +kernel, rfl⟩
theorem d_Md_apply_45 : dd m_Md_apply 45 .imul 1 46 := ⟨by decide +kernel, rfl⟩
theorem d_Md_apply_46 : dd m_Md_apply 46 .iadd 1 47 := ⟨by decide +kernel, rfl⟩
theorem d_Md_apply_47 : dd m_Md_apply 47 (.aload_n 0) 1 48 := ⟨by decide +kernel, rfl⟩
theorem d_Md_apply_48 : dd m_Md_apply 48 (.getfield 72) 3 51 := ⟨by decide +kernel, rfl⟩
theorem d_Md_apply_51 : dd m_Md_apply 51 (.invokevirtual 189) 3 54 := ⟨by decide +kernel, rfl⟩
theorem d_Md_apply_54 : dd m_Md_apply 54 (.aload_n 0) 1 55 := ⟨by decide +kernel, rfl⟩
theorem d_Md_apply_55 : dd m_Md_apply 55 (.aload_n 0) 1 56 := ⟨by decide +kernel, rfl⟩
theorem d_Md_apply_56 : dd m_Md_apply 56 (.getfield 87) 3 59 := ⟨by decide +kernel, rfl⟩
theorem d_Md_apply_59 : dd m_Md_apply 59 (.aload_n 0) 1 60 := ⟨by decide +kernel, rfl⟩
theorem d_Md_apply_60 : dd m_Md_apply 60 (.getfield 72) 3 63 := ⟨by decide +kernel, rfl⟩
theorem d_Md_apply_63 : dd m_Md_apply 63 (.aload_n 0) 1 64 := ⟨by decide +kernel, rfl⟩
theorem d_Md_apply_64 : dd m_Md_apply 64 (.getfield 78) 3 67 := ⟨by decide +kernel, rfl⟩
theorem d_Md_apply_67 : dd m_Md_apply 67 (.invokevirtual 200) 3 70 := ⟨by decide +kernel, rfl⟩
theorem d_Md_apply_70 : dd m_Md_apply 70 (.aload_n 0) 1 71 := ⟨by decide +kernel, rfl⟩
theorem d_Md_apply_71 : dd m_Md_apply 71 (.aload_n 0) 1 72 := ⟨by decide +kernel, rfl⟩
theorem d_Md_apply_72 : dd m_Md_apply 72 (.getfield 78) 3 75 := ⟨by decide +kernel, rfl⟩
theorem d_Md_apply_75 : dd m_Md_apply 75 (.iload_n 3) 1 76 := ⟨by decide +kernel, rfl⟩
theorem d_Md_apply_76 : dd m_Md_apply 76 (.aload_n 0) 1 77 := ⟨by decide +kernel, rfl⟩
theorem d_Md_apply_77 : dd m_Md_apply 77 (.invokevirtual 173) 3 80 := ⟨by decide +kernel, rfl⟩
theorem d_Md_apply_80 : dd m_Md_apply 80 (.iconst 1) 1 81 := ⟨by decide +kernel, rfl⟩
theorem d_Md_apply_81 : dd m_Md_apply 81 .isub 1 82 := ⟨by decide +kernel, rfl⟩
theorem d_Md_apply_82 : dd m_Md_apply 82 (.invokevirtual 203) 3 85 := ⟨by decide +kernel, rfl⟩
theorem d_Md_apply_85 : decode (mbt m_Md_apply) 85 = .ok (.ireturn, 1) := by decide +kernel
theorem d_Md_sums_0 : dd m_Md_sums 0 (.aload_n 0) 1 1 := ⟨by decide +kernel, rfl⟩
theorem d_Md_sums_1 : dd m_Md_sums 1 (.iconst 0) 1 2 := ⟨by decide +kernel, rfl⟩
theorem d_Md_sums_2 : dd m_Md_sums 2 (.putfield 1) 3 5 := ⟨by decide +kernel, rfl⟩
theorem d_Md_sums_5 : dd m_Md_sums 5 (.aload_n 0) 1 6 := ⟨by decide +kernel, rfl⟩
theorem d_Md_sums_6 : dd m_Md_sums 6 (.iload_n 1) 1 7 := ⟨by decide +kernel, rfl⟩
theorem d_Md_sums_7 : dd m_Md_sums 7 (.invokevirtual 218) 3 10 := ⟨by decide +kernel, rfl⟩
theorem d_Md_sums_10 : db m_Md_sums 10 (.ifCond .eq) 13 30 := ⟨20, by decide +kernel, rfl, rfl⟩
theorem d_Md_sums_13 : dd m_Md_sums 13 (.aload_n 0) 1 14 := ⟨by decide +kernel, rfl⟩
theorem d_Md_sums_14 : dd m_Md_sums 14 (.iload_n 3) 1 15 := ⟨by decide +kernel, rfl⟩
theorem d_Md_sums_15 : dd m_Md_sums 15 (.invokevirtual 180) 3 18 := ⟨by decide +kernel, rfl⟩
theorem d_Md_sums_18 : db m_Md_sums 18 (.ifCond .eq) 21 30 := ⟨12, by decide +kernel, rfl, rfl⟩
theorem d_Md_sums_21 : dd m_Md_sums 21 (.iload_n 2) 1 22 := ⟨by decide +kernel, rfl⟩
theorem d_Md_sums_22 : dd m_Md_sums 22 (.iconst 0) 1 23 := ⟨by decide +kernel, rfl⟩
theorem d_Md_sums_23 : dd m_Md_sums 23 (.iconst 3) 1 24 := ⟨by decide +kernel, rfl⟩
theorem d_Md_sums_24 : dd m_Md_sums 24 (.invokestatic 118) 3 27 := ⟨by decide +kernel, rfl⟩
theorem d_Md_sums_27 : db m_Md_sums 27 (.ifCond .ne) 30 32 := ⟨5, by decide +kernel, rfl, rfl⟩
theorem d_Md_sums_30 : dd m_Md_sums 30 (.iconst (-1)) 1 31 := ⟨by decide +kernel, rfl⟩
theorem d_Md_sums_31 : decode (mbt m_Md_sums) 31 = .ok (.ireturn, 1) := by decide +kernel
theorem d_Md_sums_32 : dd m_Md_sums 32 (.aload_n 0) 1 33 := ⟨by decide +kernel, rfl⟩
theorem d_Md_sums_33 : dd m_Md_sums 33 (.iload_n 1) 1 34 := ⟨by decide +kernel, rfl⟩
theorem d_Md_sums_34 : dd m_Md_sums 34 (.aload_n 0) 1 35 := ⟨by decide +kernel, rfl⟩
theorem d_Md_sums_35 : dd m_Md_sums 35 (.getfield 87) 3 38 := ⟨by decide +kernel, rfl⟩
theorem d_Md_sums_38 : dd m_Md_sums 38 (.invokevirtual 228) 3 41 := ⟨by decide +kernel, rfl⟩
theorem d_Md_sums_41 : dd m_Md_sums 41 (.iconst 0) 1 42 := ⟨by decide +kernel, rfl⟩
theorem d_Md_sums_42 : dd m_Md_sums 42 (.istore 4) 2 44 := ⟨by decide +kernel, rfl⟩
theorem d_Md_sums_44 : dd m_Md_sums 44 (.iload 4) 2 46 := ⟨by decide +kernel, rfl⟩
theorem d_Md_sums_46 : dd m_Md_sums 46 (.aload_n 0) 1 47 := ⟨by decide +kernel, rfl⟩
theorem d_Md_sums_47 : dd m_Md_sums 47 (.invokevirtual 173) 3 50 := ⟨by decide +kernel, rfl⟩
theorem d_Md_sums_50 : db m_Md_sums 50 (.if_icmp .ge) 53 159 := ⟨109, by decide +kernel, rfl, rfl⟩
theorem d_Md_sums_53 : dd m_Md_sums 53 (.lconst 0) 1 54 := ⟨by decide +kernel, rfl⟩
theorem d_Md_sums_54 : dd m_Md_sums 54 (.lstore 5) 2 56 := ⟨by decide +kernel, rfl⟩
theorem d_Md_sums_56 : dd m_Md_sums 56 (.iconst 0) 1 57 := ⟨by decide +kernel, rfl⟩
theorem d_Md_sums_57 : dd m_Md_sums 57 (.istore 7) 2 59 := ⟨by decide +kernel, rfl⟩
theorem d_Md_sums_59 : dd m_Md_sums 59 (.iload 7) 2 61 := ⟨by decide +kernel, rfl⟩
theorem d_Md_sums_61 : dd m_Md_sums 61 (.iload 4) 2 63 := ⟨by decide +kernel, rfl⟩
theorem d_Md_sums_63 : db m_Md_sums 63 (.if_icmp .gt) 66 141 := ⟨78, by decide +kernel, rfl, rfl⟩
theorem d_Md_sums_66 : dd m_Md_sums 66 (.aload_n 0) 1 67 := ⟨by decide +kernel, rfl⟩
theorem d_Md_sums_67 : dd m_Md_sums 67 (.getfield 87) 3 70 := ⟨by decide +kernel, rfl⟩
theorem d_Md_sums_70 : dd m_Md_sums 70 (.bipush 10) 2 72 := ⟨by decide +kernel, rfl⟩
theorem d_Md_sums_72 : dd m_Md_sums 72 (.iload_n 2) 1 73 := ⟨by decide +kernel, rfl⟩
theorem d_Md_sums_73 : dd m_Md_sums 73 (.iconst 3) 1 74 := ⟨by decide +kernel, rfl⟩
theorem d_Md_sums_74 : db m_Md_sums 74 (.if_icmp .ne) 77 85 := ⟨11, by decide +kernel, rfl, rfl⟩
theorem d_Md_sums_77 : dd m_Md_sums 77 (.iload 4) 2 79 := ⟨by decide +kernel, rfl⟩
theorem d_Md_sums_79 : dd m_Md_sums 79 (.iload 7) 2 81 := ⟨by decide +kernel, rfl⟩
theorem d_Md_sums_81 : dd m_Md_sums 81 .isub 1 82 := ⟨by decide +kernel, rfl⟩
theorem d_Md_sums_82 : db m_Md_sums 82 .goto 85 87 := ⟨5, by decide +kernel, rfl, rfl⟩
theorem d_Md_sums_85 : dd m_Md_sums 85 (.iload 4) 2 87 := ⟨by decide +kernel, rfl⟩
theorem d_Md_sums_87 : dd m_Md_sums 87 .imul 1 88 := ⟨by decide +kernel, rfl⟩
theorem d_Md_sums_88 : dd m_Md_sums 88 (.iload 7) 2 90 := ⟨by decide +kernel, rfl⟩
theorem d_Md_sums_90 : dd m_Md_sums 90 .iadd 1 91 := ⟨by decide +kernel, rfl⟩
theorem d_Md_sums_91 : dd m_Md_sums 91 .iaload 1 92 := ⟨by decide +kernel, rfl⟩
theorem d_Md_sums_92 : dd m_Md_sums 92 .i2l 1 93 := ⟨by decide +kernel, rfl⟩
theorem d_Md_sums_93 : dd m_Md_sums 93 (.lstore 8) 2 95 := ⟨by decide +kernel, rfl⟩
theorem d_Md_sums_95 : dd m_Md_sums 95 (.lload 5) 2 97 := ⟨by decide +kernel, rfl⟩
theorem d_Md_sums_97 : dd m_Md_sums 97 (.iload_n 2) 1 98 := ⟨by decide +kernel, rfl⟩
theorem d_Md_sums_98 : dd m_Md_sums 98 (.iconst 1) 1 99 := ⟨by decide +kernel, rfl⟩
theorem d_Md_sums_99 : db m_Md_sums 99 (.if_icmp .ne) 102 116 := ⟨17, by decide +kernel, rfl, rfl⟩
theorem d_Md_sums_102 : dd m_Md_sums 102 (.iload 7) 2 104 := ⟨by decide +kernel, rfl⟩
theorem d_Md_sums_104 : dd m_Md_sums 104 (.iconst 2) 1 105 := ⟨by decide +kernel, rfl⟩
theorem d_Md_sums_105 : dd m_Md_sums 105 .irem 1 106 := ⟨by decide +kernel, rfl⟩
theorem d_Md_sums_106 : dd m_Md_sums 106 (.iconst 1) 1 107 := ⟨by decide +kernel, rfl⟩
theorem d_Md_sums_107 : db m_Md_sums 107 (.if_icmp .ne) 110 116 := ⟨9, by decide +kernel, rfl, rfl⟩
theorem d_Md_sums_110 : dd m_Md_sums 110 (.lload 8) 2 112 := ⟨by decide +kernel, rfl⟩
theorem d_Md_sums_112 : dd m_Md_sums 112 .lneg 1 113 := ⟨by decide +kernel, rfl⟩
theorem d_Md_sums_113 : db m_Md_sums 113 .goto 116 132 := ⟨19, by decide +kernel, rfl, rfl⟩
theorem d_Md_sums_116 : dd m_Md_sums 116 (.iload_n 2) 1 117 := ⟨by decide +kernel, rfl⟩
theorem d_Md_sums_117 : dd m_Md_sums 117 (.iconst 2) 1 118 := ⟨by decide +kernel, rfl⟩
theorem d_Md_sums_118 : db m_Md_sums 118 (.if_icmp .ne) 121 130 := ⟨12, by decide +kernel, rfl, rfl⟩
theorem d_Md_sums_121 : dd m_Md_sums 121 (.iload 7) 2 123 := ⟨by decide +kernel, rfl⟩
theorem d_Md_sums_123 : dd m_Md_sums 123 .i2l 1 124 := ⟨by decide +kernel, rfl⟩
theorem d_Md_sums_124 : dd m_Md_sums 124 (.lload 8) 2 126 := ⟨by decide +kernel, rfl⟩
theorem d_Md_sums_126 : dd m_Md_sums 126 .lmul 1 127 := ⟨by decide +kernel, rfl⟩
theorem d_Md_sums_127 : db m_Md_sums 127 .goto 130 132 := ⟨5, by decide +kernel, rfl, rfl⟩
theorem d_Md_sums_130 : dd m_Md_sums 130 (.lload 8) 2 132 := ⟨by decide +kernel, rfl⟩
theorem d_Md_sums_132 : dd m_Md_sums 132 .ladd 1 133 := ⟨by decide +kernel, rfl⟩
theorem d_Md_sums_133 : dd m_Md_sums 133 (.lstore 5) 2 135 := ⟨by decide +kernel, rfl⟩
theorem d_Md_sums_135 : dd m_Md_sums 135 (.iinc 7 1) 3 138 := ⟨by decide +kernel, rfl⟩
theorem d_Md_sums_138 : db m_Md_sums 138 .goto 141 59 := ⟨(-79), by decide +kernel, rfl, rfl⟩
theorem d_Md_sums_141 : dd m_Md_sums 141 (.aload_n 0) 1 142 := ⟨by decide +kernel, rfl⟩
theorem d_Md_sums_142 : dd m_Md_sums 142 (.getfield 78) 3 145 := ⟨by decide +kernel, rfl⟩
theorem d_Md_sums_145 : dd m_Md_sums 145 (.iload 4) 2 147 := ⟨by decide +kernel, rfl⟩
theorem d_Md_sums_147 : dd m_Md_sums 147 (.lload 5) 2 149 := ⟨by decide +kernel, rfl⟩
theorem d_Md_sums_149 : dd m_Md_sums 149 (.invokestatic 109) 3 152 := ⟨by decide +kernel, rfl⟩
theorem d_Md_sums_152 : dd m_Md_sums 152 .iastore 1 153 := ⟨by decide +kernel, rfl⟩
theorem d_Md_sums_153 : dd m_Md_sums 153 (.iinc 4 1) 3 156 := ⟨by decide +kernel, rfl⟩
theorem d_Md_sums_156 : db m_Md_sums 156 .goto 159 44 := ⟨(-112), by decide +kernel, rfl, rfl⟩
theorem d_Md_sums_159 : dd m_Md_sums 159 (.aload_n 0) 1 160 := ⟨by decide +kernel, rfl⟩
theorem d_Md_sums_160 : dd m_Md_sums 160 (.aload_n 0) 1 161 := ⟨by decide +kernel, rfl⟩
theorem d_Md_sums_161 : dd m_Md_sums 161 (.getfield 78) 3 164 := ⟨by decide +kernel, rfl⟩
theorem d_Md_sums_164 : dd m_Md_sums 164 (.iload_n 3) 1 165 := ⟨by decide +kernel, rfl⟩
theorem d_Md_sums_165 : dd m_Md_sums 165 (.aload_n 0) 1 166 := ⟨by decide +kernel, rfl⟩
theorem d_Md_sums_166 : dd m_Md_sums 166 (.invokevirtual 173) 3 169 := ⟨by decide +kernel, rfl⟩
theorem d_Md_sums_169 : dd m_Md_sums 169 (.iconst 1) 1 170 := ⟨by decide +kernel, rfl⟩
theorem d_Md_sums_170 : dd m_Md_sums 170 .isub 1 171 := ⟨by decide +kernel, rfl⟩
theorem d_Md_sums_171 : dd m_Md_sums 171 (.invokevirtual 203) 3 174 := ⟨by decide +kernel, rfl⟩
theorem d_Md_sums_174 : decode (mbt m_Md_sums) 174 = .ok (.ireturn, 1) := by decide +kernel
theorem d_Md_production_0 : dd m_Md_production 0 (.aload_n 0) 1 1 := ⟨by decide +kernel, rfl⟩
theorem d_Md_production_1 : dd m_Md_production 1 (.iconst 0) 1 2 := ⟨by decide +kernel, rfl⟩
theorem d_Md_production_2 : dd m_Md_production 2 (.putfield 1) 3 5 := ⟨by decide +kernel, rfl⟩
theorem d_Md_production_5 : dd m_Md_production 5 (.aload_n 0) 1 6 := ⟨by decide +kernel, rfl⟩
theorem d_Md_production_6 : dd m_Md_production 6 (.iload_n 1) 1 7 := ⟨by decide +kernel, rfl⟩
theorem d_Md_production_7 : dd m_Md_production 7 (.invokevirtual 218) 3 10 := ⟨by decide +kernel, rfl⟩
theorem d_Md_production_10 : db m_Md_production 10 (.ifCond .eq) 13 41 := ⟨31, by decide +kernel, rfl, rfl⟩
theorem d_Md_production_13 : dd m_Md_production 13 (.iload_n 2) 1 14 := ⟨by decide +kernel, rfl⟩
theorem d_Md_production_14 : dd m_Md_production 14 (.iconst 0) 1 15 := ⟨by decide +kernel, rfl⟩
theorem d_Md_production_15 : dd m_Md_production 15 (.aload_n 0) 1 16 := ⟨by decide +kernel, rfl⟩
theorem d_Md_production_16 : dd m_Md_production 16 (.invokevirtual 173) 3 19 := ⟨by decide +kernel, rfl⟩
theorem d_Md_production_19 : dd m_Md_production 19 (.iconst 2) 1 20 := ⟨by decide +kernel, rfl⟩
theorem d_Md_production_20 : dd m_Md_production 20 .isub 1 21 := ⟨by decide +kernel, rfl⟩
theorem d_Md_production_21 : dd m_Md_production 21 (.invokestatic 118) 3 24 := ⟨by decide +kernel, rfl⟩
theorem d_Md_production_24 : db m_Md_production 24 (.ifCond .eq) 27 41 := ⟨17, by decide +kernel, rfl, rfl⟩
theorem d_Md_production_27 : dd m_Md_production 27 (.iload_n 3) 1 28 := ⟨by decide +kernel, rfl⟩
theorem d_Md_production_28 : dd m_Md_production 28 (.iconst 0) 1 29 := ⟨by decide +kernel, rfl⟩
theorem d_Md_production_29 : dd m_Md_production 29 (.aload_n 0) 1 30 := ⟨by decide +kernel, rfl⟩
theorem d_Md_production_30 : dd m_Md_production 30 (.invokevirtual 173) 3 33 := ⟨by decide +kernel, rfl⟩
theorem d_Md_production_33 : dd m_Md_production 33 (.iconst 2) 1 34 := ⟨by decide +kernel, rfl⟩
theorem d_Md_production_34 : dd m_Md_production 34 .isub 1 35 := ⟨by decide +kernel, rfl⟩
theorem d_Md_production_35 : dd m_Md_production 35 (.invokestatic 118) 3 38 := ⟨by decide +kernel, rfl⟩
theorem d_Md_production_38 : db m_Md_production 38 (.ifCond .ne) 41 46 := ⟨8, by decide +kernel, rfl, rfl⟩
theorem d_Md_production_41 : dd m_Md_production 41 (.aload_n 0) 1 42 := ⟨by decide +kernel, rfl⟩
theorem d_Md_production_42 : dd m_Md_production 42 (.invokevirtual 225) 3 45 := ⟨by decide +kernel, rfl⟩
theorem d_Md_production_45 : decode (mbt m_Md_production) 45 = .ok (.ireturn, 1) := by decide +kernel
theorem d_Md_production_46 : dd m_Md_production 46 (.aload_n 0) 1 47 := ⟨by decide +kernel, rfl⟩
theorem d_Md_production_47 : dd m_Md_production 47 (.iload_n 1) 1 48 := ⟨by decide +kernel, rfl⟩
theorem d_Md_production_48 : dd m_Md_production 48 (.invokevirtual 234) 3 51 := ⟨by decide +kernel, rfl⟩
theorem d_Md_production_51 : dd m_Md_production 51 (.aload_n 0) 1 52 := ⟨by decide +kernel, rfl⟩
theorem d_Md_production_52 : dd m_Md_production 52 (.getfield 93) 3 55 := ⟨by decide +kernel, rfl⟩
theorem d_Md_production_55 : dd m_Md_production 55 (.bipush 10) 2 57 := ⟨by decide +kernel, rfl⟩
theorem d_Md_production_57 : dd m_Md_production 57 (.iload_n 2) 1 58 := ⟨by decide +kernel, rfl⟩
theorem d_Md_production_58 : dd m_Md_production 58 .imul 1 59 := ⟨by decide +kernel, rfl⟩
theorem d_Md_production_59 : dd m_Md_production 59 (.iload_n 3) 1 60 := ⟨by decide +kernel, rfl⟩
theorem d_Md_production_60 : dd m_Md_production 60 .iadd 1 61 := ⟨by decide +kernel, rfl⟩
theorem d_Md_production_61 : dd m_Md_production 61 .iaload 1 62 := ⟨by decide +kernel, rfl⟩
theorem d_Md_production_62 : decode (mbt m_Md_production) 62 = .ok (.ireturn, 1) := by decide +kernel
theorem d_Md_kinds_0 : dd m_Md_kinds 0 (.aload_n 0) 1 1 := ⟨by decide +kernel, rfl⟩
theorem d_Md_kinds_1 : dd m_Md_kinds 1 (.iconst 0) 1 2 := ⟨by decide +kernel, rfl⟩
theorem d_Md_kinds_2 : dd m_Md_kinds 2 (.putfield 1) 3 5 := ⟨by decide +kernel, rfl⟩
theorem d_Md_kinds_5 : dd m_Md_kinds 5 (.aload_n 0) 1 6 := ⟨by decide +kernel, rfl⟩
theorem d_Md_kinds_6 : dd m_Md_kinds 6 (.iload_n 1) 1 7 := ⟨by decide +kernel, rfl⟩
theorem d_Md_kinds_7 : dd m_Md_kinds 7 (.invokevirtual 218) 3 10 := ⟨by decide +kernel, rfl⟩
theorem d_Md_kinds_10 : db m_Md_kinds 10 (.ifCond .eq) 13 21 := ⟨11, by decide +kernel, rfl, rfl⟩
theorem d_Md_kinds_13 : dd m_Md_kinds 13 (.aload_n 0) 1 14 := ⟨by decide +kernel, rfl⟩
theorem d_Md_kinds_14 : dd m_Md_kinds 14 (.iload_n 1) 1 15 := ⟨by decide +kernel, rfl⟩
theorem d_Md_kinds_15 : dd m_Md_kinds 15 (.invokevirtual 241) 3 18 := ⟨by decide +kernel, rfl⟩
theorem d_Md_kinds_18 : db m_Md_kinds 18 .goto 21 22 := ⟨4, by decide +kernel, rfl, rfl⟩
theorem d_Md_kinds_21 : dd m_Md_kinds 21 (.iconst (-1)) 1 22 := ⟨by decide +kernel, rfl⟩
theorem d_Md_kinds_22 : decode (mbt m_Md_kinds) 22 = .ok (.ireturn, 1) := by decide +kernel
theorem d_Md_kindsOf_0 : dd m_Md_kindsOf 0 (.aload_n 0) 1 1 := ⟨by decide +kernel, rfl⟩
theorem d_Md_kindsOf_1 : dd m_Md_kindsOf 1 (.iload_n 1) 1 2 := ⟨by decide +kernel, rfl⟩
theorem d_Md_kindsOf_2 : dd m_Md_kindsOf 2 (.aload_n 0) 1 3 := ⟨by decide +kernel, rfl⟩
theorem d_Md_kindsOf_3 : dd m_Md_kindsOf 3 (.getfield 87) 3 6 := ⟨by decide +kernel, rfl⟩
theorem d_Md_kindsOf_6 : dd m_Md_kindsOf 6 (.invokevirtual 228) 3 9 := ⟨by decide +kernel, rfl⟩
theorem d_Md_kindsOf_9 : dd m_Md_kindsOf 9 (.aload_n 0) 1 10 := ⟨by decide +kernel, rfl⟩
theorem d_Md_kindsOf_10 : dd m_Md_kindsOf 10 (.invokevirtual 173) 3 13 := ⟨by decide +kernel, rfl⟩
theorem d_Md_kindsOf_13 : dd m_Md_kindsOf 13 (.istore_n 2) 1 14 := ⟨by decide +kernel, rfl⟩
theorem d_Md_kindsOf_14 : dd m_Md_kindsOf 14 (.iconst 1) 1 15 := ⟨by decide +kernel, rfl⟩
theorem d_Md_kindsOf_15 : dd m_Md_kindsOf 15 (.istore_n 3) 1 16 := ⟨by decide +kernel, rfl⟩
theorem d_Md_kindsOf_16 : dd m_Md_kindsOf 16 (.iconst 1) 1 17 := ⟨by decide +kernel, rfl⟩
theorem d_Md_kindsOf_17 : dd m_Md_kindsOf 17 (.istore 4) 2 19 := ⟨by decide +kernel, rfl⟩
theorem d_Md_kindsOf_19 : dd m_Md_kindsOf 19 (.iconst 1) 1 20 := ⟨by decide +kernel, rfl⟩
theorem d_Md_kindsOf_20 : dd m_Md_kindsOf 20 (.istore 5) 2 22 := ⟨by decide +kernel, rfl⟩
theorem d_Md_kindsOf_22 : dd m_Md_kindsOf 22 (.iconst 1) 1 23 := ⟨by decide +kernel, rfl⟩
theorem d_Md_kindsOf_23 : dd m_Md_kindsOf 23 (.istore 6) 2 25 := ⟨by decide +kernel, rfl⟩
theorem d_Md_kindsOf_25 : dd m_Md_kindsOf 25 (.iconst 1) 1 26 := ⟨by decide +kernel, rfl⟩
theorem d_Md_kindsOf_26 : dd m_Md_kindsOf 26 (.istore 7) 2 28 := ⟨by decide +kernel, rfl⟩
theorem d_Md_kindsOf_28 : dd m_Md_kindsOf 28 (.iconst 0) 1 29 := ⟨by decide +kernel, rfl⟩
theorem d_Md_kindsOf_29 : dd m_Md_kindsOf 29 (.istore 8) 2 31 := ⟨by decide +kernel, rfl⟩
theorem d_Md_kindsOf_31 : dd m_Md_kindsOf 31 (.iload 8) 2 33 := ⟨by decide +kernel, rfl⟩
theorem d_Md_kindsOf_33 : dd m_Md_kindsOf 33 (.iload_n 2) 1 34 := ⟨by decide +kernel, rfl⟩
theorem d_Md_kindsOf_34 : db m_Md_kindsOf 34 (.if_icmp .ge) 37 248 := ⟨214, by decide +kernel, rfl, rfl⟩
theorem d_Md_kindsOf_37 : dd m_Md_kindsOf 37 (.iload_n 3) 1 38 := ⟨by decide +kernel, rfl⟩
theorem d_Md_kindsOf_38 : db m_Md_kindsOf 38 (.ifCond .eq) 41 66 := ⟨28, by decide +kernel, rfl, rfl⟩
theorem d_Md_kindsOf_41 : dd m_Md_kindsOf 41 (.aload_n 0) 1 42 := ⟨by decide +kernel, rfl⟩
theorem d_Md_kindsOf_42 : dd m_Md_kindsOf 42 (.getfield 75) 3 45 := ⟨by decide +kernel, rfl⟩
theorem d_Md_kindsOf_45 : dd m_Md_kindsOf 45 (.iload 8) 2 47 := ⟨by decide +kernel, rfl⟩
theorem d_Md_kindsOf_47 : dd m_Md_kindsOf 47 .iaload 1 48 := ⟨by decide +kernel, rfl⟩
theorem d_Md_kindsOf_48 : dd m_Md_kindsOf 48 (.iload 8) 2 50 := ⟨by decide +kernel, rfl⟩
theorem d_Md_kindsOf_50 : dd m_Md_kindsOf 50 (.iconst 1) 1 51 := ⟨by decide +kernel, rfl⟩
theorem d_Md_kindsOf_51 : db m_Md_kindsOf 51 (.if_icmp .ne) 54 58 := ⟨7, by decide +kernel, rfl, rfl⟩
theorem d_Md_kindsOf_54 : dd m_Md_kindsOf 54 (.iconst 1) 1 55 := ⟨by decide +kernel, rfl⟩
theorem d_Md_kindsOf_55 : db m_Md_kindsOf 55 .goto 58 59 := ⟨4, by decide +kernel, rfl, rfl⟩
theorem d_Md_kindsOf_58 : dd m_Md_kindsOf 58 (.iconst 0) 1 59 := ⟨by decide +kernel, rfl⟩
theorem d_Md_kindsOf_59 : db m_Md_kindsOf 59 (.if_icmp .ne) 62 66 := ⟨7, by decide +kernel, rfl, rfl⟩
theorem d_Md_kindsOf_62 : dd m_Md_kindsOf 62 (.iconst 1) 1 63 := ⟨by decide +kernel, rfl⟩
theorem d_Md_kindsOf_63 : db m_Md_kindsOf 63 .goto 66 67 := ⟨4, by decide +kernel, rfl, rfl⟩
theorem d_Md_kindsOf_66 : dd m_Md_kindsOf 66 (.iconst 0) 1 67 := ⟨by decide +kernel, rfl⟩
theorem d_Md_kindsOf_67 : dd m_Md_kindsOf 67 (.istore_n 3) 1 68 := ⟨by decide +kernel, rfl⟩
theorem d_Md_kindsOf_68 : dd m_Md_kindsOf 68 (.iload 4) 2 70 := ⟨by decide +kernel, rfl⟩
theorem d_Md_kindsOf_70 : db m_Md_kindsOf 70 (.ifCond .eq) 73 97 := ⟨27, by decide +kernel, rfl, rfl⟩
theorem d_Md_kindsOf_73 : dd m_Md_kindsOf 73 (.aload_n 0) 1 74 := ⟨by decide +kernel, rfl⟩
theorem d_Md_kindsOf_74 : dd m_Md_kindsOf 74 (.getfield 72) 3 77 := ⟨by decide +kernel, rfl⟩
theorem d_Md_kindsOf_77 : dd m_Md_kindsOf 77 (.iload 8) 2 79 := ⟨by decide +kernel, rfl⟩
theorem d_Md_kindsOf_79 : dd m_Md_kindsOf 79 .iaload 1 80 := ⟨by decide +kernel, rfl⟩
theorem d_Md_kindsOf_80 : dd m_Md_kindsOf 80 (.iload 8) 2 82 := ⟨by decide +kernel, rfl⟩
theorem d_Md_kindsOf_82 : db m_Md_kindsOf 82 (.ifCond .ne) 85 89 := ⟨7, by decide +kernel, rfl, rfl⟩
theorem d_Md_kindsOf_85 : dd m_Md_kindsOf 85 (.iconst 1) 1 86 := ⟨by decide +kernel, rfl⟩
theorem d_Md_kindsOf_86 : db m_Md_kindsOf 86 .goto 89 90 := ⟨4, by decide +kernel, rfl, rfl⟩
theorem d_Md_kindsOf_89 : dd m_Md_kindsOf 89 (.iconst 0) 1 90 := ⟨by decide +kernel, rfl⟩
theorem d_Md_kindsOf_90 : db m_Md_kindsOf 90 (.if_icmp .ne) 93 97 := ⟨7, by decide +kernel, rfl, rfl⟩
theorem d_Md_kindsOf_93 : dd m_Md_kindsOf 93 (.iconst 1) 1 94 := ⟨by decide +kernel, rfl⟩
theorem d_Md_kindsOf_94 : db m_Md_kindsOf 94 .goto 97 98 := ⟨4, by decide +kernel, rfl, rfl⟩
theorem d_Md_kindsOf_97 : dd m_Md_kindsOf 97 (.iconst 0) 1 98 := ⟨by decide +kernel, rfl⟩
theorem d_Md_kindsOf_98 : dd m_Md_kindsOf 98 (.istore 4) 2 100 := ⟨by decide +kernel, rfl⟩
theorem d_Md_kindsOf_100 : dd m_Md_kindsOf 100 (.iload 5) 2 102 := ⟨by decide +kernel, rfl⟩
theorem d_Md_kindsOf_102 : db m_Md_kindsOf 102 (.ifCond .eq) 105 137 := ⟨35, by decide +kernel, rfl, rfl⟩
theorem d_Md_kindsOf_105 : dd m_Md_kindsOf 105 (.aload_n 0) 1 106 := ⟨by decide +kernel, rfl⟩
theorem d_Md_kindsOf_106 : dd m_Md_kindsOf 106 (.getfield 75) 3 109 := ⟨by decide +kernel, rfl⟩
theorem d_Md_kindsOf_109 : dd m_Md_kindsOf 109 (.iload 8) 2 111 := ⟨by decide +kernel, rfl⟩
theorem d_Md_kindsOf_111 : dd m_Md_kindsOf 111 .iaload 1 112 := ⟨by decide +kernel, rfl⟩
theorem d_Md_kindsOf_112 : dd m_Md_kindsOf 112 (.iload 8) 2 114 := ⟨by decide +kernel, rfl⟩
theorem d_Md_kindsOf_114 : db m_Md_kindsOf 114 (.ifCond .ne) 117 121 := ⟨7, by decide +kernel, rfl, rfl⟩
theorem d_Md_kindsOf_117 : dd m_Md_kindsOf 117 (.iconst 0) 1 118 := ⟨by decide +kernel, rfl⟩
theorem d_Md_kindsOf_118 : db m_Md_kindsOf 118 .goto 121 130 := ⟨12, by decide +kernel, rfl, rfl⟩
theorem d_Md_kindsOf_121 : dd m_Md_kindsOf 121 (.aload_n 0) 1 122 := ⟨by decide +kernel, rfl⟩
theorem d_Md_kindsOf_122 : dd m_Md_kindsOf 122 (.getfield 72) 3 125 := ⟨by decide +kernel, rfl⟩
theorem d_Md_kindsOf_125 : dd m_Md_kindsOf 125 (.iload 8) 2 127 := ⟨by decide +kernel, rfl⟩
theorem d_Md_kindsOf_127 : dd m_Md_kindsOf 127 (.iconst 1) 1 128 := ⟨by decide +kernel, rfl⟩
theorem d_Md_kindsOf_128 : dd m_Md_kindsOf 128 .isub 1 129 := ⟨by decide +kernel, rfl⟩
theorem d_Md_kindsOf_129 : dd m_Md_kindsOf 129 .iaload 1 130 := ⟨by decide +kernel, rfl⟩
theorem d_Md_kindsOf_130 : db m_Md_kindsOf 130 (.if_icmp .ne) 133 137 := ⟨7, by decide +kernel, rfl, rfl⟩
theorem d_Md_kindsOf_133 : dd m_Md_kindsOf 133 (.iconst 1) 1 134 := ⟨by decide +kernel, rfl⟩
theorem d_Md_kindsOf_134 : db m_Md_kindsOf 134 .goto 137 138 := ⟨4, by decide +kernel, rfl, rfl⟩
theorem d_Md_kindsOf_137 : dd m_Md_kindsOf 137 (.iconst 0) 1 138 := ⟨by decide +kernel, rfl⟩
theorem d_Md_kindsOf_138 : dd m_Md_kindsOf 138 (.istore 5) 2 140 := ⟨by decide +kernel, rfl⟩
theorem d_Md_kindsOf_140 : dd m_Md_kindsOf 140 (.iload 6) 2 142 := ⟨by decide +kernel, rfl⟩
theorem d_Md_kindsOf_142 : db m_Md_kindsOf 142 (.ifCond .eq) 145 186 := ⟨44, by decide +kernel, rfl, rfl⟩
theorem d_Md_kindsOf_145 : dd m_Md_kindsOf 145 (.iload 8) 2 147 := ⟨by decide +kernel, rfl⟩
theorem d_Md_kindsOf_147 : dd m_Md_kindsOf 147 (.iconst 1) 1 148 := ⟨by decide +kernel, rfl⟩
theorem d_Md_kindsOf_148 : dd m_Md_kindsOf 148 .iadd 1 149 := ⟨by decide +kernel, rfl⟩
theorem d_Md_kindsOf_149 : dd m_Md_kindsOf 149 (.iload_n 2) 1 150 := ⟨by decide +kernel, rfl⟩
theorem d_Md_kindsOf_150 : db m_Md_kindsOf 150 (.if_icmp .eq) 153 182 := ⟨32, by decide +kernel, rfl, rfl⟩
theorem d_Md_kindsOf_153 : dd m_Md_kindsOf 153 (.aload_n 0) 1 154 := ⟨by decide +kernel, rfl⟩
theorem d_Md_kindsOf_154 : dd m_Md_kindsOf 154 (.getfield 72) 3 157 := ⟨by decide +kernel, rfl⟩
theorem d_Md_kindsOf_157 : dd m_Md_kindsOf 157 (.iload 8) 2 159 := ⟨by decide +kernel, rfl⟩
theorem d_Md_kindsOf_159 : dd m_Md_kindsOf 159 .iaload 1 160 := ⟨by decide +kernel, rfl⟩
theorem d_Md_kindsOf_160 : dd m_Md_kindsOf 160 (.iload 8) 2 162 := ⟨by decide +kernel, rfl⟩
theorem d_Md_kindsOf_162 : dd m_Md_kindsOf 162 .i2l 1 163 := ⟨by decide +kernel, rfl⟩
theorem d_Md_kindsOf_163 : dd m_Md_kindsOf 163 (.lconst 1) 1 164 := ⟨by decide +kernel, rfl⟩
theorem d_Md_kindsOf_164 : dd m_Md_kindsOf 164 .ladd 1 165 := ⟨by decide +kernel, rfl⟩
theorem d_Md_kindsOf_165 : dd m_Md_kindsOf 165 (.aload_n 0) 1 166 := ⟨by decide +kernel, rfl⟩
theorem d_Md_kindsOf_166 : dd m_Md_kindsOf 166 (.getfield 75) 3 169 := ⟨by decide +kernel, rfl⟩
theorem d_Md_kindsOf_169 : dd m_Md_kindsOf 169 (.iload 8) 2 171 := ⟨by decide +kernel, rfl⟩
theorem d_Md_kindsOf_171 : dd m_Md_kindsOf 171 (.iconst 1) 1 172 := ⟨by decide +kernel, rfl⟩
theorem d_Md_kindsOf_172 : dd m_Md_kindsOf 172 .iadd 1 173 := ⟨by decide +kernel, rfl⟩
theorem d_Md_kindsOf_173 : dd m_Md_kindsOf 173 .iaload 1 174 := ⟨by decide +kernel, rfl⟩
theorem d_Md_kindsOf_174 : dd m_Md_kindsOf 174 .i2l 1 175 := ⟨by decide +kernel, rfl⟩
theorem d_Md_kindsOf_175 : dd m_Md_kindsOf 175 .lmul 1 176 := ⟨by decide +kernel, rfl⟩
theorem d_Md_kindsOf_176 : dd m_Md_kindsOf 176 (.invokestatic 109) 3 179 := ⟨by decide +kernel, rfl⟩
theorem d_Md_kindsOf_179 : db m_Md_kindsOf 179 (.if_icmp .ne) 182 186 := ⟨7, by decide +kernel, rfl, rfl⟩
theorem d_Md_kindsOf_182 : dd m_Md_kindsOf 182 (.iconst 1) 1 183 := ⟨by decide +kernel, rfl⟩
theorem d_Md_kindsOf_183 : db m_Md_kindsOf 183 .goto 186 187 := ⟨4, by decide +kernel, rfl, rfl⟩
theorem d_Md_kindsOf_186 : dd m_Md_kindsOf 186 (.iconst 0) 1 187 := ⟨by decide +kernel, rfl⟩
theorem d_Md_kindsOf_187 : dd m_Md_kindsOf 187 (.istore 6) 2 189 := ⟨by decide +kernel, rfl⟩
theorem d_Md_kindsOf_189 : dd m_Md_kindsOf 189 (.iconst 0) 1 190 := ⟨by decide +kernel, rfl⟩
theorem d_Md_kindsOf_190 : dd m_Md_kindsOf 190 (.istore 9) 2 192 := ⟨by decide +kernel, rfl⟩
theorem d_Md_kindsOf_192 : dd m_Md_kindsOf 192 (.iload 9) 2 194 := ⟨by decide +kernel, rfl⟩
theorem d_Md_kindsOf_194 : dd m_Md_kindsOf 194 (.iload_n 2) 1 195 := ⟨by decide +kernel, rfl⟩
theorem d_Md_kindsOf_195 : db m_Md_kindsOf 195 (.if_icmp .ge) 198 242 := ⟨47, by decide +kernel, rfl, rfl⟩
theorem d_Md_kindsOf_198 : dd m_Md_kindsOf 198 (.iload 7) 2 200 := ⟨by decide +kernel, rfl⟩
theorem d_Md_kindsOf_200 : db m_Md_kindsOf 200 (.ifCond .eq) 203 233 := ⟨33, by decide +kernel, rfl, rfl⟩
theorem d_Md_kindsOf_203 : dd m_Md_kindsOf 203 (.iload 8) 2 205 := ⟨by decide +kernel, rfl⟩
theorem d_Md_kindsOf_205 : dd m_Md_kindsOf 205 (.iload 9) 2 207 := ⟨by decide +kernel, rfl⟩
theorem d_Md_kindsOf_207 : dd m_Md_kindsOf 207 .iadd 1 208 := ⟨by decide +kernel, rfl⟩
theorem d_Md_kindsOf_208 : dd m_Md_kindsOf 208 (.iconst 2) 1 209 := ⟨by decide +kernel, rfl⟩
theorem d_Md_kindsOf_209 : dd m_Md_kindsOf 209 .irem 1 210 := ⟨by decide +kernel, rfl⟩
theorem d_Md_kindsOf_210 : db m_Md_kindsOf 210 (.ifCond .eq) 213 229 := ⟨19, by decide +kernel, rfl, rfl⟩
theorem d_Md_kindsOf_213 : dd m_Md_kindsOf 213 (.aload_n 0) 1 214 := ⟨by decide +kernel, rfl⟩
theorem d_Md_kindsOf_214 : dd m_Md_kindsOf 214 (.getfield 87) 3 217 := ⟨by decide +kernel, rfl⟩
theorem d_Md_kindsOf_217 : dd m_Md_kindsOf 217 (.bipush 10) 2 219 := ⟨by decide +kernel, rfl⟩
theorem d_Md_kindsOf_219 : dd m_Md_kindsOf 219 (.iload 8) 2 221 := ⟨by decide +kernel, rfl⟩
theorem d_Md_kindsOf_221 : dd m_Md_kindsOf 221 .imul 1 222 := ⟨by decide +kernel, rfl⟩
theorem d_Md_kindsOf_222 : dd m_Md_kindsOf 222 (.iload 9) 2 224 := ⟨by decide +kernel, rfl⟩
theorem d_Md_kindsOf_224 : dd m_Md_kindsOf 224 .iadd 1 225 := ⟨by decide +kernel, rfl⟩
theorem d_Md_kindsOf_225 : dd m_Md_kindsOf 225 .iaload 1 226 := ⟨by decide +kernel, rfl⟩
theorem d_Md_kindsOf_226 : db m_Md_kindsOf 226 (.ifCond .ne) 229 233 := ⟨7, by decide +kernel, rfl, rfl⟩
theorem d_Md_kindsOf_229 : dd m_Md_kindsOf 229 (.iconst 1) 1 230 := ⟨by decide +kernel, rfl⟩
theorem d_Md_kindsOf_230 : db m_Md_kindsOf 230 .goto 233 234 := ⟨4, by decide +kernel, rfl, rfl⟩
theorem d_Md_kindsOf_233 : dd m_Md_kindsOf 233 (.iconst 0) 1 234 := ⟨by decide +kernel, rfl⟩
theorem d_Md_kindsOf_234 : dd m_Md_kindsOf 234 (.istore 7) 2 236 := ⟨by decide +kernel, rfl⟩
theorem d_Md_kindsOf_236 : dd m_Md_kindsOf 236 (.iinc 9 1) 3 239 := ⟨by decide +kernel, rfl⟩
theorem d_Md_kindsOf_239 : db m_Md_kindsOf 239 .goto 242 192 := ⟨(-47), by decide +kernel, rfl, rfl⟩
theorem d_Md_kindsOf_242 : dd m_Md_kindsOf 242 (.iinc 8 1) 3 245 := ⟨by decide +kernel, rfl⟩
theorem d_Md_kindsOf_245 : db m_Md_kindsOf 245 .goto 248 31 := ⟨(-214), by decide +kernel, rfl, rfl⟩
theorem d_Md_kindsOf_248 : dd m_Md_kindsOf 248 (.aload_n 0) 1 249 := ⟨by decide +kernel, rfl⟩
theorem d_Md_kindsOf_249 : dd m_Md_kindsOf 249 (.getfield 87) 3 252 := ⟨by decide +kernel, rfl⟩
theorem d_Md_kindsOf_252 : dd m_Md_kindsOf 252 (.aload_n 0) 1 253 := ⟨by decide +kernel, rfl⟩
theorem d_Md_kindsOf_253 : dd m_Md_kindsOf 253 (.getfield 87) 3 256 := ⟨by decide +kernel, rfl⟩
theorem d_Md_kindsOf_256 : dd m_Md_kindsOf 256 (.aload_n 0) 1 257 := ⟨by decide +kernel, rfl⟩
theorem d_Md_kindsOf_257 : dd m_Md_kindsOf 257 (.getfield 90) 3 260 := ⟨by decide +kernel, rfl⟩
theorem d_Md_kindsOf_260 : dd m_Md_kindsOf 260 (.iload_n 2) 1 261 := ⟨by decide +kernel, rfl⟩
theorem d_Md_kindsOf_261 : dd m_Md_kindsOf 261 (.invokestatic 231) 3 264 := ⟨by decide +kernel, rfl⟩
theorem d_Md_kindsOf_264 : dd m_Md_kindsOf 264 (.aload_n 0) 1 265 := ⟨by decide +kernel, rfl⟩
theorem d_Md_kindsOf_265 : dd m_Md_kindsOf 265 (.getfield 93) 3 268 := ⟨by decide +kernel, rfl⟩
theorem d_Md_kindsOf_268 : dd m_Md_kindsOf 268 (.invokestatic 207) 3 271 := ⟨by decide +kernel, rfl⟩
theorem d_Md_kindsOf_271 : dd m_Md_kindsOf 271 (.aload_n 0) 1 272 := ⟨by decide +kernel, rfl⟩
theorem d_Md_kindsOf_272 : dd m_Md_kindsOf 272 (.aload_n 0) 1 273 := ⟨by decide +kernel, rfl⟩
theorem d_Md_kindsOf_273 : dd m_Md_kindsOf 273 (.getfield 90) 3 276 := ⟨by decide +kernel, rfl⟩
theorem d_Md_kindsOf_276 : dd m_Md_kindsOf 276 (.aload_n 0) 1 277 := ⟨by decide +kernel, rfl⟩
theorem d_Md_kindsOf_277 : dd m_Md_kindsOf 277 (.getfield 93) 3 280 := ⟨by decide +kernel, rfl⟩
theorem d_Md_kindsOf_280 : dd m_Md_kindsOf 280 (.invokevirtual 237) 3 283 := ⟨by decide +kernel, rfl⟩
theorem d_Md_kindsOf_283 : dd m_Md_kindsOf 283 (.iconst (-1)) 1 284 := ⟨by decide +kernel, rfl⟩
theorem d_Md_kindsOf_284 : db m_Md_kindsOf 284 (.if_icmp .ne) 287 291 := ⟨7, by decide +kernel, rfl, rfl⟩
theorem d_Md_kindsOf_287 : dd m_Md_kindsOf 287 (.iconst 1) 1 288 := ⟨by decide +kernel, rfl⟩
theorem d_Md_kindsOf_288 : db m_Md_kindsOf 288 .goto 291 292 := ⟨4, by decide +kernel, rfl, rfl⟩
theorem d_Md_kindsOf_291 : dd m_Md_kindsOf 291 (.iconst 0) 1 292 := ⟨by decide +kernel, rfl⟩
theorem d_Md_kindsOf_292 : dd m_Md_kindsOf 292 (.istore 8) 2 294 := ⟨by decide +kernel, rfl⟩
theorem d_Md_kindsOf_294 : dd m_Md_kindsOf 294 (.iload_n 3) 1 295 := ⟨by decide +kernel, rfl⟩
theorem d_Md_kindsOf_295 : db m_Md_kindsOf 295 (.ifCond .eq) 298 302 := ⟨7, by decide +kernel, rfl, rfl⟩
theorem d_Md_kindsOf_298 : dd m_Md_kindsOf 298 (.iconst 1) 1 299 := ⟨by decide +kernel, rfl⟩
theorem d_Md_kindsOf_299 : db m_Md_kindsOf 299 .goto 302 303 := ⟨4, by decide +kernel, rfl, rfl⟩
theorem d_Md_kindsOf_302 : dd m_Md_kindsOf 302 (.iconst 0) 1 303 := ⟨by decide +kernel, rfl⟩
theorem d_Md_kindsOf_303 : dd m_Md_kindsOf 303 (.iload 4) 2 305 := ⟨by decide +kernel, rfl⟩
theorem d_Md_kindsOf_305 : db m_Md_kindsOf 305 (.ifCond .eq) 308 312 := ⟨7, by decide +kernel, rfl, rfl⟩
theorem d_Md_kindsOf_308 : dd m_Md_kindsOf 308 (.iconst 2) 1 309 := ⟨by decide +kernel, rfl⟩
theorem d_Md_kindsOf_309 : db m_Md_kindsOf 309 .goto 312 313 := ⟨4, by decide +kernel, rfl, rfl⟩
theorem d_Md_kindsOf_312 : dd m_Md_kindsOf 312 (.iconst 0) 1 313 := ⟨by decide +kernel, rfl⟩
theorem d_Md_kindsOf_313 : dd m_Md_kindsOf 313 .iadd 1 314 := ⟨by decide +kernel, rfl⟩
theorem d_Md_kindsOf_314 : dd m_Md_kindsOf 314 (.iload 5) 2 316 := ⟨by decide +kernel, rfl⟩
theorem d_Md_kindsOf_316 : db m_Md_kindsOf 316 (.ifCond .eq) 319 323 := ⟨7, by decide +kernel, rfl, rfl⟩
theorem d_Md_kindsOf_319 : dd m_Md_kindsOf 319 (.iconst 4) 1 320 := ⟨by decide +kernel, rfl⟩
theorem d_Md_kindsOf_320 : db m_Md_kindsOf 320 .goto 323 324 := ⟨4, by decide +kernel, rfl, rfl⟩
theorem d_Md_kindsOf_323 : dd m_Md_kindsOf 323 (.iconst 0) 1 324 := ⟨by decide +kernel, rfl⟩
theorem d_Md_kindsOf_324 : dd m_Md_kindsOf 324 .iadd 1 325 := ⟨by decide +kernel, rfl⟩
theorem d_Md_kindsOf_325 : dd m_Md_kindsOf 325 (.iload 6) 2 327 := ⟨by decide +kernel, rfl⟩
theorem d_Md_kindsOf_327 : db m_Md_kindsOf 327 (.ifCond .eq) 330 335 := ⟨8, by decide +kernel, rfl, rfl⟩
theorem d_Md_kindsOf_330 : dd m_Md_kindsOf 330 (.bipush 8) 2 332 := ⟨by decide +kernel, rfl⟩
theorem d_Md_kindsOf_332 : db m_Md_kindsOf 332 .goto 335 336 := ⟨4, by decide +kernel, rfl, rfl⟩
theorem d_Md_kindsOf_335 : dd m_Md_kindsOf 335 (.iconst 0) 1 336 := ⟨by decide +kernel, rfl⟩
theorem d_Md_kindsOf_336 : dd m_Md_kindsOf 336 .iadd 1 337 := ⟨by decide +kernel, rfl⟩
theorem d_Md_kindsOf_337 : dd m_Md_kindsOf 337 (.iload 7) 2 339 := ⟨by decide +kernel, rfl⟩
theorem d_Md_kindsOf_339 : db m_Md_kindsOf 339 (.ifCond .eq) 342 347 := ⟨8, by decide +kernel, rfl, rfl⟩
theorem d_Md_kindsOf_342 : dd m_Md_kindsOf 342 (.bipush 16) 2 344 := ⟨by decide +kernel, rfl⟩
theorem d_Md_kindsOf_344 : db m_Md_kindsOf 344 .goto 347 348 := ⟨4, by decide +kernel, rfl, rfl⟩
theorem d_Md_kindsOf_347 : dd m_Md_kindsOf 347 (.iconst 0) 1 348 := ⟨by decide +kernel, rfl⟩
theorem d_Md_kindsOf_348 : dd m_Md_kindsOf 348 .iadd 1 349 := ⟨by decide +kernel, rfl⟩
theorem d_Md_kindsOf_349 : dd m_Md_kindsOf 349 (.iload 8) 2 351 := ⟨by decide +kernel, rfl⟩
theorem d_Md_kindsOf_351 : db m_Md_kindsOf 351 (.ifCond .eq) 354 359 := ⟨8, by decide +kernel, rfl, rfl⟩
theorem d_Md_kindsOf_354 : dd m_Md_kindsOf 354 (.bipush 32) 2 356 := ⟨by decide +kernel, rfl⟩
theorem d_Md_kindsOf_356 : db m_Md_kindsOf 356 .goto 359 360 := ⟨4, by decide +kernel, rfl, rfl⟩
theorem d_Md_kindsOf_359 : dd m_Md_kindsOf 359 (.iconst 0) 1 360 := ⟨by decide +kernel, rfl⟩
theorem d_Md_kindsOf_360 : dd m_Md_kindsOf 360 .iadd 1 361 := ⟨by decide +kernel, rfl⟩
theorem d_Md_kindsOf_361 : decode (mbt m_Md_kindsOf) 361 = .ok (.ireturn, 1) := by decide +kernel
theorem d_Md_unlikeAt_0 : dd m_Md_unlikeAt 0 (.iconst 0) 1 1 := ⟨by decide +kernel, rfl⟩
theorem d_Md_unlikeAt_1 : dd m_Md_unlikeAt 1 (.istore_n 3) 1 2 := ⟨by decide +kernel, rfl⟩
theorem d_Md_unlikeAt_2 : dd m_Md_unlikeAt 2 (.iload_n 3) 1 3 := ⟨by decide +kernel, rfl⟩
theorem d_Md_unlikeAt_3 : dd m_Md_unlikeAt 3 (.aload_n 0) 1 4 := ⟨by decide +kernel, rfl⟩
theorem d_Md_unlikeAt_4 : dd m_Md_unlikeAt 4 (.invokevirtual 173) 3 7 := ⟨by decide +kernel, rfl⟩
theorem d_Md_unlikeAt_7 : db m_Md_unlikeAt 7 (.if_icmp .ge) 10 63 := ⟨56, by decide +kernel, rfl, rfl⟩
theorem d_Md_unlikeAt_10 : dd m_Md_unlikeAt 10 (.iconst 0) 1 11 := ⟨by decide +kernel, rfl⟩
theorem d_Md_unlikeAt_11 : dd m_Md_unlikeAt 11 (.istore 4) 2 13 := ⟨by decide +kernel, rfl⟩
theorem d_Md_unlikeAt_13 : dd m_Md_unlikeAt 13 (.iload 4) 2 15 := ⟨by decide +kernel, rfl⟩
theorem d_Md_unlikeAt_15 : dd m_Md_unlikeAt 15 (.aload_n 0) 1 16 := ⟨by decide +kernel, rfl⟩
theorem d_Md_unlikeAt_16 : dd m_Md_unlikeAt 16 (.invokevirtual 173) 3 19 := ⟨by decide +kernel, rfl⟩
theorem d_Md_unlikeAt_19 : db m_Md_unlikeAt 19 (.if_icmp .ge) 22 57 := ⟨38, by decide +kernel, rfl, rfl⟩
theorem d_Md_unlikeAt_22 : dd m_Md_unlikeAt 22 (.aload_n 1) 1 23 := ⟨by decide +kernel, rfl⟩
theorem d_Md_unlikeAt_23 : dd m_Md_unlikeAt 23 (.bipush 10) 2 25 := ⟨by decide +kernel, rfl⟩
theorem d_Md_unlikeAt_25 : dd m_Md_unlikeAt 25 (.iload_n 3) 1 26 := ⟨by decide +kernel, rfl⟩
theorem d_Md_unlikeAt_26 : dd m_Md_unlikeAt 26 .imul 1 27 := ⟨by decide +kernel, rfl⟩
theorem d_Md_unlikeAt_27 : dd m_Md_unlikeAt 27 (.iload 4) 2 29 := ⟨by decide +kernel, rfl⟩
theorem d_Md_unlikeAt_29 : dd m_Md_unlikeAt 29 .iadd 1 30 := ⟨by decide +kernel, rfl⟩
theorem d_Md_unlikeAt_30 : dd m_Md_unlikeAt 30 .iaload 1 31 := ⟨by decide +kernel, rfl⟩
theorem d_Md_unlikeAt_31 : dd m_Md_unlikeAt 31 (.aload_n 2) 1 32 := ⟨by decide +kernel, rfl⟩
theorem d_Md_unlikeAt_32 : dd m_Md_unlikeAt 32 (.bipush 10) 2 34 := ⟨by decide +kernel, rfl⟩
theorem d_Md_unlikeAt_34 : dd m_Md_unlikeAt 34 (.iload_n 3) 1 35 := ⟨by decide +kernel, rfl⟩
theorem d_Md_unlikeAt_35 : dd m_Md_unlikeAt 35 .imul 1 36 := ⟨by decide +kernel, rfl⟩
theorem d_Md_unlikeAt_36 : dd m_Md_unlikeAt 36 (.iload 4) 2 38 := ⟨by decide +kernel, rfl⟩
theorem d_Md_unlikeAt_38 : dd m_Md_unlikeAt 38 .iadd 1 39 := ⟨by decide +kernel, rfl⟩
theorem d_Md_unlikeAt_39 : dd m_Md_unlikeAt 39 .iaload 1 40 := ⟨by decide +kernel, rfl⟩
theorem d_Md_unlikeAt_40 : db m_Md_unlikeAt 40 (.if_icmp .eq) 43 51 := ⟨11, by decide +kernel, rfl, rfl⟩
theorem d_Md_unlikeAt_43 : dd m_Md_unlikeAt 43 (.bipush 10) 2 45 := ⟨by decide +kernel, rfl⟩
theorem d_Md_unlikeAt_45 : dd m_Md_unlikeAt 45 (.iload_n 3) 1 46 := ⟨by decide +kernel, rfl⟩
theorem d_Md_unlikeAt_46 : dd m_Md_unlikeAt 46 .imul 1 47 := ⟨by decide +kernel, rfl⟩
theorem d_Md_unlikeAt_47 : dd m_Md_unlikeAt 47 (.iload 4) 2 49 := ⟨by decide +kernel, rfl⟩
theorem d_Md_unlikeAt_49 : dd m_Md_unlikeAt 49 .iadd 1 50 := ⟨by decide +kernel, rfl⟩
theorem d_Md_unlikeAt_50 : decode (mbt m_Md_unlikeAt) 50 = .ok (.ireturn, 1) := by decide +kernel
theorem d_Md_unlikeAt_51 : dd m_Md_unlikeAt 51 (.iinc 4 1) 3 54 := ⟨by decide +kernel, rfl⟩
theorem d_Md_unlikeAt_54 : db m_Md_unlikeAt 54 .goto 57 13 := ⟨(-41), by decide +kernel, rfl, rfl⟩
theorem d_Md_unlikeAt_57 : dd m_Md_unlikeAt 57 (.iinc 3 1) 3 60 := ⟨by decide +kernel, rfl⟩
theorem d_Md_unlikeAt_60 : db m_Md_unlikeAt 60 .goto 63 2 := ⟨(-58), by decide +kernel, rfl, rfl⟩
theorem d_Md_unlikeAt_63 : dd m_Md_unlikeAt 63 (.iconst (-1)) 1 64 := ⟨by decide +kernel, rfl⟩
theorem d_Md_unlikeAt_64 : decode (mbt m_Md_unlikeAt) 64 = .ok (.ireturn, 1) := by decide +kernel
theorem d_Md_differ_0 : dd m_Md_differ 0 (.aload_n 0) 1 1 := ⟨by decide +kernel, rfl⟩
theorem d_Md_differ_1 : dd m_Md_differ 1 (.iconst 0) 1 2 := ⟨by decide +kernel, rfl⟩
theorem d_Md_differ_2 : dd m_Md_differ 2 (.putfield 1) 3 5 := ⟨by decide +kernel, rfl⟩
theorem d_Md_differ_5 : dd m_Md_differ 5 (.aload_n 0) 1 6 := ⟨by decide +kernel, rfl⟩
theorem d_Md_differ_6 : dd m_Md_differ 6 (.iload_n 1) 1 7 := ⟨by decide +kernel, rfl⟩
theorem d_Md_differ_7 : dd m_Md_differ 7 (.invokevirtual 218) 3 10 := ⟨by decide +kernel, rfl⟩
theorem d_Md_differ_10 : db m_Md_differ 10 (.ifCond .eq) 13 30 := ⟨20, by decide +kernel, rfl, rfl⟩
theorem d_Md_differ_13 : dd m_Md_differ 13 (.aload_n 0) 1 14 := ⟨by decide +kernel, rfl⟩
theorem d_Md_differ_14 : dd m_Md_differ 14 (.iload_n 2) 1 15 := ⟨by decide +kernel, rfl⟩
theorem d_Md_differ_15 : dd m_Md_differ 15 (.invokevirtual 218) 3 18 := ⟨by decide +kernel, rfl⟩
theorem d_Md_differ_18 : db m_Md_differ 18 (.ifCond .eq) 21 30 := ⟨12, by decide +kernel, rfl, rfl⟩
theorem d_Md_differ_21 : dd m_Md_differ 21 (.iload_n 3) 1 22 := ⟨by decide +kernel, rfl⟩
theorem d_Md_differ_22 : dd m_Md_differ 22 (.iconst 0) 1 23 := ⟨by decide +kernel, rfl⟩
theorem d_Md_differ_23 : dd m_Md_differ 23 (.iconst 1) 1 24 := ⟨by decide +kernel, rfl⟩
theorem d_Md_differ_24 : dd m_Md_differ 24 (.invokestatic 118) 3 27 := ⟨by decide +kernel, rfl⟩
theorem d_Md_differ_27 : db m_Md_differ 27 (.ifCond .ne) 30 32 := ⟨5, by decide +kernel, rfl, rfl⟩
theorem d_Md_differ_30 : dd m_Md_differ 30 (.iconst (-1)) 1 31 := ⟨by decide +kernel, rfl⟩
theorem d_Md_differ_31 : decode (mbt m_Md_differ) 31 = .ok (.ireturn, 1) := by decide +kernel
theorem d_Md_differ_32 : dd m_Md_differ 32 (.aload_n 0) 1 33 := ⟨by decide +kernel, rfl⟩
theorem d_Md_differ_33 : dd m_Md_differ 33 (.iload_n 1) 1 34 := ⟨by decide +kernel, rfl⟩
theorem d_Md_differ_34 : dd m_Md_differ 34 (.aload_n 0) 1 35 := ⟨by decide +kernel, rfl⟩
theorem d_Md_differ_35 : dd m_Md_differ 35 (.getfield 87) 3 38 := ⟨by decide +kernel, rfl⟩
theorem d_Md_differ_38 : dd m_Md_differ 38 (.invokevirtual 228) 3 41 := ⟨by decide +kernel, rfl⟩
theorem d_Md_differ_41 : dd m_Md_differ 41 (.aload_n 0) 1 42 := ⟨by decide +kernel, rfl⟩
theorem d_Md_differ_42 : dd m_Md_differ 42 (.iload_n 2) 1 43 := ⟨by decide +kernel, rfl⟩
theorem d_Md_differ_43 : dd m_Md_differ 43 (.aload_n 0) 1 44 := ⟨by decide +kernel, rfl⟩
theorem d_Md_differ_44 : dd m_Md_differ 44 (.getfield 90) 3 47 := ⟨by decide +kernel, rfl⟩
theorem d_Md_differ_47 : dd m_Md_differ 47 (.invokevirtual 228) 3 50 := ⟨by decide +kernel, rfl⟩
theorem d_Md_differ_50 : dd m_Md_differ 50 (.iload_n 3) 1 51 := ⟨by decide +kernel, rfl⟩
theorem d_Md_differ_51 : db m_Md_differ 51 (.ifCond .ne) 54 67 := ⟨16, by decide +kernel, rfl, rfl⟩
theorem d_Md_differ_54 : dd m_Md_differ 54 (.aload_n 0) 1 55 := ⟨by decide +kernel, rfl⟩
theorem d_Md_differ_55 : dd m_Md_differ 55 (.aload_n 0) 1 56 := ⟨by decide +kernel, rfl⟩
theorem d_Md_differ_56 : dd m_Md_differ 56 (.getfield 87) 3 59 := ⟨by decide +kernel, rfl⟩
theorem d_Md_differ_59 : dd m_Md_differ 59 (.aload_n 0) 1 60 := ⟨by decide +kernel, rfl⟩
theorem d_Md_differ_60 : dd m_Md_differ 60 (.getfield 90) 3 63 := ⟨by decide +kernel, rfl⟩
theorem d_Md_differ_63 : dd m_Md_differ 63 (.invokevirtual 237) 3 66 := ⟨by decide +kernel, rfl⟩
theorem d_Md_differ_66 : decode (mbt m_Md_differ) 66 = .ok (.ireturn, 1) := by decide +kernel
theorem d_Md_differ_67 : dd m_Md_differ 67 (.aload_n 0) 1 68 := ⟨by decide +kernel, rfl⟩
theorem d_Md_differ_68 : dd m_Md_differ 68 (.getfield 87) 3 71 := ⟨by decide +kernel, rfl⟩
theorem d_Md_differ_71 : dd m_Md_differ 71 (.aload_n 0) 1 72 := ⟨by decide +kernel, rfl⟩
theorem d_Md_differ_72 : dd m_Md_differ 72 (.getfield 90) 3 75 := ⟨by decide +kernel, rfl⟩
theorem d_Md_differ_75 : dd m_Md_differ 75 (.aload_n 0) 1 76 := ⟨by decide +kernel, rfl⟩
theorem d_Md_differ_76 : dd m_Md_differ 76 (.getfield 93) 3 79 := ⟨by decide +kernel, rfl⟩
theorem d_Md_differ_79 : dd m_Md_differ 79 (.aload_n 0) 1 80 := ⟨by decide +kernel, rfl⟩
theorem d_Md_differ_80 : dd m_Md_differ 80 (.invokevirtual 173) 3 83 := ⟨by decide +kernel, rfl⟩
theorem d_Md_differ_83 : dd m_Md_differ 83 (.invokestatic 231) 3 86 := ⟨by decide +kernel, rfl⟩
theorem d_Md_differ_86 : dd m_Md_differ 86 (.aload_n 0) 1 87 := ⟨by decide +kernel, rfl⟩
theorem d_Md_differ_87 : dd m_Md_differ 87 (.getfield 90) 3 90 := ⟨by decide +kernel, rfl⟩
theorem d_Md_differ_90 : dd m_Md_differ 90 (.aload_n 0) 1 91 := ⟨by decide +kernel, rfl⟩
theorem d_Md_differ_91 : dd m_Md_differ 91 (.getfield 87) 3 94 := ⟨by decide +kernel, rfl⟩
theorem d_Md_differ_94 : dd m_Md_differ 94 (.aload_n 0) 1 95 := ⟨by decide +kernel, rfl⟩
theorem d_Md_differ_95 : dd m_Md_differ 95 (.getfield 96) 3 98 := ⟨by decide +kernel, rfl⟩
theorem d_Md_differ_98 : dd m_Md_differ 98 (.aload_n 0) 1 99 := ⟨by decide +kernel, rfl⟩
theorem d_Md_differ_99 : dd m_Md_differ 99 (.invokevirtual 173) 3 102 := ⟨by decide +kernel, rfl⟩
theorem d_Md_differ_102 : dd m_Md_differ 102 (.invokestatic 231) 3 105 := ⟨by decide +kernel, rfl⟩
theorem d_Md_differ_105 : dd m_Md_differ 105 (.aload_n 0) 1 106 := ⟨by decide +kernel, rfl⟩
theorem d_Md_differ_106 : dd m_Md_differ 106 (.aload_n 0) 1 107 := ⟨by decide +kernel, rfl⟩
theorem d_Md_differ_107 : dd m_Md_differ 107 (.getfield 93) 3 110 := ⟨by decide +kernel, rfl⟩
theorem d_Md_differ_110 : dd m_Md_differ 110 (.aload_n 0) 1 111 := ⟨by decide +kernel, rfl⟩
theorem d_Md_differ_111 : dd m_Md_differ 111 (.getfield 96) 3 114 := ⟨by decide +kernel, rfl⟩
theorem d_Md_differ_114 : dd m_Md_differ 114 (.invokevirtual 237) 3 117 := ⟨by decide +kernel, rfl⟩
theorem d_Md_differ_117 : decode (mbt m_Md_differ) 117 = .ok (.ireturn, 1) := by decide +kernel
theorem d_Md_fails_0 : dd m_Md_fails 0 (.aload_n 0) 1 1 := ⟨by decide +kernel, rfl⟩
theorem d_Md_fails_1 : dd m_Md_fails 1 (.iconst 0) 1 2 := ⟨by decide +kernel, rfl⟩
theorem d_Md_fails_2 : dd m_Md_fails 2 (.putfield 1) 3 5 := ⟨by decide +kernel, rfl⟩
theorem d_Md_fails_5 : dd m_Md_fails 5 (.aload_n 0) 1 6 := ⟨by decide +kernel, rfl⟩
theorem d_Md_fails_6 : dd m_Md_fails 6 (.iload_n 1) 1 7 := ⟨by decide +kernel, rfl⟩
theorem d_Md_fails_7 : dd m_Md_fails 7 (.invokevirtual 218) 3 10 := ⟨by decide +kernel, rfl⟩
theorem d_Md_fails_10 : db m_Md_fails 10 (.ifCond .eq) 13 29 := ⟨19, by decide +kernel, rfl, rfl⟩
theorem d_Md_fails_13 : dd m_Md_fails 13 (.aload_n 0) 1 14 := ⟨by decide +kernel, rfl⟩
theorem d_Md_fails_14 : dd m_Md_fails 14 (.iload_n 2) 1 15 := ⟨by decide +kernel, rfl⟩
theorem d_Md_fails_15 : dd m_Md_fails 15 (.invokevirtual 180) 3 18 := ⟨by decide +kernel, rfl⟩
theorem d_Md_fails_18 : db m_Md_fails 18 (.ifCond .eq) 21 29 := ⟨11, by decide +kernel, rfl, rfl⟩
theorem d_Md_fails_21 : dd m_Md_fails 21 (.aload_n 0) 1 22 := ⟨by decide +kernel, rfl⟩
theorem d_Md_fails_22 : dd m_Md_fails 22 (.iload_n 3) 1 23 := ⟨by decide +kernel, rfl⟩
theorem d_Md_fails_23 : dd m_Md_fails 23 (.invokevirtual 180) 3 26 := ⟨by decide +kernel, rfl⟩
theorem d_Md_fails_26 : db m_Md_fails 26 (.ifCond .ne) 29 31 := ⟨5, by decide +kernel, rfl, rfl⟩
theorem d_Md_fails_29 : dd m_Md_fails 29 (.iconst (-1)) 1 30 := ⟨by decide +kernel, rfl⟩
theorem d_Md_fails_30 : decode (mbt m_Md_fails) 30 = .ok (.ireturn, 1) := by decide +kernel
theorem d_Md_fails_31 : dd m_Md_fails 31 (.aload_n 0) 1 32 := ⟨by decide +kernel, rfl⟩
theorem d_Md_fails_32 : dd m_Md_fails 32 (.iload_n 1) 1 33 := ⟨by decide +kernel, rfl⟩
theorem d_Md_fails_33 : dd m_Md_fails 33 (.aload_n 0) 1 34 := ⟨by decide +kernel, rfl⟩
theorem d_Md_fails_34 : dd m_Md_fails 34 (.getfield 87) 3 37 := ⟨by decide +kernel, rfl⟩
theorem d_Md_fails_37 : dd m_Md_fails 37 (.invokevirtual 228) 3 40 := ⟨by decide +kernel, rfl⟩
theorem d_Md_fails_40 : dd m_Md_fails 40 (.aload_n 0) 1 41 := ⟨by decide +kernel, rfl⟩
theorem d_Md_fails_41 : dd m_Md_fails 41 (.iconst 1) 1 42 := ⟨by decide +kernel, rfl⟩
theorem d_Md_fails_42 : dd m_Md_fails 42 (.bipush 10) 2 44 := ⟨by decide +kernel, rfl⟩
theorem d_Md_fails_44 : dd m_Md_fails 44 (.iload_n 2) 1 45 := ⟨by decide +kernel, rfl⟩
theorem d_Md_fails_45 : dd m_Md_fails 45 .imul 1 46 := ⟨by decide +kernel, rfl⟩
theorem d_Md_fails_46 : dd m_Md_fails 46 .iadd 1 47 := ⟨by decide +kernel, rfl⟩
theorem d_Md_fails_47 : dd m_Md_fails 47 (.aload_n 0) 1 48 := ⟨by decide +kernel, rfl⟩
theorem d_Md_fails_48 : dd m_Md_fails 48 (.getfield 72) 3 51 := ⟨by decide +kernel, rfl⟩
theorem d_Md_fails_51 : dd m_Md_fails 51 (.invokevirtual 189) 3 54 := ⟨by decide +kernel, rfl⟩
theorem d_Md_fails_54 : dd m_Md_fails 54 (.aload_n 0) 1 55 := ⟨by decide +kernel, rfl⟩
theorem d_Md_fails_55 : dd m_Md_fails 55 (.aload_n 0) 1 56 := ⟨by decide +kernel, rfl⟩
theorem d_Md_fails_56 : dd m_Md_fails 56 (.getfield 87) 3 59 := ⟨by decide +kernel, rfl⟩
theorem d_Md_fails_59 : dd m_Md_fails 59 (.aload_n 0) 1 60 := ⟨by decide +kernel, rfl⟩
theorem d_Md_fails_60 : dd m_Md_fails 60 (.getfield 72) 3 63 := ⟨by decide +kernel, rfl⟩
theorem d_Md_fails_63 : dd m_Md_fails 63 (.aload_n 0) 1 64 := ⟨by decide +kernel, rfl⟩
theorem d_Md_fails_64 : dd m_Md_fails 64 (.getfield 78) 3 67 := ⟨by decide +kernel, rfl⟩
theorem d_Md_fails_67 : dd m_Md_fails 67 (.invokevirtual 200) 3 70 := ⟨by decide +kernel, rfl⟩
theorem d_Md_fails_70 : dd m_Md_fails 70 (.iconst 0) 1 71 := ⟨by decide +kernel, rfl⟩
theorem d_Md_fails_71 : dd m_Md_fails 71 (.istore 4) 2 73 := ⟨by decide +kernel, rfl⟩
theorem d_Md_fails_73 : dd m_Md_fails 73 (.iload 4) 2 75 := ⟨by decide +kernel, rfl⟩
theorem d_Md_fails_75 : dd m_Md_fails 75 (.aload_n 0) 1 76 := ⟨by decide +kernel, rfl⟩
theorem d_Md_fails_76 : dd m_Md_fails 76 (.invokevirtual 173) 3 79 := ⟨by decide +kernel, rfl⟩
theorem d_Md_fails_79 : db m_Md_fails 79 (.if_icmp .ge) 82 115 := ⟨36, by decide +kernel, rfl, rfl⟩
theorem d_Md_fails_82 : dd m_Md_fails 82 (.aload_n 0) 1 83 := ⟨by decide +kernel, rfl⟩
theorem d_Md_fails_83 : dd m_Md_fails 83 (.getfield 78) 3 86 := ⟨by decide +kernel, rfl⟩
theorem d_Md_fails_86 : dd m_Md_fails 86 (.iload 4) 2 88 := ⟨by decide +kernel, rfl⟩
theorem d_Md_fails_88 : dd m_Md_fails 88 .iaload 1 89 := ⟨by decide +kernel, rfl⟩
theorem d_Md_fails_89 : dd m_Md_fails 89 (.aload_n 0) 1 90 := ⟨by decide +kernel, rfl⟩
theorem d_Md_fails_90 : dd m_Md_fails 90 (.getfield 56) 3 93 := ⟨by decide +kernel, rfl⟩
theorem d_Md_fails_93 : dd m_Md_fails 93 (.iconst 1) 1 94 := ⟨by decide +kernel, rfl⟩
theorem d_Md_fails_94 : dd m_Md_fails 94 (.bipush 10) 2 96 := ⟨by decide +kernel, rfl⟩
theorem d_Md_fails_96 : dd m_Md_fails 96 (.iload_n 3) 1 97 := ⟨by decide +kernel, rfl⟩
theorem d_Md_fails_97 : dd m_Md_fails 97 .imul 1 98 := ⟨by decide +kernel, rfl⟩
theorem d_Md_fails_98 : dd m_Md_fails 98 .iadd 1 99 := ⟨by decide +kernel, rfl⟩
theorem d_Md_fails_99 : dd m_Md_fails 99 (.iload 4) 2 101 := ⟨by decide +kernel, rfl⟩
theorem d_Md_fails_101 : dd m_Md_fails 101 .iadd 1 102 := ⟨by decide +kernel, rfl⟩
theorem d_Md_fails_102 : dd m_Md_fails 102 .iaload 1 103 := ⟨by decide +kernel, rfl⟩
theorem d_Md_fails_103 : db m_Md_fails 103 (.if_icmp .eq) 106 109 := ⟨6, by decide +kernel, rfl, rfl⟩
theorem d_Md_fails_106 : dd m_Md_fails 106 (.iload 4) 2 108 := ⟨by decide +kernel, rfl⟩
theorem d_Md_fails_108 : decode (mbt m_Md_fails) 108 = .ok (.ireturn, 1) := by decide +kernel
theorem d_Md_fails_109 : dd m_Md_fails 109 (.iinc 4 1) 3 112 := ⟨by decide +kernel, rfl⟩
theorem d_Md_fails_112 : db m_Md_fails 112 .goto 115 73 := ⟨(-39), by decide +kernel, rfl, rfl⟩
theorem d_Md_fails_115 : dd m_Md_fails 115 (.iconst (-1)) 1 116 := ⟨by decide +kernel, rfl⟩
theorem d_Md_fails_116 : decode (mbt m_Md_fails) 116 = .ok (.ireturn, 1) := by decide +kernel
theorem d_Md_free_0 : dd m_Md_free 0 (.aload_n 0) 1 1 := ⟨by decide +kernel, rfl⟩
theorem d_Md_free_1 : dd m_Md_free 1 (.iconst 0) 1 2 := ⟨by decide +kernel, rfl⟩
theorem d_Md_free_2 : dd m_Md_free 2 (.putfield 1) 3 5 := ⟨by decide +kernel, rfl⟩
theorem d_Md_free_5 : dd m_Md_free 5 (.aload_n 0) 1 6 := ⟨by decide +kernel, rfl⟩
theorem d_Md_free_6 : dd m_Md_free 6 (.iload_n 1) 1 7 := ⟨by decide +kernel, rfl⟩
theorem d_Md_free_7 : dd m_Md_free 7 (.invokevirtual 183) 3 10 := ⟨by decide +kernel, rfl⟩
theorem d_Md_free_10 : db m_Md_free 10 (.ifCond .eq) 13 39 := ⟨29, by decide +kernel, rfl, rfl⟩
theorem d_Md_free_13 : dd m_Md_free 13 (.aload_n 0) 1 14 := ⟨by decide +kernel, rfl⟩
theorem d_Md_free_14 : dd m_Md_free 14 (.iload_n 2) 1 15 := ⟨by decide +kernel, rfl⟩
theorem d_Md_free_15 : dd m_Md_free 15 (.invokevirtual 183) 3 18 := ⟨by decide +kernel, rfl⟩
theorem d_Md_free_18 : db m_Md_free 18 (.ifCond .eq) 21 39 := ⟨21, by decide +kernel, rfl, rfl⟩
theorem d_Md_free_21 : dd m_Md_free 21 (.aload_n 0) 1 22 := ⟨by decide +kernel, rfl⟩
theorem d_Md_free_22 : dd m_Md_free 22 (.getfield 56) 3 25 := ⟨by decide +kernel, rfl⟩
theorem d_Md_free_25 : dd m_Md_free 25 (.sipush 141) 3 28 := ⟨by decide +kernel, rfl⟩
theorem d_Md_free_28 : dd m_Md_free 28 (.bipush 10) 2 30 := ⟨by decide +kernel, rfl⟩
theorem d_Md_free_30 : dd m_Md_free 30 (.iload_n 1) 1 31 := ⟨by decide +kernel, rfl⟩
theorem d_Md_free_31 : dd m_Md_free 31 .imul 1 32 := ⟨by decide +kernel, rfl⟩
theorem d_Md_free_32 : dd m_Md_free 32 .iadd 1 33 := ⟨by decide +kernel, rfl⟩
theorem d_Md_free_33 : dd m_Md_free 33 (.iload_n 2) 1 34 := ⟨by decide +kernel, rfl⟩
theorem d_Md_free_34 : dd m_Md_free 34 .iadd 1 35 := ⟨by decide +kernel, rfl⟩
theorem d_Md_free_35 : dd m_Md_free 35 .iaload 1 36 := ⟨by decide +kernel, rfl⟩
theorem d_Md_free_36 : db m_Md_free 36 .goto 39 40 := ⟨4, by decide +kernel, rfl, rfl⟩
theorem d_Md_free_39 : dd m_Md_free 39 (.iconst (-1)) 1 40 := ⟨by decide +kernel, rfl⟩
theorem d_Md_free_40 : decode (mbt m_Md_free) 40 = .ok (.ireturn, 1) := by decide +kernel
theorem d_Md_set_0 : dd m_Md_set 0 (.aload_n 0) 1 1 := ⟨by decide +kernel, rfl⟩
theorem d_Md_set_1 : dd m_Md_set 1 (.iconst 0) 1 2 := ⟨by decide +kernel, rfl⟩
theorem d_Md_set_2 : dd m_Md_set 2 (.putfield 1) 3 5 := ⟨by decide +kernel, rfl⟩
theorem d_Md_set_5 : dd m_Md_set 5 (.aload_n 0) 1 6 := ⟨by decide +kernel, rfl⟩
theorem d_Md_set_6 : dd m_Md_set 6 (.iload_n 1) 1 7 := ⟨by decide +kernel, rfl⟩
theorem d_Md_set_7 : dd m_Md_set 7 (.invokevirtual 183) 3 10 := ⟨by decide +kernel, rfl⟩
theorem d_Md_set_10 : db m_Md_set 10 (.ifCond .eq) 13 22 := ⟨12, by decide +kernel, rfl, rfl⟩
theorem d_Md_set_13 : dd m_Md_set 13 (.iload_n 2) 1 14 := ⟨by decide +kernel, rfl⟩
theorem d_Md_set_14 : dd m_Md_set 14 (.iconst 0) 1 15 := ⟨by decide +kernel, rfl⟩
theorem d_Md_set_15 : dd m_Md_set 15 (.iload_n 1) 1 16 := ⟨by decide +kernel, rfl⟩
theorem d_Md_set_16 : dd m_Md_set 16 (.invokestatic 118) 3 19 := ⟨by decide +kernel, rfl⟩
theorem d_Md_set_19 : db m_Md_set 19 (.ifCond .ne) 22 24 := ⟨5, by decide +kernel, rfl, rfl⟩
theorem d_Md_set_22 : dd m_Md_set 22 (.iconst (-1)) 1 23 := ⟨by decide +kernel, rfl⟩
theorem d_Md_set_23 : decode (mbt m_Md_set) 23 = .ok (.ireturn, 1) := by decide +kernel
theorem d_Md_set_24 : dd m_Md_set 24 (.aload_n 0) 1 25 := ⟨by decide +kernel, rfl⟩
theorem d_Md_set_25 : dd m_Md_set 25 (.invokevirtual 177) 3 28 := ⟨by decide +kernel, rfl⟩
theorem d_Md_set_28 : dd m_Md_set 28 (.aload_n 0) 1 29 := ⟨by decide +kernel, rfl⟩
theorem d_Md_set_29 : dd m_Md_set 29 (.getfield 56) 3 32 := ⟨by decide +kernel, rfl⟩
theorem d_Md_set_32 : dd m_Md_set 32 (.sipush 141) 3 35 := ⟨by decide +kernel, rfl⟩
theorem d_Md_set_35 : dd m_Md_set 35 (.bipush 10) 2 37 := ⟨by decide +kernel, rfl⟩
theorem d_Md_set_37 : dd m_Md_set 37 (.iload_n 1) 1 38 := ⟨by decide +kernel, rfl⟩
theorem d_Md_set_38 : dd m_Md_set 38 .imul 1 39 := ⟨by decide +kernel, rfl⟩
theorem d_Md_set_39 : dd m_Md_set 39 .iadd 1 40 := ⟨by decide +kernel, rfl⟩
theorem d_Md_set_40 : dd m_Md_set 40 (.iload_n 2) 1 41 := ⟨by decide +kernel, rfl⟩
theorem d_Md_set_41 : dd m_Md_set 41 .iadd 1 42 := ⟨by decide +kernel, rfl⟩
theorem d_Md_set_42 : dd m_Md_set 42 (.iload_n 3) 1 43 := ⟨by decide +kernel, rfl⟩
theorem d_Md_set_43 : dd m_Md_set 43 .i2l 1 44 := ⟨by decide +kernel, rfl⟩
theorem d_Md_set_44 : dd m_Md_set 44 (.invokestatic 109) 3 47 := ⟨by decide +kernel, rfl⟩
theorem d_Md_set_47 : dd m_Md_set 47 .iastore 1 48 := ⟨by decide +kernel, rfl⟩
theorem d_Md_set_48 : dd m_Md_set 48 (.iload_n 3) 1 49 := ⟨by decide +kernel, rfl⟩
theorem d_Md_set_49 : dd m_Md_set 49 .i2l 1 50 := ⟨by decide +kernel, rfl⟩
theorem d_Md_set_50 : dd m_Md_set 50 (.invokestatic 109) 3 53 := ⟨by decide +kernel, rfl⟩
theorem d_Md_set_53 : decode (mbt m_Md_set) 53 = .ok (.ireturn, 1) := by decide +kernel
theorem d_Md_lay_0 : dd m_Md_lay 0 (.aload_n 0) 1 1 := ⟨by decide +kernel, rfl⟩
theorem d_Md_lay_1 : dd m_Md_lay 1 (.iconst 0) 1 2 := ⟨by decide +kernel, rfl⟩
theorem d_Md_lay_2 : dd m_Md_lay 2 (.putfield 1) 3 5 := ⟨by decide +kernel, rfl⟩
theorem d_Md_lay_5 : dd m_Md_lay 5 (.aload_n 0) 1 6 := ⟨by decide +kernel, rfl⟩
theorem d_Md_lay_6 : dd m_Md_lay 6 (.iload_n 1) 1 7 := ⟨by decide +kernel, rfl⟩
theorem d_Md_lay_7 : dd m_Md_lay 7 (.invokevirtual 218) 3 10 := ⟨by decide +kernel, rfl⟩
theorem d_Md_lay_10 : db m_Md_lay 10 (.ifCond .ne) 13 15 := ⟨5, by decide +kernel, rfl, rfl⟩
theorem d_Md_lay_13 : dd m_Md_lay 13 (.iconst (-1)) 1 14 := ⟨by decide +kernel, rfl⟩
theorem d_Md_lay_14 : decode (mbt m_Md_lay) 14 = .ok (.ireturn, 1) := by decide +kernel
theorem d_Md_lay_15 : dd m_Md_lay 15 (.aload_n 0) 1 16 := ⟨by decide +kernel, rfl⟩
theorem d_Md_lay_16 : dd m_Md_lay 16 (.invokevirtual 177) 3 19 := ⟨by decide +kernel, rfl⟩
theorem d_Md_lay_19 : dd m_Md_lay 19 (.aload_n 0) 1 20 := ⟨by decide +kernel, rfl⟩
theorem d_Md_lay_20 : dd m_Md_lay 20 (.iload_n 1) 1 21 := ⟨by decide +kernel, rfl⟩
theorem d_Md_lay_21 : dd m_Md_lay 21 (.aload_n 0) 1 22 := ⟨by decide +kernel, rfl⟩
theorem d_Md_lay_22 : dd m_Md_lay 22 (.getfield 87) 3 25 := ⟨by decide +kernel, rfl⟩
theorem d_Md_lay_25 : dd m_Md_lay 25 (.invokevirtual 228) 3 28 := ⟨by decide +kernel, rfl⟩
theorem d_Md_lay_28 : dd m_Md_lay 28 (.iconst 0) 1 29 := ⟨by decide +kernel, rfl⟩
theorem d_Md_lay_29 : dd m_Md_lay 29 (.istore_n 2) 1 30 := ⟨by decide +kernel, rfl⟩
theorem d_Md_lay_30 : dd m_Md_lay 30 (.iload_n 2) 1 31 := ⟨by decide +kernel, rfl⟩
theorem d_Md_lay_31 : dd m_Md_lay 31 (.aload_n 0) 1 32 := ⟨by decide +kernel, rfl⟩
theorem d_Md_lay_32 : dd m_Md_lay 32 (.invokevirtual 173) 3 35 := ⟨by decide +kernel, rfl⟩
theorem d_Md_lay_35 : db m_Md_lay 35 (.if_icmp .ge) 38 86 := ⟨51, by decide +kernel, rfl, rfl⟩
theorem d_Md_lay_38 : dd m_Md_lay 38 (.iconst 0) 1 39 := ⟨by decide +kernel, rfl⟩
theorem d_Md_lay_39 : dd m_Md_lay 39 (.istore_n 3) 1 40 := ⟨by decide +kernel, rfl⟩
theorem d_Md_lay_40 : dd m_Md_lay 40 (.iload_n 3) 1 41 := ⟨by decide +kernel, rfl⟩
theorem d_Md_lay_41 : dd m_Md_lay 41 (.aload_n 0) 1 42 := ⟨by decide +kernel, rfl⟩
theorem d_Md_lay_42 : dd m_Md_lay 42 (.invokevirtual 173) 3 45 := ⟨by decide +kernel, rfl⟩
theorem d_Md_lay_45 : db m_Md_lay 45 (.if_icmp .ge) 48 80 := ⟨35, by decide +kernel, rfl, rfl⟩
theorem d_Md_lay_48 : dd m_Md_lay 48 (.aload_n 0) 1 49 := ⟨by decide +kernel, rfl⟩
theorem d_Md_lay_49 : dd m_Md_lay 49 (.getfield 56) 3 52 := ⟨by decide +kernel, rfl⟩
theorem d_Md_lay_52 : dd m_Md_lay 52 (.sipush 141) 3 55 := ⟨by decide +kernel, rfl⟩
theorem d_Md_lay_55 : dd m_Md_lay 55 (.bipush 10) 2 57 := ⟨by decide +kernel, rfl⟩
theorem d_Md_lay_57 : dd m_Md_lay 57 (.iload_n 2) 1 58 := ⟨by decide +kernel, rfl⟩
theorem d_Md_lay_58 : dd m_Md_lay 58 .imul 1 59 := ⟨by decide +kernel, rfl⟩
theorem d_Md_lay_59 : dd m_Md_lay 59 .iadd 1 60 := ⟨by decide +kernel, rfl⟩
theorem d_Md_lay_60 : dd m_Md_lay 60 (.iload_n 3) 1 61 := ⟨by decide +kernel, rfl⟩
theorem d_Md_lay_61 : dd m_Md_lay 61 .iadd 1 62 := ⟨by decide +kernel, rfl⟩
theorem d_Md_lay_62 : dd m_Md_lay 62 (.aload_n 0) 1 63 := ⟨by decide +kernel, rfl⟩
theorem d_Md_lay_63 : dd m_Md_lay 63 (.getfield 87) 3 66 := ⟨by decide +kernel, rfl⟩
theorem d_Md_lay_66 : dd m_Md_lay 66 (.bipush 10) 2 68 := ⟨by decide +kernel, rfl⟩
theorem d_Md_lay_68 : dd m_Md_lay 68 (.iload_n 2) 1 69 := ⟨by decide +kernel, rfl⟩
theorem d_Md_lay_69 : dd m_Md_lay 69 .imul 1 70 := ⟨by decide +kernel, rfl⟩
theorem d_Md_lay_70 : dd m_Md_lay 70 (.iload_n 3) 1 71 := ⟨by decide +kernel, rfl⟩
theorem d_Md_lay_71 : dd m_Md_lay 71 .iadd 1 72 := ⟨by decide +kernel, rfl⟩
theorem d_Md_lay_72 : dd m_Md_lay 72 .iaload 1 73 := ⟨by decide +kernel, rfl⟩
theorem d_Md_lay_73 : dd m_Md_lay 73 .iastore 1 74 := ⟨by decide +kernel, rfl⟩
theorem d_Md_lay_74 : dd m_Md_lay 74 (.iinc 3 1) 3 77 := ⟨by decide +kernel, rfl⟩
theorem d_Md_lay_77 : db m_Md_lay 77 .goto 80 40 := ⟨(-37), by decide +kernel, rfl, rfl⟩
theorem d_Md_lay_80 : dd m_Md_lay 80 (.iinc 2 1) 3 83 := ⟨by decide +kernel, rfl⟩
theorem d_Md_lay_83 : db m_Md_lay 83 .goto 86 30 := ⟨(-53), by decide +kernel, rfl, rfl⟩
theorem d_Md_lay_86 : dd m_Md_lay 86 (.aload_n 0) 1 87 := ⟨by decide +kernel, rfl⟩
theorem d_Md_lay_87 : dd m_Md_lay 87 (.iload_n 1) 1 88 := ⟨by decide +kernel, rfl⟩
theorem d_Md_lay_88 : dd m_Md_lay 88 (.invokevirtual 241) 3 91 := ⟨by decide +kernel, rfl⟩
theorem d_Md_lay_91 : decode (mbt m_Md_lay) 91 = .ok (.ireturn, 1) := by decide +kernel
theorem d_Md_unlike_0 : dd m_Md_unlike 0 (.aload_n 0) 1 1 := ⟨by decide +kernel, rfl⟩
theorem d_Md_unlike_1 : dd m_Md_unlike 1 (.iconst 0) 1 2 := ⟨by decide +kernel, rfl⟩
theorem d_Md_unlike_2 : dd m_Md_unlike 2 (.putfield 1) 3 5 := ⟨by decide +kernel, rfl⟩
theorem d_Md_unlike_5 : dd m_Md_unlike 5 (.aload_n 0) 1 6 := ⟨by decide +kernel, rfl⟩
theorem d_Md_unlike_6 : dd m_Md_unlike 6 (.invokevirtual 244) 3 9 := ⟨by decide +kernel, rfl⟩
theorem d_Md_unlike_9 : decode (mbt m_Md_unlike) 9 = .ok (.ireturn, 1) := by decide +kernel
theorem d_Md_unlikeNow_0 : dd m_Md_unlikeNow 0 (.aload_n 0) 1 1 := ⟨by decide +kernel, rfl⟩
theorem d_Md_unlikeNow_1 : dd m_Md_unlikeNow 1 (.invokevirtual 173) 3 4 := ⟨by decide +kernel, rfl⟩
theorem d_Md_unlikeNow_4 : db m_Md_unlikeNow 4 (.ifCond .ne) 7 10 := ⟨6, by decide +kernel, rfl, rfl⟩
theorem d_Md_unlikeNow_7 : dd m_Md_unlikeNow 7 (.bipush 101) 2 9 := ⟨by decide +kernel, rfl⟩
theorem d_Md_unlikeNow_9 : decode (mbt m_Md_unlikeNow) 9 = .ok (.ireturn, 1) := by decide +kernel
theorem d_Md_unlikeNow_10 : dd m_Md_unlikeNow 10 (.iconst 0) 1 11 := ⟨by decide +kernel, rfl⟩
theorem d_Md_unlikeNow_11 : dd m_Md_unlikeNow 11 (.istore_n 1) 1 12 := ⟨by decide +kernel, rfl⟩
theorem d_Md_unlikeNow_12 : dd m_Md_unlikeNow 12 (.iload_n 1) 1 13 := ⟨by decide +kernel, rfl⟩
theorem d_Md_unlikeNow_13 : dd m_Md_unlikeNow 13 (.bipush 100) 2 15 := ⟨by decide +kernel, rfl⟩
theorem d_Md_unlikeNow_15 : db m_Md_unlikeNow 15 (.if_icmp .ge) 18 40 := ⟨25, by decide +kernel, rfl, rfl⟩
theorem d_Md_unlikeNow_18 : dd m_Md_unlikeNow 18 (.aload_n 0) 1 19 := ⟨by decide +kernel, rfl⟩
theorem d_Md_unlikeNow_19 : dd m_Md_unlikeNow 19 (.getfield 90) 3 22 := ⟨by decide +kernel, rfl⟩
theorem d_Md_unlikeNow_22 : dd m_Md_unlikeNow 22 (.iload_n 1) 1 23 := ⟨by decide +kernel, rfl⟩
theorem d_Md_unlikeNow_23 : dd m_Md_unlikeNow 23 (.aload_n 0) 1 24 := ⟨by decide +kernel, rfl⟩
theorem d_Md_unlikeNow_24 : dd m_Md_unlikeNow 24 (.getfield 56) 3 27 := ⟨by decide +kernel, rfl⟩
theorem d_Md_unlikeNow_27 : dd m_Md_unlikeNow 27 (.sipush 141) 3 30 := ⟨by decide +kernel, rfl⟩
theorem d_Md_unlikeNow_30 : dd m_Md_unlikeNow 30 (.iload_n 1) 1 31 := ⟨by decide +kernel, rfl⟩
theorem d_Md_unlikeNow_31 : dd m_Md_unlikeNow 31 .iadd 1 32 := ⟨by decide +kernel, rfl⟩
theorem d_Md_unlikeNow_32 : dd m_Md_unlikeNow 32 .iaload 1 33 := ⟨by decide +kernel, rfl⟩
theorem d_Md_unlikeNow_33 : dd m_Md_unlikeNow 33 .iastore 1 34 := ⟨by decide +kernel, rfl⟩
theorem d_Md_unlikeNow_34 : dd m_Md_unlikeNow 34 (.iinc 1 1) 3 37 := ⟨by decide +kernel, rfl⟩
theorem d_Md_unlikeNow_37 : db m_Md_unlikeNow 37 .goto 40 12 := ⟨(-25), by decide +kernel, rfl, rfl⟩
theorem d_Md_unlikeNow_40 : dd m_Md_unlikeNow 40 (.iconst 0) 1 41 := ⟨by decide +kernel, rfl⟩
theorem d_Md_unlikeNow_41 : dd m_Md_unlikeNow 41 (.istore_n 1) 1 42 := ⟨by decide +kernel, rfl⟩
theorem d_Md_unlikeNow_42 : dd m_Md_unlikeNow 42 (.iload_n 1) 1 43 := ⟨by decide +kernel, rfl⟩
theorem d_Md_unlikeNow_43 : dd m_Md_unlikeNow 43 (.bipush 10) 2 45 := ⟨by decide +kernel, rfl⟩
theorem d_Md_unlikeNow_45 : db m_Md_unlikeNow 45 (.if_icmp .ge) 48 86 := ⟨41, by decide +kernel, rfl, rfl⟩
theorem d_Md_unlikeNow_48 : dd m_Md_unlikeNow 48 (.aload_n 0) 1 49 := ⟨by decide +kernel, rfl⟩
theorem d_Md_unlikeNow_49 : dd m_Md_unlikeNow 49 (.getfield 72) 3 52 := ⟨by decide +kernel, rfl⟩
theorem d_Md_unlikeNow_52 : dd m_Md_unlikeNow 52 (.iload_n 1) 1 53 := ⟨by decide +kernel, rfl⟩
theorem d_Md_unlikeNow_53 : dd m_Md_unlikeNow 53 (.aload_n 0) 1 54 := ⟨by decide +kernel, rfl⟩
theorem d_Md_unlikeNow_54 : dd m_Md_unlikeNow 54 (.getfield 90) 3 57 := ⟨by decide +kernel, rfl⟩
theorem d_Md_unlikeNow_57 : dd m_Md_unlikeNow 57 (.bipush 10) 2 59 := ⟨by decide +kernel, rfl⟩
theorem d_Md_unlikeNow_59 : dd m_Md_unlikeNow 59 (.iload_n 1) 1 60 := ⟨by decide +kernel, rfl⟩
theorem d_Md_unlikeNow_60 : dd m_Md_unlikeNow 60 .imul 1 61 := ⟨by decide +kernel, rfl⟩
theorem d_Md_unlikeNow_61 : dd m_Md_unlikeNow 61 .iaload 1 62 := ⟨by decide +kernel, rfl⟩
theorem d_Md_unlikeNow_62 : dd m_Md_unlikeNow 62 .iastore 1 63 := ⟨by decide +kernel, rfl⟩
theorem d_Md_unlikeNow_63 : dd m_Md_unlikeNow 63 (.aload_n 0) 1 64 := ⟨by decide +kernel, rfl⟩
theorem d_Md_unlikeNow_64 : dd m_Md_unlikeNow 64 (.getfield 75) 3 67 := ⟨by decide +kernel, rfl⟩
theorem d_Md_unlikeNow_67 : dd m_Md_unlikeNow 67 (.iload_n 1) 1 68 := ⟨by decide +kernel, rfl⟩
theorem d_Md_unlikeNow_68 : dd m_Md_unlikeNow 68 (.aload_n 0) 1 69 := ⟨by decide +kernel, rfl⟩
theorem d_Md_unlikeNow_69 : dd m_Md_unlikeNow 69 (.getfield 90) 3 72 := ⟨by decide +kernel, rfl⟩
theorem d_Md_unlikeNow_72 : dd m_Md_unlikeNow 72 (.bipush 10) 2 74 := ⟨by decide +kernel, rfl⟩
theorem d_Md_unlikeNow_74 : dd m_Md_unlikeNow 74 (.iload_n 1) 1 75 := ⟨by decide +kernel, rfl⟩
theorem d_Md_unlikeNow_75 : dd m_Md_unlikeNow 75 .imul 1 76 := ⟨by decide +kernel, rfl⟩
theorem d_Md_unlikeNow_76 : dd m_Md_unlikeNow 76 (.iconst 1) 1 77 := ⟨by decide +kernel, rfl⟩
theorem d_Md_unlikeNow_77 : dd m_Md_unlikeNow 77 .iadd 1 78 := ⟨by decide +kernel, rfl⟩
theorem d_Md_unlikeNow_78 : dd m_Md_unlikeNow 78 .iaload 1 79 := ⟨by decide +kernel, rfl⟩
theorem d_Md_unlikeNow_79 : dd m_Md_unlikeNow 79 .iastore 1 80 := ⟨by decide +kernel, rfl⟩
theorem d_Md_unlikeNow_80 : dd m_Md_unlikeNow 80 (.iinc 1 1) 3 83 := ⟨by decide +kernel, rfl⟩
theorem d_Md_unlikeNow_83 : db m_Md_unlikeNow 83 .goto 86 42 := ⟨(-41), by decide +kernel, rfl, rfl⟩
theorem d_Md_unlikeNow_86 : dd m_Md_unlikeNow 86 (.aload_n 0) 1 87 := ⟨by decide +kernel, rfl⟩
theorem d_Md_unlikeNow_87 : dd m_Md_unlikeNow 87 (.getfield 72) 3 90 := ⟨by decide +kernel, rfl⟩
theorem d_Md_unlikeNow_90 : dd m_Md_unlikeNow 90 (.iconst 0) 1 91 := ⟨by decide +kernel, rfl⟩
theorem d_Md_unlikeNow_91 : dd m_Md_unlikeNow 91 .iaload 1 92 := ⟨by decide +kernel, rfl⟩
theorem d_Md_unlikeNow_92 : db m_Md_unlikeNow 92 (.ifCond .eq) 95 104 := ⟨12, by decide +kernel, rfl, rfl⟩
theorem d_Md_unlikeNow_95 : dd m_Md_unlikeNow 95 (.aload_n 0) 1 96 := ⟨by decide +kernel, rfl⟩
theorem d_Md_unlikeNow_96 : dd m_Md_unlikeNow 96 (.getfield 75) 3 99 := ⟨by decide +kernel, rfl⟩
theorem d_Md_unlikeNow_99 : dd m_Md_unlikeNow 99 (.iconst 1) 1 100 := ⟨by decide +kernel, rfl⟩
theorem d_Md_unlikeNow_100 : dd m_Md_unlikeNow 100 .iaload 1 101 := ⟨by decide +kernel, rfl⟩
theorem d_Md_unlikeNow_101 : db m_Md_unlikeNow 101 (.ifCond .ne) 104 107 := ⟨6, by decide +kernel, rfl, rfl⟩
theorem d_Md_unlikeNow_104 : dd m_Md_unlikeNow 104 (.bipush 100) 2 106 := ⟨by decide +kernel, rfl⟩
theorem d_Md_unlikeNow_106 : decode (mbt m_Md_unlikeNow) 106 = .ok (.ireturn, 1) := by decide +kernel
theorem d_Md_unlikeNow_107 : dd m_Md_unlikeNow 107 (.aload_n 0) 1 108 := ⟨by decide +kernel, rfl⟩
theorem d_Md_unlikeNow_108 : dd m_Md_unlikeNow 108 (.getfield 75) 3 111 := ⟨by decide +kernel, rfl⟩
theorem d_Md_unlikeNow_111 : dd m_Md_unlikeNow 111 (.aload_n 0) 1 112 := ⟨by decide +kernel, rfl⟩
theorem d_Md_unlikeNow_112 : dd m_Md_unlikeNow 112 (.getfield 72) 3 115 := ⟨by decide +kernel, rfl⟩
theorem d_Md_unlikeNow_115 : dd m_Md_unlikeNow 115 (.aload_n 0) 1 116 := ⟨by decide +kernel, rfl⟩
theorem d_Md_unlikeNow_116 : dd m_Md_unlikeNow 116 (.getfield 78) 3 119 := ⟨by decide +kernel, rfl⟩
theorem d_Md_unlikeNow_119 : dd m_Md_unlikeNow 119 (.aload_n 0) 1 120 := ⟨by decide +kernel, rfl⟩
theorem d_Md_unlikeNow_120 : dd m_Md_unlikeNow 120 (.invokevirtual 173) 3 123 := ⟨by decide +kernel, rfl⟩
theorem d_Md_unlikeNow_123 : dd m_Md_unlikeNow 123 (.invokestatic 133) 3 126 := ⟨by decide +kernel, rfl⟩
theorem d_Md_unlikeNow_126 : dd m_Md_unlikeNow 126 (.aload_n 0) 1 127 := ⟨by decide +kernel, rfl⟩
theorem d_Md_unlikeNow_127 : dd m_Md_unlikeNow 127 (.aload_n 0) 1 128 := ⟨by decide +kernel, rfl⟩
theorem d_Md_unlikeNow_128 : dd m_Md_unlikeNow 128 (.getfield 72) 3 131 := ⟨by decide +kernel, rfl⟩
theorem d_Md_unlikeNow_131 : dd m_Md_unlikeNow 131 (.aload_n 0) 1 132 := ⟨by decide +kernel, rfl⟩
theorem d_Md_unlikeNow_132 : dd m_Md_unlikeNow 132 (.getfield 78) 3 135 := ⟨by decide +kernel, rfl⟩
theorem d_Md_unlikeNow_135 : dd m_Md_unlikeNow 135 (.aload_n 0) 1 136 := ⟨by decide +kernel, rfl⟩
theorem d_Md_unlikeNow_136 : dd m_Md_unlikeNow 136 (.getfield 87) 3 139 := ⟨by decide +kernel, rfl⟩
theorem d_Md_unlikeNow_139 : dd m_Md_unlikeNow 139 (.invokevirtual 196) 3 142 := ⟨by decide +kernel, rfl⟩
theorem d_Md_unlikeNow_142 : dd m_Md_unlikeNow 142 (.aload_n 0) 1 143 := ⟨by decide +kernel, rfl⟩
theorem d_Md_unlikeNow_143 : dd m_Md_unlikeNow 143 (.aload_n 0) 1 144 := ⟨by decide +kernel, rfl⟩
theorem d_Md_unlikeNow_144 : dd m_Md_unlikeNow 144 (.getfield 90) 3 147 := ⟨by decide +kernel, rfl⟩
theorem d_Md_unlikeNow_147 : dd m_Md_unlikeNow 147 (.aload_n 0) 1 148 := ⟨by decide +kernel, rfl⟩
theorem d_Md_unlikeNow_148 : dd m_Md_unlikeNow 148 (.getfield 87) 3 151 := ⟨by decide +kernel, rfl⟩
theorem d_Md_unlikeNow_151 : dd m_Md_unlikeNow 151 (.invokevirtual 237) 3 154 := ⟨by decide +kernel, rfl⟩
theorem d_Md_unlikeNow_154 : decode (mbt m_Md_unlikeNow) 154 = .ok (.ireturn, 1) := by decide +kernel
theorem d_Md_rebuild_0 : dd m_Md_rebuild 0 (.aload_n 0) 1 1 := ⟨by decide +kernel, rfl⟩
theorem d_Md_rebuild_1 : dd m_Md_rebuild 1 (.iconst 0) 1 2 := ⟨by decide +kernel, rfl⟩
theorem d_Md_rebuild_2 : dd m_Md_rebuild 2 (.putfield 1) 3 5 := ⟨by decide +kernel, rfl⟩
theorem d_Md_rebuild_5 : dd m_Md_rebuild 5 (.aload_n 0) 1 6 := ⟨by decide +kernel, rfl⟩
theorem d_Md_rebuild_6 : dd m_Md_rebuild 6 (.iload_n 1) 1 7 := ⟨by decide +kernel, rfl⟩
theorem d_Md_rebuild_7 : dd m_Md_rebuild 7 (.invokevirtual 218) 3 10 := ⟨by decide +kernel, rfl⟩
theorem d_Md_rebuild_10 : db m_Md_rebuild 10 (.ifCond .eq) 13 21 := ⟨11, by decide +kernel, rfl, rfl⟩
theorem d_Md_rebuild_13 : dd m_Md_rebuild 13 (.aload_n 0) 1 14 := ⟨by decide +kernel, rfl⟩
theorem d_Md_rebuild_14 : dd m_Md_rebuild 14 (.invokevirtual 244) 3 17 := ⟨by decide +kernel, rfl⟩
theorem d_Md_rebuild_17 : dd m_Md_rebuild 17 (.iconst (-1)) 1 18 := ⟨by decide +kernel, rfl⟩
theorem d_Md_rebuild_18 : db m_Md_rebuild 18 (.if_icmp .eq) 21 25 := ⟨7, by decide +kernel, rfl, rfl⟩
theorem d_Md_rebuild_21 : dd m_Md_rebuild 21 (.iconst (-1)) 1 22 := ⟨by decide +kernel, rfl⟩
theorem d_Md_rebuild_22 : db m_Md_rebuild 22 .goto 25 34 := ⟨12, by decide +kernel, rfl, rfl⟩
theorem d_Md_rebuild_25 : dd m_Md_rebuild 25 (.aload_n 0) 1 26 := ⟨by decide +kernel, rfl⟩
theorem d_Md_rebuild_26 : dd m_Md_rebuild 26 (.aload_n 0) 1 27 := ⟨by decide +kernel, rfl⟩
theorem d_Md_rebuild_27 : dd m_Md_rebuild 27 (.getfield 87) 3 30 := ⟨by decide +kernel, rfl⟩
theorem d_Md_rebuild_30 : dd m_Md_rebuild 30 (.iload_n 1) 1 31 := ⟨by decide +kernel, rfl⟩
theorem d_Md_rebuild_31 : dd m_Md_rebuild 31 (.invokevirtual 221) 3 34 := ⟨by decide +kernel, rfl⟩
theorem d_Md_rebuild_34 : decode (mbt m_Md_rebuild) 34 = .ok (.ireturn, 1) := by decide +kernel
theorem d_Md_drawn_0 : dd m_Md_drawn 0 (.aload_n 0) 1 1 := ⟨by decide +kernel, rfl⟩
theorem d_Md_drawn_1 : dd m_Md_drawn 1 (.iconst 0) 1 2 := ⟨by decide +kernel, rfl⟩
theorem d_Md_drawn_2 : dd m_Md_drawn 2 (.putfield 1) 3 5 := ⟨by decide +kernel, rfl⟩
theorem d_Md_drawn_5 : dd m_Md_drawn 5 (.iload_n 1) 1 6 := ⟨by decide +kernel, rfl⟩
theorem d_Md_drawn_6 : dd m_Md_drawn 6 (.iconst 1) 1 7 := ⟨by decide +kernel, rfl⟩
theorem d_Md_drawn_7 : dd m_Md_drawn 7 (.bipush 60) 2 9 := ⟨by decide +kernel, rfl⟩
theorem d_Md_drawn_9 : dd m_Md_drawn 9 (.invokestatic 118) 3 12 := ⟨by decide +kernel, rfl⟩
theorem d_Md_drawn_12 : db m_Md_drawn 12 (.ifCond .ne) 15 17 := ⟨5, by decide +kernel, rfl, rfl⟩
theorem d_Md_drawn_15 : dd m_Md_drawn 15 (.iconst (-1)) 1 16 := ⟨by decide +kernel, rfl⟩
theorem d_Md_drawn_16 : decode (mbt m_Md_drawn) 16 = .ok (.ireturn, 1) := by decide +kernel
theorem d_Md_drawn_17 : dd m_Md_drawn 17 (.aload_n 0) 1 18 := ⟨by decide +kernel, rfl⟩
theorem d_Md_drawn_18 : dd m_Md_drawn 18 (.invokevirtual 173) 3 21 := ⟨by decide +kernel, rfl⟩
theorem d_Md_drawn_21 : db m_Md_drawn 21 (.ifCond .ne) 24 26 := ⟨5, by decide +kernel, rfl, rfl⟩
theorem d_Md_drawn_24 : dd m_Md_drawn 24 (.iconst 0) 1 25 := ⟨by decide +kernel, rfl⟩
theorem d_Md_drawn_25 : decode (mbt m_Md_drawn) 25 = .ok (.ireturn, 1) := by decide +kernel
theorem d_Md_drawn_26 : dd m_Md_drawn 26 (.aload_n 0) 1 27 := ⟨by decide +kernel, rfl⟩
theorem d_Md_drawn_27 : dd m_Md_drawn 27 (.invokevirtual 177) 3 30 := ⟨by decide +kernel, rfl⟩
theorem d_Md_drawn_30 : dd m_Md_drawn 30 (.aload_n 0) 1 31 := ⟨by decide +kernel, rfl⟩
theorem d_Md_drawn_31 : dd m_Md_drawn 31 (.iload_n 2) 1 32 := ⟨by decide +kernel, rfl⟩
theorem d_Md_drawn_32 : dd m_Md_drawn 32 (.putfield 247) 3 35 := ⟨by decide +kernel, rfl⟩
theorem d_Md_drawn_35 : dd m_Md_drawn 35 (.iconst 0) 1 36 := ⟨by decide +kernel, rfl⟩
theorem d_Md_drawn_36 : dd m_Md_drawn 36 (.istore_n 3) 1 37 := ⟨by decide +kernel, rfl⟩
theorem d_Md_drawn_37 : dd m_Md_drawn 37 (.iload_n 3) 1 38 := ⟨by decide +kernel, rfl⟩
theorem d_Md_drawn_38 : dd m_Md_drawn 38 (.iload_n 1) 1 39 := ⟨by decide +kernel, rfl⟩
theorem d_Md_drawn_39 : db m_Md_drawn 39 (.if_icmp .ge) 42 94 := ⟨55, by decide +kernel, rfl, rfl⟩
theorem d_Md_drawn_42 : dd m_Md_drawn 42 (.aload_n 0) 1 43 := ⟨by decide +kernel, rfl⟩
theorem d_Md_drawn_43 : dd m_Md_drawn 43 (.bipush 6) 2 45 := ⟨by decide +kernel, rfl⟩
theorem d_Md_drawn_45 : dd m_Md_drawn 45 (.invokevirtual 251) 3 48 := ⟨by decide +kernel, rfl⟩
theorem d_Md_drawn_48 : dd m_Md_drawn 48 (.istore 4) 2 50 := ⟨by decide +kernel, rfl⟩
theorem d_Md_drawn_50 : dd m_Md_drawn 50 (.aload_n 0) 1 51 := ⟨by decide +kernel, rfl⟩
theorem d_Md_drawn_51 : dd m_Md_drawn 51 (.aload_n 0) 1 52 := ⟨by decide +kernel, rfl⟩
theorem d_Md_drawn_52 : dd m_Md_drawn 52 (.invokevirtual 173) 3 55 := ⟨by decide +kernel, rfl⟩
theorem d_Md_drawn_55 : dd m_Md_drawn 55 (.invokevirtual 251) 3 58 := ⟨by decide +kernel, rfl⟩
theorem d_Md_drawn_58 : dd m_Md_drawn 58 (.istore 5) 2 60 := ⟨by decide +kernel, rfl⟩
theorem d_Md_drawn_60 : dd m_Md_drawn 60 (.aload_n 0) 1 61 := ⟨by decide +kernel, rfl⟩
theorem d_Md_drawn_61 : dd m_Md_drawn 61 (.getfield 56) 3 64 := ⟨by decide +kernel, rfl⟩
theorem d_Md_drawn_64 : dd m_Md_drawn 64 (.iconst 1) 1 65 := ⟨by decide +kernel, rfl⟩
theorem d_Md_drawn_65 : dd m_Md_drawn 65 (.bipush 10) 2 67 := ⟨by decide +kernel, rfl⟩
theorem d_Md_drawn_67 : dd m_Md_drawn 67 (.iload 4) 2 69 := ⟨by decide +kernel, rfl⟩
theorem d_Md_drawn_69 : dd m_Md_drawn 69 .imul 1 70 := ⟨by decide +kernel, rfl⟩
theorem d_Md_drawn_70 : dd m_Md_drawn 70 .iadd 1 71 := ⟨by decide +kernel, rfl⟩
theorem d_Md_drawn_71 : dd m_Md_drawn 71 (.iload 5) 2 73 := ⟨by decide +kernel, rfl⟩
theorem d_Md_drawn_73 : dd m_Md_drawn 73 .iadd 1 74 := ⟨by decide +kernel, rfl⟩
theorem d_Md_drawn_74 : dd m_Md_drawn 74 (.aload_n 0) 1 75 := ⟨by decide +kernel, rfl⟩
theorem d_Md_drawn_75 : dd m_Md_drawn 75 (.bipush 19) 2 77 := ⟨by decide +kernel, rfl⟩
theorem d_Md_drawn_77 : dd m_Md_drawn 77 (.invokevirtual 251) 3 80 := ⟨by decide +kernel, rfl⟩
theorem d_Md_drawn_80 : dd m_Md_drawn 80 (.bipush 9) 2 82 := ⟨by decide +kernel, rfl⟩
theorem d_Md_drawn_82 : dd m_Md_drawn 82 .isub 1 83 := ⟨by decide +kernel, rfl⟩
theorem d_Md_drawn_83 : dd m_Md_drawn 83 .i2l 1 84 := ⟨by decide +kernel, rfl⟩
theorem d_Md_drawn_84 : dd m_Md_drawn 84 (.invokestatic 109) 3 87 := ⟨by decide +kernel, rfl⟩
theorem d_Md_drawn_87 : dd m_Md_drawn 87 .iastore 1 88 := ⟨by decide +kernel, rfl⟩
theorem d_Md_drawn_88 : dd m_Md_drawn 88 (.iinc 3 1) 3 91 := ⟨by decide +kernel, rfl⟩
theorem d_Md_drawn_91 : db m_Md_drawn 91 .goto 94 37 := ⟨(-54), by decide +kernel, rfl, rfl⟩
theorem d_Md_drawn_94 : dd m_Md_drawn 94 (.lconst 0) 1 95 := ⟨by decide +kernel, rfl⟩
theorem d_Md_drawn_95 : dd m_Md_drawn 95 (.lstore_n 3) 1 96 := ⟨by decide +kernel, rfl⟩
theorem d_Md_drawn_96 : dd m_Md_drawn 96 (.iconst 0) 1 97 := ⟨by decide +kernel, rfl⟩
theorem d_Md_drawn_97 : dd m_Md_drawn 97 (.istore 5) 2 99 := ⟨by decide +kernel, rfl⟩
theorem d_Md_drawn_99 : dd m_Md_drawn 99 (.iload 5) 2 101 := ⟨by decide +kernel, rfl⟩
theorem d_Md_drawn_101 : dd m_Md_drawn 101 (.bipush 60) 2 103 := ⟨by decide +kernel, rfl⟩
theorem d_Md_drawn_103 : db m_Md_drawn 103 (.if_icmp .ge) 106 125 := ⟨22, by decide +kernel, rfl, rfl⟩
theorem d_Md_drawn_106 : dd m_Md_drawn 106 (.lload_n 3) 1 107 := ⟨by decide +kernel, rfl⟩
theorem d_Md_drawn_107 : dd m_Md_drawn 107 (.aload_n 0) 1 108 := ⟨by decide +kernel, rfl⟩
theorem d_Md_drawn_108 : dd m_Md_drawn 108 (.getfield 56) 3 111 := ⟨by decide +kernel, rfl⟩
theorem d_Md_drawn_111 : dd m_Md_drawn 111 (.iconst 1) 1 112 := ⟨by decide +kernel, rfl⟩
theorem d_Md_drawn_112 : dd m_Md_drawn 112 (.iload 5) 2 114 := ⟨by decide +kernel, rfl⟩
theorem d_Md_drawn_114 : dd m_Md_drawn 114 .iadd 1 115 := ⟨by decide +kernel, rfl⟩
theorem d_Md_drawn_115 : dd m_Md_drawn 115 .iaload 1 116 := ⟨by decide +kernel, rfl⟩
theorem d_Md_drawn_116 : dd m_Md_drawn 116 .i2l 1 117 := ⟨by decide +kernel, rfl⟩
theorem d_Md_drawn_117 : dd m_Md_drawn 117 .ladd 1 118 := ⟨by decide +kernel, rfl⟩
theorem d_Md_drawn_118 : dd m_Md_drawn 118 (.lstore_n 3) 1 119 := ⟨by decide +kernel, rfl⟩
theorem d_Md_drawn_119 : dd m_Md_drawn 119 (.iinc 5 1) 3 122 := ⟨by decide +kernel, rfl⟩
theorem d_Md_drawn_122 : db m_Md_drawn 122 .goto 125 99 := ⟨(-23), by decide +kernel, rfl, rfl⟩
theorem d_Md_drawn_125 : dd m_Md_drawn 125 (.lload_n 3) 1 126 := ⟨by decide +kernel, rfl⟩
theorem d_Md_drawn_126 : dd m_Md_drawn 126 (.invokestatic 109) 3 129 := ⟨by decide +kernel, rfl⟩
theorem d_Md_drawn_129 : decode (mbt m_Md_drawn) 129 = .ok (.ireturn, 1) := by decide +kernel
theorem d_Md_draw_0 : dd m_Md_draw 0 (.aload_n 0) 1 1 := ⟨by decide +kernel, rfl⟩
theorem d_Md_draw_1 : dd m_Md_draw 1 (.aload_n 0) 1 2 := ⟨by decide +kernel, rfl⟩
theorem d_Md_draw_2 : dd m_Md_draw 2 (.getfield 247) 3 5 := ⟨by decide +kernel, rfl⟩
theorem d_Md_draw_5 : dd m_Md_draw 5 (.ldc 250) 2 7 := ⟨by decide +kernel, rfl⟩
theorem d_Md_draw_7 : dd m_Md_draw 7 .imul 1 8 := ⟨by decide +kernel, rfl⟩
theorem d_Md_draw_8 : dd m_Md_draw 8 (.sipush 12345) 3 11 := ⟨by decide +kernel, rfl⟩
theorem d_Md_draw_11 : dd m_Md_draw 11 .iadd 1 12 := ⟨by decide +kernel, rfl⟩
theorem d_Md_draw_12 : dd m_Md_draw 12 (.putfield 247) 3 15 := ⟨by decide +kernel, rfl⟩
theorem d_Md_draw_15 : dd m_Md_draw 15 (.aload_n 0) 1 16 := ⟨by decide +kernel, rfl⟩
theorem d_Md_draw_16 : dd m_Md_draw 16 (.getfield 247) 3 19 := ⟨by decide +kernel, rfl⟩
theorem d_Md_draw_19 : dd m_Md_draw 19 (.bipush 8) 2 21 := ⟨by decide +kernel, rfl⟩
theorem d_Md_draw_21 : dd m_Md_draw 21 .iushr 1 22 := ⟨by decide +kernel, rfl⟩
theorem d_Md_draw_22 : dd m_Md_draw 22 (.iload_n 1) 1 23 := ⟨by decide +kernel, rfl⟩
theorem d_Md_draw_23 : dd m_Md_draw 23 .irem 1 24 := ⟨by decide +kernel, rfl⟩
theorem d_Md_draw_24 : decode (mbt m_Md_draw) 24 = .ok (.ireturn, 1) := by decide +kernel
theorem d_Md_undo_0 : dd m_Md_undo 0 (.aload_n 0) 1 1 := ⟨by decide +kernel, rfl⟩
theorem d_Md_undo_1 : dd m_Md_undo 1 (.iconst 0) 1 2 := ⟨by decide +kernel, rfl⟩
theorem d_Md_undo_2 : dd m_Md_undo 2 (.putfield 1) 3 5 := ⟨by decide +kernel, rfl⟩
theorem d_Md_undo_5 : dd m_Md_undo 5 (.aload_n 0) 1 6 := ⟨by decide +kernel, rfl⟩
theorem d_Md_undo_6 : dd m_Md_undo 6 (.getfield 164) 3 9 := ⟨by decide +kernel, rfl⟩
theorem d_Md_undo_9 : db m_Md_undo 9 (.ifCond .ne) 12 14 := ⟨5, by decide +kernel, rfl, rfl⟩
theorem d_Md_undo_12 : dd m_Md_undo 12 (.iconst (-1)) 1 13 := ⟨by decide +kernel, rfl⟩
theorem d_Md_undo_13 : decode (mbt m_Md_undo) 13 = .ok (.ireturn, 1) := by decide +kernel
theorem d_Md_undo_14 : dd m_Md_undo 14 (.aload_n 0) 1 15 := ⟨by decide +kernel, rfl⟩
theorem d_Md_undo_15 : dd m_Md_undo 15 .dup 1 16 := ⟨by decide +kernel, rfl⟩
theorem d_Md_undo_16 : dd m_Md_undo 16 (.getfield 164) 3 19 := ⟨by decide +kernel, rfl⟩
theorem d_Md_undo_19 : dd m_Md_undo 19 (.iconst 1) 1 20 := ⟨by decide +kernel, rfl⟩
theorem d_Md_undo_20 : dd m_Md_undo 20 .isub 1 21 := ⟨by decide +kernel, rfl⟩
theorem d_Md_undo_21 : dd m_Md_undo 21 (.putfield 164) 3 24 := ⟨by decide +kernel, rfl⟩
theorem d_Md_undo_24 : dd m_Md_undo 24 (.aload_n 0) 1 25 := ⟨by decide +kernel, rfl⟩
theorem d_Md_undo_25 : dd m_Md_undo 25 (.getfield 65) 3 28 := ⟨by decide +kernel, rfl⟩
theorem d_Md_undo_28 : dd m_Md_undo 28 (.sipush 241) 3 31 := ⟨by decide +kernel, rfl⟩
theorem d_Md_undo_31 : dd m_Md_undo 31 (.aload_n 0) 1 32 := ⟨by decide +kernel, rfl⟩
theorem d_Md_undo_32 : dd m_Md_undo 32 (.getfield 164) 3 35 := ⟨by decide +kernel, rfl⟩
theorem d_Md_undo_35 : dd m_Md_undo 35 .imul 1 36 := ⟨by decide +kernel, rfl⟩
theorem d_Md_undo_36 : dd m_Md_undo 36 (.aload_n 0) 1 37 := ⟨by decide +kernel, rfl⟩
theorem d_Md_undo_37 : dd m_Md_undo 37 (.getfield 56) 3 40 := ⟨by decide +kernel, rfl⟩
theorem d_Md_undo_40 : dd m_Md_undo 40 (.iconst 0) 1 41 := ⟨by decide +kernel, rfl⟩
theorem d_Md_undo_41 : dd m_Md_undo 41 (.invokestatic 160) 3 44 := ⟨by decide +kernel, rfl⟩
theorem d_Md_undo_44 : dd m_Md_undo 44 (.aload_n 0) 1 45 := ⟨by decide +kernel, rfl⟩
theorem d_Md_undo_45 : dd m_Md_undo 45 (.getfield 164) 3 48 := ⟨by decide +kernel, rfl⟩
theorem d_Md_undo_48 : decode (mbt m_Md_undo) 48 = .ok (.ireturn, 1) := by decide +kernel
theorem d_Md_image_0 : dd m_Md_image 0 (.aload_n 0) 1 1 := ⟨by decide +kernel, rfl⟩
theorem d_Md_image_1 : dd m_Md_image 1 (.iconst 0) 1 2 := ⟨by decide +kernel, rfl⟩
theorem d_Md_image_2 : dd m_Md_image 2 (.putfield 1) 3 5 := ⟨by decide +kernel, rfl⟩
theorem d_Md_image_5 : dd m_Md_image 5 (.iload_n 1) 1 6 := ⟨by decide +kernel, rfl⟩
theorem d_Md_image_6 : dd m_Md_image 6 (.iconst 0) 1 7 := ⟨by decide +kernel, rfl⟩
theorem d_Md_image_7 : dd m_Md_image 7 (.iconst 1) 1 8 := ⟨by decide +kernel, rfl⟩
theorem d_Md_image_8 : dd m_Md_image 8 (.invokestatic 118) 3 11 := ⟨by decide +kernel, rfl⟩
theorem d_Md_image_11 : db m_Md_image 11 (.ifCond .ne) 14 16 := ⟨5, by decide +kernel, rfl, rfl⟩
theorem d_Md_image_14 : dd m_Md_image 14 (.iconst 0) 1 15 := ⟨by decide +kernel, rfl⟩
theorem d_Md_image_15 : decode (mbt m_Md_image) 15 = .ok (.ireturn, 1) := by decide +kernel
theorem d_Md_image_16 : dd m_Md_image 16 (.aload_n 0) 1 17 := ⟨by decide +kernel, rfl⟩
theorem d_Md_image_17 : dd m_Md_image 17 (.getfield 56) 3 20 := ⟨by decide +kernel, rfl⟩
theorem d_Md_image_20 : dd m_Md_image 20 (.iconst 0) 1 21 := ⟨by decide +kernel, rfl⟩
theorem d_Md_image_21 : dd m_Md_image 21 (.aload_n 0) 1 22 := ⟨by decide +kernel, rfl⟩
theorem d_Md_image_22 : dd m_Md_image 22 (.getfield 62) 3 25 := ⟨by decide +kernel, rfl⟩
theorem d_Md_image_25 : dd m_Md_image 25 (.sipush 241) 3 28 := ⟨by decide +kernel, rfl⟩
theorem d_Md_image_28 : dd m_Md_image 28 (.iload_n 1) 1 29 := ⟨by decide +kernel, rfl⟩
theorem d_Md_image_29 : dd m_Md_image 29 .imul 1 30 := ⟨by decide +kernel, rfl⟩
theorem d_Md_image_30 : dd m_Md_image 30 (.invokestatic 160) 3 33 := ⟨by decide +kernel, rfl⟩
theorem d_Md_image_33 : dd m_Md_image 33 (.aload_n 0) 1 34 := ⟨by decide +kernel, rfl⟩
theorem d_Md_image_34 : dd m_Md_image 34 (.getfield 68) 3 37 := ⟨by decide +kernel, rfl⟩
theorem d_Md_image_37 : dd m_Md_image 37 (.iload_n 1) 1 38 := ⟨by decide +kernel, rfl⟩
theorem d_Md_image_38 : dd m_Md_image 38 (.iconst 1) 1 39 := ⟨by decide +kernel, rfl⟩
theorem d_Md_image_39 : dd m_Md_image 39 .bastore 1 40 := ⟨by decide +kernel, rfl⟩
theorem d_Md_image_40 : dd m_Md_image 40 (.iconst 1) 1 41 := ⟨by decide +kernel, rfl⟩
theorem d_Md_image_41 : decode (mbt m_Md_image) 41 = .ok (.ireturn, 1) := by decide +kernel
theorem d_Md_restore_0 : dd m_Md_restore 0 (.aload_n 0) 1 1 := ⟨by decide +kernel, rfl⟩
theorem d_Md_restore_1 : dd m_Md_restore 1 (.iconst 0) 1 2 := ⟨by decide +kernel, rfl⟩
theorem d_Md_restore_2 : dd m_Md_restore 2 (.putfield 1) 3 5 := ⟨by decide +kernel, rfl⟩
theorem d_Md_restore_5 : dd m_Md_restore 5 (.iload_n 1) 1 6 := ⟨by decide +kernel, rfl⟩
theorem d_Md_restore_6 : dd m_Md_restore 6 (.iconst 0) 1 7 := ⟨by decide +kernel, rfl⟩
theorem d_Md_restore_7 : dd m_Md_restore 7 (.iconst 1) 1 8 := ⟨by decide +kernel, rfl⟩
theorem d_Md_restore_8 : dd m_Md_restore 8 (.invokestatic 118) 3 11 := ⟨by decide +kernel, rfl⟩
theorem d_Md_restore_11 : db m_Md_restore 11 (.ifCond .eq) 14 23 := ⟨12, by decide +kernel, rfl, rfl⟩
theorem d_Md_restore_14 : dd m_Md_restore 14 (.aload_n 0) 1 15 := ⟨by decide +kernel, rfl⟩
theorem d_Md_restore_15 : dd m_Md_restore 15 (.getfield 68) 3 18 := ⟨by decide +kernel, rfl⟩
theorem d_Md_restore_18 : dd m_Md_restore 18 (.iload_n 1) 1 19 := ⟨by decide +kernel, rfl⟩
theorem d_Md_restore_19 : dd m_Md_restore 19 .baload 1 20 := ⟨by decide +kernel, rfl⟩
theorem d_Md_restore_20 : db m_Md_restore 20 (.ifCond .ne) 23 25 := ⟨5, by decide +kernel, rfl, rfl⟩
theorem d_Md_restore_23 : dd m_Md_restore 23 (.iconst 0) 1 24 := ⟨by decide +kernel, rfl⟩
theorem d_Md_restore_24 : decode (mbt m_Md_restore) 24 = .ok (.ireturn, 1) := by decide +kernel
theorem d_Md_restore_25 : dd m_Md_restore 25 (.aload_n 0) 1 26 := ⟨by decide +kernel, rfl⟩
theorem d_Md_restore_26 : dd m_Md_restore 26 (.getfield 62) 3 29 := ⟨by decide +kernel, rfl⟩
theorem d_Md_restore_29 : dd m_Md_restore 29 (.sipush 241) 3 32 := ⟨by decide +kernel, rfl⟩
theorem d_Md_restore_32 : dd m_Md_restore 32 (.iload_n 1) 1 33 := ⟨by decide +kernel, rfl⟩
theorem d_Md_restore_33 : dd m_Md_restore 33 .imul 1 34 := ⟨by decide +kernel, rfl⟩
theorem d_Md_restore_34 : dd m_Md_restore 34 (.aload_n 0) 1 35 := ⟨by decide +kernel, rfl⟩
theorem d_Md_restore_35 : dd m_Md_restore 35 (.getfield 56) 3 38 := ⟨by decide +kernel, rfl⟩
theorem d_Md_restore_38 : dd m_Md_restore 38 (.iconst 0) 1 39 := ⟨by decide +kernel, rfl⟩
theorem d_Md_restore_39 : dd m_Md_restore 39 (.invokestatic 160) 3 42 := ⟨by decide +kernel, rfl⟩
theorem d_Md_restore_42 : dd m_Md_restore 42 (.aload_n 0) 1 43 := ⟨by decide +kernel, rfl⟩
theorem d_Md_restore_43 : dd m_Md_restore 43 (.iconst 0) 1 44 := ⟨by decide +kernel, rfl⟩
theorem d_Md_restore_44 : dd m_Md_restore 44 (.putfield 164) 3 47 := ⟨by decide +kernel, rfl⟩
theorem d_Md_restore_47 : dd m_Md_restore 47 (.iconst 1) 1 48 := ⟨by decide +kernel, rfl⟩
theorem d_Md_restore_48 : decode (mbt m_Md_restore) 48 = .ok (.ireturn, 1) := by decide +kernel
end
section
/-! The things that the law makes, by their order: which kind each is, what its references are; they stay so. -/
def gSt (k : Nat) : Nat × Nat := if k = 0 then (13, 0) else if k = 1 then (5, 6) else if k < 8 then (1, 10) else if k = 8 then (7, 4) else if k = 9 then (5, 10) else if k < 20 then (1, 10) else if k % 3 = 2 then (14, 0) else (1, 10)
def gSr (s k j : Nat) : Option Nat :=
  if k = 0 then (if j = 0 then some (s + 1) else if j = 1 then some (s + 8) else if j = 2 then some (s + 9) else none)
  else if k = 1 then (if j < 6 then some (s + 2 + j) else none)
  else if k = 8 then (if j < 4 then some (s + 20 + 3 * j) else none)
  else if k = 9 then (if j < 10 then some (s + 10 + j) else none)
  else if 20 ≤ k ∧ k % 3 = 2 then (if j < 2 then some (s + k + 1 + j) else none)
  else none
def gT (a : Nat) : Nat × Nat :=
  if a < 34 then (if a = 0 then (17, 0) else if a = 1 then (11, 0) else gSt (a - 2))
  else if a < 71 then (if a = 34 then (16, 0) else if a = 35 then (2, 540) else if a = 36 then (1, 10) else if a < 69 then gSt (a - 37) else if a = 69 then (10, 0) else (6, 8))
  else if a < 327 then gSt ((a - 71) % 32)
  else if a < 392 then (if a = 327 then (6, 2) else gSt ((a - 328) % 32))
  else if a < 407 then (if a = 392 then (3, 2) else if a = 393 then (12, 0) else if a < 397 then (1, 10) else if a = 397 then (15, 0) else if (a - 398) % 3 = 0 then (14, 0) else (1, 10))
  else if a < 436 then (if a = 410 then (5, 10) else if a = 421 then (5, 10) else if a = 432 then (12, 0) else (1, 10))
  else if a < 443 then (if a = 436 then (18, 0) else if a = 437 then (1, 540) else if a = 438 then (1, 241) else if a = 439 then (1, 241) else if a = 440 then (1, 482) else if a = 441 then (1, 1928) else (3, 2))
  else if a < 454 then (if a < 448 then (1, 10) else if a < 452 then (1, 100) else if a = 452 then (1, 10) else (4, 1))
  else (0, 0)
def gR (a j : Nat) : Option Nat :=
  if a < 34 then (if a = 0 then ([34, 1, 37, 69, 327, 392, 393, 397][j]?) else if a = 1 then ([2, 34, 36][j]?) else gSr 2 (a - 2) j)
  else if a < 71 then (if a = 34 then (if j = 0 then some 35 else none) else if a = 35 then none else if a = 36 then none else if a < 69 then gSr 37 (a - 37) j else if a = 69 then (if j = 0 then some 70 else none) else if j < 8 then some (71 + 32 * j) else none)
  else if a < 327 then gSr (71 + 32 * ((a - 71) / 32)) ((a - 71) % 32) j
  else if a < 392 then (if a = 327 then (if j < 2 then some (328 + 32 * j) else none) else gSr (328 + 32 * ((a - 328) / 32)) ((a - 328) % 32) j)
  else if a < 407 then (if a = 393 then ([394, 395, 396][j]?) else if a = 397 then ([398, 401, 404, 407, 408, 409, 410, 421, 432][j]?) else if 398 ≤ a ∧ (a - 398) % 3 = 0 then (if j < 2 then some (a + 1 + j) else none) else none)
  else if a < 436 then (if a = 410 then (if j < 10 then some (411 + j) else none) else if a = 421 then (if j < 10 then some (422 + j) else none) else if a = 432 then ([433, 434, 435][j]?) else none)
  else if a = 436 then (if j = 1 then some 437 else if 10 ≤ j ∧ j < 15 then some (428 + j) else if 20 ≤ j ∧ j < 30 then some (423 + j) else none)
  else none
abbrev Mem : Type := Nat → Nat → Int32
abbrev gh (n : Nat) (M : Mem) : AH := (n, gT, gR, M)
/-- one row of the memory becomes another one -/
def wr (M : Mem) (a : Nat) (f : Nat → Int32) : Mem := fun b => if b = a then f else M b
theorem wr_eq (M : Mem) (a : Nat) (f : Nat → Int32) : wr M a f a = f := by simp [wr]
theorem wr_ne (M : Mem) {a b : Nat} (f : Nat → Int32) (h : b ≠ a) : wr M a f b = M b := by simp [wr, h]
theorem wr_wr (M : Mem) (a : Nat) (f g : Nat → Int32) : wr (wr M a f) a g = wr M a g := by
  funext b
  by_cases h : b = a <;> simp [wr, h]
theorem upm_wr (M : Mem) (a k : Nat) (v : Int32) : upm M a k v = wr M a (fun j => if j = k then v else M a j) := rfl
def QI (n : Nat) (P : Int32 → Mem → Prop) : Option Value → AH → Prop := fun v h' => ∃ x M', v = some (.int x) ∧ h' = gh n M' ∧ P x M'
def QJ (n : Nat) (P : Int64 → Mem → Prop) : Option Value → AH → Prop := fun v h' => ∃ x M', v = some (.long x) ∧ h' = gh n M' ∧ P x M'
def QV (n : Nat) (P : Mem → Prop) : Option Value → AH → Prop := fun v h' => ∃ M', v = none ∧ h' = gh n M' ∧ P M'
/-- contracts of methods that answer an int, a long, nothing, over the things as they stand -/
def CI (o : OM) (l : Launch) (m : MD) (n : Nat) (av : List Value) (M : Mem) (P : Int32 → Mem → Prop) : Prop := Cl o l m (0, 0) av (gh n M) (QI n P)
def CJ (o : OM) (l : Launch) (m : MD) (n : Nat) (av : List Value) (M : Mem) (P : Int64 → Mem → Prop) : Prop := Cl o l m (0, 0) av (gh n M) (QJ n P)
def CV (o : OM) (l : Launch) (m : MD) (n : Nat) (av : List Value) (M : Mem) (P : Mem → Prop) : Prop := Cl o l m (0, 0) av (gh n M) (QV n P)
section RG
variable {o : OM} {l : Launch} {m k : MD} {bg : Nat × Nat} {pc pc' tgt : Nat} {L L' : List (Option Value)} {st : List Value} {n : Nat} {M : Mem} {Q : Option Value → AH → Prop}
theorem g_iald {a N j : Nat} (hd : dd m pc .iaload 1 pc') (ha : gT a = (1, N)) (hj : j < N) (hN : N < 2 ^ 31) (k : Rn o l m bg pc' L (.int (M a j) :: st) (gh n M) Q) : Rn o l m bg pc L (.int (nI j) :: .ref a :: st) (gh n M) Q := r_iald hd ha rfl hj hN k
theorem g_ialdV {a N j : Nat} {x : Int32} (hd : dd m pc .iaload 1 pc') (ha : gT a = (1, N)) (hj : j < N) (hN : N < 2 ^ 31) (hv : M a j = x) (k : Rn o l m bg pc' L (.int x :: st) (gh n M) Q) : Rn o l m bg pc L (.int (nI j) :: .ref a :: st) (gh n M) Q := by
  subst hv
  exact r_iald hd ha rfl hj hN k
theorem g_bald {a N j : Nat} (hd : dd m pc .baload 1 pc') (ha : gT a = (2, N)) (hj : j < N) (hN : N < 2 ^ 31) (k : Rn o l m bg pc' L (.int (M a j) :: st) (gh n M) Q) : Rn o l m bg pc L (.int (nI j) :: .ref a :: st) (gh n M) Q := r_bald hd ha rfl hj hN k
theorem g_zald {a N j : Nat} (hd : dd m pc .baload 1 pc') (ha : gT a = (3, N)) (hj : j < N) (hN : N < 2 ^ 31) (k : Rn o l m bg pc' L (.int (M a j) :: st) (gh n M) Q) : Rn o l m bg pc L (.int (nI j) :: .ref a :: st) (gh n M) Q := r_zald hd ha rfl hj hN k
theorem g_aald {a N j t b : Nat} (hd : dd m pc .aaload 1 pc') (ha : gT a = (t, N)) (ht : t = 5 ∨ t = 6 ∨ t = 7) (hj : j < N) (hN : N < 2 ^ 31) (hr : gR a j = some b) (k : Rn o l m bg pc' L (.ref b :: st) (gh n M) Q) : Rn o l m bg pc L (.int (nI j) :: .ref a :: st) (gh n M) Q := r_aald hd ha ht rfl hj hN hr k
theorem g_alen {a N t : Nat} (hd : dd m pc .arraylength 1 pc') (ha : gT a = (t, N)) (ht : 1 ≤ t ∧ t ≤ 7) (k : Rn o l m bg pc' L (.int (nI N) :: st) (gh n M) Q) : Rn o l m bg pc L (.ref a :: st) (gh n M) Q := r_alen hd ha ht k
theorem g_iast {a N j : Nat} {x : Int32} (hd : dd m pc .iastore 1 pc') (ha : gT a = (1, N)) (hj : j < N) (hN : N < 2 ^ 31) (k : Rn o l m bg pc' L st (gh n (upm M a j x)) Q) : Rn o l m bg pc L (.int x :: .int (nI j) :: .ref a :: st) (gh n M) Q := r_iast hd ha rfl hj hN k
theorem g_bast {a N j : Nat} {x : Int32} (hd : dd m pc .bastore 1 pc') (ha : gT a = (2, N)) (hj : j < N) (hN : N < 2 ^ 31) (k : Rn o l m bg pc' L st (gh n (upm M a j x.toInt8.toInt32)) Q) : Rn o l m bg pc L (.int x :: .int (nI j) :: .ref a :: st) (gh n M) Q := r_bast hd ha rfl hj hN k
theorem g_zast {a N j : Nat} {x : Int32} (hd : dd m pc .bastore 1 pc') (ha : gT a = (3, N)) (hj : j < N) (hN : N < 2 ^ 31) (hx : narrow .boolean (.int x) = .int x) (k : Rn o l m bg pc' L st (gh n (upm M a j x)) Q) : Rn o l m bg pc L (.int x :: .int (nI j) :: .ref a :: st) (gh n M) Q := r_zast hd ha rfl hj hN hx k
theorem g_geti {a idx ci k : Nat} (hd : dd m pc (.getfield idx) 3 pc') (hf : FLk (mcls m) idx ci k) (hr : isR (10 + ci) k = false) (ha : (gT a).1 = 10 + ci) (kk : Rn o l m bg pc' L (.int (M a k) :: st) (gh n M) Q) : Rn o l m bg pc L (.ref a :: st) (gh n M) Q := r_geti hd hf hr ha kk
theorem g_getr {a idx ci k b : Nat} (hd : dd m pc (.getfield idx) 3 pc') (hf : FLk (mcls m) idx ci k) (hr : isR (10 + ci) k = true) (ha : (gT a).1 = 10 + ci) (hb : gR a k = some b) (kk : Rn o l m bg pc' L (.ref b :: st) (gh n M) Q) : Rn o l m bg pc L (.ref a :: st) (gh n M) Q := r_getr hd hf hr ha hb kk
theorem g_puti {a idx ci k : Nat} {x : Int32} (hd : dd m pc (.putfield idx) 3 pc') (hf : FLk (mcls m) idx ci k) (hr : isR (10 + ci) k = false ∧ fY ci k = .int ∧ (fT ci k).2.2.2 = false) (ha : (gT a).1 = 10 + ci) (kk : Rn o l m bg pc' L st (gh n (upm M a k x)) Q) : Rn o l m bg pc L (.int x :: .ref a :: st) (gh n M) Q := r_puti hd hf hr.1 hr.2.1 hr.2.2 ha kk
theorem g_copy {idx a b n0 n1 sp dp c : Nat} (hd : dd m pc (.invokestatic idx) 3 pc') (hk : Cond.methodLink (mcls m) idx arraycopyName ∈ gt_ws) (hdp : 1 ≤ mdp m) (ha : gT a = (1, n0)) (hb : gT b = (1, n1)) (hs1 : sp + c ≤ n0) (hs2 : dp + c ≤ n1) (hz : n0 < 2 ^ 31 ∧ n1 < 2 ^ 31) (hw : (st.map fun v => v.category).sum ≤ 8)
    (kk : Rn o l m bg pc' L st (gh n (wr M b (va_cpy (M a) (M b) sp dp c))) Q) : Rn o l m bg pc L (.int (nI c) :: .int (nI dp) :: .ref b :: .int (nI sp) :: .ref a :: st) (gh n M) Q := r_copy hd ⟨hk, w_acopy⟩ hdp ha hb rfl rfl rfl hs1 hs2 hz hw kk
theorem ci_of {av : List Value} {P : Int32 → Mem → Prop} (hp : plainName (mnam m).cls = true) (hcls : (mnam m).cls = mcls m) (hL : entL av (mml m) = L) (hlen : (lg_sl av).length ≤ mml m) (k : Rn o l m (0, 0) 0 L [] (gh n M) (QI n P)) : CI o l m n av M P := cl_of hp hcls hL hlen k
theorem cj_of {av : List Value} {P : Int64 → Mem → Prop} (hp : plainName (mnam m).cls = true) (hcls : (mnam m).cls = mcls m) (hL : entL av (mml m) = L) (hlen : (lg_sl av).length ≤ mml m) (k : Rn o l m (0, 0) 0 L [] (gh n M) (QJ n P)) : CJ o l m n av M P := cl_of hp hcls hL hlen k
theorem cvo_of {av : List Value} {P : Mem → Prop} (hp : plainName (mnam m).cls = true) (hcls : (mnam m).cls = mcls m) (hL : entL av (mml m) = L) (hlen : (lg_sl av).length ≤ mml m) (k : Rn o l m (0, 0) 0 L [] (gh n M) (QV n P)) : CV o l m n av M P := cl_of hp hcls hL hlen k
theorem g_reti {x : Int32} {P : Int32 → Mem → Prop} (hd : decode (mbt m) pc = .ok (.ireturn, 1)) (hr : mrt m = some .int) (hq : P x M) : Rn o l m bg pc L [.int x] (gh n M) (QI n P) := r_ireturn hd hr ⟨x, M, rfl, rfl, hq⟩
theorem g_retz {x : Int32} {P : Int32 → Mem → Prop} (hd : decode (mbt m) pc = .ok (.ireturn, 1)) (hr : mrt m = some .boolean) (hx : narrow .boolean (.int x) = .int x) (hq : P x M) : Rn o l m bg pc L [.int x] (gh n M) (QI n P) := r_zreturn hd hr hx ⟨x, M, rfl, rfl, hq⟩
theorem g_retl {x : Int64} {P : Int64 → Mem → Prop} (hd : decode (mbt m) pc = .ok (.lreturn, 1)) (hr : mrt m = some .long) (hq : P x M) : Rn o l m bg pc L [.long x] (gh n M) (QJ n P) := r_lreturn hd hr ⟨x, M, rfl, rfl, hq⟩
theorem g_retv {P : Mem → Prop} (hd : decode (mbt m) pc = .ok (.return_, 1)) (hr : mrt m = none) (hq : P M) : Rn o l m bg pc L [] (gh n M) (QV n P) := r_return hd hr ⟨M, rfl, rfl, hq⟩
theorem g_Si {idx nn : Nat} {av st0 : List Value} {P : Int32 → Mem → Prop} (hd : dd m pc (.invokestatic idx) 3 pc') (hk : LKd (mcls m) idx nn k) (hs : Cond.static (mnam k) ∈ gt_ws) (hdp : mdp k + 1 ≤ mdp m) (hn : av.length = nn) (hst : st0 = av.reverse ++ st) (hw : (st.map fun v => v.category).sum ≤ 8) (hc : CI o l k n av M P) (kk : ∀ x M', P x M' → Rn o l m bg pc' L (.int x :: st) (gh n M') Q) : Rn o l m bg pc L st0 (gh n M) Q := by
  refine r_callS hd hk hs hdp hn hst hw hc ?_
  rintro v h' ⟨x, M', rfl, rfl, hp⟩
  exact kk x M' hp
theorem g_Sj {idx nn : Nat} {av st0 : List Value} {P : Int64 → Mem → Prop} (hd : dd m pc (.invokestatic idx) 3 pc') (hk : LKd (mcls m) idx nn k) (hs : Cond.static (mnam k) ∈ gt_ws) (hdp : mdp k + 1 ≤ mdp m) (hn : av.length = nn) (hst : st0 = av.reverse ++ st) (hw : (st.map fun v => v.category).sum ≤ 8) (hc : CJ o l k n av M P) (kk : ∀ x M', P x M' → Rn o l m bg pc' L (.long x :: st) (gh n M') Q) : Rn o l m bg pc L st0 (gh n M) Q := by
  refine r_callS hd hk hs hdp hn hst hw hc ?_
  rintro v h' ⟨x, M', rfl, rfl, hp⟩
  exact kk x M' hp
theorem g_Sv {idx nn : Nat} {av st0 : List Value} {P : Mem → Prop} (hd : dd m pc (.invokestatic idx) 3 pc') (hk : LKd (mcls m) idx nn k) (hs : Cond.static (mnam k) ∈ gt_ws) (hdp : mdp k + 1 ≤ mdp m) (hn : av.length = nn) (hst : st0 = av.reverse ++ st) (hw : (st.map fun v => v.category).sum ≤ 8) (hc : CV o l k n av M P) (kk : ∀ M', P M' → Rn o l m bg pc' L st (gh n M') Q) : Rn o l m bg pc L st0 (gh n M) Q := by
  refine r_callS hd hk hs hdp hn hst hw hc ?_
  rintro v h' ⟨M', rfl, rfl, hp⟩
  exact kk M' hp
theorem g_Vi {idx nn a ci : Nat} {av st0 : List Value} {P : Int32 → Mem → Prop} (hd : dd m pc (.invokevirtual idx) 3 pc') (hk : LKd (mcls m) idx nn k) (hs : Cond.instanceMethod (mnam k) ∈ gt_ws ∧ Cond.selects (fC ci) (mnam k) (mnam k) ∈ gt_ws ∧ ci < 9) (hdp : mdp k + 1 ≤ mdp m) (hn : av.length = nn) (hst : st0 = av.reverse ++ .ref a :: st) (hw : (st.map fun v => v.category).sum ≤ 8) (ha : (gT a).1 = 10 + ci) (hc : CI o l k n (.ref a :: av) M P) (kk : ∀ x M', P x M' → Rn o l m bg pc' L (.int x :: st) (gh n M') Q) : Rn o l m bg pc L st0 (gh n M) Q := by
  refine r_callV hd hk hs hdp hn hst hw ha hc ?_
  rintro v h' ⟨x, M', rfl, rfl, hp⟩
  exact kk x M' hp
theorem g_Vj {idx nn a ci : Nat} {av st0 : List Value} {P : Int64 → Mem → Prop} (hd : dd m pc (.invokevirtual idx) 3 pc') (hk : LKd (mcls m) idx nn k) (hs : Cond.instanceMethod (mnam k) ∈ gt_ws ∧ Cond.selects (fC ci) (mnam k) (mnam k) ∈ gt_ws ∧ ci < 9) (hdp : mdp k + 1 ≤ mdp m) (hn : av.length = nn) (hst : st0 = av.reverse ++ .ref a :: st) (hw : (st.map fun v => v.category).sum ≤ 8) (ha : (gT a).1 = 10 + ci) (hc : CJ o l k n (.ref a :: av) M P) (kk : ∀ x M', P x M' → Rn o l m bg pc' L (.long x :: st) (gh n M') Q) : Rn o l m bg pc L st0 (gh n M) Q := by
  refine r_callV hd hk hs hdp hn hst hw ha hc ?_
  rintro v h' ⟨x, M', rfl, rfl, hp⟩
  exact kk x M' hp
theorem g_Vv {idx nn a ci : Nat} {av st0 : List Value} {P : Mem → Prop} (hd : dd m pc (.invokevirtual idx) 3 pc') (hk : LKd (mcls m) idx nn k) (hs : Cond.instanceMethod (mnam k) ∈ gt_ws ∧ Cond.selects (fC ci) (mnam k) (mnam k) ∈ gt_ws ∧ ci < 9) (hdp : mdp k + 1 ≤ mdp m) (hn : av.length = nn) (hst : st0 = av.reverse ++ .ref a :: st) (hw : (st.map fun v => v.category).sum ≤ 8) (ha : (gT a).1 = 10 + ci) (hc : CV o l k n (.ref a :: av) M P) (kk : ∀ M', P M' → Rn o l m bg pc' L st (gh n M') Q) : Rn o l m bg pc L st0 (gh n M) Q := by
  refine r_callV hd hk hs hdp hn hst hw ha hc ?_
  rintro v h' ⟨M', rfl, rfl, hp⟩
  exact kk M' hp
/-! arithmetic on numbers from 0 on -/
theorem r_top {x y : Int32} {h : AH} (e : x = y) (kk : Rn o l m bg pc L (.int y :: st) h Q) : Rn o l m bg pc L (.int x :: st) h Q := e ▸ kk
theorem r_topl {x y : Int64} {h : AH} (e : x = y) (kk : Rn o l m bg pc L (.long y :: st) h Q) : Rn o l m bg pc L (.long x :: st) h Q := e ▸ kk
theorem n_iadd {a b : Nat} {h : AH} (hd : dd m pc .iadd 1 pc') (kk : Rn o l m bg pc' L (.int (nI (a + b)) :: st) h Q) : Rn o l m bg pc L (.int (nI b) :: .int (nI a) :: st) h Q := r_iadd hd (r_top (nI_add a b) kk)
theorem n_isub {a b : Nat} {h : AH} (hd : dd m pc .isub 1 pc') (hb : b ≤ a) (kk : Rn o l m bg pc' L (.int (nI (a - b)) :: st) h Q) : Rn o l m bg pc L (.int (nI b) :: .int (nI a) :: st) h Q := r_isub hd (r_top (pk_sub hb) kk)
theorem n_imul {a b : Nat} {h : AH} (hd : dd m pc .imul 1 pc') (kk : Rn o l m bg pc' L (.int (nI (a * b)) :: st) h Q) : Rn o l m bg pc L (.int (nI b) :: .int (nI a) :: st) h Q := r_imul hd (r_top (pk_mul a b) kk)
theorem n_irem {a b : Nat} {h : AH} (hd : dd m pc .irem 1 pc') (ha : a < 2 ^ 31) (hb : 0 < b) (hb2 : b < 2 ^ 31) (kk : Rn o l m bg pc' L (.int (nI (a % b)) :: st) h Q) : Rn o l m bg pc L (.int (nI b) :: .int (nI a) :: st) h Q := r_irem hd (nI_ne0 hb hb2) (r_top (pk_rem ha hb hb2) kk)
theorem n_i2l {a : Nat} {h : AH} (hd : dd m pc .i2l 1 pc') (ha : a < 2 ^ 31) (kk : Rn o l m bg pc' L (.long (lN a) :: st) h Q) : Rn o l m bg pc L (.int (nI a) :: st) h Q := r_i2l hd (r_topl (nI_l ha) kk)
theorem n_ladd {a b : Nat} {h : AH} (hd : dd m pc .ladd 1 pc') (kk : Rn o l m bg pc' L (.long (lN (a + b)) :: st) h Q) : Rn o l m bg pc L (.long (lN b) :: .long (lN a) :: st) h Q := r_ladd hd (r_topl (lN_add a b) kk)
theorem n_lmul {a b : Nat} {h : AH} (hd : dd m pc .lmul 1 pc') (kk : Rn o l m bg pc' L (.long (lN (a * b)) :: st) h Q) : Rn o l m bg pc L (.long (lN b) :: .long (lN a) :: st) h Q := r_lmul hd (r_topl (lN_mul a b) kk)
theorem n_lrem {a b : Nat} {h : AH} (hd : dd m pc .lrem 1 pc') (ha : a < 2 ^ 63) (hb : 0 < b) (hb2 : b < 2 ^ 63) (kk : Rn o l m bg pc' L (.long (lN (a % b)) :: st) h Q) : Rn o l m bg pc L (.long (lN b) :: .long (lN a) :: st) h Q := r_lrem hd (fun e => by
  have := (pk_lEQ (a := b) (b := 0) hb2 (by omega)).mp e
  omega) (r_topl (pk_lRem ha hb hb2) kk)
theorem n_l2i {a : Nat} {h : AH} (hd : dd m pc .l2i 1 pc') (kk : Rn o l m bg pc' L (.int (nI a) :: st) h Q) : Rn o l m bg pc L (.long (lN a) :: st) h Q := r_l2i hd (r_top (lN_i a) kk)
theorem n_icmp_lt {a b : Nat} {h : AH} (hd : db m pc (.if_icmp .lt) pc' tgt) (ha : a < 2 ^ 31) (hb : b < 2 ^ 31) (kt : a < b → Rn o l m bg tgt L st h Q) (kf : b ≤ a → Rn o l m bg pc' L st h Q) : Rn o l m bg pc L (.int (nI b) :: .int (nI a) :: st) h Q := r_icmp_lt hd (fun e => kt ((nI_ltI ha hb).mp e)) (fun e => kf (Nat.le_of_not_lt fun q => e ((nI_ltI ha hb).mpr q)))
theorem n_icmp_ge {a b : Nat} {h : AH} (hd : db m pc (.if_icmp .ge) pc' tgt) (ha : a < 2 ^ 31) (hb : b < 2 ^ 31) (kt : b ≤ a → Rn o l m bg tgt L st h Q) (kf : a < b → Rn o l m bg pc' L st h Q) : Rn o l m bg pc L (.int (nI b) :: .int (nI a) :: st) h Q := r_icmp_ge hd (fun e => kt ((nI_leI hb ha).mp e)) (fun e => kf (Nat.lt_of_not_le fun q => e ((nI_leI hb ha).mpr q)))
theorem n_icmp_gt {a b : Nat} {h : AH} (hd : db m pc (.if_icmp .gt) pc' tgt) (ha : a < 2 ^ 31) (hb : b < 2 ^ 31) (kt : b < a → Rn o l m bg tgt L st h Q) (kf : a ≤ b → Rn o l m bg pc' L st h Q) : Rn o l m bg pc L (.int (nI b) :: .int (nI a) :: st) h Q := r_icmp_gt hd (fun e => kt ((nI_ltI hb ha).mp e)) (fun e => kf (Nat.le_of_not_lt fun q => e ((nI_ltI hb ha).mpr q)))
theorem n_icmp_le {a b : Nat} {h : AH} (hd : db m pc (.if_icmp .le) pc' tgt) (ha : a < 2 ^ 31) (hb : b < 2 ^ 31) (kt : a ≤ b → Rn o l m bg tgt L st h Q) (kf : b < a → Rn o l m bg pc' L st h Q) : Rn o l m bg pc L (.int (nI b) :: .int (nI a) :: st) h Q := r_icmp_le hd (fun e => kt ((nI_leI ha hb).mp e)) (fun e => kf (Nat.lt_of_not_le fun q => e ((nI_leI ha hb).mpr q)))
theorem n_icmp_eq {a b : Nat} {h : AH} (hd : db m pc (.if_icmp .eq) pc' tgt) (ha : a < 2 ^ 31) (hb : b < 2 ^ 31) (kt : a = b → Rn o l m bg tgt L st h Q) (kf : a ≠ b → Rn o l m bg pc' L st h Q) : Rn o l m bg pc L (.int (nI b) :: .int (nI a) :: st) h Q := r_icmp_eq hd (fun e => kt ((nI_eq ha hb).mp e)) (fun e => kf (fun q => e ((nI_eq ha hb).mpr q)))
theorem n_icmp_ne {a b : Nat} {h : AH} (hd : db m pc (.if_icmp .ne) pc' tgt) (ha : a < 2 ^ 31) (hb : b < 2 ^ 31) (kt : a ≠ b → Rn o l m bg tgt L st h Q) (kf : a = b → Rn o l m bg pc' L st h Q) : Rn o l m bg pc L (.int (nI b) :: .int (nI a) :: st) h Q := r_icmp_ne hd (fun e => kt (fun q => e ((nI_eq ha hb).mpr q))) (fun e => kf ((nI_eq ha hb).mp e))
theorem n_if_eq {a : Nat} {h : AH} (hd : db m pc (.ifCond .eq) pc' tgt) (ha : a < 2 ^ 31) (kt : a = 0 → Rn o l m bg tgt L st h Q) (kf : a ≠ 0 → Rn o l m bg pc' L st h Q) : Rn o l m bg pc L (.int (nI a) :: st) h Q := r_if_eq hd (fun e => kt ((nI_eq ha (by omega)).mp (e.trans nI_0.symm))) (fun e => kf (fun q => e (by rw [q]; exact nI_0)))
theorem n_if_ne {a : Nat} {h : AH} (hd : db m pc (.ifCond .ne) pc' tgt) (ha : a < 2 ^ 31) (kt : a ≠ 0 → Rn o l m bg tgt L st h Q) (kf : a = 0 → Rn o l m bg pc' L st h Q) : Rn o l m bg pc L (.int (nI a) :: st) h Q := r_if_ne hd (fun e => kt (fun q => e (by rw [q]; exact nI_0))) (fun e => kf ((nI_eq ha (by omega)).mp (e.trans nI_0.symm)))
theorem n_if_le {a : Nat} {h : AH} (hd : db m pc (.ifCond .le) pc' tgt) (ha : a < 2 ^ 31) (kt : a = 0 → Rn o l m bg tgt L st h Q) (kf : 0 < a → Rn o l m bg pc' L st h Q) : Rn o l m bg pc L (.int (nI a) :: st) h Q := r_if_le hd (fun e => kt (Nat.eq_zero_of_not_pos fun q => nI_nle q ha e)) (fun e => kf (Nat.pos_of_ne_zero fun q => e (by rw [q]; decide)))
theorem n_if_lt {a : Nat} {h : AH} (hd : db m pc (.ifCond .lt) pc' tgt) (ha : a < 2 ^ 31) (kf : Rn o l m bg pc' L st h Q) : Rn o l m bg pc L (.int (nI a) :: st) h Q := r_if_lt hd (fun e => absurd e (nI_pos ha)) (fun _ => kf)
theorem n_if_ge {a : Nat} {h : AH} (hd : db m pc (.ifCond .ge) pc' tgt) (ha : a < 2 ^ 31) (kt : Rn o l m bg tgt L st h Q) : Rn o l m bg pc L (.int (nI a) :: st) h Q := r_if_ge hd (fun _ => kt) (fun e => absurd (nI_pos' ha) e)
theorem n_iinc {i a c : Nat} {h : AH} {nn : Int} (hd : dd m pc (.iinc i nn) 3 pc') (hl : L[i]? = some (some (.int (nI a)))) (hc : Int32.ofInt nn = nI c) (hn : i < mml m) (hL : st1 L i (.int (nI (a + c))) = L') (kk : Rn o l m bg pc' L' st h Q) : Rn o l m bg pc L st h Q := r_iinc hd hl (by rw [hc]; exact nI_add a c) hn hL kk
theorem n_iincm {i a : Nat} {h : AH} (hd : dd m pc (.iinc i (-1)) 3 pc') (hl : L[i]? = some (some (.int (nI (a + 1))))) (hn : i < mml m) (hL : st1 L i (.int (nI a)) = L') (kk : Rn o l m bg pc' L' st h Q) : Rn o l m bg pc L st h Q := r_iinc hd hl (by show nI (a + 1) + (-1) = nI a; exact pk_m1 a) hn hL kk
end RG
end
section
/-! SeriesTables.Rows and what it calls -/
section NX
variable {o : OM} {l : Launch} {m k : MD} {bg : Nat × Nat} {pc pc' tgt : Nat} {L L' : List (Option Value)} {st : List Value} {Q : Option Value → AH → Prop}
theorem n_iincd {i a : Nat} {h : AH} (hd : dd m pc (.iinc i (-1)) 3 pc') (hl : L[i]? = some (some (.int (nI a)))) (hn : i < mml m) (hL : st1 L i (.int (nI a - 1)) = L') (kk : Rn o l m bg pc' L' st h Q) : Rn o l m bg pc L st h Q := r_iinc hd hl (by show nI a + (-1) = nI a - 1; rw [Int32.sub_eq_add_neg]) hn hL kk
end NX
theorem pp_lt {a b : Nat} (ha : a < 1000003) (hb : b < 1000003) : a * b < 1000006000009 := Nat.mul_lt_mul'' ha hb
/-- a row of residues -/
def OKr (M : Mem) (a : Nat) (x : Nat → Nat) : Prop := ∀ j, j < 10 → M a j = nI (x j) ∧ x j < 1000003
/-- the first i of g, then f -/
def fl (i : Nat) (g f : Nat → Int32) : Nat → Int32 := fun j => if j < i then g j else f j
theorem fl_0 (g f : Nat → Int32) : fl 0 g f = f := by funext j; simp [fl]
theorem fl_step (i : Nat) (g f : Nat → Int32) : (fun j => if j = i then g i else fl i g f j) = fl (i + 1) g f := by
  funext j
  unfold fl
  by_cases e : j = i
  · subst e; simp
  · by_cases h : j < i
    · simp [e, h, Nat.lt_succ_of_lt h]
    · simp [e, h, show ¬ j < i + 1 by omega]
theorem upm_fl (M : Mem) (a i : Nat) (g : Nat → Int32) {v : Int32} (hv : v = g i) : upm (wr M a (fl i g (M a))) a i v = wr M a (fl (i + 1) g (M a)) := by
  rw [upm_wr, wr_wr, wr_eq, hv, fl_step]
/-- those from i on (and below s) are g's -/
def fd (i s : Nat) (g f : Nat → Int32) : Nat → Int32 := fun j => if i ≤ j ∧ j < s then g j else f j
theorem fd_s (s : Nat) (g f : Nat → Int32) : fd s s g f = f := by funext j; unfold fd; rw [if_neg (by omega)]
theorem fd_0 (s : Nat) (g f : Nat → Int32) : fd 0 s g f = fl s g f := by funext j; simp [fd, fl]
theorem upm_fd (M : Mem) (a i s : Nat) (hi : i < s) (g : Nat → Int32) {v : Int32} (hv : v = g i) : upm (wr M a (fd (i + 1) s g (M a))) a i v = wr M a (fd i s g (M a)) := by
  rw [upm_wr, wr_wr, wr_eq, hv]
  congr 1
  funext j
  unfold fd
  by_cases e : j = i
  · subst e; rw [if_pos rfl, if_pos ⟨Nat.le_refl _, hi⟩]
  · rw [if_neg e]
    by_cases h : i + 1 ≤ j ∧ j < s
    · rw [if_pos h, if_pos (by omega)]
    · rw [if_neg h, if_neg (by omega)]
theorem bit_in : ∀ k, k < 20 → (nI 1000001 >>> (nI k &&& 31)) &&& nI 1 = nI (1000001 / 2 ^ k % 2) := by decide +kernel
theorem pw_step (n k : Nat) : (n ^ (1000001 % 2 ^ k) % 1000003 * (n ^ 2 ^ k % 1000003)) % 1000003 = n ^ (1000001 % 2 ^ k + 2 ^ k) % 1000003 := by
  rw [← Nat.mul_mod, ← Nat.pow_add]
theorem pw_sq (n k : Nat) : (n ^ 2 ^ k % 1000003 * (n ^ 2 ^ k % 1000003)) % 1000003 = n ^ 2 ^ (k + 1) % 1000003 := by
  rw [← Nat.mul_mod, ← Nat.pow_add, Nat.pow_succ]
  congr 2
  omega
theorem md_bit (k : Nat) : 1000001 % 2 ^ (k + 1) = 1000001 % 2 ^ k + 2 ^ k * (1000001 / 2 ^ k % 2) := by
  rw [Nat.pow_succ, Nat.mod_mul]
/-- what makes 1 with a number -/
def nv (n : Nat) : Nat := n ^ 1000001 % 1000003
theorem nv_lt (n : Nat) : nv n < 1000003 := Nat.mod_lt _ (by decide)
section C30
variable {o : OM} {l : Launch} {n : Nat} {M : Mem}
theorem c_Rw_inverse {x : Nat} (hx : x < 1000003) : CI o l m_Rw_inverse n [.int (nI x)] M (fun r M' => r = nI (nv x) ∧ M' = M) := by
  refine ci_of rfl rfl rfl (Nat.le_of_ble_eq_true rfl) ?_
  refine r_lconst (v := lN 1) d_Rw_inverse_0 (by decide) ?_
  refine r_lstore_n (L' := [some (.int (nI x)), some (.long (lN 1)), none, none, none, none]) d_Rw_inverse_1 (by decide) rfl ?_
  refine r_iload_n d_Rw_inverse_2 rfl ?_
  refine n_i2l d_Rw_inverse_3 (by omega) ?_
  refine r_lstore_n (L' := [some (.int (nI x)), some (.long (lN 1)), none, some (.long (lN x)), none, none]) d_Rw_inverse_4 (by decide) rfl ?_
  refine r_iconst (v := nI 0) d_Rw_inverse_5 (by decide) ?_
  refine r_istore (L' := [some (.int (nI x)), some (.long (lN 1)), none, some (.long (lN x)), none, some (.int (nI 0))]) d_Rw_inverse_6 (by decide) rfl ?_
  suffices H : ∀ d k a q, k + d = 20 → a = x ^ (1000001 % 2 ^ k) % 1000003 → q = x ^ 2 ^ k % 1000003 → Rn o l m_Rw_inverse (0, 0) 8 [some (.int (nI x)), some (.long (lN a)), none, some (.long (lN q)), none, some (.int (nI k))] [] (gh n M) (QI n fun r M' => r = nI (nv x) ∧ M' = M) from H 20 0 1 x rfl (by simp) (by simp [Nat.mod_eq_of_lt hx])
  intro d
  induction d with
  | zero =>
    intro k a q hk ha hq
    obtain rfl : k = 20 := by omega
    refine r_iload d_Rw_inverse_8 rfl ?_
    refine r_bipush (v := nI 20) d_Rw_inverse_10 (by decide) ?_
    refine n_icmp_ge d_Rw_inverse_12 (by omega) (by omega) (fun hc => ?_) (fun hc => ?_)
    · refine r_lload_n d_Rw_inverse_47 rfl ?_
      refine n_l2i d_Rw_inverse_48 ?_
      refine g_reti d_Rw_inverse_49 rfl ?_
      exact ⟨by rw [ha]; rfl, rfl⟩
    · omega
  | succ d ih =>
    intro k a q hk ha hq
    have ha1 : a < 1000003 := by rw [ha]; exact Nat.mod_lt _ (by decide)
    have hq1 : q < 1000003 := by rw [hq]; exact Nat.mod_lt _ (by decide)
    refine r_iload d_Rw_inverse_8 rfl ?_
    refine r_bipush (v := nI 20) d_Rw_inverse_10 (by decide) ?_
    refine n_icmp_ge d_Rw_inverse_12 (by omega) (by omega) (fun hc => ?_) (fun hc => ?_)
    · omega
    · refine r_ldc (v := nI 1000001) d_Rw_inverse_15 c_Rw_11 ?_
      refine r_iload d_Rw_inverse_17 rfl ?_
      refine r_ishr d_Rw_inverse_19 ?_
      refine r_iconst (v := nI 1) d_Rw_inverse_20 (by decide) ?_
      refine r_iand d_Rw_inverse_21 ?_
      refine r_top (bit_in k (by omega)) ?_
      refine n_if_eq d_Rw_inverse_22 (by omega) (fun hb => ?_) (fun hb => ?_)
      · refine r_lload_n d_Rw_inverse_33 rfl ?_
        refine r_lload_n d_Rw_inverse_34 rfl ?_
        refine n_lmul d_Rw_inverse_35 ?_
        refine r_ldc2 (v := lN 1000003) d_Rw_inverse_36 c_Rw_12 ?_
        refine n_lrem d_Rw_inverse_39 (by have := pp_lt hq1 hq1; omega) (by omega) (by omega) ?_
        refine r_lstore_n (L' := [some (.int (nI x)), some (.long (lN a)), none, some (.long (lN ((q * q) % 1000003))), none, some (.int (nI k))]) d_Rw_inverse_40 (by decide) rfl ?_
        refine n_iinc (c := 1) (L' := [some (.int (nI x)), some (.long (lN a)), none, some (.long (lN ((q * q) % 1000003))), none, some (.int (nI (k + 1)))]) d_Rw_inverse_41 rfl rfl (by decide) rfl ?_
        refine r_goto d_Rw_inverse_44 ?_
        refine ih (k + 1) _ _ (by omega) ?_ ?_
        · rw [ha, md_bit, hb]; simp
        · rw [hq]; exact pw_sq x k
      · refine r_lload_n d_Rw_inverse_25 rfl ?_
        refine r_lload_n d_Rw_inverse_26 rfl ?_
        refine n_lmul d_Rw_inverse_27 ?_
        refine r_ldc2 (v := lN 1000003) d_Rw_inverse_28 c_Rw_12 ?_
        refine n_lrem d_Rw_inverse_31 (by have := pp_lt ha1 hq1; omega) (by omega) (by omega) ?_
        refine r_lstore_n (L' := [some (.int (nI x)), some (.long (lN ((a * q) % 1000003))), none, some (.long (lN q)), none, some (.int (nI k))]) d_Rw_inverse_32 (by decide) rfl ?_
        refine r_lload_n d_Rw_inverse_33 rfl ?_
        refine r_lload_n d_Rw_inverse_34 rfl ?_
        refine n_lmul d_Rw_inverse_35 ?_
        refine r_ldc2 (v := lN 1000003) d_Rw_inverse_36 c_Rw_12 ?_
        refine n_lrem d_Rw_inverse_39 (by have := pp_lt hq1 hq1; omega) (by omega) (by omega) ?_
        refine r_lstore_n (L' := [some (.int (nI x)), some (.long (lN ((a * q) % 1000003))), none, some (.long (lN ((q * q) % 1000003))), none, some (.int (nI k))]) d_Rw_inverse_40 (by decide) rfl ?_
        refine n_iinc (c := 1) (L' := [some (.int (nI x)), some (.long (lN ((a * q) % 1000003))), none, some (.long (lN ((q * q) % 1000003))), none, some (.int (nI (k + 1)))]) d_Rw_inverse_41 rfl rfl (by decide) rfl ?_
        refine r_goto d_Rw_inverse_44 ?_
        have hb1 : 1000001 / 2 ^ k % 2 = 1 := by omega
        refine ih (k + 1) _ _ (by omega) ?_ ?_
        · rw [ha, hq, pw_step, md_bit, hb1, Nat.mul_one]
        · rw [hq]; exact pw_sq x k
theorem c_Rw_product {x y : Nat} (hx : x < 1000003) (hy : y < 1000003) : CI o l m_Rw_product n [.int (nI x), .int (nI y)] M (fun r M' => r = nI (x * y % 1000003) ∧ M' = M) := by
  refine ci_of rfl rfl rfl (Nat.le_of_ble_eq_true rfl) ?_
  refine r_iload_n d_Rw_product_0 rfl ?_
  refine n_i2l d_Rw_product_1 (by omega) ?_
  refine r_iload_n d_Rw_product_2 rfl ?_
  refine n_i2l d_Rw_product_3 (by omega) ?_
  refine n_lmul d_Rw_product_4 ?_
  refine r_ldc2 (v := lN 1000003) d_Rw_product_5 c_Rw_12 ?_
  refine n_lrem d_Rw_product_8 (by have := pp_lt hx hy; omega) (by omega) (by omega) ?_
  refine n_l2i d_Rw_product_9 ?_
  refine g_reti d_Rw_product_10 rfl ?_
  exact ⟨rfl, rfl⟩
def sb (x y : Nat) : Nat := (x + (1000003 - y)) % 1000003
theorem c_Rw_difference {x y : Nat} (hx : x < 1000003) (hy : y < 1000003) : CI o l m_Rw_difference n [.int (nI x), .int (nI y)] M (fun r M' => r = nI (sb x y) ∧ M' = M) := by
  refine ci_of rfl rfl rfl (Nat.le_of_ble_eq_true rfl) ?_
  refine r_iload_n d_Rw_difference_0 rfl ?_
  refine r_iload_n d_Rw_difference_1 rfl ?_
  refine n_icmp_lt d_Rw_difference_2 (by omega) (by omega) (fun hc => ?_) (fun hc => ?_)
  · refine r_iload_n d_Rw_difference_11 rfl ?_
    refine r_iload_n d_Rw_difference_12 rfl ?_
    refine r_isub d_Rw_difference_13 ?_
    refine r_ldc (v := nI 1000003) d_Rw_difference_14 c_Rw_14 ?_
    refine r_iadd d_Rw_difference_16 ?_
    refine g_reti d_Rw_difference_17 rfl ?_
    refine ⟨?_, rfl⟩
    rw [show nI x - nI y + nI 1000003 = nI (x + 1000003 - y) from by
      rw [← pk_sub (a := x + 1000003) (b := y) (by omega), ← nI_add, Int32.sub_eq_add_neg, Int32.sub_eq_add_neg, Int32.add_assoc, Int32.add_assoc, Int32.add_comm (-nI y)]]
    congr 1
    unfold sb
    rw [Nat.mod_eq_of_lt (by omega)]
    omega
  · refine r_iload_n d_Rw_difference_5 rfl ?_
    refine r_iload_n d_Rw_difference_6 rfl ?_
    refine n_isub d_Rw_difference_7 (by omega) ?_
    refine r_goto d_Rw_difference_8 ?_
    refine g_reti d_Rw_difference_17 rfl ?_
    refine ⟨?_, rfl⟩
    congr 1
    unfold sb
    rw [show x + (1000003 - y) = x - y + 1000003 by omega, Nat.add_mod_right, Nat.mod_eq_of_lt (by omega)]
theorem c_Ar_fill {a N : Nat} (v : Int32) (ha : gT a = (1, N)) (hN : N < 2000) : CV o l m_Ar_fill n [.ref a, .int v] M (fun M' => M' = wr M a (fl N (fun _ => v) (M a))) := by
  refine cvo_of rfl rfl rfl (Nat.le_of_ble_eq_true rfl) ?_
  refine r_iconst (v := nI 0) d_Ar_fill_0 (by decide) ?_
  refine r_istore_n (L' := [some (.ref a), some (.int v), some (.int (nI 0)), none]) d_Ar_fill_1 (by decide) rfl ?_
  refine r_aload_n d_Ar_fill_2 rfl ?_
  refine g_alen d_Ar_fill_3 ha (by decide) ?_
  refine r_istore_n (L' := [some (.ref a), some (.int v), some (.int (nI 0)), some (.int (nI N))]) d_Ar_fill_4 (by decide) rfl ?_
  suffices H : ∀ d k, k + d = N → Rn o l m_Ar_fill (0, 0) 5 [some (.ref a), some (.int v), some (.int (nI k)), some (.int (nI N))] [] (gh n (wr M a (fl k (fun _ => v) (M a)))) (QV n fun M' => M' = wr M a (fl N (fun _ => v) (M a))) by
    have := H N 0 (by omega)
    rw [fl_0] at this
    rw [show wr M a (M a) = M from by funext b; by_cases e : b = a <;> simp [wr, e]] at this
    exact this
  intro d
  induction d with
  | zero =>
    intro k hk
    obtain rfl : k = N := by omega
    refine r_iload_n d_Ar_fill_5 rfl ?_
    refine r_iload_n d_Ar_fill_6 rfl ?_
    refine n_icmp_ge d_Ar_fill_7 (by omega) (by omega) (fun hc => ?_) (fun hc => ?_)
    · refine g_retv d_Ar_fill_20 rfl ?_
      rfl
    · omega
  | succ d ih =>
    intro k hk
    refine r_iload_n d_Ar_fill_5 rfl ?_
    refine r_iload_n d_Ar_fill_6 rfl ?_
    refine n_icmp_ge d_Ar_fill_7 (by omega) (by omega) (fun hc => ?_) (fun hc => ?_)
    · omega
    · refine r_aload_n d_Ar_fill_10 rfl ?_
      refine r_iload_n d_Ar_fill_11 rfl ?_
      refine r_iload_n d_Ar_fill_12 rfl ?_
      refine g_iast d_Ar_fill_13 ha (by omega) (by omega) ?_
      refine n_iinc (c := 1) (L' := [some (.ref a), some (.int v), some (.int (nI (k + 1))), some (.int (nI N))]) d_Ar_fill_14 rfl rfl (by decide) rfl ?_
      refine r_goto d_Ar_fill_17 ?_
      rw [upm_fl M a k (fun _ => v) rfl]
      exact ih (k + 1) (by omega)
end C30
end
section
/-- the memory with one row of ten become another one -/
def RW (M : Mem) (a : Nat) (w : Nat → Nat) (M' : Mem) : Prop := ∃ f, M' = wr M a f ∧ ∀ j, j < 10 → f j = nI (w j)
theorem upm_w (M : Mem) (a k : Nat) (f : Nat → Int32) (v : Int32) : upm (wr M a f) a k v = wr M a (fun j => if j = k then v else f j) := by rw [upm_wr, wr_wr, wr_eq]
theorem wr_self (M : Mem) (a : Nat) : wr M a (M a) = M := by funext b; by_cases e : b = a <;> simp [wr, e]
theorem RW.ne {M M' : Mem} {a b : Nat} {w : Nat → Nat} (h : RW M a w M') (hb : b ≠ a) : M' b = M b := by
  obtain ⟨f, rfl, -⟩ := h
  exact wr_ne _ _ hb
theorem RW.at {M M' : Mem} {a j : Nat} {w : Nat → Nat} (h : RW M a w M') (hj : j < 10) : M' a j = nI (w j) := by
  obtain ⟨f, rfl, hf⟩ := h
  rw [wr_eq]; exact hf j hj
theorem RW.ok {M M' : Mem} {a : Nat} {w : Nat → Nat} (h : RW M a w M') (hw : ∀ j, j < 10 → w j < 1000003) : OKr M' a w := fun j hj => ⟨h.at hj, hw j hj⟩
theorem RW.okn {M M' : Mem} {a b : Nat} {w x : Nat → Nat} (h : RW M a w M') (hb : b ≠ a) (hx : OKr M b x) : OKr M' b x := fun j hj => by rw [h.ne hb]; exact hx j hj
theorem RW.trans {M M' M2 : Mem} {a : Nat} {w w2 : Nat → Nat} (h : RW M a w M') (h2 : RW M' a w2 M2) : RW M a w2 M2 := by
  obtain ⟨f, rfl, -⟩ := h
  obtain ⟨g, rfl, hg⟩ := h2
  exact ⟨g, wr_wr _ _ _ _, hg⟩
theorem RW.upd {M M' : Mem} {a k v : Nat} {w : Nat → Nat} (h : RW M a w M') : RW M a (fun j => if j = k then v else w j) (upm M' a k (nI v)) := by
  obtain ⟨f, rfl, hf⟩ := h
  refine ⟨_, upm_w _ _ _ _ _, fun j hj => ?_⟩
  by_cases e : j = k
  · simp [e]
  · simp [e, hf j hj]
theorem RW.to {M M' : Mem} {a : Nat} {w w' : Nat → Nat} (h : RW M a w M') (e : ∀ j, j < 10 → w j = w' j) : RW M a w' M' := by
  obtain ⟨f, hf, hw⟩ := h
  exact ⟨f, hf, fun j hj => by rw [hw j hj, e j hj]⟩
theorem RW.rf {M : Mem} {a : Nat} {x : Nat → Nat} (h : OKr M a x) : RW M a x M := ⟨M a, (wr_self M a).symm, fun j hj => (h j hj).1⟩
/-- sums of products, the first k of them -/
def cs (x y : Nat → Nat) (i : Nat) : Nat → Nat
  | 0 => 0
  | k + 1 => cs x y i k + x k * y (i - k)
def cf (x y : Nat → Nat) (i : Nat) : Nat := cs x y i (i + 1) % 1000003
theorem cf_lt (x y : Nat → Nat) (i : Nat) : cf x y i < 1000003 := Nat.mod_lt _ (by decide)
theorem cs_lt {x y : Nat → Nat} {i k : Nat} (hx : ∀ j, j < k → x j < 1000003) (hy : ∀ j, j ≤ i → y j < 1000003) : cs x y i k ≤ k * 1000006000009 := by
  induction k with
  | zero => simp [cs]
  | succ k ih =>
    have h1 := ih (fun j hj => hx j (by omega))
    have h2 := pp_lt (hx k (by omega)) (hy (i - k) (by omega))
    simp only [cs]
    omega
theorem cs_congr {x x' y y' : Nat → Nat} {i k : Nat} (hx : ∀ j, j < k → x j = x' j) (hy : ∀ j, j ≤ i → y j = y' j) : cs x y i k = cs x' y' i k := by
  induction k with
  | zero => rfl
  | succ k ih =>
    simp only [cs]
    rw [ih (fun j hj => hx j (by omega)), hx k (by omega), hy (i - k) (by omega)]
def dv (x y : Nat → Nat) (i : Nat) : Nat := sb (x i) (cs (fun t => if _h : t < i then dv x y t else 0) y i i % 1000003) * nv (y 0) % 1000003
termination_by i
theorem dv_eq (x y : Nat → Nat) (i : Nat) : dv x y i = sb (x i) (cs (dv x y) y i i % 1000003) * nv (y 0) % 1000003 := by
  rw [dv]
  rw [cs_congr (x' := dv x y) (y' := y) (fun j hj => by rw [dif_pos hj]) (fun _ _ => rfl)]
theorem dv_lt (x y : Nat → Nat) (i : Nat) : dv x y i < 1000003 := by rw [dv_eq]; exact Nat.mod_lt _ (by decide)
theorem sb_lt (x y : Nat) : sb x y < 1000003 := Nat.mod_lt _ (by decide)
/-- outer(inner), d steps of it -/
def hn (x y : Nat → Nat) (s : Nat) : Nat → Nat → Nat
  | 0, _ => 0
  | d + 1, j => if j = 0 then x (s - 1 - d) else if j < d + 1 then cf (hn x y s d) y j else hn x y s d j
section C31
variable {o : OM} {l : Launch} {n : Nat} {M : Mem}
theorem c_Rw_becomeNumber {a v : Nat} (ha : gT a = (1, 10)) : CV o l m_Rw_becomeNumber n [.ref a, .int (nI v)] M (fun M' => RW M a (fun j => if j = 0 then v else 0) M') := by
  refine cvo_of rfl rfl rfl (Nat.le_of_ble_eq_true rfl) ?_
  refine r_aload_n d_Rw_becomeNumber_0 rfl ?_
  refine r_iconst (v := nI 0) d_Rw_becomeNumber_1 (by decide) ?_
  refine g_Sv (av := [.ref a, .int (nI 0)]) d_Rw_becomeNumber_2 k_Rw_15 ws_Ar_fill (by decide) rfl rfl (Nat.le_of_ble_eq_true rfl) (c_Ar_fill (nI 0) ha (by omega)) ?_
  rintro M1 rfl
  refine r_aload_n d_Rw_becomeNumber_5 rfl ?_
  refine r_iconst (v := nI 0) d_Rw_becomeNumber_6 (by decide) ?_
  refine r_iload_n d_Rw_becomeNumber_7 rfl ?_
  refine g_iast d_Rw_becomeNumber_8 ha (by omega) (by omega) ?_
  refine g_retv d_Rw_becomeNumber_9 rfl ?_
  have h : RW M a (fun _ => 0) (wr M a (fl 10 (fun _ => nI 0) (M a))) := ⟨_, rfl, fun j hj => by simp [fl, hj]⟩
  exact h.upd
theorem c_Rw_add {a b s : Nat} {x y : Nat → Nat} (ha : gT a = (1, 10)) (hb : gT b = (1, 10)) (hne : b ≠ a) (hs : s ≤ 10) (hx : OKr M a x) (hy : OKr M b y) : CV o l m_Rw_add n [.ref a, .ref b, .int (nI s)] M (fun M' => RW M a (fun j => if j < s then (x j + y j) % 1000003 else x j) M') := by
  refine cvo_of rfl rfl rfl (Nat.le_of_ble_eq_true rfl) ?_
  refine r_iconst (v := nI 0) d_Rw_add_0 (by decide) ?_
  refine r_istore_n (L' := [some (.ref a), some (.ref b), some (.int (nI s)), some (.int (nI 0))]) d_Rw_add_1 (by decide) rfl ?_
  suffices H : ∀ d k M1, k + d = s → RW M a (fun j => if j < k then (x j + y j) % 1000003 else x j) M1 → Rn o l m_Rw_add (0, 0) 2 [some (.ref a), some (.ref b), some (.int (nI s)), some (.int (nI k))] [] (gh n M1) (QV n fun M' => RW M a (fun j => if j < s then (x j + y j) % 1000003 else x j) M') from H s 0 M (by omega) ((RW.rf hx).to (fun j hj => by simp))
  intro d
  induction d with
  | zero =>
    intro k M1 hk h1
    obtain rfl : k = s := by omega
    refine r_iload_n d_Rw_add_2 rfl ?_
    refine r_iload_n d_Rw_add_3 rfl ?_
    refine n_icmp_ge d_Rw_add_4 (by omega) (by omega) (fun hc => ?_) (fun hc => ?_)
    · refine g_retv d_Rw_add_26 rfl ?_
      exact h1
    · omega
  | succ d ih =>
    intro k M1 hk h1
    refine r_iload_n d_Rw_add_2 rfl ?_
    refine r_iload_n d_Rw_add_3 rfl ?_
    refine n_icmp_ge d_Rw_add_4 (by omega) (by omega) (fun hc => ?_) (fun hc => ?_)
    · omega
    · refine r_aload_n d_Rw_add_7 rfl ?_
      refine r_iload_n d_Rw_add_8 rfl ?_
      refine r_aload_n d_Rw_add_9 rfl ?_
      refine r_iload_n d_Rw_add_10 rfl ?_
      refine g_iald d_Rw_add_11 ha (by omega) (by omega) ?_
      refine r_top (y := nI (x k)) ((h1.at (by omega)).trans (by simp)) ?_
      refine r_aload_n d_Rw_add_12 rfl ?_
      refine r_iload_n d_Rw_add_13 rfl ?_
      refine g_iald d_Rw_add_14 hb (by omega) (by omega) ?_
      refine r_top (y := nI (y k)) (by rw [h1.ne hne]; exact (hy k (by omega)).1) ?_
      refine n_iadd d_Rw_add_15 ?_
      refine r_ldc (v := nI 1000003) d_Rw_add_16 c_Rw_14 ?_
      refine n_irem d_Rw_add_18 (by have h8 := (hx k (by omega)).2; have h9 := (hy k (by omega)).2; omega) (by omega) (by omega) ?_
      refine g_iast d_Rw_add_19 ha (by omega) (by omega) ?_
      refine n_iinc (c := 1) (L' := [some (.ref a), some (.ref b), some (.int (nI s)), some (.int (nI (k + 1)))]) d_Rw_add_20 rfl rfl (by decide) rfl ?_
      refine r_goto d_Rw_add_23 ?_
      refine ih (k + 1) _ (by omega) (h1.upd.to (fun j hj => ?_))
      by_cases e : j = k
      · subst e; simp
      · rw [if_neg e]
        by_cases h9 : j < k
        · rw [if_pos h9, if_pos (by omega)]
        · rw [if_neg h9, if_neg (by omega)]
theorem c_Rw_subtract {a b s : Nat} {x y : Nat → Nat} (ha : gT a = (1, 10)) (hb : gT b = (1, 10)) (hne : b ≠ a) (hs : s ≤ 10) (hx : OKr M a x) (hy : OKr M b y) : CV o l m_Rw_subtract n [.ref a, .ref b, .int (nI s)] M (fun M' => RW M a (fun j => if j < s then sb (x j) (y j) else x j) M') := by
  refine cvo_of rfl rfl rfl (Nat.le_of_ble_eq_true rfl) ?_
  refine r_iconst (v := nI 0) d_Rw_subtract_0 (by decide) ?_
  refine r_istore_n (L' := [some (.ref a), some (.ref b), some (.int (nI s)), some (.int (nI 0))]) d_Rw_subtract_1 (by decide) rfl ?_
  suffices H : ∀ d k M1, k + d = s → RW M a (fun j => if j < k then sb (x j) (y j) else x j) M1 → Rn o l m_Rw_subtract (0, 0) 2 [some (.ref a), some (.ref b), some (.int (nI s)), some (.int (nI k))] [] (gh n M1) (QV n fun M' => RW M a (fun j => if j < s then sb (x j) (y j) else x j) M') from H s 0 M (by omega) ((RW.rf hx).to (fun j hj => by simp))
  intro d
  induction d with
  | zero =>
    intro k M1 hk h1
    obtain rfl : k = s := by omega
    refine r_iload_n d_Rw_subtract_2 rfl ?_
    refine r_iload_n d_Rw_subtract_3 rfl ?_
    refine n_icmp_ge d_Rw_subtract_4 (by omega) (by omega) (fun hc => ?_) (fun hc => ?_)
    · refine g_retv d_Rw_subtract_25 rfl ?_
      exact h1
    · omega
  | succ d ih =>
    intro k M1 hk h1
    refine r_iload_n d_Rw_subtract_2 rfl ?_
    refine r_iload_n d_Rw_subtract_3 rfl ?_
    refine n_icmp_ge d_Rw_subtract_4 (by omega) (by omega) (fun hc => ?_) (fun hc => ?_)
    · omega
    · refine r_aload_n d_Rw_subtract_7 rfl ?_
      refine r_iload_n d_Rw_subtract_8 rfl ?_
      refine r_aload_n d_Rw_subtract_9 rfl ?_
      refine r_iload_n d_Rw_subtract_10 rfl ?_
      refine g_iald d_Rw_subtract_11 ha (by omega) (by omega) ?_
      refine r_top (y := nI (x k)) ((h1.at (by omega)).trans (by simp)) ?_
      refine r_aload_n d_Rw_subtract_12 rfl ?_
      refine r_iload_n d_Rw_subtract_13 rfl ?_
      refine g_iald d_Rw_subtract_14 hb (by omega) (by omega) ?_
      refine r_top (y := nI (y k)) (by rw [h1.ne hne]; exact (hy k (by omega)).1) ?_
      refine g_Si (av := [.int (nI (x k)), .int (nI (y k))]) d_Rw_subtract_15 k_Rw_21 ws_Rw_difference (by decide) rfl rfl (Nat.le_of_ble_eq_true rfl) (c_Rw_difference (hx k (by omega)).2 (hy k (by omega)).2) ?_
      rintro r M2 ⟨rfl, rfl⟩
      refine g_iast d_Rw_subtract_18 ha (by omega) (by omega) ?_
      refine n_iinc (c := 1) (L' := [some (.ref a), some (.ref b), some (.int (nI s)), some (.int (nI (k + 1)))]) d_Rw_subtract_19 rfl rfl (by decide) rfl ?_
      refine r_goto d_Rw_subtract_22 ?_
      refine ih (k + 1) _ (by omega) (h1.upd.to (fun j hj => ?_))
      by_cases e : j = k
      · subst e; simp
      · rw [if_neg e]
        by_cases h9 : j < k
        · rw [if_pos h9, if_pos (by omega)]
        · rw [if_neg h9, if_neg (by omega)]
theorem c_Rw_coefficient {a b i : Nat} {x y : Nat → Nat} (ha : gT a = (1, 10)) (hb : gT b = (1, 10)) (hi : i < 10) (hx : ∀ j, j ≤ i → M a j = nI (x j) ∧ x j < 1000003) (hy : ∀ j, j ≤ i → M b j = nI (y j) ∧ y j < 1000003) : CI o l m_Rw_coefficient n [.ref a, .ref b, .int (nI i)] M (fun r M' => r = nI (cf x y i) ∧ M' = M) := by
  refine ci_of rfl rfl rfl (Nat.le_of_ble_eq_true rfl) ?_
  refine r_lconst (v := lN 0) d_Rw_coefficient_0 (by decide) ?_
  refine r_lstore_n (L' := [some (.ref a), some (.ref b), some (.int (nI i)), some (.long (lN 0)), none, none]) d_Rw_coefficient_1 (by decide) rfl ?_
  refine r_iconst (v := nI 0) d_Rw_coefficient_2 (by decide) ?_
  refine r_istore (L' := [some (.ref a), some (.ref b), some (.int (nI i)), some (.long (lN 0)), none, some (.int (nI 0))]) d_Rw_coefficient_3 (by decide) rfl ?_
  suffices H : ∀ d k, k + d = i + 1 → Rn o l m_Rw_coefficient (0, 0) 5 [some (.ref a), some (.ref b), some (.int (nI i)), some (.long (lN (cs x y i k))), none, some (.int (nI k))] [] (gh n M) (QI n fun r M' => r = nI (cf x y i) ∧ M' = M) from H (i + 1) 0 (by omega)
  intro d
  induction d with
  | zero =>
    intro k hk
    obtain rfl : k = i + 1 := by omega
    refine r_iload d_Rw_coefficient_5 rfl ?_
    refine r_iload_n d_Rw_coefficient_7 rfl ?_
    refine n_icmp_gt d_Rw_coefficient_8 (by omega) (by omega) (fun hc => ?_) (fun hc => ?_)
    · refine r_lload_n d_Rw_coefficient_33 rfl ?_
      refine r_ldc2 (v := lN 1000003) d_Rw_coefficient_34 c_Rw_12 ?_
      refine n_lrem d_Rw_coefficient_37 (by have h9 := cs_lt (x := x) (y := y) (i := i) (k := i + 1) (fun j hj => (hx j (by omega)).2) (fun j hj => (hy j (by omega)).2); have h8 : (i + 1) * 1000006000009 ≤ 10 * 1000006000009 := Nat.mul_le_mul_right _ (by omega); omega) (by omega) (by omega) ?_
      refine n_l2i d_Rw_coefficient_38 ?_
      refine g_reti d_Rw_coefficient_39 rfl ?_
      exact ⟨rfl, rfl⟩
    · omega
  | succ d ih =>
    intro k hk
    refine r_iload d_Rw_coefficient_5 rfl ?_
    refine r_iload_n d_Rw_coefficient_7 rfl ?_
    refine n_icmp_gt d_Rw_coefficient_8 (by omega) (by omega) (fun hc => ?_) (fun hc => ?_)
    · omega
    · refine r_lload_n d_Rw_coefficient_11 rfl ?_
      refine r_aload_n d_Rw_coefficient_12 rfl ?_
      refine r_iload d_Rw_coefficient_13 rfl ?_
      refine g_iald d_Rw_coefficient_15 ha (by omega) (by omega) ?_
      refine r_top (y := nI (x k)) ((hx k (by omega)).1) ?_
      refine n_i2l d_Rw_coefficient_16 (by have h9 := (hx k (by omega)).2; omega) ?_
      refine r_aload_n d_Rw_coefficient_17 rfl ?_
      refine r_iload_n d_Rw_coefficient_18 rfl ?_
      refine r_iload d_Rw_coefficient_19 rfl ?_
      refine n_isub d_Rw_coefficient_21 (by omega) ?_
      refine g_iald d_Rw_coefficient_22 hb (by omega) (by omega) ?_
      refine r_top (y := nI (y (i - k))) ((hy (i - k) (by omega)).1) ?_
      refine n_i2l d_Rw_coefficient_23 (by have h9 := (hy (i - k) (by omega)).2; omega) ?_
      refine n_lmul d_Rw_coefficient_24 ?_
      refine n_ladd d_Rw_coefficient_25 ?_
      refine r_lstore_n (L' := [some (.ref a), some (.ref b), some (.int (nI i)), some (.long (lN ((cs x y i k) + ((x k) * (y (i - k)))))), none, some (.int (nI k))]) d_Rw_coefficient_26 (by decide) rfl ?_
      refine n_iinc (c := 1) (L' := [some (.ref a), some (.ref b), some (.int (nI i)), some (.long (lN ((cs x y i k) + ((x k) * (y (i - k)))))), none, some (.int (nI (k + 1)))]) d_Rw_coefficient_27 rfl rfl (by decide) rfl ?_
      refine r_goto d_Rw_coefficient_30 ?_
      exact ih (k + 1) (by omega)
theorem c_Rw_multiply {a b s : Nat} {x y : Nat → Nat} (ha : gT a = (1, 10)) (hb : gT b = (1, 10)) (hne : b ≠ a) (hs0 : 1 ≤ s) (hs : s ≤ 10) (hx : OKr M a x) (hy : OKr M b y) : CV o l m_Rw_multiply n [.ref a, .ref b, .int (nI s)] M (fun M' => RW M a (fun j => if j < s then cf x y j else x j) M') := by
  refine cvo_of rfl rfl rfl (Nat.le_of_ble_eq_true rfl) ?_
  refine r_iload_n d_Rw_multiply_0 rfl ?_
  refine r_iconst (v := nI 1) d_Rw_multiply_1 (by decide) ?_
  refine n_isub d_Rw_multiply_2 (by omega) ?_
  refine r_istore_n (L' := [some (.ref a), some (.ref b), some (.int (nI s)), some (.int (nI (s - 1)))]) d_Rw_multiply_3 (by decide) rfl ?_
  suffices H : ∀ k M1, k ≤ s → RW M a (fun j => if k ≤ j ∧ j < s then cf x y j else x j) M1 → Rn o l m_Rw_multiply (0, 0) 4 [some (.ref a), some (.ref b), some (.int (nI s)), some (.int (nI k - 1))] [] (gh n M1) (QV n fun M' => RW M a (fun j => if j < s then cf x y j else x j) M') by
    have := H s M (Nat.le_refl _) ((RW.rf hx).to (fun j hj => by rw [if_neg (by omega)]))
    rw [show nI s - 1 = nI (s - 1) from pk_sub (a := s) (b := 1) hs0] at this
    exact this
  intro k
  induction k with
  | zero =>
    intro M1 hk h1
    refine r_iload_n d_Rw_multiply_4 rfl ?_
    refine r_if_lt d_Rw_multiply_5 (fun hc => ?_) (fun hc => ?_)
    · refine g_retv d_Rw_multiply_23 rfl ?_
      exact h1.to (fun j hj => by simp)
    · exact absurd (by decide) hc
  | succ k ih =>
    intro M1 hk h1
    rw [nI_pred]
    refine r_iload_n d_Rw_multiply_4 rfl ?_
    refine n_if_lt d_Rw_multiply_5 (by omega) ?_
    refine r_aload_n d_Rw_multiply_8 rfl ?_
    refine r_iload_n d_Rw_multiply_9 rfl ?_
    refine r_aload_n d_Rw_multiply_10 rfl ?_
    refine r_aload_n d_Rw_multiply_11 rfl ?_
    refine r_iload_n d_Rw_multiply_12 rfl ?_
    refine g_Si (av := [.ref a, .ref b, .int (nI k)]) d_Rw_multiply_13 k_Rw_25 ws_Rw_coefficient (by decide) rfl rfl (Nat.le_of_ble_eq_true rfl) (c_Rw_coefficient (x := x) (y := y) ha hb (by omega) (fun j hj => ⟨(h1.at (by omega)).trans (by rw [if_neg (by omega)]), (hx j (by omega)).2⟩) (fun j hj => by rw [h1.ne hne]; exact hy j (by omega))) ?_
    rintro r M2 ⟨rfl, rfl⟩
    refine g_iast d_Rw_multiply_16 ha (by omega) (by omega) ?_
    refine n_iincd (L' := [some (.ref a), some (.ref b), some (.int (nI s)), some (.int (nI k - 1))]) d_Rw_multiply_17 rfl (by decide) rfl ?_
    refine r_goto d_Rw_multiply_20 ?_
    refine ih _ (by omega) (h1.upd.to (fun j hj => ?_))
    by_cases e : j = k
    · subst e; rw [if_pos rfl, if_pos (by omega)]
    · rw [if_neg e]
      by_cases h9 : k + 1 ≤ j ∧ j < s
      · rw [if_pos h9, if_pos (by omega)]
      · rw [if_neg h9, if_neg (by omega)]
end C31
end
