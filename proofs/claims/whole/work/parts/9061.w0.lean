theorem w0_clX10 : (Jvm.Cond.classLink "SmallArchivesLaw" (8 : Nat) "SmallArchives") ∈ lw_tbl := tin_1 (List.mem_of_getElem? (i := 22) rfl)
theorem w1_clX10 : (Jvm.Cond.classLink "SmallArchivesLaw" (8 : Nat) "SmallArchives") ∈ sa_EX.2.1 := sa_ti w0_clX10 rfl
theorem w0_mlX10 : (Jvm.Cond.methodLink "SmallArchivesLaw" (15 : Nat) ({ cls := "SmallArchives", name := "<init>", desc := "()V" } : Jvm.MethodName)) ∈ lw_tbl := tin_1 (List.mem_of_getElem? (i := 24) rfl)
theorem w1_mlX10 : (Jvm.Cond.methodLink "SmallArchivesLaw" (15 : Nat) ({ cls := "SmallArchives", name := "<init>", desc := "()V" } : Jvm.MethodName)) ∈ sa_EX.2.1 := sa_ti w0_mlX10 rfl
theorem w0_imX10 : (Jvm.Cond.instanceMethod ({ cls := "SmallArchives", name := "<init>", desc := "()V" } : Jvm.MethodName)) ∈ lw_tbl := tin_1 (List.mem_of_getElem? (i := 25) rfl)
theorem w1_imX10 : (Jvm.Cond.instanceMethod ({ cls := "SmallArchives", name := "<init>", desc := "()V" } : Jvm.MethodName)) ∈ sa_EX.2.1 := sa_ti w0_imX10 rfl
theorem w0_iniX10 : (Jvm.Cond.initialized "SmallArchives") ∈ lw_tbl := tin_1 (List.mem_of_getElem? (i := 1) rfl)
theorem w1_iniX10 : (Jvm.Cond.initialized "SmallArchives") ∈ sa_EX.2.1 := sa_ti w0_iniX10 rfl
theorem w0_clX11 : (Jvm.Cond.classLink "SmallArchivesLaw" (16 : Nat) "SmallArchivesModel") ∈ lw_tbl := tin_5 (List.mem_of_getElem? (i := 42) rfl)
theorem w1_clX11 : (Jvm.Cond.classLink "SmallArchivesLaw" (16 : Nat) "SmallArchivesModel") ∈ sa_EX.2.1 := sa_ti w0_clX11 rfl
theorem w0_mlX11 : (Jvm.Cond.methodLink "SmallArchivesLaw" (18 : Nat) ({ cls := "SmallArchivesModel", name := "<init>", desc := "()V" } : Jvm.MethodName)) ∈ lw_tbl := tin_5 (List.mem_of_getElem? (i := 44) rfl)
theorem w1_mlX11 : (Jvm.Cond.methodLink "SmallArchivesLaw" (18 : Nat) ({ cls := "SmallArchivesModel", name := "<init>", desc := "()V" } : Jvm.MethodName)) ∈ sa_EX.2.1 := sa_ti w0_mlX11 rfl
theorem w0_imX11 : (Jvm.Cond.instanceMethod ({ cls := "SmallArchivesModel", name := "<init>", desc := "()V" } : Jvm.MethodName)) ∈ lw_tbl := tin_5 (List.mem_of_getElem? (i := 45) rfl)
theorem w1_imX11 : (Jvm.Cond.instanceMethod ({ cls := "SmallArchivesModel", name := "<init>", desc := "()V" } : Jvm.MethodName)) ∈ sa_EX.2.1 := sa_ti w0_imX11 rfl
theorem w0_iniX11 : (Jvm.Cond.initialized "SmallArchivesModel") ∈ lw_tbl := tin_1 (List.mem_of_getElem? (i := 13) rfl)
theorem w1_iniX11 : (Jvm.Cond.initialized "SmallArchivesModel") ∈ sa_EX.2.1 := sa_ti w0_iniX11 rfl
theorem w0_insX0 : (Jvm.Cond.instantiable "SmallArchives$Bytes" (3 : Nat)) ∈ lw_tbl := tin_1 (List.mem_of_getElem? (i := 73) rfl)
theorem w0_insX1 : (Jvm.Cond.instantiable "SmallArchives$Cursor" (5 : Nat)) ∈ lw_tbl := tin_1 (List.mem_of_getElem? (i := 111) rfl)
theorem w0_insX2 : (Jvm.Cond.instantiable "SmallArchives$Entries" (6 : Nat)) ∈ lw_tbl := tin_1 (List.mem_of_getElem? (i := 90) rfl)
theorem w0_insX3 : (Jvm.Cond.instantiable "SmallArchives$Files" (3 : Nat)) ∈ lw_tbl := tin_1 (List.mem_of_getElem? (i := 31) rfl)
theorem w0_insX5 : (Jvm.Cond.instantiable "SmallArchives$Heads" (4 : Nat)) ∈ lw_tbl := tin_1 (List.mem_of_getElem? (i := 133) rfl)
theorem w0_insX6 : (Jvm.Cond.instantiable "SmallArchives$Lines" (0 : Nat)) ∈ lw_tbl := tin_1 (List.mem_of_getElem? (i := 162) rfl)
theorem w0_insX7 : (Jvm.Cond.instantiable "SmallArchives$Numbers" (0 : Nat)) ∈ lw_tbl := tin_1 (List.mem_of_getElem? (i := 155) rfl)
theorem w0_insX9 : (Jvm.Cond.instantiable "SmallArchives$Strips" (4 : Nat)) ∈ lw_tbl := tin_1 (List.mem_of_getElem? (i := 40) rfl)
theorem w0_insX10 : (Jvm.Cond.instantiable "SmallArchives" (8 : Nat)) ∈ lw_tbl := tin_1 (List.mem_of_getElem? (i := 23) rfl)
theorem w1_insX10 : (Jvm.Cond.instantiable "SmallArchives" (8 : Nat)) ∈ sa_EX.2.1 := sa_ti w0_insX10 rfl
theorem w0_insX11 : (Jvm.Cond.instantiable "SmallArchivesModel" (27 : Nat)) ∈ lw_tbl := tin_5 (List.mem_of_getElem? (i := 43) rfl)
theorem w1_insX11 : (Jvm.Cond.instantiable "SmallArchivesModel" (27 : Nat)) ∈ sa_EX.2.1 := sa_ti w0_insX11 rfl
theorem w0_arI : (Jvm.Cond.arrayClass Jvm.ClassFile.FieldType.int) ∈ lw_tbl := tin_1 (List.mem_of_getElem? (i := 61) rfl)
theorem w1_arI : (Jvm.Cond.arrayClass Jvm.ClassFile.FieldType.int) ∈ sa_EX.2.1 := sa_ti w0_arI rfl
theorem w0_arL : (Jvm.Cond.arrayClass Jvm.ClassFile.FieldType.long) ∈ lw_tbl := tin_6 (List.mem_of_getElem? (i := 86) rfl)
theorem w1_arL : (Jvm.Cond.arrayClass Jvm.ClassFile.FieldType.long) ∈ sa_EX.2.1 := sa_ti w0_arL rfl
theorem w0_lscs : (Jvm.Cond.laysStatic "java/lang/String" "COMPACT_STRINGS" "Z") ∈ lw_tbl := tin_2 (List.mem_of_getElem? (i := 118) rfl)
theorem w0_lssi : (Jvm.Cond.laysStatic "jdk/internal/util/Preconditions" "SIOOBE_FORMATTER" "Ljava/util/function/BiFunction;") ∈ lw_tbl := tin_2 (List.mem_of_getElem? (i := 139) rfl)
theorem w0_lsus : (Jvm.Cond.laysStatic "java/lang/Throwable" "UNASSIGNED_STACK" "[Ljava/lang/StackTraceElement;") ∈ lw_tbl := tin_5 (List.mem_of_getElem? (i := 4) rfl)
theorem w0_lsss : (Jvm.Cond.laysStatic "java/lang/Throwable" "SUPPRESSED_SENTINEL" "Ljava/util/List;") ∈ lw_tbl := tin_5 (List.mem_of_getElem? (i := 6) rfl)
theorem w0_iniS : (Jvm.Cond.initialized "java/lang/String") ∈ lw_tbl := tin_1 (List.mem_of_getElem? (i := 14) rfl)
theorem w0_iniP : (Jvm.Cond.initialized "jdk/internal/util/Preconditions") ∈ lw_tbl := tin_1 (List.mem_of_getElem? (i := 16) rfl)
theorem w0_iniT : (Jvm.Cond.initialized "java/lang/Throwable") ∈ lw_tbl := tin_1 (List.mem_of_getElem? (i := 18) rfl)
theorem w0_cast : (Jvm.Cond.castable "java/lang/IndexOutOfBoundsException" "java/lang/IndexOutOfBoundsException") ∈ lw_tbl := tin_4 (List.mem_of_getElem? (i := 219) rfl)
theorem w0_sr0 : (Jvm.Cond.stringRef "SmallArchives$Files" (41 : Nat) "TRAILER\x21") ∈ lw_tbl := tin_2 (List.mem_of_getElem? (i := 102) rfl)
theorem w0_sr1 : (Jvm.Cond.stringRef "SmallArchives$Heads" (11 : Nat) "!<a>") ∈ lw_tbl := tin_2 (List.mem_of_getElem? (i := 176) rfl)
theorem w0_sr2 : (Jvm.Cond.stringRef "SmallArchives$Heads" (58 : Nat) "//") ∈ lw_tbl := tin_2 (List.mem_of_getElem? (i := 199) rfl)
theorem w0_sr3 : (Jvm.Cond.stringRef "SmallArchives$Heads" (75 : Nat) "`\n") ∈ lw_tbl := tin_2 (List.mem_of_getElem? (i := 211) rfl)
theorem w0_sr4 : (Jvm.Cond.stringRef "SmallArchives$Heads" (67 : Nat) "/\n") ∈ lw_tbl := tin_2 (List.mem_of_getElem? (i := 223) rfl)
theorem w0_sr5 : (Jvm.Cond.stringRef "SmallArchives$Lines" (17 : Nat) "begin ") ∈ lw_tbl := tin_3 (List.mem_of_getElem? (i := 10) rfl)
theorem w0_sr6 : (Jvm.Cond.stringRef "SmallArchives$Lines" (41 : Nat) "end\n") ∈ lw_tbl := tin_3 (List.mem_of_getElem? (i := 29) rfl)
theorem w0_sr7 : (Jvm.Cond.stringRef "SmallArchives$Numbers" (21 : Nat) "TRAILER\x21") ∈ lw_tbl := tin_3 (List.mem_of_getElem? (i := 73) rfl)
theorem w0_sr8 : (Jvm.Cond.stringRef "SmallArchives" (188 : Nat) "no such byte of an ENTRY") ∈ lw_tbl := tin_5 (List.mem_of_getElem? (i := 16) rfl)
