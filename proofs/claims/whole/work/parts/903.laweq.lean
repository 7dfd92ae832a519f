theorem wt_1_0 : (Jvm.Cond.initialized "SmallArchivesLaw") ∈ sa_EX.2.1 := sa_ti (tin_1 (List.mem_of_getElem? (i := 0) rfl)) rfl
theorem wt_1_193 : (Jvm.Cond.methodLink "SmallArchivesLaw" (19 : Nat) ({ cls := "SmallArchives", name := "file", desc := "()I" } : Jvm.MethodName)) ∈ sa_EX.2.1 := sa_ti (tin_1 (List.mem_of_getElem? (i := 193) rfl)) rfl
theorem wt_1_194 : (Jvm.Cond.instanceMethod ({ cls := "SmallArchives", name := "file", desc := "()I" } : Jvm.MethodName)) ∈ sa_EX.2.1 := sa_ti (tin_1 (List.mem_of_getElem? (i := 194) rfl)) rfl
theorem wt_1_195 : (Jvm.Cond.selects "SmallArchives" ({ cls := "SmallArchives", name := "file", desc := "()I" } : Jvm.MethodName) ({ cls := "SmallArchives", name := "file", desc := "()I" } : Jvm.MethodName)) ∈ sa_EX.2.1 := sa_ti (tin_1 (List.mem_of_getElem? (i := 195) rfl)) rfl
theorem wt_2_7 : (Jvm.Cond.methodLink "SmallArchivesLaw" (24 : Nat) ({ cls := "SmallArchives", name := "name", desc := "(I)I" } : Jvm.MethodName)) ∈ sa_EX.2.1 := sa_ti (tin_2 (List.mem_of_getElem? (i := 7) rfl)) rfl
theorem wt_2_8 : (Jvm.Cond.instanceMethod ({ cls := "SmallArchives", name := "name", desc := "(I)I" } : Jvm.MethodName)) ∈ sa_EX.2.1 := sa_ti (tin_2 (List.mem_of_getElem? (i := 8) rfl)) rfl
theorem wt_2_9 : (Jvm.Cond.selects "SmallArchives" ({ cls := "SmallArchives", name := "name", desc := "(I)I" } : Jvm.MethodName) ({ cls := "SmallArchives", name := "name", desc := "(I)I" } : Jvm.MethodName)) ∈ sa_EX.2.1 := sa_ti (tin_2 (List.mem_of_getElem? (i := 9) rfl)) rfl
theorem wt_2_31 : (Jvm.Cond.methodLink "SmallArchivesLaw" (29 : Nat) ({ cls := "SmallArchives", name := "data", desc := "(I)I" } : Jvm.MethodName)) ∈ sa_EX.2.1 := sa_ti (tin_2 (List.mem_of_getElem? (i := 31) rfl)) rfl
theorem wt_2_32 : (Jvm.Cond.instanceMethod ({ cls := "SmallArchives", name := "data", desc := "(I)I" } : Jvm.MethodName)) ∈ sa_EX.2.1 := sa_ti (tin_2 (List.mem_of_getElem? (i := 32) rfl)) rfl
theorem wt_2_33 : (Jvm.Cond.selects "SmallArchives" ({ cls := "SmallArchives", name := "data", desc := "(I)I" } : Jvm.MethodName) ({ cls := "SmallArchives", name := "data", desc := "(I)I" } : Jvm.MethodName)) ∈ sa_EX.2.1 := sa_ti (tin_2 (List.mem_of_getElem? (i := 33) rfl)) rfl
theorem wt_2_69 : (Jvm.Cond.methodLink "SmallArchivesLaw" (33 : Nat) ({ cls := "SmallArchives", name := "link", desc := "(I)I" } : Jvm.MethodName)) ∈ sa_EX.2.1 := sa_ti (tin_2 (List.mem_of_getElem? (i := 69) rfl)) rfl
theorem wt_2_70 : (Jvm.Cond.instanceMethod ({ cls := "SmallArchives", name := "link", desc := "(I)I" } : Jvm.MethodName)) ∈ sa_EX.2.1 := sa_ti (tin_2 (List.mem_of_getElem? (i := 70) rfl)) rfl
theorem wt_2_71 : (Jvm.Cond.selects "SmallArchives" ({ cls := "SmallArchives", name := "link", desc := "(I)I" } : Jvm.MethodName) ({ cls := "SmallArchives", name := "link", desc := "(I)I" } : Jvm.MethodName)) ∈ sa_EX.2.1 := sa_ti (tin_2 (List.mem_of_getElem? (i := 71) rfl)) rfl
theorem wt_2_77 : (Jvm.Cond.methodLink "SmallArchivesLaw" (37 : Nat) ({ cls := "SmallArchives", name := "clear", desc := "()I" } : Jvm.MethodName)) ∈ sa_EX.2.1 := sa_ti (tin_2 (List.mem_of_getElem? (i := 77) rfl)) rfl
theorem wt_2_78 : (Jvm.Cond.instanceMethod ({ cls := "SmallArchives", name := "clear", desc := "()I" } : Jvm.MethodName)) ∈ sa_EX.2.1 := sa_ti (tin_2 (List.mem_of_getElem? (i := 78) rfl)) rfl
theorem wt_2_79 : (Jvm.Cond.selects "SmallArchives" ({ cls := "SmallArchives", name := "clear", desc := "()I" } : Jvm.MethodName) ({ cls := "SmallArchives", name := "clear", desc := "()I" } : Jvm.MethodName)) ∈ sa_EX.2.1 := sa_ti (tin_2 (List.mem_of_getElem? (i := 79) rfl)) rfl
theorem wt_2_91 : (Jvm.Cond.methodLink "SmallArchivesLaw" (41 : Nat) ({ cls := "SmallArchives", name := "write", desc := "(I)I" } : Jvm.MethodName)) ∈ sa_EX.2.1 := sa_ti (tin_2 (List.mem_of_getElem? (i := 91) rfl)) rfl
theorem wt_2_92 : (Jvm.Cond.instanceMethod ({ cls := "SmallArchives", name := "write", desc := "(I)I" } : Jvm.MethodName)) ∈ sa_EX.2.1 := sa_ti (tin_2 (List.mem_of_getElem? (i := 92) rfl)) rfl
theorem wt_2_93 : (Jvm.Cond.selects "SmallArchives" ({ cls := "SmallArchives", name := "write", desc := "(I)I" } : Jvm.MethodName) ({ cls := "SmallArchives", name := "write", desc := "(I)I" } : Jvm.MethodName)) ∈ sa_EX.2.1 := sa_ti (tin_2 (List.mem_of_getElem? (i := 93) rfl)) rfl
theorem wt_3_92 : (Jvm.Cond.methodLink "SmallArchivesLaw" (45 : Nat) ({ cls := "SmallArchives", name := "put", desc := "(I)I" } : Jvm.MethodName)) ∈ sa_EX.2.1 := sa_ti (tin_3 (List.mem_of_getElem? (i := 92) rfl)) rfl
theorem wt_3_93 : (Jvm.Cond.instanceMethod ({ cls := "SmallArchives", name := "put", desc := "(I)I" } : Jvm.MethodName)) ∈ sa_EX.2.1 := sa_ti (tin_3 (List.mem_of_getElem? (i := 93) rfl)) rfl
theorem wt_3_94 : (Jvm.Cond.selects "SmallArchives" ({ cls := "SmallArchives", name := "put", desc := "(I)I" } : Jvm.MethodName) ({ cls := "SmallArchives", name := "put", desc := "(I)I" } : Jvm.MethodName)) ∈ sa_EX.2.1 := sa_ti (tin_3 (List.mem_of_getElem? (i := 94) rfl)) rfl
theorem wt_3_101 : (Jvm.Cond.methodLink "SmallArchivesLaw" (49 : Nat) ({ cls := "SmallArchives", name := "row", desc := "(I)I" } : Jvm.MethodName)) ∈ sa_EX.2.1 := sa_ti (tin_3 (List.mem_of_getElem? (i := 101) rfl)) rfl
theorem wt_3_102 : (Jvm.Cond.instanceMethod ({ cls := "SmallArchives", name := "row", desc := "(I)I" } : Jvm.MethodName)) ∈ sa_EX.2.1 := sa_ti (tin_3 (List.mem_of_getElem? (i := 102) rfl)) rfl
theorem wt_3_103 : (Jvm.Cond.selects "SmallArchives" ({ cls := "SmallArchives", name := "row", desc := "(I)I" } : Jvm.MethodName) ({ cls := "SmallArchives", name := "row", desc := "(I)I" } : Jvm.MethodName)) ∈ sa_EX.2.1 := sa_ti (tin_3 (List.mem_of_getElem? (i := 103) rfl)) rfl
theorem wt_3_110 : (Jvm.Cond.methodLink "SmallArchivesLaw" (53 : Nat) ({ cls := "SmallArchives", name := "poke", desc := "(II)I" } : Jvm.MethodName)) ∈ sa_EX.2.1 := sa_ti (tin_3 (List.mem_of_getElem? (i := 110) rfl)) rfl
theorem wt_3_111 : (Jvm.Cond.instanceMethod ({ cls := "SmallArchives", name := "poke", desc := "(II)I" } : Jvm.MethodName)) ∈ sa_EX.2.1 := sa_ti (tin_3 (List.mem_of_getElem? (i := 111) rfl)) rfl
theorem wt_3_112 : (Jvm.Cond.selects "SmallArchives" ({ cls := "SmallArchives", name := "poke", desc := "(II)I" } : Jvm.MethodName) ({ cls := "SmallArchives", name := "poke", desc := "(II)I" } : Jvm.MethodName)) ∈ sa_EX.2.1 := sa_ti (tin_3 (List.mem_of_getElem? (i := 112) rfl)) rfl
theorem wt_3_118 : (Jvm.Cond.methodLink "SmallArchivesLaw" (57 : Nat) ({ cls := "SmallArchives", name := "cut", desc := "(I)I" } : Jvm.MethodName)) ∈ sa_EX.2.1 := sa_ti (tin_3 (List.mem_of_getElem? (i := 118) rfl)) rfl
theorem wt_3_119 : (Jvm.Cond.instanceMethod ({ cls := "SmallArchives", name := "cut", desc := "(I)I" } : Jvm.MethodName)) ∈ sa_EX.2.1 := sa_ti (tin_3 (List.mem_of_getElem? (i := 119) rfl)) rfl
theorem wt_3_120 : (Jvm.Cond.selects "SmallArchives" ({ cls := "SmallArchives", name := "cut", desc := "(I)I" } : Jvm.MethodName) ({ cls := "SmallArchives", name := "cut", desc := "(I)I" } : Jvm.MethodName)) ∈ sa_EX.2.1 := sa_ti (tin_3 (List.mem_of_getElem? (i := 120) rfl)) rfl
theorem wt_3_126 : (Jvm.Cond.methodLink "SmallArchivesLaw" (61 : Nat) ({ cls := "SmallArchives", name := "read", desc := "(I)I" } : Jvm.MethodName)) ∈ sa_EX.2.1 := sa_ti (tin_3 (List.mem_of_getElem? (i := 126) rfl)) rfl
theorem wt_3_127 : (Jvm.Cond.instanceMethod ({ cls := "SmallArchives", name := "read", desc := "(I)I" } : Jvm.MethodName)) ∈ sa_EX.2.1 := sa_ti (tin_3 (List.mem_of_getElem? (i := 127) rfl)) rfl
theorem wt_3_128 : (Jvm.Cond.selects "SmallArchives" ({ cls := "SmallArchives", name := "read", desc := "(I)I" } : Jvm.MethodName) ({ cls := "SmallArchives", name := "read", desc := "(I)I" } : Jvm.MethodName)) ∈ sa_EX.2.1 := sa_ti (tin_3 (List.mem_of_getElem? (i := 128) rfl)) rfl
theorem wt_4_157 : (Jvm.Cond.methodLink "SmallArchivesLaw" (65 : Nat) ({ cls := "SmallArchives", name := "place", desc := "()I" } : Jvm.MethodName)) ∈ sa_EX.2.1 := sa_ti (tin_4 (List.mem_of_getElem? (i := 157) rfl)) rfl
theorem wt_4_158 : (Jvm.Cond.instanceMethod ({ cls := "SmallArchives", name := "place", desc := "()I" } : Jvm.MethodName)) ∈ sa_EX.2.1 := sa_ti (tin_4 (List.mem_of_getElem? (i := 158) rfl)) rfl
theorem wt_4_159 : (Jvm.Cond.selects "SmallArchives" ({ cls := "SmallArchives", name := "place", desc := "()I" } : Jvm.MethodName) ({ cls := "SmallArchives", name := "place", desc := "()I" } : Jvm.MethodName)) ∈ sa_EX.2.1 := sa_ti (tin_4 (List.mem_of_getElem? (i := 159) rfl)) rfl
theorem wt_4_165 : (Jvm.Cond.methodLink "SmallArchivesLaw" (69 : Nat) ({ cls := "SmallArchives", name := "entries", desc := "()I" } : Jvm.MethodName)) ∈ sa_EX.2.1 := sa_ti (tin_4 (List.mem_of_getElem? (i := 165) rfl)) rfl
theorem wt_4_166 : (Jvm.Cond.instanceMethod ({ cls := "SmallArchives", name := "entries", desc := "()I" } : Jvm.MethodName)) ∈ sa_EX.2.1 := sa_ti (tin_4 (List.mem_of_getElem? (i := 166) rfl)) rfl
theorem wt_4_167 : (Jvm.Cond.selects "SmallArchives" ({ cls := "SmallArchives", name := "entries", desc := "()I" } : Jvm.MethodName) ({ cls := "SmallArchives", name := "entries", desc := "()I" } : Jvm.MethodName)) ∈ sa_EX.2.1 := sa_ti (tin_4 (List.mem_of_getElem? (i := 167) rfl)) rfl
theorem wt_4_169 : (Jvm.Cond.methodLink "SmallArchivesLaw" (73 : Nat) ({ cls := "SmallArchives", name := "told", desc := "(III)I" } : Jvm.MethodName)) ∈ sa_EX.2.1 := sa_ti (tin_4 (List.mem_of_getElem? (i := 169) rfl)) rfl
theorem wt_4_170 : (Jvm.Cond.instanceMethod ({ cls := "SmallArchives", name := "told", desc := "(III)I" } : Jvm.MethodName)) ∈ sa_EX.2.1 := sa_ti (tin_4 (List.mem_of_getElem? (i := 170) rfl)) rfl
theorem wt_4_171 : (Jvm.Cond.selects "SmallArchives" ({ cls := "SmallArchives", name := "told", desc := "(III)I" } : Jvm.MethodName) ({ cls := "SmallArchives", name := "told", desc := "(III)I" } : Jvm.MethodName)) ∈ sa_EX.2.1 := sa_ti (tin_4 (List.mem_of_getElem? (i := 171) rfl)) rfl
theorem wt_4_186 : (Jvm.Cond.methodLink "SmallArchivesLaw" (87 : Nat) ({ cls := "SmallArchives", name := "same", desc := "()I" } : Jvm.MethodName)) ∈ sa_EX.2.1 := sa_ti (tin_4 (List.mem_of_getElem? (i := 186) rfl)) rfl
theorem wt_4_187 : (Jvm.Cond.instanceMethod ({ cls := "SmallArchives", name := "same", desc := "()I" } : Jvm.MethodName)) ∈ sa_EX.2.1 := sa_ti (tin_4 (List.mem_of_getElem? (i := 187) rfl)) rfl
theorem wt_4_188 : (Jvm.Cond.selects "SmallArchives" ({ cls := "SmallArchives", name := "same", desc := "()I" } : Jvm.MethodName) ({ cls := "SmallArchives", name := "same", desc := "()I" } : Jvm.MethodName)) ∈ sa_EX.2.1 := sa_ti (tin_4 (List.mem_of_getElem? (i := 188) rfl)) rfl
theorem wt_5_130 : (Jvm.Cond.methodLink "SmallArchivesLaw" (84 : Nat) ({ cls := "SmallArchivesModel", name := "thrown", desc := "()I" } : Jvm.MethodName)) ∈ sa_EX.2.1 := sa_ti (tin_5 (List.mem_of_getElem? (i := 130) rfl)) rfl
theorem wt_5_131 : (Jvm.Cond.instanceMethod ({ cls := "SmallArchivesModel", name := "thrown", desc := "()I" } : Jvm.MethodName)) ∈ sa_EX.2.1 := sa_ti (tin_5 (List.mem_of_getElem? (i := 131) rfl)) rfl
theorem wt_5_132 : (Jvm.Cond.selects "SmallArchivesModel" ({ cls := "SmallArchivesModel", name := "thrown", desc := "()I" } : Jvm.MethodName) ({ cls := "SmallArchivesModel", name := "thrown", desc := "()I" } : Jvm.MethodName)) ∈ sa_EX.2.1 := sa_ti (tin_5 (List.mem_of_getElem? (i := 132) rfl)) rfl
theorem wt_5_134 : (Jvm.Cond.methodLink "SmallArchivesLaw" (23 : Nat) ({ cls := "SmallArchivesModel", name := "file", desc := "()I" } : Jvm.MethodName)) ∈ sa_EX.2.1 := sa_ti (tin_5 (List.mem_of_getElem? (i := 134) rfl)) rfl
theorem wt_5_135 : (Jvm.Cond.instanceMethod ({ cls := "SmallArchivesModel", name := "file", desc := "()I" } : Jvm.MethodName)) ∈ sa_EX.2.1 := sa_ti (tin_5 (List.mem_of_getElem? (i := 135) rfl)) rfl
theorem wt_5_136 : (Jvm.Cond.selects "SmallArchivesModel" ({ cls := "SmallArchivesModel", name := "file", desc := "()I" } : Jvm.MethodName) ({ cls := "SmallArchivesModel", name := "file", desc := "()I" } : Jvm.MethodName)) ∈ sa_EX.2.1 := sa_ti (tin_5 (List.mem_of_getElem? (i := 136) rfl)) rfl
theorem wt_5_138 : (Jvm.Cond.methodLink "SmallArchivesLaw" (28 : Nat) ({ cls := "SmallArchivesModel", name := "name", desc := "(I)I" } : Jvm.MethodName)) ∈ sa_EX.2.1 := sa_ti (tin_5 (List.mem_of_getElem? (i := 138) rfl)) rfl
theorem wt_5_139 : (Jvm.Cond.instanceMethod ({ cls := "SmallArchivesModel", name := "name", desc := "(I)I" } : Jvm.MethodName)) ∈ sa_EX.2.1 := sa_ti (tin_5 (List.mem_of_getElem? (i := 139) rfl)) rfl
theorem wt_5_140 : (Jvm.Cond.selects "SmallArchivesModel" ({ cls := "SmallArchivesModel", name := "name", desc := "(I)I" } : Jvm.MethodName) ({ cls := "SmallArchivesModel", name := "name", desc := "(I)I" } : Jvm.MethodName)) ∈ sa_EX.2.1 := sa_ti (tin_5 (List.mem_of_getElem? (i := 140) rfl)) rfl
theorem wt_5_148 : (Jvm.Cond.methodLink "SmallArchivesLaw" (32 : Nat) ({ cls := "SmallArchivesModel", name := "data", desc := "(I)I" } : Jvm.MethodName)) ∈ sa_EX.2.1 := sa_ti (tin_5 (List.mem_of_getElem? (i := 148) rfl)) rfl
theorem wt_5_149 : (Jvm.Cond.instanceMethod ({ cls := "SmallArchivesModel", name := "data", desc := "(I)I" } : Jvm.MethodName)) ∈ sa_EX.2.1 := sa_ti (tin_5 (List.mem_of_getElem? (i := 149) rfl)) rfl
theorem wt_5_150 : (Jvm.Cond.selects "SmallArchivesModel" ({ cls := "SmallArchivesModel", name := "data", desc := "(I)I" } : Jvm.MethodName) ({ cls := "SmallArchivesModel", name := "data", desc := "(I)I" } : Jvm.MethodName)) ∈ sa_EX.2.1 := sa_ti (tin_5 (List.mem_of_getElem? (i := 150) rfl)) rfl
theorem wt_5_152 : (Jvm.Cond.methodLink "SmallArchivesLaw" (36 : Nat) ({ cls := "SmallArchivesModel", name := "link", desc := "(I)I" } : Jvm.MethodName)) ∈ sa_EX.2.1 := sa_ti (tin_5 (List.mem_of_getElem? (i := 152) rfl)) rfl
theorem wt_5_153 : (Jvm.Cond.instanceMethod ({ cls := "SmallArchivesModel", name := "link", desc := "(I)I" } : Jvm.MethodName)) ∈ sa_EX.2.1 := sa_ti (tin_5 (List.mem_of_getElem? (i := 153) rfl)) rfl
theorem wt_5_154 : (Jvm.Cond.selects "SmallArchivesModel" ({ cls := "SmallArchivesModel", name := "link", desc := "(I)I" } : Jvm.MethodName) ({ cls := "SmallArchivesModel", name := "link", desc := "(I)I" } : Jvm.MethodName)) ∈ sa_EX.2.1 := sa_ti (tin_5 (List.mem_of_getElem? (i := 154) rfl)) rfl
theorem wt_5_156 : (Jvm.Cond.methodLink "SmallArchivesLaw" (40 : Nat) ({ cls := "SmallArchivesModel", name := "clear", desc := "()I" } : Jvm.MethodName)) ∈ sa_EX.2.1 := sa_ti (tin_5 (List.mem_of_getElem? (i := 156) rfl)) rfl
theorem wt_5_157 : (Jvm.Cond.instanceMethod ({ cls := "SmallArchivesModel", name := "clear", desc := "()I" } : Jvm.MethodName)) ∈ sa_EX.2.1 := sa_ti (tin_5 (List.mem_of_getElem? (i := 157) rfl)) rfl
theorem wt_5_158 : (Jvm.Cond.selects "SmallArchivesModel" ({ cls := "SmallArchivesModel", name := "clear", desc := "()I" } : Jvm.MethodName) ({ cls := "SmallArchivesModel", name := "clear", desc := "()I" } : Jvm.MethodName)) ∈ sa_EX.2.1 := sa_ti (tin_5 (List.mem_of_getElem? (i := 158) rfl)) rfl
theorem wt_5_160 : (Jvm.Cond.methodLink "SmallArchivesLaw" (44 : Nat) ({ cls := "SmallArchivesModel", name := "write", desc := "(I)I" } : Jvm.MethodName)) ∈ sa_EX.2.1 := sa_ti (tin_5 (List.mem_of_getElem? (i := 160) rfl)) rfl
theorem wt_5_161 : (Jvm.Cond.instanceMethod ({ cls := "SmallArchivesModel", name := "write", desc := "(I)I" } : Jvm.MethodName)) ∈ sa_EX.2.1 := sa_ti (tin_5 (List.mem_of_getElem? (i := 161) rfl)) rfl
theorem wt_5_162 : (Jvm.Cond.selects "SmallArchivesModel" ({ cls := "SmallArchivesModel", name := "write", desc := "(I)I" } : Jvm.MethodName) ({ cls := "SmallArchivesModel", name := "write", desc := "(I)I" } : Jvm.MethodName)) ∈ sa_EX.2.1 := sa_ti (tin_5 (List.mem_of_getElem? (i := 162) rfl)) rfl
theorem wt_5_210 : (Jvm.Cond.methodLink "SmallArchivesLaw" (48 : Nat) ({ cls := "SmallArchivesModel", name := "put", desc := "(I)I" } : Jvm.MethodName)) ∈ sa_EX.2.1 := sa_ti (tin_5 (List.mem_of_getElem? (i := 210) rfl)) rfl
theorem wt_5_211 : (Jvm.Cond.instanceMethod ({ cls := "SmallArchivesModel", name := "put", desc := "(I)I" } : Jvm.MethodName)) ∈ sa_EX.2.1 := sa_ti (tin_5 (List.mem_of_getElem? (i := 211) rfl)) rfl
theorem wt_5_212 : (Jvm.Cond.selects "SmallArchivesModel" ({ cls := "SmallArchivesModel", name := "put", desc := "(I)I" } : Jvm.MethodName) ({ cls := "SmallArchivesModel", name := "put", desc := "(I)I" } : Jvm.MethodName)) ∈ sa_EX.2.1 := sa_ti (tin_5 (List.mem_of_getElem? (i := 212) rfl)) rfl
theorem wt_5_214 : (Jvm.Cond.methodLink "SmallArchivesLaw" (52 : Nat) ({ cls := "SmallArchivesModel", name := "row", desc := "(I)I" } : Jvm.MethodName)) ∈ sa_EX.2.1 := sa_ti (tin_5 (List.mem_of_getElem? (i := 214) rfl)) rfl
theorem wt_5_215 : (Jvm.Cond.instanceMethod ({ cls := "SmallArchivesModel", name := "row", desc := "(I)I" } : Jvm.MethodName)) ∈ sa_EX.2.1 := sa_ti (tin_5 (List.mem_of_getElem? (i := 215) rfl)) rfl
theorem wt_5_216 : (Jvm.Cond.selects "SmallArchivesModel" ({ cls := "SmallArchivesModel", name := "row", desc := "(I)I" } : Jvm.MethodName) ({ cls := "SmallArchivesModel", name := "row", desc := "(I)I" } : Jvm.MethodName)) ∈ sa_EX.2.1 := sa_ti (tin_5 (List.mem_of_getElem? (i := 216) rfl)) rfl
theorem wt_5_218 : (Jvm.Cond.methodLink "SmallArchivesLaw" (56 : Nat) ({ cls := "SmallArchivesModel", name := "poke", desc := "(II)I" } : Jvm.MethodName)) ∈ sa_EX.2.1 := sa_ti (tin_5 (List.mem_of_getElem? (i := 218) rfl)) rfl
theorem wt_5_219 : (Jvm.Cond.instanceMethod ({ cls := "SmallArchivesModel", name := "poke", desc := "(II)I" } : Jvm.MethodName)) ∈ sa_EX.2.1 := sa_ti (tin_5 (List.mem_of_getElem? (i := 219) rfl)) rfl
theorem wt_5_220 : (Jvm.Cond.selects "SmallArchivesModel" ({ cls := "SmallArchivesModel", name := "poke", desc := "(II)I" } : Jvm.MethodName) ({ cls := "SmallArchivesModel", name := "poke", desc := "(II)I" } : Jvm.MethodName)) ∈ sa_EX.2.1 := sa_ti (tin_5 (List.mem_of_getElem? (i := 220) rfl)) rfl
theorem wt_5_222 : (Jvm.Cond.methodLink "SmallArchivesLaw" (60 : Nat) ({ cls := "SmallArchivesModel", name := "cut", desc := "(I)I" } : Jvm.MethodName)) ∈ sa_EX.2.1 := sa_ti (tin_5 (List.mem_of_getElem? (i := 222) rfl)) rfl
theorem wt_5_223 : (Jvm.Cond.instanceMethod ({ cls := "SmallArchivesModel", name := "cut", desc := "(I)I" } : Jvm.MethodName)) ∈ sa_EX.2.1 := sa_ti (tin_5 (List.mem_of_getElem? (i := 223) rfl)) rfl
theorem wt_5_224 : (Jvm.Cond.selects "SmallArchivesModel" ({ cls := "SmallArchivesModel", name := "cut", desc := "(I)I" } : Jvm.MethodName) ({ cls := "SmallArchivesModel", name := "cut", desc := "(I)I" } : Jvm.MethodName)) ∈ sa_EX.2.1 := sa_ti (tin_5 (List.mem_of_getElem? (i := 224) rfl)) rfl
theorem wt_5_226 : (Jvm.Cond.methodLink "SmallArchivesLaw" (64 : Nat) ({ cls := "SmallArchivesModel", name := "read", desc := "(I)I" } : Jvm.MethodName)) ∈ sa_EX.2.1 := sa_ti (tin_5 (List.mem_of_getElem? (i := 226) rfl)) rfl
theorem wt_5_227 : (Jvm.Cond.instanceMethod ({ cls := "SmallArchivesModel", name := "read", desc := "(I)I" } : Jvm.MethodName)) ∈ sa_EX.2.1 := sa_ti (tin_5 (List.mem_of_getElem? (i := 227) rfl)) rfl
theorem wt_5_228 : (Jvm.Cond.selects "SmallArchivesModel" ({ cls := "SmallArchivesModel", name := "read", desc := "(I)I" } : Jvm.MethodName) ({ cls := "SmallArchivesModel", name := "read", desc := "(I)I" } : Jvm.MethodName)) ∈ sa_EX.2.1 := sa_ti (tin_5 (List.mem_of_getElem? (i := 228) rfl)) rfl
theorem wt_6_58 : (Jvm.Cond.methodLink "SmallArchivesLaw" (68 : Nat) ({ cls := "SmallArchivesModel", name := "place", desc := "()I" } : Jvm.MethodName)) ∈ sa_EX.2.1 := sa_ti (tin_6 (List.mem_of_getElem? (i := 58) rfl)) rfl
theorem wt_6_59 : (Jvm.Cond.instanceMethod ({ cls := "SmallArchivesModel", name := "place", desc := "()I" } : Jvm.MethodName)) ∈ sa_EX.2.1 := sa_ti (tin_6 (List.mem_of_getElem? (i := 59) rfl)) rfl
theorem wt_6_60 : (Jvm.Cond.selects "SmallArchivesModel" ({ cls := "SmallArchivesModel", name := "place", desc := "()I" } : Jvm.MethodName) ({ cls := "SmallArchivesModel", name := "place", desc := "()I" } : Jvm.MethodName)) ∈ sa_EX.2.1 := sa_ti (tin_6 (List.mem_of_getElem? (i := 60) rfl)) rfl
theorem wt_6_62 : (Jvm.Cond.methodLink "SmallArchivesLaw" (72 : Nat) ({ cls := "SmallArchivesModel", name := "entries", desc := "()I" } : Jvm.MethodName)) ∈ sa_EX.2.1 := sa_ti (tin_6 (List.mem_of_getElem? (i := 62) rfl)) rfl
theorem wt_6_63 : (Jvm.Cond.instanceMethod ({ cls := "SmallArchivesModel", name := "entries", desc := "()I" } : Jvm.MethodName)) ∈ sa_EX.2.1 := sa_ti (tin_6 (List.mem_of_getElem? (i := 63) rfl)) rfl
theorem wt_6_64 : (Jvm.Cond.selects "SmallArchivesModel" ({ cls := "SmallArchivesModel", name := "entries", desc := "()I" } : Jvm.MethodName) ({ cls := "SmallArchivesModel", name := "entries", desc := "()I" } : Jvm.MethodName)) ∈ sa_EX.2.1 := sa_ti (tin_6 (List.mem_of_getElem? (i := 64) rfl)) rfl
theorem wt_6_66 : (Jvm.Cond.methodLink "SmallArchivesLaw" (77 : Nat) ({ cls := "SmallArchivesModel", name := "told", desc := "(III)I" } : Jvm.MethodName)) ∈ sa_EX.2.1 := sa_ti (tin_6 (List.mem_of_getElem? (i := 66) rfl)) rfl
theorem wt_6_67 : (Jvm.Cond.instanceMethod ({ cls := "SmallArchivesModel", name := "told", desc := "(III)I" } : Jvm.MethodName)) ∈ sa_EX.2.1 := sa_ti (tin_6 (List.mem_of_getElem? (i := 67) rfl)) rfl
theorem wt_6_68 : (Jvm.Cond.selects "SmallArchivesModel" ({ cls := "SmallArchivesModel", name := "told", desc := "(III)I" } : Jvm.MethodName) ({ cls := "SmallArchivesModel", name := "told", desc := "(III)I" } : Jvm.MethodName)) ∈ sa_EX.2.1 := sa_ti (tin_6 (List.mem_of_getElem? (i := 68) rfl)) rfl
theorem wt_6_78 : (Jvm.Cond.methodLink "SmallArchivesLaw" (83 : Nat) ({ cls := "SmallArchivesModel", name := "got", desc := "(II)I" } : Jvm.MethodName)) ∈ sa_EX.2.1 := sa_ti (tin_6 (List.mem_of_getElem? (i := 78) rfl)) rfl
theorem wt_6_79 : (Jvm.Cond.instanceMethod ({ cls := "SmallArchivesModel", name := "got", desc := "(II)I" } : Jvm.MethodName)) ∈ sa_EX.2.1 := sa_ti (tin_6 (List.mem_of_getElem? (i := 79) rfl)) rfl
theorem wt_6_80 : (Jvm.Cond.selects "SmallArchivesModel" ({ cls := "SmallArchivesModel", name := "got", desc := "(II)I" } : Jvm.MethodName) ({ cls := "SmallArchivesModel", name := "got", desc := "(II)I" } : Jvm.MethodName)) ∈ sa_EX.2.1 := sa_ti (tin_6 (List.mem_of_getElem? (i := 80) rfl)) rfl
theorem wt_6_82 : (Jvm.Cond.methodLink "SmallArchivesLaw" (90 : Nat) ({ cls := "SmallArchivesModel", name := "same", desc := "()I" } : Jvm.MethodName)) ∈ sa_EX.2.1 := sa_ti (tin_6 (List.mem_of_getElem? (i := 82) rfl)) rfl
theorem wt_6_83 : (Jvm.Cond.instanceMethod ({ cls := "SmallArchivesModel", name := "same", desc := "()I" } : Jvm.MethodName)) ∈ sa_EX.2.1 := sa_ti (tin_6 (List.mem_of_getElem? (i := 83) rfl)) rfl
theorem wt_6_84 : (Jvm.Cond.selects "SmallArchivesModel" ({ cls := "SmallArchivesModel", name := "same", desc := "()I" } : Jvm.MethodName) ({ cls := "SmallArchivesModel", name := "same", desc := "()I" } : Jvm.MethodName)) ∈ sa_EX.2.1 := sa_ti (tin_6 (List.mem_of_getElem? (i := 84) rfl)) rfl
theorem sa_t1_L_law : ∀ x : Int32, (x.toInt < 0 ∨ 15 < x.toInt) → ((39 : Nat) : Int) + 496 = (sa_tgt [(0, 116), (1, 129), (2, 154), (3, 179), (4, 204), (5, 217), (6, 242), (7, 267), (8, 292), (9, 329), (10, 354), (11, 379), (12, 392), (13, 405), (14, 454), (15, 522)] 535 x : Int) := by
  intro x h
  have n0 : ¬ x = 0 := fun e => by subst e; exact absurd h (by decide)
  have n1 : ¬ x = 1 := fun e => by subst e; exact absurd h (by decide)
  have n2 : ¬ x = 2 := fun e => by subst e; exact absurd h (by decide)
  have n3 : ¬ x = 3 := fun e => by subst e; exact absurd h (by decide)
  have n4 : ¬ x = 4 := fun e => by subst e; exact absurd h (by decide)
  have n5 : ¬ x = 5 := fun e => by subst e; exact absurd h (by decide)
  have n6 : ¬ x = 6 := fun e => by subst e; exact absurd h (by decide)
  have n7 : ¬ x = 7 := fun e => by subst e; exact absurd h (by decide)
  have n8 : ¬ x = 8 := fun e => by subst e; exact absurd h (by decide)
  have n9 : ¬ x = 9 := fun e => by subst e; exact absurd h (by decide)
  have n10 : ¬ x = 10 := fun e => by subst e; exact absurd h (by decide)
  have n11 : ¬ x = 11 := fun e => by subst e; exact absurd h (by decide)
  have n12 : ¬ x = 12 := fun e => by subst e; exact absurd h (by decide)
  have n13 : ¬ x = 13 := fun e => by subst e; exact absurd h (by decide)
  have n14 : ¬ x = 14 := fun e => by subst e; exact absurd h (by decide)
  have n15 : ¬ x = 15 := fun e => by subst e; exact absurd h (by decide)
  simp only [sa_tgt, if_neg n0, if_neg n1, if_neg n2, if_neg n3, if_neg n4, if_neg n5, if_neg n6, if_neg n7, if_neg n8, if_neg n9, if_neg n10, if_neg n11, if_neg n12, if_neg n13, if_neg n14, if_neg n15]
  rfl
theorem sa_t2_L_law : ∀ x : Int32, ¬ x.toInt < 0 → ¬ 15 < x.toInt → ∃ off, (#[77, 90, 115, 140, 165, 178, 203, 228, 253, 290, 315, 340, 353, 366, 415, 483] : Array Int)[(x.toInt - 0).toNat]? = some off ∧ ((39 : Nat) : Int) + off = (sa_tgt [(0, 116), (1, 129), (2, 154), (3, 179), (4, 204), (5, 217), (6, 242), (7, 267), (8, 292), (9, 329), (10, 354), (11, 379), (12, 392), (13, 405), (14, 454), (15, 522)] 535 x : Int) := by
  intro x h1 h2
  have h3 : x.toInt = 0 ∨ x.toInt = 1 ∨ x.toInt = 2 ∨ x.toInt = 3 ∨ x.toInt = 4 ∨ x.toInt = 5 ∨ x.toInt = 6 ∨ x.toInt = 7 ∨ x.toInt = 8 ∨ x.toInt = 9 ∨ x.toInt = 10 ∨ x.toInt = 11 ∨ x.toInt = 12 ∨ x.toInt = 13 ∨ x.toInt = 14 ∨ x.toInt = 15 := by omega
  rcases h3 with h | h | h | h | h | h | h | h | h | h | h | h | h | h | h | h
  · have h4 : x = 0 := Int32.toInt_inj.mp (h.trans rfl)
    subst h4; exact ⟨_, rfl, rfl⟩
  · have h4 : x = 1 := Int32.toInt_inj.mp (h.trans rfl)
    subst h4; exact ⟨_, rfl, rfl⟩
  · have h4 : x = 2 := Int32.toInt_inj.mp (h.trans rfl)
    subst h4; exact ⟨_, rfl, rfl⟩
  · have h4 : x = 3 := Int32.toInt_inj.mp (h.trans rfl)
    subst h4; exact ⟨_, rfl, rfl⟩
  · have h4 : x = 4 := Int32.toInt_inj.mp (h.trans rfl)
    subst h4; exact ⟨_, rfl, rfl⟩
  · have h4 : x = 5 := Int32.toInt_inj.mp (h.trans rfl)
    subst h4; exact ⟨_, rfl, rfl⟩
  · have h4 : x = 6 := Int32.toInt_inj.mp (h.trans rfl)
    subst h4; exact ⟨_, rfl, rfl⟩
  · have h4 : x = 7 := Int32.toInt_inj.mp (h.trans rfl)
    subst h4; exact ⟨_, rfl, rfl⟩
  · have h4 : x = 8 := Int32.toInt_inj.mp (h.trans rfl)
    subst h4; exact ⟨_, rfl, rfl⟩
  · have h4 : x = 9 := Int32.toInt_inj.mp (h.trans rfl)
    subst h4; exact ⟨_, rfl, rfl⟩
  · have h4 : x = 10 := Int32.toInt_inj.mp (h.trans rfl)
    subst h4; exact ⟨_, rfl, rfl⟩
  · have h4 : x = 11 := Int32.toInt_inj.mp (h.trans rfl)
    subst h4; exact ⟨_, rfl, rfl⟩
  · have h4 : x = 12 := Int32.toInt_inj.mp (h.trans rfl)
    subst h4; exact ⟨_, rfl, rfl⟩
  · have h4 : x = 13 := Int32.toInt_inj.mp (h.trans rfl)
    subst h4; exact ⟨_, rfl, rfl⟩
  · have h4 : x = 14 := Int32.toInt_inj.mp (h.trans rfl)
    subst h4; exact ⟨_, rfl, rfl⟩
  · have h4 : x = 15 := Int32.toInt_inj.mp (h.trans rfl)
    subst h4; exact ⟨_, rfl, rfl⟩
def tb_L_law (L : Nat) (xs : Nat → Int32) : sa_T := [(23, so_iload 4 25),
  (25, so_aload 0 26),
  (26, so_sln L 27),
  (27, so_push (.inl (4)) 28),
  (28, so_bin (fun x y => x - y) 29),
  (29, so_cmp (fun x y => y < x) 541 32),
  (32, so_aload 0 33),
  (33, so_iload 4 35),
  (35, so_sld L xs 36),
  (36, so_push (.inl (15)) 38),
  (38, so_bin (fun x y => x &&& y) 39),
  (39, so_sw [(0, 116), (1, 129), (2, 154), (3, 179), (4, 204), (5, 217), (6, 242), (7, 267), (8, 292), (9, 329), (10, 354), (11, 379), (12, 392), (13, 405), (14, 454), (15, 522)] 535),
  (116, so_aload 1 117),
  (117, so_virt [(8, ct_X10_file)] 0 0 0 120),
  (120, so_aload 2 121),
  (121, so_virt [(9, ct_X11_file)] 0 0 0 124),
  (124, so_cmp (fun x y => x = y) 535 127),
  (127, so_push (.inl (0)) 128),
  (128, so_one),
  (129, so_aload 1 130),
  (130, so_aload 0 131),
  (131, so_iload 4 133),
  (133, so_push (.inl (1)) 134),
  (134, so_bin (fun x y => x + y) 135),
  (135, so_sld L xs 136),
  (136, so_virt [(8, ct_X10_name)] 1 0 0 139),
  (139, so_aload 2 140),
  (140, so_aload 0 141),
  (141, so_iload 4 143),
  (143, so_push (.inl (1)) 144),
  (144, so_bin (fun x y => x + y) 145),
  (145, so_sld L xs 146),
  (146, so_virt [(9, ct_X11_name)] 1 0 0 149),
  (149, so_cmp (fun x y => x = y) 535 152),
  (152, so_push (.inl (0)) 153),
  (153, so_one),
  (154, so_aload 1 155),
  (155, so_aload 0 156),
  (156, so_iload 4 158),
  (158, so_push (.inl (1)) 159),
  (159, so_bin (fun x y => x + y) 160),
  (160, so_sld L xs 161),
  (161, so_virt [(8, ct_X10_data)] 1 0 0 164),
  (164, so_aload 2 165),
  (165, so_aload 0 166),
  (166, so_iload 4 168),
  (168, so_push (.inl (1)) 169),
  (169, so_bin (fun x y => x + y) 170),
  (170, so_sld L xs 171),
  (171, so_virt [(9, ct_X11_data)] 1 0 0 174),
  (174, so_cmp (fun x y => x = y) 535 177),
  (177, so_push (.inl (0)) 178),
  (178, so_one),
  (179, so_aload 1 180),
  (180, so_aload 0 181),
  (181, so_iload 4 183),
  (183, so_push (.inl (1)) 184),
  (184, so_bin (fun x y => x + y) 185),
  (185, so_sld L xs 186),
  (186, so_virt [(8, ct_X10_link)] 1 0 0 189),
  (189, so_aload 2 190),
  (190, so_aload 0 191),
  (191, so_iload 4 193),
  (193, so_push (.inl (1)) 194),
  (194, so_bin (fun x y => x + y) 195),
  (195, so_sld L xs 196),
  (196, so_virt [(9, ct_X11_link)] 1 0 0 199),
  (199, so_cmp (fun x y => x = y) 535 202),
  (202, so_push (.inl (0)) 203),
  (203, so_one),
  (204, so_aload 1 205),
  (205, so_virt [(8, ct_X10_clear)] 0 0 0 208),
  (208, so_aload 2 209),
  (209, so_virt [(9, ct_X11_clear)] 0 0 0 212),
  (212, so_cmp (fun x y => x = y) 535 215),
  (215, so_push (.inl (0)) 216),
  (216, so_one),
  (217, so_aload 1 218),
  (218, so_aload 0 219),
  (219, so_iload 4 221),
  (221, so_push (.inl (1)) 222),
  (222, so_bin (fun x y => x + y) 223),
  (223, so_sld L xs 224),
  (224, so_virt [(8, ct_X10_write)] 1 0 0 227),
  (227, so_aload 2 228),
  (228, so_aload 0 229),
  (229, so_iload 4 231),
  (231, so_push (.inl (1)) 232),
  (232, so_bin (fun x y => x + y) 233),
  (233, so_sld L xs 234),
  (234, so_virt [(9, ct_X11_write)] 1 0 0 237),
  (237, so_cmp (fun x y => x = y) 535 240),
  (240, so_push (.inl (0)) 241),
  (241, so_one),
  (242, so_aload 1 243),
  (243, so_aload 0 244),
  (244, so_iload 4 246),
  (246, so_push (.inl (1)) 247),
  (247, so_bin (fun x y => x + y) 248),
  (248, so_sld L xs 249),
  (249, so_virt [(8, ct_X10_put)] 1 0 0 252),
  (252, so_aload 2 253),
  (253, so_aload 0 254),
  (254, so_iload 4 256),
  (256, so_push (.inl (1)) 257),
  (257, so_bin (fun x y => x + y) 258),
  (258, so_sld L xs 259),
  (259, so_virt [(9, ct_X11_put)] 1 0 0 262),
  (262, so_cmp (fun x y => x = y) 535 265),
  (265, so_push (.inl (0)) 266),
  (266, so_one),
  (267, so_aload 1 268),
  (268, so_aload 0 269),
  (269, so_iload 4 271),
  (271, so_push (.inl (1)) 272),
  (272, so_bin (fun x y => x + y) 273),
  (273, so_sld L xs 274),
  (274, so_virt [(8, ct_X10_row)] 1 0 0 277),
  (277, so_aload 2 278),
  (278, so_aload 0 279),
  (279, so_iload 4 281),
  (281, so_push (.inl (1)) 282),
  (282, so_bin (fun x y => x + y) 283),
  (283, so_sld L xs 284),
  (284, so_virt [(9, ct_X11_row)] 1 0 0 287),
  (287, so_cmp (fun x y => x = y) 535 290),
  (290, so_push (.inl (0)) 291),
  (291, so_one),
  (292, so_aload 1 293),
  (293, so_aload 0 294),
  (294, so_iload 4 296),
  (296, so_push (.inl (1)) 297),
  (297, so_bin (fun x y => x + y) 298),
  (298, so_sld L xs 299),
  (299, so_aload 0 300),
  (300, so_iload 4 302),
  (302, so_push (.inl (2)) 303),
  (303, so_bin (fun x y => x + y) 304),
  (304, so_sld L xs 305),
  (305, so_virt [(8, ct_X10_poke)] 2 0 0 308),
  (308, so_aload 2 309),
  (309, so_aload 0 310),
  (310, so_iload 4 312),
  (312, so_push (.inl (1)) 313),
  (313, so_bin (fun x y => x + y) 314),
  (314, so_sld L xs 315),
  (315, so_aload 0 316),
  (316, so_iload 4 318),
  (318, so_push (.inl (2)) 319),
  (319, so_bin (fun x y => x + y) 320),
  (320, so_sld L xs 321),
  (321, so_virt [(9, ct_X11_poke)] 2 0 0 324),
  (324, so_cmp (fun x y => x = y) 535 327),
  (327, so_push (.inl (0)) 328),
  (328, so_one),
  (329, so_aload 1 330),
  (330, so_aload 0 331),
  (331, so_iload 4 333),
  (333, so_push (.inl (1)) 334),
  (334, so_bin (fun x y => x + y) 335),
  (335, so_sld L xs 336),
  (336, so_virt [(8, ct_X10_cut)] 1 0 0 339),
  (339, so_aload 2 340),
  (340, so_aload 0 341),
  (341, so_iload 4 343),
  (343, so_push (.inl (1)) 344),
  (344, so_bin (fun x y => x + y) 345),
  (345, so_sld L xs 346),
  (346, so_virt [(9, ct_X11_cut)] 1 0 0 349),
  (349, so_cmp (fun x y => x = y) 535 352),
  (352, so_push (.inl (0)) 353),
  (353, so_one),
  (354, so_aload 1 355),
  (355, so_aload 0 356),
  (356, so_iload 4 358),
  (358, so_push (.inl (1)) 359),
  (359, so_bin (fun x y => x + y) 360),
  (360, so_sld L xs 361),
  (361, so_virt [(8, ct_X10_read)] 1 0 0 364),
  (364, so_aload 2 365),
  (365, so_aload 0 366),
  (366, so_iload 4 368),
  (368, so_push (.inl (1)) 369),
  (369, so_bin (fun x y => x + y) 370),
  (370, so_sld L xs 371),
  (371, so_virt [(9, ct_X11_read)] 1 0 0 374),
  (374, so_cmp (fun x y => x = y) 535 377),
  (377, so_push (.inl (0)) 378),
  (378, so_one),
  (379, so_aload 1 380),
  (380, so_virt [(8, ct_X10_place)] 0 0 0 383),
  (383, so_aload 2 384),
  (384, so_virt [(9, ct_X11_place)] 0 0 0 387),
  (387, so_cmp (fun x y => x = y) 535 390),
  (390, so_push (.inl (0)) 391),
  (391, so_one),
  (392, so_aload 1 393),
  (393, so_virt [(8, ct_X10_entries)] 0 0 0 396),
  (396, so_aload 2 397),
  (397, so_virt [(9, ct_X11_entries)] 0 0 0 400),
  (400, so_cmp (fun x y => x = y) 535 403),
  (403, so_push (.inl (0)) 404),
  (404, so_one),
  (405, so_aload 1 406),
  (406, so_aload 0 407),
  (407, so_iload 4 409),
  (409, so_push (.inl (1)) 410),
  (410, so_bin (fun x y => x + y) 411),
  (411, so_sld L xs 412),
  (412, so_aload 0 413),
  (413, so_iload 4 415),
  (415, so_push (.inl (2)) 416),
  (416, so_bin (fun x y => x + y) 417),
  (417, so_sld L xs 418),
  (418, so_aload 0 419),
  (419, so_iload 4 421),
  (421, so_push (.inl (3)) 422),
  (422, so_bin (fun x y => x + y) 423),
  (423, so_sld L xs 424),
  (424, so_virt [(8, ct_X10_told)] 3 0 0 427),
  (427, so_aload 2 428),
  (428, so_aload 0 429),
  (429, so_iload 4 431),
  (431, so_push (.inl (1)) 432),
  (432, so_bin (fun x y => x + y) 433),
  (433, so_sld L xs 434),
  (434, so_aload 0 435),
  (435, so_iload 4 437),
  (437, so_push (.inl (2)) 438),
  (438, so_bin (fun x y => x + y) 439),
  (439, so_sld L xs 440),
  (440, so_aload 0 441),
  (441, so_iload 4 443),
  (443, so_push (.inl (3)) 444),
  (444, so_bin (fun x y => x + y) 445),
  (445, so_sld L xs 446),
  (446, so_virt [(9, ct_X11_told)] 3 0 0 449),
  (449, so_cmp (fun x y => x = y) 535 452),
  (452, so_push (.inl (0)) 453),
  (453, so_one),
  (454, so_aload 1 455),
  (455, so_aload 0 456),
  (456, so_iload 4 458),
  (458, so_push (.inl (1)) 459),
  (459, so_bin (fun x y => x + y) 460),
  (460, so_sld L xs 461),
  (461, so_aload 0 462),
  (462, so_iload 4 464),
  (464, so_push (.inl (2)) 465),
  (465, so_bin (fun x y => x + y) 466),
  (466, so_sld L xs 467),
  (467, so_aload 3 468),
  (468, so_lgot 471),
  (471, so_istore 5 473),
  (473, so_aload 2 474),
  (474, so_aload 0 475),
  (475, so_iload 4 477),
  (477, so_push (.inl (1)) 478),
  (478, so_bin (fun x y => x + y) 479),
  (479, so_sld L xs 480),
  (480, so_aload 0 481),
  (481, so_iload 4 483),
  (483, so_push (.inl (2)) 484),
  (484, so_bin (fun x y => x + y) 485),
  (485, so_sld L xs 486),
  (486, so_virt [(9, ct_X11_got)] 2 0 0 489),
  (489, so_istore 6 491),
  (491, so_aload 2 492),
  (492, so_virt [(9, ct_X11_thrown)] 0 0 0 495),
  (495, so_iload 5 497),
  (497, so_cmp (fun x y => x = y) 502 500),
  (500, so_push (.inl (0)) 501),
  (501, so_one),
  (502, so_iload 5 504),
  (504, so_if (fun x => x = 0) 507 519),
  (507, so_lcm 519 517),
  (517, so_push (.inl (0)) 518),
  (518, so_one),
  (519, so_goto 535),
  (522, so_aload 1 523),
  (523, so_virt [(8, ct_X10_same)] 0 0 0 526),
  (526, so_aload 2 527),
  (527, so_virt [(9, ct_X11_same)] 0 0 0 530),
  (530, so_cmp (fun x y => x = y) 535 533),
  (533, so_push (.inl (0)) 534),
  (534, so_one),
  (535, so_iinc 4 (4) 538),
  (538, so_goto 23),
  (541, so_push (.inl (1)) 542),
  (542, so_one)]
set_option maxRecDepth 100000 in
theorem tm_L_law (L : Nat) (xs : Nat → Int32) : sa_tm (tb_L_law L xs) := ⟨sm_iload, sm_aload, sm_sln, sm_push, sm_bin, sm_cmp, sm_aload, sm_iload, sm_sld, sm_push, sm_bin, sm_sw, sm_aload, (sm_virt (sa_lc mo_X10_file sa_l0)), sm_aload, (sm_virt (sa_lc mo_X11_file sa_l0)), sm_cmp, sm_push, sm_one, sm_aload, sm_aload, sm_iload, sm_push, sm_bin, sm_sld, (sm_virt (sa_lc mo_X10_name sa_l0)), sm_aload, sm_aload, sm_iload, sm_push, sm_bin, sm_sld, (sm_virt (sa_lc mo_X11_name sa_l0)), sm_cmp, sm_push, sm_one, sm_aload, sm_aload, sm_iload, sm_push, sm_bin, sm_sld, (sm_virt (sa_lc mo_X10_data sa_l0)), sm_aload, sm_aload, sm_iload, sm_push, sm_bin, sm_sld, (sm_virt (sa_lc mo_X11_data sa_l0)), sm_cmp, sm_push, sm_one, sm_aload, sm_aload, sm_iload, sm_push, sm_bin, sm_sld, (sm_virt (sa_lc mo_X10_link sa_l0)), sm_aload, sm_aload, sm_iload, sm_push, sm_bin, sm_sld, (sm_virt (sa_lc mo_X11_link sa_l0)), sm_cmp, sm_push, sm_one, sm_aload, (sm_virt (sa_lc mo_X10_clear sa_l0)), sm_aload, (sm_virt (sa_lc mo_X11_clear sa_l0)), sm_cmp, sm_push, sm_one, sm_aload, sm_aload, sm_iload, sm_push, sm_bin, sm_sld, (sm_virt (sa_lc mo_X10_write sa_l0)), sm_aload, sm_aload, sm_iload, sm_push, sm_bin, sm_sld, (sm_virt (sa_lc mo_X11_write sa_l0)), sm_cmp, sm_push, sm_one, sm_aload, sm_aload, sm_iload, sm_push, sm_bin, sm_sld, (sm_virt (sa_lc mo_X10_put sa_l0)), sm_aload, sm_aload, sm_iload, sm_push, sm_bin, sm_sld, (sm_virt (sa_lc mo_X11_put sa_l0)), sm_cmp, sm_push, sm_one, sm_aload, sm_aload, sm_iload, sm_push, sm_bin, sm_sld, (sm_virt (sa_lc mo_X10_row sa_l0)), sm_aload, sm_aload, sm_iload, sm_push, sm_bin, sm_sld, (sm_virt (sa_lc mo_X11_row sa_l0)), sm_cmp, sm_push, sm_one, sm_aload, sm_aload, sm_iload, sm_push, sm_bin, sm_sld, sm_aload, sm_iload, sm_push, sm_bin, sm_sld, (sm_virt (sa_lc mo_X10_poke sa_l0)), sm_aload, sm_aload, sm_iload, sm_push, sm_bin, sm_sld, sm_aload, sm_iload, sm_push, sm_bin, sm_sld, (sm_virt (sa_lc mo_X11_poke sa_l0)), sm_cmp, sm_push, sm_one, sm_aload, sm_aload, sm_iload, sm_push, sm_bin, sm_sld, (sm_virt (sa_lc mo_X10_cut sa_l0)), sm_aload, sm_aload, sm_iload, sm_push, sm_bin, sm_sld, (sm_virt (sa_lc mo_X11_cut sa_l0)), sm_cmp, sm_push, sm_one, sm_aload, sm_aload, sm_iload, sm_push, sm_bin, sm_sld, (sm_virt (sa_lc mo_X10_read sa_l0)), sm_aload, sm_aload, sm_iload, sm_push, sm_bin, sm_sld, (sm_virt (sa_lc mo_X11_read sa_l0)), sm_cmp, sm_push, sm_one, sm_aload, (sm_virt (sa_lc mo_X10_place sa_l0)), sm_aload, (sm_virt (sa_lc mo_X11_place sa_l0)), sm_cmp, sm_push, sm_one, sm_aload, (sm_virt (sa_lc mo_X10_entries sa_l0)), sm_aload, (sm_virt (sa_lc mo_X11_entries sa_l0)), sm_cmp, sm_push, sm_one, sm_aload, sm_aload, sm_iload, sm_push, sm_bin, sm_sld, sm_aload, sm_iload, sm_push, sm_bin, sm_sld, sm_aload, sm_iload, sm_push, sm_bin, sm_sld, (sm_virt (sa_lc mo_X10_told sa_l0)), sm_aload, sm_aload, sm_iload, sm_push, sm_bin, sm_sld, sm_aload, sm_iload, sm_push, sm_bin, sm_sld, sm_aload, sm_iload, sm_push, sm_bin, sm_sld, (sm_virt (sa_lc mo_X11_told sa_l0)), sm_cmp, sm_push, sm_one, sm_aload, sm_aload, sm_iload, sm_push, sm_bin, sm_sld, sm_aload, sm_iload, sm_push, sm_bin, sm_sld, sm_aload, sm_lgot, sm_istore, sm_aload, sm_aload, sm_iload, sm_push, sm_bin, sm_sld, sm_aload, sm_iload, sm_push, sm_bin, sm_sld, (sm_virt (sa_lc mo_X11_got sa_l0)), sm_istore, sm_aload, (sm_virt (sa_lc mo_X11_thrown sa_l0)), sm_iload, sm_cmp, sm_push, sm_one, sm_iload, sm_if, sm_lcm, sm_push, sm_one, sm_goto, sm_aload, (sm_virt (sa_lc mo_X10_same sa_l0)), sm_aload, (sm_virt (sa_lc mo_X11_same sa_l0)), sm_cmp, sm_push, sm_one, sm_iinc, sm_goto, sm_push, sm_one, trivial⟩
set_option maxRecDepth 100000 in
theorem u_L_law_23 (L : Nat) (xs : Nat → Int32) (lo : List (Option sa_V)) (st : List sa_V) (hs : sa_H) (rc rs : Nat) (Q : sa_Q) : sa_w (tb_L_law L xs) (23, lo, st, hs, rc, rs) Q = so_iload 4 25 (23, lo, st, hs, rc, rs) (fun g => sa_w (tb_L_law L xs) g Q) Q := sa_un (tm_L_law L xs) rfl
set_option maxRecDepth 100000 in
theorem u_L_law_25 (L : Nat) (xs : Nat → Int32) (lo : List (Option sa_V)) (st : List sa_V) (hs : sa_H) (rc rs : Nat) (Q : sa_Q) : sa_w (tb_L_law L xs) (25, lo, st, hs, rc, rs) Q = so_aload 0 26 (25, lo, st, hs, rc, rs) (fun g => sa_w (tb_L_law L xs) g Q) Q := sa_un (tm_L_law L xs) rfl
set_option maxRecDepth 100000 in
theorem u_L_law_26 (L : Nat) (xs : Nat → Int32) (lo : List (Option sa_V)) (st : List sa_V) (hs : sa_H) (rc rs : Nat) (Q : sa_Q) : sa_w (tb_L_law L xs) (26, lo, st, hs, rc, rs) Q = so_sln L 27 (26, lo, st, hs, rc, rs) (fun g => sa_w (tb_L_law L xs) g Q) Q := sa_un (tm_L_law L xs) rfl
set_option maxRecDepth 100000 in
theorem u_L_law_27 (L : Nat) (xs : Nat → Int32) (lo : List (Option sa_V)) (st : List sa_V) (hs : sa_H) (rc rs : Nat) (Q : sa_Q) : sa_w (tb_L_law L xs) (27, lo, st, hs, rc, rs) Q = so_push (.inl (4)) 28 (27, lo, st, hs, rc, rs) (fun g => sa_w (tb_L_law L xs) g Q) Q := sa_un (tm_L_law L xs) rfl
set_option maxRecDepth 100000 in
theorem u_L_law_28 (L : Nat) (xs : Nat → Int32) (lo : List (Option sa_V)) (st : List sa_V) (hs : sa_H) (rc rs : Nat) (Q : sa_Q) : sa_w (tb_L_law L xs) (28, lo, st, hs, rc, rs) Q = so_bin (fun x y => x - y) 29 (28, lo, st, hs, rc, rs) (fun g => sa_w (tb_L_law L xs) g Q) Q := sa_un (tm_L_law L xs) rfl
set_option maxRecDepth 100000 in
theorem u_L_law_29 (L : Nat) (xs : Nat → Int32) (lo : List (Option sa_V)) (st : List sa_V) (hs : sa_H) (rc rs : Nat) (Q : sa_Q) : sa_w (tb_L_law L xs) (29, lo, st, hs, rc, rs) Q = so_cmp (fun x y => y < x) 541 32 (29, lo, st, hs, rc, rs) (fun g => sa_w (tb_L_law L xs) g Q) Q := sa_un (tm_L_law L xs) rfl
set_option maxRecDepth 100000 in
theorem u_L_law_32 (L : Nat) (xs : Nat → Int32) (lo : List (Option sa_V)) (st : List sa_V) (hs : sa_H) (rc rs : Nat) (Q : sa_Q) : sa_w (tb_L_law L xs) (32, lo, st, hs, rc, rs) Q = so_aload 0 33 (32, lo, st, hs, rc, rs) (fun g => sa_w (tb_L_law L xs) g Q) Q := sa_un (tm_L_law L xs) rfl
set_option maxRecDepth 100000 in
theorem u_L_law_33 (L : Nat) (xs : Nat → Int32) (lo : List (Option sa_V)) (st : List sa_V) (hs : sa_H) (rc rs : Nat) (Q : sa_Q) : sa_w (tb_L_law L xs) (33, lo, st, hs, rc, rs) Q = so_iload 4 35 (33, lo, st, hs, rc, rs) (fun g => sa_w (tb_L_law L xs) g Q) Q := sa_un (tm_L_law L xs) rfl
set_option maxRecDepth 100000 in
theorem u_L_law_35 (L : Nat) (xs : Nat → Int32) (lo : List (Option sa_V)) (st : List sa_V) (hs : sa_H) (rc rs : Nat) (Q : sa_Q) : sa_w (tb_L_law L xs) (35, lo, st, hs, rc, rs) Q = so_sld L xs 36 (35, lo, st, hs, rc, rs) (fun g => sa_w (tb_L_law L xs) g Q) Q := sa_un (tm_L_law L xs) rfl
set_option maxRecDepth 100000 in
theorem u_L_law_36 (L : Nat) (xs : Nat → Int32) (lo : List (Option sa_V)) (st : List sa_V) (hs : sa_H) (rc rs : Nat) (Q : sa_Q) : sa_w (tb_L_law L xs) (36, lo, st, hs, rc, rs) Q = so_push (.inl (15)) 38 (36, lo, st, hs, rc, rs) (fun g => sa_w (tb_L_law L xs) g Q) Q := sa_un (tm_L_law L xs) rfl
set_option maxRecDepth 100000 in
theorem u_L_law_38 (L : Nat) (xs : Nat → Int32) (lo : List (Option sa_V)) (st : List sa_V) (hs : sa_H) (rc rs : Nat) (Q : sa_Q) : sa_w (tb_L_law L xs) (38, lo, st, hs, rc, rs) Q = so_bin (fun x y => x &&& y) 39 (38, lo, st, hs, rc, rs) (fun g => sa_w (tb_L_law L xs) g Q) Q := sa_un (tm_L_law L xs) rfl
set_option maxRecDepth 100000 in
theorem u_L_law_39 (L : Nat) (xs : Nat → Int32) (lo : List (Option sa_V)) (st : List sa_V) (hs : sa_H) (rc rs : Nat) (Q : sa_Q) : sa_w (tb_L_law L xs) (39, lo, st, hs, rc, rs) Q = so_sw [(0, 116), (1, 129), (2, 154), (3, 179), (4, 204), (5, 217), (6, 242), (7, 267), (8, 292), (9, 329), (10, 354), (11, 379), (12, 392), (13, 405), (14, 454), (15, 522)] 535 (39, lo, st, hs, rc, rs) (fun g => sa_w (tb_L_law L xs) g Q) Q := sa_un (tm_L_law L xs) rfl
set_option maxRecDepth 100000 in
theorem u_L_law_116 (L : Nat) (xs : Nat → Int32) (lo : List (Option sa_V)) (st : List sa_V) (hs : sa_H) (rc rs : Nat) (Q : sa_Q) : sa_w (tb_L_law L xs) (116, lo, st, hs, rc, rs) Q = so_aload 1 117 (116, lo, st, hs, rc, rs) (fun g => sa_w (tb_L_law L xs) g Q) Q := sa_un (tm_L_law L xs) rfl
set_option maxRecDepth 100000 in
theorem u_L_law_117 (L : Nat) (xs : Nat → Int32) (lo : List (Option sa_V)) (st : List sa_V) (hs : sa_H) (rc rs : Nat) (Q : sa_Q) : sa_w (tb_L_law L xs) (117, lo, st, hs, rc, rs) Q = so_virt [(8, ct_X10_file)] 0 0 0 120 (117, lo, st, hs, rc, rs) (fun g => sa_w (tb_L_law L xs) g Q) Q := sa_un (tm_L_law L xs) rfl
set_option maxRecDepth 100000 in
theorem u_L_law_120 (L : Nat) (xs : Nat → Int32) (lo : List (Option sa_V)) (st : List sa_V) (hs : sa_H) (rc rs : Nat) (Q : sa_Q) : sa_w (tb_L_law L xs) (120, lo, st, hs, rc, rs) Q = so_aload 2 121 (120, lo, st, hs, rc, rs) (fun g => sa_w (tb_L_law L xs) g Q) Q := sa_un (tm_L_law L xs) rfl
set_option maxRecDepth 100000 in
theorem u_L_law_121 (L : Nat) (xs : Nat → Int32) (lo : List (Option sa_V)) (st : List sa_V) (hs : sa_H) (rc rs : Nat) (Q : sa_Q) : sa_w (tb_L_law L xs) (121, lo, st, hs, rc, rs) Q = so_virt [(9, ct_X11_file)] 0 0 0 124 (121, lo, st, hs, rc, rs) (fun g => sa_w (tb_L_law L xs) g Q) Q := sa_un (tm_L_law L xs) rfl
set_option maxRecDepth 100000 in
theorem u_L_law_124 (L : Nat) (xs : Nat → Int32) (lo : List (Option sa_V)) (st : List sa_V) (hs : sa_H) (rc rs : Nat) (Q : sa_Q) : sa_w (tb_L_law L xs) (124, lo, st, hs, rc, rs) Q = so_cmp (fun x y => x = y) 535 127 (124, lo, st, hs, rc, rs) (fun g => sa_w (tb_L_law L xs) g Q) Q := sa_un (tm_L_law L xs) rfl
set_option maxRecDepth 100000 in
theorem u_L_law_127 (L : Nat) (xs : Nat → Int32) (lo : List (Option sa_V)) (st : List sa_V) (hs : sa_H) (rc rs : Nat) (Q : sa_Q) : sa_w (tb_L_law L xs) (127, lo, st, hs, rc, rs) Q = so_push (.inl (0)) 128 (127, lo, st, hs, rc, rs) (fun g => sa_w (tb_L_law L xs) g Q) Q := sa_un (tm_L_law L xs) rfl
set_option maxRecDepth 100000 in
theorem u_L_law_128 (L : Nat) (xs : Nat → Int32) (lo : List (Option sa_V)) (st : List sa_V) (hs : sa_H) (rc rs : Nat) (Q : sa_Q) : sa_w (tb_L_law L xs) (128, lo, st, hs, rc, rs) Q = so_one (128, lo, st, hs, rc, rs) (fun g => sa_w (tb_L_law L xs) g Q) Q := sa_un (tm_L_law L xs) rfl
set_option maxRecDepth 100000 in
theorem u_L_law_129 (L : Nat) (xs : Nat → Int32) (lo : List (Option sa_V)) (st : List sa_V) (hs : sa_H) (rc rs : Nat) (Q : sa_Q) : sa_w (tb_L_law L xs) (129, lo, st, hs, rc, rs) Q = so_aload 1 130 (129, lo, st, hs, rc, rs) (fun g => sa_w (tb_L_law L xs) g Q) Q := sa_un (tm_L_law L xs) rfl
set_option maxRecDepth 100000 in
theorem u_L_law_130 (L : Nat) (xs : Nat → Int32) (lo : List (Option sa_V)) (st : List sa_V) (hs : sa_H) (rc rs : Nat) (Q : sa_Q) : sa_w (tb_L_law L xs) (130, lo, st, hs, rc, rs) Q = so_aload 0 131 (130, lo, st, hs, rc, rs) (fun g => sa_w (tb_L_law L xs) g Q) Q := sa_un (tm_L_law L xs) rfl
set_option maxRecDepth 100000 in
theorem u_L_law_131 (L : Nat) (xs : Nat → Int32) (lo : List (Option sa_V)) (st : List sa_V) (hs : sa_H) (rc rs : Nat) (Q : sa_Q) : sa_w (tb_L_law L xs) (131, lo, st, hs, rc, rs) Q = so_iload 4 133 (131, lo, st, hs, rc, rs) (fun g => sa_w (tb_L_law L xs) g Q) Q := sa_un (tm_L_law L xs) rfl
set_option maxRecDepth 100000 in
theorem u_L_law_133 (L : Nat) (xs : Nat → Int32) (lo : List (Option sa_V)) (st : List sa_V) (hs : sa_H) (rc rs : Nat) (Q : sa_Q) : sa_w (tb_L_law L xs) (133, lo, st, hs, rc, rs) Q = so_push (.inl (1)) 134 (133, lo, st, hs, rc, rs) (fun g => sa_w (tb_L_law L xs) g Q) Q := sa_un (tm_L_law L xs) rfl
set_option maxRecDepth 100000 in
theorem u_L_law_134 (L : Nat) (xs : Nat → Int32) (lo : List (Option sa_V)) (st : List sa_V) (hs : sa_H) (rc rs : Nat) (Q : sa_Q) : sa_w (tb_L_law L xs) (134, lo, st, hs, rc, rs) Q = so_bin (fun x y => x + y) 135 (134, lo, st, hs, rc, rs) (fun g => sa_w (tb_L_law L xs) g Q) Q := sa_un (tm_L_law L xs) rfl
set_option maxRecDepth 100000 in
theorem u_L_law_135 (L : Nat) (xs : Nat → Int32) (lo : List (Option sa_V)) (st : List sa_V) (hs : sa_H) (rc rs : Nat) (Q : sa_Q) : sa_w (tb_L_law L xs) (135, lo, st, hs, rc, rs) Q = so_sld L xs 136 (135, lo, st, hs, rc, rs) (fun g => sa_w (tb_L_law L xs) g Q) Q := sa_un (tm_L_law L xs) rfl
set_option maxRecDepth 100000 in
theorem u_L_law_136 (L : Nat) (xs : Nat → Int32) (lo : List (Option sa_V)) (st : List sa_V) (hs : sa_H) (rc rs : Nat) (Q : sa_Q) : sa_w (tb_L_law L xs) (136, lo, st, hs, rc, rs) Q = so_virt [(8, ct_X10_name)] 1 0 0 139 (136, lo, st, hs, rc, rs) (fun g => sa_w (tb_L_law L xs) g Q) Q := sa_un (tm_L_law L xs) rfl
set_option maxRecDepth 100000 in
theorem u_L_law_139 (L : Nat) (xs : Nat → Int32) (lo : List (Option sa_V)) (st : List sa_V) (hs : sa_H) (rc rs : Nat) (Q : sa_Q) : sa_w (tb_L_law L xs) (139, lo, st, hs, rc, rs) Q = so_aload 2 140 (139, lo, st, hs, rc, rs) (fun g => sa_w (tb_L_law L xs) g Q) Q := sa_un (tm_L_law L xs) rfl
set_option maxRecDepth 100000 in
theorem u_L_law_140 (L : Nat) (xs : Nat → Int32) (lo : List (Option sa_V)) (st : List sa_V) (hs : sa_H) (rc rs : Nat) (Q : sa_Q) : sa_w (tb_L_law L xs) (140, lo, st, hs, rc, rs) Q = so_aload 0 141 (140, lo, st, hs, rc, rs) (fun g => sa_w (tb_L_law L xs) g Q) Q := sa_un (tm_L_law L xs) rfl
set_option maxRecDepth 100000 in
theorem u_L_law_141 (L : Nat) (xs : Nat → Int32) (lo : List (Option sa_V)) (st : List sa_V) (hs : sa_H) (rc rs : Nat) (Q : sa_Q) : sa_w (tb_L_law L xs) (141, lo, st, hs, rc, rs) Q = so_iload 4 143 (141, lo, st, hs, rc, rs) (fun g => sa_w (tb_L_law L xs) g Q) Q := sa_un (tm_L_law L xs) rfl
set_option maxRecDepth 100000 in
theorem u_L_law_143 (L : Nat) (xs : Nat → Int32) (lo : List (Option sa_V)) (st : List sa_V) (hs : sa_H) (rc rs : Nat) (Q : sa_Q) : sa_w (tb_L_law L xs) (143, lo, st, hs, rc, rs) Q = so_push (.inl (1)) 144 (143, lo, st, hs, rc, rs) (fun g => sa_w (tb_L_law L xs) g Q) Q := sa_un (tm_L_law L xs) rfl
set_option maxRecDepth 100000 in
theorem u_L_law_144 (L : Nat) (xs : Nat → Int32) (lo : List (Option sa_V)) (st : List sa_V) (hs : sa_H) (rc rs : Nat) (Q : sa_Q) : sa_w (tb_L_law L xs) (144, lo, st, hs, rc, rs) Q = so_bin (fun x y => x + y) 145 (144, lo, st, hs, rc, rs) (fun g => sa_w (tb_L_law L xs) g Q) Q := sa_un (tm_L_law L xs) rfl
set_option maxRecDepth 100000 in
theorem u_L_law_145 (L : Nat) (xs : Nat → Int32) (lo : List (Option sa_V)) (st : List sa_V) (hs : sa_H) (rc rs : Nat) (Q : sa_Q) : sa_w (tb_L_law L xs) (145, lo, st, hs, rc, rs) Q = so_sld L xs 146 (145, lo, st, hs, rc, rs) (fun g => sa_w (tb_L_law L xs) g Q) Q := sa_un (tm_L_law L xs) rfl
set_option maxRecDepth 100000 in
theorem u_L_law_146 (L : Nat) (xs : Nat → Int32) (lo : List (Option sa_V)) (st : List sa_V) (hs : sa_H) (rc rs : Nat) (Q : sa_Q) : sa_w (tb_L_law L xs) (146, lo, st, hs, rc, rs) Q = so_virt [(9, ct_X11_name)] 1 0 0 149 (146, lo, st, hs, rc, rs) (fun g => sa_w (tb_L_law L xs) g Q) Q := sa_un (tm_L_law L xs) rfl
set_option maxRecDepth 100000 in
theorem u_L_law_149 (L : Nat) (xs : Nat → Int32) (lo : List (Option sa_V)) (st : List sa_V) (hs : sa_H) (rc rs : Nat) (Q : sa_Q) : sa_w (tb_L_law L xs) (149, lo, st, hs, rc, rs) Q = so_cmp (fun x y => x = y) 535 152 (149, lo, st, hs, rc, rs) (fun g => sa_w (tb_L_law L xs) g Q) Q := sa_un (tm_L_law L xs) rfl
set_option maxRecDepth 100000 in
theorem u_L_law_152 (L : Nat) (xs : Nat → Int32) (lo : List (Option sa_V)) (st : List sa_V) (hs : sa_H) (rc rs : Nat) (Q : sa_Q) : sa_w (tb_L_law L xs) (152, lo, st, hs, rc, rs) Q = so_push (.inl (0)) 153 (152, lo, st, hs, rc, rs) (fun g => sa_w (tb_L_law L xs) g Q) Q := sa_un (tm_L_law L xs) rfl
set_option maxRecDepth 100000 in
theorem u_L_law_153 (L : Nat) (xs : Nat → Int32) (lo : List (Option sa_V)) (st : List sa_V) (hs : sa_H) (rc rs : Nat) (Q : sa_Q) : sa_w (tb_L_law L xs) (153, lo, st, hs, rc, rs) Q = so_one (153, lo, st, hs, rc, rs) (fun g => sa_w (tb_L_law L xs) g Q) Q := sa_un (tm_L_law L xs) rfl
set_option maxRecDepth 100000 in
theorem u_L_law_154 (L : Nat) (xs : Nat → Int32) (lo : List (Option sa_V)) (st : List sa_V) (hs : sa_H) (rc rs : Nat) (Q : sa_Q) : sa_w (tb_L_law L xs) (154, lo, st, hs, rc, rs) Q = so_aload 1 155 (154, lo, st, hs, rc, rs) (fun g => sa_w (tb_L_law L xs) g Q) Q := sa_un (tm_L_law L xs) rfl
set_option maxRecDepth 100000 in
theorem u_L_law_155 (L : Nat) (xs : Nat → Int32) (lo : List (Option sa_V)) (st : List sa_V) (hs : sa_H) (rc rs : Nat) (Q : sa_Q) : sa_w (tb_L_law L xs) (155, lo, st, hs, rc, rs) Q = so_aload 0 156 (155, lo, st, hs, rc, rs) (fun g => sa_w (tb_L_law L xs) g Q) Q := sa_un (tm_L_law L xs) rfl
set_option maxRecDepth 100000 in
theorem u_L_law_156 (L : Nat) (xs : Nat → Int32) (lo : List (Option sa_V)) (st : List sa_V) (hs : sa_H) (rc rs : Nat) (Q : sa_Q) : sa_w (tb_L_law L xs) (156, lo, st, hs, rc, rs) Q = so_iload 4 158 (156, lo, st, hs, rc, rs) (fun g => sa_w (tb_L_law L xs) g Q) Q := sa_un (tm_L_law L xs) rfl
set_option maxRecDepth 100000 in
theorem u_L_law_158 (L : Nat) (xs : Nat → Int32) (lo : List (Option sa_V)) (st : List sa_V) (hs : sa_H) (rc rs : Nat) (Q : sa_Q) : sa_w (tb_L_law L xs) (158, lo, st, hs, rc, rs) Q = so_push (.inl (1)) 159 (158, lo, st, hs, rc, rs) (fun g => sa_w (tb_L_law L xs) g Q) Q := sa_un (tm_L_law L xs) rfl
set_option maxRecDepth 100000 in
theorem u_L_law_159 (L : Nat) (xs : Nat → Int32) (lo : List (Option sa_V)) (st : List sa_V) (hs : sa_H) (rc rs : Nat) (Q : sa_Q) : sa_w (tb_L_law L xs) (159, lo, st, hs, rc, rs) Q = so_bin (fun x y => x + y) 160 (159, lo, st, hs, rc, rs) (fun g => sa_w (tb_L_law L xs) g Q) Q := sa_un (tm_L_law L xs) rfl
set_option maxRecDepth 100000 in
theorem u_L_law_160 (L : Nat) (xs : Nat → Int32) (lo : List (Option sa_V)) (st : List sa_V) (hs : sa_H) (rc rs : Nat) (Q : sa_Q) : sa_w (tb_L_law L xs) (160, lo, st, hs, rc, rs) Q = so_sld L xs 161 (160, lo, st, hs, rc, rs) (fun g => sa_w (tb_L_law L xs) g Q) Q := sa_un (tm_L_law L xs) rfl
set_option maxRecDepth 100000 in
theorem u_L_law_161 (L : Nat) (xs : Nat → Int32) (lo : List (Option sa_V)) (st : List sa_V) (hs : sa_H) (rc rs : Nat) (Q : sa_Q) : sa_w (tb_L_law L xs) (161, lo, st, hs, rc, rs) Q = so_virt [(8, ct_X10_data)] 1 0 0 164 (161, lo, st, hs, rc, rs) (fun g => sa_w (tb_L_law L xs) g Q) Q := sa_un (tm_L_law L xs) rfl
set_option maxRecDepth 100000 in
theorem u_L_law_164 (L : Nat) (xs : Nat → Int32) (lo : List (Option sa_V)) (st : List sa_V) (hs : sa_H) (rc rs : Nat) (Q : sa_Q) : sa_w (tb_L_law L xs) (164, lo, st, hs, rc, rs) Q = so_aload 2 165 (164, lo, st, hs, rc, rs) (fun g => sa_w (tb_L_law L xs) g Q) Q := sa_un (tm_L_law L xs) rfl
set_option maxRecDepth 100000 in
theorem u_L_law_165 (L : Nat) (xs : Nat → Int32) (lo : List (Option sa_V)) (st : List sa_V) (hs : sa_H) (rc rs : Nat) (Q : sa_Q) : sa_w (tb_L_law L xs) (165, lo, st, hs, rc, rs) Q = so_aload 0 166 (165, lo, st, hs, rc, rs) (fun g => sa_w (tb_L_law L xs) g Q) Q := sa_un (tm_L_law L xs) rfl
set_option maxRecDepth 100000 in
theorem u_L_law_166 (L : Nat) (xs : Nat → Int32) (lo : List (Option sa_V)) (st : List sa_V) (hs : sa_H) (rc rs : Nat) (Q : sa_Q) : sa_w (tb_L_law L xs) (166, lo, st, hs, rc, rs) Q = so_iload 4 168 (166, lo, st, hs, rc, rs) (fun g => sa_w (tb_L_law L xs) g Q) Q := sa_un (tm_L_law L xs) rfl
set_option maxRecDepth 100000 in
theorem u_L_law_168 (L : Nat) (xs : Nat → Int32) (lo : List (Option sa_V)) (st : List sa_V) (hs : sa_H) (rc rs : Nat) (Q : sa_Q) : sa_w (tb_L_law L xs) (168, lo, st, hs, rc, rs) Q = so_push (.inl (1)) 169 (168, lo, st, hs, rc, rs) (fun g => sa_w (tb_L_law L xs) g Q) Q := sa_un (tm_L_law L xs) rfl
set_option maxRecDepth 100000 in
theorem u_L_law_169 (L : Nat) (xs : Nat → Int32) (lo : List (Option sa_V)) (st : List sa_V) (hs : sa_H) (rc rs : Nat) (Q : sa_Q) : sa_w (tb_L_law L xs) (169, lo, st, hs, rc, rs) Q = so_bin (fun x y => x + y) 170 (169, lo, st, hs, rc, rs) (fun g => sa_w (tb_L_law L xs) g Q) Q := sa_un (tm_L_law L xs) rfl
set_option maxRecDepth 100000 in
theorem u_L_law_170 (L : Nat) (xs : Nat → Int32) (lo : List (Option sa_V)) (st : List sa_V) (hs : sa_H) (rc rs : Nat) (Q : sa_Q) : sa_w (tb_L_law L xs) (170, lo, st, hs, rc, rs) Q = so_sld L xs 171 (170, lo, st, hs, rc, rs) (fun g => sa_w (tb_L_law L xs) g Q) Q := sa_un (tm_L_law L xs) rfl
set_option maxRecDepth 100000 in
theorem u_L_law_171 (L : Nat) (xs : Nat → Int32) (lo : List (Option sa_V)) (st : List sa_V) (hs : sa_H) (rc rs : Nat) (Q : sa_Q) : sa_w (tb_L_law L xs) (171, lo, st, hs, rc, rs) Q = so_virt [(9, ct_X11_data)] 1 0 0 174 (171, lo, st, hs, rc, rs) (fun g => sa_w (tb_L_law L xs) g Q) Q := sa_un (tm_L_law L xs) rfl
set_option maxRecDepth 100000 in
theorem u_L_law_174 (L : Nat) (xs : Nat → Int32) (lo : List (Option sa_V)) (st : List sa_V) (hs : sa_H) (rc rs : Nat) (Q : sa_Q) : sa_w (tb_L_law L xs) (174, lo, st, hs, rc, rs) Q = so_cmp (fun x y => x = y) 535 177 (174, lo, st, hs, rc, rs) (fun g => sa_w (tb_L_law L xs) g Q) Q := sa_un (tm_L_law L xs) rfl
set_option maxRecDepth 100000 in
theorem u_L_law_177 (L : Nat) (xs : Nat → Int32) (lo : List (Option sa_V)) (st : List sa_V) (hs : sa_H) (rc rs : Nat) (Q : sa_Q) : sa_w (tb_L_law L xs) (177, lo, st, hs, rc, rs) Q = so_push (.inl (0)) 178 (177, lo, st, hs, rc, rs) (fun g => sa_w (tb_L_law L xs) g Q) Q := sa_un (tm_L_law L xs) rfl
set_option maxRecDepth 100000 in
theorem u_L_law_178 (L : Nat) (xs : Nat → Int32) (lo : List (Option sa_V)) (st : List sa_V) (hs : sa_H) (rc rs : Nat) (Q : sa_Q) : sa_w (tb_L_law L xs) (178, lo, st, hs, rc, rs) Q = so_one (178, lo, st, hs, rc, rs) (fun g => sa_w (tb_L_law L xs) g Q) Q := sa_un (tm_L_law L xs) rfl
set_option maxRecDepth 100000 in
theorem u_L_law_179 (L : Nat) (xs : Nat → Int32) (lo : List (Option sa_V)) (st : List sa_V) (hs : sa_H) (rc rs : Nat) (Q : sa_Q) : sa_w (tb_L_law L xs) (179, lo, st, hs, rc, rs) Q = so_aload 1 180 (179, lo, st, hs, rc, rs) (fun g => sa_w (tb_L_law L xs) g Q) Q := sa_un (tm_L_law L xs) rfl
set_option maxRecDepth 100000 in
theorem u_L_law_180 (L : Nat) (xs : Nat → Int32) (lo : List (Option sa_V)) (st : List sa_V) (hs : sa_H) (rc rs : Nat) (Q : sa_Q) : sa_w (tb_L_law L xs) (180, lo, st, hs, rc, rs) Q = so_aload 0 181 (180, lo, st, hs, rc, rs) (fun g => sa_w (tb_L_law L xs) g Q) Q := sa_un (tm_L_law L xs) rfl
set_option maxRecDepth 100000 in
theorem u_L_law_181 (L : Nat) (xs : Nat → Int32) (lo : List (Option sa_V)) (st : List sa_V) (hs : sa_H) (rc rs : Nat) (Q : sa_Q) : sa_w (tb_L_law L xs) (181, lo, st, hs, rc, rs) Q = so_iload 4 183 (181, lo, st, hs, rc, rs) (fun g => sa_w (tb_L_law L xs) g Q) Q := sa_un (tm_L_law L xs) rfl
set_option maxRecDepth 100000 in
theorem u_L_law_183 (L : Nat) (xs : Nat → Int32) (lo : List (Option sa_V)) (st : List sa_V) (hs : sa_H) (rc rs : Nat) (Q : sa_Q) : sa_w (tb_L_law L xs) (183, lo, st, hs, rc, rs) Q = so_push (.inl (1)) 184 (183, lo, st, hs, rc, rs) (fun g => sa_w (tb_L_law L xs) g Q) Q := sa_un (tm_L_law L xs) rfl
set_option maxRecDepth 100000 in
theorem u_L_law_184 (L : Nat) (xs : Nat → Int32) (lo : List (Option sa_V)) (st : List sa_V) (hs : sa_H) (rc rs : Nat) (Q : sa_Q) : sa_w (tb_L_law L xs) (184, lo, st, hs, rc, rs) Q = so_bin (fun x y => x + y) 185 (184, lo, st, hs, rc, rs) (fun g => sa_w (tb_L_law L xs) g Q) Q := sa_un (tm_L_law L xs) rfl
set_option maxRecDepth 100000 in
theorem u_L_law_185 (L : Nat) (xs : Nat → Int32) (lo : List (Option sa_V)) (st : List sa_V) (hs : sa_H) (rc rs : Nat) (Q : sa_Q) : sa_w (tb_L_law L xs) (185, lo, st, hs, rc, rs) Q = so_sld L xs 186 (185, lo, st, hs, rc, rs) (fun g => sa_w (tb_L_law L xs) g Q) Q := sa_un (tm_L_law L xs) rfl
set_option maxRecDepth 100000 in
theorem u_L_law_186 (L : Nat) (xs : Nat → Int32) (lo : List (Option sa_V)) (st : List sa_V) (hs : sa_H) (rc rs : Nat) (Q : sa_Q) : sa_w (tb_L_law L xs) (186, lo, st, hs, rc, rs) Q = so_virt [(8, ct_X10_link)] 1 0 0 189 (186, lo, st, hs, rc, rs) (fun g => sa_w (tb_L_law L xs) g Q) Q := sa_un (tm_L_law L xs) rfl
set_option maxRecDepth 100000 in
theorem u_L_law_189 (L : Nat) (xs : Nat → Int32) (lo : List (Option sa_V)) (st : List sa_V) (hs : sa_H) (rc rs : Nat) (Q : sa_Q) : sa_w (tb_L_law L xs) (189, lo, st, hs, rc, rs) Q = so_aload 2 190 (189, lo, st, hs, rc, rs) (fun g => sa_w (tb_L_law L xs) g Q) Q := sa_un (tm_L_law L xs) rfl
set_option maxRecDepth 100000 in
theorem u_L_law_190 (L : Nat) (xs : Nat → Int32) (lo : List (Option sa_V)) (st : List sa_V) (hs : sa_H) (rc rs : Nat) (Q : sa_Q) : sa_w (tb_L_law L xs) (190, lo, st, hs, rc, rs) Q = so_aload 0 191 (190, lo, st, hs, rc, rs) (fun g => sa_w (tb_L_law L xs) g Q) Q := sa_un (tm_L_law L xs) rfl
set_option maxRecDepth 100000 in
theorem u_L_law_191 (L : Nat) (xs : Nat → Int32) (lo : List (Option sa_V)) (st : List sa_V) (hs : sa_H) (rc rs : Nat) (Q : sa_Q) : sa_w (tb_L_law L xs) (191, lo, st, hs, rc, rs) Q = so_iload 4 193 (191, lo, st, hs, rc, rs) (fun g => sa_w (tb_L_law L xs) g Q) Q := sa_un (tm_L_law L xs) rfl
set_option maxRecDepth 100000 in
theorem u_L_law_193 (L : Nat) (xs : Nat → Int32) (lo : List (Option sa_V)) (st : List sa_V) (hs : sa_H) (rc rs : Nat) (Q : sa_Q) : sa_w (tb_L_law L xs) (193, lo, st, hs, rc, rs) Q = so_push (.inl (1)) 194 (193, lo, st, hs, rc, rs) (fun g => sa_w (tb_L_law L xs) g Q) Q := sa_un (tm_L_law L xs) rfl
set_option maxRecDepth 100000 in
theorem u_L_law_194 (L : Nat) (xs : Nat → Int32) (lo : List (Option sa_V)) (st : List sa_V) (hs : sa_H) (rc rs : Nat) (Q : sa_Q) : sa_w (tb_L_law L xs) (194, lo, st, hs, rc, rs) Q = so_bin (fun x y => x + y) 195 (194, lo, st, hs, rc, rs) (fun g => sa_w (tb_L_law L xs) g Q) Q := sa_un (tm_L_law L xs) rfl
set_option maxRecDepth 100000 in
theorem u_L_law_195 (L : Nat) (xs : Nat → Int32) (lo : List (Option sa_V)) (st : List sa_V) (hs : sa_H) (rc rs : Nat) (Q : sa_Q) : sa_w (tb_L_law L xs) (195, lo, st, hs, rc, rs) Q = so_sld L xs 196 (195, lo, st, hs, rc, rs) (fun g => sa_w (tb_L_law L xs) g Q) Q := sa_un (tm_L_law L xs) rfl
set_option maxRecDepth 100000 in
theorem u_L_law_196 (L : Nat) (xs : Nat → Int32) (lo : List (Option sa_V)) (st : List sa_V) (hs : sa_H) (rc rs : Nat) (Q : sa_Q) : sa_w (tb_L_law L xs) (196, lo, st, hs, rc, rs) Q = so_virt [(9, ct_X11_link)] 1 0 0 199 (196, lo, st, hs, rc, rs) (fun g => sa_w (tb_L_law L xs) g Q) Q := sa_un (tm_L_law L xs) rfl
set_option maxRecDepth 100000 in
theorem u_L_law_199 (L : Nat) (xs : Nat → Int32) (lo : List (Option sa_V)) (st : List sa_V) (hs : sa_H) (rc rs : Nat) (Q : sa_Q) : sa_w (tb_L_law L xs) (199, lo, st, hs, rc, rs) Q = so_cmp (fun x y => x = y) 535 202 (199, lo, st, hs, rc, rs) (fun g => sa_w (tb_L_law L xs) g Q) Q := sa_un (tm_L_law L xs) rfl
set_option maxRecDepth 100000 in
theorem u_L_law_202 (L : Nat) (xs : Nat → Int32) (lo : List (Option sa_V)) (st : List sa_V) (hs : sa_H) (rc rs : Nat) (Q : sa_Q) : sa_w (tb_L_law L xs) (202, lo, st, hs, rc, rs) Q = so_push (.inl (0)) 203 (202, lo, st, hs, rc, rs) (fun g => sa_w (tb_L_law L xs) g Q) Q := sa_un (tm_L_law L xs) rfl
set_option maxRecDepth 100000 in
theorem u_L_law_203 (L : Nat) (xs : Nat → Int32) (lo : List (Option sa_V)) (st : List sa_V) (hs : sa_H) (rc rs : Nat) (Q : sa_Q) : sa_w (tb_L_law L xs) (203, lo, st, hs, rc, rs) Q = so_one (203, lo, st, hs, rc, rs) (fun g => sa_w (tb_L_law L xs) g Q) Q := sa_un (tm_L_law L xs) rfl
set_option maxRecDepth 100000 in
theorem u_L_law_204 (L : Nat) (xs : Nat → Int32) (lo : List (Option sa_V)) (st : List sa_V) (hs : sa_H) (rc rs : Nat) (Q : sa_Q) : sa_w (tb_L_law L xs) (204, lo, st, hs, rc, rs) Q = so_aload 1 205 (204, lo, st, hs, rc, rs) (fun g => sa_w (tb_L_law L xs) g Q) Q := sa_un (tm_L_law L xs) rfl
set_option maxRecDepth 100000 in
theorem u_L_law_205 (L : Nat) (xs : Nat → Int32) (lo : List (Option sa_V)) (st : List sa_V) (hs : sa_H) (rc rs : Nat) (Q : sa_Q) : sa_w (tb_L_law L xs) (205, lo, st, hs, rc, rs) Q = so_virt [(8, ct_X10_clear)] 0 0 0 208 (205, lo, st, hs, rc, rs) (fun g => sa_w (tb_L_law L xs) g Q) Q := sa_un (tm_L_law L xs) rfl
set_option maxRecDepth 100000 in
theorem u_L_law_208 (L : Nat) (xs : Nat → Int32) (lo : List (Option sa_V)) (st : List sa_V) (hs : sa_H) (rc rs : Nat) (Q : sa_Q) : sa_w (tb_L_law L xs) (208, lo, st, hs, rc, rs) Q = so_aload 2 209 (208, lo, st, hs, rc, rs) (fun g => sa_w (tb_L_law L xs) g Q) Q := sa_un (tm_L_law L xs) rfl
set_option maxRecDepth 100000 in
theorem u_L_law_209 (L : Nat) (xs : Nat → Int32) (lo : List (Option sa_V)) (st : List sa_V) (hs : sa_H) (rc rs : Nat) (Q : sa_Q) : sa_w (tb_L_law L xs) (209, lo, st, hs, rc, rs) Q = so_virt [(9, ct_X11_clear)] 0 0 0 212 (209, lo, st, hs, rc, rs) (fun g => sa_w (tb_L_law L xs) g Q) Q := sa_un (tm_L_law L xs) rfl
set_option maxRecDepth 100000 in
theorem u_L_law_212 (L : Nat) (xs : Nat → Int32) (lo : List (Option sa_V)) (st : List sa_V) (hs : sa_H) (rc rs : Nat) (Q : sa_Q) : sa_w (tb_L_law L xs) (212, lo, st, hs, rc, rs) Q = so_cmp (fun x y => x = y) 535 215 (212, lo, st, hs, rc, rs) (fun g => sa_w (tb_L_law L xs) g Q) Q := sa_un (tm_L_law L xs) rfl
set_option maxRecDepth 100000 in
theorem u_L_law_215 (L : Nat) (xs : Nat → Int32) (lo : List (Option sa_V)) (st : List sa_V) (hs : sa_H) (rc rs : Nat) (Q : sa_Q) : sa_w (tb_L_law L xs) (215, lo, st, hs, rc, rs) Q = so_push (.inl (0)) 216 (215, lo, st, hs, rc, rs) (fun g => sa_w (tb_L_law L xs) g Q) Q := sa_un (tm_L_law L xs) rfl
set_option maxRecDepth 100000 in
theorem u_L_law_216 (L : Nat) (xs : Nat → Int32) (lo : List (Option sa_V)) (st : List sa_V) (hs : sa_H) (rc rs : Nat) (Q : sa_Q) : sa_w (tb_L_law L xs) (216, lo, st, hs, rc, rs) Q = so_one (216, lo, st, hs, rc, rs) (fun g => sa_w (tb_L_law L xs) g Q) Q := sa_un (tm_L_law L xs) rfl
set_option maxRecDepth 100000 in
theorem u_L_law_217 (L : Nat) (xs : Nat → Int32) (lo : List (Option sa_V)) (st : List sa_V) (hs : sa_H) (rc rs : Nat) (Q : sa_Q) : sa_w (tb_L_law L xs) (217, lo, st, hs, rc, rs) Q = so_aload 1 218 (217, lo, st, hs, rc, rs) (fun g => sa_w (tb_L_law L xs) g Q) Q := sa_un (tm_L_law L xs) rfl
set_option maxRecDepth 100000 in
theorem u_L_law_218 (L : Nat) (xs : Nat → Int32) (lo : List (Option sa_V)) (st : List sa_V) (hs : sa_H) (rc rs : Nat) (Q : sa_Q) : sa_w (tb_L_law L xs) (218, lo, st, hs, rc, rs) Q = so_aload 0 219 (218, lo, st, hs, rc, rs) (fun g => sa_w (tb_L_law L xs) g Q) Q := sa_un (tm_L_law L xs) rfl
set_option maxRecDepth 100000 in
theorem u_L_law_219 (L : Nat) (xs : Nat → Int32) (lo : List (Option sa_V)) (st : List sa_V) (hs : sa_H) (rc rs : Nat) (Q : sa_Q) : sa_w (tb_L_law L xs) (219, lo, st, hs, rc, rs) Q = so_iload 4 221 (219, lo, st, hs, rc, rs) (fun g => sa_w (tb_L_law L xs) g Q) Q := sa_un (tm_L_law L xs) rfl
set_option maxRecDepth 100000 in
theorem u_L_law_221 (L : Nat) (xs : Nat → Int32) (lo : List (Option sa_V)) (st : List sa_V) (hs : sa_H) (rc rs : Nat) (Q : sa_Q) : sa_w (tb_L_law L xs) (221, lo, st, hs, rc, rs) Q = so_push (.inl (1)) 222 (221, lo, st, hs, rc, rs) (fun g => sa_w (tb_L_law L xs) g Q) Q := sa_un (tm_L_law L xs) rfl
set_option maxRecDepth 100000 in
theorem u_L_law_222 (L : Nat) (xs : Nat → Int32) (lo : List (Option sa_V)) (st : List sa_V) (hs : sa_H) (rc rs : Nat) (Q : sa_Q) : sa_w (tb_L_law L xs) (222, lo, st, hs, rc, rs) Q = so_bin (fun x y => x + y) 223 (222, lo, st, hs, rc, rs) (fun g => sa_w (tb_L_law L xs) g Q) Q := sa_un (tm_L_law L xs) rfl
set_option maxRecDepth 100000 in
theorem u_L_law_223 (L : Nat) (xs : Nat → Int32) (lo : List (Option sa_V)) (st : List sa_V) (hs : sa_H) (rc rs : Nat) (Q : sa_Q) : sa_w (tb_L_law L xs) (223, lo, st, hs, rc, rs) Q = so_sld L xs 224 (223, lo, st, hs, rc, rs) (fun g => sa_w (tb_L_law L xs) g Q) Q := sa_un (tm_L_law L xs) rfl
set_option maxRecDepth 100000 in
theorem u_L_law_224 (L : Nat) (xs : Nat → Int32) (lo : List (Option sa_V)) (st : List sa_V) (hs : sa_H) (rc rs : Nat) (Q : sa_Q) : sa_w (tb_L_law L xs) (224, lo, st, hs, rc, rs) Q = so_virt [(8, ct_X10_write)] 1 0 0 227 (224, lo, st, hs, rc, rs) (fun g => sa_w (tb_L_law L xs) g Q) Q := sa_un (tm_L_law L xs) rfl
set_option maxRecDepth 100000 in
theorem u_L_law_227 (L : Nat) (xs : Nat → Int32) (lo : List (Option sa_V)) (st : List sa_V) (hs : sa_H) (rc rs : Nat) (Q : sa_Q) : sa_w (tb_L_law L xs) (227, lo, st, hs, rc, rs) Q = so_aload 2 228 (227, lo, st, hs, rc, rs) (fun g => sa_w (tb_L_law L xs) g Q) Q := sa_un (tm_L_law L xs) rfl
set_option maxRecDepth 100000 in
theorem u_L_law_228 (L : Nat) (xs : Nat → Int32) (lo : List (Option sa_V)) (st : List sa_V) (hs : sa_H) (rc rs : Nat) (Q : sa_Q) : sa_w (tb_L_law L xs) (228, lo, st, hs, rc, rs) Q = so_aload 0 229 (228, lo, st, hs, rc, rs) (fun g => sa_w (tb_L_law L xs) g Q) Q := sa_un (tm_L_law L xs) rfl
set_option maxRecDepth 100000 in
theorem u_L_law_229 (L : Nat) (xs : Nat → Int32) (lo : List (Option sa_V)) (st : List sa_V) (hs : sa_H) (rc rs : Nat) (Q : sa_Q) : sa_w (tb_L_law L xs) (229, lo, st, hs, rc, rs) Q = so_iload 4 231 (229, lo, st, hs, rc, rs) (fun g => sa_w (tb_L_law L xs) g Q) Q := sa_un (tm_L_law L xs) rfl
set_option maxRecDepth 100000 in
theorem u_L_law_231 (L : Nat) (xs : Nat → Int32) (lo : List (Option sa_V)) (st : List sa_V) (hs : sa_H) (rc rs : Nat) (Q : sa_Q) : sa_w (tb_L_law L xs) (231, lo, st, hs, rc, rs) Q = so_push (.inl (1)) 232 (231, lo, st, hs, rc, rs) (fun g => sa_w (tb_L_law L xs) g Q) Q := sa_un (tm_L_law L xs) rfl
set_option maxRecDepth 100000 in
theorem u_L_law_232 (L : Nat) (xs : Nat → Int32) (lo : List (Option sa_V)) (st : List sa_V) (hs : sa_H) (rc rs : Nat) (Q : sa_Q) : sa_w (tb_L_law L xs) (232, lo, st, hs, rc, rs) Q = so_bin (fun x y => x + y) 233 (232, lo, st, hs, rc, rs) (fun g => sa_w (tb_L_law L xs) g Q) Q := sa_un (tm_L_law L xs) rfl
set_option maxRecDepth 100000 in
theorem u_L_law_233 (L : Nat) (xs : Nat → Int32) (lo : List (Option sa_V)) (st : List sa_V) (hs : sa_H) (rc rs : Nat) (Q : sa_Q) : sa_w (tb_L_law L xs) (233, lo, st, hs, rc, rs) Q = so_sld L xs 234 (233, lo, st, hs, rc, rs) (fun g => sa_w (tb_L_law L xs) g Q) Q := sa_un (tm_L_law L xs) rfl
set_option maxRecDepth 100000 in
theorem u_L_law_234 (L : Nat) (xs : Nat → Int32) (lo : List (Option sa_V)) (st : List sa_V) (hs : sa_H) (rc rs : Nat) (Q : sa_Q) : sa_w (tb_L_law L xs) (234, lo, st, hs, rc, rs) Q = so_virt [(9, ct_X11_write)] 1 0 0 237 (234, lo, st, hs, rc, rs) (fun g => sa_w (tb_L_law L xs) g Q) Q := sa_un (tm_L_law L xs) rfl
set_option maxRecDepth 100000 in
theorem u_L_law_237 (L : Nat) (xs : Nat → Int32) (lo : List (Option sa_V)) (st : List sa_V) (hs : sa_H) (rc rs : Nat) (Q : sa_Q) : sa_w (tb_L_law L xs) (237, lo, st, hs, rc, rs) Q = so_cmp (fun x y => x = y) 535 240 (237, lo, st, hs, rc, rs) (fun g => sa_w (tb_L_law L xs) g Q) Q := sa_un (tm_L_law L xs) rfl
set_option maxRecDepth 100000 in
theorem u_L_law_240 (L : Nat) (xs : Nat → Int32) (lo : List (Option sa_V)) (st : List sa_V) (hs : sa_H) (rc rs : Nat) (Q : sa_Q) : sa_w (tb_L_law L xs) (240, lo, st, hs, rc, rs) Q = so_push (.inl (0)) 241 (240, lo, st, hs, rc, rs) (fun g => sa_w (tb_L_law L xs) g Q) Q := sa_un (tm_L_law L xs) rfl
set_option maxRecDepth 100000 in
theorem u_L_law_241 (L : Nat) (xs : Nat → Int32) (lo : List (Option sa_V)) (st : List sa_V) (hs : sa_H) (rc rs : Nat) (Q : sa_Q) : sa_w (tb_L_law L xs) (241, lo, st, hs, rc, rs) Q = so_one (241, lo, st, hs, rc, rs) (fun g => sa_w (tb_L_law L xs) g Q) Q := sa_un (tm_L_law L xs) rfl
set_option maxRecDepth 100000 in
theorem u_L_law_242 (L : Nat) (xs : Nat → Int32) (lo : List (Option sa_V)) (st : List sa_V) (hs : sa_H) (rc rs : Nat) (Q : sa_Q) : sa_w (tb_L_law L xs) (242, lo, st, hs, rc, rs) Q = so_aload 1 243 (242, lo, st, hs, rc, rs) (fun g => sa_w (tb_L_law L xs) g Q) Q := sa_un (tm_L_law L xs) rfl
set_option maxRecDepth 100000 in
theorem u_L_law_243 (L : Nat) (xs : Nat → Int32) (lo : List (Option sa_V)) (st : List sa_V) (hs : sa_H) (rc rs : Nat) (Q : sa_Q) : sa_w (tb_L_law L xs) (243, lo, st, hs, rc, rs) Q = so_aload 0 244 (243, lo, st, hs, rc, rs) (fun g => sa_w (tb_L_law L xs) g Q) Q := sa_un (tm_L_law L xs) rfl
set_option maxRecDepth 100000 in
theorem u_L_law_244 (L : Nat) (xs : Nat → Int32) (lo : List (Option sa_V)) (st : List sa_V) (hs : sa_H) (rc rs : Nat) (Q : sa_Q) : sa_w (tb_L_law L xs) (244, lo, st, hs, rc, rs) Q = so_iload 4 246 (244, lo, st, hs, rc, rs) (fun g => sa_w (tb_L_law L xs) g Q) Q := sa_un (tm_L_law L xs) rfl
set_option maxRecDepth 100000 in
theorem u_L_law_246 (L : Nat) (xs : Nat → Int32) (lo : List (Option sa_V)) (st : List sa_V) (hs : sa_H) (rc rs : Nat) (Q : sa_Q) : sa_w (tb_L_law L xs) (246, lo, st, hs, rc, rs) Q = so_push (.inl (1)) 247 (246, lo, st, hs, rc, rs) (fun g => sa_w (tb_L_law L xs) g Q) Q := sa_un (tm_L_law L xs) rfl
set_option maxRecDepth 100000 in
theorem u_L_law_247 (L : Nat) (xs : Nat → Int32) (lo : List (Option sa_V)) (st : List sa_V) (hs : sa_H) (rc rs : Nat) (Q : sa_Q) : sa_w (tb_L_law L xs) (247, lo, st, hs, rc, rs) Q = so_bin (fun x y => x + y) 248 (247, lo, st, hs, rc, rs) (fun g => sa_w (tb_L_law L xs) g Q) Q := sa_un (tm_L_law L xs) rfl
set_option maxRecDepth 100000 in
theorem u_L_law_248 (L : Nat) (xs : Nat → Int32) (lo : List (Option sa_V)) (st : List sa_V) (hs : sa_H) (rc rs : Nat) (Q : sa_Q) : sa_w (tb_L_law L xs) (248, lo, st, hs, rc, rs) Q = so_sld L xs 249 (248, lo, st, hs, rc, rs) (fun g => sa_w (tb_L_law L xs) g Q) Q := sa_un (tm_L_law L xs) rfl
set_option maxRecDepth 100000 in
theorem u_L_law_249 (L : Nat) (xs : Nat → Int32) (lo : List (Option sa_V)) (st : List sa_V) (hs : sa_H) (rc rs : Nat) (Q : sa_Q) : sa_w (tb_L_law L xs) (249, lo, st, hs, rc, rs) Q = so_virt [(8, ct_X10_put)] 1 0 0 252 (249, lo, st, hs, rc, rs) (fun g => sa_w (tb_L_law L xs) g Q) Q := sa_un (tm_L_law L xs) rfl
set_option maxRecDepth 100000 in
theorem u_L_law_252 (L : Nat) (xs : Nat → Int32) (lo : List (Option sa_V)) (st : List sa_V) (hs : sa_H) (rc rs : Nat) (Q : sa_Q) : sa_w (tb_L_law L xs) (252, lo, st, hs, rc, rs) Q = so_aload 2 253 (252, lo, st, hs, rc, rs) (fun g => sa_w (tb_L_law L xs) g Q) Q := sa_un (tm_L_law L xs) rfl
set_option maxRecDepth 100000 in
theorem u_L_law_253 (L : Nat) (xs : Nat → Int32) (lo : List (Option sa_V)) (st : List sa_V) (hs : sa_H) (rc rs : Nat) (Q : sa_Q) : sa_w (tb_L_law L xs) (253, lo, st, hs, rc, rs) Q = so_aload 0 254 (253, lo, st, hs, rc, rs) (fun g => sa_w (tb_L_law L xs) g Q) Q := sa_un (tm_L_law L xs) rfl
set_option maxRecDepth 100000 in
theorem u_L_law_254 (L : Nat) (xs : Nat → Int32) (lo : List (Option sa_V)) (st : List sa_V) (hs : sa_H) (rc rs : Nat) (Q : sa_Q) : sa_w (tb_L_law L xs) (254, lo, st, hs, rc, rs) Q = so_iload 4 256 (254, lo, st, hs, rc, rs) (fun g => sa_w (tb_L_law L xs) g Q) Q := sa_un (tm_L_law L xs) rfl
set_option maxRecDepth 100000 in
theorem u_L_law_256 (L : Nat) (xs : Nat → Int32) (lo : List (Option sa_V)) (st : List sa_V) (hs : sa_H) (rc rs : Nat) (Q : sa_Q) : sa_w (tb_L_law L xs) (256, lo, st, hs, rc, rs) Q = so_push (.inl (1)) 257 (256, lo, st, hs, rc, rs) (fun g => sa_w (tb_L_law L xs) g Q) Q := sa_un (tm_L_law L xs) rfl
set_option maxRecDepth 100000 in
theorem u_L_law_257 (L : Nat) (xs : Nat → Int32) (lo : List (Option sa_V)) (st : List sa_V) (hs : sa_H) (rc rs : Nat) (Q : sa_Q) : sa_w (tb_L_law L xs) (257, lo, st, hs, rc, rs) Q = so_bin (fun x y => x + y) 258 (257, lo, st, hs, rc, rs) (fun g => sa_w (tb_L_law L xs) g Q) Q := sa_un (tm_L_law L xs) rfl
set_option maxRecDepth 100000 in
theorem u_L_law_258 (L : Nat) (xs : Nat → Int32) (lo : List (Option sa_V)) (st : List sa_V) (hs : sa_H) (rc rs : Nat) (Q : sa_Q) : sa_w (tb_L_law L xs) (258, lo, st, hs, rc, rs) Q = so_sld L xs 259 (258, lo, st, hs, rc, rs) (fun g => sa_w (tb_L_law L xs) g Q) Q := sa_un (tm_L_law L xs) rfl
set_option maxRecDepth 100000 in
theorem u_L_law_259 (L : Nat) (xs : Nat → Int32) (lo : List (Option sa_V)) (st : List sa_V) (hs : sa_H) (rc rs : Nat) (Q : sa_Q) : sa_w (tb_L_law L xs) (259, lo, st, hs, rc, rs) Q = so_virt [(9, ct_X11_put)] 1 0 0 262 (259, lo, st, hs, rc, rs) (fun g => sa_w (tb_L_law L xs) g Q) Q := sa_un (tm_L_law L xs) rfl
set_option maxRecDepth 100000 in
theorem u_L_law_262 (L : Nat) (xs : Nat → Int32) (lo : List (Option sa_V)) (st : List sa_V) (hs : sa_H) (rc rs : Nat) (Q : sa_Q) : sa_w (tb_L_law L xs) (262, lo, st, hs, rc, rs) Q = so_cmp (fun x y => x = y) 535 265 (262, lo, st, hs, rc, rs) (fun g => sa_w (tb_L_law L xs) g Q) Q := sa_un (tm_L_law L xs) rfl
set_option maxRecDepth 100000 in
theorem u_L_law_265 (L : Nat) (xs : Nat → Int32) (lo : List (Option sa_V)) (st : List sa_V) (hs : sa_H) (rc rs : Nat) (Q : sa_Q) : sa_w (tb_L_law L xs) (265, lo, st, hs, rc, rs) Q = so_push (.inl (0)) 266 (265, lo, st, hs, rc, rs) (fun g => sa_w (tb_L_law L xs) g Q) Q := sa_un (tm_L_law L xs) rfl
set_option maxRecDepth 100000 in
theorem u_L_law_266 (L : Nat) (xs : Nat → Int32) (lo : List (Option sa_V)) (st : List sa_V) (hs : sa_H) (rc rs : Nat) (Q : sa_Q) : sa_w (tb_L_law L xs) (266, lo, st, hs, rc, rs) Q = so_one (266, lo, st, hs, rc, rs) (fun g => sa_w (tb_L_law L xs) g Q) Q := sa_un (tm_L_law L xs) rfl
set_option maxRecDepth 100000 in
theorem u_L_law_267 (L : Nat) (xs : Nat → Int32) (lo : List (Option sa_V)) (st : List sa_V) (hs : sa_H) (rc rs : Nat) (Q : sa_Q) : sa_w (tb_L_law L xs) (267, lo, st, hs, rc, rs) Q = so_aload 1 268 (267, lo, st, hs, rc, rs) (fun g => sa_w (tb_L_law L xs) g Q) Q := sa_un (tm_L_law L xs) rfl
set_option maxRecDepth 100000 in
theorem u_L_law_268 (L : Nat) (xs : Nat → Int32) (lo : List (Option sa_V)) (st : List sa_V) (hs : sa_H) (rc rs : Nat) (Q : sa_Q) : sa_w (tb_L_law L xs) (268, lo, st, hs, rc, rs) Q = so_aload 0 269 (268, lo, st, hs, rc, rs) (fun g => sa_w (tb_L_law L xs) g Q) Q := sa_un (tm_L_law L xs) rfl
set_option maxRecDepth 100000 in
theorem u_L_law_269 (L : Nat) (xs : Nat → Int32) (lo : List (Option sa_V)) (st : List sa_V) (hs : sa_H) (rc rs : Nat) (Q : sa_Q) : sa_w (tb_L_law L xs) (269, lo, st, hs, rc, rs) Q = so_iload 4 271 (269, lo, st, hs, rc, rs) (fun g => sa_w (tb_L_law L xs) g Q) Q := sa_un (tm_L_law L xs) rfl
set_option maxRecDepth 100000 in
theorem u_L_law_271 (L : Nat) (xs : Nat → Int32) (lo : List (Option sa_V)) (st : List sa_V) (hs : sa_H) (rc rs : Nat) (Q : sa_Q) : sa_w (tb_L_law L xs) (271, lo, st, hs, rc, rs) Q = so_push (.inl (1)) 272 (271, lo, st, hs, rc, rs) (fun g => sa_w (tb_L_law L xs) g Q) Q := sa_un (tm_L_law L xs) rfl
set_option maxRecDepth 100000 in
theorem u_L_law_272 (L : Nat) (xs : Nat → Int32) (lo : List (Option sa_V)) (st : List sa_V) (hs : sa_H) (rc rs : Nat) (Q : sa_Q) : sa_w (tb_L_law L xs) (272, lo, st, hs, rc, rs) Q = so_bin (fun x y => x + y) 273 (272, lo, st, hs, rc, rs) (fun g => sa_w (tb_L_law L xs) g Q) Q := sa_un (tm_L_law L xs) rfl
set_option maxRecDepth 100000 in
theorem u_L_law_273 (L : Nat) (xs : Nat → Int32) (lo : List (Option sa_V)) (st : List sa_V) (hs : sa_H) (rc rs : Nat) (Q : sa_Q) : sa_w (tb_L_law L xs) (273, lo, st, hs, rc, rs) Q = so_sld L xs 274 (273, lo, st, hs, rc, rs) (fun g => sa_w (tb_L_law L xs) g Q) Q := sa_un (tm_L_law L xs) rfl
set_option maxRecDepth 100000 in
theorem u_L_law_274 (L : Nat) (xs : Nat → Int32) (lo : List (Option sa_V)) (st : List sa_V) (hs : sa_H) (rc rs : Nat) (Q : sa_Q) : sa_w (tb_L_law L xs) (274, lo, st, hs, rc, rs) Q = so_virt [(8, ct_X10_row)] 1 0 0 277 (274, lo, st, hs, rc, rs) (fun g => sa_w (tb_L_law L xs) g Q) Q := sa_un (tm_L_law L xs) rfl
set_option maxRecDepth 100000 in
theorem u_L_law_277 (L : Nat) (xs : Nat → Int32) (lo : List (Option sa_V)) (st : List sa_V) (hs : sa_H) (rc rs : Nat) (Q : sa_Q) : sa_w (tb_L_law L xs) (277, lo, st, hs, rc, rs) Q = so_aload 2 278 (277, lo, st, hs, rc, rs) (fun g => sa_w (tb_L_law L xs) g Q) Q := sa_un (tm_L_law L xs) rfl
set_option maxRecDepth 100000 in
theorem u_L_law_278 (L : Nat) (xs : Nat → Int32) (lo : List (Option sa_V)) (st : List sa_V) (hs : sa_H) (rc rs : Nat) (Q : sa_Q) : sa_w (tb_L_law L xs) (278, lo, st, hs, rc, rs) Q = so_aload 0 279 (278, lo, st, hs, rc, rs) (fun g => sa_w (tb_L_law L xs) g Q) Q := sa_un (tm_L_law L xs) rfl
set_option maxRecDepth 100000 in
theorem u_L_law_279 (L : Nat) (xs : Nat → Int32) (lo : List (Option sa_V)) (st : List sa_V) (hs : sa_H) (rc rs : Nat) (Q : sa_Q) : sa_w (tb_L_law L xs) (279, lo, st, hs, rc, rs) Q = so_iload 4 281 (279, lo, st, hs, rc, rs) (fun g => sa_w (tb_L_law L xs) g Q) Q := sa_un (tm_L_law L xs) rfl
set_option maxRecDepth 100000 in
theorem u_L_law_281 (L : Nat) (xs : Nat → Int32) (lo : List (Option sa_V)) (st : List sa_V) (hs : sa_H) (rc rs : Nat) (Q : sa_Q) : sa_w (tb_L_law L xs) (281, lo, st, hs, rc, rs) Q = so_push (.inl (1)) 282 (281, lo, st, hs, rc, rs) (fun g => sa_w (tb_L_law L xs) g Q) Q := sa_un (tm_L_law L xs) rfl
set_option maxRecDepth 100000 in
theorem u_L_law_282 (L : Nat) (xs : Nat → Int32) (lo : List (Option sa_V)) (st : List sa_V) (hs : sa_H) (rc rs : Nat) (Q : sa_Q) : sa_w (tb_L_law L xs) (282, lo, st, hs, rc, rs) Q = so_bin (fun x y => x + y) 283 (282, lo, st, hs, rc, rs) (fun g => sa_w (tb_L_law L xs) g Q) Q := sa_un (tm_L_law L xs) rfl
set_option maxRecDepth 100000 in
theorem u_L_law_283 (L : Nat) (xs : Nat → Int32) (lo : List (Option sa_V)) (st : List sa_V) (hs : sa_H) (rc rs : Nat) (Q : sa_Q) : sa_w (tb_L_law L xs) (283, lo, st, hs, rc, rs) Q = so_sld L xs 284 (283, lo, st, hs, rc, rs) (fun g => sa_w (tb_L_law L xs) g Q) Q := sa_un (tm_L_law L xs) rfl
set_option maxRecDepth 100000 in
theorem u_L_law_284 (L : Nat) (xs : Nat → Int32) (lo : List (Option sa_V)) (st : List sa_V) (hs : sa_H) (rc rs : Nat) (Q : sa_Q) : sa_w (tb_L_law L xs) (284, lo, st, hs, rc, rs) Q = so_virt [(9, ct_X11_row)] 1 0 0 287 (284, lo, st, hs, rc, rs) (fun g => sa_w (tb_L_law L xs) g Q) Q := sa_un (tm_L_law L xs) rfl
set_option maxRecDepth 100000 in
theorem u_L_law_287 (L : Nat) (xs : Nat → Int32) (lo : List (Option sa_V)) (st : List sa_V) (hs : sa_H) (rc rs : Nat) (Q : sa_Q) : sa_w (tb_L_law L xs) (287, lo, st, hs, rc, rs) Q = so_cmp (fun x y => x = y) 535 290 (287, lo, st, hs, rc, rs) (fun g => sa_w (tb_L_law L xs) g Q) Q := sa_un (tm_L_law L xs) rfl
set_option maxRecDepth 100000 in
theorem u_L_law_290 (L : Nat) (xs : Nat → Int32) (lo : List (Option sa_V)) (st : List sa_V) (hs : sa_H) (rc rs : Nat) (Q : sa_Q) : sa_w (tb_L_law L xs) (290, lo, st, hs, rc, rs) Q = so_push (.inl (0)) 291 (290, lo, st, hs, rc, rs) (fun g => sa_w (tb_L_law L xs) g Q) Q := sa_un (tm_L_law L xs) rfl
set_option maxRecDepth 100000 in
theorem u_L_law_291 (L : Nat) (xs : Nat → Int32) (lo : List (Option sa_V)) (st : List sa_V) (hs : sa_H) (rc rs : Nat) (Q : sa_Q) : sa_w (tb_L_law L xs) (291, lo, st, hs, rc, rs) Q = so_one (291, lo, st, hs, rc, rs) (fun g => sa_w (tb_L_law L xs) g Q) Q := sa_un (tm_L_law L xs) rfl
set_option maxRecDepth 100000 in
theorem u_L_law_292 (L : Nat) (xs : Nat → Int32) (lo : List (Option sa_V)) (st : List sa_V) (hs : sa_H) (rc rs : Nat) (Q : sa_Q) : sa_w (tb_L_law L xs) (292, lo, st, hs, rc, rs) Q = so_aload 1 293 (292, lo, st, hs, rc, rs) (fun g => sa_w (tb_L_law L xs) g Q) Q := sa_un (tm_L_law L xs) rfl
set_option maxRecDepth 100000 in
theorem u_L_law_293 (L : Nat) (xs : Nat → Int32) (lo : List (Option sa_V)) (st : List sa_V) (hs : sa_H) (rc rs : Nat) (Q : sa_Q) : sa_w (tb_L_law L xs) (293, lo, st, hs, rc, rs) Q = so_aload 0 294 (293, lo, st, hs, rc, rs) (fun g => sa_w (tb_L_law L xs) g Q) Q := sa_un (tm_L_law L xs) rfl
set_option maxRecDepth 100000 in
theorem u_L_law_294 (L : Nat) (xs : Nat → Int32) (lo : List (Option sa_V)) (st : List sa_V) (hs : sa_H) (rc rs : Nat) (Q : sa_Q) : sa_w (tb_L_law L xs) (294, lo, st, hs, rc, rs) Q = so_iload 4 296 (294, lo, st, hs, rc, rs) (fun g => sa_w (tb_L_law L xs) g Q) Q := sa_un (tm_L_law L xs) rfl
set_option maxRecDepth 100000 in
theorem u_L_law_296 (L : Nat) (xs : Nat → Int32) (lo : List (Option sa_V)) (st : List sa_V) (hs : sa_H) (rc rs : Nat) (Q : sa_Q) : sa_w (tb_L_law L xs) (296, lo, st, hs, rc, rs) Q = so_push (.inl (1)) 297 (296, lo, st, hs, rc, rs) (fun g => sa_w (tb_L_law L xs) g Q) Q := sa_un (tm_L_law L xs) rfl
set_option maxRecDepth 100000 in
theorem u_L_law_297 (L : Nat) (xs : Nat → Int32) (lo : List (Option sa_V)) (st : List sa_V) (hs : sa_H) (rc rs : Nat) (Q : sa_Q) : sa_w (tb_L_law L xs) (297, lo, st, hs, rc, rs) Q = so_bin (fun x y => x + y) 298 (297, lo, st, hs, rc, rs) (fun g => sa_w (tb_L_law L xs) g Q) Q := sa_un (tm_L_law L xs) rfl
set_option maxRecDepth 100000 in
theorem u_L_law_298 (L : Nat) (xs : Nat → Int32) (lo : List (Option sa_V)) (st : List sa_V) (hs : sa_H) (rc rs : Nat) (Q : sa_Q) : sa_w (tb_L_law L xs) (298, lo, st, hs, rc, rs) Q = so_sld L xs 299 (298, lo, st, hs, rc, rs) (fun g => sa_w (tb_L_law L xs) g Q) Q := sa_un (tm_L_law L xs) rfl
set_option maxRecDepth 100000 in
theorem u_L_law_299 (L : Nat) (xs : Nat → Int32) (lo : List (Option sa_V)) (st : List sa_V) (hs : sa_H) (rc rs : Nat) (Q : sa_Q) : sa_w (tb_L_law L xs) (299, lo, st, hs, rc, rs) Q = so_aload 0 300 (299, lo, st, hs, rc, rs) (fun g => sa_w (tb_L_law L xs) g Q) Q := sa_un (tm_L_law L xs) rfl
set_option maxRecDepth 100000 in
theorem u_L_law_300 (L : Nat) (xs : Nat → Int32) (lo : List (Option sa_V)) (st : List sa_V) (hs : sa_H) (rc rs : Nat) (Q : sa_Q) : sa_w (tb_L_law L xs) (300, lo, st, hs, rc, rs) Q = so_iload 4 302 (300, lo, st, hs, rc, rs) (fun g => sa_w (tb_L_law L xs) g Q) Q := sa_un (tm_L_law L xs) rfl
set_option maxRecDepth 100000 in
theorem u_L_law_302 (L : Nat) (xs : Nat → Int32) (lo : List (Option sa_V)) (st : List sa_V) (hs : sa_H) (rc rs : Nat) (Q : sa_Q) : sa_w (tb_L_law L xs) (302, lo, st, hs, rc, rs) Q = so_push (.inl (2)) 303 (302, lo, st, hs, rc, rs) (fun g => sa_w (tb_L_law L xs) g Q) Q := sa_un (tm_L_law L xs) rfl
set_option maxRecDepth 100000 in
theorem u_L_law_303 (L : Nat) (xs : Nat → Int32) (lo : List (Option sa_V)) (st : List sa_V) (hs : sa_H) (rc rs : Nat) (Q : sa_Q) : sa_w (tb_L_law L xs) (303, lo, st, hs, rc, rs) Q = so_bin (fun x y => x + y) 304 (303, lo, st, hs, rc, rs) (fun g => sa_w (tb_L_law L xs) g Q) Q := sa_un (tm_L_law L xs) rfl
set_option maxRecDepth 100000 in
theorem u_L_law_304 (L : Nat) (xs : Nat → Int32) (lo : List (Option sa_V)) (st : List sa_V) (hs : sa_H) (rc rs : Nat) (Q : sa_Q) : sa_w (tb_L_law L xs) (304, lo, st, hs, rc, rs) Q = so_sld L xs 305 (304, lo, st, hs, rc, rs) (fun g => sa_w (tb_L_law L xs) g Q) Q := sa_un (tm_L_law L xs) rfl
set_option maxRecDepth 100000 in
theorem u_L_law_305 (L : Nat) (xs : Nat → Int32) (lo : List (Option sa_V)) (st : List sa_V) (hs : sa_H) (rc rs : Nat) (Q : sa_Q) : sa_w (tb_L_law L xs) (305, lo, st, hs, rc, rs) Q = so_virt [(8, ct_X10_poke)] 2 0 0 308 (305, lo, st, hs, rc, rs) (fun g => sa_w (tb_L_law L xs) g Q) Q := sa_un (tm_L_law L xs) rfl
set_option maxRecDepth 100000 in
theorem u_L_law_308 (L : Nat) (xs : Nat → Int32) (lo : List (Option sa_V)) (st : List sa_V) (hs : sa_H) (rc rs : Nat) (Q : sa_Q) : sa_w (tb_L_law L xs) (308, lo, st, hs, rc, rs) Q = so_aload 2 309 (308, lo, st, hs, rc, rs) (fun g => sa_w (tb_L_law L xs) g Q) Q := sa_un (tm_L_law L xs) rfl
set_option maxRecDepth 100000 in
theorem u_L_law_309 (L : Nat) (xs : Nat → Int32) (lo : List (Option sa_V)) (st : List sa_V) (hs : sa_H) (rc rs : Nat) (Q : sa_Q) : sa_w (tb_L_law L xs) (309, lo, st, hs, rc, rs) Q = so_aload 0 310 (309, lo, st, hs, rc, rs) (fun g => sa_w (tb_L_law L xs) g Q) Q := sa_un (tm_L_law L xs) rfl
set_option maxRecDepth 100000 in
theorem u_L_law_310 (L : Nat) (xs : Nat → Int32) (lo : List (Option sa_V)) (st : List sa_V) (hs : sa_H) (rc rs : Nat) (Q : sa_Q) : sa_w (tb_L_law L xs) (310, lo, st, hs, rc, rs) Q = so_iload 4 312 (310, lo, st, hs, rc, rs) (fun g => sa_w (tb_L_law L xs) g Q) Q := sa_un (tm_L_law L xs) rfl
set_option maxRecDepth 100000 in
theorem u_L_law_312 (L : Nat) (xs : Nat → Int32) (lo : List (Option sa_V)) (st : List sa_V) (hs : sa_H) (rc rs : Nat) (Q : sa_Q) : sa_w (tb_L_law L xs) (312, lo, st, hs, rc, rs) Q = so_push (.inl (1)) 313 (312, lo, st, hs, rc, rs) (fun g => sa_w (tb_L_law L xs) g Q) Q := sa_un (tm_L_law L xs) rfl
set_option maxRecDepth 100000 in
theorem u_L_law_313 (L : Nat) (xs : Nat → Int32) (lo : List (Option sa_V)) (st : List sa_V) (hs : sa_H) (rc rs : Nat) (Q : sa_Q) : sa_w (tb_L_law L xs) (313, lo, st, hs, rc, rs) Q = so_bin (fun x y => x + y) 314 (313, lo, st, hs, rc, rs) (fun g => sa_w (tb_L_law L xs) g Q) Q := sa_un (tm_L_law L xs) rfl
set_option maxRecDepth 100000 in
theorem u_L_law_314 (L : Nat) (xs : Nat → Int32) (lo : List (Option sa_V)) (st : List sa_V) (hs : sa_H) (rc rs : Nat) (Q : sa_Q) : sa_w (tb_L_law L xs) (314, lo, st, hs, rc, rs) Q = so_sld L xs 315 (314, lo, st, hs, rc, rs) (fun g => sa_w (tb_L_law L xs) g Q) Q := sa_un (tm_L_law L xs) rfl
set_option maxRecDepth 100000 in
theorem u_L_law_315 (L : Nat) (xs : Nat → Int32) (lo : List (Option sa_V)) (st : List sa_V) (hs : sa_H) (rc rs : Nat) (Q : sa_Q) : sa_w (tb_L_law L xs) (315, lo, st, hs, rc, rs) Q = so_aload 0 316 (315, lo, st, hs, rc, rs) (fun g => sa_w (tb_L_law L xs) g Q) Q := sa_un (tm_L_law L xs) rfl
set_option maxRecDepth 100000 in
theorem u_L_law_316 (L : Nat) (xs : Nat → Int32) (lo : List (Option sa_V)) (st : List sa_V) (hs : sa_H) (rc rs : Nat) (Q : sa_Q) : sa_w (tb_L_law L xs) (316, lo, st, hs, rc, rs) Q = so_iload 4 318 (316, lo, st, hs, rc, rs) (fun g => sa_w (tb_L_law L xs) g Q) Q := sa_un (tm_L_law L xs) rfl
set_option maxRecDepth 100000 in
theorem u_L_law_318 (L : Nat) (xs : Nat → Int32) (lo : List (Option sa_V)) (st : List sa_V) (hs : sa_H) (rc rs : Nat) (Q : sa_Q) : sa_w (tb_L_law L xs) (318, lo, st, hs, rc, rs) Q = so_push (.inl (2)) 319 (318, lo, st, hs, rc, rs) (fun g => sa_w (tb_L_law L xs) g Q) Q := sa_un (tm_L_law L xs) rfl
set_option maxRecDepth 100000 in
theorem u_L_law_319 (L : Nat) (xs : Nat → Int32) (lo : List (Option sa_V)) (st : List sa_V) (hs : sa_H) (rc rs : Nat) (Q : sa_Q) : sa_w (tb_L_law L xs) (319, lo, st, hs, rc, rs) Q = so_bin (fun x y => x + y) 320 (319, lo, st, hs, rc, rs) (fun g => sa_w (tb_L_law L xs) g Q) Q := sa_un (tm_L_law L xs) rfl
set_option maxRecDepth 100000 in
theorem u_L_law_320 (L : Nat) (xs : Nat → Int32) (lo : List (Option sa_V)) (st : List sa_V) (hs : sa_H) (rc rs : Nat) (Q : sa_Q) : sa_w (tb_L_law L xs) (320, lo, st, hs, rc, rs) Q = so_sld L xs 321 (320, lo, st, hs, rc, rs) (fun g => sa_w (tb_L_law L xs) g Q) Q := sa_un (tm_L_law L xs) rfl
set_option maxRecDepth 100000 in
theorem u_L_law_321 (L : Nat) (xs : Nat → Int32) (lo : List (Option sa_V)) (st : List sa_V) (hs : sa_H) (rc rs : Nat) (Q : sa_Q) : sa_w (tb_L_law L xs) (321, lo, st, hs, rc, rs) Q = so_virt [(9, ct_X11_poke)] 2 0 0 324 (321, lo, st, hs, rc, rs) (fun g => sa_w (tb_L_law L xs) g Q) Q := sa_un (tm_L_law L xs) rfl
set_option maxRecDepth 100000 in
theorem u_L_law_324 (L : Nat) (xs : Nat → Int32) (lo : List (Option sa_V)) (st : List sa_V) (hs : sa_H) (rc rs : Nat) (Q : sa_Q) : sa_w (tb_L_law L xs) (324, lo, st, hs, rc, rs) Q = so_cmp (fun x y => x = y) 535 327 (324, lo, st, hs, rc, rs) (fun g => sa_w (tb_L_law L xs) g Q) Q := sa_un (tm_L_law L xs) rfl
set_option maxRecDepth 100000 in
theorem u_L_law_327 (L : Nat) (xs : Nat → Int32) (lo : List (Option sa_V)) (st : List sa_V) (hs : sa_H) (rc rs : Nat) (Q : sa_Q) : sa_w (tb_L_law L xs) (327, lo, st, hs, rc, rs) Q = so_push (.inl (0)) 328 (327, lo, st, hs, rc, rs) (fun g => sa_w (tb_L_law L xs) g Q) Q := sa_un (tm_L_law L xs) rfl
set_option maxRecDepth 100000 in
theorem u_L_law_328 (L : Nat) (xs : Nat → Int32) (lo : List (Option sa_V)) (st : List sa_V) (hs : sa_H) (rc rs : Nat) (Q : sa_Q) : sa_w (tb_L_law L xs) (328, lo, st, hs, rc, rs) Q = so_one (328, lo, st, hs, rc, rs) (fun g => sa_w (tb_L_law L xs) g Q) Q := sa_un (tm_L_law L xs) rfl
set_option maxRecDepth 100000 in
theorem u_L_law_329 (L : Nat) (xs : Nat → Int32) (lo : List (Option sa_V)) (st : List sa_V) (hs : sa_H) (rc rs : Nat) (Q : sa_Q) : sa_w (tb_L_law L xs) (329, lo, st, hs, rc, rs) Q = so_aload 1 330 (329, lo, st, hs, rc, rs) (fun g => sa_w (tb_L_law L xs) g Q) Q := sa_un (tm_L_law L xs) rfl
set_option maxRecDepth 100000 in
theorem u_L_law_330 (L : Nat) (xs : Nat → Int32) (lo : List (Option sa_V)) (st : List sa_V) (hs : sa_H) (rc rs : Nat) (Q : sa_Q) : sa_w (tb_L_law L xs) (330, lo, st, hs, rc, rs) Q = so_aload 0 331 (330, lo, st, hs, rc, rs) (fun g => sa_w (tb_L_law L xs) g Q) Q := sa_un (tm_L_law L xs) rfl
set_option maxRecDepth 100000 in
theorem u_L_law_331 (L : Nat) (xs : Nat → Int32) (lo : List (Option sa_V)) (st : List sa_V) (hs : sa_H) (rc rs : Nat) (Q : sa_Q) : sa_w (tb_L_law L xs) (331, lo, st, hs, rc, rs) Q = so_iload 4 333 (331, lo, st, hs, rc, rs) (fun g => sa_w (tb_L_law L xs) g Q) Q := sa_un (tm_L_law L xs) rfl
set_option maxRecDepth 100000 in
theorem u_L_law_333 (L : Nat) (xs : Nat → Int32) (lo : List (Option sa_V)) (st : List sa_V) (hs : sa_H) (rc rs : Nat) (Q : sa_Q) : sa_w (tb_L_law L xs) (333, lo, st, hs, rc, rs) Q = so_push (.inl (1)) 334 (333, lo, st, hs, rc, rs) (fun g => sa_w (tb_L_law L xs) g Q) Q := sa_un (tm_L_law L xs) rfl
set_option maxRecDepth 100000 in
theorem u_L_law_334 (L : Nat) (xs : Nat → Int32) (lo : List (Option sa_V)) (st : List sa_V) (hs : sa_H) (rc rs : Nat) (Q : sa_Q) : sa_w (tb_L_law L xs) (334, lo, st, hs, rc, rs) Q = so_bin (fun x y => x + y) 335 (334, lo, st, hs, rc, rs) (fun g => sa_w (tb_L_law L xs) g Q) Q := sa_un (tm_L_law L xs) rfl
set_option maxRecDepth 100000 in
theorem u_L_law_335 (L : Nat) (xs : Nat → Int32) (lo : List (Option sa_V)) (st : List sa_V) (hs : sa_H) (rc rs : Nat) (Q : sa_Q) : sa_w (tb_L_law L xs) (335, lo, st, hs, rc, rs) Q = so_sld L xs 336 (335, lo, st, hs, rc, rs) (fun g => sa_w (tb_L_law L xs) g Q) Q := sa_un (tm_L_law L xs) rfl
set_option maxRecDepth 100000 in
theorem u_L_law_336 (L : Nat) (xs : Nat → Int32) (lo : List (Option sa_V)) (st : List sa_V) (hs : sa_H) (rc rs : Nat) (Q : sa_Q) : sa_w (tb_L_law L xs) (336, lo, st, hs, rc, rs) Q = so_virt [(8, ct_X10_cut)] 1 0 0 339 (336, lo, st, hs, rc, rs) (fun g => sa_w (tb_L_law L xs) g Q) Q := sa_un (tm_L_law L xs) rfl
set_option maxRecDepth 100000 in
theorem u_L_law_339 (L : Nat) (xs : Nat → Int32) (lo : List (Option sa_V)) (st : List sa_V) (hs : sa_H) (rc rs : Nat) (Q : sa_Q) : sa_w (tb_L_law L xs) (339, lo, st, hs, rc, rs) Q = so_aload 2 340 (339, lo, st, hs, rc, rs) (fun g => sa_w (tb_L_law L xs) g Q) Q := sa_un (tm_L_law L xs) rfl
set_option maxRecDepth 100000 in
theorem u_L_law_340 (L : Nat) (xs : Nat → Int32) (lo : List (Option sa_V)) (st : List sa_V) (hs : sa_H) (rc rs : Nat) (Q : sa_Q) : sa_w (tb_L_law L xs) (340, lo, st, hs, rc, rs) Q = so_aload 0 341 (340, lo, st, hs, rc, rs) (fun g => sa_w (tb_L_law L xs) g Q) Q := sa_un (tm_L_law L xs) rfl
set_option maxRecDepth 100000 in
theorem u_L_law_341 (L : Nat) (xs : Nat → Int32) (lo : List (Option sa_V)) (st : List sa_V) (hs : sa_H) (rc rs : Nat) (Q : sa_Q) : sa_w (tb_L_law L xs) (341, lo, st, hs, rc, rs) Q = so_iload 4 343 (341, lo, st, hs, rc, rs) (fun g => sa_w (tb_L_law L xs) g Q) Q := sa_un (tm_L_law L xs) rfl
set_option maxRecDepth 100000 in
theorem u_L_law_343 (L : Nat) (xs : Nat → Int32) (lo : List (Option sa_V)) (st : List sa_V) (hs : sa_H) (rc rs : Nat) (Q : sa_Q) : sa_w (tb_L_law L xs) (343, lo, st, hs, rc, rs) Q = so_push (.inl (1)) 344 (343, lo, st, hs, rc, rs) (fun g => sa_w (tb_L_law L xs) g Q) Q := sa_un (tm_L_law L xs) rfl
set_option maxRecDepth 100000 in
theorem u_L_law_344 (L : Nat) (xs : Nat → Int32) (lo : List (Option sa_V)) (st : List sa_V) (hs : sa_H) (rc rs : Nat) (Q : sa_Q) : sa_w (tb_L_law L xs) (344, lo, st, hs, rc, rs) Q = so_bin (fun x y => x + y) 345 (344, lo, st, hs, rc, rs) (fun g => sa_w (tb_L_law L xs) g Q) Q := sa_un (tm_L_law L xs) rfl
set_option maxRecDepth 100000 in
theorem u_L_law_345 (L : Nat) (xs : Nat → Int32) (lo : List (Option sa_V)) (st : List sa_V) (hs : sa_H) (rc rs : Nat) (Q : sa_Q) : sa_w (tb_L_law L xs) (345, lo, st, hs, rc, rs) Q = so_sld L xs 346 (345, lo, st, hs, rc, rs) (fun g => sa_w (tb_L_law L xs) g Q) Q := sa_un (tm_L_law L xs) rfl
set_option maxRecDepth 100000 in
theorem u_L_law_346 (L : Nat) (xs : Nat → Int32) (lo : List (Option sa_V)) (st : List sa_V) (hs : sa_H) (rc rs : Nat) (Q : sa_Q) : sa_w (tb_L_law L xs) (346, lo, st, hs, rc, rs) Q = so_virt [(9, ct_X11_cut)] 1 0 0 349 (346, lo, st, hs, rc, rs) (fun g => sa_w (tb_L_law L xs) g Q) Q := sa_un (tm_L_law L xs) rfl
set_option maxRecDepth 100000 in
theorem u_L_law_349 (L : Nat) (xs : Nat → Int32) (lo : List (Option sa_V)) (st : List sa_V) (hs : sa_H) (rc rs : Nat) (Q : sa_Q) : sa_w (tb_L_law L xs) (349, lo, st, hs, rc, rs) Q = so_cmp (fun x y => x = y) 535 352 (349, lo, st, hs, rc, rs) (fun g => sa_w (tb_L_law L xs) g Q) Q := sa_un (tm_L_law L xs) rfl
set_option maxRecDepth 100000 in
theorem u_L_law_352 (L : Nat) (xs : Nat → Int32) (lo : List (Option sa_V)) (st : List sa_V) (hs : sa_H) (rc rs : Nat) (Q : sa_Q) : sa_w (tb_L_law L xs) (352, lo, st, hs, rc, rs) Q = so_push (.inl (0)) 353 (352, lo, st, hs, rc, rs) (fun g => sa_w (tb_L_law L xs) g Q) Q := sa_un (tm_L_law L xs) rfl
set_option maxRecDepth 100000 in
theorem u_L_law_353 (L : Nat) (xs : Nat → Int32) (lo : List (Option sa_V)) (st : List sa_V) (hs : sa_H) (rc rs : Nat) (Q : sa_Q) : sa_w (tb_L_law L xs) (353, lo, st, hs, rc, rs) Q = so_one (353, lo, st, hs, rc, rs) (fun g => sa_w (tb_L_law L xs) g Q) Q := sa_un (tm_L_law L xs) rfl
set_option maxRecDepth 100000 in
theorem u_L_law_354 (L : Nat) (xs : Nat → Int32) (lo : List (Option sa_V)) (st : List sa_V) (hs : sa_H) (rc rs : Nat) (Q : sa_Q) : sa_w (tb_L_law L xs) (354, lo, st, hs, rc, rs) Q = so_aload 1 355 (354, lo, st, hs, rc, rs) (fun g => sa_w (tb_L_law L xs) g Q) Q := sa_un (tm_L_law L xs) rfl
set_option maxRecDepth 100000 in
theorem u_L_law_355 (L : Nat) (xs : Nat → Int32) (lo : List (Option sa_V)) (st : List sa_V) (hs : sa_H) (rc rs : Nat) (Q : sa_Q) : sa_w (tb_L_law L xs) (355, lo, st, hs, rc, rs) Q = so_aload 0 356 (355, lo, st, hs, rc, rs) (fun g => sa_w (tb_L_law L xs) g Q) Q := sa_un (tm_L_law L xs) rfl
set_option maxRecDepth 100000 in
theorem u_L_law_356 (L : Nat) (xs : Nat → Int32) (lo : List (Option sa_V)) (st : List sa_V) (hs : sa_H) (rc rs : Nat) (Q : sa_Q) : sa_w (tb_L_law L xs) (356, lo, st, hs, rc, rs) Q = so_iload 4 358 (356, lo, st, hs, rc, rs) (fun g => sa_w (tb_L_law L xs) g Q) Q := sa_un (tm_L_law L xs) rfl
set_option maxRecDepth 100000 in
theorem u_L_law_358 (L : Nat) (xs : Nat → Int32) (lo : List (Option sa_V)) (st : List sa_V) (hs : sa_H) (rc rs : Nat) (Q : sa_Q) : sa_w (tb_L_law L xs) (358, lo, st, hs, rc, rs) Q = so_push (.inl (1)) 359 (358, lo, st, hs, rc, rs) (fun g => sa_w (tb_L_law L xs) g Q) Q := sa_un (tm_L_law L xs) rfl
set_option maxRecDepth 100000 in
theorem u_L_law_359 (L : Nat) (xs : Nat → Int32) (lo : List (Option sa_V)) (st : List sa_V) (hs : sa_H) (rc rs : Nat) (Q : sa_Q) : sa_w (tb_L_law L xs) (359, lo, st, hs, rc, rs) Q = so_bin (fun x y => x + y) 360 (359, lo, st, hs, rc, rs) (fun g => sa_w (tb_L_law L xs) g Q) Q := sa_un (tm_L_law L xs) rfl
set_option maxRecDepth 100000 in
theorem u_L_law_360 (L : Nat) (xs : Nat → Int32) (lo : List (Option sa_V)) (st : List sa_V) (hs : sa_H) (rc rs : Nat) (Q : sa_Q) : sa_w (tb_L_law L xs) (360, lo, st, hs, rc, rs) Q = so_sld L xs 361 (360, lo, st, hs, rc, rs) (fun g => sa_w (tb_L_law L xs) g Q) Q := sa_un (tm_L_law L xs) rfl
set_option maxRecDepth 100000 in
theorem u_L_law_361 (L : Nat) (xs : Nat → Int32) (lo : List (Option sa_V)) (st : List sa_V) (hs : sa_H) (rc rs : Nat) (Q : sa_Q) : sa_w (tb_L_law L xs) (361, lo, st, hs, rc, rs) Q = so_virt [(8, ct_X10_read)] 1 0 0 364 (361, lo, st, hs, rc, rs) (fun g => sa_w (tb_L_law L xs) g Q) Q := sa_un (tm_L_law L xs) rfl
set_option maxRecDepth 100000 in
theorem u_L_law_364 (L : Nat) (xs : Nat → Int32) (lo : List (Option sa_V)) (st : List sa_V) (hs : sa_H) (rc rs : Nat) (Q : sa_Q) : sa_w (tb_L_law L xs) (364, lo, st, hs, rc, rs) Q = so_aload 2 365 (364, lo, st, hs, rc, rs) (fun g => sa_w (tb_L_law L xs) g Q) Q := sa_un (tm_L_law L xs) rfl
set_option maxRecDepth 100000 in
theorem u_L_law_365 (L : Nat) (xs : Nat → Int32) (lo : List (Option sa_V)) (st : List sa_V) (hs : sa_H) (rc rs : Nat) (Q : sa_Q) : sa_w (tb_L_law L xs) (365, lo, st, hs, rc, rs) Q = so_aload 0 366 (365, lo, st, hs, rc, rs) (fun g => sa_w (tb_L_law L xs) g Q) Q := sa_un (tm_L_law L xs) rfl
set_option maxRecDepth 100000 in
theorem u_L_law_366 (L : Nat) (xs : Nat → Int32) (lo : List (Option sa_V)) (st : List sa_V) (hs : sa_H) (rc rs : Nat) (Q : sa_Q) : sa_w (tb_L_law L xs) (366, lo, st, hs, rc, rs) Q = so_iload 4 368 (366, lo, st, hs, rc, rs) (fun g => sa_w (tb_L_law L xs) g Q) Q := sa_un (tm_L_law L xs) rfl
set_option maxRecDepth 100000 in
theorem u_L_law_368 (L : Nat) (xs : Nat → Int32) (lo : List (Option sa_V)) (st : List sa_V) (hs : sa_H) (rc rs : Nat) (Q : sa_Q) : sa_w (tb_L_law L xs) (368, lo, st, hs, rc, rs) Q = so_push (.inl (1)) 369 (368, lo, st, hs, rc, rs) (fun g => sa_w (tb_L_law L xs) g Q) Q := sa_un (tm_L_law L xs) rfl
set_option maxRecDepth 100000 in
theorem u_L_law_369 (L : Nat) (xs : Nat → Int32) (lo : List (Option sa_V)) (st : List sa_V) (hs : sa_H) (rc rs : Nat) (Q : sa_Q) : sa_w (tb_L_law L xs) (369, lo, st, hs, rc, rs) Q = so_bin (fun x y => x + y) 370 (369, lo, st, hs, rc, rs) (fun g => sa_w (tb_L_law L xs) g Q) Q := sa_un (tm_L_law L xs) rfl
set_option maxRecDepth 100000 in
theorem u_L_law_370 (L : Nat) (xs : Nat → Int32) (lo : List (Option sa_V)) (st : List sa_V) (hs : sa_H) (rc rs : Nat) (Q : sa_Q) : sa_w (tb_L_law L xs) (370, lo, st, hs, rc, rs) Q = so_sld L xs 371 (370, lo, st, hs, rc, rs) (fun g => sa_w (tb_L_law L xs) g Q) Q := sa_un (tm_L_law L xs) rfl
set_option maxRecDepth 100000 in
theorem u_L_law_371 (L : Nat) (xs : Nat → Int32) (lo : List (Option sa_V)) (st : List sa_V) (hs : sa_H) (rc rs : Nat) (Q : sa_Q) : sa_w (tb_L_law L xs) (371, lo, st, hs, rc, rs) Q = so_virt [(9, ct_X11_read)] 1 0 0 374 (371, lo, st, hs, rc, rs) (fun g => sa_w (tb_L_law L xs) g Q) Q := sa_un (tm_L_law L xs) rfl
set_option maxRecDepth 100000 in
theorem u_L_law_374 (L : Nat) (xs : Nat → Int32) (lo : List (Option sa_V)) (st : List sa_V) (hs : sa_H) (rc rs : Nat) (Q : sa_Q) : sa_w (tb_L_law L xs) (374, lo, st, hs, rc, rs) Q = so_cmp (fun x y => x = y) 535 377 (374, lo, st, hs, rc, rs) (fun g => sa_w (tb_L_law L xs) g Q) Q := sa_un (tm_L_law L xs) rfl
set_option maxRecDepth 100000 in
theorem u_L_law_377 (L : Nat) (xs : Nat → Int32) (lo : List (Option sa_V)) (st : List sa_V) (hs : sa_H) (rc rs : Nat) (Q : sa_Q) : sa_w (tb_L_law L xs) (377, lo, st, hs, rc, rs) Q = so_push (.inl (0)) 378 (377, lo, st, hs, rc, rs) (fun g => sa_w (tb_L_law L xs) g Q) Q := sa_un (tm_L_law L xs) rfl
set_option maxRecDepth 100000 in
theorem u_L_law_378 (L : Nat) (xs : Nat → Int32) (lo : List (Option sa_V)) (st : List sa_V) (hs : sa_H) (rc rs : Nat) (Q : sa_Q) : sa_w (tb_L_law L xs) (378, lo, st, hs, rc, rs) Q = so_one (378, lo, st, hs, rc, rs) (fun g => sa_w (tb_L_law L xs) g Q) Q := sa_un (tm_L_law L xs) rfl
set_option maxRecDepth 100000 in
theorem u_L_law_379 (L : Nat) (xs : Nat → Int32) (lo : List (Option sa_V)) (st : List sa_V) (hs : sa_H) (rc rs : Nat) (Q : sa_Q) : sa_w (tb_L_law L xs) (379, lo, st, hs, rc, rs) Q = so_aload 1 380 (379, lo, st, hs, rc, rs) (fun g => sa_w (tb_L_law L xs) g Q) Q := sa_un (tm_L_law L xs) rfl
set_option maxRecDepth 100000 in
theorem u_L_law_380 (L : Nat) (xs : Nat → Int32) (lo : List (Option sa_V)) (st : List sa_V) (hs : sa_H) (rc rs : Nat) (Q : sa_Q) : sa_w (tb_L_law L xs) (380, lo, st, hs, rc, rs) Q = so_virt [(8, ct_X10_place)] 0 0 0 383 (380, lo, st, hs, rc, rs) (fun g => sa_w (tb_L_law L xs) g Q) Q := sa_un (tm_L_law L xs) rfl
set_option maxRecDepth 100000 in
theorem u_L_law_383 (L : Nat) (xs : Nat → Int32) (lo : List (Option sa_V)) (st : List sa_V) (hs : sa_H) (rc rs : Nat) (Q : sa_Q) : sa_w (tb_L_law L xs) (383, lo, st, hs, rc, rs) Q = so_aload 2 384 (383, lo, st, hs, rc, rs) (fun g => sa_w (tb_L_law L xs) g Q) Q := sa_un (tm_L_law L xs) rfl
set_option maxRecDepth 100000 in
theorem u_L_law_384 (L : Nat) (xs : Nat → Int32) (lo : List (Option sa_V)) (st : List sa_V) (hs : sa_H) (rc rs : Nat) (Q : sa_Q) : sa_w (tb_L_law L xs) (384, lo, st, hs, rc, rs) Q = so_virt [(9, ct_X11_place)] 0 0 0 387 (384, lo, st, hs, rc, rs) (fun g => sa_w (tb_L_law L xs) g Q) Q := sa_un (tm_L_law L xs) rfl
set_option maxRecDepth 100000 in
theorem u_L_law_387 (L : Nat) (xs : Nat → Int32) (lo : List (Option sa_V)) (st : List sa_V) (hs : sa_H) (rc rs : Nat) (Q : sa_Q) : sa_w (tb_L_law L xs) (387, lo, st, hs, rc, rs) Q = so_cmp (fun x y => x = y) 535 390 (387, lo, st, hs, rc, rs) (fun g => sa_w (tb_L_law L xs) g Q) Q := sa_un (tm_L_law L xs) rfl
set_option maxRecDepth 100000 in
theorem u_L_law_390 (L : Nat) (xs : Nat → Int32) (lo : List (Option sa_V)) (st : List sa_V) (hs : sa_H) (rc rs : Nat) (Q : sa_Q) : sa_w (tb_L_law L xs) (390, lo, st, hs, rc, rs) Q = so_push (.inl (0)) 391 (390, lo, st, hs, rc, rs) (fun g => sa_w (tb_L_law L xs) g Q) Q := sa_un (tm_L_law L xs) rfl
set_option maxRecDepth 100000 in
theorem u_L_law_391 (L : Nat) (xs : Nat → Int32) (lo : List (Option sa_V)) (st : List sa_V) (hs : sa_H) (rc rs : Nat) (Q : sa_Q) : sa_w (tb_L_law L xs) (391, lo, st, hs, rc, rs) Q = so_one (391, lo, st, hs, rc, rs) (fun g => sa_w (tb_L_law L xs) g Q) Q := sa_un (tm_L_law L xs) rfl
set_option maxRecDepth 100000 in
theorem u_L_law_392 (L : Nat) (xs : Nat → Int32) (lo : List (Option sa_V)) (st : List sa_V) (hs : sa_H) (rc rs : Nat) (Q : sa_Q) : sa_w (tb_L_law L xs) (392, lo, st, hs, rc, rs) Q = so_aload 1 393 (392, lo, st, hs, rc, rs) (fun g => sa_w (tb_L_law L xs) g Q) Q := sa_un (tm_L_law L xs) rfl
set_option maxRecDepth 100000 in
theorem u_L_law_393 (L : Nat) (xs : Nat → Int32) (lo : List (Option sa_V)) (st : List sa_V) (hs : sa_H) (rc rs : Nat) (Q : sa_Q) : sa_w (tb_L_law L xs) (393, lo, st, hs, rc, rs) Q = so_virt [(8, ct_X10_entries)] 0 0 0 396 (393, lo, st, hs, rc, rs) (fun g => sa_w (tb_L_law L xs) g Q) Q := sa_un (tm_L_law L xs) rfl
set_option maxRecDepth 100000 in
theorem u_L_law_396 (L : Nat) (xs : Nat → Int32) (lo : List (Option sa_V)) (st : List sa_V) (hs : sa_H) (rc rs : Nat) (Q : sa_Q) : sa_w (tb_L_law L xs) (396, lo, st, hs, rc, rs) Q = so_aload 2 397 (396, lo, st, hs, rc, rs) (fun g => sa_w (tb_L_law L xs) g Q) Q := sa_un (tm_L_law L xs) rfl
set_option maxRecDepth 100000 in
theorem u_L_law_397 (L : Nat) (xs : Nat → Int32) (lo : List (Option sa_V)) (st : List sa_V) (hs : sa_H) (rc rs : Nat) (Q : sa_Q) : sa_w (tb_L_law L xs) (397, lo, st, hs, rc, rs) Q = so_virt [(9, ct_X11_entries)] 0 0 0 400 (397, lo, st, hs, rc, rs) (fun g => sa_w (tb_L_law L xs) g Q) Q := sa_un (tm_L_law L xs) rfl
set_option maxRecDepth 100000 in
theorem u_L_law_400 (L : Nat) (xs : Nat → Int32) (lo : List (Option sa_V)) (st : List sa_V) (hs : sa_H) (rc rs : Nat) (Q : sa_Q) : sa_w (tb_L_law L xs) (400, lo, st, hs, rc, rs) Q = so_cmp (fun x y => x = y) 535 403 (400, lo, st, hs, rc, rs) (fun g => sa_w (tb_L_law L xs) g Q) Q := sa_un (tm_L_law L xs) rfl
set_option maxRecDepth 100000 in
theorem u_L_law_403 (L : Nat) (xs : Nat → Int32) (lo : List (Option sa_V)) (st : List sa_V) (hs : sa_H) (rc rs : Nat) (Q : sa_Q) : sa_w (tb_L_law L xs) (403, lo, st, hs, rc, rs) Q = so_push (.inl (0)) 404 (403, lo, st, hs, rc, rs) (fun g => sa_w (tb_L_law L xs) g Q) Q := sa_un (tm_L_law L xs) rfl
set_option maxRecDepth 100000 in
theorem u_L_law_404 (L : Nat) (xs : Nat → Int32) (lo : List (Option sa_V)) (st : List sa_V) (hs : sa_H) (rc rs : Nat) (Q : sa_Q) : sa_w (tb_L_law L xs) (404, lo, st, hs, rc, rs) Q = so_one (404, lo, st, hs, rc, rs) (fun g => sa_w (tb_L_law L xs) g Q) Q := sa_un (tm_L_law L xs) rfl
set_option maxRecDepth 100000 in
theorem u_L_law_405 (L : Nat) (xs : Nat → Int32) (lo : List (Option sa_V)) (st : List sa_V) (hs : sa_H) (rc rs : Nat) (Q : sa_Q) : sa_w (tb_L_law L xs) (405, lo, st, hs, rc, rs) Q = so_aload 1 406 (405, lo, st, hs, rc, rs) (fun g => sa_w (tb_L_law L xs) g Q) Q := sa_un (tm_L_law L xs) rfl
set_option maxRecDepth 100000 in
theorem u_L_law_406 (L : Nat) (xs : Nat → Int32) (lo : List (Option sa_V)) (st : List sa_V) (hs : sa_H) (rc rs : Nat) (Q : sa_Q) : sa_w (tb_L_law L xs) (406, lo, st, hs, rc, rs) Q = so_aload 0 407 (406, lo, st, hs, rc, rs) (fun g => sa_w (tb_L_law L xs) g Q) Q := sa_un (tm_L_law L xs) rfl
set_option maxRecDepth 100000 in
theorem u_L_law_407 (L : Nat) (xs : Nat → Int32) (lo : List (Option sa_V)) (st : List sa_V) (hs : sa_H) (rc rs : Nat) (Q : sa_Q) : sa_w (tb_L_law L xs) (407, lo, st, hs, rc, rs) Q = so_iload 4 409 (407, lo, st, hs, rc, rs) (fun g => sa_w (tb_L_law L xs) g Q) Q := sa_un (tm_L_law L xs) rfl
set_option maxRecDepth 100000 in
theorem u_L_law_409 (L : Nat) (xs : Nat → Int32) (lo : List (Option sa_V)) (st : List sa_V) (hs : sa_H) (rc rs : Nat) (Q : sa_Q) : sa_w (tb_L_law L xs) (409, lo, st, hs, rc, rs) Q = so_push (.inl (1)) 410 (409, lo, st, hs, rc, rs) (fun g => sa_w (tb_L_law L xs) g Q) Q := sa_un (tm_L_law L xs) rfl
set_option maxRecDepth 100000 in
theorem u_L_law_410 (L : Nat) (xs : Nat → Int32) (lo : List (Option sa_V)) (st : List sa_V) (hs : sa_H) (rc rs : Nat) (Q : sa_Q) : sa_w (tb_L_law L xs) (410, lo, st, hs, rc, rs) Q = so_bin (fun x y => x + y) 411 (410, lo, st, hs, rc, rs) (fun g => sa_w (tb_L_law L xs) g Q) Q := sa_un (tm_L_law L xs) rfl
set_option maxRecDepth 100000 in
theorem u_L_law_411 (L : Nat) (xs : Nat → Int32) (lo : List (Option sa_V)) (st : List sa_V) (hs : sa_H) (rc rs : Nat) (Q : sa_Q) : sa_w (tb_L_law L xs) (411, lo, st, hs, rc, rs) Q = so_sld L xs 412 (411, lo, st, hs, rc, rs) (fun g => sa_w (tb_L_law L xs) g Q) Q := sa_un (tm_L_law L xs) rfl
set_option maxRecDepth 100000 in
theorem u_L_law_412 (L : Nat) (xs : Nat → Int32) (lo : List (Option sa_V)) (st : List sa_V) (hs : sa_H) (rc rs : Nat) (Q : sa_Q) : sa_w (tb_L_law L xs) (412, lo, st, hs, rc, rs) Q = so_aload 0 413 (412, lo, st, hs, rc, rs) (fun g => sa_w (tb_L_law L xs) g Q) Q := sa_un (tm_L_law L xs) rfl
set_option maxRecDepth 100000 in
theorem u_L_law_413 (L : Nat) (xs : Nat → Int32) (lo : List (Option sa_V)) (st : List sa_V) (hs : sa_H) (rc rs : Nat) (Q : sa_Q) : sa_w (tb_L_law L xs) (413, lo, st, hs, rc, rs) Q = so_iload 4 415 (413, lo, st, hs, rc, rs) (fun g => sa_w (tb_L_law L xs) g Q) Q := sa_un (tm_L_law L xs) rfl
set_option maxRecDepth 100000 in
theorem u_L_law_415 (L : Nat) (xs : Nat → Int32) (lo : List (Option sa_V)) (st : List sa_V) (hs : sa_H) (rc rs : Nat) (Q : sa_Q) : sa_w (tb_L_law L xs) (415, lo, st, hs, rc, rs) Q = so_push (.inl (2)) 416 (415, lo, st, hs, rc, rs) (fun g => sa_w (tb_L_law L xs) g Q) Q := sa_un (tm_L_law L xs) rfl
set_option maxRecDepth 100000 in
theorem u_L_law_416 (L : Nat) (xs : Nat → Int32) (lo : List (Option sa_V)) (st : List sa_V) (hs : sa_H) (rc rs : Nat) (Q : sa_Q) : sa_w (tb_L_law L xs) (416, lo, st, hs, rc, rs) Q = so_bin (fun x y => x + y) 417 (416, lo, st, hs, rc, rs) (fun g => sa_w (tb_L_law L xs) g Q) Q := sa_un (tm_L_law L xs) rfl
set_option maxRecDepth 100000 in
theorem u_L_law_417 (L : Nat) (xs : Nat → Int32) (lo : List (Option sa_V)) (st : List sa_V) (hs : sa_H) (rc rs : Nat) (Q : sa_Q) : sa_w (tb_L_law L xs) (417, lo, st, hs, rc, rs) Q = so_sld L xs 418 (417, lo, st, hs, rc, rs) (fun g => sa_w (tb_L_law L xs) g Q) Q := sa_un (tm_L_law L xs) rfl
set_option maxRecDepth 100000 in
theorem u_L_law_418 (L : Nat) (xs : Nat → Int32) (lo : List (Option sa_V)) (st : List sa_V) (hs : sa_H) (rc rs : Nat) (Q : sa_Q) : sa_w (tb_L_law L xs) (418, lo, st, hs, rc, rs) Q = so_aload 0 419 (418, lo, st, hs, rc, rs) (fun g => sa_w (tb_L_law L xs) g Q) Q := sa_un (tm_L_law L xs) rfl
set_option maxRecDepth 100000 in
theorem u_L_law_419 (L : Nat) (xs : Nat → Int32) (lo : List (Option sa_V)) (st : List sa_V) (hs : sa_H) (rc rs : Nat) (Q : sa_Q) : sa_w (tb_L_law L xs) (419, lo, st, hs, rc, rs) Q = so_iload 4 421 (419, lo, st, hs, rc, rs) (fun g => sa_w (tb_L_law L xs) g Q) Q := sa_un (tm_L_law L xs) rfl
set_option maxRecDepth 100000 in
theorem u_L_law_421 (L : Nat) (xs : Nat → Int32) (lo : List (Option sa_V)) (st : List sa_V) (hs : sa_H) (rc rs : Nat) (Q : sa_Q) : sa_w (tb_L_law L xs) (421, lo, st, hs, rc, rs) Q = so_push (.inl (3)) 422 (421, lo, st, hs, rc, rs) (fun g => sa_w (tb_L_law L xs) g Q) Q := sa_un (tm_L_law L xs) rfl
set_option maxRecDepth 100000 in
theorem u_L_law_422 (L : Nat) (xs : Nat → Int32) (lo : List (Option sa_V)) (st : List sa_V) (hs : sa_H) (rc rs : Nat) (Q : sa_Q) : sa_w (tb_L_law L xs) (422, lo, st, hs, rc, rs) Q = so_bin (fun x y => x + y) 423 (422, lo, st, hs, rc, rs) (fun g => sa_w (tb_L_law L xs) g Q) Q := sa_un (tm_L_law L xs) rfl
set_option maxRecDepth 100000 in
theorem u_L_law_423 (L : Nat) (xs : Nat → Int32) (lo : List (Option sa_V)) (st : List sa_V) (hs : sa_H) (rc rs : Nat) (Q : sa_Q) : sa_w (tb_L_law L xs) (423, lo, st, hs, rc, rs) Q = so_sld L xs 424 (423, lo, st, hs, rc, rs) (fun g => sa_w (tb_L_law L xs) g Q) Q := sa_un (tm_L_law L xs) rfl
set_option maxRecDepth 100000 in
theorem u_L_law_424 (L : Nat) (xs : Nat → Int32) (lo : List (Option sa_V)) (st : List sa_V) (hs : sa_H) (rc rs : Nat) (Q : sa_Q) : sa_w (tb_L_law L xs) (424, lo, st, hs, rc, rs) Q = so_virt [(8, ct_X10_told)] 3 0 0 427 (424, lo, st, hs, rc, rs) (fun g => sa_w (tb_L_law L xs) g Q) Q := sa_un (tm_L_law L xs) rfl
set_option maxRecDepth 100000 in
theorem u_L_law_427 (L : Nat) (xs : Nat → Int32) (lo : List (Option sa_V)) (st : List sa_V) (hs : sa_H) (rc rs : Nat) (Q : sa_Q) : sa_w (tb_L_law L xs) (427, lo, st, hs, rc, rs) Q = so_aload 2 428 (427, lo, st, hs, rc, rs) (fun g => sa_w (tb_L_law L xs) g Q) Q := sa_un (tm_L_law L xs) rfl
set_option maxRecDepth 100000 in
theorem u_L_law_428 (L : Nat) (xs : Nat → Int32) (lo : List (Option sa_V)) (st : List sa_V) (hs : sa_H) (rc rs : Nat) (Q : sa_Q) : sa_w (tb_L_law L xs) (428, lo, st, hs, rc, rs) Q = so_aload 0 429 (428, lo, st, hs, rc, rs) (fun g => sa_w (tb_L_law L xs) g Q) Q := sa_un (tm_L_law L xs) rfl
set_option maxRecDepth 100000 in
theorem u_L_law_429 (L : Nat) (xs : Nat → Int32) (lo : List (Option sa_V)) (st : List sa_V) (hs : sa_H) (rc rs : Nat) (Q : sa_Q) : sa_w (tb_L_law L xs) (429, lo, st, hs, rc, rs) Q = so_iload 4 431 (429, lo, st, hs, rc, rs) (fun g => sa_w (tb_L_law L xs) g Q) Q := sa_un (tm_L_law L xs) rfl
set_option maxRecDepth 100000 in
theorem u_L_law_431 (L : Nat) (xs : Nat → Int32) (lo : List (Option sa_V)) (st : List sa_V) (hs : sa_H) (rc rs : Nat) (Q : sa_Q) : sa_w (tb_L_law L xs) (431, lo, st, hs, rc, rs) Q = so_push (.inl (1)) 432 (431, lo, st, hs, rc, rs) (fun g => sa_w (tb_L_law L xs) g Q) Q := sa_un (tm_L_law L xs) rfl
set_option maxRecDepth 100000 in
theorem u_L_law_432 (L : Nat) (xs : Nat → Int32) (lo : List (Option sa_V)) (st : List sa_V) (hs : sa_H) (rc rs : Nat) (Q : sa_Q) : sa_w (tb_L_law L xs) (432, lo, st, hs, rc, rs) Q = so_bin (fun x y => x + y) 433 (432, lo, st, hs, rc, rs) (fun g => sa_w (tb_L_law L xs) g Q) Q := sa_un (tm_L_law L xs) rfl
set_option maxRecDepth 100000 in
theorem u_L_law_433 (L : Nat) (xs : Nat → Int32) (lo : List (Option sa_V)) (st : List sa_V) (hs : sa_H) (rc rs : Nat) (Q : sa_Q) : sa_w (tb_L_law L xs) (433, lo, st, hs, rc, rs) Q = so_sld L xs 434 (433, lo, st, hs, rc, rs) (fun g => sa_w (tb_L_law L xs) g Q) Q := sa_un (tm_L_law L xs) rfl
set_option maxRecDepth 100000 in
theorem u_L_law_434 (L : Nat) (xs : Nat → Int32) (lo : List (Option sa_V)) (st : List sa_V) (hs : sa_H) (rc rs : Nat) (Q : sa_Q) : sa_w (tb_L_law L xs) (434, lo, st, hs, rc, rs) Q = so_aload 0 435 (434, lo, st, hs, rc, rs) (fun g => sa_w (tb_L_law L xs) g Q) Q := sa_un (tm_L_law L xs) rfl
set_option maxRecDepth 100000 in
theorem u_L_law_435 (L : Nat) (xs : Nat → Int32) (lo : List (Option sa_V)) (st : List sa_V) (hs : sa_H) (rc rs : Nat) (Q : sa_Q) : sa_w (tb_L_law L xs) (435, lo, st, hs, rc, rs) Q = so_iload 4 437 (435, lo, st, hs, rc, rs) (fun g => sa_w (tb_L_law L xs) g Q) Q := sa_un (tm_L_law L xs) rfl
set_option maxRecDepth 100000 in
theorem u_L_law_437 (L : Nat) (xs : Nat → Int32) (lo : List (Option sa_V)) (st : List sa_V) (hs : sa_H) (rc rs : Nat) (Q : sa_Q) : sa_w (tb_L_law L xs) (437, lo, st, hs, rc, rs) Q = so_push (.inl (2)) 438 (437, lo, st, hs, rc, rs) (fun g => sa_w (tb_L_law L xs) g Q) Q := sa_un (tm_L_law L xs) rfl
set_option maxRecDepth 100000 in
theorem u_L_law_438 (L : Nat) (xs : Nat → Int32) (lo : List (Option sa_V)) (st : List sa_V) (hs : sa_H) (rc rs : Nat) (Q : sa_Q) : sa_w (tb_L_law L xs) (438, lo, st, hs, rc, rs) Q = so_bin (fun x y => x + y) 439 (438, lo, st, hs, rc, rs) (fun g => sa_w (tb_L_law L xs) g Q) Q := sa_un (tm_L_law L xs) rfl
set_option maxRecDepth 100000 in
theorem u_L_law_439 (L : Nat) (xs : Nat → Int32) (lo : List (Option sa_V)) (st : List sa_V) (hs : sa_H) (rc rs : Nat) (Q : sa_Q) : sa_w (tb_L_law L xs) (439, lo, st, hs, rc, rs) Q = so_sld L xs 440 (439, lo, st, hs, rc, rs) (fun g => sa_w (tb_L_law L xs) g Q) Q := sa_un (tm_L_law L xs) rfl
set_option maxRecDepth 100000 in
theorem u_L_law_440 (L : Nat) (xs : Nat → Int32) (lo : List (Option sa_V)) (st : List sa_V) (hs : sa_H) (rc rs : Nat) (Q : sa_Q) : sa_w (tb_L_law L xs) (440, lo, st, hs, rc, rs) Q = so_aload 0 441 (440, lo, st, hs, rc, rs) (fun g => sa_w (tb_L_law L xs) g Q) Q := sa_un (tm_L_law L xs) rfl
set_option maxRecDepth 100000 in
theorem u_L_law_441 (L : Nat) (xs : Nat → Int32) (lo : List (Option sa_V)) (st : List sa_V) (hs : sa_H) (rc rs : Nat) (Q : sa_Q) : sa_w (tb_L_law L xs) (441, lo, st, hs, rc, rs) Q = so_iload 4 443 (441, lo, st, hs, rc, rs) (fun g => sa_w (tb_L_law L xs) g Q) Q := sa_un (tm_L_law L xs) rfl
set_option maxRecDepth 100000 in
theorem u_L_law_443 (L : Nat) (xs : Nat → Int32) (lo : List (Option sa_V)) (st : List sa_V) (hs : sa_H) (rc rs : Nat) (Q : sa_Q) : sa_w (tb_L_law L xs) (443, lo, st, hs, rc, rs) Q = so_push (.inl (3)) 444 (443, lo, st, hs, rc, rs) (fun g => sa_w (tb_L_law L xs) g Q) Q := sa_un (tm_L_law L xs) rfl
set_option maxRecDepth 100000 in
theorem u_L_law_444 (L : Nat) (xs : Nat → Int32) (lo : List (Option sa_V)) (st : List sa_V) (hs : sa_H) (rc rs : Nat) (Q : sa_Q) : sa_w (tb_L_law L xs) (444, lo, st, hs, rc, rs) Q = so_bin (fun x y => x + y) 445 (444, lo, st, hs, rc, rs) (fun g => sa_w (tb_L_law L xs) g Q) Q := sa_un (tm_L_law L xs) rfl
set_option maxRecDepth 100000 in
theorem u_L_law_445 (L : Nat) (xs : Nat → Int32) (lo : List (Option sa_V)) (st : List sa_V) (hs : sa_H) (rc rs : Nat) (Q : sa_Q) : sa_w (tb_L_law L xs) (445, lo, st, hs, rc, rs) Q = so_sld L xs 446 (445, lo, st, hs, rc, rs) (fun g => sa_w (tb_L_law L xs) g Q) Q := sa_un (tm_L_law L xs) rfl
set_option maxRecDepth 100000 in
theorem u_L_law_446 (L : Nat) (xs : Nat → Int32) (lo : List (Option sa_V)) (st : List sa_V) (hs : sa_H) (rc rs : Nat) (Q : sa_Q) : sa_w (tb_L_law L xs) (446, lo, st, hs, rc, rs) Q = so_virt [(9, ct_X11_told)] 3 0 0 449 (446, lo, st, hs, rc, rs) (fun g => sa_w (tb_L_law L xs) g Q) Q := sa_un (tm_L_law L xs) rfl
set_option maxRecDepth 100000 in
theorem u_L_law_449 (L : Nat) (xs : Nat → Int32) (lo : List (Option sa_V)) (st : List sa_V) (hs : sa_H) (rc rs : Nat) (Q : sa_Q) : sa_w (tb_L_law L xs) (449, lo, st, hs, rc, rs) Q = so_cmp (fun x y => x = y) 535 452 (449, lo, st, hs, rc, rs) (fun g => sa_w (tb_L_law L xs) g Q) Q := sa_un (tm_L_law L xs) rfl
set_option maxRecDepth 100000 in
theorem u_L_law_452 (L : Nat) (xs : Nat → Int32) (lo : List (Option sa_V)) (st : List sa_V) (hs : sa_H) (rc rs : Nat) (Q : sa_Q) : sa_w (tb_L_law L xs) (452, lo, st, hs, rc, rs) Q = so_push (.inl (0)) 453 (452, lo, st, hs, rc, rs) (fun g => sa_w (tb_L_law L xs) g Q) Q := sa_un (tm_L_law L xs) rfl
set_option maxRecDepth 100000 in
theorem u_L_law_453 (L : Nat) (xs : Nat → Int32) (lo : List (Option sa_V)) (st : List sa_V) (hs : sa_H) (rc rs : Nat) (Q : sa_Q) : sa_w (tb_L_law L xs) (453, lo, st, hs, rc, rs) Q = so_one (453, lo, st, hs, rc, rs) (fun g => sa_w (tb_L_law L xs) g Q) Q := sa_un (tm_L_law L xs) rfl
set_option maxRecDepth 100000 in
theorem u_L_law_454 (L : Nat) (xs : Nat → Int32) (lo : List (Option sa_V)) (st : List sa_V) (hs : sa_H) (rc rs : Nat) (Q : sa_Q) : sa_w (tb_L_law L xs) (454, lo, st, hs, rc, rs) Q = so_aload 1 455 (454, lo, st, hs, rc, rs) (fun g => sa_w (tb_L_law L xs) g Q) Q := sa_un (tm_L_law L xs) rfl
set_option maxRecDepth 100000 in
theorem u_L_law_455 (L : Nat) (xs : Nat → Int32) (lo : List (Option sa_V)) (st : List sa_V) (hs : sa_H) (rc rs : Nat) (Q : sa_Q) : sa_w (tb_L_law L xs) (455, lo, st, hs, rc, rs) Q = so_aload 0 456 (455, lo, st, hs, rc, rs) (fun g => sa_w (tb_L_law L xs) g Q) Q := sa_un (tm_L_law L xs) rfl
set_option maxRecDepth 100000 in
theorem u_L_law_456 (L : Nat) (xs : Nat → Int32) (lo : List (Option sa_V)) (st : List sa_V) (hs : sa_H) (rc rs : Nat) (Q : sa_Q) : sa_w (tb_L_law L xs) (456, lo, st, hs, rc, rs) Q = so_iload 4 458 (456, lo, st, hs, rc, rs) (fun g => sa_w (tb_L_law L xs) g Q) Q := sa_un (tm_L_law L xs) rfl
set_option maxRecDepth 100000 in
theorem u_L_law_458 (L : Nat) (xs : Nat → Int32) (lo : List (Option sa_V)) (st : List sa_V) (hs : sa_H) (rc rs : Nat) (Q : sa_Q) : sa_w (tb_L_law L xs) (458, lo, st, hs, rc, rs) Q = so_push (.inl (1)) 459 (458, lo, st, hs, rc, rs) (fun g => sa_w (tb_L_law L xs) g Q) Q := sa_un (tm_L_law L xs) rfl
set_option maxRecDepth 100000 in
theorem u_L_law_459 (L : Nat) (xs : Nat → Int32) (lo : List (Option sa_V)) (st : List sa_V) (hs : sa_H) (rc rs : Nat) (Q : sa_Q) : sa_w (tb_L_law L xs) (459, lo, st, hs, rc, rs) Q = so_bin (fun x y => x + y) 460 (459, lo, st, hs, rc, rs) (fun g => sa_w (tb_L_law L xs) g Q) Q := sa_un (tm_L_law L xs) rfl
set_option maxRecDepth 100000 in
theorem u_L_law_460 (L : Nat) (xs : Nat → Int32) (lo : List (Option sa_V)) (st : List sa_V) (hs : sa_H) (rc rs : Nat) (Q : sa_Q) : sa_w (tb_L_law L xs) (460, lo, st, hs, rc, rs) Q = so_sld L xs 461 (460, lo, st, hs, rc, rs) (fun g => sa_w (tb_L_law L xs) g Q) Q := sa_un (tm_L_law L xs) rfl
set_option maxRecDepth 100000 in
theorem u_L_law_461 (L : Nat) (xs : Nat → Int32) (lo : List (Option sa_V)) (st : List sa_V) (hs : sa_H) (rc rs : Nat) (Q : sa_Q) : sa_w (tb_L_law L xs) (461, lo, st, hs, rc, rs) Q = so_aload 0 462 (461, lo, st, hs, rc, rs) (fun g => sa_w (tb_L_law L xs) g Q) Q := sa_un (tm_L_law L xs) rfl
set_option maxRecDepth 100000 in
theorem u_L_law_462 (L : Nat) (xs : Nat → Int32) (lo : List (Option sa_V)) (st : List sa_V) (hs : sa_H) (rc rs : Nat) (Q : sa_Q) : sa_w (tb_L_law L xs) (462, lo, st, hs, rc, rs) Q = so_iload 4 464 (462, lo, st, hs, rc, rs) (fun g => sa_w (tb_L_law L xs) g Q) Q := sa_un (tm_L_law L xs) rfl
set_option maxRecDepth 100000 in
theorem u_L_law_464 (L : Nat) (xs : Nat → Int32) (lo : List (Option sa_V)) (st : List sa_V) (hs : sa_H) (rc rs : Nat) (Q : sa_Q) : sa_w (tb_L_law L xs) (464, lo, st, hs, rc, rs) Q = so_push (.inl (2)) 465 (464, lo, st, hs, rc, rs) (fun g => sa_w (tb_L_law L xs) g Q) Q := sa_un (tm_L_law L xs) rfl
set_option maxRecDepth 100000 in
theorem u_L_law_465 (L : Nat) (xs : Nat → Int32) (lo : List (Option sa_V)) (st : List sa_V) (hs : sa_H) (rc rs : Nat) (Q : sa_Q) : sa_w (tb_L_law L xs) (465, lo, st, hs, rc, rs) Q = so_bin (fun x y => x + y) 466 (465, lo, st, hs, rc, rs) (fun g => sa_w (tb_L_law L xs) g Q) Q := sa_un (tm_L_law L xs) rfl
set_option maxRecDepth 100000 in
theorem u_L_law_466 (L : Nat) (xs : Nat → Int32) (lo : List (Option sa_V)) (st : List sa_V) (hs : sa_H) (rc rs : Nat) (Q : sa_Q) : sa_w (tb_L_law L xs) (466, lo, st, hs, rc, rs) Q = so_sld L xs 467 (466, lo, st, hs, rc, rs) (fun g => sa_w (tb_L_law L xs) g Q) Q := sa_un (tm_L_law L xs) rfl
set_option maxRecDepth 100000 in
theorem u_L_law_467 (L : Nat) (xs : Nat → Int32) (lo : List (Option sa_V)) (st : List sa_V) (hs : sa_H) (rc rs : Nat) (Q : sa_Q) : sa_w (tb_L_law L xs) (467, lo, st, hs, rc, rs) Q = so_aload 3 468 (467, lo, st, hs, rc, rs) (fun g => sa_w (tb_L_law L xs) g Q) Q := sa_un (tm_L_law L xs) rfl
set_option maxRecDepth 100000 in
theorem u_L_law_468 (L : Nat) (xs : Nat → Int32) (lo : List (Option sa_V)) (st : List sa_V) (hs : sa_H) (rc rs : Nat) (Q : sa_Q) : sa_w (tb_L_law L xs) (468, lo, st, hs, rc, rs) Q = so_lgot 471 (468, lo, st, hs, rc, rs) (fun g => sa_w (tb_L_law L xs) g Q) Q := sa_un (tm_L_law L xs) rfl
set_option maxRecDepth 100000 in
theorem u_L_law_471 (L : Nat) (xs : Nat → Int32) (lo : List (Option sa_V)) (st : List sa_V) (hs : sa_H) (rc rs : Nat) (Q : sa_Q) : sa_w (tb_L_law L xs) (471, lo, st, hs, rc, rs) Q = so_istore 5 473 (471, lo, st, hs, rc, rs) (fun g => sa_w (tb_L_law L xs) g Q) Q := sa_un (tm_L_law L xs) rfl
set_option maxRecDepth 100000 in
theorem u_L_law_473 (L : Nat) (xs : Nat → Int32) (lo : List (Option sa_V)) (st : List sa_V) (hs : sa_H) (rc rs : Nat) (Q : sa_Q) : sa_w (tb_L_law L xs) (473, lo, st, hs, rc, rs) Q = so_aload 2 474 (473, lo, st, hs, rc, rs) (fun g => sa_w (tb_L_law L xs) g Q) Q := sa_un (tm_L_law L xs) rfl
set_option maxRecDepth 100000 in
theorem u_L_law_474 (L : Nat) (xs : Nat → Int32) (lo : List (Option sa_V)) (st : List sa_V) (hs : sa_H) (rc rs : Nat) (Q : sa_Q) : sa_w (tb_L_law L xs) (474, lo, st, hs, rc, rs) Q = so_aload 0 475 (474, lo, st, hs, rc, rs) (fun g => sa_w (tb_L_law L xs) g Q) Q := sa_un (tm_L_law L xs) rfl
set_option maxRecDepth 100000 in
theorem u_L_law_475 (L : Nat) (xs : Nat → Int32) (lo : List (Option sa_V)) (st : List sa_V) (hs : sa_H) (rc rs : Nat) (Q : sa_Q) : sa_w (tb_L_law L xs) (475, lo, st, hs, rc, rs) Q = so_iload 4 477 (475, lo, st, hs, rc, rs) (fun g => sa_w (tb_L_law L xs) g Q) Q := sa_un (tm_L_law L xs) rfl
set_option maxRecDepth 100000 in
theorem u_L_law_477 (L : Nat) (xs : Nat → Int32) (lo : List (Option sa_V)) (st : List sa_V) (hs : sa_H) (rc rs : Nat) (Q : sa_Q) : sa_w (tb_L_law L xs) (477, lo, st, hs, rc, rs) Q = so_push (.inl (1)) 478 (477, lo, st, hs, rc, rs) (fun g => sa_w (tb_L_law L xs) g Q) Q := sa_un (tm_L_law L xs) rfl
set_option maxRecDepth 100000 in
theorem u_L_law_478 (L : Nat) (xs : Nat → Int32) (lo : List (Option sa_V)) (st : List sa_V) (hs : sa_H) (rc rs : Nat) (Q : sa_Q) : sa_w (tb_L_law L xs) (478, lo, st, hs, rc, rs) Q = so_bin (fun x y => x + y) 479 (478, lo, st, hs, rc, rs) (fun g => sa_w (tb_L_law L xs) g Q) Q := sa_un (tm_L_law L xs) rfl
set_option maxRecDepth 100000 in
theorem u_L_law_479 (L : Nat) (xs : Nat → Int32) (lo : List (Option sa_V)) (st : List sa_V) (hs : sa_H) (rc rs : Nat) (Q : sa_Q) : sa_w (tb_L_law L xs) (479, lo, st, hs, rc, rs) Q = so_sld L xs 480 (479, lo, st, hs, rc, rs) (fun g => sa_w (tb_L_law L xs) g Q) Q := sa_un (tm_L_law L xs) rfl
set_option maxRecDepth 100000 in
theorem u_L_law_480 (L : Nat) (xs : Nat → Int32) (lo : List (Option sa_V)) (st : List sa_V) (hs : sa_H) (rc rs : Nat) (Q : sa_Q) : sa_w (tb_L_law L xs) (480, lo, st, hs, rc, rs) Q = so_aload 0 481 (480, lo, st, hs, rc, rs) (fun g => sa_w (tb_L_law L xs) g Q) Q := sa_un (tm_L_law L xs) rfl
set_option maxRecDepth 100000 in
theorem u_L_law_481 (L : Nat) (xs : Nat → Int32) (lo : List (Option sa_V)) (st : List sa_V) (hs : sa_H) (rc rs : Nat) (Q : sa_Q) : sa_w (tb_L_law L xs) (481, lo, st, hs, rc, rs) Q = so_iload 4 483 (481, lo, st, hs, rc, rs) (fun g => sa_w (tb_L_law L xs) g Q) Q := sa_un (tm_L_law L xs) rfl
set_option maxRecDepth 100000 in
theorem u_L_law_483 (L : Nat) (xs : Nat → Int32) (lo : List (Option sa_V)) (st : List sa_V) (hs : sa_H) (rc rs : Nat) (Q : sa_Q) : sa_w (tb_L_law L xs) (483, lo, st, hs, rc, rs) Q = so_push (.inl (2)) 484 (483, lo, st, hs, rc, rs) (fun g => sa_w (tb_L_law L xs) g Q) Q := sa_un (tm_L_law L xs) rfl
set_option maxRecDepth 100000 in
theorem u_L_law_484 (L : Nat) (xs : Nat → Int32) (lo : List (Option sa_V)) (st : List sa_V) (hs : sa_H) (rc rs : Nat) (Q : sa_Q) : sa_w (tb_L_law L xs) (484, lo, st, hs, rc, rs) Q = so_bin (fun x y => x + y) 485 (484, lo, st, hs, rc, rs) (fun g => sa_w (tb_L_law L xs) g Q) Q := sa_un (tm_L_law L xs) rfl
set_option maxRecDepth 100000 in
theorem u_L_law_485 (L : Nat) (xs : Nat → Int32) (lo : List (Option sa_V)) (st : List sa_V) (hs : sa_H) (rc rs : Nat) (Q : sa_Q) : sa_w (tb_L_law L xs) (485, lo, st, hs, rc, rs) Q = so_sld L xs 486 (485, lo, st, hs, rc, rs) (fun g => sa_w (tb_L_law L xs) g Q) Q := sa_un (tm_L_law L xs) rfl
set_option maxRecDepth 100000 in
theorem u_L_law_486 (L : Nat) (xs : Nat → Int32) (lo : List (Option sa_V)) (st : List sa_V) (hs : sa_H) (rc rs : Nat) (Q : sa_Q) : sa_w (tb_L_law L xs) (486, lo, st, hs, rc, rs) Q = so_virt [(9, ct_X11_got)] 2 0 0 489 (486, lo, st, hs, rc, rs) (fun g => sa_w (tb_L_law L xs) g Q) Q := sa_un (tm_L_law L xs) rfl
set_option maxRecDepth 100000 in
theorem u_L_law_489 (L : Nat) (xs : Nat → Int32) (lo : List (Option sa_V)) (st : List sa_V) (hs : sa_H) (rc rs : Nat) (Q : sa_Q) : sa_w (tb_L_law L xs) (489, lo, st, hs, rc, rs) Q = so_istore 6 491 (489, lo, st, hs, rc, rs) (fun g => sa_w (tb_L_law L xs) g Q) Q := sa_un (tm_L_law L xs) rfl
set_option maxRecDepth 100000 in
theorem u_L_law_491 (L : Nat) (xs : Nat → Int32) (lo : List (Option sa_V)) (st : List sa_V) (hs : sa_H) (rc rs : Nat) (Q : sa_Q) : sa_w (tb_L_law L xs) (491, lo, st, hs, rc, rs) Q = so_aload 2 492 (491, lo, st, hs, rc, rs) (fun g => sa_w (tb_L_law L xs) g Q) Q := sa_un (tm_L_law L xs) rfl
set_option maxRecDepth 100000 in
theorem u_L_law_492 (L : Nat) (xs : Nat → Int32) (lo : List (Option sa_V)) (st : List sa_V) (hs : sa_H) (rc rs : Nat) (Q : sa_Q) : sa_w (tb_L_law L xs) (492, lo, st, hs, rc, rs) Q = so_virt [(9, ct_X11_thrown)] 0 0 0 495 (492, lo, st, hs, rc, rs) (fun g => sa_w (tb_L_law L xs) g Q) Q := sa_un (tm_L_law L xs) rfl
set_option maxRecDepth 100000 in
theorem u_L_law_495 (L : Nat) (xs : Nat → Int32) (lo : List (Option sa_V)) (st : List sa_V) (hs : sa_H) (rc rs : Nat) (Q : sa_Q) : sa_w (tb_L_law L xs) (495, lo, st, hs, rc, rs) Q = so_iload 5 497 (495, lo, st, hs, rc, rs) (fun g => sa_w (tb_L_law L xs) g Q) Q := sa_un (tm_L_law L xs) rfl
set_option maxRecDepth 100000 in
theorem u_L_law_497 (L : Nat) (xs : Nat → Int32) (lo : List (Option sa_V)) (st : List sa_V) (hs : sa_H) (rc rs : Nat) (Q : sa_Q) : sa_w (tb_L_law L xs) (497, lo, st, hs, rc, rs) Q = so_cmp (fun x y => x = y) 502 500 (497, lo, st, hs, rc, rs) (fun g => sa_w (tb_L_law L xs) g Q) Q := sa_un (tm_L_law L xs) rfl
set_option maxRecDepth 100000 in
theorem u_L_law_500 (L : Nat) (xs : Nat → Int32) (lo : List (Option sa_V)) (st : List sa_V) (hs : sa_H) (rc rs : Nat) (Q : sa_Q) : sa_w (tb_L_law L xs) (500, lo, st, hs, rc, rs) Q = so_push (.inl (0)) 501 (500, lo, st, hs, rc, rs) (fun g => sa_w (tb_L_law L xs) g Q) Q := sa_un (tm_L_law L xs) rfl
set_option maxRecDepth 100000 in
theorem u_L_law_501 (L : Nat) (xs : Nat → Int32) (lo : List (Option sa_V)) (st : List sa_V) (hs : sa_H) (rc rs : Nat) (Q : sa_Q) : sa_w (tb_L_law L xs) (501, lo, st, hs, rc, rs) Q = so_one (501, lo, st, hs, rc, rs) (fun g => sa_w (tb_L_law L xs) g Q) Q := sa_un (tm_L_law L xs) rfl
set_option maxRecDepth 100000 in
theorem u_L_law_502 (L : Nat) (xs : Nat → Int32) (lo : List (Option sa_V)) (st : List sa_V) (hs : sa_H) (rc rs : Nat) (Q : sa_Q) : sa_w (tb_L_law L xs) (502, lo, st, hs, rc, rs) Q = so_iload 5 504 (502, lo, st, hs, rc, rs) (fun g => sa_w (tb_L_law L xs) g Q) Q := sa_un (tm_L_law L xs) rfl
set_option maxRecDepth 100000 in
theorem u_L_law_504 (L : Nat) (xs : Nat → Int32) (lo : List (Option sa_V)) (st : List sa_V) (hs : sa_H) (rc rs : Nat) (Q : sa_Q) : sa_w (tb_L_law L xs) (504, lo, st, hs, rc, rs) Q = so_if (fun x => x = 0) 507 519 (504, lo, st, hs, rc, rs) (fun g => sa_w (tb_L_law L xs) g Q) Q := sa_un (tm_L_law L xs) rfl
set_option maxRecDepth 100000 in
theorem u_L_law_507 (L : Nat) (xs : Nat → Int32) (lo : List (Option sa_V)) (st : List sa_V) (hs : sa_H) (rc rs : Nat) (Q : sa_Q) : sa_w (tb_L_law L xs) (507, lo, st, hs, rc, rs) Q = so_lcm 519 517 (507, lo, st, hs, rc, rs) (fun g => sa_w (tb_L_law L xs) g Q) Q := sa_un (tm_L_law L xs) rfl
set_option maxRecDepth 100000 in
theorem u_L_law_517 (L : Nat) (xs : Nat → Int32) (lo : List (Option sa_V)) (st : List sa_V) (hs : sa_H) (rc rs : Nat) (Q : sa_Q) : sa_w (tb_L_law L xs) (517, lo, st, hs, rc, rs) Q = so_push (.inl (0)) 518 (517, lo, st, hs, rc, rs) (fun g => sa_w (tb_L_law L xs) g Q) Q := sa_un (tm_L_law L xs) rfl
set_option maxRecDepth 100000 in
theorem u_L_law_518 (L : Nat) (xs : Nat → Int32) (lo : List (Option sa_V)) (st : List sa_V) (hs : sa_H) (rc rs : Nat) (Q : sa_Q) : sa_w (tb_L_law L xs) (518, lo, st, hs, rc, rs) Q = so_one (518, lo, st, hs, rc, rs) (fun g => sa_w (tb_L_law L xs) g Q) Q := sa_un (tm_L_law L xs) rfl
set_option maxRecDepth 100000 in
theorem u_L_law_519 (L : Nat) (xs : Nat → Int32) (lo : List (Option sa_V)) (st : List sa_V) (hs : sa_H) (rc rs : Nat) (Q : sa_Q) : sa_w (tb_L_law L xs) (519, lo, st, hs, rc, rs) Q = so_goto 535 (519, lo, st, hs, rc, rs) (fun g => sa_w (tb_L_law L xs) g Q) Q := sa_un (tm_L_law L xs) rfl
set_option maxRecDepth 100000 in
theorem u_L_law_522 (L : Nat) (xs : Nat → Int32) (lo : List (Option sa_V)) (st : List sa_V) (hs : sa_H) (rc rs : Nat) (Q : sa_Q) : sa_w (tb_L_law L xs) (522, lo, st, hs, rc, rs) Q = so_aload 1 523 (522, lo, st, hs, rc, rs) (fun g => sa_w (tb_L_law L xs) g Q) Q := sa_un (tm_L_law L xs) rfl
set_option maxRecDepth 100000 in
theorem u_L_law_523 (L : Nat) (xs : Nat → Int32) (lo : List (Option sa_V)) (st : List sa_V) (hs : sa_H) (rc rs : Nat) (Q : sa_Q) : sa_w (tb_L_law L xs) (523, lo, st, hs, rc, rs) Q = so_virt [(8, ct_X10_same)] 0 0 0 526 (523, lo, st, hs, rc, rs) (fun g => sa_w (tb_L_law L xs) g Q) Q := sa_un (tm_L_law L xs) rfl
set_option maxRecDepth 100000 in
theorem u_L_law_526 (L : Nat) (xs : Nat → Int32) (lo : List (Option sa_V)) (st : List sa_V) (hs : sa_H) (rc rs : Nat) (Q : sa_Q) : sa_w (tb_L_law L xs) (526, lo, st, hs, rc, rs) Q = so_aload 2 527 (526, lo, st, hs, rc, rs) (fun g => sa_w (tb_L_law L xs) g Q) Q := sa_un (tm_L_law L xs) rfl
set_option maxRecDepth 100000 in
theorem u_L_law_527 (L : Nat) (xs : Nat → Int32) (lo : List (Option sa_V)) (st : List sa_V) (hs : sa_H) (rc rs : Nat) (Q : sa_Q) : sa_w (tb_L_law L xs) (527, lo, st, hs, rc, rs) Q = so_virt [(9, ct_X11_same)] 0 0 0 530 (527, lo, st, hs, rc, rs) (fun g => sa_w (tb_L_law L xs) g Q) Q := sa_un (tm_L_law L xs) rfl
set_option maxRecDepth 100000 in
theorem u_L_law_530 (L : Nat) (xs : Nat → Int32) (lo : List (Option sa_V)) (st : List sa_V) (hs : sa_H) (rc rs : Nat) (Q : sa_Q) : sa_w (tb_L_law L xs) (530, lo, st, hs, rc, rs) Q = so_cmp (fun x y => x = y) 535 533 (530, lo, st, hs, rc, rs) (fun g => sa_w (tb_L_law L xs) g Q) Q := sa_un (tm_L_law L xs) rfl
set_option maxRecDepth 100000 in
theorem u_L_law_533 (L : Nat) (xs : Nat → Int32) (lo : List (Option sa_V)) (st : List sa_V) (hs : sa_H) (rc rs : Nat) (Q : sa_Q) : sa_w (tb_L_law L xs) (533, lo, st, hs, rc, rs) Q = so_push (.inl (0)) 534 (533, lo, st, hs, rc, rs) (fun g => sa_w (tb_L_law L xs) g Q) Q := sa_un (tm_L_law L xs) rfl
set_option maxRecDepth 100000 in
theorem u_L_law_534 (L : Nat) (xs : Nat → Int32) (lo : List (Option sa_V)) (st : List sa_V) (hs : sa_H) (rc rs : Nat) (Q : sa_Q) : sa_w (tb_L_law L xs) (534, lo, st, hs, rc, rs) Q = so_one (534, lo, st, hs, rc, rs) (fun g => sa_w (tb_L_law L xs) g Q) Q := sa_un (tm_L_law L xs) rfl
set_option maxRecDepth 100000 in
theorem u_L_law_535 (L : Nat) (xs : Nat → Int32) (lo : List (Option sa_V)) (st : List sa_V) (hs : sa_H) (rc rs : Nat) (Q : sa_Q) : sa_w (tb_L_law L xs) (535, lo, st, hs, rc, rs) Q = so_iinc 4 (4) 538 (535, lo, st, hs, rc, rs) (fun g => sa_w (tb_L_law L xs) g Q) Q := sa_un (tm_L_law L xs) rfl
set_option maxRecDepth 100000 in
theorem u_L_law_538 (L : Nat) (xs : Nat → Int32) (lo : List (Option sa_V)) (st : List sa_V) (hs : sa_H) (rc rs : Nat) (Q : sa_Q) : sa_w (tb_L_law L xs) (538, lo, st, hs, rc, rs) Q = so_goto 23 (538, lo, st, hs, rc, rs) (fun g => sa_w (tb_L_law L xs) g Q) Q := sa_un (tm_L_law L xs) rfl
set_option maxRecDepth 100000 in
theorem u_L_law_541 (L : Nat) (xs : Nat → Int32) (lo : List (Option sa_V)) (st : List sa_V) (hs : sa_H) (rc rs : Nat) (Q : sa_Q) : sa_w (tb_L_law L xs) (541, lo, st, hs, rc, rs) Q = so_push (.inl (1)) 542 (541, lo, st, hs, rc, rs) (fun g => sa_w (tb_L_law L xs) g Q) Q := sa_un (tm_L_law L xs) rfl
set_option maxRecDepth 100000 in
theorem u_L_law_542 (L : Nat) (xs : Nat → Int32) (lo : List (Option sa_V)) (st : List sa_V) (hs : sa_H) (rc rs : Nat) (Q : sa_Q) : sa_w (tb_L_law L xs) (542, lo, st, hs, rc, rs) Q = so_one (542, lo, st, hs, rc, rs) (fun g => sa_w (tb_L_law L xs) g Q) Q := sa_un (tm_L_law L xs) rfl
