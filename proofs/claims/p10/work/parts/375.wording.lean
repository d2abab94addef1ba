theorem w_93 : (Jvm.Cond.selects "ClockForTalkModel" ({ cls := "ClockForTalkModel", name := "readWording", desc := "()I" } : Jvm.MethodName) ({ cls := "ClockForTalkModel", name := "readWording", desc := "()I" } : Jvm.MethodName)) ∈ li_ws := li_mem 93 (by decide +kernel) (by decide +kernel)
theorem w_94 : (Jvm.Cond.selects "ClockForTalkModel" ({ cls := "ClockForTalkModel", name := "joined", desc := "(II)I" } : Jvm.MethodName) ({ cls := "ClockForTalkModel", name := "joined", desc := "(II)I" } : Jvm.MethodName)) ∈ li_ws := li_mem 94 (by decide +kernel) (by decide +kernel)
theorem w_1443 : (Jvm.Cond.fieldLink "ClockForTalkModel" (70 : Nat) "ClockForTalkModel" "turns" "[I") ∈ li_ws := li_mem 1443 (by decide +kernel) (by decide +kernel)
theorem w_1444 : (Jvm.Cond.fieldLink "ClockForTalkModel" (380 : Nat) "ClockForTalkModel" "wordMany" "I") ∈ li_ws := li_mem 1444 (by decide +kernel) (by decide +kernel)
theorem w_1906 : (Jvm.Cond.methodLink "ClockForTalkModel" (386 : Nat) ({ cls := "ClockForTalkModel", name := "readWording", desc := "()I" } : Jvm.MethodName)) ∈ li_ws := li_mem 1906 (by decide +kernel) (by decide +kernel)
theorem w_1908 : (Jvm.Cond.instanceMethod ({ cls := "ClockForTalkModel", name := "readWording", desc := "()I" } : Jvm.MethodName)) ∈ li_ws := li_mem 1908 (by decide +kernel) (by decide +kernel)
theorem w_1909 : (Jvm.Cond.code ({ cls := "ClockForTalkModel", name := "readWording", desc := "()I" } : Jvm.MethodName) prog_13_method_89_code (7 : Nat) (Option.some Jvm.ClassFile.FieldType.int)) ∈ li_ws := li_mem 1909 (by decide +kernel) (by decide +kernel)
theorem w_1910 : (Jvm.Cond.methodLink "ClockForTalkModel" (383 : Nat) ({ cls := "ClockForTalkModel", name := "joined", desc := "(II)I" } : Jvm.MethodName)) ∈ li_ws := li_mem 1910 (by decide +kernel) (by decide +kernel)
theorem w_1912 : (Jvm.Cond.instanceMethod ({ cls := "ClockForTalkModel", name := "joined", desc := "(II)I" } : Jvm.MethodName)) ∈ li_ws := li_mem 1912 (by decide +kernel) (by decide +kernel)
theorem w_1913 : (Jvm.Cond.code ({ cls := "ClockForTalkModel", name := "joined", desc := "(II)I" } : Jvm.MethodName) prog_13_method_90_code (5 : Nat) (Option.some Jvm.ClassFile.FieldType.int)) ∈ li_ws := li_mem 1913 (by decide +kernel) (by decide +kernel)
theorem dX12_readWording_0 : decode cX12_readWording 0 = .ok (.aload_n 0, 1) := by decide +kernel
theorem dX12_readWording_1 : decode cX12_readWording 1 = .ok (.getfield 124, 3) := by decide +kernel
theorem dX12_readWording_4 : decode cX12_readWording 4 = .ok (.istore_n 1, 1) := by decide +kernel
theorem dX12_readWording_5 : decode cX12_readWording 5 = .ok (.aload_n 0, 1) := by decide +kernel
theorem dX12_readWording_6 : decode cX12_readWording 6 = .ok (.iconst 0, 1) := by decide +kernel
theorem dX12_readWording_7 : decode cX12_readWording 7 = .ok (.putfield 124, 3) := by decide +kernel
theorem dX12_readWording_10 : decode cX12_readWording 10 = .ok (.iconst 0, 1) := by decide +kernel
theorem dX12_readWording_11 : decode cX12_readWording 11 = .ok (.istore_n 2, 1) := by decide +kernel
theorem dX12_readWording_12 : decode cX12_readWording 12 = .ok (.iload_n 2, 1) := by decide +kernel
theorem dX12_readWording_13 : decode cX12_readWording 13 = .ok (.iload_n 1, 1) := by decide +kernel
theorem dX12_readWording_14 : decode cX12_readWording 14 = .ok (.if_icmp .ge 35, 3) := by decide +kernel
theorem dX12_readWording_17 : decode cX12_readWording 17 = .ok (.iload_n 2, 1) := by decide +kernel
theorem dX12_readWording_18 : decode cX12_readWording 18 = .ok (.bipush 14, 2) := by decide +kernel
theorem dX12_readWording_20 : decode cX12_readWording 20 = .ok (.if_icmp .eq 19, 3) := by decide +kernel
theorem dX12_readWording_23 : decode cX12_readWording 23 = .ok (.aload_n 0, 1) := by decide +kernel
theorem dX12_readWording_24 : decode cX12_readWording 24 = .ok (.getfield 22, 3) := by decide +kernel
theorem dX12_readWording_27 : decode cX12_readWording 27 = .ok (.iload_n 2, 1) := by decide +kernel
theorem dX12_readWording_28 : decode cX12_readWording 28 = .ok (.baload, 1) := by decide +kernel
theorem dX12_readWording_29 : decode cX12_readWording 29 = .ok (.bipush 97, 2) := by decide +kernel
theorem dX12_readWording_31 : decode cX12_readWording 31 = .ok (.bipush 103, 2) := by decide +kernel
theorem dX12_readWording_33 : decode cX12_readWording 33 = .ok (.invokestatic 113, 3) := by decide +kernel
theorem dX12_readWording_36 : decode cX12_readWording 36 = .ok (.ifCond .ne 7, 3) := by decide +kernel
theorem dX12_readWording_39 : decode cX12_readWording 39 = .ok (.iconst (-1), 1) := by decide +kernel
theorem dX12_readWording_40 : decode cX12_readWording 40 = .ok (.iload_n 2, 1) := by decide +kernel
theorem dX12_readWording_41 : decode cX12_readWording 41 = .ok (.isub, 1) := by decide +kernel
theorem dX12_readWording_42 : decode cX12_readWording 42 = .ok (.ireturn, 1) := by decide +kernel
theorem dX12_readWording_43 : decode cX12_readWording 43 = .ok (.iinc 2 1, 3) := by decide +kernel
theorem dX12_readWording_46 : decode cX12_readWording 46 = .ok (.goto (-34), 3) := by decide +kernel
theorem dX12_readWording_49 : decode cX12_readWording 49 = .ok (.iload_n 1, 1) := by decide +kernel
theorem dX12_readWording_50 : decode cX12_readWording 50 = .ok (.ifCond .ne 5, 3) := by decide +kernel
theorem dX12_readWording_53 : decode cX12_readWording 53 = .ok (.iconst (-1), 1) := by decide +kernel
theorem dX12_readWording_54 : decode cX12_readWording 54 = .ok (.ireturn, 1) := by decide +kernel
theorem dX12_readWording_55 : decode cX12_readWording 55 = .ok (.aload_n 0, 1) := by decide +kernel
theorem dX12_readWording_56 : decode cX12_readWording 56 = .ok (.iload_n 1, 1) := by decide +kernel
theorem dX12_readWording_57 : decode cX12_readWording 57 = .ok (.putfield 380, 3) := by decide +kernel
theorem dX12_readWording_60 : decode cX12_readWording 60 = .ok (.bipush 15, 2) := by decide +kernel
theorem dX12_readWording_62 : decode cX12_readWording 62 = .ok (.istore_n 2, 1) := by decide +kernel
theorem dX12_readWording_63 : decode cX12_readWording 63 = .ok (.iconst 1, 1) := by decide +kernel
theorem dX12_readWording_64 : decode cX12_readWording 64 = .ok (.istore_n 3, 1) := by decide +kernel
theorem dX12_readWording_65 : decode cX12_readWording 65 = .ok (.iload_n 3, 1) := by decide +kernel
theorem dX12_readWording_66 : decode cX12_readWording 66 = .ok (.iload_n 1, 1) := by decide +kernel
theorem dX12_readWording_67 : decode cX12_readWording 67 = .ok (.if_icmp .gt 121, 3) := by decide +kernel
theorem dX12_readWording_70 : decode cX12_readWording 70 = .ok (.iconst 0, 1) := by decide +kernel
theorem dX12_readWording_71 : decode cX12_readWording 71 = .ok (.istore 4, 2) := by decide +kernel
theorem dX12_readWording_73 : decode cX12_readWording 73 = .ok (.iload 4, 2) := by decide +kernel
theorem dX12_readWording_75 : decode cX12_readWording 75 = .ok (.iload_n 3, 1) := by decide +kernel
theorem dX12_readWording_76 : decode cX12_readWording 76 = .ok (.iadd, 1) := by decide +kernel
theorem dX12_readWording_77 : decode cX12_readWording 77 = .ok (.iload_n 1, 1) := by decide +kernel
theorem dX12_readWording_78 : decode cX12_readWording 78 = .ok (.if_icmp .gt 104, 3) := by decide +kernel
theorem dX12_readWording_81 : decode cX12_readWording 81 = .ok (.iload_n 3, 1) := by decide +kernel
theorem dX12_readWording_82 : decode cX12_readWording 82 = .ok (.iconst 1, 1) := by decide +kernel
theorem dX12_readWording_83 : decode cX12_readWording 83 = .ok (.if_icmp .ne 18, 3) := by decide +kernel
theorem dX12_readWording_86 : decode cX12_readWording 86 = .ok (.iconst 1, 1) := by decide +kernel
theorem dX12_readWording_87 : decode cX12_readWording 87 = .ok (.aload_n 0, 1) := by decide +kernel
theorem dX12_readWording_88 : decode cX12_readWording 88 = .ok (.getfield 22, 3) := by decide +kernel
theorem dX12_readWording_91 : decode cX12_readWording 91 = .ok (.iload 4, 2) := by decide +kernel
theorem dX12_readWording_93 : decode cX12_readWording 93 = .ok (.baload, 1) := by decide +kernel
theorem dX12_readWording_94 : decode cX12_readWording 94 = .ok (.bipush 97, 2) := by decide +kernel
theorem dX12_readWording_96 : decode cX12_readWording 96 = .ok (.isub, 1) := by decide +kernel
theorem dX12_readWording_97 : decode cX12_readWording 97 = .ok (.ishl, 1) := by decide +kernel
theorem dX12_readWording_98 : decode cX12_readWording 98 = .ok (.goto 4, 3) := by decide +kernel
theorem dX12_readWording_101 : decode cX12_readWording 101 = .ok (.iconst 0, 1) := by decide +kernel
theorem dX12_readWording_102 : decode cX12_readWording 102 = .ok (.istore 5, 2) := by decide +kernel
theorem dX12_readWording_104 : decode cX12_readWording 104 = .ok (.iconst 1, 1) := by decide +kernel
theorem dX12_readWording_105 : decode cX12_readWording 105 = .ok (.istore 6, 2) := by decide +kernel
theorem dX12_readWording_107 : decode cX12_readWording 107 = .ok (.iload 6, 2) := by decide +kernel
theorem dX12_readWording_109 : decode cX12_readWording 109 = .ok (.iload_n 3, 1) := by decide +kernel
theorem dX12_readWording_110 : decode cX12_readWording 110 = .ok (.if_icmp .ge 50, 3) := by decide +kernel
theorem dX12_readWording_113 : decode cX12_readWording 113 = .ok (.iload 5, 2) := by decide +kernel
theorem dX12_readWording_115 : decode cX12_readWording 115 = .ok (.aload_n 0, 1) := by decide +kernel
theorem dX12_readWording_116 : decode cX12_readWording 116 = .ok (.aload_n 0, 1) := by decide +kernel
theorem dX12_readWording_117 : decode cX12_readWording 117 = .ok (.getfield 70, 3) := by decide +kernel
theorem dX12_readWording_120 : decode cX12_readWording 120 = .ok (.iload_n 2, 1) := by decide +kernel
theorem dX12_readWording_121 : decode cX12_readWording 121 = .ok (.iload 4, 2) := by decide +kernel
theorem dX12_readWording_123 : decode cX12_readWording 123 = .ok (.imul, 1) := by decide +kernel
theorem dX12_readWording_124 : decode cX12_readWording 124 = .ok (.iload 4, 2) := by decide +kernel
theorem dX12_readWording_126 : decode cX12_readWording 126 = .ok (.iadd, 1) := by decide +kernel
theorem dX12_readWording_127 : decode cX12_readWording 127 = .ok (.iload 6, 2) := by decide +kernel
theorem dX12_readWording_129 : decode cX12_readWording 129 = .ok (.iadd, 1) := by decide +kernel
theorem dX12_readWording_130 : decode cX12_readWording 130 = .ok (.iaload, 1) := by decide +kernel
theorem dX12_readWording_131 : decode cX12_readWording 131 = .ok (.aload_n 0, 1) := by decide +kernel
theorem dX12_readWording_132 : decode cX12_readWording 132 = .ok (.getfield 70, 3) := by decide +kernel
theorem dX12_readWording_135 : decode cX12_readWording 135 = .ok (.iload_n 2, 1) := by decide +kernel
theorem dX12_readWording_136 : decode cX12_readWording 136 = .ok (.iload 4, 2) := by decide +kernel
theorem dX12_readWording_138 : decode cX12_readWording 138 = .ok (.iload 6, 2) := by decide +kernel
theorem dX12_readWording_140 : decode cX12_readWording 140 = .ok (.iadd, 1) := by decide +kernel
theorem dX12_readWording_141 : decode cX12_readWording 141 = .ok (.imul, 1) := by decide +kernel
theorem dX12_readWording_142 : decode cX12_readWording 142 = .ok (.iload 4, 2) := by decide +kernel
theorem dX12_readWording_144 : decode cX12_readWording 144 = .ok (.iadd, 1) := by decide +kernel
theorem dX12_readWording_145 : decode cX12_readWording 145 = .ok (.iload_n 3, 1) := by decide +kernel
theorem dX12_readWording_146 : decode cX12_readWording 146 = .ok (.iadd, 1) := by decide +kernel
theorem dX12_readWording_147 : decode cX12_readWording 147 = .ok (.iaload, 1) := by decide +kernel
theorem dX12_readWording_148 : decode cX12_readWording 148 = .ok (.invokevirtual 383, 3) := by decide +kernel
theorem dX12_readWording_151 : decode cX12_readWording 151 = .ok (.ior, 1) := by decide +kernel
theorem dX12_readWording_152 : decode cX12_readWording 152 = .ok (.istore 5, 2) := by decide +kernel
theorem dX12_readWording_154 : decode cX12_readWording 154 = .ok (.iinc 6 1, 3) := by decide +kernel
theorem dX12_readWording_157 : decode cX12_readWording 157 = .ok (.goto (-50), 3) := by decide +kernel
theorem dX12_readWording_160 : decode cX12_readWording 160 = .ok (.aload_n 0, 1) := by decide +kernel
theorem dX12_readWording_161 : decode cX12_readWording 161 = .ok (.getfield 70, 3) := by decide +kernel
theorem dX12_readWording_164 : decode cX12_readWording 164 = .ok (.iload_n 2, 1) := by decide +kernel
theorem dX12_readWording_165 : decode cX12_readWording 165 = .ok (.iload 4, 2) := by decide +kernel
theorem dX12_readWording_167 : decode cX12_readWording 167 = .ok (.imul, 1) := by decide +kernel
theorem dX12_readWording_168 : decode cX12_readWording 168 = .ok (.iload 4, 2) := by decide +kernel
theorem dX12_readWording_170 : decode cX12_readWording 170 = .ok (.iadd, 1) := by decide +kernel
theorem dX12_readWording_171 : decode cX12_readWording 171 = .ok (.iload_n 3, 1) := by decide +kernel
theorem dX12_readWording_172 : decode cX12_readWording 172 = .ok (.iadd, 1) := by decide +kernel
theorem dX12_readWording_173 : decode cX12_readWording 173 = .ok (.iload 5, 2) := by decide +kernel
theorem dX12_readWording_175 : decode cX12_readWording 175 = .ok (.iastore, 1) := by decide +kernel
theorem dX12_readWording_176 : decode cX12_readWording 176 = .ok (.iinc 4 1, 3) := by decide +kernel
theorem dX12_readWording_179 : decode cX12_readWording 179 = .ok (.goto (-106), 3) := by decide +kernel
theorem dX12_readWording_182 : decode cX12_readWording 182 = .ok (.iinc 3 1, 3) := by decide +kernel
theorem dX12_readWording_185 : decode cX12_readWording 185 = .ok (.goto (-120), 3) := by decide +kernel
theorem dX12_readWording_188 : decode cX12_readWording 188 = .ok (.iconst 0, 1) := by decide +kernel
theorem dX12_readWording_189 : decode cX12_readWording 189 = .ok (.ireturn, 1) := by decide +kernel
abbrev YX12_readWording : li_Y := (yX12_readWording, cX12_readWording, 7, (some .int))
theorem dX12_becomes_0 : decode cX12_becomes 0 = .ok (.aload_n 0, 1) := by decide +kernel
theorem dX12_becomes_1 : decode cX12_becomes 1 = .ok (.iconst 0, 1) := by decide +kernel
theorem dX12_becomes_2 : decode cX12_becomes 2 = .ok (.putfield 103, 3) := by decide +kernel
theorem dX12_becomes_5 : decode cX12_becomes 5 = .ok (.aload_n 0, 1) := by decide +kernel
theorem dX12_becomes_6 : decode cX12_becomes 6 = .ok (.invokevirtual 386, 3) := by decide +kernel
theorem dX12_becomes_9 : decode cX12_becomes 9 = .ok (.istore_n 1, 1) := by decide +kernel
theorem dX12_becomes_10 : decode cX12_becomes 10 = .ok (.iload_n 1, 1) := by decide +kernel
theorem dX12_becomes_11 : decode cX12_becomes 11 = .ok (.ifCond .ge 7, 3) := by decide +kernel
theorem dX12_becomes_14 : decode cX12_becomes 14 = .ok (.iload_n 1, 1) := by decide +kernel
theorem dX12_becomes_15 : decode cX12_becomes 15 = .ok (.goto 12, 3) := by decide +kernel
theorem dX12_becomes_18 : decode cX12_becomes 18 = .ok (.aload_n 0, 1) := by decide +kernel
theorem dX12_becomes_19 : decode cX12_becomes 19 = .ok (.getfield 70, 3) := by decide +kernel
theorem dX12_becomes_22 : decode cX12_becomes 22 = .ok (.aload_n 0, 1) := by decide +kernel
theorem dX12_becomes_23 : decode cX12_becomes 23 = .ok (.getfield 380, 3) := by decide +kernel
theorem dX12_becomes_26 : decode cX12_becomes 26 = .ok (.iaload, 1) := by decide +kernel
theorem dX12_becomes_27 : decode cX12_becomes 27 = .ok (.ireturn, 1) := by decide +kernel
abbrev YX12_becomes : li_Y := (yX12_becomes, cX12_becomes, 2, (some .int))
