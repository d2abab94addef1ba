theorem w_50 : (Jvm.Cond.selects "ClockForTalkModel" ({ cls := "ClockForTalkModel", name := "readThing", desc := "(I)V" } : Jvm.MethodName) ({ cls := "ClockForTalkModel", name := "readThing", desc := "(I)V" } : Jvm.MethodName)) ∈ li_ws := li_mem 50 (by decide +kernel) (by decide +kernel)
theorem w_1613 : (Jvm.Cond.methodLink "ClockForTalkModel" (180 : Nat) ({ cls := "ClockForTalkModel", name := "readThing", desc := "(I)V" } : Jvm.MethodName)) ∈ li_ws := li_mem 1613 (by decide +kernel) (by decide +kernel)
theorem w_1615 : (Jvm.Cond.instanceMethod ({ cls := "ClockForTalkModel", name := "readThing", desc := "(I)V" } : Jvm.MethodName)) ∈ li_ws := li_mem 1615 (by decide +kernel) (by decide +kernel)
theorem w_1616 : (Jvm.Cond.code ({ cls := "ClockForTalkModel", name := "readThing", desc := "(I)V" } : Jvm.MethodName) prog_13_method_21_code (2 : Nat) (Option.none : Option Jvm.ClassFile.FieldType)) ∈ li_ws := li_mem 1616 (by decide +kernel) (by decide +kernel)
theorem dX12_readThing_0 : decode cX12_readThing 0 = .ok (.aload_n 0, 1) := by decide +kernel
theorem dX12_readThing_1 : decode cX12_readThing 1 = .ok (.getfield 29, 3) := by decide +kernel
theorem dX12_readThing_4 : decode cX12_readThing 4 = .ok (.iload_n 1, 1) := by decide +kernel
theorem dX12_readThing_5 : decode cX12_readThing 5 = .ok (.aload_n 0, 1) := by decide +kernel
theorem dX12_readThing_6 : decode cX12_readThing 6 = .ok (.bipush 97, 2) := by decide +kernel
theorem dX12_readThing_8 : decode cX12_readThing 8 = .ok (.aload_n 0, 1) := by decide +kernel
theorem dX12_readThing_9 : decode cX12_readThing 9 = .ok (.getfield 110, 3) := by decide +kernel
theorem dX12_readThing_12 : decode cX12_readThing 12 = .ok (.iconst (-1), 1) := by decide +kernel
theorem dX12_readThing_13 : decode cX12_readThing 13 = .ok (.invokevirtual 158, 3) := by decide +kernel
theorem dX12_readThing_16 : decode cX12_readThing 16 = .ok (.iastore, 1) := by decide +kernel
theorem dX12_readThing_17 : decode cX12_readThing 17 = .ok (.aload_n 0, 1) := by decide +kernel
theorem dX12_readThing_18 : decode cX12_readThing 18 = .ok (.getfield 29, 3) := by decide +kernel
theorem dX12_readThing_21 : decode cX12_readThing 21 = .ok (.iload_n 1, 1) := by decide +kernel
theorem dX12_readThing_22 : decode cX12_readThing 22 = .ok (.iconst 1, 1) := by decide +kernel
theorem dX12_readThing_23 : decode cX12_readThing 23 = .ok (.iadd, 1) := by decide +kernel
theorem dX12_readThing_24 : decode cX12_readThing 24 = .ok (.aload_n 0, 1) := by decide +kernel
theorem dX12_readThing_25 : decode cX12_readThing 25 = .ok (.bipush 97, 2) := by decide +kernel
theorem dX12_readThing_27 : decode cX12_readThing 27 = .ok (.aload_n 0, 1) := by decide +kernel
theorem dX12_readThing_28 : decode cX12_readThing 28 = .ok (.getfield 110, 3) := by decide +kernel
theorem dX12_readThing_31 : decode cX12_readThing 31 = .ok (.aload_n 0, 1) := by decide +kernel
theorem dX12_readThing_32 : decode cX12_readThing 32 = .ok (.getfield 29, 3) := by decide +kernel
theorem dX12_readThing_35 : decode cX12_readThing 35 = .ok (.iload_n 1, 1) := by decide +kernel
theorem dX12_readThing_36 : decode cX12_readThing 36 = .ok (.iaload, 1) := by decide +kernel
theorem dX12_readThing_37 : decode cX12_readThing 37 = .ok (.invokevirtual 158, 3) := by decide +kernel
theorem dX12_readThing_40 : decode cX12_readThing 40 = .ok (.iastore, 1) := by decide +kernel
theorem dX12_readThing_41 : decode cX12_readThing 41 = .ok (.aload_n 0, 1) := by decide +kernel
theorem dX12_readThing_42 : decode cX12_readThing 42 = .ok (.getfield 29, 3) := by decide +kernel
theorem dX12_readThing_45 : decode cX12_readThing 45 = .ok (.iload_n 1, 1) := by decide +kernel
theorem dX12_readThing_46 : decode cX12_readThing 46 = .ok (.iconst 2, 1) := by decide +kernel
theorem dX12_readThing_47 : decode cX12_readThing 47 = .ok (.iadd, 1) := by decide +kernel
theorem dX12_readThing_48 : decode cX12_readThing 48 = .ok (.aload_n 0, 1) := by decide +kernel
theorem dX12_readThing_49 : decode cX12_readThing 49 = .ok (.iconst 2, 1) := by decide +kernel
theorem dX12_readThing_50 : decode cX12_readThing 50 = .ok (.invokevirtual 166, 3) := by decide +kernel
theorem dX12_readThing_53 : decode cX12_readThing 53 = .ok (.iastore, 1) := by decide +kernel
theorem dX12_readThing_54 : decode cX12_readThing 54 = .ok (.aload_n 0, 1) := by decide +kernel
theorem dX12_readThing_55 : decode cX12_readThing 55 = .ok (.invokevirtual 142, 3) := by decide +kernel
theorem dX12_readThing_58 : decode cX12_readThing 58 = .ok (.ifCond .eq 24, 3) := by decide +kernel
theorem dX12_readThing_61 : decode cX12_readThing 61 = .ok (.aload_n 0, 1) := by decide +kernel
theorem dX12_readThing_62 : decode cX12_readThing 62 = .ok (.getfield 29, 3) := by decide +kernel
theorem dX12_readThing_65 : decode cX12_readThing 65 = .ok (.iload_n 1, 1) := by decide +kernel
theorem dX12_readThing_66 : decode cX12_readThing 66 = .ok (.iconst 2, 1) := by decide +kernel
theorem dX12_readThing_67 : decode cX12_readThing 67 = .ok (.iadd, 1) := by decide +kernel
theorem dX12_readThing_68 : decode cX12_readThing 68 = .ok (.iaload, 1) := by decide +kernel
theorem dX12_readThing_69 : decode cX12_readThing 69 = .ok (.ifCond .ne 13, 3) := by decide +kernel
theorem dX12_readThing_72 : decode cX12_readThing 72 = .ok (.aload_n 0, 1) := by decide +kernel
theorem dX12_readThing_73 : decode cX12_readThing 73 = .ok (.aload_n 0, 1) := by decide +kernel
theorem dX12_readThing_74 : decode cX12_readThing 74 = .ok (.getfield 136, 3) := by decide +kernel
theorem dX12_readThing_77 : decode cX12_readThing 77 = .ok (.iconst 1, 1) := by decide +kernel
theorem dX12_readThing_78 : decode cX12_readThing 78 = .ok (.isub, 1) := by decide +kernel
theorem dX12_readThing_79 : decode cX12_readThing 79 = .ok (.invokevirtual 154, 3) := by decide +kernel
theorem dX12_readThing_82 : decode cX12_readThing 82 = .ok (.aload_n 0, 1) := by decide +kernel
theorem dX12_readThing_83 : decode cX12_readThing 83 = .ok (.bipush 45, 2) := by decide +kernel
theorem dX12_readThing_85 : decode cX12_readThing 85 = .ok (.invokevirtual 170, 3) := by decide +kernel
theorem dX12_readThing_88 : decode cX12_readThing 88 = .ok (.aload_n 0, 1) := by decide +kernel
theorem dX12_readThing_89 : decode cX12_readThing 89 = .ok (.getfield 29, 3) := by decide +kernel
theorem dX12_readThing_92 : decode cX12_readThing 92 = .ok (.iload_n 1, 1) := by decide +kernel
theorem dX12_readThing_93 : decode cX12_readThing 93 = .ok (.iconst 3, 1) := by decide +kernel
theorem dX12_readThing_94 : decode cX12_readThing 94 = .ok (.iadd, 1) := by decide +kernel
theorem dX12_readThing_95 : decode cX12_readThing 95 = .ok (.aload_n 0, 1) := by decide +kernel
theorem dX12_readThing_96 : decode cX12_readThing 96 = .ok (.iconst 2, 1) := by decide +kernel
theorem dX12_readThing_97 : decode cX12_readThing 97 = .ok (.invokevirtual 166, 3) := by decide +kernel
theorem dX12_readThing_100 : decode cX12_readThing 100 = .ok (.iastore, 1) := by decide +kernel
theorem dX12_readThing_101 : decode cX12_readThing 101 = .ok (.aload_n 0, 1) := by decide +kernel
theorem dX12_readThing_102 : decode cX12_readThing 102 = .ok (.bipush 61, 2) := by decide +kernel
theorem dX12_readThing_104 : decode cX12_readThing 104 = .ok (.invokevirtual 170, 3) := by decide +kernel
theorem dX12_readThing_107 : decode cX12_readThing 107 = .ok (.aload_n 0, 1) := by decide +kernel
theorem dX12_readThing_108 : decode cX12_readThing 108 = .ok (.getfield 29, 3) := by decide +kernel
theorem dX12_readThing_111 : decode cX12_readThing 111 = .ok (.iload_n 1, 1) := by decide +kernel
theorem dX12_readThing_112 : decode cX12_readThing 112 = .ok (.iconst 4, 1) := by decide +kernel
theorem dX12_readThing_113 : decode cX12_readThing 113 = .ok (.iadd, 1) := by decide +kernel
theorem dX12_readThing_114 : decode cX12_readThing 114 = .ok (.aload_n 0, 1) := by decide +kernel
theorem dX12_readThing_115 : decode cX12_readThing 115 = .ok (.iconst 2, 1) := by decide +kernel
theorem dX12_readThing_116 : decode cX12_readThing 116 = .ok (.invokevirtual 166, 3) := by decide +kernel
theorem dX12_readThing_119 : decode cX12_readThing 119 = .ok (.iastore, 1) := by decide +kernel
theorem dX12_readThing_120 : decode cX12_readThing 120 = .ok (.return_, 1) := by decide +kernel
abbrev YX12_readThing : li_Y := (yX12_readThing, cX12_readThing, 2, none)
theorem dX12_things_0 : decode cX12_things 0 = .ok (.aload_n 0, 1) := by decide +kernel
theorem dX12_things_1 : decode cX12_things 1 = .ok (.iconst 0, 1) := by decide +kernel
theorem dX12_things_2 : decode cX12_things 2 = .ok (.putfield 103, 3) := by decide +kernel
theorem dX12_things_5 : decode cX12_things 5 = .ok (.aload_n 0, 1) := by decide +kernel
theorem dX12_things_6 : decode cX12_things 6 = .ok (.aload_n 0, 1) := by decide +kernel
theorem dX12_things_7 : decode cX12_things 7 = .ok (.getfield 22, 3) := by decide +kernel
theorem dX12_things_10 : decode cX12_things 10 = .ok (.aload_n 0, 1) := by decide +kernel
theorem dX12_things_11 : decode cX12_things 11 = .ok (.getfield 124, 3) := by decide +kernel
theorem dX12_things_14 : decode cX12_things 14 = .ok (.bipush 76, 2) := by decide +kernel
theorem dX12_things_16 : decode cX12_things 16 = .ok (.invokevirtual 162, 3) := by decide +kernel
theorem dX12_things_19 : decode cX12_things 19 = .ok (.aload_n 0, 1) := by decide +kernel
theorem dX12_things_20 : decode cX12_things 20 = .ok (.iconst 0, 1) := by decide +kernel
theorem dX12_things_21 : decode cX12_things 21 = .ok (.putfield 124, 3) := by decide +kernel
theorem dX12_things_24 : decode cX12_things 24 = .ok (.aload_n 0, 1) := by decide +kernel
theorem dX12_things_25 : decode cX12_things 25 = .ok (.getfield 130, 3) := by decide +kernel
theorem dX12_things_28 : decode cX12_things 28 = .ok (.ifCond .ne 5, 3) := by decide +kernel
theorem dX12_things_31 : decode cX12_things 31 = .ok (.iconst 0, 1) := by decide +kernel
theorem dX12_things_32 : decode cX12_things 32 = .ok (.ireturn, 1) := by decide +kernel
theorem dX12_things_33 : decode cX12_things 33 = .ok (.iconst 0, 1) := by decide +kernel
theorem dX12_things_34 : decode cX12_things 34 = .ok (.istore_n 1, 1) := by decide +kernel
theorem dX12_things_35 : decode cX12_things 35 = .ok (.iconst 1, 1) := by decide +kernel
theorem dX12_things_36 : decode cX12_things 36 = .ok (.istore_n 2, 1) := by decide +kernel
theorem dX12_things_37 : decode cX12_things 37 = .ok (.iload_n 2, 1) := by decide +kernel
theorem dX12_things_38 : decode cX12_things 38 = .ok (.ifCond .eq 52, 3) := by decide +kernel
theorem dX12_things_41 : decode cX12_things 41 = .ok (.aload_n 0, 1) := by decide +kernel
theorem dX12_things_42 : decode cX12_things 42 = .ok (.invokevirtual 142, 3) := by decide +kernel
theorem dX12_things_45 : decode cX12_things 45 = .ok (.ifCond .eq 45, 3) := by decide +kernel
theorem dX12_things_48 : decode cX12_things 48 = .ok (.aload_n 0, 1) := by decide +kernel
theorem dX12_things_49 : decode cX12_things 49 = .ok (.getfield 121, 3) := by decide +kernel
theorem dX12_things_52 : decode cX12_things 52 = .ok (.iload_n 1, 1) := by decide +kernel
theorem dX12_things_53 : decode cX12_things 53 = .ok (.iadd, 1) := by decide +kernel
theorem dX12_things_54 : decode cX12_things 54 = .ok (.bipush 8, 2) := by decide +kernel
theorem dX12_things_56 : decode cX12_things 56 = .ok (.if_icmp .ne 14, 3) := by decide +kernel
theorem dX12_things_59 : decode cX12_things 59 = .ok (.aload_n 0, 1) := by decide +kernel
theorem dX12_things_60 : decode cX12_things 60 = .ok (.aload_n 0, 1) := by decide +kernel
theorem dX12_things_61 : decode cX12_things 61 = .ok (.getfield 136, 3) := by decide +kernel
theorem dX12_things_64 : decode cX12_things 64 = .ok (.invokevirtual 154, 3) := by decide +kernel
theorem dX12_things_67 : decode cX12_things 67 = .ok (.goto 10, 3) := by decide +kernel
theorem dX12_things_70 : decode cX12_things 70 = .ok (.aload_n 0, 1) := by decide +kernel
theorem dX12_things_71 : decode cX12_things 71 = .ok (.iconst 5, 1) := by decide +kernel
theorem dX12_things_72 : decode cX12_things 72 = .ok (.iload_n 1, 1) := by decide +kernel
theorem dX12_things_73 : decode cX12_things 73 = .ok (.imul, 1) := by decide +kernel
theorem dX12_things_74 : decode cX12_things 74 = .ok (.invokevirtual 180, 3) := by decide +kernel
theorem dX12_things_77 : decode cX12_things 77 = .ok (.iinc 1 1, 3) := by decide +kernel
theorem dX12_things_80 : decode cX12_things 80 = .ok (.aload_n 0, 1) := by decide +kernel
theorem dX12_things_81 : decode cX12_things 81 = .ok (.bipush 59, 2) := by decide +kernel
theorem dX12_things_83 : decode cX12_things 83 = .ok (.invokevirtual 150, 3) := by decide +kernel
theorem dX12_things_86 : decode cX12_things 86 = .ok (.istore_n 2, 1) := by decide +kernel
theorem dX12_things_87 : decode cX12_things 87 = .ok (.goto (-50), 3) := by decide +kernel
theorem dX12_things_90 : decode cX12_things 90 = .ok (.aload_n 0, 1) := by decide +kernel
theorem dX12_things_91 : decode cX12_things 91 = .ok (.getfield 136, 3) := by decide +kernel
theorem dX12_things_94 : decode cX12_things 94 = .ok (.aload_n 0, 1) := by decide +kernel
theorem dX12_things_95 : decode cX12_things 95 = .ok (.getfield 130, 3) := by decide +kernel
theorem dX12_things_98 : decode cX12_things 98 = .ok (.if_icmp .ge 11, 3) := by decide +kernel
theorem dX12_things_101 : decode cX12_things 101 = .ok (.aload_n 0, 1) := by decide +kernel
theorem dX12_things_102 : decode cX12_things 102 = .ok (.aload_n 0, 1) := by decide +kernel
theorem dX12_things_103 : decode cX12_things 103 = .ok (.getfield 136, 3) := by decide +kernel
theorem dX12_things_106 : decode cX12_things 106 = .ok (.invokevirtual 154, 3) := by decide +kernel
theorem dX12_things_109 : decode cX12_things 109 = .ok (.aload_n 0, 1) := by decide +kernel
theorem dX12_things_110 : decode cX12_things 110 = .ok (.invokevirtual 142, 3) := by decide +kernel
theorem dX12_things_113 : decode cX12_things 113 = .ok (.ifCond .ne 10, 3) := by decide +kernel
theorem dX12_things_116 : decode cX12_things 116 = .ok (.iconst (-1), 1) := by decide +kernel
theorem dX12_things_117 : decode cX12_things 117 = .ok (.aload_n 0, 1) := by decide +kernel
theorem dX12_things_118 : decode cX12_things 118 = .ok (.getfield 139, 3) := by decide +kernel
theorem dX12_things_121 : decode cX12_things 121 = .ok (.isub, 1) := by decide +kernel
theorem dX12_things_122 : decode cX12_things 122 = .ok (.ireturn, 1) := by decide +kernel
theorem dX12_things_123 : decode cX12_things 123 = .ok (.iconst 0, 1) := by decide +kernel
theorem dX12_things_124 : decode cX12_things 124 = .ok (.istore_n 3, 1) := by decide +kernel
theorem dX12_things_125 : decode cX12_things 125 = .ok (.iload_n 3, 1) := by decide +kernel
theorem dX12_things_126 : decode cX12_things 126 = .ok (.iconst 5, 1) := by decide +kernel
theorem dX12_things_127 : decode cX12_things 127 = .ok (.iload_n 1, 1) := by decide +kernel
theorem dX12_things_128 : decode cX12_things 128 = .ok (.imul, 1) := by decide +kernel
theorem dX12_things_129 : decode cX12_things 129 = .ok (.if_icmp .ge 28, 3) := by decide +kernel
theorem dX12_things_132 : decode cX12_things 132 = .ok (.aload_n 0, 1) := by decide +kernel
theorem dX12_things_133 : decode cX12_things 133 = .ok (.getfield 19, 3) := by decide +kernel
theorem dX12_things_136 : decode cX12_things 136 = .ok (.iconst 5, 1) := by decide +kernel
theorem dX12_things_137 : decode cX12_things 137 = .ok (.aload_n 0, 1) := by decide +kernel
theorem dX12_things_138 : decode cX12_things 138 = .ok (.getfield 121, 3) := by decide +kernel
theorem dX12_things_141 : decode cX12_things 141 = .ok (.imul, 1) := by decide +kernel
theorem dX12_things_142 : decode cX12_things 142 = .ok (.iload_n 3, 1) := by decide +kernel
theorem dX12_things_143 : decode cX12_things 143 = .ok (.iadd, 1) := by decide +kernel
theorem dX12_things_144 : decode cX12_things 144 = .ok (.aload_n 0, 1) := by decide +kernel
theorem dX12_things_145 : decode cX12_things 145 = .ok (.getfield 29, 3) := by decide +kernel
theorem dX12_things_148 : decode cX12_things 148 = .ok (.iload_n 3, 1) := by decide +kernel
theorem dX12_things_149 : decode cX12_things 149 = .ok (.iaload, 1) := by decide +kernel
theorem dX12_things_150 : decode cX12_things 150 = .ok (.iastore, 1) := by decide +kernel
theorem dX12_things_151 : decode cX12_things 151 = .ok (.iinc 3 1, 3) := by decide +kernel
theorem dX12_things_154 : decode cX12_things 154 = .ok (.goto (-29), 3) := by decide +kernel
theorem dX12_things_157 : decode cX12_things 157 = .ok (.aload_n 0, 1) := by decide +kernel
theorem dX12_things_158 : decode cX12_things 158 = .ok (.dup, 1) := by decide +kernel
theorem dX12_things_159 : decode cX12_things 159 = .ok (.getfield 121, 3) := by decide +kernel
theorem dX12_things_162 : decode cX12_things 162 = .ok (.iload_n 1, 1) := by decide +kernel
theorem dX12_things_163 : decode cX12_things 163 = .ok (.iadd, 1) := by decide +kernel
theorem dX12_things_164 : decode cX12_things 164 = .ok (.putfield 121, 3) := by decide +kernel
theorem dX12_things_167 : decode cX12_things 167 = .ok (.aload_n 0, 1) := by decide +kernel
theorem dX12_things_168 : decode cX12_things 168 = .ok (.iconst 0, 1) := by decide +kernel
theorem dX12_things_169 : decode cX12_things 169 = .ok (.putfield 174, 3) := by decide +kernel
theorem dX12_things_172 : decode cX12_things 172 = .ok (.aload_n 0, 1) := by decide +kernel
theorem dX12_things_173 : decode cX12_things 173 = .ok (.dup, 1) := by decide +kernel
theorem dX12_things_174 : decode cX12_things 174 = .ok (.getfield 177, 3) := by decide +kernel
theorem dX12_things_177 : decode cX12_things 177 = .ok (.iconst 1, 1) := by decide +kernel
theorem dX12_things_178 : decode cX12_things 178 = .ok (.iadd, 1) := by decide +kernel
theorem dX12_things_179 : decode cX12_things 179 = .ok (.putfield 177, 3) := by decide +kernel
theorem dX12_things_182 : decode cX12_things 182 = .ok (.iload_n 1, 1) := by decide +kernel
theorem dX12_things_183 : decode cX12_things 183 = .ok (.ireturn, 1) := by decide +kernel
abbrev YX12_things : li_Y := (yX12_things, cX12_things, 4, (some .int))
