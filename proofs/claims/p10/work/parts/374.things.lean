theorem w_50 : (Jvm.Cond.selects "ClockForTalkModel" ({ cls := "ClockForTalkModel", name := "readThing", desc := "(I)V" } : Jvm.MethodName) ({ cls := "ClockForTalkModel", name := "readThing", desc := "(I)V" } : Jvm.MethodName)) ∈ li_ws := li_mem 50 (by decide +kernel) (by decide +kernel)
theorem w_1613 : (Jvm.Cond.methodLink "ClockForTalkModel" (180 : Nat) ({ cls := "ClockForTalkModel", name := "readThing", desc := "(I)V" } : Jvm.MethodName)) ∈ li_ws := li_mem 1613 (by decide +kernel) (by decide +kernel)
theorem w_1615 : (Jvm.Cond.instanceMethod ({ cls := "ClockForTalkModel", name := "readThing", desc := "(I)V" } : Jvm.MethodName)) ∈ li_ws := li_mem 1615 (by decide +kernel) (by decide +kernel)
theorem w_1616 : (Jvm.Cond.code ({ cls := "ClockForTalkModel", name := "readThing", desc := "(I)V" } : Jvm.MethodName) prog_13_method_21_code (2 : Nat) (Option.none : Option Jvm.ClassFile.FieldType)) ∈ li_ws := li_mem 1616 (by decide +kernel) (by decide +kernel)
theorem dX12_readThing_0 : decode cX12_readThing 0 = .ok (.aload_n 0, 1) := by decide +kernel
theorem dX12_readThing_1 : decode cX12_readThing 1 = .ok (.getfield 29, 3) := by decide +kernel
theorem dX12_readThing_4 : decode cX12_readThing 4 = .ok (.iload_n 1, 1) := by decide +kernel
theorem dX12_readThing_5 : decode cX12_readThing 5 = .ok (.aload_n 0, 1) := by decide +kernel
theorem dX12_readThing_6 : decode cX12_readThing 6 = .ok (.bipush 97, 2) := by decide +kernel
theorem dX12_readThing_8 : decode cX12_readThing 8 = .ok (.aload_n 0, 1) := by decide +kernel
theorem dX12_readThing_9 : decode cX12_readThing 9 = .ok (.getfield 110, 3) := by decide +kernel
theorem dX12_readThing_12 : decode cX12_readThing 12 = .ok (.iconst (-1), 1) := by decide +kernel
theorem dX12_readThing_13 : decode cX12_readThing 13 = .ok (.invokevirtual 158, 3) := by decide +kernel
theorem dX12_readThing_16 : decode cX12_readThing 16 = .ok (.iastore, 1) := by decide +kernel
theorem dX12_readThing_17 : decode cX12_readThing 17 = .ok (.aload_n 0, 1) := by decide +kernel
theorem dX12_readThing_18 : decode cX12_readThing 18 = .ok (.getfield 29, 3) := by decide +kernel
theorem dX12_readThing_21 : decode cX12_readThing 21 = .ok (.iload_n 1, 1) := by decide +kernel
theorem dX12_readThing_22 : decode cX12_readThing 22 = .ok (.iconst 1, 1) := by decide +kernel
theorem dX12_readThing_23 : decode cX12_readThing 23 = .ok (.iadd, 1) := by decide +kernel
theorem dX12_readThing_24 : decode cX12_readThing 24 = .ok (.aload_n 0, 1) := by decide +kernel
theorem dX12_readThing_25 : decode cX12_readThing 25 = .ok (.bipush 97, 2) := by decide +kernel
theorem dX12_readThing_27 : decode cX12_readThing 27 = .ok (.aload_n 0, 1) := by decide +kernel
theorem dX12_readThing_28 : decode cX12_readThing 28 = .ok (.getfield 110, 3) := by decide +kernel
theorem dX12_readThing_31 : decode cX12_readThing 31 = .ok (.aload_n 0, 1) := by decide +kernel
theorem dX12_readThing_32 : decode cX12_readThing 32 = .ok (.getfield 29, 3) := by decide +kernel
theorem dX12_readThing_35 : decode cX12_readThing 35 = .ok (.iload_n 1, 1) := by decide +kernel
theorem dX12_readThing_36 : decode cX12_readThing 36 = .ok (.iaload, 1) := by decide +kernel
theorem dX12_readThing_37 : decode cX12_readThing 37 = .ok (.invokevirtual 158, 3) := by decide +kernel
theorem dX12_readThing_40 : decode cX12_readThing 40 = .ok (.iastore, 1) := by decide +kernel
theorem dX12_readThing_41 : decode cX12_readThing 41 = .ok (.aload_n 0, 1) := by decide +kernel
theorem dX12_readThing_42 : decode cX12_readThing 42 = .ok (.getfield 29, 3) := by decide +kernel
theorem dX12_readThing_45 : decode cX12_readThing 45 = .ok (.iload_n 1, 1) := by decide +kernel
theorem dX12_readThing_46 : decode cX12_readThing 46 = .ok (.iconst 2, 1) := by decide +kernel
theorem dX12_readThing_47 : decode cX12_readThing 47 = .ok (.iadd, 1) := by decide +kernel
theorem dX12_readThing_48 : decode cX12_readThing 48 = .ok (.aload_n 0, 1) := by decide +kernel
theorem dX12_readThing_49 : decode cX12_readThing 49 = .ok (.iconst 2, 1) := by decide +kernel
theorem dX12_readThing_50 : decode cX12_readThing 50 = .ok (.invokevirtual 166, 3) := by decide +kernel
theorem dX12_readThing_53 : decode cX12_readThing 53 = .ok (.iastore, 1) := by decide +kernel
theorem dX12_readThing_54 : decode cX12_readThing 54 = .ok (.aload_n 0, 1) := by decide +kernel
theorem dX12_readThing_55 : decode cX12_readThing 55 = .ok (.invokevirtual 142, 3) := by decide +kernel
theorem dX12_readThing_58 : decode cX12_readThing 58 = .ok (.ifCond .eq 24, 3) := by decide +kernel
theorem dX12_readThing_61 : decode cX12_readThing 61 = .ok (.aload_n 0, 1) := by decide +kernel
theorem dX12_readThing_62 : decode cX12_readThing 62 = .ok (.getfield 29, 3) := by decide +kernel
theorem dX12_readThing_65 : decode cX12_readThing 65 = .ok (.iload_n 1, 1) := by decide +kernel
theorem dX12_readThing_66 : decode cX12_readThing 66 = .ok (.iconst 2, 1) := by decide +kernel
theorem dX12_readThing_67 : decode cX12_readThing 67 = .ok (.iadd, 1) := by decide +kernel
theorem dX12_readThing_68 : decode cX12_readThing 68 = .ok (.iaload, 1) := by decide +kernel
theorem dX12_readThing_69 : decode cX12_readThing 69 = .ok (.ifCond .ne 13, 3) := by decide +kernel
theorem dX12_readThing_72 : decode cX12_readThing 72 = .ok (.aload_n 0, 1) := by decide +kernel
theorem dX12_readThing_73 : decode cX12_readThing 73 = .ok (.aload_n 0, 1) := by decide +kernel
theorem dX12_readThing_74 : decode cX12_readThing 74 = .ok (.getfield 136, 3) := by decide +kernel
theorem dX12_readThing_77 : decode cX12_readThing 77 = .ok (.iconst 1, 1) := by decide +kernel
theorem dX12_readThing_78 : decode cX12_readThing 78 = .ok (.isub, 1) := by decide +kernel
theorem dX12_readThing_79 : decode cX12_readThing 79 = .ok (.invokevirtual 154, 3) := by decide +kernel
theorem dX12_readThing_82 : decode cX12_readThing 82 = .ok (.aload_n 0, 1) := by decide +kernel
theorem dX12_readThing_83 : decode cX12_readThing 83 = .ok (.bipush 45, 2) := by decide +kernel
theorem dX12_readThing_85 : decode cX12_readThing 85 = .ok (.invokevirtual 170, 3) := by decide +kernel
theorem dX12_readThing_88 : decode cX12_readThing 88 = .ok (.aload_n 0, 1) := by decide +kernel
theorem dX12_readThing_89 : decode cX12_readThing 89 = .ok (.getfield 29, 3) := by decide +kernel
theorem dX12_readThing_92 : decode cX12_readThing 92 = .ok (.iload_n 1, 1) := by decide +kernel
theorem dX12_readThing_93 : decode cX12_readThing 93 = .ok (.iconst 3, 1) := by decide +kernel
theorem dX12_readThing_94 : decode cX12_readThing 94 = .ok (.iadd, 1) := by decide +kernel
theorem dX12_readThing_95 : decode cX12_readThing 95 = .ok (.aload_n 0, 1) := by decide +kernel
theorem dX12_readThing_96 : decode cX12_readThing 96 = .ok (.iconst 2, 1) := by decide +kernel
theorem dX12_readThing_97 : decode cX12_readThing 97 = .ok (.invokevirtual 166, 3) := by decide +kernel
theorem dX12_readThing_100 : decode cX12_readThing 100 = .ok (.iastore, 1) := by decide +kernel
theorem dX12_readThing_101 : decode cX12_readThing 101 = .ok (.aload_n 0, 1) := by decide +kernel
theorem dX12_readThing_102 : decode cX12_readThing 102 = .ok (.bipush 61, 2) := by decide +kernel
theorem dX12_readThing_104 : decode cX12_readThing 104 = .ok (.invokevirtual 170, 3) := by decide +kernel
theorem dX12_readThing_107 : decode cX12_readThing 107 = .ok (.aload_n 0, 1) := by decide +kernel
theorem dX12_readThing_108 : decode cX12_readThing 108 = .ok (.getfield 29, 3) := by decide +kernel
theorem dX12_readThing_111 : decode cX12_readThing 111 = .ok (.iload_n 1, 1) := by decide +kernel
theorem dX12_readThing_112 : decode cX12_readThing 112 = .ok (.iconst 4, 1) := by decide +kernel
theorem dX12_readThing_113 : decode cX12_readThing 113 = .ok (.iadd, 1) := by decide +kernel
theorem dX12_readThing_114 : decode cX12_readThing 114 = .ok (.aload_n 0, 1) := by decide +kernel
theorem dX12_readThing_115 : decode cX12_readThing 115 = .ok (.iconst 2, 1) := by decide +kernel
theorem dX12_readThing_116 : decode cX12_readThing 116 = .ok (.invokevirtual 166, 3) := by decide +kernel
theorem dX12_readThing_119 : decode cX12_readThing 119 = .ok (.iastore, 1) := by decide +kernel
theorem dX12_readThing_120 : decode cX12_readThing 120 = .ok (.return_, 1) := by decide +kernel
abbrev YX12_readThing : li_Y := (yX12_readThing, cX12_readThing, 2, none)
theorem dX12_things_0 : decode cX12_things 0 = .ok (.aload_n 0, 1) := by decide +kernel
theorem dX12_things_1 : decode cX12_things 1 = .ok (.iconst 0, 1) := by decide +kernel
theorem dX12_things_2 : decode cX12_things 2 = .ok (.putfield 103, 3) := by decide +kernel
theorem dX12_things_5 : decode cX12_things 5 = .ok (.aload_n 0, 1) := by decide +kernel
theorem dX12_things_6 : decode cX12_things 6 = .ok (.aload_n 0, 1) := by decide +kernel
theorem dX12_things_7 : decode cX12_things 7 = .ok (.getfield 22, 3) := by decide +kernel
theorem dX12_things_10 : decode cX12_things 10 = .ok (.aload_n 0, 1) := by decide +kernel
theorem dX12_things_11 : decode cX12_things 11 = .ok (.getfield 124, 3) := by decide +kernel
theorem dX12_things_14 : decode cX12_things 14 = .ok (.bipush 76, 2) := by decide +kernel
theorem dX12_things_16 : decode cX12_things 16 = .ok (.invokevirtual 162, 3) := by decide +kernel
theorem dX12_things_19 : decode cX12_things 19 = .ok (.aload_n 0, 1) := by decide +kernel
theorem dX12_things_20 : decode cX12_things 20 = .ok (.iconst 0, 1) := by decide +kernel
theorem dX12_things_21 : decode cX12_things 21 = .ok (.putfield 124, 3) := by decide +kernel
theorem dX12_things_24 : decode cX12_things 24 = .ok (.aload_n 0, 1) := by decide +kernel
theorem dX12_things_25 : decode cX12_things 25 = .ok (.getfield 130, 3) := by decide +kernel
theorem dX12_things_28 : decode cX12_things 28 = .ok (.ifCond .ne 5, 3) := by decide +kernel
theorem dX12_things_31 : decode cX12_things 31 = .ok (.iconst 0, 1) := by decide +kernel
theorem dX12_things_32 : decode cX12_things 32 = .ok (.ireturn, 1) := by decide +kernel
theorem dX12_things_33 : decode cX12_things 33 = .ok (.iconst 0, 1) := by decide +kernel
theorem dX12_things_34 : decode cX12_things 34 = .ok (.istore_n 1, 1) := by decide +kernel
theorem dX12_things_35 : decode cX12_things 35 = .ok (.iconst 1, 1) := by decide +kernel
theorem dX12_things_36 : decode cX12_things 36 = .ok (.istore_n 2, 1) := by decide +kernel
theorem dX12_things_37 : decode cX12_things 37 = .ok (.iload_n 2, 1) := by decide +kernel
theorem dX12_things_38 : decode cX12_things 38 = .ok (.ifCond .eq 52, 3) := by decide +kernel
theorem dX12_things_41 : decode cX12_things 41 = .ok (.aload_n 0, 1) := by decide +kernel
theorem dX12_things_42 : decode cX12_things 42 = .ok (.invokevirtual 142, 3) := by decide +kernel
theorem dX12_things_45 : decode cX12_things 45 = .ok (.ifCond .eq 45, 3) := by decide +kernel
theorem dX12_things_48 : decode cX12_things 48 = .ok (.aload_n 0, 1) := by decide +kernel
theorem dX12_things_49 : decode cX12_things 49 = .ok (.getfield 121, 3) := by decide +kernel
theorem dX12_things_52 : decode cX12_things 52 = .ok (.iload_n 1, 1) := by decide +kernel
theorem dX12_things_53 : decode cX12_things 53 = .ok (.iadd, 1) := by decide +kernel
theorem dX12_things_54 : decode cX12_things 54 = .ok (.bipush 8, 2) := by decide +kernel
theorem dX12_things_56 : decode cX12_things 56 = .ok (.if_icmp .ne 14, 3) := by decide +kernel
theorem dX12_things_59 : decode cX12_things 59 = .ok (.aload_n 0, 1) := by decide +kernel
theorem dX12_things_60 : decode cX12_things 60 = .ok (.aload_n 0, 1) := by decide +kernel
theorem dX12_things_61 : decode cX12_things 61 = .ok (.getfield 136, 3) := by decide +kernel
theorem dX12_things_64 : decode cX12_things 64 = .ok (.invokevirtual 154, 3) := by decide +kernel
theorem dX12_things_67 : decode cX12_things 67 = .ok (.goto 10, 3) := by decide +kernel
theorem dX12_things_70 : decode cX12_things 70 = .ok (.aload_n 0, 1) := by decide +kernel
theorem dX12_things_71 : decode cX12_things 71 = .ok (.iconst 5, 1) := by decide +kernel
theorem dX12_things_72 : decode cX12_things 72 = .ok (.iload_n 1, 1) := by decide +kernel
theorem dX12_things_73 : decode cX12_things 73 = .ok (.imul, 1) := by decide +kernel
theorem dX12_things_74 : decode cX12_things 74 = .ok (.invokevirtual 180, 3) := by decide +kernel
theorem dX12_things_77 : decode cX12_things 77 = .ok (.iinc 1 1, 3) := by decide +kernel
theorem dX12_things_80 : decode cX12_things 80 = .ok (.aload_n 0, 1) := by decide +kernel
theorem dX12_things_81 : decode cX12_things 81 = .ok (.bipush 59, 2) := by decide +kernel
theorem dX12_things_83 : decode cX12_things 83 = .ok (.invokevirtual 150, 3) := by decide +kernel
theorem dX12_things_86 : decode cX12_things 86 = .ok (.istore_n 2, 1) := by decide +kernel
theorem dX12_things_87 : decode cX12_things 87 = .ok (.goto (-50), 3) := by decide +kernel
theorem dX12_things_90 : decode cX12_things 90 = .ok (.aload_n 0, 1) := by decide +kernel
theorem dX12_things_91 : decode cX12_things 91 = .ok (.getfield 136, 3) := by decide +kernel
theorem dX12_things_94 : decode cX12_things 94 = .ok (.aload_n 0, 1) := by decide +kernel
theorem dX12_things_95 : decode cX12_things 95 = .ok (.getfield 130, 3) := by decide +kernel
theorem dX12_things_98 : decode cX12_things 98 = .ok (.if_icmp .ge 11, 3) := by decide +kernel
theorem dX12_things_101 : decode cX12_things 101 = .ok (.aload_n 0, 1) := by decide +kernel
theorem dX12_things_102 : decode cX12_things 102 = .ok (.aload_n 0, 1) := by decide +kernel
theorem dX12_things_103 : decode cX12_things 103 = .ok (.getfield 136, 3) := by decide +kernel
theorem dX12_things_106 : decode cX12_things 106 = .ok (.invokevirtual 154, 3) := by decide +kernel
theorem dX12_things_109 : decode cX12_things 109 = .ok (.aload_n 0, 1) := by decide +kernel
theorem dX12_things_110 : decode cX12_things 110 = .ok (.invokevirtual 142, 3) := by decide +kernel
theorem dX12_things_113 : decode cX12_things 113 = .ok (.ifCond .ne 10, 3) := by decide +kernel
theorem dX12_things_116 : decode cX12_things 116 = .ok (.iconst (-1), 1) := by decide +kernel
theorem dX12_things_117 : decode cX12_things 117 = .ok (.aload_n 0, 1) := by decide +kernel
theorem dX12_things_118 : decode cX12_things 118 = .ok (.getfield 139, 3) := by decide +kernel
theorem dX12_things_121 : decode cX12_things 121 = .ok (.isub, 1) := by decide +kernel
theorem dX12_things_122 : decode cX12_things 122 = .ok (.ireturn, 1) := by decide +kernel
theorem dX12_things_123 : decode cX12_things 123 = .ok (.iconst 0, 1) := by decide +kernel
theorem dX12_things_124 : decode cX12_things 124 = .ok (.istore_n 3, 1) := by decide +kernel
theorem dX12_things_125 : decode cX12_things 125 = .ok (.iload_n 3, 1) := by decide +kernel
theorem dX12_things_126 : decode cX12_things 126 = .ok (.iconst 5, 1) := by decide +kernel
theorem dX12_things_127 : decode cX12_things 127 = .ok (.iload_n 1, 1) := by decide +kernel
theorem dX12_things_128 : decode cX12_things 128 = .ok (.imul, 1) := by decide +kernel
theorem dX12_things_129 : decode cX12_things 129 = .ok (.if_icmp .ge 28, 3) := by decide +kernel
theorem dX12_things_132 : decode cX12_things 132 = .ok (.aload_n 0, 1) := by decide +kernel
theorem dX12_things_133 : decode cX12_things 133 = .ok (.getfield 19, 3) := by decide +kernel
theorem dX12_things_136 : decode cX12_things 136 = .ok (.iconst 5, 1) := by decide +kernel
theorem dX12_things_137 : decode cX12_things 137 = .ok (.aload_n 0, 1) := by decide +kernel
theorem dX12_things_138 : decode cX12_things 138 = .ok (.getfield 121, 3) := by decide +kernel
theorem dX12_things_141 : decode cX12_things 141 = .ok (.imul, 1) := by decide +kernel
theorem dX12_things_142 : decode cX12_things 142 = .ok (.iload_n 3, 1) := by decide +kernel
theorem dX12_things_143 : decode cX12_things 143 = .ok (.iadd, 1) := by decide +kernel
theorem dX12_things_144 : decode cX12_things 144 = .ok (.aload_n 0, 1) := by decide +kernel
theorem dX12_things_145 : decode cX12_things 145 = .ok (.getfield 29, 3) := by decide +kernel
theorem dX12_things_148 : decode cX12_things 148 = .ok (.iload_n 3, 1) := by decide +kernel
theorem dX12_things_149 : decode cX12_things 149 = .ok (.iaload, 1) := by decide +kernel
theorem dX12_things_150 : decode cX12_things 150 = .ok (.iastore, 1) := by decide +kernel
theorem dX12_things_151 : decode cX12_things 151 = .ok (.iinc 3 1, 3) := by decide +kernel
theorem dX12_things_154 : decode cX12_things 154 = .ok (.goto (-29), 3) := by decide +kernel
theorem dX12_things_157 : decode cX12_things 157 = .ok (.aload_n 0, 1) := by decide +kernel
theorem dX12_things_158 : decode cX12_things 158 = .ok (.dup, 1) := by decide +kernel
theorem dX12_things_159 : decode cX12_things 159 = .ok (.getfield 121, 3) := by decide +kernel
theorem dX12_things_162 : decode cX12_things 162 = .ok (.iload_n 1, 1) := by decide +kernel
theorem dX12_things_163 : decode cX12_things 163 = .ok (.iadd, 1) := by decide +kernel
theorem dX12_things_164 : decode cX12_things 164 = .ok (.putfield 121, 3) := by decide +kernel
theorem dX12_things_167 : decode cX12_things 167 = .ok (.aload_n 0, 1) := by decide +kernel
theorem dX12_things_168 : decode cX12_things 168 = .ok (.iconst 0, 1) := by decide +kernel
theorem dX12_things_169 : decode cX12_things 169 = .ok (.putfield 174, 3) := by decide +kernel
theorem dX12_things_172 : decode cX12_things 172 = .ok (.aload_n 0, 1) := by decide +kernel
theorem dX12_things_173 : decode cX12_things 173 = .ok (.dup, 1) := by decide +kernel
theorem dX12_things_174 : decode cX12_things 174 = .ok (.getfield 177, 3) := by decide +kernel
theorem dX12_things_177 : decode cX12_things 177 = .ok (.iconst 1, 1) := by decide +kernel
theorem dX12_things_178 : decode cX12_things 178 = .ok (.iadd, 1) := by decide +kernel
theorem dX12_things_179 : decode cX12_things 179 = .ok (.putfield 177, 3) := by decide +kernel
theorem dX12_things_182 : decode cX12_things 182 = .ok (.iload_n 1, 1) := by decide +kernel
theorem dX12_things_183 : decode cX12_things 183 = .ok (.ireturn, 1) := by decide +kernel
abbrev YX12_things : li_Y := (yX12_things, cX12_things, 4, (some .int))
set_option maxRecDepth 100000 in
set_option maxHeartbeats 4000000 in
theorem k_X12_readThing {l : Launch} {Z : li_Z} (d : Nat) (hd : 5 ≤ d) (p1 : Int32) (M0 : li_M) (hJ : li_J M0) (h1 : 0 ≤ p1.toInt ∧ p1.toInt ≤ 35) : li_Met l Z YX12_readThing d [.ref (Z.2.2 175), .int p1] M0 (fun r M' => r = none ∧ li_fs (fun i k => (i = 182 ∧ p1.toInt ≤ ((k : Nat) : Int) ∧ ((k : Nat) : Int) < p1.toInt + 5) ∨ (i = 175 ∧ k = 14) ∨ (i = 175 ∧ k = 15)) M0 M' ∧ li_J M' ∧ (((M0.1 175 15).toInt ≤ (M'.1 175 15).toInt) ∧ 0 ≤ (M'.1 182 (p1.toNatClampNeg)).toInt ∧ (M'.1 182 (p1.toNatClampNeg)).toInt ≤ 5 ∧ 0 ≤ (M'.1 182 (p1.toNatClampNeg + 1)).toInt ∧ (M'.1 182 (p1.toNatClampNeg + 1)).toInt ≤ 5)) := by
  refine li_enter (by decide +kernel) (Nat.le_of_ble_eq_true rfl) ?_
  show li_T l Z YX12_readThing d 0 [(0, .ref (Z.2.2 175)), (1, .int p1)] [] M0 _
  have hf : li_fs (fun i k => (i = 182 ∧ p1.toInt ≤ ((k : Nat) : Int) ∧ ((k : Nat) : Int) < p1.toInt + 5) ∨ (i = 175 ∧ k = 14) ∨ (i = 175 ∧ k = 15)) M0 M0 := li_fs_refl
  have gp1 := tl_rg p1
  have rM0_12 := J_sl12 (M := M0) hJ
  have rM0_13 := J_sl13 (M := M0) hJ
  have rM0_14 := J_sl14 (M := M0) hJ
  have rM0_15 := J_sl15 (M := M0) hJ
  refine li_aload_n 0 dX12_readThing_0 rfl ?_
  refine li_getr (k := 16) (N := 52) (T := TX12) (C0 := RX12) dX12_readThing_1 (by decide) sh_175 rfl rfl (by decide) (by decide) li_in12 w_1420 ?_
  refine li_iload_n 1 dX12_readThing_4 rfl ?_
  refine li_aload_n 0 dX12_readThing_5 rfl ?_
  refine li_bipush 97 dX12_readThing_6 (by decide) ?_
  refine li_aload_n 0 dX12_readThing_8 rfl ?_
  refine li_geti (k := 1) (N := 52) (T := TX12) (C0 := RX12) dX12_readThing_9 (by decide) sh_175 rfl rfl (by decide) li_in12 w_1405 ?_
  refine li_top (fun x1 ex1 => ?_)
  have gx1 : 0 ≤ x1.toInt ∧ x1.toInt ≤ 6 := by rw [ex1]; exact J_sl1 hJ
  have sx1 : x1.toInt = (M0.1 175 1).toInt := tl_slot (ex1.trans (hf.1 175 1 (show ¬ ((175 = 182 ∧ p1.toInt ≤ ((1 : Nat) : Int) ∧ ((1 : Nat) : Int) < p1.toInt + 5) ∨ (175 = 175 ∧ 1 = 14) ∨ (175 = 175 ∧ 1 = 15)) by omega)))
  refine li_iconst (-1) dX12_readThing_12 (by decide) ?_
  have z97 : (97 : Int32).toInt = 97 := rfl
  have zm1 : ((-1) : Int32).toInt = -1 := rfl
  refine li_callV (n := 3) (As := [.int 97, .int x1, .int (-1)]) dX12_readThing_13 (k_X12_oneOfW (d - 1) (by omega) 97 x1 (-1) M0 hJ (by omega) (by omega)) (by omega) (Nat.le_of_ble_eq_true rfl) w_1593 w_1595 w_46 w_112 w_1596 (by decide +kernel) rfl (by decide) sh_175 rfl rfl (Nat.le_of_ble_eq_true rfl) (fun r M3 h4 => ?_)
  obtain ⟨⟨x2, rfl, qx2⟩, h4, jM3⟩ := h4
  have gx2 := tl_rg x2
  have hf := li_fs_trans hf h4 (fun i k => fun h => Or.elim h (fun h => Or.inr (Or.inl h)) (fun h => Or.inr (Or.inr h)))
  have hJ := jM3
  have rM3_12 := J_sl12 (M := M3) hJ
  have rM3_13 := J_sl13 (M := M3) hJ
  have rM3_14 := J_sl14 (M := M3) hJ
  have rM3_15 := J_sl15 (M := M3) hJ
  have mM3_12 : (M3.1 175 12).toInt = (M0.1 175 12).toInt := tl_slot (h4.1 175 12 (show ¬ ((175 = 175 ∧ 12 = 14) ∨ (175 = 175 ∧ 12 = 15)) by decide))
  have mM3_13 : (M3.1 175 13).toInt = (M0.1 175 13).toInt := tl_slot (h4.1 175 13 (show ¬ ((175 = 175 ∧ 13 = 14) ∨ (175 = 175 ∧ 13 = 15)) by decide))
  have aM3_182_p1toNatClampNeg : (M3.1 182 (p1.toNatClampNeg)).toInt = (M0.1 182 (p1.toNatClampNeg)).toInt := tl_slot (h4.1 182 (p1.toNatClampNeg) (show ¬ ((182 = 175 ∧ p1.toNatClampNeg = 14) ∨ (182 = 175 ∧ p1.toNatClampNeg = 15)) by omega))
  have aM3_182_p1toNatClampNeg1 : (M3.1 182 (p1.toNatClampNeg + 1)).toInt = (M0.1 182 (p1.toNatClampNeg + 1)).toInt := tl_slot (h4.1 182 (p1.toNatClampNeg + 1) (show ¬ ((182 = 175 ∧ p1.toNatClampNeg + 1 = 14) ∨ (182 = 175 ∧ p1.toNatClampNeg + 1 = 15)) by omega))
  refine li_iast dX12_readThing_16 (by decide) sh_182 (tl_in (by omega)) ?_
  refine li_nm (fun M5 eM5 => ?_)
  have hf := li_fs_ui hf (show (182 = 182 ∧ p1.toInt ≤ (((p1 : Int32).toNatClampNeg : Nat) : Int) ∧ (((p1 : Int32).toNatClampNeg : Nat) : Int) < p1.toInt + 5) ∨ (182 = 175 ∧ (p1 : Int32).toNatClampNeg = 14) ∨ (182 = 175 ∧ (p1 : Int32).toNatClampNeg = 15) by have h9 := li_cl (i := p1) (by omega); omega) eM5
  have hJ := hJ.st (by decide) (li_el_free (by unfold li_led; omega) (by decide) (by decide) (by unfold li_rq; omega)) eM5
  have rM5_12 := J_sl12 (M := M5) hJ
  have rM5_13 := J_sl13 (M := M5) hJ
  have rM5_14 := J_sl14 (M := M5) hJ
  have rM5_15 := J_sl15 (M := M5) hJ
  have mM5_12 : (M5.1 175 12).toInt = (M3.1 175 12).toInt := by rw [eM5, li_ui_at, if_neg (by decide)]
  have mM5_13 : (M5.1 175 13).toInt = (M3.1 175 13).toInt := by rw [eM5, li_ui_at, if_neg (by decide)]
  have mM5_14 : (M5.1 175 14).toInt = (M3.1 175 14).toInt := by rw [eM5, li_ui_at, if_neg (by decide)]
  have mM5_15 : (M5.1 175 15).toInt = (M3.1 175 15).toInt := by rw [eM5, li_ui_at, if_neg (by decide)]
  first | (have aM5_182_p1toNatClampNeg : (M5.1 182 (p1.toNatClampNeg)).toInt = (x2 : Int32).toInt := by rw [eM5, li_ui_at, if_pos rfl, if_pos (show p1.toNatClampNeg = (p1 : Int32).toNatClampNeg by have h9 := li_cl (i := p1) (by omega); have h8 := li_cl (i := p1) (by omega); omega)]) | (have aM5_182_p1toNatClampNeg : (M5.1 182 (p1.toNatClampNeg)).toInt = (M3.1 182 (p1.toNatClampNeg)).toInt := by rw [eM5, li_ui_at, if_pos rfl, if_neg (show ¬ p1.toNatClampNeg = (p1 : Int32).toNatClampNeg by have h9 := li_cl (i := p1) (by omega); have h8 := li_cl (i := p1) (by omega); omega)]) | skip
  first | (have aM5_182_p1toNatClampNeg1 : (M5.1 182 (p1.toNatClampNeg + 1)).toInt = (x2 : Int32).toInt := by rw [eM5, li_ui_at, if_pos rfl, if_pos (show p1.toNatClampNeg + 1 = (p1 : Int32).toNatClampNeg by have h9 := li_cl (i := p1) (by omega); have h8 := li_cl (i := p1) (by omega); omega)]) | (have aM5_182_p1toNatClampNeg1 : (M5.1 182 (p1.toNatClampNeg + 1)).toInt = (M3.1 182 (p1.toNatClampNeg + 1)).toInt := by rw [eM5, li_ui_at, if_pos rfl, if_neg (show ¬ p1.toNatClampNeg + 1 = (p1 : Int32).toNatClampNeg by have h9 := li_cl (i := p1) (by omega); have h8 := li_cl (i := p1) (by omega); omega)]) | skip
  refine li_aload_n 0 dX12_readThing_17 rfl ?_
  refine li_getr (k := 16) (N := 52) (T := TX12) (C0 := RX12) dX12_readThing_18 (by decide) sh_175 rfl rfl (by decide) (by decide) li_in12 w_1420 ?_
  refine li_iload_n 1 dX12_readThing_21 rfl ?_
  refine li_iconst 1 dX12_readThing_22 (by decide) ?_
  refine li_iadd dX12_readThing_23 ?_
  refine li_top (fun x6 ex6 => ?_)
  have z1 : (1 : Int32).toInt = 1 := rfl
  try (have tx6 : x6.toInt = (p1 : Int32).toInt + (1 : Int32).toInt := tl_add ex6 (by omega))
  refine li_aload_n 0 dX12_readThing_24 rfl ?_
  refine li_bipush 97 dX12_readThing_25 (by decide) ?_
  refine li_aload_n 0 dX12_readThing_27 rfl ?_
  refine li_geti (k := 1) (N := 52) (T := TX12) (C0 := RX12) dX12_readThing_28 (by decide) sh_175 rfl rfl (by decide) li_in12 w_1405 ?_
  refine li_top (fun x7 ex7 => ?_)
  have gx7 : 0 ≤ x7.toInt ∧ x7.toInt ≤ 6 := by rw [ex7]; exact J_sl1 hJ
  have sx7 : x7.toInt = (M0.1 175 1).toInt := tl_slot (ex7.trans (hf.1 175 1 (show ¬ ((175 = 182 ∧ p1.toInt ≤ ((1 : Nat) : Int) ∧ ((1 : Nat) : Int) < p1.toInt + 5) ∨ (175 = 175 ∧ 1 = 14) ∨ (175 = 175 ∧ 1 = 15)) by omega)))
  refine li_aload_n 0 dX12_readThing_31 rfl ?_
  refine li_getr (k := 16) (N := 52) (T := TX12) (C0 := RX12) dX12_readThing_32 (by decide) sh_175 rfl rfl (by decide) (by decide) li_in12 w_1420 ?_
  refine li_iload_n 1 dX12_readThing_35 rfl ?_
  refine li_iald dX12_readThing_36 (by decide) sh_182 (tl_in (by omega)) ?_
  refine li_top (fun x8 ex8 => ?_)
  have gx8 := tl_rg x8
  have z97 : (97 : Int32).toInt = 97 := rfl
  refine li_callV (n := 3) (As := [.int 97, .int x7, .int x8]) dX12_readThing_37 (k_X12_oneOfW (d - 1) (by omega) 97 x7 x8 M5 hJ (by omega) (by omega)) (by omega) (Nat.le_of_ble_eq_true rfl) w_1593 w_1595 w_46 w_112 w_1596 (by decide +kernel) rfl (by decide) sh_175 rfl rfl (Nat.le_of_ble_eq_true rfl) (fun r M10 h11 => ?_)
  obtain ⟨⟨x9, rfl, qx9⟩, h11, jM10⟩ := h11
  have gx9 := tl_rg x9
  have hf := li_fs_trans hf h11 (fun i k => fun h => Or.elim h (fun h => Or.inr (Or.inl h)) (fun h => Or.inr (Or.inr h)))
  have hJ := jM10
  have rM10_12 := J_sl12 (M := M10) hJ
  have rM10_13 := J_sl13 (M := M10) hJ
  have rM10_14 := J_sl14 (M := M10) hJ
  have rM10_15 := J_sl15 (M := M10) hJ
  have mM10_12 : (M10.1 175 12).toInt = (M5.1 175 12).toInt := tl_slot (h11.1 175 12 (show ¬ ((175 = 175 ∧ 12 = 14) ∨ (175 = 175 ∧ 12 = 15)) by decide))
  have mM10_13 : (M10.1 175 13).toInt = (M5.1 175 13).toInt := tl_slot (h11.1 175 13 (show ¬ ((175 = 175 ∧ 13 = 14) ∨ (175 = 175 ∧ 13 = 15)) by decide))
  have aM10_182_p1toNatClampNeg : (M10.1 182 (p1.toNatClampNeg)).toInt = (M5.1 182 (p1.toNatClampNeg)).toInt := tl_slot (h11.1 182 (p1.toNatClampNeg) (show ¬ ((182 = 175 ∧ p1.toNatClampNeg = 14) ∨ (182 = 175 ∧ p1.toNatClampNeg = 15)) by omega))
  have aM10_182_p1toNatClampNeg1 : (M10.1 182 (p1.toNatClampNeg + 1)).toInt = (M5.1 182 (p1.toNatClampNeg + 1)).toInt := tl_slot (h11.1 182 (p1.toNatClampNeg + 1) (show ¬ ((182 = 175 ∧ p1.toNatClampNeg + 1 = 14) ∨ (182 = 175 ∧ p1.toNatClampNeg + 1 = 15)) by omega))
  refine li_iast dX12_readThing_40 (by decide) sh_182 (tl_in (by omega)) ?_
  refine li_nm (fun M12 eM12 => ?_)
  have hf := li_fs_ui hf (show (182 = 182 ∧ p1.toInt ≤ (((x6 : Int32).toNatClampNeg : Nat) : Int) ∧ (((x6 : Int32).toNatClampNeg : Nat) : Int) < p1.toInt + 5) ∨ (182 = 175 ∧ (x6 : Int32).toNatClampNeg = 14) ∨ (182 = 175 ∧ (x6 : Int32).toNatClampNeg = 15) by have h9 := li_cl (i := x6) (by omega); omega) eM12
  have hJ := hJ.st (by decide) (li_el_free (by unfold li_led; omega) (by decide) (by decide) (by unfold li_rq; omega)) eM12
  have rM12_12 := J_sl12 (M := M12) hJ
  have rM12_13 := J_sl13 (M := M12) hJ
  have rM12_14 := J_sl14 (M := M12) hJ
  have rM12_15 := J_sl15 (M := M12) hJ
  have mM12_12 : (M12.1 175 12).toInt = (M10.1 175 12).toInt := by rw [eM12, li_ui_at, if_neg (by decide)]
  have mM12_13 : (M12.1 175 13).toInt = (M10.1 175 13).toInt := by rw [eM12, li_ui_at, if_neg (by decide)]
  have mM12_14 : (M12.1 175 14).toInt = (M10.1 175 14).toInt := by rw [eM12, li_ui_at, if_neg (by decide)]
  have mM12_15 : (M12.1 175 15).toInt = (M10.1 175 15).toInt := by rw [eM12, li_ui_at, if_neg (by decide)]
  first | (have aM12_182_p1toNatClampNeg : (M12.1 182 (p1.toNatClampNeg)).toInt = (x9 : Int32).toInt := by rw [eM12, li_ui_at, if_pos rfl, if_pos (show p1.toNatClampNeg = (x6 : Int32).toNatClampNeg by have h9 := li_cl (i := x6) (by omega); have h8 := li_cl (i := p1) (by omega); omega)]) | (have aM12_182_p1toNatClampNeg : (M12.1 182 (p1.toNatClampNeg)).toInt = (M10.1 182 (p1.toNatClampNeg)).toInt := by rw [eM12, li_ui_at, if_pos rfl, if_neg (show ¬ p1.toNatClampNeg = (x6 : Int32).toNatClampNeg by have h9 := li_cl (i := x6) (by omega); have h8 := li_cl (i := p1) (by omega); omega)]) | skip
  first | (have aM12_182_p1toNatClampNeg1 : (M12.1 182 (p1.toNatClampNeg + 1)).toInt = (x9 : Int32).toInt := by rw [eM12, li_ui_at, if_pos rfl, if_pos (show p1.toNatClampNeg + 1 = (x6 : Int32).toNatClampNeg by have h9 := li_cl (i := x6) (by omega); have h8 := li_cl (i := p1) (by omega); omega)]) | (have aM12_182_p1toNatClampNeg1 : (M12.1 182 (p1.toNatClampNeg + 1)).toInt = (M10.1 182 (p1.toNatClampNeg + 1)).toInt := by rw [eM12, li_ui_at, if_pos rfl, if_neg (show ¬ p1.toNatClampNeg + 1 = (x6 : Int32).toNatClampNeg by have h9 := li_cl (i := x6) (by omega); have h8 := li_cl (i := p1) (by omega); omega)]) | skip
  refine li_aload_n 0 dX12_readThing_41 rfl ?_
  refine li_getr (k := 16) (N := 52) (T := TX12) (C0 := RX12) dX12_readThing_42 (by decide) sh_175 rfl rfl (by decide) (by decide) li_in12 w_1420 ?_
  refine li_iload_n 1 dX12_readThing_45 rfl ?_
  refine li_iconst 2 dX12_readThing_46 (by decide) ?_
  refine li_iadd dX12_readThing_47 ?_
  refine li_top (fun x13 ex13 => ?_)
  have z2 : (2 : Int32).toInt = 2 := rfl
  try (have tx13 : x13.toInt = (p1 : Int32).toInt + (2 : Int32).toInt := tl_add ex13 (by omega))
  refine li_aload_n 0 dX12_readThing_48 rfl ?_
  refine li_iconst 2 dX12_readThing_49 (by decide) ?_
  have z2 : (2 : Int32).toInt = 2 := rfl
  refine li_callV (n := 1) (As := [.int 2]) dX12_readThing_50 (k_X12_numberW (d - 1) (by omega) 2 M12 hJ ) (by omega) (Nat.le_of_ble_eq_true rfl) w_1589 w_1591 w_45 w_112 w_1592 (by decide +kernel) rfl (by decide) sh_175 rfl rfl (Nat.le_of_ble_eq_true rfl) (fun r M15 h16 => ?_)
  obtain ⟨⟨x14, rfl, qx14⟩, h16, jM15⟩ := h16
  have gx14 := tl_rg x14
  have hf := li_fs_trans hf h16 (fun i k => fun h => Or.elim h (fun h => Or.inr (Or.inl h)) (fun h => Or.inr (Or.inr h)))
  have hJ := jM15
  have rM15_12 := J_sl12 (M := M15) hJ
  have rM15_13 := J_sl13 (M := M15) hJ
  have rM15_14 := J_sl14 (M := M15) hJ
  have rM15_15 := J_sl15 (M := M15) hJ
  have mM15_12 : (M15.1 175 12).toInt = (M12.1 175 12).toInt := tl_slot (h16.1 175 12 (show ¬ ((175 = 175 ∧ 12 = 14) ∨ (175 = 175 ∧ 12 = 15)) by decide))
  have mM15_13 : (M15.1 175 13).toInt = (M12.1 175 13).toInt := tl_slot (h16.1 175 13 (show ¬ ((175 = 175 ∧ 13 = 14) ∨ (175 = 175 ∧ 13 = 15)) by decide))
  have aM15_182_p1toNatClampNeg : (M15.1 182 (p1.toNatClampNeg)).toInt = (M12.1 182 (p1.toNatClampNeg)).toInt := tl_slot (h16.1 182 (p1.toNatClampNeg) (show ¬ ((182 = 175 ∧ p1.toNatClampNeg = 14) ∨ (182 = 175 ∧ p1.toNatClampNeg = 15)) by omega))
  have aM15_182_p1toNatClampNeg1 : (M15.1 182 (p1.toNatClampNeg + 1)).toInt = (M12.1 182 (p1.toNatClampNeg + 1)).toInt := tl_slot (h16.1 182 (p1.toNatClampNeg + 1) (show ¬ ((182 = 175 ∧ p1.toNatClampNeg + 1 = 14) ∨ (182 = 175 ∧ p1.toNatClampNeg + 1 = 15)) by omega))
  refine li_iast dX12_readThing_53 (by decide) sh_182 (tl_in (by omega)) ?_
  refine li_nm (fun M17 eM17 => ?_)
  have hf := li_fs_ui hf (show (182 = 182 ∧ p1.toInt ≤ (((x13 : Int32).toNatClampNeg : Nat) : Int) ∧ (((x13 : Int32).toNatClampNeg : Nat) : Int) < p1.toInt + 5) ∨ (182 = 175 ∧ (x13 : Int32).toNatClampNeg = 14) ∨ (182 = 175 ∧ (x13 : Int32).toNatClampNeg = 15) by have h9 := li_cl (i := x13) (by omega); omega) eM17
  have hJ := hJ.st (by decide) (li_el_free (by unfold li_led; omega) (by decide) (by decide) (by unfold li_rq; omega)) eM17
  have rM17_12 := J_sl12 (M := M17) hJ
  have rM17_13 := J_sl13 (M := M17) hJ
  have rM17_14 := J_sl14 (M := M17) hJ
  have rM17_15 := J_sl15 (M := M17) hJ
  have mM17_12 : (M17.1 175 12).toInt = (M15.1 175 12).toInt := by rw [eM17, li_ui_at, if_neg (by decide)]
  have mM17_13 : (M17.1 175 13).toInt = (M15.1 175 13).toInt := by rw [eM17, li_ui_at, if_neg (by decide)]
  have mM17_14 : (M17.1 175 14).toInt = (M15.1 175 14).toInt := by rw [eM17, li_ui_at, if_neg (by decide)]
  have mM17_15 : (M17.1 175 15).toInt = (M15.1 175 15).toInt := by rw [eM17, li_ui_at, if_neg (by decide)]
  first | (have aM17_182_p1toNatClampNeg : (M17.1 182 (p1.toNatClampNeg)).toInt = (x14 : Int32).toInt := by rw [eM17, li_ui_at, if_pos rfl, if_pos (show p1.toNatClampNeg = (x13 : Int32).toNatClampNeg by have h9 := li_cl (i := x13) (by omega); have h8 := li_cl (i := p1) (by omega); omega)]) | (have aM17_182_p1toNatClampNeg : (M17.1 182 (p1.toNatClampNeg)).toInt = (M15.1 182 (p1.toNatClampNeg)).toInt := by rw [eM17, li_ui_at, if_pos rfl, if_neg (show ¬ p1.toNatClampNeg = (x13 : Int32).toNatClampNeg by have h9 := li_cl (i := x13) (by omega); have h8 := li_cl (i := p1) (by omega); omega)]) | skip
  first | (have aM17_182_p1toNatClampNeg1 : (M17.1 182 (p1.toNatClampNeg + 1)).toInt = (x14 : Int32).toInt := by rw [eM17, li_ui_at, if_pos rfl, if_pos (show p1.toNatClampNeg + 1 = (x13 : Int32).toNatClampNeg by have h9 := li_cl (i := x13) (by omega); have h8 := li_cl (i := p1) (by omega); omega)]) | (have aM17_182_p1toNatClampNeg1 : (M17.1 182 (p1.toNatClampNeg + 1)).toInt = (M15.1 182 (p1.toNatClampNeg + 1)).toInt := by rw [eM17, li_ui_at, if_pos rfl, if_neg (show ¬ p1.toNatClampNeg + 1 = (x13 : Int32).toNatClampNeg by have h9 := li_cl (i := x13) (by omega); have h8 := li_cl (i := p1) (by omega); omega)]) | skip
  refine li_aload_n 0 dX12_readThing_54 rfl ?_
  refine li_callV (n := 0) (As := []) dX12_readThing_55 (k_X12_fineW (d - 1) (by omega)  M17 hJ ) (by omega) (Nat.le_of_ble_eq_true rfl) w_1581 w_1583 w_43 w_112 w_1584 (by decide +kernel) rfl (by decide) sh_175 rfl rfl (Nat.le_of_ble_eq_true rfl) (fun r M19 h20 => ?_)
  obtain ⟨qx18, h20, jM19⟩ := h20
  have hf := li_fs_trans hf h20 (fun i k h => False.elim h)
  have hJ := jM19
  have rM19_12 := J_sl12 (M := M19) hJ
  have rM19_13 := J_sl13 (M := M19) hJ
  have rM19_14 := J_sl14 (M := M19) hJ
  have rM19_15 := J_sl15 (M := M19) hJ
  have mM19_12 : (M19.1 175 12).toInt = (M17.1 175 12).toInt := tl_slot (h20.1 175 12 id)
  have mM19_13 : (M19.1 175 13).toInt = (M17.1 175 13).toInt := tl_slot (h20.1 175 13 id)
  have mM19_14 : (M19.1 175 14).toInt = (M17.1 175 14).toInt := tl_slot (h20.1 175 14 id)
  have mM19_15 : (M19.1 175 15).toInt = (M17.1 175 15).toInt := tl_slot (h20.1 175 15 id)
  have aM19_182_p1toNatClampNeg : (M19.1 182 (p1.toNatClampNeg)).toInt = (M17.1 182 (p1.toNatClampNeg)).toInt := tl_slot (h20.1 182 (p1.toNatClampNeg) id)
  have aM19_182_p1toNatClampNeg1 : (M19.1 182 (p1.toNatClampNeg + 1)).toInt = (M17.1 182 (p1.toNatClampNeg + 1)).toInt := tl_slot (h20.1 182 (p1.toNatClampNeg + 1) id)
  rcases qx18 with ⟨rfl, qx18⟩ | ⟨rfl, qx18⟩
  · skip
    refine li_if_eq 82 dX12_readThing_58 (by decide) (fun c => absurd c (by decide)) (fun c => ?_)
    refine li_aload_n 0 dX12_readThing_61 rfl ?_
    refine li_getr (k := 16) (N := 52) (T := TX12) (C0 := RX12) dX12_readThing_62 (by decide) sh_175 rfl rfl (by decide) (by decide) li_in12 w_1420 ?_
    refine li_iload_n 1 dX12_readThing_65 rfl ?_
    refine li_iconst 2 dX12_readThing_66 (by decide) ?_
    refine li_iadd dX12_readThing_67 ?_
    refine li_top (fun x22 ex22 => ?_)
    have z2 : (2 : Int32).toInt = 2 := rfl
    try (have tx22 : x22.toInt = (p1 : Int32).toInt + (2 : Int32).toInt := tl_add ex22 (by omega))
    refine li_iald dX12_readThing_68 (by decide) sh_182 (tl_in (by omega)) ?_
    refine li_top (fun x23 ex23 => ?_)
    have gx23 := tl_rg x23
    have J82 : ∀  (M25 : li_M), li_fs (fun i k => (i = 182 ∧ p1.toInt ≤ ((k : Nat) : Int) ∧ ((k : Nat) : Int) < p1.toInt + 5) ∨ (i = 175 ∧ k = 14) ∨ (i = 175 ∧ k = 15)) M0 M25 → li_J M25 → (M0.1 175 15).toInt ≤ (M25.1 175 15).toInt ∧ 0 ≤ (M25.1 182 (p1.toNatClampNeg)).toInt ∧ (M25.1 182 (p1.toNatClampNeg)).toInt ≤ 5 ∧ 0 ≤ (M25.1 182 (p1.toNatClampNeg + 1)).toInt ∧ (M25.1 182 (p1.toNatClampNeg + 1)).toInt ≤ 5 → li_T l Z YX12_readThing d 82 [(0, .ref (Z.2.2 175)), (1, .int p1)] [] M25 (fun r M' => r = none ∧ li_fs (fun i k => (i = 182 ∧ p1.toInt ≤ ((k : Nat) : Int) ∧ ((k : Nat) : Int) < p1.toInt + 5) ∨ (i = 175 ∧ k = 14) ∨ (i = 175 ∧ k = 15)) M0 M' ∧ li_J M' ∧ (((M0.1 175 15).toInt ≤ (M'.1 175 15).toInt) ∧ 0 ≤ (M'.1 182 (p1.toNatClampNeg)).toInt ∧ (M'.1 182 (p1.toNatClampNeg)).toInt ≤ 5 ∧ 0 ≤ (M'.1 182 (p1.toNatClampNeg + 1)).toInt ∧ (M'.1 182 (p1.toNatClampNeg + 1)).toInt ≤ 5)) := by
      intro  M25 hf hJ hi
      have rM25_12 := J_sl12 (M := M25) hJ
      have rM25_13 := J_sl13 (M := M25) hJ
      have rM25_14 := J_sl14 (M := M25) hJ
      have rM25_15 := J_sl15 (M := M25) hJ
      have mM25_12 : (M25.1 175 12).toInt = (M0.1 175 12).toInt := tl_slot (hf.1 175 12 (show ¬ ((175 = 182 ∧ p1.toInt ≤ ((12 : Nat) : Int) ∧ ((12 : Nat) : Int) < p1.toInt + 5) ∨ (175 = 175 ∧ 12 = 14) ∨ (175 = 175 ∧ 12 = 15)) by omega))
      have mM25_13 : (M25.1 175 13).toInt = (M0.1 175 13).toInt := tl_slot (hf.1 175 13 (show ¬ ((175 = 182 ∧ p1.toInt ≤ ((13 : Nat) : Int) ∧ ((13 : Nat) : Int) < p1.toInt + 5) ∨ (175 = 175 ∧ 13 = 14) ∨ (175 = 175 ∧ 13 = 15)) by omega))
      refine li_aload_n 0 dX12_readThing_82 rfl ?_
      refine li_bipush 45 dX12_readThing_83 (by decide) ?_
      have z45 : (45 : Int32).toInt = 45 := rfl
      refine li_callV (n := 1) (As := [.int 45]) dX12_readThing_85 (k_X12_needW (d - 1) (by omega) 45 M25 hJ (by omega)) (by omega) (Nat.le_of_ble_eq_true rfl) w_1601 w_1603 w_48 w_112 w_1604 (by decide +kernel) rfl (by decide) sh_175 rfl rfl (Nat.le_of_ble_eq_true rfl) (fun r M27 h28 => ?_)
      obtain ⟨rfl, h28, jM27, nM27⟩ := h28
      have hf := li_fs_trans hf h28 (fun i k => fun h => Or.elim h (fun h => Or.inr (Or.inl h)) (fun h => Or.inr (Or.inr h)))
      have hJ := jM27
      have rM27_12 := J_sl12 (M := M27) hJ
      have rM27_13 := J_sl13 (M := M27) hJ
      have rM27_14 := J_sl14 (M := M27) hJ
      have rM27_15 := J_sl15 (M := M27) hJ
      have mM27_12 : (M27.1 175 12).toInt = (M25.1 175 12).toInt := tl_slot (h28.1 175 12 (show ¬ ((175 = 175 ∧ 12 = 14) ∨ (175 = 175 ∧ 12 = 15)) by decide))
      have mM27_13 : (M27.1 175 13).toInt = (M25.1 175 13).toInt := tl_slot (h28.1 175 13 (show ¬ ((175 = 175 ∧ 13 = 14) ∨ (175 = 175 ∧ 13 = 15)) by decide))
      have aM27_182_p1toNatClampNeg : (M27.1 182 (p1.toNatClampNeg)).toInt = (M25.1 182 (p1.toNatClampNeg)).toInt := tl_slot (h28.1 182 (p1.toNatClampNeg) (show ¬ ((182 = 175 ∧ p1.toNatClampNeg = 14) ∨ (182 = 175 ∧ p1.toNatClampNeg = 15)) by omega))
      have aM27_182_p1toNatClampNeg1 : (M27.1 182 (p1.toNatClampNeg + 1)).toInt = (M25.1 182 (p1.toNatClampNeg + 1)).toInt := tl_slot (h28.1 182 (p1.toNatClampNeg + 1) (show ¬ ((182 = 175 ∧ p1.toNatClampNeg + 1 = 14) ∨ (182 = 175 ∧ p1.toNatClampNeg + 1 = 15)) by omega))
      refine li_aload_n 0 dX12_readThing_88 rfl ?_
      refine li_getr (k := 16) (N := 52) (T := TX12) (C0 := RX12) dX12_readThing_89 (by decide) sh_175 rfl rfl (by decide) (by decide) li_in12 w_1420 ?_
      refine li_iload_n 1 dX12_readThing_92 rfl ?_
      refine li_iconst 3 dX12_readThing_93 (by decide) ?_
      refine li_iadd dX12_readThing_94 ?_
      refine li_top (fun x29 ex29 => ?_)
      have z3 : (3 : Int32).toInt = 3 := rfl
      try (have tx29 : x29.toInt = (p1 : Int32).toInt + (3 : Int32).toInt := tl_add ex29 (by omega))
      refine li_aload_n 0 dX12_readThing_95 rfl ?_
      refine li_iconst 2 dX12_readThing_96 (by decide) ?_
      have z2 : (2 : Int32).toInt = 2 := rfl
      refine li_callV (n := 1) (As := [.int 2]) dX12_readThing_97 (k_X12_numberW (d - 1) (by omega) 2 M27 hJ ) (by omega) (Nat.le_of_ble_eq_true rfl) w_1589 w_1591 w_45 w_112 w_1592 (by decide +kernel) rfl (by decide) sh_175 rfl rfl (Nat.le_of_ble_eq_true rfl) (fun r M31 h32 => ?_)
      obtain ⟨⟨x30, rfl, qx30⟩, h32, jM31⟩ := h32
      have gx30 := tl_rg x30
      have hf := li_fs_trans hf h32 (fun i k => fun h => Or.elim h (fun h => Or.inr (Or.inl h)) (fun h => Or.inr (Or.inr h)))
      have hJ := jM31
      have rM31_12 := J_sl12 (M := M31) hJ
      have rM31_13 := J_sl13 (M := M31) hJ
      have rM31_14 := J_sl14 (M := M31) hJ
      have rM31_15 := J_sl15 (M := M31) hJ
      have mM31_12 : (M31.1 175 12).toInt = (M27.1 175 12).toInt := tl_slot (h32.1 175 12 (show ¬ ((175 = 175 ∧ 12 = 14) ∨ (175 = 175 ∧ 12 = 15)) by decide))
      have mM31_13 : (M31.1 175 13).toInt = (M27.1 175 13).toInt := tl_slot (h32.1 175 13 (show ¬ ((175 = 175 ∧ 13 = 14) ∨ (175 = 175 ∧ 13 = 15)) by decide))
      have aM31_182_p1toNatClampNeg : (M31.1 182 (p1.toNatClampNeg)).toInt = (M27.1 182 (p1.toNatClampNeg)).toInt := tl_slot (h32.1 182 (p1.toNatClampNeg) (show ¬ ((182 = 175 ∧ p1.toNatClampNeg = 14) ∨ (182 = 175 ∧ p1.toNatClampNeg = 15)) by omega))
      have aM31_182_p1toNatClampNeg1 : (M31.1 182 (p1.toNatClampNeg + 1)).toInt = (M27.1 182 (p1.toNatClampNeg + 1)).toInt := tl_slot (h32.1 182 (p1.toNatClampNeg + 1) (show ¬ ((182 = 175 ∧ p1.toNatClampNeg + 1 = 14) ∨ (182 = 175 ∧ p1.toNatClampNeg + 1 = 15)) by omega))
      refine li_iast dX12_readThing_100 (by decide) sh_182 (tl_in (by omega)) ?_
      refine li_nm (fun M33 eM33 => ?_)
      have hf := li_fs_ui hf (show (182 = 182 ∧ p1.toInt ≤ (((x29 : Int32).toNatClampNeg : Nat) : Int) ∧ (((x29 : Int32).toNatClampNeg : Nat) : Int) < p1.toInt + 5) ∨ (182 = 175 ∧ (x29 : Int32).toNatClampNeg = 14) ∨ (182 = 175 ∧ (x29 : Int32).toNatClampNeg = 15) by have h9 := li_cl (i := x29) (by omega); omega) eM33
      have hJ := hJ.st (by decide) (li_el_free (by unfold li_led; omega) (by decide) (by decide) (by unfold li_rq; omega)) eM33
      have rM33_12 := J_sl12 (M := M33) hJ
      have rM33_13 := J_sl13 (M := M33) hJ
      have rM33_14 := J_sl14 (M := M33) hJ
      have rM33_15 := J_sl15 (M := M33) hJ
      have mM33_12 : (M33.1 175 12).toInt = (M31.1 175 12).toInt := by rw [eM33, li_ui_at, if_neg (by decide)]
      have mM33_13 : (M33.1 175 13).toInt = (M31.1 175 13).toInt := by rw [eM33, li_ui_at, if_neg (by decide)]
      have mM33_14 : (M33.1 175 14).toInt = (M31.1 175 14).toInt := by rw [eM33, li_ui_at, if_neg (by decide)]
      have mM33_15 : (M33.1 175 15).toInt = (M31.1 175 15).toInt := by rw [eM33, li_ui_at, if_neg (by decide)]
      first | (have aM33_182_p1toNatClampNeg : (M33.1 182 (p1.toNatClampNeg)).toInt = (x30 : Int32).toInt := by rw [eM33, li_ui_at, if_pos rfl, if_pos (show p1.toNatClampNeg = (x29 : Int32).toNatClampNeg by have h9 := li_cl (i := x29) (by omega); have h8 := li_cl (i := p1) (by omega); omega)]) | (have aM33_182_p1toNatClampNeg : (M33.1 182 (p1.toNatClampNeg)).toInt = (M31.1 182 (p1.toNatClampNeg)).toInt := by rw [eM33, li_ui_at, if_pos rfl, if_neg (show ¬ p1.toNatClampNeg = (x29 : Int32).toNatClampNeg by have h9 := li_cl (i := x29) (by omega); have h8 := li_cl (i := p1) (by omega); omega)]) | skip
      first | (have aM33_182_p1toNatClampNeg1 : (M33.1 182 (p1.toNatClampNeg + 1)).toInt = (x30 : Int32).toInt := by rw [eM33, li_ui_at, if_pos rfl, if_pos (show p1.toNatClampNeg + 1 = (x29 : Int32).toNatClampNeg by have h9 := li_cl (i := x29) (by omega); have h8 := li_cl (i := p1) (by omega); omega)]) | (have aM33_182_p1toNatClampNeg1 : (M33.1 182 (p1.toNatClampNeg + 1)).toInt = (M31.1 182 (p1.toNatClampNeg + 1)).toInt := by rw [eM33, li_ui_at, if_pos rfl, if_neg (show ¬ p1.toNatClampNeg + 1 = (x29 : Int32).toNatClampNeg by have h9 := li_cl (i := x29) (by omega); have h8 := li_cl (i := p1) (by omega); omega)]) | skip
      refine li_aload_n 0 dX12_readThing_101 rfl ?_
      refine li_bipush 61 dX12_readThing_102 (by decide) ?_
      have z61 : (61 : Int32).toInt = 61 := rfl
      refine li_callV (n := 1) (As := [.int 61]) dX12_readThing_104 (k_X12_needW (d - 1) (by omega) 61 M33 hJ (by omega)) (by omega) (Nat.le_of_ble_eq_true rfl) w_1601 w_1603 w_48 w_112 w_1604 (by decide +kernel) rfl (by decide) sh_175 rfl rfl (Nat.le_of_ble_eq_true rfl) (fun r M35 h36 => ?_)
      obtain ⟨rfl, h36, jM35, nM35⟩ := h36
      have hf := li_fs_trans hf h36 (fun i k => fun h => Or.elim h (fun h => Or.inr (Or.inl h)) (fun h => Or.inr (Or.inr h)))
      have hJ := jM35
      have rM35_12 := J_sl12 (M := M35) hJ
      have rM35_13 := J_sl13 (M := M35) hJ
      have rM35_14 := J_sl14 (M := M35) hJ
      have rM35_15 := J_sl15 (M := M35) hJ
      have mM35_12 : (M35.1 175 12).toInt = (M33.1 175 12).toInt := tl_slot (h36.1 175 12 (show ¬ ((175 = 175 ∧ 12 = 14) ∨ (175 = 175 ∧ 12 = 15)) by decide))
      have mM35_13 : (M35.1 175 13).toInt = (M33.1 175 13).toInt := tl_slot (h36.1 175 13 (show ¬ ((175 = 175 ∧ 13 = 14) ∨ (175 = 175 ∧ 13 = 15)) by decide))
      have aM35_182_p1toNatClampNeg : (M35.1 182 (p1.toNatClampNeg)).toInt = (M33.1 182 (p1.toNatClampNeg)).toInt := tl_slot (h36.1 182 (p1.toNatClampNeg) (show ¬ ((182 = 175 ∧ p1.toNatClampNeg = 14) ∨ (182 = 175 ∧ p1.toNatClampNeg = 15)) by omega))
      have aM35_182_p1toNatClampNeg1 : (M35.1 182 (p1.toNatClampNeg + 1)).toInt = (M33.1 182 (p1.toNatClampNeg + 1)).toInt := tl_slot (h36.1 182 (p1.toNatClampNeg + 1) (show ¬ ((182 = 175 ∧ p1.toNatClampNeg + 1 = 14) ∨ (182 = 175 ∧ p1.toNatClampNeg + 1 = 15)) by omega))
      refine li_aload_n 0 dX12_readThing_107 rfl ?_
      refine li_getr (k := 16) (N := 52) (T := TX12) (C0 := RX12) dX12_readThing_108 (by decide) sh_175 rfl rfl (by decide) (by decide) li_in12 w_1420 ?_
      refine li_iload_n 1 dX12_readThing_111 rfl ?_
      refine li_iconst 4 dX12_readThing_112 (by decide) ?_
      refine li_iadd dX12_readThing_113 ?_
      refine li_top (fun x37 ex37 => ?_)
      have z4 : (4 : Int32).toInt = 4 := rfl
      try (have tx37 : x37.toInt = (p1 : Int32).toInt + (4 : Int32).toInt := tl_add ex37 (by omega))
      refine li_aload_n 0 dX12_readThing_114 rfl ?_
      refine li_iconst 2 dX12_readThing_115 (by decide) ?_
      have z2 : (2 : Int32).toInt = 2 := rfl
      refine li_callV (n := 1) (As := [.int 2]) dX12_readThing_116 (k_X12_numberW (d - 1) (by omega) 2 M35 hJ ) (by omega) (Nat.le_of_ble_eq_true rfl) w_1589 w_1591 w_45 w_112 w_1592 (by decide +kernel) rfl (by decide) sh_175 rfl rfl (Nat.le_of_ble_eq_true rfl) (fun r M39 h40 => ?_)
      obtain ⟨⟨x38, rfl, qx38⟩, h40, jM39⟩ := h40
      have gx38 := tl_rg x38
      have hf := li_fs_trans hf h40 (fun i k => fun h => Or.elim h (fun h => Or.inr (Or.inl h)) (fun h => Or.inr (Or.inr h)))
      have hJ := jM39
      have rM39_12 := J_sl12 (M := M39) hJ
      have rM39_13 := J_sl13 (M := M39) hJ
      have rM39_14 := J_sl14 (M := M39) hJ
      have rM39_15 := J_sl15 (M := M39) hJ
      have mM39_12 : (M39.1 175 12).toInt = (M35.1 175 12).toInt := tl_slot (h40.1 175 12 (show ¬ ((175 = 175 ∧ 12 = 14) ∨ (175 = 175 ∧ 12 = 15)) by decide))
      have mM39_13 : (M39.1 175 13).toInt = (M35.1 175 13).toInt := tl_slot (h40.1 175 13 (show ¬ ((175 = 175 ∧ 13 = 14) ∨ (175 = 175 ∧ 13 = 15)) by decide))
      have aM39_182_p1toNatClampNeg : (M39.1 182 (p1.toNatClampNeg)).toInt = (M35.1 182 (p1.toNatClampNeg)).toInt := tl_slot (h40.1 182 (p1.toNatClampNeg) (show ¬ ((182 = 175 ∧ p1.toNatClampNeg = 14) ∨ (182 = 175 ∧ p1.toNatClampNeg = 15)) by omega))
      have aM39_182_p1toNatClampNeg1 : (M39.1 182 (p1.toNatClampNeg + 1)).toInt = (M35.1 182 (p1.toNatClampNeg + 1)).toInt := tl_slot (h40.1 182 (p1.toNatClampNeg + 1) (show ¬ ((182 = 175 ∧ p1.toNatClampNeg + 1 = 14) ∨ (182 = 175 ∧ p1.toNatClampNeg + 1 = 15)) by omega))
      refine li_iast dX12_readThing_119 (by decide) sh_182 (tl_in (by omega)) ?_
      refine li_nm (fun M41 eM41 => ?_)
      have hf := li_fs_ui hf (show (182 = 182 ∧ p1.toInt ≤ (((x37 : Int32).toNatClampNeg : Nat) : Int) ∧ (((x37 : Int32).toNatClampNeg : Nat) : Int) < p1.toInt + 5) ∨ (182 = 175 ∧ (x37 : Int32).toNatClampNeg = 14) ∨ (182 = 175 ∧ (x37 : Int32).toNatClampNeg = 15) by have h9 := li_cl (i := x37) (by omega); omega) eM41
      have hJ := hJ.st (by decide) (li_el_free (by unfold li_led; omega) (by decide) (by decide) (by unfold li_rq; omega)) eM41
      have rM41_12 := J_sl12 (M := M41) hJ
      have rM41_13 := J_sl13 (M := M41) hJ
      have rM41_14 := J_sl14 (M := M41) hJ
      have rM41_15 := J_sl15 (M := M41) hJ
      have mM41_12 : (M41.1 175 12).toInt = (M39.1 175 12).toInt := by rw [eM41, li_ui_at, if_neg (by decide)]
      have mM41_13 : (M41.1 175 13).toInt = (M39.1 175 13).toInt := by rw [eM41, li_ui_at, if_neg (by decide)]
      have mM41_14 : (M41.1 175 14).toInt = (M39.1 175 14).toInt := by rw [eM41, li_ui_at, if_neg (by decide)]
      have mM41_15 : (M41.1 175 15).toInt = (M39.1 175 15).toInt := by rw [eM41, li_ui_at, if_neg (by decide)]
      first | (have aM41_182_p1toNatClampNeg : (M41.1 182 (p1.toNatClampNeg)).toInt = (x38 : Int32).toInt := by rw [eM41, li_ui_at, if_pos rfl, if_pos (show p1.toNatClampNeg = (x37 : Int32).toNatClampNeg by have h9 := li_cl (i := x37) (by omega); have h8 := li_cl (i := p1) (by omega); omega)]) | (have aM41_182_p1toNatClampNeg : (M41.1 182 (p1.toNatClampNeg)).toInt = (M39.1 182 (p1.toNatClampNeg)).toInt := by rw [eM41, li_ui_at, if_pos rfl, if_neg (show ¬ p1.toNatClampNeg = (x37 : Int32).toNatClampNeg by have h9 := li_cl (i := x37) (by omega); have h8 := li_cl (i := p1) (by omega); omega)]) | skip
      first | (have aM41_182_p1toNatClampNeg1 : (M41.1 182 (p1.toNatClampNeg + 1)).toInt = (x38 : Int32).toInt := by rw [eM41, li_ui_at, if_pos rfl, if_pos (show p1.toNatClampNeg + 1 = (x37 : Int32).toNatClampNeg by have h9 := li_cl (i := x37) (by omega); have h8 := li_cl (i := p1) (by omega); omega)]) | (have aM41_182_p1toNatClampNeg1 : (M41.1 182 (p1.toNatClampNeg + 1)).toInt = (M39.1 182 (p1.toNatClampNeg + 1)).toInt := by rw [eM41, li_ui_at, if_pos rfl, if_neg (show ¬ p1.toNatClampNeg + 1 = (x37 : Int32).toNatClampNeg by have h9 := li_cl (i := x37) (by omega); have h8 := li_cl (i := p1) (by omega); omega)]) | skip
      exact li_vret dX12_readThing_120 rfl ⟨rfl, hf, hJ, (by refine ⟨?_, ?_, ?_, ?_, ?_⟩ <;> omega)⟩
    refine li_if_ne 82 dX12_readThing_69 (by decide) (fun c24 => ?_) (fun c24 => ?_)
    · have tc24 : ¬ x23.toInt = 0 := tl_ne c24
      refine li_pick [0, 1] [(0, .ref (Z.2.2 175)), (1, .int p1)] rfl ?_
      exact J82  M19 hf hJ (by omega)
    · have tc24 : x23.toInt = 0 := tl_eq c24
      refine li_aload_n 0 dX12_readThing_72 rfl ?_
      refine li_aload_n 0 dX12_readThing_73 rfl ?_
      refine li_geti (k := 14) (N := 52) (T := TX12) (C0 := RX12) dX12_readThing_74 (by decide) sh_175 rfl rfl (by decide) li_in12 w_1418 ?_
      refine li_top (fun x42 ex42 => ?_)
      have gx42 : 0 ≤ x42.toInt ∧ x42.toInt ≤ 81 := by rw [ex42]; exact J_sl14 hJ
      have mx42 : x42.toInt = (M19.1 175 14).toInt := tl_slot ex42
      refine li_iconst 1 dX12_readThing_77 (by decide) ?_
      refine li_isub dX12_readThing_78 ?_
      refine li_top (fun x43 ex43 => ?_)
      have z1 : (1 : Int32).toInt = 1 := rfl
      try (have tx43 : x43.toInt = (x42 : Int32).toInt - (1 : Int32).toInt := tl_sub ex43 (by omega))
      refine li_callV (n := 1) (As := [.int x43]) dX12_readThing_79 (k_X12_faultW (d - 1) (by omega) x43 M19 hJ (by omega)) (by omega) (Nat.le_of_ble_eq_true rfl) w_1585 w_1587 w_44 w_112 w_1588 (by decide +kernel) rfl (by decide) sh_175 rfl rfl (Nat.le_of_ble_eq_true rfl) (fun r M45 h46 => ?_)
      obtain ⟨rfl, h46, jM45, nM45⟩ := h46
      have hf := li_fs_trans hf h46 (fun i k => fun h => Or.inr (Or.inr h))
      have hJ := jM45
      have rM45_12 := J_sl12 (M := M45) hJ
      have rM45_13 := J_sl13 (M := M45) hJ
      have rM45_14 := J_sl14 (M := M45) hJ
      have rM45_15 := J_sl15 (M := M45) hJ
      have mM45_12 : (M45.1 175 12).toInt = (M19.1 175 12).toInt := tl_slot (h46.1 175 12 (show ¬ ((175 = 175 ∧ 12 = 15)) by decide))
      have mM45_13 : (M45.1 175 13).toInt = (M19.1 175 13).toInt := tl_slot (h46.1 175 13 (show ¬ ((175 = 175 ∧ 13 = 15)) by decide))
      have mM45_14 : (M45.1 175 14).toInt = (M19.1 175 14).toInt := tl_slot (h46.1 175 14 (show ¬ ((175 = 175 ∧ 14 = 15)) by decide))
      have aM45_182_p1toNatClampNeg : (M45.1 182 (p1.toNatClampNeg)).toInt = (M19.1 182 (p1.toNatClampNeg)).toInt := tl_slot (h46.1 182 (p1.toNatClampNeg) (show ¬ ((182 = 175 ∧ p1.toNatClampNeg = 15)) by omega))
      have aM45_182_p1toNatClampNeg1 : (M45.1 182 (p1.toNatClampNeg + 1)).toInt = (M19.1 182 (p1.toNatClampNeg + 1)).toInt := tl_slot (h46.1 182 (p1.toNatClampNeg + 1) (show ¬ ((182 = 175 ∧ p1.toNatClampNeg + 1 = 15)) by omega))
      refine li_pick [0, 1] [(0, .ref (Z.2.2 175)), (1, .int p1)] rfl ?_
      exact J82  M45 hf hJ (by omega)
  · skip
    refine li_if_eq 82 dX12_readThing_58 (by decide) (fun c => ?_) (fun c => absurd rfl c)
    refine li_aload_n 0 dX12_readThing_82 rfl ?_
    refine li_bipush 45 dX12_readThing_83 (by decide) ?_
    have z45 : (45 : Int32).toInt = 45 := rfl
    refine li_callV (n := 1) (As := [.int 45]) dX12_readThing_85 (k_X12_needW (d - 1) (by omega) 45 M19 hJ (by omega)) (by omega) (Nat.le_of_ble_eq_true rfl) w_1601 w_1603 w_48 w_112 w_1604 (by decide +kernel) rfl (by decide) sh_175 rfl rfl (Nat.le_of_ble_eq_true rfl) (fun r M49 h50 => ?_)
    obtain ⟨rfl, h50, jM49, nM49⟩ := h50
    have hf := li_fs_trans hf h50 (fun i k => fun h => Or.elim h (fun h => Or.inr (Or.inl h)) (fun h => Or.inr (Or.inr h)))
    have hJ := jM49
    have rM49_12 := J_sl12 (M := M49) hJ
    have rM49_13 := J_sl13 (M := M49) hJ
    have rM49_14 := J_sl14 (M := M49) hJ
    have rM49_15 := J_sl15 (M := M49) hJ
    have mM49_12 : (M49.1 175 12).toInt = (M19.1 175 12).toInt := tl_slot (h50.1 175 12 (show ¬ ((175 = 175 ∧ 12 = 14) ∨ (175 = 175 ∧ 12 = 15)) by decide))
    have mM49_13 : (M49.1 175 13).toInt = (M19.1 175 13).toInt := tl_slot (h50.1 175 13 (show ¬ ((175 = 175 ∧ 13 = 14) ∨ (175 = 175 ∧ 13 = 15)) by decide))
    have aM49_182_p1toNatClampNeg : (M49.1 182 (p1.toNatClampNeg)).toInt = (M19.1 182 (p1.toNatClampNeg)).toInt := tl_slot (h50.1 182 (p1.toNatClampNeg) (show ¬ ((182 = 175 ∧ p1.toNatClampNeg = 14) ∨ (182 = 175 ∧ p1.toNatClampNeg = 15)) by omega))
    have aM49_182_p1toNatClampNeg1 : (M49.1 182 (p1.toNatClampNeg + 1)).toInt = (M19.1 182 (p1.toNatClampNeg + 1)).toInt := tl_slot (h50.1 182 (p1.toNatClampNeg + 1) (show ¬ ((182 = 175 ∧ p1.toNatClampNeg + 1 = 14) ∨ (182 = 175 ∧ p1.toNatClampNeg + 1 = 15)) by omega))
    refine li_aload_n 0 dX12_readThing_88 rfl ?_
    refine li_getr (k := 16) (N := 52) (T := TX12) (C0 := RX12) dX12_readThing_89 (by decide) sh_175 rfl rfl (by decide) (by decide) li_in12 w_1420 ?_
    refine li_iload_n 1 dX12_readThing_92 rfl ?_
    refine li_iconst 3 dX12_readThing_93 (by decide) ?_
    refine li_iadd dX12_readThing_94 ?_
    refine li_top (fun x51 ex51 => ?_)
    have z3 : (3 : Int32).toInt = 3 := rfl
    try (have tx51 : x51.toInt = (p1 : Int32).toInt + (3 : Int32).toInt := tl_add ex51 (by omega))
    refine li_aload_n 0 dX12_readThing_95 rfl ?_
    refine li_iconst 2 dX12_readThing_96 (by decide) ?_
    have z2 : (2 : Int32).toInt = 2 := rfl
    refine li_callV (n := 1) (As := [.int 2]) dX12_readThing_97 (k_X12_numberW (d - 1) (by omega) 2 M49 hJ ) (by omega) (Nat.le_of_ble_eq_true rfl) w_1589 w_1591 w_45 w_112 w_1592 (by decide +kernel) rfl (by decide) sh_175 rfl rfl (Nat.le_of_ble_eq_true rfl) (fun r M53 h54 => ?_)
    obtain ⟨⟨x52, rfl, qx52⟩, h54, jM53⟩ := h54
    have gx52 := tl_rg x52
    have hf := li_fs_trans hf h54 (fun i k => fun h => Or.elim h (fun h => Or.inr (Or.inl h)) (fun h => Or.inr (Or.inr h)))
    have hJ := jM53
    have rM53_12 := J_sl12 (M := M53) hJ
    have rM53_13 := J_sl13 (M := M53) hJ
    have rM53_14 := J_sl14 (M := M53) hJ
    have rM53_15 := J_sl15 (M := M53) hJ
    have mM53_12 : (M53.1 175 12).toInt = (M49.1 175 12).toInt := tl_slot (h54.1 175 12 (show ¬ ((175 = 175 ∧ 12 = 14) ∨ (175 = 175 ∧ 12 = 15)) by decide))
    have mM53_13 : (M53.1 175 13).toInt = (M49.1 175 13).toInt := tl_slot (h54.1 175 13 (show ¬ ((175 = 175 ∧ 13 = 14) ∨ (175 = 175 ∧ 13 = 15)) by decide))
    have aM53_182_p1toNatClampNeg : (M53.1 182 (p1.toNatClampNeg)).toInt = (M49.1 182 (p1.toNatClampNeg)).toInt := tl_slot (h54.1 182 (p1.toNatClampNeg) (show ¬ ((182 = 175 ∧ p1.toNatClampNeg = 14) ∨ (182 = 175 ∧ p1.toNatClampNeg = 15)) by omega))
    have aM53_182_p1toNatClampNeg1 : (M53.1 182 (p1.toNatClampNeg + 1)).toInt = (M49.1 182 (p1.toNatClampNeg + 1)).toInt := tl_slot (h54.1 182 (p1.toNatClampNeg + 1) (show ¬ ((182 = 175 ∧ p1.toNatClampNeg + 1 = 14) ∨ (182 = 175 ∧ p1.toNatClampNeg + 1 = 15)) by omega))
    refine li_iast dX12_readThing_100 (by decide) sh_182 (tl_in (by omega)) ?_
    refine li_nm (fun M55 eM55 => ?_)
    have hf := li_fs_ui hf (show (182 = 182 ∧ p1.toInt ≤ (((x51 : Int32).toNatClampNeg : Nat) : Int) ∧ (((x51 : Int32).toNatClampNeg : Nat) : Int) < p1.toInt + 5) ∨ (182 = 175 ∧ (x51 : Int32).toNatClampNeg = 14) ∨ (182 = 175 ∧ (x51 : Int32).toNatClampNeg = 15) by have h9 := li_cl (i := x51) (by omega); omega) eM55
    have hJ := hJ.st (by decide) (li_el_free (by unfold li_led; omega) (by decide) (by decide) (by unfold li_rq; omega)) eM55
    have rM55_12 := J_sl12 (M := M55) hJ
    have rM55_13 := J_sl13 (M := M55) hJ
    have rM55_14 := J_sl14 (M := M55) hJ
    have rM55_15 := J_sl15 (M := M55) hJ
    have mM55_12 : (M55.1 175 12).toInt = (M53.1 175 12).toInt := by rw [eM55, li_ui_at, if_neg (by decide)]
    have mM55_13 : (M55.1 175 13).toInt = (M53.1 175 13).toInt := by rw [eM55, li_ui_at, if_neg (by decide)]
    have mM55_14 : (M55.1 175 14).toInt = (M53.1 175 14).toInt := by rw [eM55, li_ui_at, if_neg (by decide)]
    have mM55_15 : (M55.1 175 15).toInt = (M53.1 175 15).toInt := by rw [eM55, li_ui_at, if_neg (by decide)]
    first | (have aM55_182_p1toNatClampNeg : (M55.1 182 (p1.toNatClampNeg)).toInt = (x52 : Int32).toInt := by rw [eM55, li_ui_at, if_pos rfl, if_pos (show p1.toNatClampNeg = (x51 : Int32).toNatClampNeg by have h9 := li_cl (i := x51) (by omega); have h8 := li_cl (i := p1) (by omega); omega)]) | (have aM55_182_p1toNatClampNeg : (M55.1 182 (p1.toNatClampNeg)).toInt = (M53.1 182 (p1.toNatClampNeg)).toInt := by rw [eM55, li_ui_at, if_pos rfl, if_neg (show ¬ p1.toNatClampNeg = (x51 : Int32).toNatClampNeg by have h9 := li_cl (i := x51) (by omega); have h8 := li_cl (i := p1) (by omega); omega)]) | skip
    first | (have aM55_182_p1toNatClampNeg1 : (M55.1 182 (p1.toNatClampNeg + 1)).toInt = (x52 : Int32).toInt := by rw [eM55, li_ui_at, if_pos rfl, if_pos (show p1.toNatClampNeg + 1 = (x51 : Int32).toNatClampNeg by have h9 := li_cl (i := x51) (by omega); have h8 := li_cl (i := p1) (by omega); omega)]) | (have aM55_182_p1toNatClampNeg1 : (M55.1 182 (p1.toNatClampNeg + 1)).toInt = (M53.1 182 (p1.toNatClampNeg + 1)).toInt := by rw [eM55, li_ui_at, if_pos rfl, if_neg (show ¬ p1.toNatClampNeg + 1 = (x51 : Int32).toNatClampNeg by have h9 := li_cl (i := x51) (by omega); have h8 := li_cl (i := p1) (by omega); omega)]) | skip
    refine li_aload_n 0 dX12_readThing_101 rfl ?_
    refine li_bipush 61 dX12_readThing_102 (by decide) ?_
    have z61 : (61 : Int32).toInt = 61 := rfl
    refine li_callV (n := 1) (As := [.int 61]) dX12_readThing_104 (k_X12_needW (d - 1) (by omega) 61 M55 hJ (by omega)) (by omega) (Nat.le_of_ble_eq_true rfl) w_1601 w_1603 w_48 w_112 w_1604 (by decide +kernel) rfl (by decide) sh_175 rfl rfl (Nat.le_of_ble_eq_true rfl) (fun r M57 h58 => ?_)
    obtain ⟨rfl, h58, jM57, nM57⟩ := h58
    have hf := li_fs_trans hf h58 (fun i k => fun h => Or.elim h (fun h => Or.inr (Or.inl h)) (fun h => Or.inr (Or.inr h)))
    have hJ := jM57
    have rM57_12 := J_sl12 (M := M57) hJ
    have rM57_13 := J_sl13 (M := M57) hJ
    have rM57_14 := J_sl14 (M := M57) hJ
    have rM57_15 := J_sl15 (M := M57) hJ
    have mM57_12 : (M57.1 175 12).toInt = (M55.1 175 12).toInt := tl_slot (h58.1 175 12 (show ¬ ((175 = 175 ∧ 12 = 14) ∨ (175 = 175 ∧ 12 = 15)) by decide))
    have mM57_13 : (M57.1 175 13).toInt = (M55.1 175 13).toInt := tl_slot (h58.1 175 13 (show ¬ ((175 = 175 ∧ 13 = 14) ∨ (175 = 175 ∧ 13 = 15)) by decide))
    have aM57_182_p1toNatClampNeg : (M57.1 182 (p1.toNatClampNeg)).toInt = (M55.1 182 (p1.toNatClampNeg)).toInt := tl_slot (h58.1 182 (p1.toNatClampNeg) (show ¬ ((182 = 175 ∧ p1.toNatClampNeg = 14) ∨ (182 = 175 ∧ p1.toNatClampNeg = 15)) by omega))
    have aM57_182_p1toNatClampNeg1 : (M57.1 182 (p1.toNatClampNeg + 1)).toInt = (M55.1 182 (p1.toNatClampNeg + 1)).toInt := tl_slot (h58.1 182 (p1.toNatClampNeg + 1) (show ¬ ((182 = 175 ∧ p1.toNatClampNeg + 1 = 14) ∨ (182 = 175 ∧ p1.toNatClampNeg + 1 = 15)) by omega))
    refine li_aload_n 0 dX12_readThing_107 rfl ?_
    refine li_getr (k := 16) (N := 52) (T := TX12) (C0 := RX12) dX12_readThing_108 (by decide) sh_175 rfl rfl (by decide) (by decide) li_in12 w_1420 ?_
    refine li_iload_n 1 dX12_readThing_111 rfl ?_
    refine li_iconst 4 dX12_readThing_112 (by decide) ?_
    refine li_iadd dX12_readThing_113 ?_
    refine li_top (fun x59 ex59 => ?_)
    have z4 : (4 : Int32).toInt = 4 := rfl
    try (have tx59 : x59.toInt = (p1 : Int32).toInt + (4 : Int32).toInt := tl_add ex59 (by omega))
    refine li_aload_n 0 dX12_readThing_114 rfl ?_
    refine li_iconst 2 dX12_readThing_115 (by decide) ?_
    have z2 : (2 : Int32).toInt = 2 := rfl
    refine li_callV (n := 1) (As := [.int 2]) dX12_readThing_116 (k_X12_numberW (d - 1) (by omega) 2 M57 hJ ) (by omega) (Nat.le_of_ble_eq_true rfl) w_1589 w_1591 w_45 w_112 w_1592 (by decide +kernel) rfl (by decide) sh_175 rfl rfl (Nat.le_of_ble_eq_true rfl) (fun r M61 h62 => ?_)
    obtain ⟨⟨x60, rfl, qx60⟩, h62, jM61⟩ := h62
    have gx60 := tl_rg x60
    have hf := li_fs_trans hf h62 (fun i k => fun h => Or.elim h (fun h => Or.inr (Or.inl h)) (fun h => Or.inr (Or.inr h)))
    have hJ := jM61
    have rM61_12 := J_sl12 (M := M61) hJ
    have rM61_13 := J_sl13 (M := M61) hJ
    have rM61_14 := J_sl14 (M := M61) hJ
    have rM61_15 := J_sl15 (M := M61) hJ
    have mM61_12 : (M61.1 175 12).toInt = (M57.1 175 12).toInt := tl_slot (h62.1 175 12 (show ¬ ((175 = 175 ∧ 12 = 14) ∨ (175 = 175 ∧ 12 = 15)) by decide))
    have mM61_13 : (M61.1 175 13).toInt = (M57.1 175 13).toInt := tl_slot (h62.1 175 13 (show ¬ ((175 = 175 ∧ 13 = 14) ∨ (175 = 175 ∧ 13 = 15)) by decide))
    have aM61_182_p1toNatClampNeg : (M61.1 182 (p1.toNatClampNeg)).toInt = (M57.1 182 (p1.toNatClampNeg)).toInt := tl_slot (h62.1 182 (p1.toNatClampNeg) (show ¬ ((182 = 175 ∧ p1.toNatClampNeg = 14) ∨ (182 = 175 ∧ p1.toNatClampNeg = 15)) by omega))
    have aM61_182_p1toNatClampNeg1 : (M61.1 182 (p1.toNatClampNeg + 1)).toInt = (M57.1 182 (p1.toNatClampNeg + 1)).toInt := tl_slot (h62.1 182 (p1.toNatClampNeg + 1) (show ¬ ((182 = 175 ∧ p1.toNatClampNeg + 1 = 14) ∨ (182 = 175 ∧ p1.toNatClampNeg + 1 = 15)) by omega))
    refine li_iast dX12_readThing_119 (by decide) sh_182 (tl_in (by omega)) ?_
    refine li_nm (fun M63 eM63 => ?_)
    have hf := li_fs_ui hf (show (182 = 182 ∧ p1.toInt ≤ (((x59 : Int32).toNatClampNeg : Nat) : Int) ∧ (((x59 : Int32).toNatClampNeg : Nat) : Int) < p1.toInt + 5) ∨ (182 = 175 ∧ (x59 : Int32).toNatClampNeg = 14) ∨ (182 = 175 ∧ (x59 : Int32).toNatClampNeg = 15) by have h9 := li_cl (i := x59) (by omega); omega) eM63
    have hJ := hJ.st (by decide) (li_el_free (by unfold li_led; omega) (by decide) (by decide) (by unfold li_rq; omega)) eM63
    have rM63_12 := J_sl12 (M := M63) hJ
    have rM63_13 := J_sl13 (M := M63) hJ
    have rM63_14 := J_sl14 (M := M63) hJ
    have rM63_15 := J_sl15 (M := M63) hJ
    have mM63_12 : (M63.1 175 12).toInt = (M61.1 175 12).toInt := by rw [eM63, li_ui_at, if_neg (by decide)]
    have mM63_13 : (M63.1 175 13).toInt = (M61.1 175 13).toInt := by rw [eM63, li_ui_at, if_neg (by decide)]
    have mM63_14 : (M63.1 175 14).toInt = (M61.1 175 14).toInt := by rw [eM63, li_ui_at, if_neg (by decide)]
    have mM63_15 : (M63.1 175 15).toInt = (M61.1 175 15).toInt := by rw [eM63, li_ui_at, if_neg (by decide)]
    first | (have aM63_182_p1toNatClampNeg : (M63.1 182 (p1.toNatClampNeg)).toInt = (x60 : Int32).toInt := by rw [eM63, li_ui_at, if_pos rfl, if_pos (show p1.toNatClampNeg = (x59 : Int32).toNatClampNeg by have h9 := li_cl (i := x59) (by omega); have h8 := li_cl (i := p1) (by omega); omega)]) | (have aM63_182_p1toNatClampNeg : (M63.1 182 (p1.toNatClampNeg)).toInt = (M61.1 182 (p1.toNatClampNeg)).toInt := by rw [eM63, li_ui_at, if_pos rfl, if_neg (show ¬ p1.toNatClampNeg = (x59 : Int32).toNatClampNeg by have h9 := li_cl (i := x59) (by omega); have h8 := li_cl (i := p1) (by omega); omega)]) | skip
    first | (have aM63_182_p1toNatClampNeg1 : (M63.1 182 (p1.toNatClampNeg + 1)).toInt = (x60 : Int32).toInt := by rw [eM63, li_ui_at, if_pos rfl, if_pos (show p1.toNatClampNeg + 1 = (x59 : Int32).toNatClampNeg by have h9 := li_cl (i := x59) (by omega); have h8 := li_cl (i := p1) (by omega); omega)]) | (have aM63_182_p1toNatClampNeg1 : (M63.1 182 (p1.toNatClampNeg + 1)).toInt = (M61.1 182 (p1.toNatClampNeg + 1)).toInt := by rw [eM63, li_ui_at, if_pos rfl, if_neg (show ¬ p1.toNatClampNeg + 1 = (x59 : Int32).toNatClampNeg by have h9 := li_cl (i := x59) (by omega); have h8 := li_cl (i := p1) (by omega); omega)]) | skip
    exact li_vret dX12_readThing_120 rfl ⟨rfl, hf, hJ, (by refine ⟨?_, ?_, ?_, ?_, ?_⟩ <;> omega)⟩
