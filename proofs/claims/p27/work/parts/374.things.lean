theorem w_50 : (Jvm.Cond.selects "ClockForTalkModel" ({ cls := "ClockForTalkModel", name := "readThing", desc := "(I)V" } : Jvm.MethodName) ({ cls := "ClockForTalkModel", name := "readThing", desc := "(I)V" } : Jvm.MethodName)) ∈ li_ws := li_mem 50 (by decide +kernel) (by decide +kernel)
theorem w_1613 : (Jvm.Cond.methodLink "ClockForTalkModel" (180 : Nat) ({ cls := "ClockForTalkModel", name := "readThing", desc := "(I)V" } : Jvm.MethodName)) ∈ li_ws := li_mem 1613 (by decide +kernel) (by decide +kernel)
theorem w_1615 : (Jvm.Cond.instanceMethod ({ cls := "ClockForTalkModel", name := "readThing", desc := "(I)V" } : Jvm.MethodName)) ∈ li_ws := li_mem 1615 (by decide +kernel) (by decide +kernel)
theorem w_1616 : (Jvm.Cond.code ({ cls := "ClockForTalkModel", name := "readThing", desc := "(I)V" } : Jvm.MethodName) prog_13_method_21_code (2 : Nat) (Option.none : Option Jvm.ClassFile.FieldType)) ∈ li_ws := li_mem 1616 (by decide +kernel) (by decide +kernel)
theorem dX12_readThing_0 : decode cX12_readThing 0 = .ok (.aload_n 0, 1) := by decide +kernel
theorem dX12_readThing_1 : decode cX12_readThing 1 = .ok (.getfield 29, 3) := by decide +kernel
theorem dX12_readThing_4 : decode cX12_readThing 4 = .ok (.iload_n 1, 1) := by decide +kernel
theorem dX12_readThing_5 : decode cX12_readThing 5 = .ok (.aload_n 0, 1) := by decide +kernel
theorem dX12_readThing_6 : decode cX12_readThing 6 = .ok (.bipush 97, 2) := by decide +kernel
theorem dX12_readThing_8 : decode cX12_readThing 8 = .ok (.aload_n 0, 1) := by decide +kernel
theorem dX12_readThing_9 : decode cX12_readThing 9 = .ok (.getfield 110, 3) := by decide +kernel
theorem dX12_readThing_12 : decode cX12_readThing 12 = .ok (.iconst (-1), 1) := by decide +kernel
theorem dX12_readThing_13 : decode cX12_readThing 13 = .ok (.invokevirtual 158, 3) := by decide +kernel
theorem dX12_readThing_16 : decode cX12_readThing 16 = .ok (.iastore, 1) := by decide +kernel
theorem dX12_readThing_17 : decode cX12_readThing 17 = .ok (.aload_n 0, 1) := by decide +kernel
theorem dX12_readThing_18 : decode cX12_readThing 18 = .ok (.getfield 29, 3) := by decide +kernel
theorem dX12_readThing_21 : decode cX12_readThing 21 = .ok (.iload_n 1, 1) := by decide +kernel
theorem dX12_readThing_22 : decode cX12_readThing 22 = .ok (.iconst 1, 1) := by decide +kernel
theorem dX12_readThing_23 : decode cX12_readThing 23 = .ok (.iadd, 1) := by decide +kernel
theorem dX12_readThing_24 : decode cX12_readThing 24 = .ok (.aload_n 0, 1) := by decide +kernel
theorem dX12_readThing_25 : decode cX12_readThing 25 = .ok (.bipush 97, 2) := by decide +kernel
theorem dX12_readThing_27 : decode cX12_readThing 27 = .ok (.aload_n 0, 1) := by decide +kernel
theorem dX12_readThing_28 : decode cX12_readThing 28 = .ok (.getfield 110, 3) := by decide +kernel
theorem dX12_readThing_31 : decode cX12_readThing 31 = .ok (.aload_n 0, 1) := by decide +kernel
theorem dX12_readThing_32 : decode cX12_readThing 32 = .ok (.getfield 29, 3) := by decide +kernel
theorem dX12_readThing_35 : decode cX12_readThing 35 = .ok (.iload_n 1, 1) := by decide +kernel
theorem dX12_readThing_36 : decode cX12_readThing 36 = .ok (.iaload, 1) := by decide +kernel
theorem dX12_readThing_37 : decode cX12_readThing 37 = .ok (.invokevirtual 158, 3) := by decide +kernel
theorem dX12_readThing_40 : decode cX12_readThing 40 = .ok (.iastore, 1) := by decide +kernel
theorem dX12_readThing_41 : decode cX12_readThing 41 = .ok (.aload_n 0, 1) := by decide +kernel
theorem dX12_readThing_42 : decode cX12_readThing 42 = .ok (.getfield 29, 3) := by decide +kernel
theorem dX12_readThing_45 : decode cX12_readThing 45 = .ok (.iload_n 1, 1) := by decide +kernel
theorem dX12_readThing_46 : decode cX12_readThing 46 = .ok (.iconst 2, 1) := by decide +kernel
theorem dX12_readThing_47 : decode cX12_readThing 47 = .ok (.iadd, 1) := by decide +kernel
theorem dX12_readThing_48 : decode cX12_readThing 48 = .ok (.aload_n 0, 1) := by decide +kernel
theorem dX12_readThing_49 : decode cX12_readThing 49 = .ok (.iconst 2, 1) := by decide +kernel
theorem dX12_readThing_50 : decode cX12_readThing 50 = .ok (.invokevirtual 166, 3) := by decide +kernel
theorem dX12_readThing_53 : decode cX12_readThing 53 = .ok (.iastore, 1) := by decide +kernel
theorem dX12_readThing_54 : decode cX12_readThing 54 = .ok (.aload_n 0, 1) := by decide +kernel
theorem dX12_readThing_55 : decode cX12_readThing 55 = .ok (.invokevirtual 142, 3) := by decide +kernel
theorem dX12_readThing_58 : decode cX12_readThing 58 = .ok (.ifCond .eq 24, 3) := by decide +kernel
theorem dX12_readThing_61 : decode cX12_readThing 61 = .ok (.aload_n 0, 1) := by decide +kernel
theorem dX12_readThing_62 : decode cX12_readThing 62 = .ok (.getfield 29, 3) := by decide +kernel
theorem dX12_readThing_65 : decode cX12_readThing 65 = .ok (.iload_n 1, 1) := by decide +kernel
theorem dX12_readThing_66 : decode cX12_readThing 66 = .ok (.iconst 2, 1) := by decide +kernel
theorem dX12_readThing_67 : decode cX12_readThing 67 = .ok (.iadd, 1) := by decide +kernel
theorem dX12_readThing_68 : decode cX12_readThing 68 = .ok (.iaload, 1) := by decide +kernel
theorem dX12_readThing_69 : decode cX12_readThing 69 = .ok (.ifCond .ne 13, 3) := by decide +kernel
theorem dX12_readThing_72 : decode cX12_readThing 72 = .ok (.aload_n 0, 1) := by decide +kernel
theorem dX12_readThing_73 : decode cX12_readThing 73 = .ok (.aload_n 0, 1) := by decide +kernel
theorem dX12_readThing_74 : decode cX12_readThing 74 = .ok (.getfield 136, 3) := by decide +kernel
theorem dX12_readThing_77 : decode cX12_readThing 77 = .ok (.iconst 1, 1) := by decide +kernel
theorem dX12_readThing_78 : decode cX12_readThing 78 = .ok (.isub, 1) := by decide +kernel
theorem dX12_readThing_79 : decode cX12_readThing 79 = .ok (.invokevirtual 154, 3) := by decide +kernel
theorem dX12_readThing_82 : decode cX12_readThing 82 = .ok (.aload_n 0, 1) := by decide +kernel
theorem dX12_readThing_83 : decode cX12_readThing 83 = .ok (.bipush 45, 2) := by decide +kernel
theorem dX12_readThing_85 : decode cX12_readThing 85 = .ok (.invokevirtual 170, 3) := by decide +kernel
theorem dX12_readThing_88 : decode cX12_readThing 88 = .ok (.aload_n 0, 1) := by decide +kernel
theorem dX12_readThing_89 : decode cX12_readThing 89 = .ok (.getfield 29, 3) := by decide +kernel
theorem dX12_readThing_92 : decode cX12_readThing 92 = .ok (.iload_n 1, 1) := by decide +kernel
theorem dX12_readThing_93 : decode cX12_readThing 93 = .ok (.iconst 3, 1) := by decide +kernel
theorem dX12_readThing_94 : decode cX12_readThing 94 = .ok (.iadd, 1) := by decide +kernel
theorem dX12_readThing_95 : decode cX12_readThing 95 = .ok (.aload_n 0, 1) := by decide +kernel
theorem dX12_readThing_96 : decode cX12_readThing 96 = .ok (.iconst 2, 1) := by decide +kernel
theorem dX12_readThing_97 : decode cX12_readThing 97 = .ok (.invokevirtual 166, 3) := by decide +kernel
theorem dX12_readThing_100 : decode cX12_readThing 100 = .ok (.iastore, 1) := by decide +kernel
theorem dX12_readThing_101 : decode cX12_readThing 101 = .ok (.aload_n 0, 1) := by decide +kernel
theorem dX12_readThing_102 : decode cX12_readThing 102 = .ok (.bipush 61, 2) := by decide +kernel
theorem dX12_readThing_104 : decode cX12_readThing 104 = .ok (.invokevirtual 170, 3) := by decide +kernel
theorem dX12_readThing_107 : decode cX12_readThing 107 = .ok (.aload_n 0, 1) := by decide +kernel
theorem dX12_readThing_108 : decode cX12_readThing 108 = .ok (.getfield 29, 3) := by decide +kernel
theorem dX12_readThing_111 : decode cX12_readThing 111 = .ok (.iload_n 1, 1) := by decide +kernel
theorem dX12_readThing_112 : decode cX12_readThing 112 = .ok (.iconst 4, 1) := by decide +kernel
theorem dX12_readThing_113 : decode cX12_readThing 113 = .ok (.iadd, 1) := by decide +kernel
theorem dX12_readThing_114 : decode cX12_readThing 114 = .ok (.aload_n 0, 1) := by decide +kernel
theorem dX12_readThing_115 : decode cX12_readThing 115 = .ok (.iconst 2, 1) := by decide +kernel
theorem dX12_readThing_116 : decode cX12_readThing 116 = .ok (.invokevirtual 166, 3) := by decide +kernel
theorem dX12_readThing_119 : decode cX12_readThing 119 = .ok (.iastore, 1) := by decide +kernel
theorem dX12_readThing_120 : decode cX12_readThing 120 = .ok (.return_, 1) := by decide +kernel
abbrev YX12_readThing : li_Y := (yX12_readThing, cX12_readThing, 2, none)
theorem dX12_things_0 : decode cX12_things 0 = .ok (.aload_n 0, 1) := by decide +kernel
theorem dX12_things_1 : decode cX12_things 1 = .ok (.iconst 0, 1) := by decide +kernel
theorem dX12_things_2 : decode cX12_things 2 = .ok (.putfield 103, 3) := by decide +kernel
theorem dX12_things_5 : decode cX12_things 5 = .ok (.aload_n 0, 1) := by decide +kernel
theorem dX12_things_6 : decode cX12_things 6 = .ok (.aload_n 0, 1) := by decide +kernel
theorem dX12_things_7 : decode cX12_things 7 = .ok (.getfield 22, 3) := by decide +kernel
theorem dX12_things_10 : decode cX12_things 10 = .ok (.aload_n 0, 1) := by decide +kernel
theorem dX12_things_11 : decode cX12_things 11 = .ok (.getfield 124, 3) := by decide +kernel
theorem dX12_things_14 : decode cX12_things 14 = .ok (.bipush 76, 2) := by decide +kernel
theorem dX12_things_16 : decode cX12_things 16 = .ok (.invokevirtual 162, 3) := by decide +kernel
theorem dX12_things_19 : decode cX12_things 19 = .ok (.aload_n 0, 1) := by decide +kernel
theorem dX12_things_20 : decode cX12_things 20 = .ok (.iconst 0, 1) := by decide +kernel
theorem dX12_things_21 : decode cX12_things 21 = .ok (.putfield 124, 3) := by decide +kernel
theorem dX12_things_24 : decode cX12_things 24 = .ok (.aload_n 0, 1) := by decide +kernel
theorem dX12_things_25 : decode cX12_things 25 = .ok (.getfield 130, 3) := by decide +kernel
theorem dX12_things_28 : decode cX12_things 28 = .ok (.ifCond .ne 5, 3) := by decide +kernel
theorem dX12_things_31 : decode cX12_things 31 = .ok (.iconst 0, 1) := by decide +kernel
theorem dX12_things_32 : decode cX12_things 32 = .ok (.ireturn, 1) := by decide +kernel
theorem dX12_things_33 : decode cX12_things 33 = .ok (.iconst 0, 1) := by decide +kernel
theorem dX12_things_34 : decode cX12_things 34 = .ok (.istore_n 1, 1) := by decide +kernel
theorem dX12_things_35 : decode cX12_things 35 = .ok (.iconst 1, 1) := by decide +kernel
theorem dX12_things_36 : decode cX12_things 36 = .ok (.istore_n 2, 1) := by decide +kernel
theorem dX12_things_37 : decode cX12_things 37 = .ok (.iload_n 2, 1) := by decide +kernel
theorem dX12_things_38 : decode cX12_things 38 = .ok (.ifCond .eq 52, 3) := by decide +kernel
theorem dX12_things_41 : decode cX12_things 41 = .ok (.aload_n 0, 1) := by decide +kernel
theorem dX12_things_42 : decode cX12_things 42 = .ok (.invokevirtual 142, 3) := by decide +kernel
theorem dX12_things_45 : decode cX12_things 45 = .ok (.ifCond .eq 45, 3) := by decide +kernel
theorem dX12_things_48 : decode cX12_things 48 = .ok (.aload_n 0, 1) := by decide +kernel
theorem dX12_things_49 : decode cX12_things 49 = .ok (.getfield 121, 3) := by decide +kernel
theorem dX12_things_52 : decode cX12_things 52 = .ok (.iload_n 1, 1) := by decide +kernel
theorem dX12_things_53 : decode cX12_things 53 = .ok (.iadd, 1) := by decide +kernel
theorem dX12_things_54 : decode cX12_things 54 = .ok (.bipush 8, 2) := by decide +kernel
theorem dX12_things_56 : decode cX12_things 56 = .ok (.if_icmp .ne 14, 3) := by decide +kernel
theorem dX12_things_59 : decode cX12_things 59 = .ok (.aload_n 0, 1) := by decide +kernel
theorem dX12_things_60 : decode cX12_things 60 = .ok (.aload_n 0, 1) := by decide +kernel
theorem dX12_things_61 : decode cX12_things 61 = .ok (.getfield 136, 3) := by decide +kernel
theorem dX12_things_64 : decode cX12_things 64 = .ok (.invokevirtual 154, 3) := by decide +kernel
theorem dX12_things_67 : decode cX12_things 67 = .ok (.goto 10, 3) := by decide +kernel
theorem dX12_things_70 : decode cX12_things 70 = .ok (.aload_n 0, 1) := by decide +kernel
theorem dX12_things_71 : decode cX12_things 71 = .ok (.iconst 5, 1) := by decide +kernel
theorem dX12_things_72 : decode cX12_things 72 = .ok (.iload_n 1, 1) := by decide +kernel
theorem dX12_things_73 : decode cX12_things 73 = .ok (.imul, 1) := by decide +kernel
theorem dX12_things_74 : decode cX12_things 74 = .ok (.invokevirtual 180, 3) := by decide +kernel
theorem dX12_things_77 : decode cX12_things 77 = .ok (.iinc 1 1, 3) := by decide +kernel
theorem dX12_things_80 : decode cX12_things 80 = .ok (.aload_n 0, 1) := by decide +kernel
theorem dX12_things_81 : decode cX12_things 81 = .ok (.bipush 59, 2) := by decide +kernel
theorem dX12_things_83 : decode cX12_things 83 = .ok (.invokevirtual 150, 3) := by decide +kernel
theorem dX12_things_86 : decode cX12_things 86 = .ok (.istore_n 2, 1) := by decide +kernel
theorem dX12_things_87 : decode cX12_things 87 = .ok (.goto (-50), 3) := by decide +kernel
theorem dX12_things_90 : decode cX12_things 90 = .ok (.aload_n 0, 1) := by decide +kernel
theorem dX12_things_91 : decode cX12_things 91 = .ok (.getfield 136, 3) := by decide +kernel
theorem dX12_things_94 : decode cX12_things 94 = .ok (.aload_n 0, 1) := by decide +kernel
theorem dX12_things_95 : decode cX12_things 95 = .ok (.getfield 130, 3) := by decide +kernel
theorem dX12_things_98 : decode cX12_things 98 = .ok (.if_icmp .ge 11, 3) := by decide +kernel
theorem dX12_things_101 : decode cX12_things 101 = .ok (.aload_n 0, 1) := by decide +kernel
theorem dX12_things_102 : decode cX12_things 102 = .ok (.aload_n 0, 1) := by decide +kernel
theorem dX12_things_103 : decode cX12_things 103 = .ok (.getfield 136, 3) := by decide +kernel
theorem dX12_things_106 : decode cX12_things 106 = .ok (.invokevirtual 154, 3) := by decide +kernel
theorem dX12_things_109 : decode cX12_things 109 = .ok (.aload_n 0, 1) := by decide +kernel
theorem dX12_things_110 : decode cX12_things 110 = .ok (.invokevirtual 142, 3) := by decide +kernel
theorem dX12_things_113 : decode cX12_things 113 = .ok (.ifCond .ne 10, 3) := by decide +kernel
theorem dX12_things_116 : decode cX12_things 116 = .ok (.iconst (-1), 1) := by decide +kernel
theorem dX12_things_117 : decode cX12_things 117 = .ok (.aload_n 0, 1) := by decide +kernel
theorem dX12_things_118 : decode cX12_things 118 = .ok (.getfield 139, 3) := by decide +kernel
theorem dX12_things_121 : decode cX12_things 121 = .ok (.isub, 1) := by decide +kernel
theorem dX12_things_122 : decode cX12_things 122 = .ok (.ireturn, 1) := by decide +kernel
theorem dX12_things_123 : decode cX12_things 123 = .ok (.iconst 0, 1) := by decide +kernel
theorem dX12_things_124 : decode cX12_things 124 = .ok (.istore_n 3, 1) := by decide +kernel
theorem dX12_things_125 : decode cX12_things 125 = .ok (.iload_n 3, 1) := by decide +kernel
theorem dX12_things_126 : decode cX12_things 126 = .ok (.iconst 5, 1) := by decide +kernel
theorem dX12_things_127 : decode cX12_things 127 = .ok (.iload_n 1, 1) := by decide +kernel
theorem dX12_things_128 : decode cX12_things 128 = .ok (.imul, 1) := by decide +kernel
theorem dX12_things_129 : decode cX12_things 129 = .ok (.if_icmp .ge 28, 3) := by decide +kernel
theorem dX12_things_132 : decode cX12_things 132 = .ok (.aload_n 0, 1) := by decide +kernel
theorem dX12_things_133 : decode cX12_things 133 = .ok (.getfield 19, 3) := by decide +kernel
theorem dX12_things_136 : decode cX12_things 136 = .ok (.iconst 5, 1) := by decide +kernel
theorem dX12_things_137 : decode cX12_things 137 = .ok (.aload_n 0, 1) := by decide +kernel
theorem dX12_things_138 : decode cX12_things 138 = .ok (.getfield 121, 3) := by decide +kernel
theorem dX12_things_141 : decode cX12_things 141 = .ok (.imul, 1) := by decide +kernel
theorem dX12_things_142 : decode cX12_things 142 = .ok (.iload_n 3, 1) := by decide +kernel
theorem dX12_things_143 : decode cX12_things 143 = .ok (.iadd, 1) := by decide +kernel
theorem dX12_things_144 : decode cX12_things 144 = .ok (.aload_n 0, 1) := by decide +kernel
theorem dX12_things_145 : decode cX12_things 145 = .ok (.getfield 29, 3) := by decide +kernel
theorem dX12_things_148 : decode cX12_things 148 = .ok (.iload_n 3, 1) := by decide +kernel
theorem dX12_things_149 : decode cX12_things 149 = .ok (.iaload, 1) := by decide +kernel
theorem dX12_things_150 : decode cX12_things 150 = .ok (.iastore, 1) := by decide +kernel
theorem dX12_things_151 : decode cX12_things 151 = .ok (.iinc 3 1, 3) := by decide +kernel
theorem dX12_things_154 : decode cX12_things 154 = .ok (.goto (-29), 3) := by decide +kernel
theorem dX12_things_157 : decode cX12_things 157 = .ok (.aload_n 0, 1) := by decide +kernel
theorem dX12_things_158 : decode cX12_things 158 = .ok (.dup, 1) := by decide +kernel
theorem dX12_things_159 : decode cX12_things 159 = .ok (.getfield 121, 3) := by decide +kernel
theorem dX12_things_162 : decode cX12_things 162 = .ok (.iload_n 1, 1) := by decide +kernel
theorem dX12_things_163 : decode cX12_things 163 = .ok (.iadd, 1) := by decide +kernel
theorem dX12_things_164 : decode cX12_things 164 = .ok (.putfield 121, 3) := by decide +kernel
theorem dX12_things_167 : decode cX12_things 167 = .ok (.aload_n 0, 1) := by decide +kernel
theorem dX12_things_168 : decode cX12_things 168 = .ok (.iconst 0, 1) := by decide +kernel
theorem dX12_things_169 : decode cX12_things 169 = .ok (.putfield 174, 3) := by decide +kernel
theorem dX12_things_172 : decode cX12_things 172 = .ok (.aload_n 0, 1) := by decide +kernel
theorem dX12_things_173 : decode cX12_things 173 = .ok (.dup, 1) := by decide +kernel
theorem dX12_things_174 : decode cX12_things 174 = .ok (.getfield 177, 3) := by decide +kernel
theorem dX12_things_177 : decode cX12_things 177 = .ok (.iconst 1, 1) := by decide +kernel
theorem dX12_things_178 : decode cX12_things 178 = .ok (.iadd, 1) := by decide +kernel
theorem dX12_things_179 : decode cX12_things 179 = .ok (.putfield 177, 3) := by decide +kernel
theorem dX12_things_182 : decode cX12_things 182 = .ok (.iload_n 1, 1) := by decide +kernel
theorem dX12_things_183 : decode cX12_things 183 = .ok (.ireturn, 1) := by decide +kernel
abbrev YX12_things : li_Y := (yX12_things, cX12_things, 4, (some .int))
set_option maxRecDepth 100000 in
set_option maxHeartbeats 4000000 in
theorem k_X12_readThing {l : Launch} {Z : li_Z} (d : Nat) (hd : 5 ≤ d) (p1 : Int32) (M0 : li_M) (hJ : li_J M0) (h1 : 0 ≤ p1.toInt ∧ p1.toInt ≤ 35) : li_Met l Z YX12_readThing d [.ref (Z.2.2 175), .int p1] M0 (fun r M' => r = none ∧ li_fs (fun i k => (i = 182 ∧ p1.toInt ≤ ((k : Nat) : Int) ∧ ((k : Nat) : Int) < p1.toInt + 5) ∨ (i = 175 ∧ k = 14) ∨ (i = 175 ∧ k = 15)) M0 M' ∧ li_J M' ∧ (((M0.1 175 15).toInt ≤ (M'.1 175 15).toInt) ∧ 0 ≤ (M'.1 182 (p1.toNatClampNeg)).toInt ∧ (M'.1 182 (p1.toNatClampNeg)).toInt ≤ 5 ∧ 0 ≤ (M'.1 182 (p1.toNatClampNeg + 1)).toInt ∧ (M'.1 182 (p1.toNatClampNeg + 1)).toInt ≤ 5)) := by
  refine li_enter (by decide +kernel) (Nat.le_of_ble_eq_true rfl) ?_
  show li_T l Z YX12_readThing d 0 [(0, .ref (Z.2.2 175)), (1, .int p1)] [] M0 _
  have hf : li_fs (fun i k => (i = 182 ∧ p1.toInt ≤ ((k : Nat) : Int) ∧ ((k : Nat) : Int) < p1.toInt + 5) ∨ (i = 175 ∧ k = 14) ∨ (i = 175 ∧ k = 15)) M0 M0 := li_fs_refl
  have gp1 := tl_rg p1
  have rM0_12 := J_sl12 (M := M0) hJ
  have rM0_13 := J_sl13 (M := M0) hJ
  have rM0_14 := J_sl14 (M := M0) hJ
  have rM0_15 := J_sl15 (M := M0) hJ
  refine li_aload_n 0 dX12_readThing_0 rfl ?_
  refine li_getr (k := 16) (N := 52) (T := TX12) (C0 := RX12) dX12_readThing_1 (by decide) sh_175 rfl rfl (by decide) (by decide) li_in12 w_1420 ?_
  refine li_iload_n 1 dX12_readThing_4 rfl ?_
  refine li_aload_n 0 dX12_readThing_5 rfl ?_
  refine li_bipush 97 dX12_readThing_6 (by decide) ?_
  refine li_aload_n 0 dX12_readThing_8 rfl ?_
  refine li_geti (k := 1) (N := 52) (T := TX12) (C0 := RX12) dX12_readThing_9 (by decide) sh_175 rfl rfl (by decide) li_in12 w_1405 ?_
  refine li_top (fun x1 ex1 => ?_)
  have gx1 : 0 ≤ x1.toInt ∧ x1.toInt ≤ 6 := by rw [ex1]; exact J_sl1 hJ
  have sx1 : x1.toInt = (M0.1 175 1).toInt := tl_slot (ex1.trans (hf.1 175 1 (show ¬ ((175 = 182 ∧ p1.toInt ≤ ((1 : Nat) : Int) ∧ ((1 : Nat) : Int) < p1.toInt + 5) ∨ (175 = 175 ∧ 1 = 14) ∨ (175 = 175 ∧ 1 = 15)) by omega)))
  refine li_iconst (-1) dX12_readThing_12 (by decide) ?_
  have z97 : (97 : Int32).toInt = 97 := rfl
  have zm1 : ((-1) : Int32).toInt = -1 := rfl
  refine li_callV (n := 3) (As := [.int 97, .int x1, .int (-1)]) dX12_readThing_13 (k_X12_oneOfW (d - 1) (by omega) 97 x1 (-1) M0 hJ (by omega) (by omega)) (by omega) (Nat.le_of_ble_eq_true rfl) w_1593 w_1595 w_46 w_112 w_1596 (by decide +kernel) rfl (by decide) sh_175 rfl rfl (Nat.le_of_ble_eq_true rfl) (fun r M3 h4 => ?_)
  obtain ⟨⟨x2, rfl, qx2⟩, h4, jM3⟩ := h4
  have gx2 := tl_rg x2
  have hf := li_fs_trans hf h4 (fun i k => fun h => Or.elim h (fun h => Or.inr (Or.inl h)) (fun h => Or.inr (Or.inr h)))
  have hJ := jM3
  have rM3_12 := J_sl12 (M := M3) hJ
  have rM3_13 := J_sl13 (M := M3) hJ
  have rM3_14 := J_sl14 (M := M3) hJ
  have rM3_15 := J_sl15 (M := M3) hJ
  have mM3_12 : (M3.1 175 12).toInt = (M0.1 175 12).toInt := tl_slot (h4.1 175 12 (show ¬ ((175 = 175 ∧ 12 = 14) ∨ (175 = 175 ∧ 12 = 15)) by decide))
  have mM3_13 : (M3.1 175 13).toInt = (M0.1 175 13).toInt := tl_slot (h4.1 175 13 (show ¬ ((175 = 175 ∧ 13 = 14) ∨ (175 = 175 ∧ 13 = 15)) by decide))
  have aM3_182_p1toNatClampNeg : (M3.1 182 (p1.toNatClampNeg)).toInt = (M0.1 182 (p1.toNatClampNeg)).toInt := tl_slot (h4.1 182 (p1.toNatClampNeg) (show ¬ ((182 = 175 ∧ p1.toNatClampNeg = 14) ∨ (182 = 175 ∧ p1.toNatClampNeg = 15)) by omega))
  have aM3_182_p1toNatClampNeg1 : (M3.1 182 (p1.toNatClampNeg + 1)).toInt = (M0.1 182 (p1.toNatClampNeg + 1)).toInt := tl_slot (h4.1 182 (p1.toNatClampNeg + 1) (show ¬ ((182 = 175 ∧ p1.toNatClampNeg + 1 = 14) ∨ (182 = 175 ∧ p1.toNatClampNeg + 1 = 15)) by omega))
  refine li_iast dX12_readThing_16 (by decide) sh_182 (tl_in (by omega)) ?_
  refine li_nm (fun M5 eM5 => ?_)
  have hf := li_fs_ui hf (show (182 = 182 ∧ p1.toInt ≤ (((p1 : Int32).toNatClampNeg : Nat) : Int) ∧ (((p1 : Int32).toNatClampNeg : Nat) : Int) < p1.toInt + 5) ∨ (182 = 175 ∧ (p1 : Int32).toNatClampNeg = 14) ∨ (182 = 175 ∧ (p1 : Int32).toNatClampNeg = 15) by have h9 := li_cl (i := p1) (by omega); omega) eM5
  have hJ := hJ.st (by decide) (li_el_free (by unfold li_led; omega) (by decide) (by decide) (by unfold li_rq; omega)) eM5
  have rM5_12 := J_sl12 (M := M5) hJ
  have rM5_13 := J_sl13 (M := M5) hJ
  have rM5_14 := J_sl14 (M := M5) hJ
  have rM5_15 := J_sl15 (M := M5) hJ
  have mM5_12 : (M5.1 175 12).toInt = (M3.1 175 12).toInt := by rw [eM5, li_ui_at, if_neg (by decide)]
  have mM5_13 : (M5.1 175 13).toInt = (M3.1 175 13).toInt := by rw [eM5, li_ui_at, if_neg (by decide)]
  have mM5_14 : (M5.1 175 14).toInt = (M3.1 175 14).toInt := by rw [eM5, li_ui_at, if_neg (by decide)]
  have mM5_15 : (M5.1 175 15).toInt = (M3.1 175 15).toInt := by rw [eM5, li_ui_at, if_neg (by decide)]
  first | (have aM5_182_p1toNatClampNeg : (M5.1 182 (p1.toNatClampNeg)).toInt = (x2 : Int32).toInt := by rw [eM5, li_ui_at, if_pos rfl, if_pos (show p1.toNatClampNeg = (p1 : Int32).toNatClampNeg by have h9 := li_cl (i := p1) (by omega); have h8 := li_cl (i := p1) (by omega); omega)]) | (have aM5_182_p1toNatClampNeg : (M5.1 182 (p1.toNatClampNeg)).toInt = (M3.1 182 (p1.toNatClampNeg)).toInt := by rw [eM5, li_ui_at, if_pos rfl, if_neg (show ¬ p1.toNatClampNeg = (p1 : Int32).toNatClampNeg by have h9 := li_cl (i := p1) (by omega); have h8 := li_cl (i := p1) (by omega); omega)]) | skip
  first | (have aM5_182_p1toNatClampNeg1 : (M5.1 182 (p1.toNatClampNeg + 1)).toInt = (x2 : Int32).toInt := by rw [eM5, li_ui_at, if_pos rfl, if_pos (show p1.toNatClampNeg + 1 = (p1 : Int32).toNatClampNeg by have h9 := li_cl (i := p1) (by omega); have h8 := li_cl (i := p1) (by omega); omega)]) | (have aM5_182_p1toNatClampNeg1 : (M5.1 182 (p1.toNatClampNeg + 1)).toInt = (M3.1 182 (p1.toNatClampNeg + 1)).toInt := by rw [eM5, li_ui_at, if_pos rfl, if_neg (show ¬ p1.toNatClampNeg + 1 = (p1 : Int32).toNatClampNeg by have h9 := li_cl (i := p1) (by omega); have h8 := li_cl (i := p1) (by omega); omega)]) | skip
  refine li_aload_n 0 dX12_readThing_17 rfl ?_
  refine li_getr (k := 16) (N := 52) (T := TX12) (C0 := RX12) dX12_readThing_18 (by decide) sh_175 rfl rfl (by decide) (by decide) li_in12 w_1420 ?_
  refine li_iload_n 1 dX12_readThing_21 rfl ?_
  refine li_iconst 1 dX12_readThing_22 (by decide) ?_
  refine li_iadd dX12_readThing_23 ?_
  refine li_top (fun x6 ex6 => ?_)
  have z1 : (1 : Int32).toInt = 1 := rfl
  try (have tx6 : x6.toInt = (p1 : Int32).toInt + (1 : Int32).toInt := tl_add ex6 (by omega))
  refine li_aload_n 0 dX12_readThing_24 rfl ?_
  refine li_bipush 97 dX12_readThing_25 (by decide) ?_
  refine li_aload_n 0 dX12_readThing_27 rfl ?_
  refine li_geti (k := 1) (N := 52) (T := TX12) (C0 := RX12) dX12_readThing_28 (by decide) sh_175 rfl rfl (by decide) li_in12 w_1405 ?_
  refine li_top (fun x7 ex7 => ?_)
  have gx7 : 0 ≤ x7.toInt ∧ x7.toInt ≤ 6 := by rw [ex7]; exact J_sl1 hJ
  have sx7 : x7.toInt = (M0.1 175 1).toInt := tl_slot (ex7.trans (hf.1 175 1 (show ¬ ((175 = 182 ∧ p1.toInt ≤ ((1 : Nat) : Int) ∧ ((1 : Nat) : Int) < p1.toInt + 5) ∨ (175 = 175 ∧ 1 = 14) ∨ (175 = 175 ∧ 1 = 15)) by omega)))
  refine li_aload_n 0 dX12_readThing_31 rfl ?_
  refine li_getr (k := 16) (N := 52) (T := TX12) (C0 := RX12) dX12_readThing_32 (by decide) sh_175 rfl rfl (by decide) (by decide) li_in12 w_1420 ?_
  refine li_iload_n 1 dX12_readThing_35 rfl ?_
  refine li_iald dX12_readThing_36 (by decide) sh_182 (tl_in (by omega)) ?_
  refine li_top (fun x8 ex8 => ?_)
  have gx8 := tl_rg x8
  have z97 : (97 : Int32).toInt = 97 := rfl
  refine li_callV (n := 3) (As := [.int 97, .int x7, .int x8]) dX12_readThing_37 (k_X12_oneOfW (d - 1) (by omega) 97 x7 x8 M5 hJ (by omega) (by omega)) (by omega) (Nat.le_of_ble_eq_true rfl) w_1593 w_1595 w_46 w_112 w_1596 (by decide +kernel) rfl (by decide) sh_175 rfl rfl (Nat.le_of_ble_eq_true rfl) (fun r M10 h11 => ?_)
  obtain ⟨⟨x9, rfl, qx9⟩, h11, jM10⟩ := h11
  have gx9 := tl_rg x9
  have hf := li_fs_trans hf h11 (fun i k => fun h => Or.elim h (fun h => Or.inr (Or.inl h)) (fun h => Or.inr (Or.inr h)))
  have hJ := jM10
  have rM10_12 := J_sl12 (M := M10) hJ
  have rM10_13 := J_sl13 (M := M10) hJ
  have rM10_14 := J_sl14 (M := M10) hJ
  have rM10_15 := J_sl15 (M := M10) hJ
  have mM10_12 : (M10.1 175 12).toInt = (M5.1 175 12).toInt := tl_slot (h11.1 175 12 (show ¬ ((175 = 175 ∧ 12 = 14) ∨ (175 = 175 ∧ 12 = 15)) by decide))
  have mM10_13 : (M10.1 175 13).toInt = (M5.1 175 13).toInt := tl_slot (h11.1 175 13 (show ¬ ((175 = 175 ∧ 13 = 14) ∨ (175 = 175 ∧ 13 = 15)) by decide))
  have aM10_182_p1toNatClampNeg : (M10.1 182 (p1.toNatClampNeg)).toInt = (M5.1 182 (p1.toNatClampNeg)).toInt := tl_slot (h11.1 182 (p1.toNatClampNeg) (show ¬ ((182 = 175 ∧ p1.toNatClampNeg = 14) ∨ (182 = 175 ∧ p1.toNatClampNeg = 15)) by omega))
  have aM10_182_p1toNatClampNeg1 : (M10.1 182 (p1.toNatClampNeg + 1)).toInt = (M5.1 182 (p1.toNatClampNeg + 1)).toInt := tl_slot (h11.1 182 (p1.toNatClampNeg + 1) (show ¬ ((182 = 175 ∧ p1.toNatClampNeg + 1 = 14) ∨ (182 = 175 ∧ p1.toNatClampNeg + 1 = 15)) by omega))
  refine li_iast dX12_readThing_40 (by decide) sh_182 (tl_in (by omega)) ?_
  refine li_nm (fun M12 eM12 => ?_)
  have hf := li_fs_ui hf (show (182 = 182 ∧ p1.toInt ≤ (((x6 : Int32).toNatClampNeg : Nat) : Int) ∧ (((x6 : Int32).toNatClampNeg : Nat) : Int) < p1.toInt + 5) ∨ (182 = 175 ∧ (x6 : Int32).toNatClampNeg = 14) ∨ (182 = 175 ∧ (x6 : Int32).toNatClampNeg = 15) by have h9 := li_cl (i := x6) (by omega); omega) eM12
  have hJ := hJ.st (by decide) (li_el_free (by unfold li_led; omega) (by decide) (by decide) (by unfold li_rq; omega)) eM12
  have rM12_12 := J_sl12 (M := M12) hJ
  have rM12_13 := J_sl13 (M := M12) hJ
  have rM12_14 := J_sl14 (M := M12) hJ
  have rM12_15 := J_sl15 (M := M12) hJ
  have mM12_12 : (M12.1 175 12).toInt = (M10.1 175 12).toInt := by rw [eM12, li_ui_at, if_neg (by decide)]
  have mM12_13 : (M12.1 175 13).toInt = (M10.1 175 13).toInt := by rw [eM12, li_ui_at, if_neg (by decide)]
  have mM12_14 : (M12.1 175 14).toInt = (M10.1 175 14).toInt := by rw [eM12, li_ui_at, if_neg (by decide)]
  have mM12_15 : (M12.1 175 15).toInt = (M10.1 175 15).toInt := by rw [eM12, li_ui_at, if_neg (by decide)]
  first | (have aM12_182_p1toNatClampNeg : (M12.1 182 (p1.toNatClampNeg)).toInt = (x9 : Int32).toInt := by rw [eM12, li_ui_at, if_pos rfl, if_pos (show p1.toNatClampNeg = (x6 : Int32).toNatClampNeg by have h9 := li_cl (i := x6) (by omega); have h8 := li_cl (i := p1) (by omega); omega)]) | (have aM12_182_p1toNatClampNeg : (M12.1 182 (p1.toNatClampNeg)).toInt = (M10.1 182 (p1.toNatClampNeg)).toInt := by rw [eM12, li_ui_at, if_pos rfl, if_neg (show ¬ p1.toNatClampNeg = (x6 : Int32).toNatClampNeg by have h9 := li_cl (i := x6) (by omega); have h8 := li_cl (i := p1) (by omega); omega)]) | skip
  first | (have aM12_182_p1toNatClampNeg1 : (M12.1 182 (p1.toNatClampNeg + 1)).toInt = (x9 : Int32).toInt := by rw [eM12, li_ui_at, if_pos rfl, if_pos (show p1.toNatClampNeg + 1 = (x6 : Int32).toNatClampNeg by have h9 := li_cl (i := x6) (by omega); have h8 := li_cl (i := p1) (by omega); omega)]) | (have aM12_182_p1toNatClampNeg1 : (M12.1 182 (p1.toNatClampNeg + 1)).toInt = (M10.1 182 (p1.toNatClampNeg + 1)).toInt := by rw [eM12, li_ui_at, if_pos rfl, if_neg (show ¬ p1.toNatClampNeg + 1 = (x6 : Int32).toNatClampNeg by have h9 := li_cl (i := x6) (by omega); have h8 := li_cl (i := p1) (by omega); omega)]) | skip
  refine li_aload_n 0 dX12_readThing_41 rfl ?_
  refine li_getr (k := 16) (N := 52) (T := TX12) (C0 := RX12) dX12_readThing_42 (by decide) sh_175 rfl rfl (by decide) (by decide) li_in12 w_1420 ?_
  refine li_iload_n 1 dX12_readThing_45 rfl ?_
  refine li_iconst 2 dX12_readThing_46 (by decide) ?_
  refine li_iadd dX12_readThing_47 ?_
  refine li_top (fun x13 ex13 => ?_)
  have z2 : (2 : Int32).toInt = 2 := rfl
  try (have tx13 : x13.toInt = (p1 : Int32).toInt + (2 : Int32).toInt := tl_add ex13 (by omega))
  refine li_aload_n 0 dX12_readThing_48 rfl ?_
  refine li_iconst 2 dX12_readThing_49 (by decide) ?_
  have z2 : (2 : Int32).toInt = 2 := rfl
  refine li_callV (n := 1) (As := [.int 2]) dX12_readThing_50 (k_X12_numberW (d - 1) (by omega) 2 M12 hJ ) (by omega) (Nat.le_of_ble_eq_true rfl) w_1589 w_1591 w_45 w_112 w_1592 (by decide +kernel) rfl (by decide) sh_175 rfl rfl (Nat.le_of_ble_eq_true rfl) (fun r M15 h16 => ?_)
  obtain ⟨⟨x14, rfl, qx14⟩, h16, jM15⟩ := h16
  have gx14 := tl_rg x14
  have hf := li_fs_trans hf h16 (fun i k => fun h => Or.elim h (fun h => Or.inr (Or.inl h)) (fun h => Or.inr (Or.inr h)))
  have hJ := jM15
  have rM15_12 := J_sl12 (M := M15) hJ
  have rM15_13 := J_sl13 (M := M15) hJ
  have rM15_14 := J_sl14 (M := M15) hJ
  have rM15_15 := J_sl15 (M := M15) hJ
  have mM15_12 : (M15.1 175 12).toInt = (M12.1 175 12).toInt := tl_slot (h16.1 175 12 (show ¬ ((175 = 175 ∧ 12 = 14) ∨ (175 = 175 ∧ 12 = 15)) by decide))
  have mM15_13 : (M15.1 175 13).toInt = (M12.1 175 13).toInt := tl_slot (h16.1 175 13 (show ¬ ((175 = 175 ∧ 13 = 14) ∨ (175 = 175 ∧ 13 = 15)) by decide))
  have aM15_182_p1toNatClampNeg : (M15.1 182 (p1.toNatClampNeg)).toInt = (M12.1 182 (p1.toNatClampNeg)).toInt := tl_slot (h16.1 182 (p1.toNatClampNeg) (show ¬ ((182 = 175 ∧ p1.toNatClampNeg = 14) ∨ (182 = 175 ∧ p1.toNatClampNeg = 15)) by omega))
  have aM15_182_p1toNatClampNeg1 : (M15.1 182 (p1.toNatClampNeg + 1)).toInt = (M12.1 182 (p1.toNatClampNeg + 1)).toInt := tl_slot (h16.1 182 (p1.toNatClampNeg + 1) (show ¬ ((182 = 175 ∧ p1.toNatClampNeg + 1 = 14) ∨ (182 = 175 ∧ p1.toNatClampNeg + 1 = 15)) by omega))
  refine li_iast dX12_readThing_53 (by decide) sh_182 (tl_in (by omega)) ?_
  refine li_nm (fun M17 eM17 => ?_)
  have hf := li_fs_ui hf (show (182 = 182 ∧ p1.toInt ≤ (((x13 : Int32).toNatClampNeg : Nat) : Int) ∧ (((x13 : Int32).toNatClampNeg : Nat) : Int) < p1.toInt + 5) ∨ (182 = 175 ∧ (x13 : Int32).toNatClampNeg = 14) ∨ (182 = 175 ∧ (x13 : Int32).toNatClampNeg = 15) by have h9 := li_cl (i := x13) (by omega); omega) eM17
  have hJ := hJ.st (by decide) (li_el_free (by unfold li_led; omega) (by decide) (by decide) (by unfold li_rq; omega)) eM17
  have rM17_12 := J_sl12 (M := M17) hJ
  have rM17_13 := J_sl13 (M := M17) hJ
  have rM17_14 := J_sl14 (M := M17) hJ
  have rM17_15 := J_sl15 (M := M17) hJ
  have mM17_12 : (M17.1 175 12).toInt = (M15.1 175 12).toInt := by rw [eM17, li_ui_at, if_neg (by decide)]
  have mM17_13 : (M17.1 175 13).toInt = (M15.1 175 13).toInt := by rw [eM17, li_ui_at, if_neg (by decide)]
  have mM17_14 : (M17.1 175 14).toInt = (M15.1 175 14).toInt := by rw [eM17, li_ui_at, if_neg (by decide)]
  have mM17_15 : (M17.1 175 15).toInt = (M15.1 175 15).toInt := by rw [eM17, li_ui_at, if_neg (by decide)]
  first | (have aM17_182_p1toNatClampNeg : (M17.1 182 (p1.toNatClampNeg)).toInt = (x14 : Int32).toInt := by rw [eM17, li_ui_at, if_pos rfl, if_pos (show p1.toNatClampNeg = (x13 : Int32).toNatClampNeg by have h9 := li_cl (i := x13) (by omega); have h8 := li_cl (i := p1) (by omega); omega)]) | (have aM17_182_p1toNatClampNeg : (M17.1 182 (p1.toNatClampNeg)).toInt = (M15.1 182 (p1.toNatClampNeg)).toInt := by rw [eM17, li_ui_at, if_pos rfl, if_neg (show ¬ p1.toNatClampNeg = (x13 : Int32).toNatClampNeg by have h9 := li_cl (i := x13) (by omega); have h8 := li_cl (i := p1) (by omega); omega)]) | skip
  first | (have aM17_182_p1toNatClampNeg1 : (M17.1 182 (p1.toNatClampNeg + 1)).toInt = (x14 : Int32).toInt := by rw [eM17, li_ui_at, if_pos rfl, if_pos (show p1.toNatClampNeg + 1 = (x13 : Int32).toNatClampNeg by have h9 := li_cl (i := x13) (by omega); have h8 := li_cl (i := p1) (by omega); omega)]) | (have aM17_182_p1toNatClampNeg1 : (M17.1 182 (p1.toNatClampNeg + 1)).toInt = (M15.1 182 (p1.toNatClampNeg + 1)).toInt := by rw [eM17, li_ui_at, if_pos rfl, if_neg (show ¬ p1.toNatClampNeg + 1 = (x13 : Int32).toNatClampNeg by have h9 := li_cl (i := x13) (by omega); have h8 := li_cl (i := p1) (by omega); omega)]) | skip
  refine li_aload_n 0 dX12_readThing_54 rfl ?_
  refine li_callV (n := 0) (As := []) dX12_readThing_55 (k_X12_fineW (d - 1) (by omega)  M17 hJ ) (by omega) (Nat.le_of_ble_eq_true rfl) w_1581 w_1583 w_43 w_112 w_1584 (by decide +kernel) rfl (by decide) sh_175 rfl rfl (Nat.le_of_ble_eq_true rfl) (fun r M19 h20 => ?_)
  obtain ⟨qx18, h20, jM19⟩ := h20
  have hf := li_fs_trans hf h20 (fun i k h => False.elim h)
  have hJ := jM19
  have rM19_12 := J_sl12 (M := M19) hJ
  have rM19_13 := J_sl13 (M := M19) hJ
  have rM19_14 := J_sl14 (M := M19) hJ
  have rM19_15 := J_sl15 (M := M19) hJ
  have mM19_12 : (M19.1 175 12).toInt = (M17.1 175 12).toInt := tl_slot (h20.1 175 12 id)
  have mM19_13 : (M19.1 175 13).toInt = (M17.1 175 13).toInt := tl_slot (h20.1 175 13 id)
  have mM19_14 : (M19.1 175 14).toInt = (M17.1 175 14).toInt := tl_slot (h20.1 175 14 id)
  have mM19_15 : (M19.1 175 15).toInt = (M17.1 175 15).toInt := tl_slot (h20.1 175 15 id)
  have aM19_182_p1toNatClampNeg : (M19.1 182 (p1.toNatClampNeg)).toInt = (M17.1 182 (p1.toNatClampNeg)).toInt := tl_slot (h20.1 182 (p1.toNatClampNeg) id)
  have aM19_182_p1toNatClampNeg1 : (M19.1 182 (p1.toNatClampNeg + 1)).toInt = (M17.1 182 (p1.toNatClampNeg + 1)).toInt := tl_slot (h20.1 182 (p1.toNatClampNeg + 1) id)
  rcases qx18 with ⟨rfl, qx18⟩ | ⟨rfl, qx18⟩
  · skip
    refine li_if_eq 82 dX12_readThing_58 (by decide) (fun c => absurd c (by decide)) (fun c => ?_)
    refine li_aload_n 0 dX12_readThing_61 rfl ?_
    refine li_getr (k := 16) (N := 52) (T := TX12) (C0 := RX12) dX12_readThing_62 (by decide) sh_175 rfl rfl (by decide) (by decide) li_in12 w_1420 ?_
    refine li_iload_n 1 dX12_readThing_65 rfl ?_
    refine li_iconst 2 dX12_readThing_66 (by decide) ?_
    refine li_iadd dX12_readThing_67 ?_
    refine li_top (fun x22 ex22 => ?_)
    have z2 : (2 : Int32).toInt = 2 := rfl
    try (have tx22 : x22.toInt = (p1 : Int32).toInt + (2 : Int32).toInt := tl_add ex22 (by omega))
    refine li_iald dX12_readThing_68 (by decide) sh_182 (tl_in (by omega)) ?_
    refine li_top (fun x23 ex23 => ?_)
    have gx23 := tl_rg x23
    have J82 : ∀  (M25 : li_M), li_fs (fun i k => (i = 182 ∧ p1.toInt ≤ ((k : Nat) : Int) ∧ ((k : Nat) : Int) < p1.toInt + 5) ∨ (i = 175 ∧ k = 14) ∨ (i = 175 ∧ k = 15)) M0 M25 → li_J M25 → (M0.1 175 15).toInt ≤ (M25.1 175 15).toInt ∧ 0 ≤ (M25.1 182 (p1.toNatClampNeg)).toInt ∧ (M25.1 182 (p1.toNatClampNeg)).toInt ≤ 5 ∧ 0 ≤ (M25.1 182 (p1.toNatClampNeg + 1)).toInt ∧ (M25.1 182 (p1.toNatClampNeg + 1)).toInt ≤ 5 → li_T l Z YX12_readThing d 82 [(0, .ref (Z.2.2 175)), (1, .int p1)] [] M25 (fun r M' => r = none ∧ li_fs (fun i k => (i = 182 ∧ p1.toInt ≤ ((k : Nat) : Int) ∧ ((k : Nat) : Int) < p1.toInt + 5) ∨ (i = 175 ∧ k = 14) ∨ (i = 175 ∧ k = 15)) M0 M' ∧ li_J M' ∧ (((M0.1 175 15).toInt ≤ (M'.1 175 15).toInt) ∧ 0 ≤ (M'.1 182 (p1.toNatClampNeg)).toInt ∧ (M'.1 182 (p1.toNatClampNeg)).toInt ≤ 5 ∧ 0 ≤ (M'.1 182 (p1.toNatClampNeg + 1)).toInt ∧ (M'.1 182 (p1.toNatClampNeg + 1)).toInt ≤ 5)) := by
      intro  M25 hf hJ hi
      have rM25_12 := J_sl12 (M := M25) hJ
      have rM25_13 := J_sl13 (M := M25) hJ
      have rM25_14 := J_sl14 (M := M25) hJ
      have rM25_15 := J_sl15 (M := M25) hJ
      have mM25_12 : (M25.1 175 12).toInt = (M0.1 175 12).toInt := tl_slot (hf.1 175 12 (show ¬ ((175 = 182 ∧ p1.toInt ≤ ((12 : Nat) : Int) ∧ ((12 : Nat) : Int) < p1.toInt + 5) ∨ (175 = 175 ∧ 12 = 14) ∨ (175 = 175 ∧ 12 = 15)) by omega))
      have mM25_13 : (M25.1 175 13).toInt = (M0.1 175 13).toInt := tl_slot (hf.1 175 13 (show ¬ ((175 = 182 ∧ p1.toInt ≤ ((13 : Nat) : Int) ∧ ((13 : Nat) : Int) < p1.toInt + 5) ∨ (175 = 175 ∧ 13 = 14) ∨ (175 = 175 ∧ 13 = 15)) by omega))
      refine li_aload_n 0 dX12_readThing_82 rfl ?_
      refine li_bipush 45 dX12_readThing_83 (by decide) ?_
      have z45 : (45 : Int32).toInt = 45 := rfl
      refine li_callV (n := 1) (As := [.int 45]) dX12_readThing_85 (k_X12_needW (d - 1) (by omega) 45 M25 hJ (by omega)) (by omega) (Nat.le_of_ble_eq_true rfl) w_1601 w_1603 w_48 w_112 w_1604 (by decide +kernel) rfl (by decide) sh_175 rfl rfl (Nat.le_of_ble_eq_true rfl) (fun r M27 h28 => ?_)
      obtain ⟨rfl, h28, jM27, nM27⟩ := h28
      have hf := li_fs_trans hf h28 (fun i k => fun h => Or.elim h (fun h => Or.inr (Or.inl h)) (fun h => Or.inr (Or.inr h)))
      have hJ := jM27
      have rM27_12 := J_sl12 (M := M27) hJ
      have rM27_13 := J_sl13 (M := M27) hJ
      have rM27_14 := J_sl14 (M := M27) hJ
      have rM27_15 := J_sl15 (M := M27) hJ
      have mM27_12 : (M27.1 175 12).toInt = (M25.1 175 12).toInt := tl_slot (h28.1 175 12 (show ¬ ((175 = 175 ∧ 12 = 14) ∨ (175 = 175 ∧ 12 = 15)) by decide))
      have mM27_13 : (M27.1 175 13).toInt = (M25.1 175 13).toInt := tl_slot (h28.1 175 13 (show ¬ ((175 = 175 ∧ 13 = 14) ∨ (175 = 175 ∧ 13 = 15)) by decide))
      have aM27_182_p1toNatClampNeg : (M27.1 182 (p1.toNatClampNeg)).toInt = (M25.1 182 (p1.toNatClampNeg)).toInt := tl_slot (h28.1 182 (p1.toNatClampNeg) (show ¬ ((182 = 175 ∧ p1.toNatClampNeg = 14) ∨ (182 = 175 ∧ p1.toNatClampNeg = 15)) by omega))
      have aM27_182_p1toNatClampNeg1 : (M27.1 182 (p1.toNatClampNeg + 1)).toInt = (M25.1 182 (p1.toNatClampNeg + 1)).toInt := tl_slot (h28.1 182 (p1.toNatClampNeg + 1) (show ¬ ((182 = 175 ∧ p1.toNatClampNeg + 1 = 14) ∨ (182 = 175 ∧ p1.toNatClampNeg + 1 = 15)) by omega))
      refine li_aload_n 0 dX12_readThing_88 rfl ?_
      refine li_getr (k := 16) (N := 52) (T := TX12) (C0 := RX12) dX12_readThing_89 (by decide) sh_175 rfl rfl (by decide) (by decide) li_in12 w_1420 ?_
      refine li_iload_n 1 dX12_readThing_92 rfl ?_
      refine li_iconst 3 dX12_readThing_93 (by decide) ?_
      refine li_iadd dX12_readThing_94 ?_
      refine li_top (fun x29 ex29 => ?_)
      have z3 : (3 : Int32).toInt = 3 := rfl
      try (have tx29 : x29.toInt = (p1 : Int32).toInt + (3 : Int32).toInt := tl_add ex29 (by omega))
      refine li_aload_n 0 dX12_readThing_95 rfl ?_
      refine li_iconst 2 dX12_readThing_96 (by decide) ?_
      have z2 : (2 : Int32).toInt = 2 := rfl
      refine li_callV (n := 1) (As := [.int 2]) dX12_readThing_97 (k_X12_numberW (d - 1) (by omega) 2 M27 hJ ) (by omega) (Nat.le_of_ble_eq_true rfl) w_1589 w_1591 w_45 w_112 w_1592 (by decide +kernel) rfl (by decide) sh_175 rfl rfl (Nat.le_of_ble_eq_true rfl) (fun r M31 h32 => ?_)
      obtain ⟨⟨x30, rfl, qx30⟩, h32, jM31⟩ := h32
      have gx30 := tl_rg x30
      have hf := li_fs_trans hf h32 (fun i k => fun h => Or.elim h (fun h => Or.inr (Or.inl h)) (fun h => Or.inr (Or.inr h)))
      have hJ := jM31
      have rM31_12 := J_sl12 (M := M31) hJ
      have rM31_13 := J_sl13 (M := M31) hJ
      have rM31_14 := J_sl14 (M := M31) hJ
      have rM31_15 := J_sl15 (M := M31) hJ
      have mM31_12 : (M31.1 175 12).toInt = (M27.1 175 12).toInt := tl_slot (h32.1 175 12 (show ¬ ((175 = 175 ∧ 12 = 14) ∨ (175 = 175 ∧ 12 = 15)) by decide))
      have mM31_13 : (M31.1 175 13).toInt = (M27.1 175 13).toInt := tl_slot (h32.1 175 13 (show ¬ ((175 = 175 ∧ 13 = 14) ∨ (175 = 175 ∧ 13 = 15)) by decide))
      have aM31_182_p1toNatClampNeg : (M31.1 182 (p1.toNatClampNeg)).toInt = (M27.1 182 (p1.toNatClampNeg)).toInt := tl_slot (h32.1 182 (p1.toNatClampNeg) (show ¬ ((182 = 175 ∧ p1.toNatClampNeg = 14) ∨ (182 = 175 ∧ p1.toNatClampNeg = 15)) by omega))
      have aM31_182_p1toNatClampNeg1 : (M31.1 182 (p1.toNatClampNeg + 1)).toInt = (M27.1 182 (p1.toNatClampNeg + 1)).toInt := tl_slot (h32.1 182 (p1.toNatClampNeg + 1) (show ¬ ((182 = 175 ∧ p1.toNatClampNeg + 1 = 14) ∨ (182 = 175 ∧ p1.toNatClampNeg + 1 = 15)) by omega))
      refine li_iast dX12_readThing_100 (by decide) sh_182 (tl_in (by omega)) ?_
      refine li_nm (fun M33 eM33 => ?_)
      have hf := li_fs_ui hf (show (182 = 182 ∧ p1.toInt ≤ (((x29 : Int32).toNatClampNeg : Nat) : Int) ∧ (((x29 : Int32).toNatClampNeg : Nat) : Int) < p1.toInt + 5) ∨ (182 = 175 ∧ (x29 : Int32).toNatClampNeg = 14) ∨ (182 = 175 ∧ (x29 : Int32).toNatClampNeg = 15) by have h9 := li_cl (i := x29) (by omega); omega) eM33
      have hJ := hJ.st (by decide) (li_el_free (by unfold li_led; omega) (by decide) (by decide) (by unfold li_rq; omega)) eM33
      have rM33_12 := J_sl12 (M := M33) hJ
      have rM33_13 := J_sl13 (M := M33) hJ
      have rM33_14 := J_sl14 (M := M33) hJ
      have rM33_15 := J_sl15 (M := M33) hJ
      have mM33_12 : (M33.1 175 12).toInt = (M31.1 175 12).toInt := by rw [eM33, li_ui_at, if_neg (by decide)]
      have mM33_13 : (M33.1 175 13).toInt = (M31.1 175 13).toInt := by rw [eM33, li_ui_at, if_neg (by decide)]
      have mM33_14 : (M33.1 175 14).toInt = (M31.1 175 14).toInt := by rw [eM33, li_ui_at, if_neg (by decide)]
      have mM33_15 : (M33.1 175 15).toInt = (M31.1 175 15).toInt := by rw [eM33, li_ui_at, if_neg (by decide)]
      first | (have aM33_182_p1toNatClampNeg : (M33.1 182 (p1.toNatClampNeg)).toInt = (x30 : Int32).toInt := by rw [eM33, li_ui_at, if_pos rfl, if_pos (show p1.toNatClampNeg = (x29 : Int32).toNatClampNeg by have h9 := li_cl (i := x29) (by omega); have h8 := li_cl (i := p1) (by omega); omega)]) | (have aM33_182_p1toNatClampNeg : (M33.1 182 (p1.toNatClampNeg)).toInt = (M31.1 182 (p1.toNatClampNeg)).toInt := by rw [eM33, li_ui_at, if_pos rfl, if_neg (show ¬ p1.toNatClampNeg = (x29 : Int32).toNatClampNeg by have h9 := li_cl (i := x29) (by omega); have h8 := li_cl (i := p1) (by omega); omega)]) | skip
      first | (have aM33_182_p1toNatClampNeg1 : (M33.1 182 (p1.toNatClampNeg + 1)).toInt = (x30 : Int32).toInt := by rw [eM33, li_ui_at, if_pos rfl, if_pos (show p1.toNatClampNeg + 1 = (x29 : Int32).toNatClampNeg by have h9 := li_cl (i := x29) (by omega); have h8 := li_cl (i := p1) (by omega); omega)]) | (have aM33_182_p1toNatClampNeg1 : (M33.1 182 (p1.toNatClampNeg + 1)).toInt = (M31.1 182 (p1.toNatClampNeg + 1)).toInt := by rw [eM33, li_ui_at, if_pos rfl, if_neg (show ¬ p1.toNatClampNeg + 1 = (x29 : Int32).toNatClampNeg by have h9 := li_cl (i := x29) (by omega); have h8 := li_cl (i := p1) (by omega); omega)]) | skip
      refine li_aload_n 0 dX12_readThing_101 rfl ?_
      refine li_bipush 61 dX12_readThing_102 (by decide) ?_
      have z61 : (61 : Int32).toInt = 61 := rfl
      refine li_callV (n := 1) (As := [.int 61]) dX12_readThing_104 (k_X12_needW (d - 1) (by omega) 61 M33 hJ (by omega)) (by omega) (Nat.le_of_ble_eq_true rfl) w_1601 w_1603 w_48 w_112 w_1604 (by decide +kernel) rfl (by decide) sh_175 rfl rfl (Nat.le_of_ble_eq_true rfl) (fun r M35 h36 => ?_)
      obtain ⟨rfl, h36, jM35, nM35⟩ := h36
      have hf := li_fs_trans hf h36 (fun i k => fun h => Or.elim h (fun h => Or.inr (Or.inl h)) (fun h => Or.inr (Or.inr h)))
      have hJ := jM35
      have rM35_12 := J_sl12 (M := M35) hJ
      have rM35_13 := J_sl13 (M := M35) hJ
      have rM35_14 := J_sl14 (M := M35) hJ
      have rM35_15 := J_sl15 (M := M35) hJ
      have mM35_12 : (M35.1 175 12).toInt = (M33.1 175 12).toInt := tl_slot (h36.1 175 12 (show ¬ ((175 = 175 ∧ 12 = 14) ∨ (175 = 175 ∧ 12 = 15)) by decide))
      have mM35_13 : (M35.1 175 13).toInt = (M33.1 175 13).toInt := tl_slot (h36.1 175 13 (show ¬ ((175 = 175 ∧ 13 = 14) ∨ (175 = 175 ∧ 13 = 15)) by decide))
      have aM35_182_p1toNatClampNeg : (M35.1 182 (p1.toNatClampNeg)).toInt = (M33.1 182 (p1.toNatClampNeg)).toInt := tl_slot (h36.1 182 (p1.toNatClampNeg) (show ¬ ((182 = 175 ∧ p1.toNatClampNeg = 14) ∨ (182 = 175 ∧ p1.toNatClampNeg = 15)) by omega))
      have aM35_182_p1toNatClampNeg1 : (M35.1 182 (p1.toNatClampNeg + 1)).toInt = (M33.1 182 (p1.toNatClampNeg + 1)).toInt := tl_slot (h36.1 182 (p1.toNatClampNeg + 1) (show ¬ ((182 = 175 ∧ p1.toNatClampNeg + 1 = 14) ∨ (182 = 175 ∧ p1.toNatClampNeg + 1 = 15)) by omega))
      refine li_aload_n 0 dX12_readThing_107 rfl ?_
      refine li_getr (k := 16) (N := 52) (T := TX12) (C0 := RX12) dX12_readThing_108 (by decide) sh_175 rfl rfl (by decide) (by decide) li_in12 w_1420 ?_
      refine li_iload_n 1 dX12_readThing_111 rfl ?_
      refine li_iconst 4 dX12_readThing_112 (by decide) ?_
      refine li_iadd dX12_readThing_113 ?_
      refine li_top (fun x37 ex37 => ?_)
      have z4 : (4 : Int32).toInt = 4 := rfl
      try (have tx37 : x37.toInt = (p1 : Int32).toInt + (4 : Int32).toInt := tl_add ex37 (by omega))
      refine li_aload_n 0 dX12_readThing_114 rfl ?_
      refine li_iconst 2 dX12_readThing_115 (by decide) ?_
      have z2 : (2 : Int32).toInt = 2 := rfl
      refine li_callV (n := 1) (As := [.int 2]) dX12_readThing_116 (k_X12_numberW (d - 1) (by omega) 2 M35 hJ ) (by omega) (Nat.le_of_ble_eq_true rfl) w_1589 w_1591 w_45 w_112 w_1592 (by decide +kernel) rfl (by decide) sh_175 rfl rfl (Nat.le_of_ble_eq_true rfl) (fun r M39 h40 => ?_)
      obtain ⟨⟨x38, rfl, qx38⟩, h40, jM39⟩ := h40
      have gx38 := tl_rg x38
      have hf := li_fs_trans hf h40 (fun i k => fun h => Or.elim h (fun h => Or.inr (Or.inl h)) (fun h => Or.inr (Or.inr h)))
      have hJ := jM39
      have rM39_12 := J_sl12 (M := M39) hJ
      have rM39_13 := J_sl13 (M := M39) hJ
      have rM39_14 := J_sl14 (M := M39) hJ
      have rM39_15 := J_sl15 (M := M39) hJ
      have mM39_12 : (M39.1 175 12).toInt = (M35.1 175 12).toInt := tl_slot (h40.1 175 12 (show ¬ ((175 = 175 ∧ 12 = 14) ∨ (175 = 175 ∧ 12 = 15)) by decide))
      have mM39_13 : (M39.1 175 13).toInt = (M35.1 175 13).toInt := tl_slot (h40.1 175 13 (show ¬ ((175 = 175 ∧ 13 = 14) ∨ (175 = 175 ∧ 13 = 15)) by decide))
      have aM39_182_p1toNatClampNeg : (M39.1 182 (p1.toNatClampNeg)).toInt = (M35.1 182 (p1.toNatClampNeg)).toInt := tl_slot (h40.1 182 (p1.toNatClampNeg) (show ¬ ((182 = 175 ∧ p1.toNatClampNeg = 14) ∨ (182 = 175 ∧ p1.toNatClampNeg = 15)) by omega))
      have aM39_182_p1toNatClampNeg1 : (M39.1 182 (p1.toNatClampNeg + 1)).toInt = (M35.1 182 (p1.toNatClampNeg + 1)).toInt := tl_slot (h40.1 182 (p1.toNatClampNeg + 1) (show ¬ ((182 = 175 ∧ p1.toNatClampNeg + 1 = 14) ∨ (182 = 175 ∧ p1.toNatClampNeg + 1 = 15)) by omega))
      refine li_iast dX12_readThing_119 (by decide) sh_182 (tl_in (by omega)) ?_
      refine li_nm (fun M41 eM41 => ?_)
      have hf := li_fs_ui hf (show (182 = 182 ∧ p1.toInt ≤ (((x37 : Int32).toNatClampNeg : Nat) : Int) ∧ (((x37 : Int32).toNatClampNeg : Nat) : Int) < p1.toInt + 5) ∨ (182 = 175 ∧ (x37 : Int32).toNatClampNeg = 14) ∨ (182 = 175 ∧ (x37 : Int32).toNatClampNeg = 15) by have h9 := li_cl (i := x37) (by omega); omega) eM41
      have hJ := hJ.st (by decide) (li_el_free (by unfold li_led; omega) (by decide) (by decide) (by unfold li_rq; omega)) eM41
      have rM41_12 := J_sl12 (M := M41) hJ
      have rM41_13 := J_sl13 (M := M41) hJ
      have rM41_14 := J_sl14 (M := M41) hJ
      have rM41_15 := J_sl15 (M := M41) hJ
      have mM41_12 : (M41.1 175 12).toInt = (M39.1 175 12).toInt := by rw [eM41, li_ui_at, if_neg (by decide)]
      have mM41_13 : (M41.1 175 13).toInt = (M39.1 175 13).toInt := by rw [eM41, li_ui_at, if_neg (by decide)]
      have mM41_14 : (M41.1 175 14).toInt = (M39.1 175 14).toInt := by rw [eM41, li_ui_at, if_neg (by decide)]
      have mM41_15 : (M41.1 175 15).toInt = (M39.1 175 15).toInt := by rw [eM41, li_ui_at, if_neg (by decide)]
      first | (have aM41_182_p1toNatClampNeg : (M41.1 182 (p1.toNatClampNeg)).toInt = (x38 : Int32).toInt := by rw [eM41, li_ui_at, if_pos rfl, if_pos (show p1.toNatClampNeg = (x37 : Int32).toNatClampNeg by have h9 := li_cl (i := x37) (by omega); have h8 := li_cl (i := p1) (by omega); omega)]) | (have aM41_182_p1toNatClampNeg : (M41.1 182 (p1.toNatClampNeg)).toInt = (M39.1 182 (p1.toNatClampNeg)).toInt := by rw [eM41, li_ui_at, if_pos rfl, if_neg (show ¬ p1.toNatClampNeg = (x37 : Int32).toNatClampNeg by have h9 := li_cl (i := x37) (by omega); have h8 := li_cl (i := p1) (by omega); omega)]) | skip
      first | (have aM41_182_p1toNatClampNeg1 : (M41.1 182 (p1.toNatClampNeg + 1)).toInt = (x38 : Int32).toInt := by rw [eM41, li_ui_at, if_pos rfl, if_pos (show p1.toNatClampNeg + 1 = (x37 : Int32).toNatClampNeg by have h9 := li_cl (i := x37) (by omega); have h8 := li_cl (i := p1) (by omega); omega)]) | (have aM41_182_p1toNatClampNeg1 : (M41.1 182 (p1.toNatClampNeg + 1)).toInt = (M39.1 182 (p1.toNatClampNeg + 1)).toInt := by rw [eM41, li_ui_at, if_pos rfl, if_neg (show ¬ p1.toNatClampNeg + 1 = (x37 : Int32).toNatClampNeg by have h9 := li_cl (i := x37) (by omega); have h8 := li_cl (i := p1) (by omega); omega)]) | skip
      exact li_vret dX12_readThing_120 rfl ⟨rfl, hf, hJ, (by refine ⟨?_, ?_, ?_, ?_, ?_⟩ <;> omega)⟩
    refine li_if_ne 82 dX12_readThing_69 (by decide) (fun c24 => ?_) (fun c24 => ?_)
    · have tc24 : ¬ x23.toInt = 0 := tl_ne c24
      refine li_pick [0, 1] [(0, .ref (Z.2.2 175)), (1, .int p1)] rfl ?_
      exact J82  M19 hf hJ (by omega)
    · have tc24 : x23.toInt = 0 := tl_eq c24
      refine li_aload_n 0 dX12_readThing_72 rfl ?_
      refine li_aload_n 0 dX12_readThing_73 rfl ?_
      refine li_geti (k := 14) (N := 52) (T := TX12) (C0 := RX12) dX12_readThing_74 (by decide) sh_175 rfl rfl (by decide) li_in12 w_1418 ?_
      refine li_top (fun x42 ex42 => ?_)
      have gx42 : 0 ≤ x42.toInt ∧ x42.toInt ≤ 81 := by rw [ex42]; exact J_sl14 hJ
      have mx42 : x42.toInt = (M19.1 175 14).toInt := tl_slot ex42
      refine li_iconst 1 dX12_readThing_77 (by decide) ?_
      refine li_isub dX12_readThing_78 ?_
      refine li_top (fun x43 ex43 => ?_)
      have z1 : (1 : Int32).toInt = 1 := rfl
      try (have tx43 : x43.toInt = (x42 : Int32).toInt - (1 : Int32).toInt := tl_sub ex43 (by omega))
      refine li_callV (n := 1) (As := [.int x43]) dX12_readThing_79 (k_X12_faultW (d - 1) (by omega) x43 M19 hJ (by omega)) (by omega) (Nat.le_of_ble_eq_true rfl) w_1585 w_1587 w_44 w_112 w_1588 (by decide +kernel) rfl (by decide) sh_175 rfl rfl (Nat.le_of_ble_eq_true rfl) (fun r M45 h46 => ?_)
      obtain ⟨rfl, h46, jM45, nM45⟩ := h46
      have hf := li_fs_trans hf h46 (fun i k => fun h => Or.inr (Or.inr h))
      have hJ := jM45
      have rM45_12 := J_sl12 (M := M45) hJ
      have rM45_13 := J_sl13 (M := M45) hJ
      have rM45_14 := J_sl14 (M := M45) hJ
      have rM45_15 := J_sl15 (M := M45) hJ
      have mM45_12 : (M45.1 175 12).toInt = (M19.1 175 12).toInt := tl_slot (h46.1 175 12 (show ¬ ((175 = 175 ∧ 12 = 15)) by decide))
      have mM45_13 : (M45.1 175 13).toInt = (M19.1 175 13).toInt := tl_slot (h46.1 175 13 (show ¬ ((175 = 175 ∧ 13 = 15)) by decide))
      have mM45_14 : (M45.1 175 14).toInt = (M19.1 175 14).toInt := tl_slot (h46.1 175 14 (show ¬ ((175 = 175 ∧ 14 = 15)) by decide))
      have aM45_182_p1toNatClampNeg : (M45.1 182 (p1.toNatClampNeg)).toInt = (M19.1 182 (p1.toNatClampNeg)).toInt := tl_slot (h46.1 182 (p1.toNatClampNeg) (show ¬ ((182 = 175 ∧ p1.toNatClampNeg = 15)) by omega))
      have aM45_182_p1toNatClampNeg1 : (M45.1 182 (p1.toNatClampNeg + 1)).toInt = (M19.1 182 (p1.toNatClampNeg + 1)).toInt := tl_slot (h46.1 182 (p1.toNatClampNeg + 1) (show ¬ ((182 = 175 ∧ p1.toNatClampNeg + 1 = 15)) by omega))
      refine li_pick [0, 1] [(0, .ref (Z.2.2 175)), (1, .int p1)] rfl ?_
      exact J82  M45 hf hJ (by omega)
  · skip
    refine li_if_eq 82 dX12_readThing_58 (by decide) (fun c => ?_) (fun c => absurd rfl c)
    refine li_aload_n 0 dX12_readThing_82 rfl ?_
    refine li_bipush 45 dX12_readThing_83 (by decide) ?_
    have z45 : (45 : Int32).toInt = 45 := rfl
    refine li_callV (n := 1) (As := [.int 45]) dX12_readThing_85 (k_X12_needW (d - 1) (by omega) 45 M19 hJ (by omega)) (by omega) (Nat.le_of_ble_eq_true rfl) w_1601 w_1603 w_48 w_112 w_1604 (by decide +kernel) rfl (by decide) sh_175 rfl rfl (Nat.le_of_ble_eq_true rfl) (fun r M49 h50 => ?_)
    obtain ⟨rfl, h50, jM49, nM49⟩ := h50
    have hf := li_fs_trans hf h50 (fun i k => fun h => Or.elim h (fun h => Or.inr (Or.inl h)) (fun h => Or.inr (Or.inr h)))
    have hJ := jM49
    have rM49_12 := J_sl12 (M := M49) hJ
    have rM49_13 := J_sl13 (M := M49) hJ
    have rM49_14 := J_sl14 (M := M49) hJ
    have rM49_15 := J_sl15 (M := M49) hJ
    have mM49_12 : (M49.1 175 12).toInt = (M19.1 175 12).toInt := tl_slot (h50.1 175 12 (show ¬ ((175 = 175 ∧ 12 = 14) ∨ (175 = 175 ∧ 12 = 15)) by decide))
    have mM49_13 : (M49.1 175 13).toInt = (M19.1 175 13).toInt := tl_slot (h50.1 175 13 (show ¬ ((175 = 175 ∧ 13 = 14) ∨ (175 = 175 ∧ 13 = 15)) by decide))
    have aM49_182_p1toNatClampNeg : (M49.1 182 (p1.toNatClampNeg)).toInt = (M19.1 182 (p1.toNatClampNeg)).toInt := tl_slot (h50.1 182 (p1.toNatClampNeg) (show ¬ ((182 = 175 ∧ p1.toNatClampNeg = 14) ∨ (182 = 175 ∧ p1.toNatClampNeg = 15)) by omega))
    have aM49_182_p1toNatClampNeg1 : (M49.1 182 (p1.toNatClampNeg + 1)).toInt = (M19.1 182 (p1.toNatClampNeg + 1)).toInt := tl_slot (h50.1 182 (p1.toNatClampNeg + 1) (show ¬ ((182 = 175 ∧ p1.toNatClampNeg + 1 = 14) ∨ (182 = 175 ∧ p1.toNatClampNeg + 1 = 15)) by omega))
    refine li_aload_n 0 dX12_readThing_88 rfl ?_
    refine li_getr (k := 16) (N := 52) (T := TX12) (C0 := RX12) dX12_readThing_89 (by decide) sh_175 rfl rfl (by decide) (by decide) li_in12 w_1420 ?_
    refine li_iload_n 1 dX12_readThing_92 rfl ?_
    refine li_iconst 3 dX12_readThing_93 (by decide) ?_
    refine li_iadd dX12_readThing_94 ?_
    refine li_top (fun x51 ex51 => ?_)
    have z3 : (3 : Int32).toInt = 3 := rfl
    try (have tx51 : x51.toInt = (p1 : Int32).toInt + (3 : Int32).toInt := tl_add ex51 (by omega))
    refine li_aload_n 0 dX12_readThing_95 rfl ?_
    refine li_iconst 2 dX12_readThing_96 (by decide) ?_
    have z2 : (2 : Int32).toInt = 2 := rfl
    refine li_callV (n := 1) (As := [.int 2]) dX12_readThing_97 (k_X12_numberW (d - 1) (by omega) 2 M49 hJ ) (by omega) (Nat.le_of_ble_eq_true rfl) w_1589 w_1591 w_45 w_112 w_1592 (by decide +kernel) rfl (by decide) sh_175 rfl rfl (Nat.le_of_ble_eq_true rfl) (fun r M53 h54 => ?_)
    obtain ⟨⟨x52, rfl, qx52⟩, h54, jM53⟩ := h54
    have gx52 := tl_rg x52
    have hf := li_fs_trans hf h54 (fun i k => fun h => Or.elim h (fun h => Or.inr (Or.inl h)) (fun h => Or.inr (Or.inr h)))
    have hJ := jM53
    have rM53_12 := J_sl12 (M := M53) hJ
    have rM53_13 := J_sl13 (M := M53) hJ
    have rM53_14 := J_sl14 (M := M53) hJ
    have rM53_15 := J_sl15 (M := M53) hJ
    have mM53_12 : (M53.1 175 12).toInt = (M49.1 175 12).toInt := tl_slot (h54.1 175 12 (show ¬ ((175 = 175 ∧ 12 = 14) ∨ (175 = 175 ∧ 12 = 15)) by decide))
    have mM53_13 : (M53.1 175 13).toInt = (M49.1 175 13).toInt := tl_slot (h54.1 175 13 (show ¬ ((175 = 175 ∧ 13 = 14) ∨ (175 = 175 ∧ 13 = 15)) by decide))
    have aM53_182_p1toNatClampNeg : (M53.1 182 (p1.toNatClampNeg)).toInt = (M49.1 182 (p1.toNatClampNeg)).toInt := tl_slot (h54.1 182 (p1.toNatClampNeg) (show ¬ ((182 = 175 ∧ p1.toNatClampNeg = 14) ∨ (182 = 175 ∧ p1.toNatClampNeg = 15)) by omega))
    have aM53_182_p1toNatClampNeg1 : (M53.1 182 (p1.toNatClampNeg + 1)).toInt = (M49.1 182 (p1.toNatClampNeg + 1)).toInt := tl_slot (h54.1 182 (p1.toNatClampNeg + 1) (show ¬ ((182 = 175 ∧ p1.toNatClampNeg + 1 = 14) ∨ (182 = 175 ∧ p1.toNatClampNeg + 1 = 15)) by omega))
    refine li_iast dX12_readThing_100 (by decide) sh_182 (tl_in (by omega)) ?_
    refine li_nm (fun M55 eM55 => ?_)
    have hf := li_fs_ui hf (show (182 = 182 ∧ p1.toInt ≤ (((x51 : Int32).toNatClampNeg : Nat) : Int) ∧ (((x51 : Int32).toNatClampNeg : Nat) : Int) < p1.toInt + 5) ∨ (182 = 175 ∧ (x51 : Int32).toNatClampNeg = 14) ∨ (182 = 175 ∧ (x51 : Int32).toNatClampNeg = 15) by have h9 := li_cl (i := x51) (by omega); omega) eM55
    have hJ := hJ.st (by decide) (li_el_free (by unfold li_led; omega) (by decide) (by decide) (by unfold li_rq; omega)) eM55
    have rM55_12 := J_sl12 (M := M55) hJ
    have rM55_13 := J_sl13 (M := M55) hJ
    have rM55_14 := J_sl14 (M := M55) hJ
    have rM55_15 := J_sl15 (M := M55) hJ
    have mM55_12 : (M55.1 175 12).toInt = (M53.1 175 12).toInt := by rw [eM55, li_ui_at, if_neg (by decide)]
    have mM55_13 : (M55.1 175 13).toInt = (M53.1 175 13).toInt := by rw [eM55, li_ui_at, if_neg (by decide)]
    have mM55_14 : (M55.1 175 14).toInt = (M53.1 175 14).toInt := by rw [eM55, li_ui_at, if_neg (by decide)]
    have mM55_15 : (M55.1 175 15).toInt = (M53.1 175 15).toInt := by rw [eM55, li_ui_at, if_neg (by decide)]
    first | (have aM55_182_p1toNatClampNeg : (M55.1 182 (p1.toNatClampNeg)).toInt = (x52 : Int32).toInt := by rw [eM55, li_ui_at, if_pos rfl, if_pos (show p1.toNatClampNeg = (x51 : Int32).toNatClampNeg by have h9 := li_cl (i := x51) (by omega); have h8 := li_cl (i := p1) (by omega); omega)]) | (have aM55_182_p1toNatClampNeg : (M55.1 182 (p1.toNatClampNeg)).toInt = (M53.1 182 (p1.toNatClampNeg)).toInt := by rw [eM55, li_ui_at, if_pos rfl, if_neg (show ¬ p1.toNatClampNeg = (x51 : Int32).toNatClampNeg by have h9 := li_cl (i := x51) (by omega); have h8 := li_cl (i := p1) (by omega); omega)]) | skip
    first | (have aM55_182_p1toNatClampNeg1 : (M55.1 182 (p1.toNatClampNeg + 1)).toInt = (x52 : Int32).toInt := by rw [eM55, li_ui_at, if_pos rfl, if_pos (show p1.toNatClampNeg + 1 = (x51 : Int32).toNatClampNeg by have h9 := li_cl (i := x51) (by omega); have h8 := li_cl (i := p1) (by omega); omega)]) | (have aM55_182_p1toNatClampNeg1 : (M55.1 182 (p1.toNatClampNeg + 1)).toInt = (M53.1 182 (p1.toNatClampNeg + 1)).toInt := by rw [eM55, li_ui_at, if_pos rfl, if_neg (show ¬ p1.toNatClampNeg + 1 = (x51 : Int32).toNatClampNeg by have h9 := li_cl (i := x51) (by omega); have h8 := li_cl (i := p1) (by omega); omega)]) | skip
    refine li_aload_n 0 dX12_readThing_101 rfl ?_
    refine li_bipush 61 dX12_readThing_102 (by decide) ?_
    have z61 : (61 : Int32).toInt = 61 := rfl
    refine li_callV (n := 1) (As := [.int 61]) dX12_readThing_104 (k_X12_needW (d - 1) (by omega) 61 M55 hJ (by omega)) (by omega) (Nat.le_of_ble_eq_true rfl) w_1601 w_1603 w_48 w_112 w_1604 (by decide +kernel) rfl (by decide) sh_175 rfl rfl (Nat.le_of_ble_eq_true rfl) (fun r M57 h58 => ?_)
    obtain ⟨rfl, h58, jM57, nM57⟩ := h58
    have hf := li_fs_trans hf h58 (fun i k => fun h => Or.elim h (fun h => Or.inr (Or.inl h)) (fun h => Or.inr (Or.inr h)))
    have hJ := jM57
    have rM57_12 := J_sl12 (M := M57) hJ
    have rM57_13 := J_sl13 (M := M57) hJ
    have rM57_14 := J_sl14 (M := M57) hJ
    have rM57_15 := J_sl15 (M := M57) hJ
    have mM57_12 : (M57.1 175 12).toInt = (M55.1 175 12).toInt := tl_slot (h58.1 175 12 (show ¬ ((175 = 175 ∧ 12 = 14) ∨ (175 = 175 ∧ 12 = 15)) by decide))
    have mM57_13 : (M57.1 175 13).toInt = (M55.1 175 13).toInt := tl_slot (h58.1 175 13 (show ¬ ((175 = 175 ∧ 13 = 14) ∨ (175 = 175 ∧ 13 = 15)) by decide))
    have aM57_182_p1toNatClampNeg : (M57.1 182 (p1.toNatClampNeg)).toInt = (M55.1 182 (p1.toNatClampNeg)).toInt := tl_slot (h58.1 182 (p1.toNatClampNeg) (show ¬ ((182 = 175 ∧ p1.toNatClampNeg = 14) ∨ (182 = 175 ∧ p1.toNatClampNeg = 15)) by omega))
    have aM57_182_p1toNatClampNeg1 : (M57.1 182 (p1.toNatClampNeg + 1)).toInt = (M55.1 182 (p1.toNatClampNeg + 1)).toInt := tl_slot (h58.1 182 (p1.toNatClampNeg + 1) (show ¬ ((182 = 175 ∧ p1.toNatClampNeg + 1 = 14) ∨ (182 = 175 ∧ p1.toNatClampNeg + 1 = 15)) by omega))
    refine li_aload_n 0 dX12_readThing_107 rfl ?_
    refine li_getr (k := 16) (N := 52) (T := TX12) (C0 := RX12) dX12_readThing_108 (by decide) sh_175 rfl rfl (by decide) (by decide) li_in12 w_1420 ?_
    refine li_iload_n 1 dX12_readThing_111 rfl ?_
    refine li_iconst 4 dX12_readThing_112 (by decide) ?_
    refine li_iadd dX12_readThing_113 ?_
    refine li_top (fun x59 ex59 => ?_)
    have z4 : (4 : Int32).toInt = 4 := rfl
    try (have tx59 : x59.toInt = (p1 : Int32).toInt + (4 : Int32).toInt := tl_add ex59 (by omega))
    refine li_aload_n 0 dX12_readThing_114 rfl ?_
    refine li_iconst 2 dX12_readThing_115 (by decide) ?_
    have z2 : (2 : Int32).toInt = 2 := rfl
    refine li_callV (n := 1) (As := [.int 2]) dX12_readThing_116 (k_X12_numberW (d - 1) (by omega) 2 M57 hJ ) (by omega) (Nat.le_of_ble_eq_true rfl) w_1589 w_1591 w_45 w_112 w_1592 (by decide +kernel) rfl (by decide) sh_175 rfl rfl (Nat.le_of_ble_eq_true rfl) (fun r M61 h62 => ?_)
    obtain ⟨⟨x60, rfl, qx60⟩, h62, jM61⟩ := h62
    have gx60 := tl_rg x60
    have hf := li_fs_trans hf h62 (fun i k => fun h => Or.elim h (fun h => Or.inr (Or.inl h)) (fun h => Or.inr (Or.inr h)))
    have hJ := jM61
    have rM61_12 := J_sl12 (M := M61) hJ
    have rM61_13 := J_sl13 (M := M61) hJ
    have rM61_14 := J_sl14 (M := M61) hJ
    have rM61_15 := J_sl15 (M := M61) hJ
    have mM61_12 : (M61.1 175 12).toInt = (M57.1 175 12).toInt := tl_slot (h62.1 175 12 (show ¬ ((175 = 175 ∧ 12 = 14) ∨ (175 = 175 ∧ 12 = 15)) by decide))
    have mM61_13 : (M61.1 175 13).toInt = (M57.1 175 13).toInt := tl_slot (h62.1 175 13 (show ¬ ((175 = 175 ∧ 13 = 14) ∨ (175 = 175 ∧ 13 = 15)) by decide))
    have aM61_182_p1toNatClampNeg : (M61.1 182 (p1.toNatClampNeg)).toInt = (M57.1 182 (p1.toNatClampNeg)).toInt := tl_slot (h62.1 182 (p1.toNatClampNeg) (show ¬ ((182 = 175 ∧ p1.toNatClampNeg = 14) ∨ (182 = 175 ∧ p1.toNatClampNeg = 15)) by omega))
    have aM61_182_p1toNatClampNeg1 : (M61.1 182 (p1.toNatClampNeg + 1)).toInt = (M57.1 182 (p1.toNatClampNeg + 1)).toInt := tl_slot (h62.1 182 (p1.toNatClampNeg + 1) (show ¬ ((182 = 175 ∧ p1.toNatClampNeg + 1 = 14) ∨ (182 = 175 ∧ p1.toNatClampNeg + 1 = 15)) by omega))
    refine li_iast dX12_readThing_119 (by decide) sh_182 (tl_in (by omega)) ?_
    refine li_nm (fun M63 eM63 => ?_)
    have hf := li_fs_ui hf (show (182 = 182 ∧ p1.toInt ≤ (((x59 : Int32).toNatClampNeg : Nat) : Int) ∧ (((x59 : Int32).toNatClampNeg : Nat) : Int) < p1.toInt + 5) ∨ (182 = 175 ∧ (x59 : Int32).toNatClampNeg = 14) ∨ (182 = 175 ∧ (x59 : Int32).toNatClampNeg = 15) by have h9 := li_cl (i := x59) (by omega); omega) eM63
    have hJ := hJ.st (by decide) (li_el_free (by unfold li_led; omega) (by decide) (by decide) (by unfold li_rq; omega)) eM63
    have rM63_12 := J_sl12 (M := M63) hJ
    have rM63_13 := J_sl13 (M := M63) hJ
    have rM63_14 := J_sl14 (M := M63) hJ
    have rM63_15 := J_sl15 (M := M63) hJ
    have mM63_12 : (M63.1 175 12).toInt = (M61.1 175 12).toInt := by rw [eM63, li_ui_at, if_neg (by decide)]
    have mM63_13 : (M63.1 175 13).toInt = (M61.1 175 13).toInt := by rw [eM63, li_ui_at, if_neg (by decide)]
    have mM63_14 : (M63.1 175 14).toInt = (M61.1 175 14).toInt := by rw [eM63, li_ui_at, if_neg (by decide)]
    have mM63_15 : (M63.1 175 15).toInt = (M61.1 175 15).toInt := by rw [eM63, li_ui_at, if_neg (by decide)]
    first | (have aM63_182_p1toNatClampNeg : (M63.1 182 (p1.toNatClampNeg)).toInt = (x60 : Int32).toInt := by rw [eM63, li_ui_at, if_pos rfl, if_pos (show p1.toNatClampNeg = (x59 : Int32).toNatClampNeg by have h9 := li_cl (i := x59) (by omega); have h8 := li_cl (i := p1) (by omega); omega)]) | (have aM63_182_p1toNatClampNeg : (M63.1 182 (p1.toNatClampNeg)).toInt = (M61.1 182 (p1.toNatClampNeg)).toInt := by rw [eM63, li_ui_at, if_pos rfl, if_neg (show ¬ p1.toNatClampNeg = (x59 : Int32).toNatClampNeg by have h9 := li_cl (i := x59) (by omega); have h8 := li_cl (i := p1) (by omega); omega)]) | skip
    first | (have aM63_182_p1toNatClampNeg1 : (M63.1 182 (p1.toNatClampNeg + 1)).toInt = (x60 : Int32).toInt := by rw [eM63, li_ui_at, if_pos rfl, if_pos (show p1.toNatClampNeg + 1 = (x59 : Int32).toNatClampNeg by have h9 := li_cl (i := x59) (by omega); have h8 := li_cl (i := p1) (by omega); omega)]) | (have aM63_182_p1toNatClampNeg1 : (M63.1 182 (p1.toNatClampNeg + 1)).toInt = (M61.1 182 (p1.toNatClampNeg + 1)).toInt := by rw [eM63, li_ui_at, if_pos rfl, if_neg (show ¬ p1.toNatClampNeg + 1 = (x59 : Int32).toNatClampNeg by have h9 := li_cl (i := x59) (by omega); have h8 := li_cl (i := p1) (by omega); omega)]) | skip
    exact li_vret dX12_readThing_120 rfl ⟨rfl, hf, hJ, (by refine ⟨?_, ?_, ?_, ?_, ?_⟩ <;> omega)⟩
set_option maxRecDepth 100000 in
set_option maxHeartbeats 4000000 in
theorem k_X12_things {l : Launch} {Z : li_Z} (d : Nat) (hd : 6 ≤ d) (M0 : li_M) (hJ : li_J M0) : li_Met l Z YX12_things d [.ref (Z.2.2 175)] M0 (fun r M' => (∃ x : Int32, r = some (.int x)) ∧ li_fs (fun i k => i = 179 ∨ i = 182 ∨ i = 1000 ∨ (i = 175 ∧ k = 10) ∨ (i = 175 ∧ k = 12) ∨ (i = 175 ∧ k = 13) ∨ (i = 175 ∧ k = 14) ∨ (i = 175 ∧ k = 15) ∨ (i = 175 ∧ k = 23) ∨ (i = 175 ∧ k = 4) ∨ (i = 175 ∧ k = 48) ∨ (i = 175 ∧ k = 7)) M0 M' ∧ li_J M') := by
  refine li_enter (by decide +kernel) (Nat.le_of_ble_eq_true rfl) ?_
  show li_T l Z YX12_things d 0 [(0, .ref (Z.2.2 175))] [] M0 _
  have hf : li_fs (fun i k => i = 179 ∨ i = 182 ∨ i = 1000 ∨ (i = 175 ∧ k = 10) ∨ (i = 175 ∧ k = 12) ∨ (i = 175 ∧ k = 13) ∨ (i = 175 ∧ k = 14) ∨ (i = 175 ∧ k = 15) ∨ (i = 175 ∧ k = 23) ∨ (i = 175 ∧ k = 4) ∨ (i = 175 ∧ k = 48) ∨ (i = 175 ∧ k = 7)) M0 M0 := li_fs_refl
  have rM0_4 := J_sl4 (M := M0) hJ
  have rM0_15 := J_sl15 (M := M0) hJ
  refine li_aload_n 0 dX12_things_0 rfl ?_
  refine li_iconst 0 dX12_things_1 (by decide) ?_
  refine li_puti (k := 10) (N := 52) (T := TX12) (C0 := RX12) dX12_things_2 (by decide) sh_175 rfl rfl (by decide) li_in12 tyX12_ok nmX12 rfl rfl rfl rfl w_1414 ?_
  refine li_nm (fun M1 eM1 => ?_)
  have hf := li_fs_ui hf (Or.inr (Or.inr (Or.inr (Or.inl ⟨rfl, rfl⟩)))) eM1
  have z0 : (0 : Int32).toInt = 0 := rfl
  have hJ := hJ.put (k := 10) (by decide) (rg_free rfl) eM1
  have rM1_4 := J_sl4 (M := M1) hJ
  have rM1_15 := J_sl15 (M := M1) hJ
  have mM1_4 : (M1.1 175 4).toInt = (M0.1 175 4).toInt := by rw [eM1, li_ui_at, if_pos rfl, if_neg (by decide)]
  have mM1_15 : (M1.1 175 15).toInt = (M0.1 175 15).toInt := by rw [eM1, li_ui_at, if_pos rfl, if_neg (by decide)]
  refine li_aload_n 0 dX12_things_5 rfl ?_
  refine li_aload_n 0 dX12_things_6 rfl ?_
  refine li_getr (k := 6) (N := 52) (T := TX12) (C0 := RX12) dX12_things_7 (by decide) sh_175 rfl rfl (by decide) (by decide) li_in12 w_1410 ?_
  refine li_aload_n 0 dX12_things_10 rfl ?_
  refine li_geti (k := 7) (N := 52) (T := TX12) (C0 := RX12) dX12_things_11 (by decide) sh_175 rfl rfl (by decide) li_in12 w_1411 ?_
  refine li_top (fun x2 ex2 => ?_)
  have gx2 : 0 ≤ x2.toInt ∧ x2.toInt ≤ 80 := by rw [ex2]; exact J_sl7 hJ
  have mx2 : x2.toInt = (M1.1 175 7).toInt := tl_slot ex2
  refine li_bipush 76 dX12_things_14 (by decide) ?_
  have z76 : (76 : Int32).toInt = 76 := rfl
  refine li_callV (n := 3) (As := [.ref (Z.2.2 180), .int x2, .int 76]) dX12_things_16 (k_X12_begin (d - 1) (by unfold li_rq; omega) x2 76 M1 hJ (show 0 ≤ (x2 : Int32).toInt ∧ (x2 : Int32).toInt ≤ (li_qn 180 : Int) by have := li_qn_fix; omega) (by omega)) (by omega) (Nat.le_of_ble_eq_true rfl) w_1577 w_1579 w_42 w_112 w_1580 (by decide +kernel) rfl (by decide) sh_175 rfl rfl (Nat.le_of_ble_eq_true rfl) (fun r M4 h5 => ?_)
  obtain ⟨rfl, h5, jM4, nM4⟩ := h5
  have hf := li_fs_trans hf h5 (fun i k => fun h => Or.elim h (fun h => Or.inr (Or.inr (Or.inr (Or.inr (Or.inl h))))) (fun h => Or.elim h (fun h => Or.inr (Or.inr (Or.inr (Or.inr (Or.inr (Or.inl h)))))) (fun h => Or.elim h (fun h => Or.inr (Or.inr (Or.inr (Or.inr (Or.inr (Or.inr (Or.inl h))))))) (fun h => Or.elim h (fun h => Or.inr (Or.inr (Or.inr (Or.inr (Or.inr (Or.inr (Or.inr (Or.inl h)))))))) (fun h => Or.inr (Or.inr (Or.inl h)))))))
  have hJ := jM4
  have rM4_4 := J_sl4 (M := M4) hJ
  have rM4_15 := J_sl15 (M := M4) hJ
  have mM4_4 : (M4.1 175 4).toInt = (M1.1 175 4).toInt := tl_slot (h5.1 175 4 (show ¬ ((175 = 175 ∧ 4 = 12) ∨ (175 = 175 ∧ 4 = 13) ∨ (175 = 175 ∧ 4 = 14) ∨ (175 = 175 ∧ 4 = 15) ∨ 175 = 1000) by decide))
  refine li_aload_n 0 dX12_things_19 rfl ?_
  refine li_iconst 0 dX12_things_20 (by decide) ?_
  refine li_puti (k := 7) (N := 52) (T := TX12) (C0 := RX12) dX12_things_21 (by decide) sh_175 rfl rfl (by decide) li_in12 tyX12_ok nmX12 rfl rfl rfl rfl w_1411 ?_
  refine li_nm (fun M6 eM6 => ?_)
  have hf := li_fs_ui hf (Or.inr (Or.inr (Or.inr (Or.inr (Or.inr (Or.inr (Or.inr (Or.inr (Or.inr (Or.inr (Or.inr (⟨rfl, rfl⟩)))))))))))) eM6
  have z0 : (0 : Int32).toInt = 0 := rfl
  have hJ := J_pt7 hJ (show 0 ≤ (0 : Int32).toInt ∧ (0 : Int32).toInt ≤ 80 by omega) eM6
  have rM6_4 := J_sl4 (M := M6) hJ
  have rM6_15 := J_sl15 (M := M6) hJ
  have mM6_4 : (M6.1 175 4).toInt = (M4.1 175 4).toInt := by rw [eM6, li_ui_at, if_pos rfl, if_neg (by decide)]
  have mM6_15 : (M6.1 175 15).toInt = (M4.1 175 15).toInt := by rw [eM6, li_ui_at, if_pos rfl, if_neg (by decide)]
  refine li_aload_n 0 dX12_things_24 rfl ?_
  refine li_geti (k := 12) (N := 52) (T := TX12) (C0 := RX12) dX12_things_25 (by decide) sh_175 rfl rfl (by decide) li_in12 w_1416 ?_
  refine li_top (fun x7 ex7 => ?_)
  have gx7 : 0 ≤ x7.toInt ∧ x7.toInt ≤ 80 := by rw [ex7]; exact J_sl12 hJ
  have mx7 : x7.toInt = (M6.1 175 12).toInt := tl_slot ex7
  refine li_if_ne 33 dX12_things_28 (by decide) (fun c8 => ?_) (fun c8 => ?_)
  · have tc8 : ¬ x7.toInt = 0 := tl_ne c8
    refine li_iconst 0 dX12_things_33 (by decide) ?_
    refine li_istore_n [(1, .int 0), (0, .ref (Z.2.2 175))] dX12_things_34 (by decide) rfl ?_
    refine li_iconst 1 dX12_things_35 (by decide) ?_
    refine li_istore_n [(2, .int 1), (1, .int 0), (0, .ref (Z.2.2 175))] dX12_things_36 (by decide) rfl ?_
    have J90 : ∀ (x9 : Int32) (x10 : Int32) (M11 : li_M), li_fs (fun i k => i = 179 ∨ i = 182 ∨ i = 1000 ∨ (i = 175 ∧ k = 10) ∨ (i = 175 ∧ k = 12) ∨ (i = 175 ∧ k = 13) ∨ (i = 175 ∧ k = 14) ∨ (i = 175 ∧ k = 15) ∨ (i = 175 ∧ k = 23) ∨ (i = 175 ∧ k = 4) ∨ (i = 175 ∧ k = 48) ∨ (i = 175 ∧ k = 7)) M0 M11 → li_J M11 → 0 ≤ (x10 : Int32).toInt ∧ (M11.1 175 4).toInt + (x10 : Int32).toInt ≤ 9 ∧ (M11.1 175 4).toInt + (x10 : Int32).toInt ≤ 9 + (M11.1 175 15).toInt → li_cq (M11.1 182) ((M11.1 175 15).toInt) ((x10 : Int32).toInt) → li_T l Z YX12_things d 90 [(2, .int x9), (1, .int x10), (0, .ref (Z.2.2 175))] [] M11 (fun r M' => (∃ x : Int32, r = some (.int x)) ∧ li_fs (fun i k => i = 179 ∨ i = 182 ∨ i = 1000 ∨ (i = 175 ∧ k = 10) ∨ (i = 175 ∧ k = 12) ∨ (i = 175 ∧ k = 13) ∨ (i = 175 ∧ k = 14) ∨ (i = 175 ∧ k = 15) ∨ (i = 175 ∧ k = 23) ∨ (i = 175 ∧ k = 4) ∨ (i = 175 ∧ k = 48) ∨ (i = 175 ∧ k = 7)) M0 M' ∧ li_J M') := by
      intro x9 x10 M11 hf hJ hi Pcq_M11
      have gx9 := tl_rg x9
      have gx10 := tl_rg x10
      have rM11_4 := J_sl4 (M := M11) hJ
      have rM11_15 := J_sl15 (M := M11) hJ
      refine li_aload_n 2 dX12_things_90 rfl ?_
      refine li_geti (k := 14) (N := 52) (T := TX12) (C0 := RX12) dX12_things_91 (by decide) sh_175 rfl rfl (by decide) li_in12 w_1418 ?_
      refine li_top (fun x12 ex12 => ?_)
      have gx12 : 0 ≤ x12.toInt ∧ x12.toInt ≤ 81 := by rw [ex12]; exact J_sl14 hJ
      have mx12 : x12.toInt = (M11.1 175 14).toInt := tl_slot ex12
      refine li_aload_n 2 dX12_things_94 rfl ?_
      refine li_geti (k := 12) (N := 52) (T := TX12) (C0 := RX12) dX12_things_95 (by decide) sh_175 rfl rfl (by decide) li_in12 w_1416 ?_
      refine li_top (fun x13 ex13 => ?_)
      have gx13 : 0 ≤ x13.toInt ∧ x13.toInt ≤ 80 := by rw [ex13]; exact J_sl12 hJ
      have mx13 : x13.toInt = (M11.1 175 12).toInt := tl_slot ex13
      have J109 : ∀  (M15 : li_M), li_fs (fun i k => i = 179 ∨ i = 182 ∨ i = 1000 ∨ (i = 175 ∧ k = 10) ∨ (i = 175 ∧ k = 12) ∨ (i = 175 ∧ k = 13) ∨ (i = 175 ∧ k = 14) ∨ (i = 175 ∧ k = 15) ∨ (i = 175 ∧ k = 23) ∨ (i = 175 ∧ k = 4) ∨ (i = 175 ∧ k = 48) ∨ (i = 175 ∧ k = 7)) M0 M15 → li_J M15 → (M15.1 175 4).toInt + (x10 : Int32).toInt ≤ 9 ∧ (M15.1 175 4).toInt + (x10 : Int32).toInt ≤ 9 + (M15.1 175 15).toInt → li_cq (M15.1 182) ((M15.1 175 15).toInt) ((x10 : Int32).toInt) → li_T l Z YX12_things d 109 [(2, .int x9), (1, .int x10), (0, .ref (Z.2.2 175))] [] M15 (fun r M' => (∃ x : Int32, r = some (.int x)) ∧ li_fs (fun i k => i = 179 ∨ i = 182 ∨ i = 1000 ∨ (i = 175 ∧ k = 10) ∨ (i = 175 ∧ k = 12) ∨ (i = 175 ∧ k = 13) ∨ (i = 175 ∧ k = 14) ∨ (i = 175 ∧ k = 15) ∨ (i = 175 ∧ k = 23) ∨ (i = 175 ∧ k = 4) ∨ (i = 175 ∧ k = 48) ∨ (i = 175 ∧ k = 7)) M0 M' ∧ li_J M') := by
        intro  M15 hf hJ hi Pcq_M15
        have rM15_4 := J_sl4 (M := M15) hJ
        have rM15_15 := J_sl15 (M := M15) hJ
        refine li_aload_n 2 dX12_things_109 rfl ?_
        refine li_callV (n := 0) (As := []) dX12_things_110 (k_X12_fineW (d - 1) (by omega)  M15 hJ ) (by omega) (Nat.le_of_ble_eq_true rfl) w_1581 w_1583 w_43 w_112 w_1584 (by decide +kernel) rfl (by decide) sh_175 rfl rfl (Nat.le_of_ble_eq_true rfl) (fun r M17 h18 => ?_)
        obtain ⟨qx16, h18, jM17⟩ := h18
        have hf := li_fs_trans hf h18 (fun i k h => False.elim h)
        have hJ := jM17
        have rM17_4 := J_sl4 (M := M17) hJ
        have rM17_15 := J_sl15 (M := M17) hJ
        have mM17_4 : (M17.1 175 4).toInt = (M15.1 175 4).toInt := tl_slot (h18.1 175 4 id)
        have mM17_15 : (M17.1 175 15).toInt = (M15.1 175 15).toInt := tl_slot (h18.1 175 15 id)
        have Pcq_M17 : li_cq (M17.1 182) ((M17.1 175 15).toInt) ((x10 : Int32).toInt) := li_cq_tr (funext fun i => h18.1 182 i id) (fun h9 => by omega) (by omega) Pcq_M15
        rcases qx16 with ⟨rfl, qx16⟩ | ⟨rfl, qx16⟩
        · skip
          refine li_if_ne 123 dX12_things_113 (by decide) (fun c => ?_) (fun c => absurd c (by decide))
          refine li_iconst 0 dX12_things_123 (by decide) ?_
          refine li_istore_n [(3, .int 0), (2, .int x9), (1, .int x10), (0, .ref (Z.2.2 175))] dX12_things_124 (by decide) rfl ?_
          have L125 : ∀ (n : Nat) (x20 : Int32) (M21 : li_M), (40 - (x20 : Int32).toInt).toNat < n → li_fs (fun i k => i = 179 ∨ i = 182 ∨ i = 1000 ∨ (i = 175 ∧ k = 10) ∨ (i = 175 ∧ k = 12) ∨ (i = 175 ∧ k = 13) ∨ (i = 175 ∧ k = 14) ∨ (i = 175 ∧ k = 15) ∨ (i = 175 ∧ k = 23) ∨ (i = 175 ∧ k = 4) ∨ (i = 175 ∧ k = 48) ∨ (i = 175 ∧ k = 7)) M0 M21 → li_J M21 → 0 ≤ (x20 : Int32).toInt ∧ (M21.1 175 15).toInt = -1 ∧ (M21.1 175 4).toInt + (x10 : Int32).toInt ≤ 8 → li_cq (M21.1 182) ((M21.1 175 15).toInt) ((x10 : Int32).toInt) → li_T l Z YX12_things d 125 [(3, .int x20), (2, .int x9), (1, .int x10), (0, .ref (Z.2.2 175))] [] M21 (fun r M' => (∃ x : Int32, r = some (.int x)) ∧ li_fs (fun i k => i = 179 ∨ i = 182 ∨ i = 1000 ∨ (i = 175 ∧ k = 10) ∨ (i = 175 ∧ k = 12) ∨ (i = 175 ∧ k = 13) ∨ (i = 175 ∧ k = 14) ∨ (i = 175 ∧ k = 15) ∨ (i = 175 ∧ k = 23) ∨ (i = 175 ∧ k = 4) ∨ (i = 175 ∧ k = 48) ∨ (i = 175 ∧ k = 7)) M0 M' ∧ li_J M') := by
            intro n
            induction n with
            | zero => intro x20 M21 hn; exact absurd hn (Nat.not_lt_zero _)
            | succ n ih125 =>
              intro x20 M21 hn hf hJ hi Pcq_M21
              have gx20 := tl_rg x20
              have rM21_4 := J_sl4 (M := M21) hJ
              have rM21_15 := J_sl15 (M := M21) hJ
              refine li_iload_n 0 dX12_things_125 rfl ?_
              refine li_iconst 5 dX12_things_126 (by decide) ?_
              refine li_iload_n 2 dX12_things_127 rfl ?_
              refine li_imul dX12_things_128 ?_
              refine li_top (fun x22 ex22 => ?_)
              have z5 : (5 : Int32).toInt = 5 := rfl
              try (have tx22 : x22.toInt = 5 * (x10 : Int32).toInt := tl_mul ex22 (show -2147483648 ≤ 5 * (x10 : Int32).toInt ∧ 5 * (x10 : Int32).toInt ≤ 2147483647 by omega))
              refine li_icmp_ge 157 dX12_things_129 (by decide) (fun c23 => ?_) (fun c23 => ?_)
              · have tc23 : x22.toInt ≤ x20.toInt := tl_le c23
                refine li_aload_n 3 dX12_things_157 rfl ?_
                refine li_dup dX12_things_158 rfl ?_
                refine li_geti (k := 4) (N := 52) (T := TX12) (C0 := RX12) dX12_things_159 (by decide) sh_175 rfl rfl (by decide) li_in12 w_1408 ?_
                refine li_top (fun x24 ex24 => ?_)
                have gx24 : 0 ≤ x24.toInt ∧ x24.toInt ≤ 8 := by rw [ex24]; exact J_sl4 hJ
                have mx24 : x24.toInt = (M21.1 175 4).toInt := tl_slot ex24
                refine li_iload_n 2 dX12_things_162 rfl ?_
                refine li_iadd dX12_things_163 ?_
                refine li_top (fun x25 ex25 => ?_)
                try (have tx25 : x25.toInt = (x24 : Int32).toInt + (x10 : Int32).toInt := tl_add ex25 (by omega))
                refine li_puti (k := 4) (N := 52) (T := TX12) (C0 := RX12) dX12_things_164 (by decide) sh_175 rfl rfl (by decide) li_in12 tyX12_ok nmX12 rfl rfl rfl rfl w_1408 ?_
                refine li_nm (fun M26 eM26 => ?_)
                have hf := li_fs_ui hf (Or.inr (Or.inr (Or.inr (Or.inr (Or.inr (Or.inr (Or.inr (Or.inr (Or.inr (Or.inl ⟨rfl, rfl⟩)))))))))) eM26
                have hJ := J_pt4 hJ (show 0 ≤ (x25 : Int32).toInt ∧ (x25 : Int32).toInt ≤ 8 by omega) eM26
                have rM26_4 := J_sl4 (M := M26) hJ
                have rM26_15 := J_sl15 (M := M26) hJ
                have mM26_4 : (M26.1 175 4).toInt = x25.toInt := by rw [eM26, li_ui_at, if_pos rfl, if_pos rfl]
                have mM26_15 : (M26.1 175 15).toInt = (M21.1 175 15).toInt := by rw [eM26, li_ui_at, if_pos rfl, if_neg (by decide)]
                have Pcq_M26 : li_cq (M26.1 182) ((M26.1 175 15).toInt) ((x10 : Int32).toInt) := li_cq_tr (li_cell_ui eM26 (by decide)) (fun h9 => by omega) (by omega) Pcq_M21
                refine li_aload_n 3 dX12_things_167 rfl ?_
                refine li_iconst 0 dX12_things_168 (by decide) ?_
                refine li_puti (k := 23) (N := 52) (T := TX12) (C0 := RX12) dX12_things_169 (by decide) sh_175 rfl rfl (by decide) li_in12 tyX12_ok nmX12 rfl rfl rfl rfl w_1427 ?_
                refine li_nm (fun M27 eM27 => ?_)
                have hf := li_fs_ui hf (Or.inr (Or.inr (Or.inr (Or.inr (Or.inr (Or.inr (Or.inr (Or.inr (Or.inl ⟨rfl, rfl⟩))))))))) eM27
                have z0 : (0 : Int32).toInt = 0 := rfl
                have hJ := J_pt23 hJ (show 0 ≤ (0 : Int32).toInt ∧ (0 : Int32).toInt ≤ 12 by omega) eM27
                have rM27_4 := J_sl4 (M := M27) hJ
                have rM27_15 := J_sl15 (M := M27) hJ
                have mM27_4 : (M27.1 175 4).toInt = (M26.1 175 4).toInt := by rw [eM27, li_ui_at, if_pos rfl, if_neg (by decide)]
                have mM27_15 : (M27.1 175 15).toInt = (M26.1 175 15).toInt := by rw [eM27, li_ui_at, if_pos rfl, if_neg (by decide)]
                have Pcq_M27 : li_cq (M27.1 182) ((M27.1 175 15).toInt) ((x10 : Int32).toInt) := li_cq_tr (li_cell_ui eM27 (by decide)) (fun h9 => by omega) (by omega) Pcq_M26
                refine li_aload_n 3 dX12_things_172 rfl ?_
                refine li_dup dX12_things_173 rfl ?_
                refine li_geti (k := 48) (N := 52) (T := TX12) (C0 := RX12) dX12_things_174 (by decide) sh_175 rfl rfl (by decide) li_in12 w_1452 ?_
                refine li_top (fun x28 ex28 => ?_)
                have gx28 := tl_rg x28
                have mx28 : x28.toInt = (M27.1 175 48).toInt := tl_slot ex28
                refine li_iconst 1 dX12_things_177 (by decide) ?_
                refine li_iadd dX12_things_178 ?_
                refine li_top (fun x29 ex29 => ?_)
                have z1 : (1 : Int32).toInt = 1 := rfl
                try (have tx29 : x29.toInt = (x28 : Int32).toInt + (1 : Int32).toInt := tl_add ex29 (by omega))
                refine li_puti (k := 48) (N := 52) (T := TX12) (C0 := RX12) dX12_things_179 (by decide) sh_175 rfl rfl (by decide) li_in12 tyX12_ok nmX12 rfl rfl rfl rfl w_1452 ?_
                refine li_nm (fun M30 eM30 => ?_)
                have hf := li_fs_ui hf (Or.inr (Or.inr (Or.inr (Or.inr (Or.inr (Or.inr (Or.inr (Or.inr (Or.inr (Or.inr (Or.inl ⟨rfl, rfl⟩))))))))))) eM30
                have hJ := hJ.put (k := 48) (by decide) (rg_free rfl) eM30
                have rM30_4 := J_sl4 (M := M30) hJ
                have rM30_15 := J_sl15 (M := M30) hJ
                have mM30_4 : (M30.1 175 4).toInt = (M27.1 175 4).toInt := by rw [eM30, li_ui_at, if_pos rfl, if_neg (by decide)]
                have mM30_15 : (M30.1 175 15).toInt = (M27.1 175 15).toInt := by rw [eM30, li_ui_at, if_pos rfl, if_neg (by decide)]
                have Pcq_M30 : li_cq (M30.1 182) ((M30.1 175 15).toInt) ((x10 : Int32).toInt) := li_cq_tr (li_cell_ui eM30 (by decide)) (fun h9 => by omega) (by omega) Pcq_M27
                refine li_iload_n 2 dX12_things_182 rfl ?_
                exact li_iret dX12_things_183 rfl rfl ⟨⟨_, rfl⟩, hf, hJ⟩
              · have tc23 : x20.toInt < x22.toInt := tl_nle c23
                refine li_aload_n 3 dX12_things_132 rfl ?_
                refine li_getr (k := 5) (N := 52) (T := TX12) (C0 := RX12) dX12_things_133 (by decide) sh_175 rfl rfl (by decide) (by decide) li_in12 w_1409 ?_
                refine li_iconst 5 dX12_things_136 (by decide) ?_
                refine li_aload_n 3 dX12_things_137 rfl ?_
                refine li_geti (k := 4) (N := 52) (T := TX12) (C0 := RX12) dX12_things_138 (by decide) sh_175 rfl rfl (by decide) li_in12 w_1408 ?_
                refine li_top (fun x31 ex31 => ?_)
                have gx31 : 0 ≤ x31.toInt ∧ x31.toInt ≤ 8 := by rw [ex31]; exact J_sl4 hJ
                have mx31 : x31.toInt = (M21.1 175 4).toInt := tl_slot ex31
                refine li_imul dX12_things_141 ?_
                refine li_top (fun x32 ex32 => ?_)
                have z5 : (5 : Int32).toInt = 5 := rfl
                try (have tx32 : x32.toInt = 5 * (x31 : Int32).toInt := tl_mul ex32 (show -2147483648 ≤ 5 * (x31 : Int32).toInt ∧ 5 * (x31 : Int32).toInt ≤ 2147483647 by omega))
                refine li_iload_n 0 dX12_things_142 rfl ?_
                refine li_iadd dX12_things_143 ?_
                refine li_top (fun x33 ex33 => ?_)
                try (have tx33 : x33.toInt = (x32 : Int32).toInt + (x20 : Int32).toInt := tl_add ex33 (by omega))
                refine li_aload_n 3 dX12_things_144 rfl ?_
                refine li_getr (k := 16) (N := 52) (T := TX12) (C0 := RX12) dX12_things_145 (by decide) sh_175 rfl rfl (by decide) (by decide) li_in12 w_1420 ?_
                refine li_iload_n 0 dX12_things_148 rfl ?_
                refine li_iald dX12_things_149 (by decide) sh_182 (tl_in (by omega)) ?_
                refine li_top (fun x34 ex34 => ?_)
                have gx34 := tl_rg x34
                have lx34 := li_cq_ld Pcq_M21 (by omega) ex34 (by omega) (by omega)
                refine li_iast dX12_things_150 (by decide) sh_179 (tl_in (by omega)) ?_
                refine li_nm (fun M35 eM35 => ?_)
                have hf := li_fs_ui hf (Or.inl rfl) eM35
                have hJ := hJ.st (by decide) (li_el_thing (by omega) (show (x33 : Int32).toInt % 5 < 2 → 0 ≤ (x34 : Int32).toInt ∧ (x34 : Int32).toInt ≤ 5 by omega)) eM35
                have rM35_4 := J_sl4 (M := M35) hJ
                have rM35_15 := J_sl15 (M := M35) hJ
                have mM35_4 : (M35.1 175 4).toInt = (M21.1 175 4).toInt := by rw [eM35, li_ui_at, if_neg (by decide)]
                have mM35_15 : (M35.1 175 15).toInt = (M21.1 175 15).toInt := by rw [eM35, li_ui_at, if_neg (by decide)]
                have Pcq_M35 : li_cq (M35.1 182) ((M35.1 175 15).toInt) ((x10 : Int32).toInt) := li_cq_tr (li_cell_ui eM35 (by decide)) (fun h9 => by omega) (by omega) Pcq_M21
                obtain ⟨x36, ex36⟩ : ∃ y : Int32, y = x20 + 1 := ⟨_, rfl⟩
                have z1 : (1 : Int32).toInt = 1 := rfl
                try (have tx36 : x36.toInt = (x20 : Int32).toInt + (1 : Int32).toInt := tl_add ex36 (by omega))
                refine li_iinc 0 [(3, .int x36), (2, .int x9), (1, .int x10), (0, .ref (Z.2.2 175))] x36 dX12_things_151 rfl (by rw [ex36]; rfl) (by decide) rfl ?_
                refine li_goto 125 dX12_things_154 (by decide) ?_
                refine li_pick [0, 1, 2, 3] [(3, .int x36), (2, .int x9), (1, .int x10), (0, .ref (Z.2.2 175))] rfl ?_
                exact ih125 x36 M35 (by omega) hf hJ (by omega) (by first | exact li_cq_tr rfl (fun h9 => by omega) (by omega) Pcq_M35 | exact li_cq_bad (by omega) | exact li_cq_0 (by omega))
          have z0 : (0 : Int32).toInt = 0 := rfl
          exact L125 _ 0 M17 (Nat.lt_succ_self _) hf hJ (by omega) (by first | exact li_cq_tr rfl (fun h9 => by omega) (by omega) Pcq_M17 | exact li_cq_bad (by omega) | exact li_cq_0 (by omega))
        · skip
          refine li_if_ne 123 dX12_things_113 (by decide) (fun c => absurd rfl c) (fun c => ?_)
          refine li_iconst (-1) dX12_things_116 (by decide) ?_
          refine li_aload_n 2 dX12_things_117 rfl ?_
          refine li_geti (k := 15) (N := 52) (T := TX12) (C0 := RX12) dX12_things_118 (by decide) sh_175 rfl rfl (by decide) li_in12 w_1419 ?_
          refine li_top (fun x38 ex38 => ?_)
          have gx38 : -1 ≤ x38.toInt ∧ x38.toInt ≤ 81 := by rw [ex38]; exact J_sl15 hJ
          have mx38 : x38.toInt = (M17.1 175 15).toInt := tl_slot ex38
          refine li_isub dX12_things_121 ?_
          refine li_top (fun x39 ex39 => ?_)
          have zm1 : ((-1) : Int32).toInt = -1 := rfl
          try (have tx39 : x39.toInt = ((-1) : Int32).toInt - (x38 : Int32).toInt := tl_sub ex39 (by omega))
          exact li_iret dX12_things_122 rfl rfl ⟨⟨_, rfl⟩, hf, hJ⟩
      refine li_icmp_ge 109 dX12_things_98 (by decide) (fun c14 => ?_) (fun c14 => ?_)
      · have tc14 : x13.toInt ≤ x12.toInt := tl_le c14
        refine li_pick [0, 1, 2] [(2, .int x9), (1, .int x10), (0, .ref (Z.2.2 175))] rfl ?_
        exact J109  M11 hf hJ (by omega) (by first | exact li_cq_tr rfl (fun h9 => by omega) (by omega) Pcq_M11 | exact li_cq_bad (by omega) | exact li_cq_0 (by omega))
      · have tc14 : x12.toInt < x13.toInt := tl_nle c14
        refine li_aload_n 2 dX12_things_101 rfl ?_
        refine li_aload_n 2 dX12_things_102 rfl ?_
        refine li_geti (k := 14) (N := 52) (T := TX12) (C0 := RX12) dX12_things_103 (by decide) sh_175 rfl rfl (by decide) li_in12 w_1418 ?_
        refine li_top (fun x40 ex40 => ?_)
        have gx40 : 0 ≤ x40.toInt ∧ x40.toInt ≤ 81 := by rw [ex40]; exact J_sl14 hJ
        have mx40 : x40.toInt = (M11.1 175 14).toInt := tl_slot ex40
        refine li_callV (n := 1) (As := [.int x40]) dX12_things_106 (k_X12_faultW (d - 1) (by omega) x40 M11 hJ (by omega)) (by omega) (Nat.le_of_ble_eq_true rfl) w_1585 w_1587 w_44 w_112 w_1588 (by decide +kernel) rfl (by decide) sh_175 rfl rfl (Nat.le_of_ble_eq_true rfl) (fun r M42 h43 => ?_)
        obtain ⟨rfl, h43, jM42, nM42⟩ := h43
        have hf := li_fs_trans hf h43 (fun i k => fun h => Or.inr (Or.inr (Or.inr (Or.inr (Or.inr (Or.inr (Or.inr (Or.inl h))))))))
        have hJ := jM42
        have rM42_4 := J_sl4 (M := M42) hJ
        have rM42_15 := J_sl15 (M := M42) hJ
        have mM42_4 : (M42.1 175 4).toInt = (M11.1 175 4).toInt := tl_slot (h43.1 175 4 (show ¬ ((175 = 175 ∧ 4 = 15)) by decide))
        have Pcq_M42 : li_cq (M42.1 182) ((M42.1 175 15).toInt) ((x10 : Int32).toInt) := li_cq_tr (funext fun i => h43.1 182 i (show ¬ ((182 = 175 ∧ i = 15)) by omega)) (fun h9 => by omega) (by omega) Pcq_M11
        refine li_pick [0, 1, 2] [(2, .int x9), (1, .int x10), (0, .ref (Z.2.2 175))] rfl ?_
        exact J109  M42 hf hJ (by omega) (by first | exact li_cq_tr rfl (fun h9 => by omega) (by omega) Pcq_M42 | exact li_cq_bad (by omega) | exact li_cq_0 (by omega))
    have L37 : ∀ (n : Nat) (x44 : Int32) (x45 : Int32) (M46 : li_M), (10 - (x45 : Int32).toInt).toNat < n → li_fs (fun i k => i = 179 ∨ i = 182 ∨ i = 1000 ∨ (i = 175 ∧ k = 10) ∨ (i = 175 ∧ k = 12) ∨ (i = 175 ∧ k = 13) ∨ (i = 175 ∧ k = 14) ∨ (i = 175 ∧ k = 15) ∨ (i = 175 ∧ k = 23) ∨ (i = 175 ∧ k = 4) ∨ (i = 175 ∧ k = 48) ∨ (i = 175 ∧ k = 7)) M0 M46 → li_J M46 → 0 ≤ (x45 : Int32).toInt ∧ (M46.1 175 4).toInt + (x45 : Int32).toInt ≤ 9 ∧ (M46.1 175 4).toInt + (x45 : Int32).toInt ≤ 9 + (M46.1 175 15).toInt → li_cq (M46.1 182) ((M46.1 175 15).toInt) ((x45 : Int32).toInt) → li_T l Z YX12_things d 37 [(2, .int x44), (1, .int x45), (0, .ref (Z.2.2 175))] [] M46 (fun r M' => (∃ x : Int32, r = some (.int x)) ∧ li_fs (fun i k => i = 179 ∨ i = 182 ∨ i = 1000 ∨ (i = 175 ∧ k = 10) ∨ (i = 175 ∧ k = 12) ∨ (i = 175 ∧ k = 13) ∨ (i = 175 ∧ k = 14) ∨ (i = 175 ∧ k = 15) ∨ (i = 175 ∧ k = 23) ∨ (i = 175 ∧ k = 4) ∨ (i = 175 ∧ k = 48) ∨ (i = 175 ∧ k = 7)) M0 M' ∧ li_J M') := by
      intro n
      induction n with
      | zero => intro x44 x45 M46 hn; exact absurd hn (Nat.not_lt_zero _)
      | succ n ih37 =>
        intro x44 x45 M46 hn hf hJ hi Pcq_M46
        have gx44 := tl_rg x44
        have gx45 := tl_rg x45
        have rM46_4 := J_sl4 (M := M46) hJ
        have rM46_15 := J_sl15 (M := M46) hJ
        refine li_iload_n 0 dX12_things_37 rfl ?_
        refine li_if_eq 90 dX12_things_38 (by decide) (fun c47 => ?_) (fun c47 => ?_)
        · have tc47 : x44.toInt = 0 := tl_eq c47
          refine li_pick [0, 1, 2] [(2, .int x44), (1, .int x45), (0, .ref (Z.2.2 175))] rfl ?_
          exact J90 x44 x45 M46 hf hJ (by omega) (by first | exact li_cq_tr rfl (fun h9 => by omega) (by omega) Pcq_M46 | exact li_cq_bad (by omega) | exact li_cq_0 (by omega))
        · have tc47 : ¬ x44.toInt = 0 := tl_ne c47
          refine li_aload_n 2 dX12_things_41 rfl ?_
          refine li_callV (n := 0) (As := []) dX12_things_42 (k_X12_fineW (d - 1) (by omega)  M46 hJ ) (by omega) (Nat.le_of_ble_eq_true rfl) w_1581 w_1583 w_43 w_112 w_1584 (by decide +kernel) rfl (by decide) sh_175 rfl rfl (Nat.le_of_ble_eq_true rfl) (fun r M49 h50 => ?_)
          obtain ⟨qx48, h50, jM49⟩ := h50
          have hf := li_fs_trans hf h50 (fun i k h => False.elim h)
          have hJ := jM49
          have rM49_4 := J_sl4 (M := M49) hJ
          have rM49_15 := J_sl15 (M := M49) hJ
          have mM49_4 : (M49.1 175 4).toInt = (M46.1 175 4).toInt := tl_slot (h50.1 175 4 id)
          have mM49_15 : (M49.1 175 15).toInt = (M46.1 175 15).toInt := tl_slot (h50.1 175 15 id)
          have Pcq_M49 : li_cq (M49.1 182) ((M49.1 175 15).toInt) ((x45 : Int32).toInt) := li_cq_tr (funext fun i => h50.1 182 i id) (fun h9 => by omega) (by omega) Pcq_M46
          rcases qx48 with ⟨rfl, qx48⟩ | ⟨rfl, qx48⟩
          · skip
            refine li_if_eq 90 dX12_things_45 (by decide) (fun c => absurd c (by decide)) (fun c => ?_)
            refine li_aload_n 2 dX12_things_48 rfl ?_
            refine li_geti (k := 4) (N := 52) (T := TX12) (C0 := RX12) dX12_things_49 (by decide) sh_175 rfl rfl (by decide) li_in12 w_1408 ?_
            refine li_top (fun x52 ex52 => ?_)
            have gx52 : 0 ≤ x52.toInt ∧ x52.toInt ≤ 8 := by rw [ex52]; exact J_sl4 hJ
            have mx52 : x52.toInt = (M49.1 175 4).toInt := tl_slot ex52
            refine li_iload_n 1 dX12_things_52 rfl ?_
            refine li_iadd dX12_things_53 ?_
            refine li_top (fun x53 ex53 => ?_)
            try (have tx53 : x53.toInt = (x52 : Int32).toInt + (x45 : Int32).toInt := tl_add ex53 (by omega))
            refine li_bipush 8 dX12_things_54 (by decide) ?_
            have J77 : ∀  (M55 : li_M), li_fs (fun i k => i = 179 ∨ i = 182 ∨ i = 1000 ∨ (i = 175 ∧ k = 10) ∨ (i = 175 ∧ k = 12) ∨ (i = 175 ∧ k = 13) ∨ (i = 175 ∧ k = 14) ∨ (i = 175 ∧ k = 15) ∨ (i = 175 ∧ k = 23) ∨ (i = 175 ∧ k = 4) ∨ (i = 175 ∧ k = 48) ∨ (i = 175 ∧ k = 7)) M0 M55 → li_J M55 → (M55.1 175 4).toInt + (x45 : Int32).toInt ≤ 8 ∧ (M55.1 175 4).toInt + (x45 : Int32).toInt ≤ 8 + (M55.1 175 15).toInt → li_cq (M55.1 182) ((M55.1 175 15).toInt) ((x45 : Int32).toInt + 1) → li_T l Z YX12_things d 77 [(2, .int x44), (1, .int x45), (0, .ref (Z.2.2 175))] [] M55 (fun r M' => (∃ x : Int32, r = some (.int x)) ∧ li_fs (fun i k => i = 179 ∨ i = 182 ∨ i = 1000 ∨ (i = 175 ∧ k = 10) ∨ (i = 175 ∧ k = 12) ∨ (i = 175 ∧ k = 13) ∨ (i = 175 ∧ k = 14) ∨ (i = 175 ∧ k = 15) ∨ (i = 175 ∧ k = 23) ∨ (i = 175 ∧ k = 4) ∨ (i = 175 ∧ k = 48) ∨ (i = 175 ∧ k = 7)) M0 M' ∧ li_J M') := by
              intro  M55 hf hJ hi Pcq_M55
              have rM55_4 := J_sl4 (M := M55) hJ
              have rM55_15 := J_sl15 (M := M55) hJ
              obtain ⟨x56, ex56⟩ : ∃ y : Int32, y = x45 + 1 := ⟨_, rfl⟩
              have z1 : (1 : Int32).toInt = 1 := rfl
              try (have tx56 : x56.toInt = (x45 : Int32).toInt + (1 : Int32).toInt := tl_add ex56 (by omega))
              refine li_iinc 1 [(1, .int x56), (2, .int x44), (0, .ref (Z.2.2 175))] x56 dX12_things_77 rfl (by rw [ex56]; rfl) (by decide) rfl ?_
              refine li_aload_n 2 dX12_things_80 rfl ?_
              refine li_bipush 59 dX12_things_81 (by decide) ?_
              have z59 : (59 : Int32).toInt = 59 := rfl
              refine li_callV (n := 1) (As := [.int 59]) dX12_things_83 (k_X12_passesW (d - 1) (by omega) 59 M55 hJ (by omega)) (by omega) (Nat.le_of_ble_eq_true rfl) w_1605 w_1607 w_49 w_112 w_1608 (by decide +kernel) rfl (by decide) sh_175 rfl rfl (Nat.le_of_ble_eq_true rfl) (fun r M58 h59 => ?_)
              obtain ⟨qx57, h59, jM58⟩ := h59
              have hf := li_fs_trans hf h59 (fun i k => fun h => Or.inr (Or.inr (Or.inr (Or.inr (Or.inr (Or.inr (Or.inl h)))))))
              have hJ := jM58
              have rM58_4 := J_sl4 (M := M58) hJ
              have rM58_15 := J_sl15 (M := M58) hJ
              have mM58_4 : (M58.1 175 4).toInt = (M55.1 175 4).toInt := tl_slot (h59.1 175 4 (show ¬ ((175 = 175 ∧ 4 = 14)) by decide))
              have mM58_15 : (M58.1 175 15).toInt = (M55.1 175 15).toInt := tl_slot (h59.1 175 15 (show ¬ ((175 = 175 ∧ 15 = 14)) by decide))
              have Pcq_M58 : li_cq (M58.1 182) ((M58.1 175 15).toInt) ((x45 : Int32).toInt + 1) := li_cq_tr (funext fun i => h59.1 182 i (show ¬ ((182 = 175 ∧ i = 14)) by omega)) (fun h9 => by omega) (by omega) Pcq_M55
              rcases qx57 with ⟨rfl, qx57⟩ | ⟨rfl, qx57⟩
              · skip
                refine li_istore_n [(2, .int 1), (1, .int x56), (0, .ref (Z.2.2 175))] dX12_things_86 (by decide) rfl ?_
                refine li_goto 37 dX12_things_87 (by decide) ?_
                refine li_pick [0, 1, 2] [(2, .int 1), (1, .int x56), (0, .ref (Z.2.2 175))] rfl ?_
                have z1 : (1 : Int32).toInt = 1 := rfl
                exact ih37 1 x56 M58 (by omega) hf hJ (by omega) (by first | exact li_cq_tr rfl (fun h9 => by omega) (by omega) Pcq_M58 | exact li_cq_bad (by omega) | exact li_cq_0 (by omega))
              · skip
                refine li_istore_n [(2, .int 0), (1, .int x56), (0, .ref (Z.2.2 175))] dX12_things_86 (by decide) rfl ?_
                refine li_goto 37 dX12_things_87 (by decide) ?_
                refine li_pick [0, 1, 2] [(2, .int 0), (1, .int x56), (0, .ref (Z.2.2 175))] rfl ?_
                have z0 : (0 : Int32).toInt = 0 := rfl
                exact ih37 0 x56 M58 (by omega) hf hJ (by omega) (by first | exact li_cq_tr rfl (fun h9 => by omega) (by omega) Pcq_M58 | exact li_cq_bad (by omega) | exact li_cq_0 (by omega))
            refine li_icmp_ne 70 dX12_things_56 (by decide) (fun c54 => ?_) (fun c54 => ?_)
            · have tc54 : ¬ x53.toInt = 8 := tl_ne c54
              refine li_aload_n 2 dX12_things_70 rfl ?_
              refine li_iconst 5 dX12_things_71 (by decide) ?_
              refine li_iload_n 1 dX12_things_72 rfl ?_
              refine li_imul dX12_things_73 ?_
              refine li_top (fun x60 ex60 => ?_)
              have z5 : (5 : Int32).toInt = 5 := rfl
              try (have tx60 : x60.toInt = 5 * (x45 : Int32).toInt := tl_mul ex60 (show -2147483648 ≤ 5 * (x45 : Int32).toInt ∧ 5 * (x45 : Int32).toInt ≤ 2147483647 by omega))
              refine li_callV (n := 1) (As := [.int x60]) dX12_things_74 (k_X12_readThing (d - 1) (by omega) x60 M49 hJ (by omega)) (by omega) (Nat.le_of_ble_eq_true rfl) w_1613 w_1615 w_50 w_112 w_1616 (by decide +kernel) rfl (by decide) sh_175 rfl rfl (Nat.le_of_ble_eq_true rfl) (fun r M62 h63 => ?_)
              obtain ⟨rfl, h63, jM62, nM62⟩ := h63
              have hf := li_fs_trans hf h63 (fun i k => fun h => Or.elim h (fun h => Or.inr (Or.inl h.1)) (fun h => Or.elim h (fun h => Or.inr (Or.inr (Or.inr (Or.inr (Or.inr (Or.inr (Or.inl h))))))) (fun h => Or.inr (Or.inr (Or.inr (Or.inr (Or.inr (Or.inr (Or.inr (Or.inl h))))))))))
              have hJ := jM62
              have rM62_4 := J_sl4 (M := M62) hJ
              have rM62_15 := J_sl15 (M := M62) hJ
              have mM62_4 : (M62.1 175 4).toInt = (M49.1 175 4).toInt := tl_slot (h63.1 175 4 (show ¬ ((175 = 182 ∧ (x60 : Int32).toInt ≤ ((4 : Nat) : Int) ∧ ((4 : Nat) : Int) < (x60 : Int32).toInt + 5) ∨ (175 = 175 ∧ 4 = 14) ∨ (175 = 175 ∧ 4 = 15)) by omega))
              have Pcq_M62 : li_cq (M62.1 182) ((M62.1 175 15).toInt) ((x45 : Int32).toInt + 1) := li_cq_step h63 (fun i (h9 : (182 = 182 ∧ (x60 : Int32).toInt ≤ ((i : Nat) : Int) ∧ ((i : Nat) : Int) < (x60 : Int32).toInt + 5) ∨ (182 = 175 ∧ i = 14) ∨ (182 = 175 ∧ i = 15)) => by omega) (by omega) (by omega) nM62.2 (fun h9 => by omega) Pcq_M49
              refine li_pick [0, 1, 2] [(2, .int x44), (1, .int x45), (0, .ref (Z.2.2 175))] rfl ?_
              exact J77  M62 hf hJ (by omega) (by first | exact li_cq_tr rfl (fun h9 => by omega) (by omega) Pcq_M62 | exact li_cq_bad (by omega) | exact li_cq_0 (by omega))
            · have tc54 : x53.toInt = 8 := tl_eq c54
              refine li_aload_n 2 dX12_things_59 rfl ?_
              refine li_aload_n 2 dX12_things_60 rfl ?_
              refine li_geti (k := 14) (N := 52) (T := TX12) (C0 := RX12) dX12_things_61 (by decide) sh_175 rfl rfl (by decide) li_in12 w_1418 ?_
              refine li_top (fun x64 ex64 => ?_)
              have gx64 : 0 ≤ x64.toInt ∧ x64.toInt ≤ 81 := by rw [ex64]; exact J_sl14 hJ
              have mx64 : x64.toInt = (M49.1 175 14).toInt := tl_slot ex64
              refine li_callV (n := 1) (As := [.int x64]) dX12_things_64 (k_X12_faultW (d - 1) (by omega) x64 M49 hJ (by omega)) (by omega) (Nat.le_of_ble_eq_true rfl) w_1585 w_1587 w_44 w_112 w_1588 (by decide +kernel) rfl (by decide) sh_175 rfl rfl (Nat.le_of_ble_eq_true rfl) (fun r M66 h67 => ?_)
              obtain ⟨rfl, h67, jM66, nM66⟩ := h67
              have hf := li_fs_trans hf h67 (fun i k => fun h => Or.inr (Or.inr (Or.inr (Or.inr (Or.inr (Or.inr (Or.inr (Or.inl h))))))))
              have hJ := jM66
              have rM66_4 := J_sl4 (M := M66) hJ
              have rM66_15 := J_sl15 (M := M66) hJ
              have mM66_4 : (M66.1 175 4).toInt = (M49.1 175 4).toInt := tl_slot (h67.1 175 4 (show ¬ ((175 = 175 ∧ 4 = 15)) by decide))
              have Pcq_M66 : li_cq (M66.1 182) ((M66.1 175 15).toInt) ((x45 : Int32).toInt) := li_cq_tr (funext fun i => h67.1 182 i (show ¬ ((182 = 175 ∧ i = 15)) by omega)) (fun h9 => by omega) (by omega) Pcq_M49
              refine li_goto 77 dX12_things_67 (by decide) ?_
              refine li_pick [0, 1, 2] [(2, .int x44), (1, .int x45), (0, .ref (Z.2.2 175))] rfl ?_
              exact J77  M66 hf hJ (by omega) (by first | exact li_cq_tr rfl (fun h9 => by omega) (by omega) Pcq_M66 | exact li_cq_bad (by omega) | exact li_cq_0 (by omega))
          · skip
            refine li_if_eq 90 dX12_things_45 (by decide) (fun c => ?_) (fun c => absurd rfl c)
            refine li_pick [0, 1, 2] [(2, .int x44), (1, .int x45), (0, .ref (Z.2.2 175))] rfl ?_
            exact J90 x44 x45 M49 hf hJ (by omega) (by first | exact li_cq_tr rfl (fun h9 => by omega) (by omega) Pcq_M49 | exact li_cq_bad (by omega) | exact li_cq_0 (by omega))
    have z1 : (1 : Int32).toInt = 1 := rfl
    have z0 : (0 : Int32).toInt = 0 := rfl
    exact L37 _ 1 0 M6 (Nat.lt_succ_self _) hf hJ (by omega) (by first | exact li_cq_bad (by omega) | exact li_cq_0 (by omega))
  · have tc8 : x7.toInt = 0 := tl_eq c8
    refine li_iconst 0 dX12_things_31 (by decide) ?_
    have z0 : (0 : Int32).toInt = 0 := rfl
    exact li_iret dX12_things_32 rfl rfl ⟨⟨_, rfl⟩, hf, hJ⟩
