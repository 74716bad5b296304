theorem dX6_init_0 : decode cX6_init 0 = .ok (.aload_n 0, 1) := by decide +kernel
theorem dX6_init_1 : decode cX6_init 1 = .ok (.invokespecial 1, 3) := by decide +kernel
theorem dX6_init_4 : decode cX6_init 4 = .ok (.aload_n 0, 1) := by decide +kernel
theorem dX6_init_5 : decode cX6_init 5 = .ok (.new 7, 3) := by decide +kernel
theorem dX6_init_8 : decode cX6_init 8 = .ok (.dup, 1) := by decide +kernel
theorem dX6_init_9 : decode cX6_init 9 = .ok (.invokespecial 9, 3) := by decide +kernel
theorem dX6_init_12 : decode cX6_init 12 = .ok (.putfield 10, 3) := by decide +kernel
theorem dX6_init_15 : decode cX6_init 15 = .ok (.aload_n 0, 1) := by decide +kernel
theorem dX6_init_16 : decode cX6_init 16 = .ok (.new 7, 3) := by decide +kernel
theorem dX6_init_19 : decode cX6_init 19 = .ok (.dup, 1) := by decide +kernel
theorem dX6_init_20 : decode cX6_init 20 = .ok (.invokespecial 9, 3) := by decide +kernel
theorem dX6_init_23 : decode cX6_init 23 = .ok (.putfield 16, 3) := by decide +kernel
theorem dX6_init_26 : decode cX6_init 26 = .ok (.aload_n 0, 1) := by decide +kernel
theorem dX6_init_27 : decode cX6_init 27 = .ok (.new 7, 3) := by decide +kernel
theorem dX6_init_30 : decode cX6_init 30 = .ok (.dup, 1) := by decide +kernel
theorem dX6_init_31 : decode cX6_init 31 = .ok (.invokespecial 9, 3) := by decide +kernel
theorem dX6_init_34 : decode cX6_init 34 = .ok (.putfield 19, 3) := by decide +kernel
theorem dX6_init_37 : decode cX6_init 37 = .ok (.aload_n 0, 1) := by decide +kernel
theorem dX6_init_38 : decode cX6_init 38 = .ok (.new 7, 3) := by decide +kernel
theorem dX6_init_41 : decode cX6_init 41 = .ok (.dup, 1) := by decide +kernel
theorem dX6_init_42 : decode cX6_init 42 = .ok (.invokespecial 9, 3) := by decide +kernel
theorem dX6_init_45 : decode cX6_init 45 = .ok (.putfield 22, 3) := by decide +kernel
theorem dX6_init_48 : decode cX6_init 48 = .ok (.aload_n 0, 1) := by decide +kernel
theorem dX6_init_49 : decode cX6_init 49 = .ok (.new 25, 3) := by decide +kernel
theorem dX6_init_52 : decode cX6_init 52 = .ok (.dup, 1) := by decide +kernel
theorem dX6_init_53 : decode cX6_init 53 = .ok (.invokespecial 27, 3) := by decide +kernel
theorem dX6_init_56 : decode cX6_init 56 = .ok (.putfield 28, 3) := by decide +kernel
theorem dX6_init_59 : decode cX6_init 59 = .ok (.aload_n 0, 1) := by decide +kernel
theorem dX6_init_60 : decode cX6_init 60 = .ok (.new 32, 3) := by decide +kernel
theorem dX6_init_63 : decode cX6_init 63 = .ok (.dup, 1) := by decide +kernel
theorem dX6_init_64 : decode cX6_init 64 = .ok (.invokespecial 34, 3) := by decide +kernel
theorem dX6_init_67 : decode cX6_init 67 = .ok (.putfield 35, 3) := by decide +kernel
theorem dX6_init_70 : decode cX6_init 70 = .ok (.aload_n 0, 1) := by decide +kernel
theorem dX6_init_71 : decode cX6_init 71 = .ok (.new 39, 3) := by decide +kernel
theorem dX6_init_74 : decode cX6_init 74 = .ok (.dup, 1) := by decide +kernel
theorem dX6_init_75 : decode cX6_init 75 = .ok (.invokespecial 41, 3) := by decide +kernel
theorem dX6_init_78 : decode cX6_init 78 = .ok (.putfield 42, 3) := by decide +kernel
theorem dX6_init_81 : decode cX6_init 81 = .ok (.aload_n 0, 1) := by decide +kernel
theorem dX6_init_82 : decode cX6_init 82 = .ok (.iconst 0, 1) := by decide +kernel
theorem dX6_init_83 : decode cX6_init 83 = .ok (.putfield 46, 3) := by decide +kernel
theorem dX6_init_86 : decode cX6_init 86 = .ok (.aload_n 0, 1) := by decide +kernel
theorem dX6_init_87 : decode cX6_init 87 = .ok (.sipush (-1015), 3) := by decide +kernel
theorem dX6_init_90 : decode cX6_init 90 = .ok (.putfield 50, 3) := by decide +kernel
theorem dX6_init_93 : decode cX6_init 93 = .ok (.aload_n 0, 1) := by decide +kernel
theorem dX6_init_94 : decode cX6_init 94 = .ok (.sipush (-1015), 3) := by decide +kernel
theorem dX6_init_97 : decode cX6_init 97 = .ok (.putfield 54, 3) := by decide +kernel
theorem dX6_init_100 : decode cX6_init 100 = .ok (.return_, 1) := by decide +kernel
theorem dX6_fool_0 : decode cX6_fool 0 = .ok (.aload_n 0, 1) := by decide +kernel
theorem dX6_fool_1 : decode cX6_fool 1 = .ok (.getfield 16, 3) := by decide +kernel
theorem dX6_fool_4 : decode cX6_fool 4 = .ok (.aload_n 0, 1) := by decide +kernel
theorem dX6_fool_5 : decode cX6_fool 5 = .ok (.getfield 10, 3) := by decide +kernel
theorem dX6_fool_8 : decode cX6_fool 8 = .ok (.invokevirtual 57, 3) := by decide +kernel
theorem dX6_fool_11 : decode cX6_fool 11 = .ok (.aload_n 0, 1) := by decide +kernel
theorem dX6_fool_12 : decode cX6_fool 12 = .ok (.aload_n 0, 1) := by decide +kernel
theorem dX6_fool_13 : decode cX6_fool 13 = .ok (.iload_n 1, 1) := by decide +kernel
theorem dX6_fool_14 : decode cX6_fool 14 = .ok (.invokevirtual 61, 3) := by decide +kernel
theorem dX6_fool_17 : decode cX6_fool 17 = .ok (.invokevirtual 65, 3) := by decide +kernel
theorem dX6_fool_20 : decode cX6_fool 20 = .ok (.ireturn, 1) := by decide +kernel
theorem dX6_joke_0 : decode cX6_joke 0 = .ok (.aload_n 0, 1) := by decide +kernel
theorem dX6_joke_1 : decode cX6_joke 1 = .ok (.getfield 16, 3) := by decide +kernel
theorem dX6_joke_4 : decode cX6_joke 4 = .ok (.aload_n 0, 1) := by decide +kernel
theorem dX6_joke_5 : decode cX6_joke 5 = .ok (.getfield 10, 3) := by decide +kernel
theorem dX6_joke_8 : decode cX6_joke 8 = .ok (.invokevirtual 57, 3) := by decide +kernel
theorem dX6_joke_11 : decode cX6_joke 11 = .ok (.aload_n 0, 1) := by decide +kernel
theorem dX6_joke_12 : decode cX6_joke 12 = .ok (.aload_n 0, 1) := by decide +kernel
theorem dX6_joke_13 : decode cX6_joke 13 = .ok (.iload_n 1, 1) := by decide +kernel
theorem dX6_joke_14 : decode cX6_joke 14 = .ok (.invokevirtual 68, 3) := by decide +kernel
theorem dX6_joke_17 : decode cX6_joke 17 = .ok (.invokevirtual 65, 3) := by decide +kernel
theorem dX6_joke_20 : decode cX6_joke 20 = .ok (.ireturn, 1) := by decide +kernel
theorem dX6_patent_0 : decode cX6_patent 0 = .ok (.aload_n 0, 1) := by decide +kernel
theorem dX6_patent_1 : decode cX6_patent 1 = .ok (.getfield 16, 3) := by decide +kernel
theorem dX6_patent_4 : decode cX6_patent 4 = .ok (.aload_n 0, 1) := by decide +kernel
theorem dX6_patent_5 : decode cX6_patent 5 = .ok (.getfield 10, 3) := by decide +kernel
theorem dX6_patent_8 : decode cX6_patent 8 = .ok (.invokevirtual 57, 3) := by decide +kernel
theorem dX6_patent_11 : decode cX6_patent 11 = .ok (.aload_n 0, 1) := by decide +kernel
theorem dX6_patent_12 : decode cX6_patent 12 = .ok (.aload_n 0, 1) := by decide +kernel
theorem dX6_patent_13 : decode cX6_patent 13 = .ok (.iload_n 1, 1) := by decide +kernel
theorem dX6_patent_14 : decode cX6_patent 14 = .ok (.iload_n 2, 1) := by decide +kernel
theorem dX6_patent_15 : decode cX6_patent 15 = .ok (.iload_n 3, 1) := by decide +kernel
theorem dX6_patent_16 : decode cX6_patent 16 = .ok (.invokevirtual 71, 3) := by decide +kernel
theorem dX6_patent_19 : decode cX6_patent 19 = .ok (.invokevirtual 65, 3) := by decide +kernel
theorem dX6_patent_22 : decode cX6_patent 22 = .ok (.ireturn, 1) := by decide +kernel
theorem dX6_insure_0 : decode cX6_insure 0 = .ok (.aload_n 0, 1) := by decide +kernel
theorem dX6_insure_1 : decode cX6_insure 1 = .ok (.getfield 16, 3) := by decide +kernel
theorem dX6_insure_4 : decode cX6_insure 4 = .ok (.aload_n 0, 1) := by decide +kernel
theorem dX6_insure_5 : decode cX6_insure 5 = .ok (.getfield 10, 3) := by decide +kernel
theorem dX6_insure_8 : decode cX6_insure 8 = .ok (.invokevirtual 57, 3) := by decide +kernel
theorem dX6_insure_11 : decode cX6_insure 11 = .ok (.aload_n 0, 1) := by decide +kernel
theorem dX6_insure_12 : decode cX6_insure 12 = .ok (.aload_n 0, 1) := by decide +kernel
theorem dX6_insure_13 : decode cX6_insure 13 = .ok (.iload_n 1, 1) := by decide +kernel
theorem dX6_insure_14 : decode cX6_insure 14 = .ok (.invokevirtual 75, 3) := by decide +kernel
theorem dX6_insure_17 : decode cX6_insure 17 = .ok (.invokevirtual 65, 3) := by decide +kernel
theorem dX6_insure_20 : decode cX6_insure 20 = .ok (.ireturn, 1) := by decide +kernel
theorem dX6_audit_0 : decode cX6_audit 0 = .ok (.aload_n 0, 1) := by decide +kernel
theorem dX6_audit_1 : decode cX6_audit 1 = .ok (.getfield 16, 3) := by decide +kernel
theorem dX6_audit_4 : decode cX6_audit 4 = .ok (.aload_n 0, 1) := by decide +kernel
theorem dX6_audit_5 : decode cX6_audit 5 = .ok (.getfield 10, 3) := by decide +kernel
theorem dX6_audit_8 : decode cX6_audit 8 = .ok (.invokevirtual 57, 3) := by decide +kernel
theorem dX6_audit_11 : decode cX6_audit 11 = .ok (.aload_n 0, 1) := by decide +kernel
theorem dX6_audit_12 : decode cX6_audit 12 = .ok (.aload_n 0, 1) := by decide +kernel
theorem dX6_audit_13 : decode cX6_audit 13 = .ok (.iload_n 1, 1) := by decide +kernel
theorem dX6_audit_14 : decode cX6_audit 14 = .ok (.invokevirtual 78, 3) := by decide +kernel
theorem dX6_audit_17 : decode cX6_audit 17 = .ok (.invokevirtual 65, 3) := by decide +kernel
theorem dX6_audit_20 : decode cX6_audit 20 = .ok (.ireturn, 1) := by decide +kernel
theorem dX6_foolOf_0 : decode cX6_foolOf 0 = .ok (.aload_n 0, 1) := by decide +kernel
theorem dX6_foolOf_1 : decode cX6_foolOf 1 = .ok (.getfield 10, 3) := by decide +kernel
theorem dX6_foolOf_4 : decode cX6_foolOf 4 = .ok (.getfield 81, 3) := by decide +kernel
theorem dX6_foolOf_7 : decode cX6_foolOf 7 = .ok (.iload_n 1, 1) := by decide +kernel
theorem dX6_foolOf_8 : decode cX6_foolOf 8 = .ok (.invokevirtual 85, 3) := by decide +kernel
theorem dX6_foolOf_11 : decode cX6_foolOf 11 = .ok (.ifCond .ne 7, 3) := by decide +kernel
theorem dX6_foolOf_14 : decode cX6_foolOf 14 = .ok (.sipush (-1011), 3) := by decide +kernel
theorem dX6_foolOf_17 : decode cX6_foolOf 17 = .ok (.ireturn, 1) := by decide +kernel
theorem dX6_foolOf_18 : decode cX6_foolOf 18 = .ok (.iload_n 2, 1) := by decide +kernel
theorem dX6_foolOf_19 : decode cX6_foolOf 19 = .ok (.tableswitch 154 0 7 #[45, 58, 71, 84, 97, 106, 128, 141], 45) := by decide +kernel
theorem dX6_foolOf_64 : decode cX6_foolOf 64 = .ok (.aload_n 0, 1) := by decide +kernel
theorem dX6_foolOf_65 : decode cX6_foolOf 65 = .ok (.getfield 10, 3) := by decide +kernel
theorem dX6_foolOf_68 : decode cX6_foolOf 68 = .ok (.getfield 81, 3) := by decide +kernel
theorem dX6_foolOf_71 : decode cX6_foolOf 71 = .ok (.getfield 91, 3) := by decide +kernel
theorem dX6_foolOf_74 : decode cX6_foolOf 74 = .ok (.iload_n 1, 1) := by decide +kernel
theorem dX6_foolOf_75 : decode cX6_foolOf 75 = .ok (.iaload, 1) := by decide +kernel
theorem dX6_foolOf_76 : decode cX6_foolOf 76 = .ok (.ireturn, 1) := by decide +kernel
theorem dX6_foolOf_77 : decode cX6_foolOf 77 = .ok (.aload_n 0, 1) := by decide +kernel
theorem dX6_foolOf_78 : decode cX6_foolOf 78 = .ok (.getfield 10, 3) := by decide +kernel
theorem dX6_foolOf_81 : decode cX6_foolOf 81 = .ok (.getfield 81, 3) := by decide +kernel
theorem dX6_foolOf_84 : decode cX6_foolOf 84 = .ok (.getfield 95, 3) := by decide +kernel
theorem dX6_foolOf_87 : decode cX6_foolOf 87 = .ok (.iload_n 1, 1) := by decide +kernel
theorem dX6_foolOf_88 : decode cX6_foolOf 88 = .ok (.iaload, 1) := by decide +kernel
theorem dX6_foolOf_89 : decode cX6_foolOf 89 = .ok (.ireturn, 1) := by decide +kernel
theorem dX6_foolOf_90 : decode cX6_foolOf 90 = .ok (.aload_n 0, 1) := by decide +kernel
theorem dX6_foolOf_91 : decode cX6_foolOf 91 = .ok (.getfield 10, 3) := by decide +kernel
theorem dX6_foolOf_94 : decode cX6_foolOf 94 = .ok (.getfield 81, 3) := by decide +kernel
theorem dX6_foolOf_97 : decode cX6_foolOf 97 = .ok (.getfield 98, 3) := by decide +kernel
theorem dX6_foolOf_100 : decode cX6_foolOf 100 = .ok (.iload_n 1, 1) := by decide +kernel
theorem dX6_foolOf_101 : decode cX6_foolOf 101 = .ok (.iaload, 1) := by decide +kernel
theorem dX6_foolOf_102 : decode cX6_foolOf 102 = .ok (.ireturn, 1) := by decide +kernel
theorem dX6_foolOf_103 : decode cX6_foolOf 103 = .ok (.aload_n 0, 1) := by decide +kernel
theorem dX6_foolOf_104 : decode cX6_foolOf 104 = .ok (.getfield 10, 3) := by decide +kernel
theorem dX6_foolOf_107 : decode cX6_foolOf 107 = .ok (.getfield 81, 3) := by decide +kernel
theorem dX6_foolOf_110 : decode cX6_foolOf 110 = .ok (.getfield 101, 3) := by decide +kernel
theorem dX6_foolOf_113 : decode cX6_foolOf 113 = .ok (.iload_n 1, 1) := by decide +kernel
theorem dX6_foolOf_114 : decode cX6_foolOf 114 = .ok (.iaload, 1) := by decide +kernel
theorem dX6_foolOf_115 : decode cX6_foolOf 115 = .ok (.ireturn, 1) := by decide +kernel
theorem dX6_foolOf_116 : decode cX6_foolOf 116 = .ok (.aload_n 0, 1) := by decide +kernel
theorem dX6_foolOf_117 : decode cX6_foolOf 117 = .ok (.getfield 10, 3) := by decide +kernel
theorem dX6_foolOf_120 : decode cX6_foolOf 120 = .ok (.iload_n 1, 1) := by decide +kernel
theorem dX6_foolOf_121 : decode cX6_foolOf 121 = .ok (.invokevirtual 104, 3) := by decide +kernel
theorem dX6_foolOf_124 : decode cX6_foolOf 124 = .ok (.ireturn, 1) := by decide +kernel
theorem dX6_foolOf_125 : decode cX6_foolOf 125 = .ok (.aload_n 0, 1) := by decide +kernel
theorem dX6_foolOf_126 : decode cX6_foolOf 126 = .ok (.getfield 10, 3) := by decide +kernel
theorem dX6_foolOf_129 : decode cX6_foolOf 129 = .ok (.getfield 107, 3) := by decide +kernel
theorem dX6_foolOf_132 : decode cX6_foolOf 132 = .ok (.aload_n 0, 1) := by decide +kernel
theorem dX6_foolOf_133 : decode cX6_foolOf 133 = .ok (.getfield 10, 3) := by decide +kernel
theorem dX6_foolOf_136 : decode cX6_foolOf 136 = .ok (.getfield 107, 3) := by decide +kernel
theorem dX6_foolOf_139 : decode cX6_foolOf 139 = .ok (.getfield 111, 3) := by decide +kernel
theorem dX6_foolOf_142 : decode cX6_foolOf 142 = .ok (.iload_n 1, 1) := by decide +kernel
theorem dX6_foolOf_143 : decode cX6_foolOf 143 = .ok (.invokevirtual 116, 3) := by decide +kernel
theorem dX6_foolOf_146 : decode cX6_foolOf 146 = .ok (.ireturn, 1) := by decide +kernel
theorem dX6_foolOf_147 : decode cX6_foolOf 147 = .ok (.aload_n 0, 1) := by decide +kernel
theorem dX6_foolOf_148 : decode cX6_foolOf 148 = .ok (.getfield 10, 3) := by decide +kernel
theorem dX6_foolOf_151 : decode cX6_foolOf 151 = .ok (.getfield 81, 3) := by decide +kernel
theorem dX6_foolOf_154 : decode cX6_foolOf 154 = .ok (.getfield 120, 3) := by decide +kernel
theorem dX6_foolOf_157 : decode cX6_foolOf 157 = .ok (.iload_n 1, 1) := by decide +kernel
theorem dX6_foolOf_158 : decode cX6_foolOf 158 = .ok (.iaload, 1) := by decide +kernel
theorem dX6_foolOf_159 : decode cX6_foolOf 159 = .ok (.ireturn, 1) := by decide +kernel
theorem dX6_foolOf_160 : decode cX6_foolOf 160 = .ok (.aload_n 0, 1) := by decide +kernel
theorem dX6_foolOf_161 : decode cX6_foolOf 161 = .ok (.getfield 10, 3) := by decide +kernel
theorem dX6_foolOf_164 : decode cX6_foolOf 164 = .ok (.getfield 81, 3) := by decide +kernel
theorem dX6_foolOf_167 : decode cX6_foolOf 167 = .ok (.getfield 123, 3) := by decide +kernel
theorem dX6_foolOf_170 : decode cX6_foolOf 170 = .ok (.iload_n 1, 1) := by decide +kernel
theorem dX6_foolOf_171 : decode cX6_foolOf 171 = .ok (.iaload, 1) := by decide +kernel
theorem dX6_foolOf_172 : decode cX6_foolOf 172 = .ok (.ireturn, 1) := by decide +kernel
theorem dX6_foolOf_173 : decode cX6_foolOf 173 = .ok (.sipush (-1012), 3) := by decide +kernel
theorem dX6_foolOf_176 : decode cX6_foolOf 176 = .ok (.ireturn, 1) := by decide +kernel
theorem dX6_jokeOf_0 : decode cX6_jokeOf 0 = .ok (.aload_n 0, 1) := by decide +kernel
theorem dX6_jokeOf_1 : decode cX6_jokeOf 1 = .ok (.getfield 10, 3) := by decide +kernel
theorem dX6_jokeOf_4 : decode cX6_jokeOf 4 = .ok (.getfield 126, 3) := by decide +kernel
theorem dX6_jokeOf_7 : decode cX6_jokeOf 7 = .ok (.iload_n 1, 1) := by decide +kernel
theorem dX6_jokeOf_8 : decode cX6_jokeOf 8 = .ok (.invokevirtual 130, 3) := by decide +kernel
theorem dX6_jokeOf_11 : decode cX6_jokeOf 11 = .ok (.ifCond .ne 7, 3) := by decide +kernel
theorem dX6_jokeOf_14 : decode cX6_jokeOf 14 = .ok (.sipush (-1011), 3) := by decide +kernel
theorem dX6_jokeOf_17 : decode cX6_jokeOf 17 = .ok (.ireturn, 1) := by decide +kernel
theorem dX6_jokeOf_18 : decode cX6_jokeOf 18 = .ok (.iload_n 2, 1) := by decide +kernel
theorem dX6_jokeOf_19 : decode cX6_jokeOf 19 = .ok (.tableswitch 146 0 4 #[33, 46, 76, 112, 124], 33) := by decide +kernel
theorem dX6_jokeOf_52 : decode cX6_jokeOf 52 = .ok (.aload_n 0, 1) := by decide +kernel
theorem dX6_jokeOf_53 : decode cX6_jokeOf 53 = .ok (.getfield 10, 3) := by decide +kernel
theorem dX6_jokeOf_56 : decode cX6_jokeOf 56 = .ok (.getfield 126, 3) := by decide +kernel
theorem dX6_jokeOf_59 : decode cX6_jokeOf 59 = .ok (.getfield 133, 3) := by decide +kernel
theorem dX6_jokeOf_62 : decode cX6_jokeOf 62 = .ok (.iload_n 1, 1) := by decide +kernel
theorem dX6_jokeOf_63 : decode cX6_jokeOf 63 = .ok (.iaload, 1) := by decide +kernel
theorem dX6_jokeOf_64 : decode cX6_jokeOf 64 = .ok (.ireturn, 1) := by decide +kernel
theorem dX6_jokeOf_65 : decode cX6_jokeOf 65 = .ok (.aload_n 0, 1) := by decide +kernel
theorem dX6_jokeOf_66 : decode cX6_jokeOf 66 = .ok (.getfield 10, 3) := by decide +kernel
theorem dX6_jokeOf_69 : decode cX6_jokeOf 69 = .ok (.iload_n 1, 1) := by decide +kernel
theorem dX6_jokeOf_70 : decode cX6_jokeOf 70 = .ok (.invokevirtual 136, 3) := by decide +kernel
theorem dX6_jokeOf_73 : decode cX6_jokeOf 73 = .ok (.ifCond .eq 18, 3) := by decide +kernel
theorem dX6_jokeOf_76 : decode cX6_jokeOf 76 = .ok (.aload_n 0, 1) := by decide +kernel
theorem dX6_jokeOf_77 : decode cX6_jokeOf 77 = .ok (.getfield 10, 3) := by decide +kernel
theorem dX6_jokeOf_80 : decode cX6_jokeOf 80 = .ok (.getfield 126, 3) := by decide +kernel
theorem dX6_jokeOf_83 : decode cX6_jokeOf 83 = .ok (.getfield 139, 3) := by decide +kernel
theorem dX6_jokeOf_86 : decode cX6_jokeOf 86 = .ok (.iload_n 1, 1) := by decide +kernel
theorem dX6_jokeOf_87 : decode cX6_jokeOf 87 = .ok (.iaload, 1) := by decide +kernel
theorem dX6_jokeOf_88 : decode cX6_jokeOf 88 = .ok (.goto 6, 3) := by decide +kernel
theorem dX6_jokeOf_91 : decode cX6_jokeOf 91 = .ok (.sipush (-1015), 3) := by decide +kernel
theorem dX6_jokeOf_94 : decode cX6_jokeOf 94 = .ok (.ireturn, 1) := by decide +kernel
theorem dX6_jokeOf_95 : decode cX6_jokeOf 95 = .ok (.aload_n 0, 1) := by decide +kernel
theorem dX6_jokeOf_96 : decode cX6_jokeOf 96 = .ok (.getfield 10, 3) := by decide +kernel
theorem dX6_jokeOf_99 : decode cX6_jokeOf 99 = .ok (.iload_n 1, 1) := by decide +kernel
theorem dX6_jokeOf_100 : decode cX6_jokeOf 100 = .ok (.invokevirtual 136, 3) := by decide +kernel
theorem dX6_jokeOf_103 : decode cX6_jokeOf 103 = .ok (.ifCond .eq 26, 3) := by decide +kernel
theorem dX6_jokeOf_106 : decode cX6_jokeOf 106 = .ok (.aload_n 0, 1) := by decide +kernel
theorem dX6_jokeOf_107 : decode cX6_jokeOf 107 = .ok (.getfield 10, 3) := by decide +kernel
theorem dX6_jokeOf_110 : decode cX6_jokeOf 110 = .ok (.getfield 126, 3) := by decide +kernel
theorem dX6_jokeOf_113 : decode cX6_jokeOf 113 = .ok (.getfield 142, 3) := by decide +kernel
theorem dX6_jokeOf_116 : decode cX6_jokeOf 116 = .ok (.iload_n 1, 1) := by decide +kernel
theorem dX6_jokeOf_117 : decode cX6_jokeOf 117 = .ok (.iaload, 1) := by decide +kernel
theorem dX6_jokeOf_118 : decode cX6_jokeOf 118 = .ok (.aload_n 0, 1) := by decide +kernel
theorem dX6_jokeOf_119 : decode cX6_jokeOf 119 = .ok (.getfield 10, 3) := by decide +kernel
theorem dX6_jokeOf_122 : decode cX6_jokeOf 122 = .ok (.getfield 145, 3) := by decide +kernel
theorem dX6_jokeOf_125 : decode cX6_jokeOf 125 = .ok (.isub, 1) := by decide +kernel
theorem dX6_jokeOf_126 : decode cX6_jokeOf 126 = .ok (.goto 4, 3) := by decide +kernel
theorem dX6_jokeOf_129 : decode cX6_jokeOf 129 = .ok (.iconst 0, 1) := by decide +kernel
theorem dX6_jokeOf_130 : decode cX6_jokeOf 130 = .ok (.ireturn, 1) := by decide +kernel
theorem dX6_jokeOf_131 : decode cX6_jokeOf 131 = .ok (.aload_n 0, 1) := by decide +kernel
theorem dX6_jokeOf_132 : decode cX6_jokeOf 132 = .ok (.getfield 10, 3) := by decide +kernel
theorem dX6_jokeOf_135 : decode cX6_jokeOf 135 = .ok (.getfield 126, 3) := by decide +kernel
theorem dX6_jokeOf_138 : decode cX6_jokeOf 138 = .ok (.iload_n 1, 1) := by decide +kernel
theorem dX6_jokeOf_139 : decode cX6_jokeOf 139 = .ok (.invokevirtual 148, 3) := by decide +kernel
theorem dX6_jokeOf_142 : decode cX6_jokeOf 142 = .ok (.ireturn, 1) := by decide +kernel
theorem dX6_jokeOf_143 : decode cX6_jokeOf 143 = .ok (.aload_n 0, 1) := by decide +kernel
theorem dX6_jokeOf_144 : decode cX6_jokeOf 144 = .ok (.getfield 10, 3) := by decide +kernel
theorem dX6_jokeOf_147 : decode cX6_jokeOf 147 = .ok (.getfield 107, 3) := by decide +kernel
theorem dX6_jokeOf_150 : decode cX6_jokeOf 150 = .ok (.aload_n 0, 1) := by decide +kernel
theorem dX6_jokeOf_151 : decode cX6_jokeOf 151 = .ok (.getfield 10, 3) := by decide +kernel
theorem dX6_jokeOf_154 : decode cX6_jokeOf 154 = .ok (.getfield 107, 3) := by decide +kernel
theorem dX6_jokeOf_157 : decode cX6_jokeOf 157 = .ok (.getfield 151, 3) := by decide +kernel
theorem dX6_jokeOf_160 : decode cX6_jokeOf 160 = .ok (.iload_n 1, 1) := by decide +kernel
theorem dX6_jokeOf_161 : decode cX6_jokeOf 161 = .ok (.invokevirtual 116, 3) := by decide +kernel
theorem dX6_jokeOf_164 : decode cX6_jokeOf 164 = .ok (.ireturn, 1) := by decide +kernel
theorem dX6_jokeOf_165 : decode cX6_jokeOf 165 = .ok (.sipush (-1012), 3) := by decide +kernel
theorem dX6_jokeOf_168 : decode cX6_jokeOf 168 = .ok (.ireturn, 1) := by decide +kernel
theorem dX6_exempt_0 : decode cX6_exempt 0 = .ok (.aload_n 0, 1) := by decide +kernel
theorem dX6_exempt_1 : decode cX6_exempt 1 = .ok (.getfield 16, 3) := by decide +kernel
theorem dX6_exempt_4 : decode cX6_exempt 4 = .ok (.aload_n 0, 1) := by decide +kernel
theorem dX6_exempt_5 : decode cX6_exempt 5 = .ok (.getfield 10, 3) := by decide +kernel
theorem dX6_exempt_8 : decode cX6_exempt 8 = .ok (.invokevirtual 57, 3) := by decide +kernel
theorem dX6_exempt_11 : decode cX6_exempt 11 = .ok (.aload_n 0, 1) := by decide +kernel
theorem dX6_exempt_12 : decode cX6_exempt 12 = .ok (.aload_n 0, 1) := by decide +kernel
theorem dX6_exempt_13 : decode cX6_exempt 13 = .ok (.iload_n 1, 1) := by decide +kernel
theorem dX6_exempt_14 : decode cX6_exempt 14 = .ok (.iload_n 2, 1) := by decide +kernel
theorem dX6_exempt_15 : decode cX6_exempt 15 = .ok (.invokevirtual 154, 3) := by decide +kernel
theorem dX6_exempt_18 : decode cX6_exempt 18 = .ok (.invokevirtual 65, 3) := by decide +kernel
theorem dX6_exempt_21 : decode cX6_exempt 21 = .ok (.ireturn, 1) := by decide +kernel
theorem dX6_throneOf_0 : decode cX6_throneOf 0 = .ok (.iload_n 1, 1) := by decide +kernel
theorem dX6_throneOf_1 : decode cX6_throneOf 1 = .ok (.invokestatic 158, 3) := by decide +kernel
theorem dX6_throneOf_4 : decode cX6_throneOf 4 = .ok (.ifCond .ne 7, 3) := by decide +kernel
theorem dX6_throneOf_7 : decode cX6_throneOf 7 = .ok (.sipush (-1011), 3) := by decide +kernel
theorem dX6_throneOf_10 : decode cX6_throneOf 10 = .ok (.ireturn, 1) := by decide +kernel
theorem dX6_throneOf_11 : decode cX6_throneOf 11 = .ok (.iload_n 2, 1) := by decide +kernel
theorem dX6_throneOf_12 : decode cX6_throneOf 12 = .ok (.tableswitch 86 0 3 #[32, 42, 54, 64], 32) := by decide +kernel
theorem dX6_throneOf_44 : decode cX6_throneOf 44 = .ok (.aload_n 0, 1) := by decide +kernel
theorem dX6_throneOf_45 : decode cX6_throneOf 45 = .ok (.getfield 10, 3) := by decide +kernel
theorem dX6_throneOf_48 : decode cX6_throneOf 48 = .ok (.getfield 161, 3) := by decide +kernel
theorem dX6_throneOf_51 : decode cX6_throneOf 51 = .ok (.iload_n 1, 1) := by decide +kernel
theorem dX6_throneOf_52 : decode cX6_throneOf 52 = .ok (.iaload, 1) := by decide +kernel
theorem dX6_throneOf_53 : decode cX6_throneOf 53 = .ok (.ireturn, 1) := by decide +kernel
theorem dX6_throneOf_54 : decode cX6_throneOf 54 = .ok (.aload_n 0, 1) := by decide +kernel
theorem dX6_throneOf_55 : decode cX6_throneOf 55 = .ok (.getfield 10, 3) := by decide +kernel
theorem dX6_throneOf_58 : decode cX6_throneOf 58 = .ok (.getfield 126, 3) := by decide +kernel
theorem dX6_throneOf_61 : decode cX6_throneOf 61 = .ok (.iload_n 1, 1) := by decide +kernel
theorem dX6_throneOf_62 : decode cX6_throneOf 62 = .ok (.invokevirtual 164, 3) := by decide +kernel
theorem dX6_throneOf_65 : decode cX6_throneOf 65 = .ok (.ireturn, 1) := by decide +kernel
theorem dX6_throneOf_66 : decode cX6_throneOf 66 = .ok (.aload_n 0, 1) := by decide +kernel
theorem dX6_throneOf_67 : decode cX6_throneOf 67 = .ok (.getfield 10, 3) := by decide +kernel
theorem dX6_throneOf_70 : decode cX6_throneOf 70 = .ok (.getfield 167, 3) := by decide +kernel
theorem dX6_throneOf_73 : decode cX6_throneOf 73 = .ok (.iload_n 1, 1) := by decide +kernel
theorem dX6_throneOf_74 : decode cX6_throneOf 74 = .ok (.iaload, 1) := by decide +kernel
theorem dX6_throneOf_75 : decode cX6_throneOf 75 = .ok (.ireturn, 1) := by decide +kernel
theorem dX6_throneOf_76 : decode cX6_throneOf 76 = .ok (.aload_n 0, 1) := by decide +kernel
theorem dX6_throneOf_77 : decode cX6_throneOf 77 = .ok (.getfield 10, 3) := by decide +kernel
theorem dX6_throneOf_80 : decode cX6_throneOf 80 = .ok (.getfield 107, 3) := by decide +kernel
theorem dX6_throneOf_83 : decode cX6_throneOf 83 = .ok (.aload_n 0, 1) := by decide +kernel
theorem dX6_throneOf_84 : decode cX6_throneOf 84 = .ok (.getfield 10, 3) := by decide +kernel
theorem dX6_throneOf_87 : decode cX6_throneOf 87 = .ok (.getfield 107, 3) := by decide +kernel
theorem dX6_throneOf_90 : decode cX6_throneOf 90 = .ok (.getfield 170, 3) := by decide +kernel
theorem dX6_throneOf_93 : decode cX6_throneOf 93 = .ok (.iload_n 1, 1) := by decide +kernel
theorem dX6_throneOf_94 : decode cX6_throneOf 94 = .ok (.invokevirtual 116, 3) := by decide +kernel
theorem dX6_throneOf_97 : decode cX6_throneOf 97 = .ok (.ireturn, 1) := by decide +kernel
theorem dX6_throneOf_98 : decode cX6_throneOf 98 = .ok (.sipush (-1012), 3) := by decide +kernel
theorem dX6_throneOf_101 : decode cX6_throneOf 101 = .ok (.ireturn, 1) := by decide +kernel
theorem dX6_told_0 : decode cX6_told 0 = .ok (.aload_n 0, 1) := by decide +kernel
theorem dX6_told_1 : decode cX6_told 1 = .ok (.getfield 10, 3) := by decide +kernel
theorem dX6_told_4 : decode cX6_told 4 = .ok (.getfield 126, 3) := by decide +kernel
theorem dX6_told_7 : decode cX6_told 7 = .ok (.iload_n 1, 1) := by decide +kernel
theorem dX6_told_8 : decode cX6_told 8 = .ok (.invokevirtual 130, 3) := by decide +kernel
theorem dX6_told_11 : decode cX6_told 11 = .ok (.ifCond .eq 10, 3) := by decide +kernel
theorem dX6_told_14 : decode cX6_told 14 = .ok (.iload_n 2, 1) := by decide +kernel
theorem dX6_told_15 : decode cX6_told 15 = .ok (.invokestatic 158, 3) := by decide +kernel
theorem dX6_told_18 : decode cX6_told 18 = .ok (.ifCond .ne 7, 3) := by decide +kernel
theorem dX6_told_21 : decode cX6_told 21 = .ok (.sipush (-1011), 3) := by decide +kernel
theorem dX6_told_24 : decode cX6_told 24 = .ok (.ireturn, 1) := by decide +kernel
theorem dX6_told_25 : decode cX6_told 25 = .ok (.aload_n 0, 1) := by decide +kernel
theorem dX6_told_26 : decode cX6_told 26 = .ok (.getfield 10, 3) := by decide +kernel
theorem dX6_told_29 : decode cX6_told 29 = .ok (.getfield 126, 3) := by decide +kernel
theorem dX6_told_32 : decode cX6_told 32 = .ok (.iload_n 1, 1) := by decide +kernel
theorem dX6_told_33 : decode cX6_told 33 = .ok (.iload_n 2, 1) := by decide +kernel
theorem dX6_told_34 : decode cX6_told 34 = .ok (.invokevirtual 173, 3) := by decide +kernel
theorem dX6_told_37 : decode cX6_told 37 = .ok (.ireturn, 1) := by decide +kernel
theorem dX6_book_0 : decode cX6_book 0 = .ok (.aload_n 0, 1) := by decide +kernel
theorem dX6_book_1 : decode cX6_book 1 = .ok (.getfield 16, 3) := by decide +kernel
theorem dX6_book_4 : decode cX6_book 4 = .ok (.aload_n 0, 1) := by decide +kernel
theorem dX6_book_5 : decode cX6_book 5 = .ok (.getfield 10, 3) := by decide +kernel
theorem dX6_book_8 : decode cX6_book 8 = .ok (.invokevirtual 57, 3) := by decide +kernel
theorem dX6_book_11 : decode cX6_book 11 = .ok (.aload_n 0, 1) := by decide +kernel
theorem dX6_book_12 : decode cX6_book 12 = .ok (.aload_n 0, 1) := by decide +kernel
theorem dX6_book_13 : decode cX6_book 13 = .ok (.iload_n 1, 1) := by decide +kernel
theorem dX6_book_14 : decode cX6_book 14 = .ok (.iload_n 2, 1) := by decide +kernel
theorem dX6_book_15 : decode cX6_book 15 = .ok (.iload_n 3, 1) := by decide +kernel
theorem dX6_book_16 : decode cX6_book 16 = .ok (.iload 4, 2) := by decide +kernel
theorem dX6_book_18 : decode cX6_book 18 = .ok (.invokevirtual 176, 3) := by decide +kernel
theorem dX6_book_21 : decode cX6_book 21 = .ok (.invokevirtual 65, 3) := by decide +kernel
theorem dX6_book_24 : decode cX6_book 24 = .ok (.ireturn, 1) := by decide +kernel
theorem dX6_next_0 : decode cX6_next 0 = .ok (.aload_n 0, 1) := by decide +kernel
theorem dX6_next_1 : decode cX6_next 1 = .ok (.getfield 16, 3) := by decide +kernel
theorem dX6_next_4 : decode cX6_next 4 = .ok (.aload_n 0, 1) := by decide +kernel
theorem dX6_next_5 : decode cX6_next 5 = .ok (.getfield 10, 3) := by decide +kernel
theorem dX6_next_8 : decode cX6_next 8 = .ok (.invokevirtual 57, 3) := by decide +kernel
theorem dX6_next_11 : decode cX6_next 11 = .ok (.aload_n 0, 1) := by decide +kernel
theorem dX6_next_12 : decode cX6_next 12 = .ok (.aload_n 0, 1) := by decide +kernel
theorem dX6_next_13 : decode cX6_next 13 = .ok (.invokevirtual 180, 3) := by decide +kernel
theorem dX6_next_16 : decode cX6_next 16 = .ok (.invokevirtual 65, 3) := by decide +kernel
theorem dX6_next_19 : decode cX6_next 19 = .ok (.ireturn, 1) := by decide +kernel
theorem dX6_pass_0 : decode cX6_pass 0 = .ok (.aload_n 0, 1) := by decide +kernel
theorem dX6_pass_1 : decode cX6_pass 1 = .ok (.getfield 16, 3) := by decide +kernel
theorem dX6_pass_4 : decode cX6_pass 4 = .ok (.aload_n 0, 1) := by decide +kernel
theorem dX6_pass_5 : decode cX6_pass 5 = .ok (.getfield 10, 3) := by decide +kernel
theorem dX6_pass_8 : decode cX6_pass 8 = .ok (.invokevirtual 57, 3) := by decide +kernel
theorem dX6_pass_11 : decode cX6_pass 11 = .ok (.aload_n 0, 1) := by decide +kernel
theorem dX6_pass_12 : decode cX6_pass 12 = .ok (.aload_n 0, 1) := by decide +kernel
theorem dX6_pass_13 : decode cX6_pass 13 = .ok (.iload_n 1, 1) := by decide +kernel
theorem dX6_pass_14 : decode cX6_pass 14 = .ok (.invokevirtual 184, 3) := by decide +kernel
theorem dX6_pass_17 : decode cX6_pass 17 = .ok (.invokevirtual 65, 3) := by decide +kernel
theorem dX6_pass_20 : decode cX6_pass 20 = .ok (.ireturn, 1) := by decide +kernel
theorem dX6_booking_0 : decode cX6_booking 0 = .ok (.iload_n 1, 1) := by decide +kernel
theorem dX6_booking_1 : decode cX6_booking 1 = .ok (.ifCond .lt 17, 3) := by decide +kernel
theorem dX6_booking_4 : decode cX6_booking 4 = .ok (.iload_n 1, 1) := by decide +kernel
theorem dX6_booking_5 : decode cX6_booking 5 = .ok (.aload_n 0, 1) := by decide +kernel
theorem dX6_booking_6 : decode cX6_booking 6 = .ok (.getfield 10, 3) := by decide +kernel
theorem dX6_booking_9 : decode cX6_booking 9 = .ok (.getfield 107, 3) := by decide +kernel
theorem dX6_booking_12 : decode cX6_booking 12 = .ok (.getfield 187, 3) := by decide +kernel
theorem dX6_booking_15 : decode cX6_booking 15 = .ok (.if_icmp .lt 7, 3) := by decide +kernel
theorem dX6_booking_18 : decode cX6_booking 18 = .ok (.sipush (-1011), 3) := by decide +kernel
theorem dX6_booking_21 : decode cX6_booking 21 = .ok (.ireturn, 1) := by decide +kernel
theorem dX6_booking_22 : decode cX6_booking 22 = .ok (.iload_n 2, 1) := by decide +kernel
theorem dX6_booking_23 : decode cX6_booking 23 = .ok (.tableswitch 81 0 3 #[29, 42, 55, 68], 29) := by decide +kernel
theorem dX6_booking_52 : decode cX6_booking 52 = .ok (.aload_n 0, 1) := by decide +kernel
theorem dX6_booking_53 : decode cX6_booking 53 = .ok (.getfield 10, 3) := by decide +kernel
theorem dX6_booking_56 : decode cX6_booking 56 = .ok (.getfield 107, 3) := by decide +kernel
theorem dX6_booking_59 : decode cX6_booking 59 = .ok (.getfield 111, 3) := by decide +kernel
theorem dX6_booking_62 : decode cX6_booking 62 = .ok (.iload_n 1, 1) := by decide +kernel
theorem dX6_booking_63 : decode cX6_booking 63 = .ok (.iaload, 1) := by decide +kernel
theorem dX6_booking_64 : decode cX6_booking 64 = .ok (.ireturn, 1) := by decide +kernel
theorem dX6_booking_65 : decode cX6_booking 65 = .ok (.aload_n 0, 1) := by decide +kernel
theorem dX6_booking_66 : decode cX6_booking 66 = .ok (.getfield 10, 3) := by decide +kernel
theorem dX6_booking_69 : decode cX6_booking 69 = .ok (.getfield 107, 3) := by decide +kernel
theorem dX6_booking_72 : decode cX6_booking 72 = .ok (.getfield 151, 3) := by decide +kernel
theorem dX6_booking_75 : decode cX6_booking 75 = .ok (.iload_n 1, 1) := by decide +kernel
theorem dX6_booking_76 : decode cX6_booking 76 = .ok (.iaload, 1) := by decide +kernel
theorem dX6_booking_77 : decode cX6_booking 77 = .ok (.ireturn, 1) := by decide +kernel
theorem dX6_booking_78 : decode cX6_booking 78 = .ok (.aload_n 0, 1) := by decide +kernel
theorem dX6_booking_79 : decode cX6_booking 79 = .ok (.getfield 10, 3) := by decide +kernel
theorem dX6_booking_82 : decode cX6_booking 82 = .ok (.getfield 107, 3) := by decide +kernel
theorem dX6_booking_85 : decode cX6_booking 85 = .ok (.getfield 170, 3) := by decide +kernel
theorem dX6_booking_88 : decode cX6_booking 88 = .ok (.iload_n 1, 1) := by decide +kernel
theorem dX6_booking_89 : decode cX6_booking 89 = .ok (.iaload, 1) := by decide +kernel
theorem dX6_booking_90 : decode cX6_booking 90 = .ok (.ireturn, 1) := by decide +kernel
theorem dX6_booking_91 : decode cX6_booking 91 = .ok (.aload_n 0, 1) := by decide +kernel
theorem dX6_booking_92 : decode cX6_booking 92 = .ok (.getfield 10, 3) := by decide +kernel
theorem dX6_booking_95 : decode cX6_booking 95 = .ok (.getfield 107, 3) := by decide +kernel
theorem dX6_booking_98 : decode cX6_booking 98 = .ok (.getfield 190, 3) := by decide +kernel
theorem dX6_booking_101 : decode cX6_booking 101 = .ok (.iload_n 1, 1) := by decide +kernel
theorem dX6_booking_102 : decode cX6_booking 102 = .ok (.iaload, 1) := by decide +kernel
theorem dX6_booking_103 : decode cX6_booking 103 = .ok (.ireturn, 1) := by decide +kernel
theorem dX6_booking_104 : decode cX6_booking 104 = .ok (.sipush (-1012), 3) := by decide +kernel
theorem dX6_booking_107 : decode cX6_booking 107 = .ok (.ireturn, 1) := by decide +kernel
theorem dX6_would_0 : decode cX6_would 0 = .ok (.aload_n 0, 1) := by decide +kernel
theorem dX6_would_1 : decode cX6_would 1 = .ok (.getfield 10, 3) := by decide +kernel
theorem dX6_would_4 : decode cX6_would 4 = .ok (.getfield 81, 3) := by decide +kernel
theorem dX6_would_7 : decode cX6_would 7 = .ok (.iload_n 1, 1) := by decide +kernel
theorem dX6_would_8 : decode cX6_would 8 = .ok (.invokevirtual 85, 3) := by decide +kernel
theorem dX6_would_11 : decode cX6_would 11 = .ok (.ifCond .eq 24, 3) := by decide +kernel
theorem dX6_would_14 : decode cX6_would 14 = .ok (.aload_n 0, 1) := by decide +kernel
theorem dX6_would_15 : decode cX6_would 15 = .ok (.getfield 10, 3) := by decide +kernel
theorem dX6_would_18 : decode cX6_would 18 = .ok (.getfield 126, 3) := by decide +kernel
theorem dX6_would_21 : decode cX6_would 21 = .ok (.iload_n 2, 1) := by decide +kernel
theorem dX6_would_22 : decode cX6_would 22 = .ok (.invokevirtual 130, 3) := by decide +kernel
theorem dX6_would_25 : decode cX6_would 25 = .ok (.ifCond .eq 10, 3) := by decide +kernel
theorem dX6_would_28 : decode cX6_would 28 = .ok (.iload_n 3, 1) := by decide +kernel
theorem dX6_would_29 : decode cX6_would 29 = .ok (.invokestatic 158, 3) := by decide +kernel
theorem dX6_would_32 : decode cX6_would 32 = .ok (.ifCond .ne 7, 3) := by decide +kernel
theorem dX6_would_35 : decode cX6_would 35 = .ok (.sipush (-1011), 3) := by decide +kernel
theorem dX6_would_38 : decode cX6_would 38 = .ok (.ireturn, 1) := by decide +kernel
theorem dX6_would_39 : decode cX6_would 39 = .ok (.aload_n 0, 1) := by decide +kernel
theorem dX6_would_40 : decode cX6_would 40 = .ok (.getfield 10, 3) := by decide +kernel
theorem dX6_would_43 : decode cX6_would 43 = .ok (.iload_n 1, 1) := by decide +kernel
theorem dX6_would_44 : decode cX6_would 44 = .ok (.iload_n 2, 1) := by decide +kernel
theorem dX6_would_45 : decode cX6_would 45 = .ok (.iload_n 3, 1) := by decide +kernel
theorem dX6_would_46 : decode cX6_would 46 = .ok (.invokevirtual 192, 3) := by decide +kernel
theorem dX6_would_49 : decode cX6_would 49 = .ok (.ireturn, 1) := by decide +kernel
theorem dX6_best_0 : decode cX6_best 0 = .ok (.aload_n 0, 1) := by decide +kernel
theorem dX6_best_1 : decode cX6_best 1 = .ok (.getfield 10, 3) := by decide +kernel
theorem dX6_best_4 : decode cX6_best 4 = .ok (.getfield 81, 3) := by decide +kernel
theorem dX6_best_7 : decode cX6_best 7 = .ok (.iload_n 1, 1) := by decide +kernel
theorem dX6_best_8 : decode cX6_best 8 = .ok (.invokevirtual 85, 3) := by decide +kernel
theorem dX6_best_11 : decode cX6_best 11 = .ok (.ifCond .eq 10, 3) := by decide +kernel
theorem dX6_best_14 : decode cX6_best 14 = .ok (.iload_n 2, 1) := by decide +kernel
theorem dX6_best_15 : decode cX6_best 15 = .ok (.invokestatic 158, 3) := by decide +kernel
theorem dX6_best_18 : decode cX6_best 18 = .ok (.ifCond .ne 7, 3) := by decide +kernel
theorem dX6_best_21 : decode cX6_best 21 = .ok (.sipush (-1011), 3) := by decide +kernel
theorem dX6_best_24 : decode cX6_best 24 = .ok (.ireturn, 1) := by decide +kernel
theorem dX6_best_25 : decode cX6_best 25 = .ok (.aload_n 0, 1) := by decide +kernel
theorem dX6_best_26 : decode cX6_best 26 = .ok (.getfield 10, 3) := by decide +kernel
theorem dX6_best_29 : decode cX6_best 29 = .ok (.iload_n 1, 1) := by decide +kernel
theorem dX6_best_30 : decode cX6_best 30 = .ok (.iload_n 2, 1) := by decide +kernel
theorem dX6_best_31 : decode cX6_best 31 = .ok (.invokevirtual 195, 3) := by decide +kernel
theorem dX6_best_34 : decode cX6_best 34 = .ok (.ireturn, 1) := by decide +kernel
theorem dX6_bestAgain_0 : decode cX6_bestAgain 0 = .ok (.aload_n 0, 1) := by decide +kernel
theorem dX6_bestAgain_1 : decode cX6_bestAgain 1 = .ok (.getfield 10, 3) := by decide +kernel
theorem dX6_bestAgain_4 : decode cX6_bestAgain 4 = .ok (.getfield 81, 3) := by decide +kernel
theorem dX6_bestAgain_7 : decode cX6_bestAgain 7 = .ok (.iload_n 1, 1) := by decide +kernel
theorem dX6_bestAgain_8 : decode cX6_bestAgain 8 = .ok (.invokevirtual 85, 3) := by decide +kernel
theorem dX6_bestAgain_11 : decode cX6_bestAgain 11 = .ok (.ifCond .eq 10, 3) := by decide +kernel
theorem dX6_bestAgain_14 : decode cX6_bestAgain 14 = .ok (.iload_n 2, 1) := by decide +kernel
theorem dX6_bestAgain_15 : decode cX6_bestAgain 15 = .ok (.invokestatic 158, 3) := by decide +kernel
theorem dX6_bestAgain_18 : decode cX6_bestAgain 18 = .ok (.ifCond .ne 7, 3) := by decide +kernel
theorem dX6_bestAgain_21 : decode cX6_bestAgain 21 = .ok (.sipush (-1011), 3) := by decide +kernel
theorem dX6_bestAgain_24 : decode cX6_bestAgain 24 = .ok (.ireturn, 1) := by decide +kernel
theorem dX6_bestAgain_25 : decode cX6_bestAgain 25 = .ok (.aload_n 0, 1) := by decide +kernel
theorem dX6_bestAgain_26 : decode cX6_bestAgain 26 = .ok (.getfield 10, 3) := by decide +kernel
theorem dX6_bestAgain_29 : decode cX6_bestAgain 29 = .ok (.iload_n 1, 1) := by decide +kernel
theorem dX6_bestAgain_30 : decode cX6_bestAgain 30 = .ok (.iload_n 2, 1) := by decide +kernel
theorem dX6_bestAgain_31 : decode cX6_bestAgain 31 = .ok (.invokevirtual 198, 3) := by decide +kernel
theorem dX6_bestAgain_34 : decode cX6_bestAgain 34 = .ok (.ireturn, 1) := by decide +kernel
theorem dX6_ends_0 : decode cX6_ends 0 = .ok (.aload_n 0, 1) := by decide +kernel
theorem dX6_ends_1 : decode cX6_ends 1 = .ok (.getfield 10, 3) := by decide +kernel
theorem dX6_ends_4 : decode cX6_ends 4 = .ok (.invokevirtual 201, 3) := by decide +kernel
theorem dX6_ends_7 : decode cX6_ends 7 = .ok (.ireturn, 1) := by decide +kernel
theorem dX6_endsAgain_0 : decode cX6_endsAgain 0 = .ok (.aload_n 0, 1) := by decide +kernel
theorem dX6_endsAgain_1 : decode cX6_endsAgain 1 = .ok (.getfield 10, 3) := by decide +kernel
theorem dX6_endsAgain_4 : decode cX6_endsAgain 4 = .ok (.invokevirtual 204, 3) := by decide +kernel
theorem dX6_endsAgain_7 : decode cX6_endsAgain 7 = .ok (.ireturn, 1) := by decide +kernel
theorem dX6_forecast_0 : decode cX6_forecast 0 = .ok (.aload_n 0, 1) := by decide +kernel
theorem dX6_forecast_1 : decode cX6_forecast 1 = .ok (.getfield 19, 3) := by decide +kernel
theorem dX6_forecast_4 : decode cX6_forecast 4 = .ok (.aload_n 0, 1) := by decide +kernel
theorem dX6_forecast_5 : decode cX6_forecast 5 = .ok (.getfield 10, 3) := by decide +kernel
theorem dX6_forecast_8 : decode cX6_forecast 8 = .ok (.invokevirtual 57, 3) := by decide +kernel
theorem dX6_forecast_11 : decode cX6_forecast 11 = .ok (.aload_n 0, 1) := by decide +kernel
theorem dX6_forecast_12 : decode cX6_forecast 12 = .ok (.getfield 10, 3) := by decide +kernel
theorem dX6_forecast_15 : decode cX6_forecast 15 = .ok (.getfield 107, 3) := by decide +kernel
theorem dX6_forecast_18 : decode cX6_forecast 18 = .ok (.getfield 187, 3) := by decide +kernel
theorem dX6_forecast_21 : decode cX6_forecast 21 = .ok (.istore_n 1, 1) := by decide +kernel
theorem dX6_forecast_22 : decode cX6_forecast 22 = .ok (.iload_n 1, 1) := by decide +kernel
theorem dX6_forecast_23 : decode cX6_forecast 23 = .ok (.ifCond .le 17, 3) := by decide +kernel
theorem dX6_forecast_26 : decode cX6_forecast 26 = .ok (.aload_n 0, 1) := by decide +kernel
theorem dX6_forecast_27 : decode cX6_forecast 27 = .ok (.getfield 19, 3) := by decide +kernel
theorem dX6_forecast_30 : decode cX6_forecast 30 = .ok (.invokevirtual 207, 3) := by decide +kernel
theorem dX6_forecast_33 : decode cX6_forecast 33 = .ok (.pop, 1) := by decide +kernel
theorem dX6_forecast_34 : decode cX6_forecast 34 = .ok (.iinc 1 (-1), 3) := by decide +kernel
theorem dX6_forecast_37 : decode cX6_forecast 37 = .ok (.goto (-15), 3) := by decide +kernel
theorem dX6_forecast_40 : decode cX6_forecast 40 = .ok (.aload_n 0, 1) := by decide +kernel
theorem dX6_forecast_41 : decode cX6_forecast 41 = .ok (.getfield 19, 3) := by decide +kernel
theorem dX6_forecast_44 : decode cX6_forecast 44 = .ok (.getfield 81, 3) := by decide +kernel
theorem dX6_forecast_47 : decode cX6_forecast 47 = .ok (.getfield 95, 3) := by decide +kernel
theorem dX6_forecast_50 : decode cX6_forecast 50 = .ok (.invokestatic 210, 3) := by decide +kernel
theorem dX6_forecast_53 : decode cX6_forecast 53 = .ok (.aload_n 0, 1) := by decide +kernel
theorem dX6_forecast_54 : decode cX6_forecast 54 = .ok (.getfield 10, 3) := by decide +kernel
theorem dX6_forecast_57 : decode cX6_forecast 57 = .ok (.getfield 81, 3) := by decide +kernel
theorem dX6_forecast_60 : decode cX6_forecast 60 = .ok (.getfield 95, 3) := by decide +kernel
theorem dX6_forecast_63 : decode cX6_forecast 63 = .ok (.invokestatic 210, 3) := by decide +kernel
theorem dX6_forecast_66 : decode cX6_forecast 66 = .ok (.isub, 1) := by decide +kernel
theorem dX6_forecast_67 : decode cX6_forecast 67 = .ok (.ireturn, 1) := by decide +kernel
theorem dX6_ranked_0 : decode cX6_ranked 0 = .ok (.aload_n 0, 1) := by decide +kernel
theorem dX6_ranked_1 : decode cX6_ranked 1 = .ok (.getfield 10, 3) := by decide +kernel
theorem dX6_ranked_4 : decode cX6_ranked 4 = .ok (.getfield 81, 3) := by decide +kernel
theorem dX6_ranked_7 : decode cX6_ranked 7 = .ok (.iload_n 1, 1) := by decide +kernel
theorem dX6_ranked_8 : decode cX6_ranked 8 = .ok (.invokevirtual 214, 3) := by decide +kernel
theorem dX6_ranked_11 : decode cX6_ranked 11 = .ok (.ireturn, 1) := by decide +kernel
theorem dX6_stalest_0 : decode cX6_stalest 0 = .ok (.aload_n 0, 1) := by decide +kernel
theorem dX6_stalest_1 : decode cX6_stalest 1 = .ok (.getfield 10, 3) := by decide +kernel
theorem dX6_stalest_4 : decode cX6_stalest 4 = .ok (.getfield 126, 3) := by decide +kernel
theorem dX6_stalest_7 : decode cX6_stalest 7 = .ok (.iload_n 1, 1) := by decide +kernel
theorem dX6_stalest_8 : decode cX6_stalest 8 = .ok (.invokevirtual 217, 3) := by decide +kernel
theorem dX6_stalest_11 : decode cX6_stalest 11 = .ok (.ireturn, 1) := by decide +kernel
theorem dX6_run_0 : decode cX6_run 0 = .ok (.aload_n 0, 1) := by decide +kernel
theorem dX6_run_1 : decode cX6_run 1 = .ok (.getfield 16, 3) := by decide +kernel
theorem dX6_run_4 : decode cX6_run 4 = .ok (.aload_n 0, 1) := by decide +kernel
theorem dX6_run_5 : decode cX6_run 5 = .ok (.getfield 10, 3) := by decide +kernel
theorem dX6_run_8 : decode cX6_run 8 = .ok (.invokevirtual 57, 3) := by decide +kernel
theorem dX6_run_11 : decode cX6_run 11 = .ok (.aload_n 0, 1) := by decide +kernel
theorem dX6_run_12 : decode cX6_run 12 = .ok (.getfield 35, 3) := by decide +kernel
theorem dX6_run_15 : decode cX6_run 15 = .ok (.invokevirtual 228, 3) := by decide +kernel
theorem dX6_run_18 : decode cX6_run 18 = .ok (.istore_n 1, 1) := by decide +kernel
theorem dX6_run_19 : decode cX6_run 19 = .ok (.aload_n 0, 1) := by decide +kernel
theorem dX6_run_20 : decode cX6_run 20 = .ok (.getfield 35, 3) := by decide +kernel
theorem dX6_run_23 : decode cX6_run 23 = .ok (.getfield 218, 3) := by decide +kernel
theorem dX6_run_26 : decode cX6_run 26 = .ok (.iconst 0, 1) := by decide +kernel
theorem dX6_run_27 : decode cX6_run 27 = .ok (.invokevirtual 232, 3) := by decide +kernel
theorem dX6_run_30 : decode cX6_run 30 = .ok (.iload_n 1, 1) := by decide +kernel
theorem dX6_run_31 : decode cX6_run 31 = .ok (.ifCond .ne 15, 3) := by decide +kernel
theorem dX6_run_34 : decode cX6_run 34 = .ok (.sipush (-2000), 3) := by decide +kernel
theorem dX6_run_37 : decode cX6_run 37 = .ok (.aload_n 0, 1) := by decide +kernel
theorem dX6_run_38 : decode cX6_run 38 = .ok (.getfield 35, 3) := by decide +kernel
theorem dX6_run_41 : decode cX6_run 41 = .ok (.getfield 236, 3) := by decide +kernel
theorem dX6_run_44 : decode cX6_run 44 = .ok (.isub, 1) := by decide +kernel
theorem dX6_run_45 : decode cX6_run 45 = .ok (.ireturn, 1) := by decide +kernel
theorem dX6_run_46 : decode cX6_run 46 = .ok (.iconst 0, 1) := by decide +kernel
theorem dX6_run_47 : decode cX6_run 47 = .ok (.istore_n 2, 1) := by decide +kernel
theorem dX6_run_48 : decode cX6_run 48 = .ok (.iload_n 2, 1) := by decide +kernel
theorem dX6_run_49 : decode cX6_run 49 = .ok (.aload_n 0, 1) := by decide +kernel
theorem dX6_run_50 : decode cX6_run 50 = .ok (.getfield 35, 3) := by decide +kernel
theorem dX6_run_53 : decode cX6_run 53 = .ok (.getfield 239, 3) := by decide +kernel
theorem dX6_run_56 : decode cX6_run 56 = .ok (.if_icmp .ge 36, 3) := by decide +kernel
theorem dX6_run_59 : decode cX6_run 59 = .ok (.aload_n 0, 1) := by decide +kernel
theorem dX6_run_60 : decode cX6_run 60 = .ok (.iload_n 2, 1) := by decide +kernel
theorem dX6_run_61 : decode cX6_run 61 = .ok (.invokevirtual 240, 3) := by decide +kernel
theorem dX6_run_64 : decode cX6_run 64 = .ok (.ifCond .ge 22, 3) := by decide +kernel
theorem dX6_run_67 : decode cX6_run 67 = .ok (.aload_n 0, 1) := by decide +kernel
theorem dX6_run_68 : decode cX6_run 68 = .ok (.getfield 10, 3) := by decide +kernel
theorem dX6_run_71 : decode cX6_run 71 = .ok (.aload_n 0, 1) := by decide +kernel
theorem dX6_run_72 : decode cX6_run 72 = .ok (.getfield 16, 3) := by decide +kernel
theorem dX6_run_75 : decode cX6_run 75 = .ok (.invokevirtual 57, 3) := by decide +kernel
theorem dX6_run_78 : decode cX6_run 78 = .ok (.aload_n 0, 1) := by decide +kernel
theorem dX6_run_79 : decode cX6_run 79 = .ok (.bipush 12, 2) := by decide +kernel
theorem dX6_run_81 : decode cX6_run 81 = .ok (.iload_n 2, 1) := by decide +kernel
theorem dX6_run_82 : decode cX6_run 82 = .ok (.invokevirtual 243, 3) := by decide +kernel
theorem dX6_run_85 : decode cX6_run 85 = .ok (.ireturn, 1) := by decide +kernel
theorem dX6_run_86 : decode cX6_run 86 = .ok (.iinc 2 1, 3) := by decide +kernel
theorem dX6_run_89 : decode cX6_run 89 = .ok (.goto (-41), 3) := by decide +kernel
theorem dX6_run_92 : decode cX6_run 92 = .ok (.aload_n 0, 1) := by decide +kernel
theorem dX6_run_93 : decode cX6_run 93 = .ok (.aload_n 0, 1) := by decide +kernel
theorem dX6_run_94 : decode cX6_run 94 = .ok (.getfield 35, 3) := by decide +kernel
theorem dX6_run_97 : decode cX6_run 97 = .ok (.getfield 239, 3) := by decide +kernel
theorem dX6_run_100 : decode cX6_run 100 = .ok (.invokevirtual 65, 3) := by decide +kernel
theorem dX6_run_103 : decode cX6_run 103 = .ok (.ireturn, 1) := by decide +kernel
theorem dX6_tell_0 : decode cX6_tell 0 = .ok (.aload_n 0, 1) := by decide +kernel
theorem dX6_tell_1 : decode cX6_tell 1 = .ok (.getfield 10, 3) := by decide +kernel
theorem dX6_tell_4 : decode cX6_tell 4 = .ok (.getfield 81, 3) := by decide +kernel
theorem dX6_tell_7 : decode cX6_tell 7 = .ok (.iload_n 1, 1) := by decide +kernel
theorem dX6_tell_8 : decode cX6_tell 8 = .ok (.invokevirtual 85, 3) := by decide +kernel
theorem dX6_tell_11 : decode cX6_tell 11 = .ok (.ifCond .ne 7, 3) := by decide +kernel
theorem dX6_tell_14 : decode cX6_tell 14 = .ok (.sipush (-1011), 3) := by decide +kernel
theorem dX6_tell_17 : decode cX6_tell 17 = .ok (.ireturn, 1) := by decide +kernel
theorem dX6_tell_18 : decode cX6_tell 18 = .ok (.aload_n 0, 1) := by decide +kernel
theorem dX6_tell_19 : decode cX6_tell 19 = .ok (.getfield 42, 3) := by decide +kernel
theorem dX6_tell_22 : decode cX6_tell 22 = .ok (.iconst 0, 1) := by decide +kernel
theorem dX6_tell_23 : decode cX6_tell 23 = .ok (.invokevirtual 232, 3) := by decide +kernel
theorem dX6_tell_26 : decode cX6_tell 26 = .ok (.aload_n 0, 1) := by decide +kernel
theorem dX6_tell_27 : decode cX6_tell 27 = .ok (.getfield 42, 3) := by decide +kernel
theorem dX6_tell_30 : decode cX6_tell 30 = .ok (.iload_n 1, 1) := by decide +kernel
theorem dX6_tell_31 : decode cX6_tell 31 = .ok (.invokevirtual 246, 3) := by decide +kernel
theorem dX6_tell_34 : decode cX6_tell 34 = .ok (.pop, 1) := by decide +kernel
theorem dX6_tell_35 : decode cX6_tell 35 = .ok (.aload_n 0, 1) := by decide +kernel
theorem dX6_tell_36 : decode cX6_tell 36 = .ok (.bipush 115, 2) := by decide +kernel
theorem dX6_tell_38 : decode cX6_tell 38 = .ok (.aload_n 0, 1) := by decide +kernel
theorem dX6_tell_39 : decode cX6_tell 39 = .ok (.getfield 10, 3) := by decide +kernel
theorem dX6_tell_42 : decode cX6_tell 42 = .ok (.getfield 81, 3) := by decide +kernel
theorem dX6_tell_45 : decode cX6_tell 45 = .ok (.getfield 91, 3) := by decide +kernel
theorem dX6_tell_48 : decode cX6_tell 48 = .ok (.iload_n 1, 1) := by decide +kernel
theorem dX6_tell_49 : decode cX6_tell 49 = .ok (.iaload, 1) := by decide +kernel
theorem dX6_tell_50 : decode cX6_tell 50 = .ok (.invokevirtual 249, 3) := by decide +kernel
theorem dX6_tell_53 : decode cX6_tell 53 = .ok (.aload_n 0, 1) := by decide +kernel
theorem dX6_tell_54 : decode cX6_tell 54 = .ok (.bipush 36, 2) := by decide +kernel
theorem dX6_tell_56 : decode cX6_tell 56 = .ok (.aload_n 0, 1) := by decide +kernel
theorem dX6_tell_57 : decode cX6_tell 57 = .ok (.getfield 10, 3) := by decide +kernel
theorem dX6_tell_60 : decode cX6_tell 60 = .ok (.getfield 81, 3) := by decide +kernel
theorem dX6_tell_63 : decode cX6_tell 63 = .ok (.getfield 95, 3) := by decide +kernel
theorem dX6_tell_66 : decode cX6_tell 66 = .ok (.iload_n 1, 1) := by decide +kernel
theorem dX6_tell_67 : decode cX6_tell 67 = .ok (.iaload, 1) := by decide +kernel
theorem dX6_tell_68 : decode cX6_tell 68 = .ok (.invokevirtual 249, 3) := by decide +kernel
theorem dX6_tell_71 : decode cX6_tell 71 = .ok (.aload_n 0, 1) := by decide +kernel
theorem dX6_tell_72 : decode cX6_tell 72 = .ok (.getfield 10, 3) := by decide +kernel
theorem dX6_tell_75 : decode cX6_tell 75 = .ok (.getfield 81, 3) := by decide +kernel
theorem dX6_tell_78 : decode cX6_tell 78 = .ok (.getfield 98, 3) := by decide +kernel
theorem dX6_tell_81 : decode cX6_tell 81 = .ok (.iload_n 1, 1) := by decide +kernel
theorem dX6_tell_82 : decode cX6_tell 82 = .ok (.iaload, 1) := by decide +kernel
theorem dX6_tell_83 : decode cX6_tell 83 = .ok (.ifCond .le 21, 3) := by decide +kernel
theorem dX6_tell_86 : decode cX6_tell 86 = .ok (.aload_n 0, 1) := by decide +kernel
theorem dX6_tell_87 : decode cX6_tell 87 = .ok (.bipush 126, 2) := by decide +kernel
theorem dX6_tell_89 : decode cX6_tell 89 = .ok (.aload_n 0, 1) := by decide +kernel
theorem dX6_tell_90 : decode cX6_tell 90 = .ok (.getfield 10, 3) := by decide +kernel
theorem dX6_tell_93 : decode cX6_tell 93 = .ok (.getfield 81, 3) := by decide +kernel
theorem dX6_tell_96 : decode cX6_tell 96 = .ok (.getfield 98, 3) := by decide +kernel
theorem dX6_tell_99 : decode cX6_tell 99 = .ok (.iload_n 1, 1) := by decide +kernel
theorem dX6_tell_100 : decode cX6_tell 100 = .ok (.iaload, 1) := by decide +kernel
theorem dX6_tell_101 : decode cX6_tell 101 = .ok (.invokevirtual 249, 3) := by decide +kernel
theorem dX6_tell_104 : decode cX6_tell 104 = .ok (.iconst 0, 1) := by decide +kernel
theorem dX6_tell_105 : decode cX6_tell 105 = .ok (.istore_n 2, 1) := by decide +kernel
theorem dX6_tell_106 : decode cX6_tell 106 = .ok (.iload_n 2, 1) := by decide +kernel
theorem dX6_tell_107 : decode cX6_tell 107 = .ok (.aload_n 0, 1) := by decide +kernel
theorem dX6_tell_108 : decode cX6_tell 108 = .ok (.getfield 10, 3) := by decide +kernel
theorem dX6_tell_111 : decode cX6_tell 111 = .ok (.getfield 81, 3) := by decide +kernel
theorem dX6_tell_114 : decode cX6_tell 114 = .ok (.getfield 101, 3) := by decide +kernel
theorem dX6_tell_117 : decode cX6_tell 117 = .ok (.iload_n 1, 1) := by decide +kernel
theorem dX6_tell_118 : decode cX6_tell 118 = .ok (.iaload, 1) := by decide +kernel
theorem dX6_tell_119 : decode cX6_tell 119 = .ok (.if_icmp .ge 19, 3) := by decide +kernel
theorem dX6_tell_122 : decode cX6_tell 122 = .ok (.aload_n 0, 1) := by decide +kernel
theorem dX6_tell_123 : decode cX6_tell 123 = .ok (.getfield 42, 3) := by decide +kernel
theorem dX6_tell_126 : decode cX6_tell 126 = .ok (.bipush 43, 2) := by decide +kernel
theorem dX6_tell_128 : decode cX6_tell 128 = .ok (.invokevirtual 224, 3) := by decide +kernel
theorem dX6_tell_131 : decode cX6_tell 131 = .ok (.pop, 1) := by decide +kernel
theorem dX6_tell_132 : decode cX6_tell 132 = .ok (.iinc 2 1, 3) := by decide +kernel
theorem dX6_tell_135 : decode cX6_tell 135 = .ok (.goto (-29), 3) := by decide +kernel
theorem dX6_tell_138 : decode cX6_tell 138 = .ok (.aload_n 0, 1) := by decide +kernel
theorem dX6_tell_139 : decode cX6_tell 139 = .ok (.getfield 42, 3) := by decide +kernel
theorem dX6_tell_142 : decode cX6_tell 142 = .ok (.invokevirtual 221, 3) := by decide +kernel
theorem dX6_tell_145 : decode cX6_tell 145 = .ok (.ireturn, 1) := by decide +kernel
theorem dX6_tellBookings_0 : decode cX6_tellBookings 0 = .ok (.aload_n 0, 1) := by decide +kernel
theorem dX6_tellBookings_1 : decode cX6_tellBookings 1 = .ok (.getfield 42, 3) := by decide +kernel
theorem dX6_tellBookings_4 : decode cX6_tellBookings 4 = .ok (.iconst 0, 1) := by decide +kernel
theorem dX6_tellBookings_5 : decode cX6_tellBookings 5 = .ok (.invokevirtual 232, 3) := by decide +kernel
theorem dX6_tellBookings_8 : decode cX6_tellBookings 8 = .ok (.iconst 0, 1) := by decide +kernel
theorem dX6_tellBookings_9 : decode cX6_tellBookings 9 = .ok (.istore_n 1, 1) := by decide +kernel
theorem dX6_tellBookings_10 : decode cX6_tellBookings 10 = .ok (.iload_n 1, 1) := by decide +kernel
theorem dX6_tellBookings_11 : decode cX6_tellBookings 11 = .ok (.aload_n 0, 1) := by decide +kernel
theorem dX6_tellBookings_12 : decode cX6_tellBookings 12 = .ok (.getfield 10, 3) := by decide +kernel
theorem dX6_tellBookings_15 : decode cX6_tellBookings 15 = .ok (.getfield 107, 3) := by decide +kernel
theorem dX6_tellBookings_18 : decode cX6_tellBookings 18 = .ok (.getfield 187, 3) := by decide +kernel
theorem dX6_tellBookings_21 : decode cX6_tellBookings 21 = .ok (.if_icmp .ge 97, 3) := by decide +kernel
theorem dX6_tellBookings_24 : decode cX6_tellBookings 24 = .ok (.iload_n 1, 1) := by decide +kernel
theorem dX6_tellBookings_25 : decode cX6_tellBookings 25 = .ok (.ifCond .le 13, 3) := by decide +kernel
theorem dX6_tellBookings_28 : decode cX6_tellBookings 28 = .ok (.aload_n 0, 1) := by decide +kernel
theorem dX6_tellBookings_29 : decode cX6_tellBookings 29 = .ok (.getfield 42, 3) := by decide +kernel
theorem dX6_tellBookings_32 : decode cX6_tellBookings 32 = .ok (.bipush 32, 2) := by decide +kernel
theorem dX6_tellBookings_34 : decode cX6_tellBookings 34 = .ok (.invokevirtual 224, 3) := by decide +kernel
theorem dX6_tellBookings_37 : decode cX6_tellBookings 37 = .ok (.pop, 1) := by decide +kernel
theorem dX6_tellBookings_38 : decode cX6_tellBookings 38 = .ok (.aload_n 0, 1) := by decide +kernel
theorem dX6_tellBookings_39 : decode cX6_tellBookings 39 = .ok (.getfield 42, 3) := by decide +kernel
theorem dX6_tellBookings_42 : decode cX6_tellBookings 42 = .ok (.aload_n 0, 1) := by decide +kernel
theorem dX6_tellBookings_43 : decode cX6_tellBookings 43 = .ok (.getfield 10, 3) := by decide +kernel
theorem dX6_tellBookings_46 : decode cX6_tellBookings 46 = .ok (.getfield 107, 3) := by decide +kernel
theorem dX6_tellBookings_49 : decode cX6_tellBookings 49 = .ok (.getfield 111, 3) := by decide +kernel
theorem dX6_tellBookings_52 : decode cX6_tellBookings 52 = .ok (.iload_n 1, 1) := by decide +kernel
theorem dX6_tellBookings_53 : decode cX6_tellBookings 53 = .ok (.iaload, 1) := by decide +kernel
theorem dX6_tellBookings_54 : decode cX6_tellBookings 54 = .ok (.invokevirtual 246, 3) := by decide +kernel
theorem dX6_tellBookings_57 : decode cX6_tellBookings 57 = .ok (.pop, 1) := by decide +kernel
theorem dX6_tellBookings_58 : decode cX6_tellBookings 58 = .ok (.aload_n 0, 1) := by decide +kernel
theorem dX6_tellBookings_59 : decode cX6_tellBookings 59 = .ok (.bipush 58, 2) := by decide +kernel
theorem dX6_tellBookings_61 : decode cX6_tellBookings 61 = .ok (.aload_n 0, 1) := by decide +kernel
theorem dX6_tellBookings_62 : decode cX6_tellBookings 62 = .ok (.getfield 10, 3) := by decide +kernel
theorem dX6_tellBookings_65 : decode cX6_tellBookings 65 = .ok (.getfield 107, 3) := by decide +kernel
theorem dX6_tellBookings_68 : decode cX6_tellBookings 68 = .ok (.getfield 151, 3) := by decide +kernel
theorem dX6_tellBookings_71 : decode cX6_tellBookings 71 = .ok (.iload_n 1, 1) := by decide +kernel
theorem dX6_tellBookings_72 : decode cX6_tellBookings 72 = .ok (.iaload, 1) := by decide +kernel
theorem dX6_tellBookings_73 : decode cX6_tellBookings 73 = .ok (.invokevirtual 249, 3) := by decide +kernel
theorem dX6_tellBookings_76 : decode cX6_tellBookings 76 = .ok (.aload_n 0, 1) := by decide +kernel
theorem dX6_tellBookings_77 : decode cX6_tellBookings 77 = .ok (.bipush 64, 2) := by decide +kernel
theorem dX6_tellBookings_79 : decode cX6_tellBookings 79 = .ok (.aload_n 0, 1) := by decide +kernel
theorem dX6_tellBookings_80 : decode cX6_tellBookings 80 = .ok (.getfield 10, 3) := by decide +kernel
theorem dX6_tellBookings_83 : decode cX6_tellBookings 83 = .ok (.getfield 107, 3) := by decide +kernel
theorem dX6_tellBookings_86 : decode cX6_tellBookings 86 = .ok (.getfield 170, 3) := by decide +kernel
theorem dX6_tellBookings_89 : decode cX6_tellBookings 89 = .ok (.iload_n 1, 1) := by decide +kernel
theorem dX6_tellBookings_90 : decode cX6_tellBookings 90 = .ok (.iaload, 1) := by decide +kernel
theorem dX6_tellBookings_91 : decode cX6_tellBookings 91 = .ok (.invokevirtual 249, 3) := by decide +kernel
theorem dX6_tellBookings_94 : decode cX6_tellBookings 94 = .ok (.aload_n 0, 1) := by decide +kernel
theorem dX6_tellBookings_95 : decode cX6_tellBookings 95 = .ok (.bipush 61, 2) := by decide +kernel
theorem dX6_tellBookings_97 : decode cX6_tellBookings 97 = .ok (.aload_n 0, 1) := by decide +kernel
theorem dX6_tellBookings_98 : decode cX6_tellBookings 98 = .ok (.getfield 10, 3) := by decide +kernel
theorem dX6_tellBookings_101 : decode cX6_tellBookings 101 = .ok (.getfield 107, 3) := by decide +kernel
theorem dX6_tellBookings_104 : decode cX6_tellBookings 104 = .ok (.getfield 190, 3) := by decide +kernel
theorem dX6_tellBookings_107 : decode cX6_tellBookings 107 = .ok (.iload_n 1, 1) := by decide +kernel
theorem dX6_tellBookings_108 : decode cX6_tellBookings 108 = .ok (.iaload, 1) := by decide +kernel
theorem dX6_tellBookings_109 : decode cX6_tellBookings 109 = .ok (.invokevirtual 249, 3) := by decide +kernel
theorem dX6_tellBookings_112 : decode cX6_tellBookings 112 = .ok (.iinc 1 1, 3) := by decide +kernel
theorem dX6_tellBookings_115 : decode cX6_tellBookings 115 = .ok (.goto (-105), 3) := by decide +kernel
theorem dX6_tellBookings_118 : decode cX6_tellBookings 118 = .ok (.aload_n 0, 1) := by decide +kernel
theorem dX6_tellBookings_119 : decode cX6_tellBookings 119 = .ok (.getfield 42, 3) := by decide +kernel
theorem dX6_tellBookings_122 : decode cX6_tellBookings 122 = .ok (.invokevirtual 221, 3) := by decide +kernel
theorem dX6_tellBookings_125 : decode cX6_tellBookings 125 = .ok (.ireturn, 1) := by decide +kernel
theorem dX6_character_0 : decode cX6_character 0 = .ok (.iload_n 1, 1) := by decide +kernel
theorem dX6_character_1 : decode cX6_character 1 = .ok (.ifCond .lt 14, 3) := by decide +kernel
theorem dX6_character_4 : decode cX6_character 4 = .ok (.iload_n 1, 1) := by decide +kernel
theorem dX6_character_5 : decode cX6_character 5 = .ok (.aload_n 0, 1) := by decide +kernel
theorem dX6_character_6 : decode cX6_character 6 = .ok (.getfield 42, 3) := by decide +kernel
theorem dX6_character_9 : decode cX6_character 9 = .ok (.invokevirtual 221, 3) := by decide +kernel
theorem dX6_character_12 : decode cX6_character 12 = .ok (.if_icmp .lt 7, 3) := by decide +kernel
theorem dX6_character_15 : decode cX6_character 15 = .ok (.sipush (-1011), 3) := by decide +kernel
theorem dX6_character_18 : decode cX6_character 18 = .ok (.ireturn, 1) := by decide +kernel
theorem dX6_character_19 : decode cX6_character 19 = .ok (.aload_n 0, 1) := by decide +kernel
theorem dX6_character_20 : decode cX6_character 20 = .ok (.getfield 42, 3) := by decide +kernel
theorem dX6_character_23 : decode cX6_character 23 = .ok (.iload_n 1, 1) := by decide +kernel
theorem dX6_character_24 : decode cX6_character 24 = .ok (.invokevirtual 253, 3) := by decide +kernel
theorem dX6_character_27 : decode cX6_character 27 = .ok (.ireturn, 1) := by decide +kernel
theorem dX6_reason_0 : decode cX6_reason 0 = .ok (.iload_n 1, 1) := by decide +kernel
theorem dX6_reason_1 : decode cX6_reason 1 = .ok (.ifCond .eq 10, 3) := by decide +kernel
theorem dX6_reason_4 : decode cX6_reason 4 = .ok (.aload_n 0, 1) := by decide +kernel
theorem dX6_reason_5 : decode cX6_reason 5 = .ok (.getfield 54, 3) := by decide +kernel
theorem dX6_reason_8 : decode cX6_reason 8 = .ok (.goto 7, 3) := by decide +kernel
theorem dX6_reason_11 : decode cX6_reason 11 = .ok (.aload_n 0, 1) := by decide +kernel
theorem dX6_reason_12 : decode cX6_reason 12 = .ok (.getfield 50, 3) := by decide +kernel
theorem dX6_reason_15 : decode cX6_reason 15 = .ok (.ireturn, 1) := by decide +kernel
theorem dX6_account_0 : decode cX6_account 0 = .ok (.iload_n 1, 1) := by decide +kernel
theorem dX6_account_1 : decode cX6_account 1 = .ok (.tableswitch 228 0 14 #[75, 86, 97, 108, 116, 130, 138, 149, 157, 165, 179, 187, 201, 209, 220], 75) := by decide +kernel
theorem dX6_account_76 : decode cX6_account 76 = .ok (.aload_n 0, 1) := by decide +kernel
theorem dX6_account_77 : decode cX6_account 77 = .ok (.getfield 10, 3) := by decide +kernel
theorem dX6_account_80 : decode cX6_account 80 = .ok (.getfield 81, 3) := by decide +kernel
theorem dX6_account_83 : decode cX6_account 83 = .ok (.getfield 257, 3) := by decide +kernel
theorem dX6_account_86 : decode cX6_account 86 = .ok (.ireturn, 1) := by decide +kernel
theorem dX6_account_87 : decode cX6_account 87 = .ok (.aload_n 0, 1) := by decide +kernel
theorem dX6_account_88 : decode cX6_account 88 = .ok (.getfield 10, 3) := by decide +kernel
theorem dX6_account_91 : decode cX6_account 91 = .ok (.getfield 126, 3) := by decide +kernel
theorem dX6_account_94 : decode cX6_account 94 = .ok (.getfield 258, 3) := by decide +kernel
theorem dX6_account_97 : decode cX6_account 97 = .ok (.ireturn, 1) := by decide +kernel
theorem dX6_account_98 : decode cX6_account 98 = .ok (.aload_n 0, 1) := by decide +kernel
theorem dX6_account_99 : decode cX6_account 99 = .ok (.getfield 10, 3) := by decide +kernel
theorem dX6_account_102 : decode cX6_account 102 = .ok (.getfield 107, 3) := by decide +kernel
theorem dX6_account_105 : decode cX6_account 105 = .ok (.getfield 187, 3) := by decide +kernel
theorem dX6_account_108 : decode cX6_account 108 = .ok (.ireturn, 1) := by decide +kernel
theorem dX6_account_109 : decode cX6_account 109 = .ok (.aload_n 0, 1) := by decide +kernel
theorem dX6_account_110 : decode cX6_account 110 = .ok (.getfield 10, 3) := by decide +kernel
theorem dX6_account_113 : decode cX6_account 113 = .ok (.getfield 145, 3) := by decide +kernel
theorem dX6_account_116 : decode cX6_account 116 = .ok (.ireturn, 1) := by decide +kernel
theorem dX6_account_117 : decode cX6_account 117 = .ok (.aload_n 0, 1) := by decide +kernel
theorem dX6_account_118 : decode cX6_account 118 = .ok (.getfield 10, 3) := by decide +kernel
theorem dX6_account_121 : decode cX6_account 121 = .ok (.getfield 81, 3) := by decide +kernel
theorem dX6_account_124 : decode cX6_account 124 = .ok (.getfield 95, 3) := by decide +kernel
theorem dX6_account_127 : decode cX6_account 127 = .ok (.invokestatic 210, 3) := by decide +kernel
theorem dX6_account_130 : decode cX6_account 130 = .ok (.ireturn, 1) := by decide +kernel
theorem dX6_account_131 : decode cX6_account 131 = .ok (.aload_n 0, 1) := by decide +kernel
theorem dX6_account_132 : decode cX6_account 132 = .ok (.getfield 10, 3) := by decide +kernel
theorem dX6_account_135 : decode cX6_account 135 = .ok (.getfield 259, 3) := by decide +kernel
theorem dX6_account_138 : decode cX6_account 138 = .ok (.ireturn, 1) := by decide +kernel
theorem dX6_account_139 : decode cX6_account 139 = .ok (.aload_n 0, 1) := by decide +kernel
theorem dX6_account_140 : decode cX6_account 140 = .ok (.getfield 10, 3) := by decide +kernel
theorem dX6_account_143 : decode cX6_account 143 = .ok (.getfield 167, 3) := by decide +kernel
theorem dX6_account_146 : decode cX6_account 146 = .ok (.invokestatic 210, 3) := by decide +kernel
theorem dX6_account_149 : decode cX6_account 149 = .ok (.ireturn, 1) := by decide +kernel
theorem dX6_account_150 : decode cX6_account 150 = .ok (.aload_n 0, 1) := by decide +kernel
theorem dX6_account_151 : decode cX6_account 151 = .ok (.getfield 10, 3) := by decide +kernel
theorem dX6_account_154 : decode cX6_account 154 = .ok (.getfield 262, 3) := by decide +kernel
theorem dX6_account_157 : decode cX6_account 157 = .ok (.ireturn, 1) := by decide +kernel
theorem dX6_account_158 : decode cX6_account 158 = .ok (.aload_n 0, 1) := by decide +kernel
theorem dX6_account_159 : decode cX6_account 159 = .ok (.getfield 10, 3) := by decide +kernel
theorem dX6_account_162 : decode cX6_account 162 = .ok (.getfield 265, 3) := by decide +kernel
theorem dX6_account_165 : decode cX6_account 165 = .ok (.ireturn, 1) := by decide +kernel
theorem dX6_account_166 : decode cX6_account 166 = .ok (.aload_n 0, 1) := by decide +kernel
theorem dX6_account_167 : decode cX6_account 167 = .ok (.getfield 10, 3) := by decide +kernel
theorem dX6_account_170 : decode cX6_account 170 = .ok (.getfield 81, 3) := by decide +kernel
theorem dX6_account_173 : decode cX6_account 173 = .ok (.getfield 98, 3) := by decide +kernel
theorem dX6_account_176 : decode cX6_account 176 = .ok (.invokestatic 210, 3) := by decide +kernel
theorem dX6_account_179 : decode cX6_account 179 = .ok (.ireturn, 1) := by decide +kernel
theorem dX6_account_180 : decode cX6_account 180 = .ok (.aload_n 0, 1) := by decide +kernel
theorem dX6_account_181 : decode cX6_account 181 = .ok (.getfield 10, 3) := by decide +kernel
theorem dX6_account_184 : decode cX6_account 184 = .ok (.getfield 268, 3) := by decide +kernel
theorem dX6_account_187 : decode cX6_account 187 = .ok (.ireturn, 1) := by decide +kernel
theorem dX6_account_188 : decode cX6_account 188 = .ok (.aload_n 0, 1) := by decide +kernel
theorem dX6_account_189 : decode cX6_account 189 = .ok (.getfield 10, 3) := by decide +kernel
theorem dX6_account_192 : decode cX6_account 192 = .ok (.getfield 81, 3) := by decide +kernel
theorem dX6_account_195 : decode cX6_account 195 = .ok (.getfield 123, 3) := by decide +kernel
theorem dX6_account_198 : decode cX6_account 198 = .ok (.invokestatic 210, 3) := by decide +kernel
theorem dX6_account_201 : decode cX6_account 201 = .ok (.ireturn, 1) := by decide +kernel
theorem dX6_account_202 : decode cX6_account 202 = .ok (.aload_n 0, 1) := by decide +kernel
theorem dX6_account_203 : decode cX6_account 203 = .ok (.getfield 10, 3) := by decide +kernel
theorem dX6_account_206 : decode cX6_account 206 = .ok (.invokevirtual 271, 3) := by decide +kernel
theorem dX6_account_209 : decode cX6_account 209 = .ok (.ireturn, 1) := by decide +kernel
theorem dX6_account_210 : decode cX6_account 210 = .ok (.aload_n 0, 1) := by decide +kernel
theorem dX6_account_211 : decode cX6_account 211 = .ok (.getfield 35, 3) := by decide +kernel
theorem dX6_account_214 : decode cX6_account 214 = .ok (.getfield 218, 3) := by decide +kernel
theorem dX6_account_217 : decode cX6_account 217 = .ok (.invokevirtual 221, 3) := by decide +kernel
theorem dX6_account_220 : decode cX6_account 220 = .ok (.ireturn, 1) := by decide +kernel
theorem dX6_account_221 : decode cX6_account 221 = .ok (.aload_n 0, 1) := by decide +kernel
theorem dX6_account_222 : decode cX6_account 222 = .ok (.getfield 28, 3) := by decide +kernel
theorem dX6_account_225 : decode cX6_account 225 = .ok (.getfield 274, 3) := by decide +kernel
theorem dX6_account_228 : decode cX6_account 228 = .ok (.ireturn, 1) := by decide +kernel
theorem dX6_account_229 : decode cX6_account 229 = .ok (.sipush (-1012), 3) := by decide +kernel
theorem dX6_account_232 : decode cX6_account 232 = .ok (.ireturn, 1) := by decide +kernel
theorem dX6_isBalanced_0 : decode cX6_isBalanced 0 = .ok (.aload_n 0, 1) := by decide +kernel
theorem dX6_isBalanced_1 : decode cX6_isBalanced 1 = .ok (.invokevirtual 275, 3) := by decide +kernel
theorem dX6_isBalanced_4 : decode cX6_isBalanced 4 = .ok (.ifCond .eq 38, 3) := by decide +kernel
theorem dX6_isBalanced_7 : decode cX6_isBalanced 7 = .ok (.aload_n 0, 1) := by decide +kernel
theorem dX6_isBalanced_8 : decode cX6_isBalanced 8 = .ok (.invokevirtual 278, 3) := by decide +kernel
theorem dX6_isBalanced_11 : decode cX6_isBalanced 11 = .ok (.ifCond .eq 31, 3) := by decide +kernel
theorem dX6_isBalanced_14 : decode cX6_isBalanced 14 = .ok (.aload_n 0, 1) := by decide +kernel
theorem dX6_isBalanced_15 : decode cX6_isBalanced 15 = .ok (.invokevirtual 281, 3) := by decide +kernel
theorem dX6_isBalanced_18 : decode cX6_isBalanced 18 = .ok (.ifCond .eq 24, 3) := by decide +kernel
theorem dX6_isBalanced_21 : decode cX6_isBalanced 21 = .ok (.aload_n 0, 1) := by decide +kernel
theorem dX6_isBalanced_22 : decode cX6_isBalanced 22 = .ok (.getfield 10, 3) := by decide +kernel
theorem dX6_isBalanced_25 : decode cX6_isBalanced 25 = .ok (.invokevirtual 201, 3) := by decide +kernel
theorem dX6_isBalanced_28 : decode cX6_isBalanced 28 = .ok (.aload_n 0, 1) := by decide +kernel
theorem dX6_isBalanced_29 : decode cX6_isBalanced 29 = .ok (.getfield 10, 3) := by decide +kernel
theorem dX6_isBalanced_32 : decode cX6_isBalanced 32 = .ok (.invokevirtual 204, 3) := by decide +kernel
theorem dX6_isBalanced_35 : decode cX6_isBalanced 35 = .ok (.if_icmp .ne 7, 3) := by decide +kernel
theorem dX6_isBalanced_38 : decode cX6_isBalanced 38 = .ok (.iconst 1, 1) := by decide +kernel
theorem dX6_isBalanced_39 : decode cX6_isBalanced 39 = .ok (.goto 4, 3) := by decide +kernel
theorem dX6_isBalanced_42 : decode cX6_isBalanced 42 = .ok (.iconst 0, 1) := by decide +kernel
theorem dX6_isBalanced_43 : decode cX6_isBalanced 43 = .ok (.istore_n 1, 1) := by decide +kernel
theorem dX6_isBalanced_44 : decode cX6_isBalanced 44 = .ok (.iload_n 1, 1) := by decide +kernel
theorem dX6_isBalanced_45 : decode cX6_isBalanced 45 = .ok (.ifCond .eq 7, 3) := by decide +kernel
theorem dX6_isBalanced_48 : decode cX6_isBalanced 48 = .ok (.iconst 1, 1) := by decide +kernel
theorem dX6_isBalanced_49 : decode cX6_isBalanced 49 = .ok (.goto 4, 3) := by decide +kernel
theorem dX6_isBalanced_52 : decode cX6_isBalanced 52 = .ok (.iconst 0, 1) := by decide +kernel
theorem dX6_isBalanced_53 : decode cX6_isBalanced 53 = .ok (.ireturn, 1) := by decide +kernel
theorem dX6_meanWit_0 : decode cX6_meanWit 0 = .ok (.aload_n 0, 1) := by decide +kernel
theorem dX6_meanWit_1 : decode cX6_meanWit 1 = .ok (.getfield 10, 3) := by decide +kernel
theorem dX6_meanWit_4 : decode cX6_meanWit 4 = .ok (.getfield 126, 3) := by decide +kernel
theorem dX6_meanWit_7 : decode cX6_meanWit 7 = .ok (.getfield 258, 3) := by decide +kernel
theorem dX6_meanWit_10 : decode cX6_meanWit 10 = .ok (.ifCond .ne 5, 3) := by decide +kernel
theorem dX6_meanWit_13 : decode cX6_meanWit 13 = .ok (.dconst 0, 1) := by decide +kernel
theorem dX6_meanWit_14 : decode cX6_meanWit 14 = .ok (.dreturn, 1) := by decide +kernel
theorem dX6_meanWit_15 : decode cX6_meanWit 15 = .ok (.aload_n 0, 1) := by decide +kernel
theorem dX6_meanWit_16 : decode cX6_meanWit 16 = .ok (.getfield 10, 3) := by decide +kernel
theorem dX6_meanWit_19 : decode cX6_meanWit 19 = .ok (.getfield 126, 3) := by decide +kernel
theorem dX6_meanWit_22 : decode cX6_meanWit 22 = .ok (.getfield 133, 3) := by decide +kernel
theorem dX6_meanWit_25 : decode cX6_meanWit 25 = .ok (.invokestatic 210, 3) := by decide +kernel
theorem dX6_meanWit_28 : decode cX6_meanWit 28 = .ok (.i2d, 1) := by decide +kernel
theorem dX6_meanWit_29 : decode cX6_meanWit 29 = .ok (.aload_n 0, 1) := by decide +kernel
theorem dX6_meanWit_30 : decode cX6_meanWit 30 = .ok (.getfield 10, 3) := by decide +kernel
theorem dX6_meanWit_33 : decode cX6_meanWit 33 = .ok (.getfield 126, 3) := by decide +kernel
theorem dX6_meanWit_36 : decode cX6_meanWit 36 = .ok (.getfield 258, 3) := by decide +kernel
theorem dX6_meanWit_39 : decode cX6_meanWit 39 = .ok (.i2d, 1) := by decide +kernel
theorem dX6_meanWit_40 : decode cX6_meanWit 40 = .ok (.ddiv, 1) := by decide +kernel
theorem dX6_meanWit_41 : decode cX6_meanWit 41 = .ok (.dreturn, 1) := by decide +kernel
theorem dX6_slipShare_0 : decode cX6_slipShare 0 = .ok (.aload_n 0, 1) := by decide +kernel
theorem dX6_slipShare_1 : decode cX6_slipShare 1 = .ok (.getfield 10, 3) := by decide +kernel
theorem dX6_slipShare_4 : decode cX6_slipShare 4 = .ok (.getfield 81, 3) := by decide +kernel
theorem dX6_slipShare_7 : decode cX6_slipShare 7 = .ok (.getfield 120, 3) := by decide +kernel
theorem dX6_slipShare_10 : decode cX6_slipShare 10 = .ok (.invokestatic 210, 3) := by decide +kernel
theorem dX6_slipShare_13 : decode cX6_slipShare 13 = .ok (.istore_n 1, 1) := by decide +kernel
theorem dX6_slipShare_14 : decode cX6_slipShare 14 = .ok (.iload_n 1, 1) := by decide +kernel
theorem dX6_slipShare_15 : decode cX6_slipShare 15 = .ok (.ifCond .ne 5, 3) := by decide +kernel
theorem dX6_slipShare_18 : decode cX6_slipShare 18 = .ok (.fconst 0, 1) := by decide +kernel
theorem dX6_slipShare_19 : decode cX6_slipShare 19 = .ok (.freturn, 1) := by decide +kernel
theorem dX6_slipShare_20 : decode cX6_slipShare 20 = .ok (.aload_n 0, 1) := by decide +kernel
theorem dX6_slipShare_21 : decode cX6_slipShare 21 = .ok (.getfield 10, 3) := by decide +kernel
theorem dX6_slipShare_24 : decode cX6_slipShare 24 = .ok (.getfield 81, 3) := by decide +kernel
theorem dX6_slipShare_27 : decode cX6_slipShare 27 = .ok (.getfield 123, 3) := by decide +kernel
theorem dX6_slipShare_30 : decode cX6_slipShare 30 = .ok (.invokestatic 210, 3) := by decide +kernel
theorem dX6_slipShare_33 : decode cX6_slipShare 33 = .ok (.i2f, 1) := by decide +kernel
theorem dX6_slipShare_34 : decode cX6_slipShare 34 = .ok (.iload_n 1, 1) := by decide +kernel
theorem dX6_slipShare_35 : decode cX6_slipShare 35 = .ok (.i2f, 1) := by decide +kernel
theorem dX6_slipShare_36 : decode cX6_slipShare 36 = .ok (.fdiv, 1) := by decide +kernel
theorem dX6_slipShare_37 : decode cX6_slipShare 37 = .ok (.freturn, 1) := by decide +kernel
theorem dX6_undo_0 : decode cX6_undo 0 = .ok (.aload_n 0, 1) := by decide +kernel
theorem dX6_undo_1 : decode cX6_undo 1 = .ok (.getfield 28, 3) := by decide +kernel
theorem dX6_undo_4 : decode cX6_undo 4 = .ok (.getfield 274, 3) := by decide +kernel
theorem dX6_undo_7 : decode cX6_undo 7 = .ok (.ifCond .ne 7, 3) := by decide +kernel
theorem dX6_undo_10 : decode cX6_undo 10 = .ok (.sipush (-1015), 3) := by decide +kernel
theorem dX6_undo_13 : decode cX6_undo 13 = .ok (.ireturn, 1) := by decide +kernel
theorem dX6_undo_14 : decode cX6_undo 14 = .ok (.aload_n 0, 1) := by decide +kernel
theorem dX6_undo_15 : decode cX6_undo 15 = .ok (.getfield 28, 3) := by decide +kernel
theorem dX6_undo_18 : decode cX6_undo 18 = .ok (.aload_n 0, 1) := by decide +kernel
theorem dX6_undo_19 : decode cX6_undo 19 = .ok (.getfield 10, 3) := by decide +kernel
theorem dX6_undo_22 : decode cX6_undo 22 = .ok (.invokevirtual 284, 3) := by decide +kernel
theorem dX6_undo_25 : decode cX6_undo 25 = .ok (.aload_n 0, 1) := by decide +kernel
theorem dX6_undo_26 : decode cX6_undo 26 = .ok (.getfield 28, 3) := by decide +kernel
theorem dX6_undo_29 : decode cX6_undo 29 = .ok (.getfield 274, 3) := by decide +kernel
theorem dX6_undo_32 : decode cX6_undo 32 = .ok (.ireturn, 1) := by decide +kernel
theorem dX6_save_0 : decode cX6_save 0 = .ok (.aload_n 0, 1) := by decide +kernel
theorem dX6_save_1 : decode cX6_save 1 = .ok (.getfield 22, 3) := by decide +kernel
theorem dX6_save_4 : decode cX6_save 4 = .ok (.aload_n 0, 1) := by decide +kernel
theorem dX6_save_5 : decode cX6_save 5 = .ok (.getfield 10, 3) := by decide +kernel
theorem dX6_save_8 : decode cX6_save 8 = .ok (.invokevirtual 57, 3) := by decide +kernel
theorem dX6_save_11 : decode cX6_save 11 = .ok (.aload_n 0, 1) := by decide +kernel
theorem dX6_save_12 : decode cX6_save 12 = .ok (.iconst 1, 1) := by decide +kernel
theorem dX6_save_13 : decode cX6_save 13 = .ok (.putfield 46, 3) := by decide +kernel
theorem dX6_save_16 : decode cX6_save 16 = .ok (.aload_n 0, 1) := by decide +kernel
theorem dX6_save_17 : decode cX6_save 17 = .ok (.getfield 10, 3) := by decide +kernel
theorem dX6_save_20 : decode cX6_save 20 = .ok (.getfield 81, 3) := by decide +kernel
theorem dX6_save_23 : decode cX6_save 23 = .ok (.getfield 257, 3) := by decide +kernel
theorem dX6_save_26 : decode cX6_save 26 = .ok (.ireturn, 1) := by decide +kernel
theorem dX6_restore_0 : decode cX6_restore 0 = .ok (.aload_n 0, 1) := by decide +kernel
theorem dX6_restore_1 : decode cX6_restore 1 = .ok (.getfield 46, 3) := by decide +kernel
theorem dX6_restore_4 : decode cX6_restore 4 = .ok (.ifCond .ne 7, 3) := by decide +kernel
theorem dX6_restore_7 : decode cX6_restore 7 = .ok (.sipush (-1015), 3) := by decide +kernel
theorem dX6_restore_10 : decode cX6_restore 10 = .ok (.ireturn, 1) := by decide +kernel
theorem dX6_restore_11 : decode cX6_restore 11 = .ok (.aload_n 0, 1) := by decide +kernel
theorem dX6_restore_12 : decode cX6_restore 12 = .ok (.getfield 10, 3) := by decide +kernel
theorem dX6_restore_15 : decode cX6_restore 15 = .ok (.aload_n 0, 1) := by decide +kernel
theorem dX6_restore_16 : decode cX6_restore 16 = .ok (.getfield 22, 3) := by decide +kernel
theorem dX6_restore_19 : decode cX6_restore 19 = .ok (.invokevirtual 57, 3) := by decide +kernel
theorem dX6_restore_22 : decode cX6_restore 22 = .ok (.aload_n 0, 1) := by decide +kernel
theorem dX6_restore_23 : decode cX6_restore 23 = .ok (.getfield 28, 3) := by decide +kernel
theorem dX6_restore_26 : decode cX6_restore 26 = .ok (.invokevirtual 287, 3) := by decide +kernel
theorem dX6_restore_29 : decode cX6_restore 29 = .ok (.aload_n 0, 1) := by decide +kernel
theorem dX6_restore_30 : decode cX6_restore 30 = .ok (.getfield 10, 3) := by decide +kernel
theorem dX6_restore_33 : decode cX6_restore 33 = .ok (.getfield 81, 3) := by decide +kernel
theorem dX6_restore_36 : decode cX6_restore 36 = .ok (.getfield 257, 3) := by decide +kernel
theorem dX6_restore_39 : decode cX6_restore 39 = .ok (.ireturn, 1) := by decide +kernel
theorem dX6_admit_0 : decode cX6_admit 0 = .ok (.iload_n 1, 1) := by decide +kernel
theorem dX6_admit_1 : decode cX6_admit 1 = .ok (.iconst 1, 1) := by decide +kernel
theorem dX6_admit_2 : decode cX6_admit 2 = .ok (.if_icmp .lt 9, 3) := by decide +kernel
theorem dX6_admit_5 : decode cX6_admit 5 = .ok (.iload_n 1, 1) := by decide +kernel
theorem dX6_admit_6 : decode cX6_admit 6 = .ok (.bipush 9, 2) := by decide +kernel
theorem dX6_admit_8 : decode cX6_admit 8 = .ok (.if_icmp .le 7, 3) := by decide +kernel
theorem dX6_admit_11 : decode cX6_admit 11 = .ok (.sipush (-1012), 3) := by decide +kernel
theorem dX6_admit_14 : decode cX6_admit 14 = .ok (.ireturn, 1) := by decide +kernel
theorem dX6_admit_15 : decode cX6_admit 15 = .ok (.aload_n 0, 1) := by decide +kernel
theorem dX6_admit_16 : decode cX6_admit 16 = .ok (.getfield 10, 3) := by decide +kernel
theorem dX6_admit_19 : decode cX6_admit 19 = .ok (.getfield 81, 3) := by decide +kernel
theorem dX6_admit_22 : decode cX6_admit 22 = .ok (.getfield 257, 3) := by decide +kernel
theorem dX6_admit_25 : decode cX6_admit 25 = .ok (.bipush 6, 2) := by decide +kernel
theorem dX6_admit_27 : decode cX6_admit 27 = .ok (.if_icmp .lt 11, 3) := by decide +kernel
theorem dX6_admit_30 : decode cX6_admit 30 = .ok (.aload_n 0, 1) := by decide +kernel
theorem dX6_admit_31 : decode cX6_admit 31 = .ok (.iconst 1, 1) := by decide +kernel
theorem dX6_admit_32 : decode cX6_admit 32 = .ok (.bipush 6, 2) := by decide +kernel
theorem dX6_admit_34 : decode cX6_admit 34 = .ok (.invokevirtual 243, 3) := by decide +kernel
theorem dX6_admit_37 : decode cX6_admit 37 = .ok (.ireturn, 1) := by decide +kernel
theorem dX6_admit_38 : decode cX6_admit 38 = .ok (.aload_n 0, 1) := by decide +kernel
theorem dX6_admit_39 : decode cX6_admit 39 = .ok (.getfield 10, 3) := by decide +kernel
theorem dX6_admit_42 : decode cX6_admit 42 = .ok (.dup, 1) := by decide +kernel
theorem dX6_admit_43 : decode cX6_admit 43 = .ok (.getfield 259, 3) := by decide +kernel
theorem dX6_admit_46 : decode cX6_admit 46 = .ok (.bipush 10, 2) := by decide +kernel
theorem dX6_admit_48 : decode cX6_admit 48 = .ok (.iadd, 1) := by decide +kernel
theorem dX6_admit_49 : decode cX6_admit 49 = .ok (.putfield 259, 3) := by decide +kernel
theorem dX6_admit_52 : decode cX6_admit 52 = .ok (.aload_n 0, 1) := by decide +kernel
theorem dX6_admit_53 : decode cX6_admit 53 = .ok (.getfield 10, 3) := by decide +kernel
theorem dX6_admit_56 : decode cX6_admit 56 = .ok (.getfield 81, 3) := by decide +kernel
theorem dX6_admit_59 : decode cX6_admit 59 = .ok (.iload_n 1, 1) := by decide +kernel
theorem dX6_admit_60 : decode cX6_admit 60 = .ok (.invokevirtual 290, 3) := by decide +kernel
theorem dX6_admit_63 : decode cX6_admit 63 = .ok (.ireturn, 1) := by decide +kernel
theorem dX6_invent_0 : decode cX6_invent 0 = .ok (.iload_n 1, 1) := by decide +kernel
theorem dX6_invent_1 : decode cX6_invent 1 = .ok (.iconst 1, 1) := by decide +kernel
theorem dX6_invent_2 : decode cX6_invent 2 = .ok (.if_icmp .lt 9, 3) := by decide +kernel
theorem dX6_invent_5 : decode cX6_invent 5 = .ok (.iload_n 1, 1) := by decide +kernel
theorem dX6_invent_6 : decode cX6_invent 6 = .ok (.bipush 9, 2) := by decide +kernel
theorem dX6_invent_8 : decode cX6_invent 8 = .ok (.if_icmp .le 7, 3) := by decide +kernel
theorem dX6_invent_11 : decode cX6_invent 11 = .ok (.sipush (-1012), 3) := by decide +kernel
theorem dX6_invent_14 : decode cX6_invent 14 = .ok (.ireturn, 1) := by decide +kernel
theorem dX6_invent_15 : decode cX6_invent 15 = .ok (.aload_n 0, 1) := by decide +kernel
theorem dX6_invent_16 : decode cX6_invent 16 = .ok (.getfield 10, 3) := by decide +kernel
theorem dX6_invent_19 : decode cX6_invent 19 = .ok (.getfield 126, 3) := by decide +kernel
theorem dX6_invent_22 : decode cX6_invent 22 = .ok (.getfield 258, 3) := by decide +kernel
theorem dX6_invent_25 : decode cX6_invent 25 = .ok (.bipush 12, 2) := by decide +kernel
theorem dX6_invent_27 : decode cX6_invent 27 = .ok (.if_icmp .lt 11, 3) := by decide +kernel
theorem dX6_invent_30 : decode cX6_invent 30 = .ok (.aload_n 0, 1) := by decide +kernel
theorem dX6_invent_31 : decode cX6_invent 31 = .ok (.iconst 1, 1) := by decide +kernel
theorem dX6_invent_32 : decode cX6_invent 32 = .ok (.bipush 12, 2) := by decide +kernel
theorem dX6_invent_34 : decode cX6_invent 34 = .ok (.invokevirtual 243, 3) := by decide +kernel
theorem dX6_invent_37 : decode cX6_invent 37 = .ok (.ireturn, 1) := by decide +kernel
theorem dX6_invent_38 : decode cX6_invent 38 = .ok (.aload_n 0, 1) := by decide +kernel
theorem dX6_invent_39 : decode cX6_invent 39 = .ok (.getfield 10, 3) := by decide +kernel
theorem dX6_invent_42 : decode cX6_invent 42 = .ok (.getfield 126, 3) := by decide +kernel
theorem dX6_invent_45 : decode cX6_invent 45 = .ok (.iload_n 1, 1) := by decide +kernel
theorem dX6_invent_46 : decode cX6_invent 46 = .ok (.invokevirtual 293, 3) := by decide +kernel
theorem dX6_invent_49 : decode cX6_invent 49 = .ok (.ireturn, 1) := by decide +kernel
theorem dX6_grant_0 : decode cX6_grant 0 = .ok (.aload_n 0, 1) := by decide +kernel
theorem dX6_grant_1 : decode cX6_grant 1 = .ok (.getfield 10, 3) := by decide +kernel
theorem dX6_grant_4 : decode cX6_grant 4 = .ok (.getfield 81, 3) := by decide +kernel
theorem dX6_grant_7 : decode cX6_grant 7 = .ok (.iload_n 1, 1) := by decide +kernel
theorem dX6_grant_8 : decode cX6_grant 8 = .ok (.invokevirtual 85, 3) := by decide +kernel
theorem dX6_grant_11 : decode cX6_grant 11 = .ok (.ifCond .eq 17, 3) := by decide +kernel
theorem dX6_grant_14 : decode cX6_grant 14 = .ok (.aload_n 0, 1) := by decide +kernel
theorem dX6_grant_15 : decode cX6_grant 15 = .ok (.getfield 10, 3) := by decide +kernel
theorem dX6_grant_18 : decode cX6_grant 18 = .ok (.getfield 126, 3) := by decide +kernel
theorem dX6_grant_21 : decode cX6_grant 21 = .ok (.iload_n 2, 1) := by decide +kernel
theorem dX6_grant_22 : decode cX6_grant 22 = .ok (.invokevirtual 130, 3) := by decide +kernel
theorem dX6_grant_25 : decode cX6_grant 25 = .ok (.ifCond .ne 7, 3) := by decide +kernel
theorem dX6_grant_28 : decode cX6_grant 28 = .ok (.sipush (-1011), 3) := by decide +kernel
theorem dX6_grant_31 : decode cX6_grant 31 = .ok (.ireturn, 1) := by decide +kernel
theorem dX6_grant_32 : decode cX6_grant 32 = .ok (.iload_n 3, 1) := by decide +kernel
theorem dX6_grant_33 : decode cX6_grant 33 = .ok (.iconst 1, 1) := by decide +kernel
theorem dX6_grant_34 : decode cX6_grant 34 = .ok (.if_icmp .lt 9, 3) := by decide +kernel
theorem dX6_grant_37 : decode cX6_grant 37 = .ok (.iload_n 3, 1) := by decide +kernel
theorem dX6_grant_38 : decode cX6_grant 38 = .ok (.bipush 48, 2) := by decide +kernel
theorem dX6_grant_40 : decode cX6_grant 40 = .ok (.if_icmp .le 7, 3) := by decide +kernel
theorem dX6_grant_43 : decode cX6_grant 43 = .ok (.sipush (-1012), 3) := by decide +kernel
theorem dX6_grant_46 : decode cX6_grant 46 = .ok (.ireturn, 1) := by decide +kernel
theorem dX6_grant_47 : decode cX6_grant 47 = .ok (.aload_n 0, 1) := by decide +kernel
theorem dX6_grant_48 : decode cX6_grant 48 = .ok (.getfield 10, 3) := by decide +kernel
theorem dX6_grant_51 : decode cX6_grant 51 = .ok (.iload_n 2, 1) := by decide +kernel
theorem dX6_grant_52 : decode cX6_grant 52 = .ok (.invokevirtual 136, 3) := by decide +kernel
theorem dX6_grant_55 : decode cX6_grant 55 = .ok (.ifCond .eq 22, 3) := by decide +kernel
theorem dX6_grant_58 : decode cX6_grant 58 = .ok (.aload_n 0, 1) := by decide +kernel
theorem dX6_grant_59 : decode cX6_grant 59 = .ok (.bipush 6, 2) := by decide +kernel
theorem dX6_grant_61 : decode cX6_grant 61 = .ok (.aload_n 0, 1) := by decide +kernel
theorem dX6_grant_62 : decode cX6_grant 62 = .ok (.getfield 10, 3) := by decide +kernel
theorem dX6_grant_65 : decode cX6_grant 65 = .ok (.getfield 126, 3) := by decide +kernel
theorem dX6_grant_68 : decode cX6_grant 68 = .ok (.getfield 139, 3) := by decide +kernel
theorem dX6_grant_71 : decode cX6_grant 71 = .ok (.iload_n 2, 1) := by decide +kernel
theorem dX6_grant_72 : decode cX6_grant 72 = .ok (.iaload, 1) := by decide +kernel
theorem dX6_grant_73 : decode cX6_grant 73 = .ok (.invokevirtual 243, 3) := by decide +kernel
theorem dX6_grant_76 : decode cX6_grant 76 = .ok (.ireturn, 1) := by decide +kernel
theorem dX6_grant_77 : decode cX6_grant 77 = .ok (.iload_n 3, 1) := by decide +kernel
theorem dX6_grant_78 : decode cX6_grant 78 = .ok (.iconst 1, 1) := by decide +kernel
theorem dX6_grant_79 : decode cX6_grant 79 = .ok (.iadd, 1) := by decide +kernel
theorem dX6_grant_80 : decode cX6_grant 80 = .ok (.iconst 2, 1) := by decide +kernel
theorem dX6_grant_81 : decode cX6_grant 81 = .ok (.idiv, 1) := by decide +kernel
theorem dX6_grant_82 : decode cX6_grant 82 = .ok (.istore 4, 2) := by decide +kernel
theorem dX6_grant_84 : decode cX6_grant 84 = .ok (.aload_n 0, 1) := by decide +kernel
theorem dX6_grant_85 : decode cX6_grant 85 = .ok (.getfield 10, 3) := by decide +kernel
theorem dX6_grant_88 : decode cX6_grant 88 = .ok (.getfield 81, 3) := by decide +kernel
theorem dX6_grant_91 : decode cX6_grant 91 = .ok (.getfield 95, 3) := by decide +kernel
theorem dX6_grant_94 : decode cX6_grant 94 = .ok (.iload_n 1, 1) := by decide +kernel
theorem dX6_grant_95 : decode cX6_grant 95 = .ok (.iaload, 1) := by decide +kernel
theorem dX6_grant_96 : decode cX6_grant 96 = .ok (.iload 4, 2) := by decide +kernel
theorem dX6_grant_98 : decode cX6_grant 98 = .ok (.if_icmp .ge 22, 3) := by decide +kernel
theorem dX6_grant_101 : decode cX6_grant 101 = .ok (.aload_n 0, 1) := by decide +kernel
theorem dX6_grant_102 : decode cX6_grant 102 = .ok (.bipush 7, 2) := by decide +kernel
theorem dX6_grant_104 : decode cX6_grant 104 = .ok (.aload_n 0, 1) := by decide +kernel
theorem dX6_grant_105 : decode cX6_grant 105 = .ok (.getfield 10, 3) := by decide +kernel
theorem dX6_grant_108 : decode cX6_grant 108 = .ok (.getfield 81, 3) := by decide +kernel
theorem dX6_grant_111 : decode cX6_grant 111 = .ok (.getfield 95, 3) := by decide +kernel
theorem dX6_grant_114 : decode cX6_grant 114 = .ok (.iload_n 1, 1) := by decide +kernel
theorem dX6_grant_115 : decode cX6_grant 115 = .ok (.iaload, 1) := by decide +kernel
theorem dX6_grant_116 : decode cX6_grant 116 = .ok (.invokevirtual 243, 3) := by decide +kernel
theorem dX6_grant_119 : decode cX6_grant 119 = .ok (.ireturn, 1) := by decide +kernel
theorem dX6_grant_120 : decode cX6_grant 120 = .ok (.aload_n 0, 1) := by decide +kernel
theorem dX6_grant_121 : decode cX6_grant 121 = .ok (.getfield 10, 3) := by decide +kernel
theorem dX6_grant_124 : decode cX6_grant 124 = .ok (.iload_n 1, 1) := by decide +kernel
theorem dX6_grant_125 : decode cX6_grant 125 = .ok (.iload 4, 2) := by decide +kernel
theorem dX6_grant_127 : decode cX6_grant 127 = .ok (.invokevirtual 294, 3) := by decide +kernel
theorem dX6_grant_130 : decode cX6_grant 130 = .ok (.pop, 1) := by decide +kernel
theorem dX6_grant_131 : decode cX6_grant 131 = .ok (.aload_n 0, 1) := by decide +kernel
theorem dX6_grant_132 : decode cX6_grant 132 = .ok (.getfield 10, 3) := by decide +kernel
theorem dX6_grant_135 : decode cX6_grant 135 = .ok (.getfield 126, 3) := by decide +kernel
theorem dX6_grant_138 : decode cX6_grant 138 = .ok (.getfield 139, 3) := by decide +kernel
theorem dX6_grant_141 : decode cX6_grant 141 = .ok (.iload_n 2, 1) := by decide +kernel
theorem dX6_grant_142 : decode cX6_grant 142 = .ok (.iload_n 1, 1) := by decide +kernel
theorem dX6_grant_143 : decode cX6_grant 143 = .ok (.iastore, 1) := by decide +kernel
theorem dX6_grant_144 : decode cX6_grant 144 = .ok (.aload_n 0, 1) := by decide +kernel
theorem dX6_grant_145 : decode cX6_grant 145 = .ok (.getfield 10, 3) := by decide +kernel
theorem dX6_grant_148 : decode cX6_grant 148 = .ok (.getfield 126, 3) := by decide +kernel
theorem dX6_grant_151 : decode cX6_grant 151 = .ok (.getfield 142, 3) := by decide +kernel
theorem dX6_grant_154 : decode cX6_grant 154 = .ok (.iload_n 2, 1) := by decide +kernel
theorem dX6_grant_155 : decode cX6_grant 155 = .ok (.aload_n 0, 1) := by decide +kernel
theorem dX6_grant_156 : decode cX6_grant 156 = .ok (.getfield 10, 3) := by decide +kernel
theorem dX6_grant_159 : decode cX6_grant 159 = .ok (.getfield 145, 3) := by decide +kernel
theorem dX6_grant_162 : decode cX6_grant 162 = .ok (.iload_n 3, 1) := by decide +kernel
theorem dX6_grant_163 : decode cX6_grant 163 = .ok (.iadd, 1) := by decide +kernel
theorem dX6_grant_164 : decode cX6_grant 164 = .ok (.iastore, 1) := by decide +kernel
theorem dX6_grant_165 : decode cX6_grant 165 = .ok (.aload_n 0, 1) := by decide +kernel
theorem dX6_grant_166 : decode cX6_grant 166 = .ok (.getfield 10, 3) := by decide +kernel
theorem dX6_grant_169 : decode cX6_grant 169 = .ok (.getfield 126, 3) := by decide +kernel
theorem dX6_grant_172 : decode cX6_grant 172 = .ok (.getfield 142, 3) := by decide +kernel
theorem dX6_grant_175 : decode cX6_grant 175 = .ok (.iload_n 2, 1) := by decide +kernel
theorem dX6_grant_176 : decode cX6_grant 176 = .ok (.iaload, 1) := by decide +kernel
theorem dX6_grant_177 : decode cX6_grant 177 = .ok (.ireturn, 1) := by decide +kernel
theorem dX6_cover_0 : decode cX6_cover 0 = .ok (.aload_n 0, 1) := by decide +kernel
theorem dX6_cover_1 : decode cX6_cover 1 = .ok (.getfield 10, 3) := by decide +kernel
theorem dX6_cover_4 : decode cX6_cover 4 = .ok (.getfield 81, 3) := by decide +kernel
theorem dX6_cover_7 : decode cX6_cover 7 = .ok (.iload_n 1, 1) := by decide +kernel
theorem dX6_cover_8 : decode cX6_cover 8 = .ok (.invokevirtual 85, 3) := by decide +kernel
theorem dX6_cover_11 : decode cX6_cover 11 = .ok (.ifCond .ne 7, 3) := by decide +kernel
theorem dX6_cover_14 : decode cX6_cover 14 = .ok (.sipush (-1011), 3) := by decide +kernel
theorem dX6_cover_17 : decode cX6_cover 17 = .ok (.ireturn, 1) := by decide +kernel
theorem dX6_cover_18 : decode cX6_cover 18 = .ok (.aload_n 0, 1) := by decide +kernel
theorem dX6_cover_19 : decode cX6_cover 19 = .ok (.getfield 10, 3) := by decide +kernel
theorem dX6_cover_22 : decode cX6_cover 22 = .ok (.getfield 81, 3) := by decide +kernel
theorem dX6_cover_25 : decode cX6_cover 25 = .ok (.getfield 101, 3) := by decide +kernel
theorem dX6_cover_28 : decode cX6_cover 28 = .ok (.iload_n 1, 1) := by decide +kernel
theorem dX6_cover_29 : decode cX6_cover 29 = .ok (.iaload, 1) := by decide +kernel
theorem dX6_cover_30 : decode cX6_cover 30 = .ok (.iconst 3, 1) := by decide +kernel
theorem dX6_cover_31 : decode cX6_cover 31 = .ok (.if_icmp .lt 11, 3) := by decide +kernel
theorem dX6_cover_34 : decode cX6_cover 34 = .ok (.aload_n 0, 1) := by decide +kernel
theorem dX6_cover_35 : decode cX6_cover 35 = .ok (.bipush 8, 2) := by decide +kernel
theorem dX6_cover_37 : decode cX6_cover 37 = .ok (.iconst 3, 1) := by decide +kernel
theorem dX6_cover_38 : decode cX6_cover 38 = .ok (.invokevirtual 243, 3) := by decide +kernel
theorem dX6_cover_41 : decode cX6_cover 41 = .ok (.ireturn, 1) := by decide +kernel
theorem dX6_cover_42 : decode cX6_cover 42 = .ok (.aload_n 0, 1) := by decide +kernel
theorem dX6_cover_43 : decode cX6_cover 43 = .ok (.getfield 10, 3) := by decide +kernel
theorem dX6_cover_46 : decode cX6_cover 46 = .ok (.getfield 81, 3) := by decide +kernel
theorem dX6_cover_49 : decode cX6_cover 49 = .ok (.getfield 95, 3) := by decide +kernel
theorem dX6_cover_52 : decode cX6_cover 52 = .ok (.iload_n 1, 1) := by decide +kernel
theorem dX6_cover_53 : decode cX6_cover 53 = .ok (.iaload, 1) := by decide +kernel
theorem dX6_cover_54 : decode cX6_cover 54 = .ok (.iconst 2, 1) := by decide +kernel
theorem dX6_cover_55 : decode cX6_cover 55 = .ok (.if_icmp .ge 22, 3) := by decide +kernel
theorem dX6_cover_58 : decode cX6_cover 58 = .ok (.aload_n 0, 1) := by decide +kernel
theorem dX6_cover_59 : decode cX6_cover 59 = .ok (.bipush 7, 2) := by decide +kernel
theorem dX6_cover_61 : decode cX6_cover 61 = .ok (.aload_n 0, 1) := by decide +kernel
theorem dX6_cover_62 : decode cX6_cover 62 = .ok (.getfield 10, 3) := by decide +kernel
theorem dX6_cover_65 : decode cX6_cover 65 = .ok (.getfield 81, 3) := by decide +kernel
theorem dX6_cover_68 : decode cX6_cover 68 = .ok (.getfield 95, 3) := by decide +kernel
theorem dX6_cover_71 : decode cX6_cover 71 = .ok (.iload_n 1, 1) := by decide +kernel
theorem dX6_cover_72 : decode cX6_cover 72 = .ok (.iaload, 1) := by decide +kernel
theorem dX6_cover_73 : decode cX6_cover 73 = .ok (.invokevirtual 243, 3) := by decide +kernel
theorem dX6_cover_76 : decode cX6_cover 76 = .ok (.ireturn, 1) := by decide +kernel
theorem dX6_cover_77 : decode cX6_cover 77 = .ok (.aload_n 0, 1) := by decide +kernel
theorem dX6_cover_78 : decode cX6_cover 78 = .ok (.getfield 10, 3) := by decide +kernel
theorem dX6_cover_81 : decode cX6_cover 81 = .ok (.iload_n 1, 1) := by decide +kernel
theorem dX6_cover_82 : decode cX6_cover 82 = .ok (.iconst 2, 1) := by decide +kernel
theorem dX6_cover_83 : decode cX6_cover 83 = .ok (.invokevirtual 294, 3) := by decide +kernel
theorem dX6_cover_86 : decode cX6_cover 86 = .ok (.pop, 1) := by decide +kernel
theorem dX6_cover_87 : decode cX6_cover 87 = .ok (.aload_n 0, 1) := by decide +kernel
theorem dX6_cover_88 : decode cX6_cover 88 = .ok (.getfield 10, 3) := by decide +kernel
theorem dX6_cover_91 : decode cX6_cover 91 = .ok (.getfield 81, 3) := by decide +kernel
theorem dX6_cover_94 : decode cX6_cover 94 = .ok (.getfield 101, 3) := by decide +kernel
theorem dX6_cover_97 : decode cX6_cover 97 = .ok (.iload_n 1, 1) := by decide +kernel
theorem dX6_cover_98 : decode cX6_cover 98 = .ok (.dup2, 1) := by decide +kernel
theorem dX6_cover_99 : decode cX6_cover 99 = .ok (.iaload, 1) := by decide +kernel
theorem dX6_cover_100 : decode cX6_cover 100 = .ok (.iconst 1, 1) := by decide +kernel
theorem dX6_cover_101 : decode cX6_cover 101 = .ok (.iadd, 1) := by decide +kernel
theorem dX6_cover_102 : decode cX6_cover 102 = .ok (.iastore, 1) := by decide +kernel
theorem dX6_cover_103 : decode cX6_cover 103 = .ok (.aload_n 0, 1) := by decide +kernel
theorem dX6_cover_104 : decode cX6_cover 104 = .ok (.getfield 10, 3) := by decide +kernel
theorem dX6_cover_107 : decode cX6_cover 107 = .ok (.getfield 81, 3) := by decide +kernel
theorem dX6_cover_110 : decode cX6_cover 110 = .ok (.getfield 101, 3) := by decide +kernel
theorem dX6_cover_113 : decode cX6_cover 113 = .ok (.iload_n 1, 1) := by decide +kernel
theorem dX6_cover_114 : decode cX6_cover 114 = .ok (.iaload, 1) := by decide +kernel
theorem dX6_cover_115 : decode cX6_cover 115 = .ok (.ireturn, 1) := by decide +kernel
theorem dX6_collect_0 : decode cX6_collect 0 = .ok (.aload_n 0, 1) := by decide +kernel
theorem dX6_collect_1 : decode cX6_collect 1 = .ok (.getfield 10, 3) := by decide +kernel
theorem dX6_collect_4 : decode cX6_collect 4 = .ok (.getfield 81, 3) := by decide +kernel
theorem dX6_collect_7 : decode cX6_collect 7 = .ok (.iload_n 1, 1) := by decide +kernel
theorem dX6_collect_8 : decode cX6_collect 8 = .ok (.invokevirtual 85, 3) := by decide +kernel
theorem dX6_collect_11 : decode cX6_collect 11 = .ok (.ifCond .ne 7, 3) := by decide +kernel
theorem dX6_collect_14 : decode cX6_collect 14 = .ok (.sipush (-1011), 3) := by decide +kernel
theorem dX6_collect_17 : decode cX6_collect 17 = .ok (.ireturn, 1) := by decide +kernel
theorem dX6_collect_18 : decode cX6_collect 18 = .ok (.aload_n 0, 1) := by decide +kernel
theorem dX6_collect_19 : decode cX6_collect 19 = .ok (.getfield 10, 3) := by decide +kernel
theorem dX6_collect_22 : decode cX6_collect 22 = .ok (.getfield 81, 3) := by decide +kernel
theorem dX6_collect_25 : decode cX6_collect 25 = .ok (.getfield 98, 3) := by decide +kernel
theorem dX6_collect_28 : decode cX6_collect 28 = .ok (.iload_n 1, 1) := by decide +kernel
theorem dX6_collect_29 : decode cX6_collect 29 = .ok (.iaload, 1) := by decide +kernel
theorem dX6_collect_30 : decode cX6_collect 30 = .ok (.istore_n 2, 1) := by decide +kernel
theorem dX6_collect_31 : decode cX6_collect 31 = .ok (.iload_n 2, 1) := by decide +kernel
theorem dX6_collect_32 : decode cX6_collect 32 = .ok (.iconst 3, 1) := by decide +kernel
theorem dX6_collect_33 : decode cX6_collect 33 = .ok (.if_icmp .ge 11, 3) := by decide +kernel
theorem dX6_collect_36 : decode cX6_collect 36 = .ok (.aload_n 0, 1) := by decide +kernel
theorem dX6_collect_37 : decode cX6_collect 37 = .ok (.bipush 10, 2) := by decide +kernel
theorem dX6_collect_39 : decode cX6_collect 39 = .ok (.iload_n 2, 1) := by decide +kernel
theorem dX6_collect_40 : decode cX6_collect 40 = .ok (.invokevirtual 243, 3) := by decide +kernel
theorem dX6_collect_43 : decode cX6_collect 43 = .ok (.ireturn, 1) := by decide +kernel
theorem dX6_collect_44 : decode cX6_collect 44 = .ok (.aload_n 0, 1) := by decide +kernel
theorem dX6_collect_45 : decode cX6_collect 45 = .ok (.getfield 10, 3) := by decide +kernel
theorem dX6_collect_48 : decode cX6_collect 48 = .ok (.getfield 81, 3) := by decide +kernel
theorem dX6_collect_51 : decode cX6_collect 51 = .ok (.getfield 95, 3) := by decide +kernel
theorem dX6_collect_54 : decode cX6_collect 54 = .ok (.iload_n 1, 1) := by decide +kernel
theorem dX6_collect_55 : decode cX6_collect 55 = .ok (.iaload, 1) := by decide +kernel
theorem dX6_collect_56 : decode cX6_collect 56 = .ok (.ifCond .ne 11, 3) := by decide +kernel
theorem dX6_collect_59 : decode cX6_collect 59 = .ok (.aload_n 0, 1) := by decide +kernel
theorem dX6_collect_60 : decode cX6_collect 60 = .ok (.bipush 7, 2) := by decide +kernel
theorem dX6_collect_62 : decode cX6_collect 62 = .ok (.iconst 0, 1) := by decide +kernel
theorem dX6_collect_63 : decode cX6_collect 63 = .ok (.invokevirtual 243, 3) := by decide +kernel
theorem dX6_collect_66 : decode cX6_collect 66 = .ok (.ireturn, 1) := by decide +kernel
theorem dX6_collect_67 : decode cX6_collect 67 = .ok (.aload_n 0, 1) := by decide +kernel
theorem dX6_collect_68 : decode cX6_collect 68 = .ok (.getfield 10, 3) := by decide +kernel
theorem dX6_collect_71 : decode cX6_collect 71 = .ok (.iload_n 1, 1) := by decide +kernel
theorem dX6_collect_72 : decode cX6_collect 72 = .ok (.iload_n 2, 1) := by decide +kernel
theorem dX6_collect_73 : decode cX6_collect 73 = .ok (.iconst 3, 1) := by decide +kernel
theorem dX6_collect_74 : decode cX6_collect 74 = .ok (.idiv, 1) := by decide +kernel
theorem dX6_collect_75 : decode cX6_collect 75 = .ok (.invokevirtual 294, 3) := by decide +kernel
theorem dX6_collect_78 : decode cX6_collect 78 = .ok (.istore_n 3, 1) := by decide +kernel
theorem dX6_collect_79 : decode cX6_collect 79 = .ok (.aload_n 0, 1) := by decide +kernel
theorem dX6_collect_80 : decode cX6_collect 80 = .ok (.getfield 10, 3) := by decide +kernel
theorem dX6_collect_83 : decode cX6_collect 83 = .ok (.getfield 81, 3) := by decide +kernel
theorem dX6_collect_86 : decode cX6_collect 86 = .ok (.getfield 98, 3) := by decide +kernel
theorem dX6_collect_89 : decode cX6_collect 89 = .ok (.iload_n 1, 1) := by decide +kernel
theorem dX6_collect_90 : decode cX6_collect 90 = .ok (.dup2, 1) := by decide +kernel
theorem dX6_collect_91 : decode cX6_collect 91 = .ok (.iaload, 1) := by decide +kernel
theorem dX6_collect_92 : decode cX6_collect 92 = .ok (.iconst 3, 1) := by decide +kernel
theorem dX6_collect_93 : decode cX6_collect 93 = .ok (.iload_n 3, 1) := by decide +kernel
theorem dX6_collect_94 : decode cX6_collect 94 = .ok (.imul, 1) := by decide +kernel
theorem dX6_collect_95 : decode cX6_collect 95 = .ok (.isub, 1) := by decide +kernel
theorem dX6_collect_96 : decode cX6_collect 96 = .ok (.iastore, 1) := by decide +kernel
theorem dX6_collect_97 : decode cX6_collect 97 = .ok (.iload_n 3, 1) := by decide +kernel
theorem dX6_collect_98 : decode cX6_collect 98 = .ok (.ireturn, 1) := by decide +kernel
theorem dX6_setExempt_0 : decode cX6_setExempt 0 = .ok (.iload_n 1, 1) := by decide +kernel
theorem dX6_setExempt_1 : decode cX6_setExempt 1 = .ok (.invokestatic 158, 3) := by decide +kernel
theorem dX6_setExempt_4 : decode cX6_setExempt 4 = .ok (.ifCond .ne 7, 3) := by decide +kernel
theorem dX6_setExempt_7 : decode cX6_setExempt 7 = .ok (.sipush (-1011), 3) := by decide +kernel
theorem dX6_setExempt_10 : decode cX6_setExempt 10 = .ok (.ireturn, 1) := by decide +kernel
theorem dX6_setExempt_11 : decode cX6_setExempt 11 = .ok (.iload_n 2, 1) := by decide +kernel
theorem dX6_setExempt_12 : decode cX6_setExempt 12 = .ok (.ifCond .eq 12, 3) := by decide +kernel
theorem dX6_setExempt_15 : decode cX6_setExempt 15 = .ok (.iload_n 2, 1) := by decide +kernel
theorem dX6_setExempt_16 : decode cX6_setExempt 16 = .ok (.iconst 1, 1) := by decide +kernel
theorem dX6_setExempt_17 : decode cX6_setExempt 17 = .ok (.if_icmp .eq 7, 3) := by decide +kernel
theorem dX6_setExempt_20 : decode cX6_setExempt 20 = .ok (.sipush (-1012), 3) := by decide +kernel
theorem dX6_setExempt_23 : decode cX6_setExempt 23 = .ok (.ireturn, 1) := by decide +kernel
theorem dX6_setExempt_24 : decode cX6_setExempt 24 = .ok (.aload_n 0, 1) := by decide +kernel
theorem dX6_setExempt_25 : decode cX6_setExempt 25 = .ok (.getfield 10, 3) := by decide +kernel
theorem dX6_setExempt_28 : decode cX6_setExempt 28 = .ok (.getfield 161, 3) := by decide +kernel
theorem dX6_setExempt_31 : decode cX6_setExempt 31 = .ok (.iload_n 1, 1) := by decide +kernel
theorem dX6_setExempt_32 : decode cX6_setExempt 32 = .ok (.iaload, 1) := by decide +kernel
theorem dX6_setExempt_33 : decode cX6_setExempt 33 = .ok (.iload_n 2, 1) := by decide +kernel
theorem dX6_setExempt_34 : decode cX6_setExempt 34 = .ok (.if_icmp .ne 11, 3) := by decide +kernel
theorem dX6_setExempt_37 : decode cX6_setExempt 37 = .ok (.aload_n 0, 1) := by decide +kernel
theorem dX6_setExempt_38 : decode cX6_setExempt 38 = .ok (.bipush 9, 2) := by decide +kernel
theorem dX6_setExempt_40 : decode cX6_setExempt 40 = .ok (.iload_n 2, 1) := by decide +kernel
theorem dX6_setExempt_41 : decode cX6_setExempt 41 = .ok (.invokevirtual 243, 3) := by decide +kernel
theorem dX6_setExempt_44 : decode cX6_setExempt 44 = .ok (.ireturn, 1) := by decide +kernel
theorem dX6_setExempt_45 : decode cX6_setExempt 45 = .ok (.aload_n 0, 1) := by decide +kernel
theorem dX6_setExempt_46 : decode cX6_setExempt 46 = .ok (.getfield 10, 3) := by decide +kernel
theorem dX6_setExempt_49 : decode cX6_setExempt 49 = .ok (.getfield 161, 3) := by decide +kernel
theorem dX6_setExempt_52 : decode cX6_setExempt 52 = .ok (.iload_n 1, 1) := by decide +kernel
theorem dX6_setExempt_53 : decode cX6_setExempt 53 = .ok (.iload_n 2, 1) := by decide +kernel
theorem dX6_setExempt_54 : decode cX6_setExempt 54 = .ok (.iastore, 1) := by decide +kernel
theorem dX6_setExempt_55 : decode cX6_setExempt 55 = .ok (.aload_n 0, 1) := by decide +kernel
theorem dX6_setExempt_56 : decode cX6_setExempt 56 = .ok (.getfield 10, 3) := by decide +kernel
theorem dX6_setExempt_59 : decode cX6_setExempt 59 = .ok (.getfield 161, 3) := by decide +kernel
theorem dX6_setExempt_62 : decode cX6_setExempt 62 = .ok (.invokestatic 210, 3) := by decide +kernel
theorem dX6_setExempt_65 : decode cX6_setExempt 65 = .ok (.ireturn, 1) := by decide +kernel
theorem dX6_reserve_0 : decode cX6_reserve 0 = .ok (.aload_n 0, 1) := by decide +kernel
theorem dX6_reserve_1 : decode cX6_reserve 1 = .ok (.getfield 10, 3) := by decide +kernel
theorem dX6_reserve_4 : decode cX6_reserve 4 = .ok (.getfield 81, 3) := by decide +kernel
theorem dX6_reserve_7 : decode cX6_reserve 7 = .ok (.iload_n 1, 1) := by decide +kernel
theorem dX6_reserve_8 : decode cX6_reserve 8 = .ok (.invokevirtual 85, 3) := by decide +kernel
theorem dX6_reserve_11 : decode cX6_reserve 11 = .ok (.ifCond .eq 24, 3) := by decide +kernel
theorem dX6_reserve_14 : decode cX6_reserve 14 = .ok (.aload_n 0, 1) := by decide +kernel
theorem dX6_reserve_15 : decode cX6_reserve 15 = .ok (.getfield 10, 3) := by decide +kernel
theorem dX6_reserve_18 : decode cX6_reserve 18 = .ok (.getfield 126, 3) := by decide +kernel
theorem dX6_reserve_21 : decode cX6_reserve 21 = .ok (.iload_n 2, 1) := by decide +kernel
theorem dX6_reserve_22 : decode cX6_reserve 22 = .ok (.invokevirtual 130, 3) := by decide +kernel
theorem dX6_reserve_25 : decode cX6_reserve 25 = .ok (.ifCond .eq 10, 3) := by decide +kernel
theorem dX6_reserve_28 : decode cX6_reserve 28 = .ok (.iload_n 3, 1) := by decide +kernel
theorem dX6_reserve_29 : decode cX6_reserve 29 = .ok (.invokestatic 158, 3) := by decide +kernel
theorem dX6_reserve_32 : decode cX6_reserve 32 = .ok (.ifCond .ne 7, 3) := by decide +kernel
theorem dX6_reserve_35 : decode cX6_reserve 35 = .ok (.sipush (-1011), 3) := by decide +kernel
theorem dX6_reserve_38 : decode cX6_reserve 38 = .ok (.ireturn, 1) := by decide +kernel
theorem dX6_reserve_39 : decode cX6_reserve 39 = .ok (.iload 4, 2) := by decide +kernel
theorem dX6_reserve_41 : decode cX6_reserve 41 = .ok (.ifCond .lt 10, 3) := by decide +kernel
theorem dX6_reserve_44 : decode cX6_reserve 44 = .ok (.iload 4, 2) := by decide +kernel
theorem dX6_reserve_46 : decode cX6_reserve 46 = .ok (.bipush 99, 2) := by decide +kernel
theorem dX6_reserve_48 : decode cX6_reserve 48 = .ok (.if_icmp .le 7, 3) := by decide +kernel
theorem dX6_reserve_51 : decode cX6_reserve 51 = .ok (.sipush (-1012), 3) := by decide +kernel
theorem dX6_reserve_54 : decode cX6_reserve 54 = .ok (.ireturn, 1) := by decide +kernel
theorem dX6_reserve_55 : decode cX6_reserve 55 = .ok (.iload 4, 2) := by decide +kernel
theorem dX6_reserve_57 : decode cX6_reserve 57 = .ok (.aload_n 0, 1) := by decide +kernel
theorem dX6_reserve_58 : decode cX6_reserve 58 = .ok (.getfield 10, 3) := by decide +kernel
theorem dX6_reserve_61 : decode cX6_reserve 61 = .ok (.getfield 145, 3) := by decide +kernel
theorem dX6_reserve_64 : decode cX6_reserve 64 = .ok (.if_icmp .ge 16, 3) := by decide +kernel
theorem dX6_reserve_67 : decode cX6_reserve 67 = .ok (.aload_n 0, 1) := by decide +kernel
theorem dX6_reserve_68 : decode cX6_reserve 68 = .ok (.iconst 2, 1) := by decide +kernel
theorem dX6_reserve_69 : decode cX6_reserve 69 = .ok (.aload_n 0, 1) := by decide +kernel
theorem dX6_reserve_70 : decode cX6_reserve 70 = .ok (.getfield 10, 3) := by decide +kernel
theorem dX6_reserve_73 : decode cX6_reserve 73 = .ok (.getfield 145, 3) := by decide +kernel
theorem dX6_reserve_76 : decode cX6_reserve 76 = .ok (.invokevirtual 243, 3) := by decide +kernel
theorem dX6_reserve_79 : decode cX6_reserve 79 = .ok (.ireturn, 1) := by decide +kernel
theorem dX6_reserve_80 : decode cX6_reserve 80 = .ok (.aload_n 0, 1) := by decide +kernel
theorem dX6_reserve_81 : decode cX6_reserve 81 = .ok (.getfield 10, 3) := by decide +kernel
theorem dX6_reserve_84 : decode cX6_reserve 84 = .ok (.getfield 161, 3) := by decide +kernel
theorem dX6_reserve_87 : decode cX6_reserve 87 = .ok (.iload_n 3, 1) := by decide +kernel
theorem dX6_reserve_88 : decode cX6_reserve 88 = .ok (.iaload, 1) := by decide +kernel
theorem dX6_reserve_89 : decode cX6_reserve 89 = .ok (.iconst 1, 1) := by decide +kernel
theorem dX6_reserve_90 : decode cX6_reserve 90 = .ok (.if_icmp .ne 10, 3) := by decide +kernel
theorem dX6_reserve_93 : decode cX6_reserve 93 = .ok (.aload_n 0, 1) := by decide +kernel
theorem dX6_reserve_94 : decode cX6_reserve 94 = .ok (.iconst 4, 1) := by decide +kernel
theorem dX6_reserve_95 : decode cX6_reserve 95 = .ok (.iload_n 3, 1) := by decide +kernel
theorem dX6_reserve_96 : decode cX6_reserve 96 = .ok (.invokevirtual 243, 3) := by decide +kernel
theorem dX6_reserve_99 : decode cX6_reserve 99 = .ok (.ireturn, 1) := by decide +kernel
theorem dX6_reserve_100 : decode cX6_reserve 100 = .ok (.aload_n 0, 1) := by decide +kernel
theorem dX6_reserve_101 : decode cX6_reserve 101 = .ok (.getfield 10, 3) := by decide +kernel
theorem dX6_reserve_104 : decode cX6_reserve 104 = .ok (.iload_n 1, 1) := by decide +kernel
theorem dX6_reserve_105 : decode cX6_reserve 105 = .ok (.iload_n 2, 1) := by decide +kernel
theorem dX6_reserve_106 : decode cX6_reserve 106 = .ok (.invokevirtual 297, 3) := by decide +kernel
theorem dX6_reserve_109 : decode cX6_reserve 109 = .ok (.ifCond .eq 21, 3) := by decide +kernel
theorem dX6_reserve_112 : decode cX6_reserve 112 = .ok (.aload_n 0, 1) := by decide +kernel
theorem dX6_reserve_113 : decode cX6_reserve 113 = .ok (.iconst 3, 1) := by decide +kernel
theorem dX6_reserve_114 : decode cX6_reserve 114 = .ok (.aload_n 0, 1) := by decide +kernel
theorem dX6_reserve_115 : decode cX6_reserve 115 = .ok (.getfield 10, 3) := by decide +kernel
theorem dX6_reserve_118 : decode cX6_reserve 118 = .ok (.getfield 126, 3) := by decide +kernel
theorem dX6_reserve_121 : decode cX6_reserve 121 = .ok (.getfield 139, 3) := by decide +kernel
theorem dX6_reserve_124 : decode cX6_reserve 124 = .ok (.iload_n 2, 1) := by decide +kernel
theorem dX6_reserve_125 : decode cX6_reserve 125 = .ok (.iaload, 1) := by decide +kernel
theorem dX6_reserve_126 : decode cX6_reserve 126 = .ok (.invokevirtual 243, 3) := by decide +kernel
theorem dX6_reserve_129 : decode cX6_reserve 129 = .ok (.ireturn, 1) := by decide +kernel
theorem dX6_reserve_130 : decode cX6_reserve 130 = .ok (.aload_n 0, 1) := by decide +kernel
theorem dX6_reserve_131 : decode cX6_reserve 131 = .ok (.getfield 10, 3) := by decide +kernel
theorem dX6_reserve_134 : decode cX6_reserve 134 = .ok (.getfield 107, 3) := by decide +kernel
theorem dX6_reserve_137 : decode cX6_reserve 137 = .ok (.iload_n 1, 1) := by decide +kernel
theorem dX6_reserve_138 : decode cX6_reserve 138 = .ok (.iload 4, 2) := by decide +kernel
theorem dX6_reserve_140 : decode cX6_reserve 140 = .ok (.invokevirtual 301, 3) := by decide +kernel
theorem dX6_reserve_143 : decode cX6_reserve 143 = .ok (.istore 5, 2) := by decide +kernel
theorem dX6_reserve_145 : decode cX6_reserve 145 = .ok (.iload 5, 2) := by decide +kernel
theorem dX6_reserve_147 : decode cX6_reserve 147 = .ok (.sipush (-1015), 3) := by decide +kernel
theorem dX6_reserve_150 : decode cX6_reserve 150 = .ok (.if_icmp .eq 11, 3) := by decide +kernel
theorem dX6_reserve_153 : decode cX6_reserve 153 = .ok (.aload_n 0, 1) := by decide +kernel
theorem dX6_reserve_154 : decode cX6_reserve 154 = .ok (.iconst 5, 1) := by decide +kernel
theorem dX6_reserve_155 : decode cX6_reserve 155 = .ok (.iload 5, 2) := by decide +kernel
theorem dX6_reserve_157 : decode cX6_reserve 157 = .ok (.invokevirtual 243, 3) := by decide +kernel
theorem dX6_reserve_160 : decode cX6_reserve 160 = .ok (.ireturn, 1) := by decide +kernel
theorem dX6_reserve_161 : decode cX6_reserve 161 = .ok (.aload_n 0, 1) := by decide +kernel
theorem dX6_reserve_162 : decode cX6_reserve 162 = .ok (.getfield 10, 3) := by decide +kernel
theorem dX6_reserve_165 : decode cX6_reserve 165 = .ok (.getfield 107, 3) := by decide +kernel
theorem dX6_reserve_168 : decode cX6_reserve 168 = .ok (.getfield 187, 3) := by decide +kernel
theorem dX6_reserve_171 : decode cX6_reserve 171 = .ok (.bipush 10, 2) := by decide +kernel
theorem dX6_reserve_173 : decode cX6_reserve 173 = .ok (.if_icmp .lt 11, 3) := by decide +kernel
theorem dX6_reserve_176 : decode cX6_reserve 176 = .ok (.aload_n 0, 1) := by decide +kernel
theorem dX6_reserve_177 : decode cX6_reserve 177 = .ok (.iconst 1, 1) := by decide +kernel
theorem dX6_reserve_178 : decode cX6_reserve 178 = .ok (.bipush 10, 2) := by decide +kernel
theorem dX6_reserve_180 : decode cX6_reserve 180 = .ok (.invokevirtual 243, 3) := by decide +kernel
theorem dX6_reserve_183 : decode cX6_reserve 183 = .ok (.ireturn, 1) := by decide +kernel
theorem dX6_reserve_184 : decode cX6_reserve 184 = .ok (.aload_n 0, 1) := by decide +kernel
theorem dX6_reserve_185 : decode cX6_reserve 185 = .ok (.getfield 10, 3) := by decide +kernel
theorem dX6_reserve_188 : decode cX6_reserve 188 = .ok (.iload_n 1, 1) := by decide +kernel
theorem dX6_reserve_189 : decode cX6_reserve 189 = .ok (.iload_n 2, 1) := by decide +kernel
theorem dX6_reserve_190 : decode cX6_reserve 190 = .ok (.iload 4, 2) := by decide +kernel
theorem dX6_reserve_192 : decode cX6_reserve 192 = .ok (.invokevirtual 304, 3) := by decide +kernel
theorem dX6_reserve_195 : decode cX6_reserve 195 = .ok (.istore 6, 2) := by decide +kernel
theorem dX6_reserve_197 : decode cX6_reserve 197 = .ok (.aload_n 0, 1) := by decide +kernel
theorem dX6_reserve_198 : decode cX6_reserve 198 = .ok (.getfield 10, 3) := by decide +kernel
theorem dX6_reserve_201 : decode cX6_reserve 201 = .ok (.getfield 107, 3) := by decide +kernel
theorem dX6_reserve_204 : decode cX6_reserve 204 = .ok (.iload 6, 2) := by decide +kernel
theorem dX6_reserve_206 : decode cX6_reserve 206 = .ok (.iload_n 1, 1) := by decide +kernel
theorem dX6_reserve_207 : decode cX6_reserve 207 = .ok (.iload_n 2, 1) := by decide +kernel
theorem dX6_reserve_208 : decode cX6_reserve 208 = .ok (.iload_n 3, 1) := by decide +kernel
theorem dX6_reserve_209 : decode cX6_reserve 209 = .ok (.iload 4, 2) := by decide +kernel
theorem dX6_reserve_211 : decode cX6_reserve 211 = .ok (.invokevirtual 307, 3) := by decide +kernel
theorem dX6_reserve_214 : decode cX6_reserve 214 = .ok (.iload 6, 2) := by decide +kernel
theorem dX6_reserve_216 : decode cX6_reserve 216 = .ok (.ireturn, 1) := by decide +kernel
theorem dX6_carryNextOut_0 : decode cX6_carryNextOut 0 = .ok (.aload_n 0, 1) := by decide +kernel
theorem dX6_carryNextOut_1 : decode cX6_carryNextOut 1 = .ok (.getfield 10, 3) := by decide +kernel
theorem dX6_carryNextOut_4 : decode cX6_carryNextOut 4 = .ok (.getfield 107, 3) := by decide +kernel
theorem dX6_carryNextOut_7 : decode cX6_carryNextOut 7 = .ok (.getfield 187, 3) := by decide +kernel
theorem dX6_carryNextOut_10 : decode cX6_carryNextOut 10 = .ok (.ifCond .ne 17, 3) := by decide +kernel
theorem dX6_carryNextOut_13 : decode cX6_carryNextOut 13 = .ok (.aload_n 0, 1) := by decide +kernel
theorem dX6_carryNextOut_14 : decode cX6_carryNextOut 14 = .ok (.bipush 11, 2) := by decide +kernel
theorem dX6_carryNextOut_16 : decode cX6_carryNextOut 16 = .ok (.aload_n 0, 1) := by decide +kernel
theorem dX6_carryNextOut_17 : decode cX6_carryNextOut 17 = .ok (.getfield 10, 3) := by decide +kernel
theorem dX6_carryNextOut_20 : decode cX6_carryNextOut 20 = .ok (.getfield 268, 3) := by decide +kernel
theorem dX6_carryNextOut_23 : decode cX6_carryNextOut 23 = .ok (.invokevirtual 243, 3) := by decide +kernel
theorem dX6_carryNextOut_26 : decode cX6_carryNextOut 26 = .ok (.ireturn, 1) := by decide +kernel
theorem dX6_carryNextOut_27 : decode cX6_carryNextOut 27 = .ok (.aload_n 0, 1) := by decide +kernel
theorem dX6_carryNextOut_28 : decode cX6_carryNextOut 28 = .ok (.getfield 10, 3) := by decide +kernel
theorem dX6_carryNextOut_31 : decode cX6_carryNextOut 31 = .ok (.invokevirtual 207, 3) := by decide +kernel
theorem dX6_carryNextOut_34 : decode cX6_carryNextOut 34 = .ok (.ireturn, 1) := by decide +kernel
theorem dX6_elapse_0 : decode cX6_elapse 0 = .ok (.iload_n 1, 1) := by decide +kernel
theorem dX6_elapse_1 : decode cX6_elapse 1 = .ok (.iconst 1, 1) := by decide +kernel
theorem dX6_elapse_2 : decode cX6_elapse 2 = .ok (.if_icmp .lt 9, 3) := by decide +kernel
theorem dX6_elapse_5 : decode cX6_elapse 5 = .ok (.iload_n 1, 1) := by decide +kernel
theorem dX6_elapse_6 : decode cX6_elapse 6 = .ok (.bipush 24, 2) := by decide +kernel
theorem dX6_elapse_8 : decode cX6_elapse 8 = .ok (.if_icmp .le 7, 3) := by decide +kernel
theorem dX6_elapse_11 : decode cX6_elapse 11 = .ok (.sipush (-1012), 3) := by decide +kernel
theorem dX6_elapse_14 : decode cX6_elapse 14 = .ok (.ireturn, 1) := by decide +kernel
theorem dX6_elapse_15 : decode cX6_elapse 15 = .ok (.aload_n 0, 1) := by decide +kernel
theorem dX6_elapse_16 : decode cX6_elapse 16 = .ok (.getfield 10, 3) := by decide +kernel
theorem dX6_elapse_19 : decode cX6_elapse 19 = .ok (.getfield 107, 3) := by decide +kernel
theorem dX6_elapse_22 : decode cX6_elapse 22 = .ok (.getfield 187, 3) := by decide +kernel
theorem dX6_elapse_25 : decode cX6_elapse 25 = .ok (.ifCond .le 45, 3) := by decide +kernel
theorem dX6_elapse_28 : decode cX6_elapse 28 = .ok (.aload_n 0, 1) := by decide +kernel
theorem dX6_elapse_29 : decode cX6_elapse 29 = .ok (.getfield 10, 3) := by decide +kernel
theorem dX6_elapse_32 : decode cX6_elapse 32 = .ok (.getfield 107, 3) := by decide +kernel
theorem dX6_elapse_35 : decode cX6_elapse 35 = .ok (.getfield 190, 3) := by decide +kernel
theorem dX6_elapse_38 : decode cX6_elapse 38 = .ok (.iconst 0, 1) := by decide +kernel
theorem dX6_elapse_39 : decode cX6_elapse 39 = .ok (.iaload, 1) := by decide +kernel
theorem dX6_elapse_40 : decode cX6_elapse 40 = .ok (.aload_n 0, 1) := by decide +kernel
theorem dX6_elapse_41 : decode cX6_elapse 41 = .ok (.getfield 10, 3) := by decide +kernel
theorem dX6_elapse_44 : decode cX6_elapse 44 = .ok (.getfield 145, 3) := by decide +kernel
theorem dX6_elapse_47 : decode cX6_elapse 47 = .ok (.iload_n 1, 1) := by decide +kernel
theorem dX6_elapse_48 : decode cX6_elapse 48 = .ok (.iadd, 1) := by decide +kernel
theorem dX6_elapse_49 : decode cX6_elapse 49 = .ok (.if_icmp .ge 21, 3) := by decide +kernel
theorem dX6_elapse_52 : decode cX6_elapse 52 = .ok (.aload_n 0, 1) := by decide +kernel
theorem dX6_elapse_53 : decode cX6_elapse 53 = .ok (.iconst 5, 1) := by decide +kernel
theorem dX6_elapse_54 : decode cX6_elapse 54 = .ok (.aload_n 0, 1) := by decide +kernel
theorem dX6_elapse_55 : decode cX6_elapse 55 = .ok (.getfield 10, 3) := by decide +kernel
theorem dX6_elapse_58 : decode cX6_elapse 58 = .ok (.getfield 107, 3) := by decide +kernel
theorem dX6_elapse_61 : decode cX6_elapse 61 = .ok (.getfield 151, 3) := by decide +kernel
theorem dX6_elapse_64 : decode cX6_elapse 64 = .ok (.iconst 0, 1) := by decide +kernel
theorem dX6_elapse_65 : decode cX6_elapse 65 = .ok (.iaload, 1) := by decide +kernel
theorem dX6_elapse_66 : decode cX6_elapse 66 = .ok (.invokevirtual 243, 3) := by decide +kernel
theorem dX6_elapse_69 : decode cX6_elapse 69 = .ok (.ireturn, 1) := by decide +kernel
theorem dX6_elapse_70 : decode cX6_elapse 70 = .ok (.aload_n 0, 1) := by decide +kernel
theorem dX6_elapse_71 : decode cX6_elapse 71 = .ok (.getfield 10, 3) := by decide +kernel
theorem dX6_elapse_74 : decode cX6_elapse 74 = .ok (.invokevirtual 271, 3) := by decide +kernel
theorem dX6_elapse_77 : decode cX6_elapse 77 = .ok (.istore_n 2, 1) := by decide +kernel
theorem dX6_elapse_78 : decode cX6_elapse 78 = .ok (.aload_n 0, 1) := by decide +kernel
theorem dX6_elapse_79 : decode cX6_elapse 79 = .ok (.getfield 10, 3) := by decide +kernel
theorem dX6_elapse_82 : decode cX6_elapse 82 = .ok (.dup, 1) := by decide +kernel
theorem dX6_elapse_83 : decode cX6_elapse 83 = .ok (.getfield 145, 3) := by decide +kernel
theorem dX6_elapse_86 : decode cX6_elapse 86 = .ok (.iload_n 1, 1) := by decide +kernel
theorem dX6_elapse_87 : decode cX6_elapse 87 = .ok (.iadd, 1) := by decide +kernel
theorem dX6_elapse_88 : decode cX6_elapse 88 = .ok (.putfield 145, 3) := by decide +kernel
theorem dX6_elapse_91 : decode cX6_elapse 91 = .ok (.iload_n 2, 1) := by decide +kernel
theorem dX6_elapse_92 : decode cX6_elapse 92 = .ok (.aload_n 0, 1) := by decide +kernel
theorem dX6_elapse_93 : decode cX6_elapse 93 = .ok (.getfield 10, 3) := by decide +kernel
theorem dX6_elapse_96 : decode cX6_elapse 96 = .ok (.invokevirtual 271, 3) := by decide +kernel
theorem dX6_elapse_99 : decode cX6_elapse 99 = .ok (.isub, 1) := by decide +kernel
theorem dX6_elapse_100 : decode cX6_elapse 100 = .ok (.ireturn, 1) := by decide +kernel
theorem dX6_carryOrderOut_0 : decode cX6_carryOrderOut 0 = .ok (.aload_n 0, 1) := by decide +kernel
theorem dX6_carryOrderOut_1 : decode cX6_carryOrderOut 1 = .ok (.getfield 35, 3) := by decide +kernel
theorem dX6_carryOrderOut_4 : decode cX6_carryOrderOut 4 = .ok (.iload_n 1, 1) := by decide +kernel
theorem dX6_carryOrderOut_5 : decode cX6_carryOrderOut 5 = .ok (.iconst 0, 1) := by decide +kernel
theorem dX6_carryOrderOut_6 : decode cX6_carryOrderOut 6 = .ok (.invokevirtual 311, 3) := by decide +kernel
theorem dX6_carryOrderOut_9 : decode cX6_carryOrderOut 9 = .ok (.istore_n 2, 1) := by decide +kernel
theorem dX6_carryOrderOut_10 : decode cX6_carryOrderOut 10 = .ok (.aload_n 0, 1) := by decide +kernel
theorem dX6_carryOrderOut_11 : decode cX6_carryOrderOut 11 = .ok (.getfield 35, 3) := by decide +kernel
theorem dX6_carryOrderOut_14 : decode cX6_carryOrderOut 14 = .ok (.iload_n 1, 1) := by decide +kernel
theorem dX6_carryOrderOut_15 : decode cX6_carryOrderOut 15 = .ok (.iconst 1, 1) := by decide +kernel
theorem dX6_carryOrderOut_16 : decode cX6_carryOrderOut 16 = .ok (.invokevirtual 311, 3) := by decide +kernel
theorem dX6_carryOrderOut_19 : decode cX6_carryOrderOut 19 = .ok (.istore_n 3, 1) := by decide +kernel
theorem dX6_carryOrderOut_20 : decode cX6_carryOrderOut 20 = .ok (.aload_n 0, 1) := by decide +kernel
theorem dX6_carryOrderOut_21 : decode cX6_carryOrderOut 21 = .ok (.getfield 35, 3) := by decide +kernel
theorem dX6_carryOrderOut_24 : decode cX6_carryOrderOut 24 = .ok (.iload_n 1, 1) := by decide +kernel
theorem dX6_carryOrderOut_25 : decode cX6_carryOrderOut 25 = .ok (.iconst 2, 1) := by decide +kernel
theorem dX6_carryOrderOut_26 : decode cX6_carryOrderOut 26 = .ok (.invokevirtual 311, 3) := by decide +kernel
theorem dX6_carryOrderOut_29 : decode cX6_carryOrderOut 29 = .ok (.istore 4, 2) := by decide +kernel
theorem dX6_carryOrderOut_31 : decode cX6_carryOrderOut 31 = .ok (.aload_n 0, 1) := by decide +kernel
theorem dX6_carryOrderOut_32 : decode cX6_carryOrderOut 32 = .ok (.getfield 35, 3) := by decide +kernel
theorem dX6_carryOrderOut_35 : decode cX6_carryOrderOut 35 = .ok (.iload_n 1, 1) := by decide +kernel
theorem dX6_carryOrderOut_36 : decode cX6_carryOrderOut 36 = .ok (.iconst 3, 1) := by decide +kernel
theorem dX6_carryOrderOut_37 : decode cX6_carryOrderOut 37 = .ok (.invokevirtual 311, 3) := by decide +kernel
theorem dX6_carryOrderOut_40 : decode cX6_carryOrderOut 40 = .ok (.istore 5, 2) := by decide +kernel
theorem dX6_carryOrderOut_42 : decode cX6_carryOrderOut 42 = .ok (.aload_n 0, 1) := by decide +kernel
theorem dX6_carryOrderOut_43 : decode cX6_carryOrderOut 43 = .ok (.getfield 35, 3) := by decide +kernel
theorem dX6_carryOrderOut_46 : decode cX6_carryOrderOut 46 = .ok (.iload_n 1, 1) := by decide +kernel
theorem dX6_carryOrderOut_47 : decode cX6_carryOrderOut 47 = .ok (.invokevirtual 314, 3) := by decide +kernel
theorem dX6_carryOrderOut_50 : decode cX6_carryOrderOut 50 = .ok (.tableswitch 172 97 120 #[153, 131, 172, 172, 172, 110, 172, 172, 147, 116, 172, 172, 172, 142, 172, 122, 172, 172, 172, 172, 172, 172, 166, 159], 110) := by decide +kernel
theorem dX6_carryOrderOut_160 : decode cX6_carryOrderOut 160 = .ok (.aload_n 0, 1) := by decide +kernel
theorem dX6_carryOrderOut_161 : decode cX6_carryOrderOut 161 = .ok (.iload_n 2, 1) := by decide +kernel
theorem dX6_carryOrderOut_162 : decode cX6_carryOrderOut 162 = .ok (.invokevirtual 61, 3) := by decide +kernel
theorem dX6_carryOrderOut_165 : decode cX6_carryOrderOut 165 = .ok (.ireturn, 1) := by decide +kernel
theorem dX6_carryOrderOut_166 : decode cX6_carryOrderOut 166 = .ok (.aload_n 0, 1) := by decide +kernel
theorem dX6_carryOrderOut_167 : decode cX6_carryOrderOut 167 = .ok (.iload_n 2, 1) := by decide +kernel
theorem dX6_carryOrderOut_168 : decode cX6_carryOrderOut 168 = .ok (.invokevirtual 68, 3) := by decide +kernel
theorem dX6_carryOrderOut_171 : decode cX6_carryOrderOut 171 = .ok (.ireturn, 1) := by decide +kernel
theorem dX6_carryOrderOut_172 : decode cX6_carryOrderOut 172 = .ok (.aload_n 0, 1) := by decide +kernel
theorem dX6_carryOrderOut_173 : decode cX6_carryOrderOut 173 = .ok (.iload_n 2, 1) := by decide +kernel
theorem dX6_carryOrderOut_174 : decode cX6_carryOrderOut 174 = .ok (.iload_n 3, 1) := by decide +kernel
theorem dX6_carryOrderOut_175 : decode cX6_carryOrderOut 175 = .ok (.iload 4, 2) := by decide +kernel
theorem dX6_carryOrderOut_177 : decode cX6_carryOrderOut 177 = .ok (.invokevirtual 71, 3) := by decide +kernel
theorem dX6_carryOrderOut_180 : decode cX6_carryOrderOut 180 = .ok (.ireturn, 1) := by decide +kernel
theorem dX6_carryOrderOut_181 : decode cX6_carryOrderOut 181 = .ok (.aload_n 0, 1) := by decide +kernel
theorem dX6_carryOrderOut_182 : decode cX6_carryOrderOut 182 = .ok (.iload_n 2, 1) := by decide +kernel
theorem dX6_carryOrderOut_183 : decode cX6_carryOrderOut 183 = .ok (.iload_n 3, 1) := by decide +kernel
theorem dX6_carryOrderOut_184 : decode cX6_carryOrderOut 184 = .ok (.iload 4, 2) := by decide +kernel
theorem dX6_carryOrderOut_186 : decode cX6_carryOrderOut 186 = .ok (.iload 5, 2) := by decide +kernel
theorem dX6_carryOrderOut_188 : decode cX6_carryOrderOut 188 = .ok (.invokevirtual 176, 3) := by decide +kernel
theorem dX6_carryOrderOut_191 : decode cX6_carryOrderOut 191 = .ok (.ireturn, 1) := by decide +kernel
theorem dX6_carryOrderOut_192 : decode cX6_carryOrderOut 192 = .ok (.aload_n 0, 1) := by decide +kernel
theorem dX6_carryOrderOut_193 : decode cX6_carryOrderOut 193 = .ok (.invokevirtual 180, 3) := by decide +kernel
theorem dX6_carryOrderOut_196 : decode cX6_carryOrderOut 196 = .ok (.ireturn, 1) := by decide +kernel
theorem dX6_carryOrderOut_197 : decode cX6_carryOrderOut 197 = .ok (.aload_n 0, 1) := by decide +kernel
theorem dX6_carryOrderOut_198 : decode cX6_carryOrderOut 198 = .ok (.iload_n 2, 1) := by decide +kernel
theorem dX6_carryOrderOut_199 : decode cX6_carryOrderOut 199 = .ok (.invokevirtual 75, 3) := by decide +kernel
theorem dX6_carryOrderOut_202 : decode cX6_carryOrderOut 202 = .ok (.ireturn, 1) := by decide +kernel
theorem dX6_carryOrderOut_203 : decode cX6_carryOrderOut 203 = .ok (.aload_n 0, 1) := by decide +kernel
theorem dX6_carryOrderOut_204 : decode cX6_carryOrderOut 204 = .ok (.iload_n 2, 1) := by decide +kernel
theorem dX6_carryOrderOut_205 : decode cX6_carryOrderOut 205 = .ok (.invokevirtual 78, 3) := by decide +kernel
theorem dX6_carryOrderOut_208 : decode cX6_carryOrderOut 208 = .ok (.ireturn, 1) := by decide +kernel
theorem dX6_carryOrderOut_209 : decode cX6_carryOrderOut 209 = .ok (.aload_n 0, 1) := by decide +kernel
theorem dX6_carryOrderOut_210 : decode cX6_carryOrderOut 210 = .ok (.iload_n 2, 1) := by decide +kernel
theorem dX6_carryOrderOut_211 : decode cX6_carryOrderOut 211 = .ok (.iload_n 3, 1) := by decide +kernel
theorem dX6_carryOrderOut_212 : decode cX6_carryOrderOut 212 = .ok (.invokevirtual 154, 3) := by decide +kernel
theorem dX6_carryOrderOut_215 : decode cX6_carryOrderOut 215 = .ok (.ireturn, 1) := by decide +kernel
theorem dX6_carryOrderOut_216 : decode cX6_carryOrderOut 216 = .ok (.aload_n 0, 1) := by decide +kernel
theorem dX6_carryOrderOut_217 : decode cX6_carryOrderOut 217 = .ok (.iload_n 2, 1) := by decide +kernel
theorem dX6_carryOrderOut_218 : decode cX6_carryOrderOut 218 = .ok (.invokevirtual 184, 3) := by decide +kernel
theorem dX6_carryOrderOut_221 : decode cX6_carryOrderOut 221 = .ok (.ireturn, 1) := by decide +kernel
theorem dX6_carryOrderOut_222 : decode cX6_carryOrderOut 222 = .ok (.sipush (-1012), 3) := by decide +kernel
theorem dX6_carryOrderOut_225 : decode cX6_carryOrderOut 225 = .ok (.ireturn, 1) := by decide +kernel
theorem dX6_remember_0 : decode cX6_remember 0 = .ok (.iload_n 1, 1) := by decide +kernel
theorem dX6_remember_1 : decode cX6_remember 1 = .ok (.ifCond .lt 14, 3) := by decide +kernel
theorem dX6_remember_4 : decode cX6_remember 4 = .ok (.aload_n 0, 1) := by decide +kernel
theorem dX6_remember_5 : decode cX6_remember 5 = .ok (.getfield 28, 3) := by decide +kernel
theorem dX6_remember_8 : decode cX6_remember 8 = .ok (.aload_n 0, 1) := by decide +kernel
theorem dX6_remember_9 : decode cX6_remember 9 = .ok (.getfield 16, 3) := by decide +kernel
theorem dX6_remember_12 : decode cX6_remember 12 = .ok (.invokevirtual 317, 3) := by decide +kernel
theorem dX6_remember_15 : decode cX6_remember 15 = .ok (.iload_n 1, 1) := by decide +kernel
theorem dX6_remember_16 : decode cX6_remember 16 = .ok (.ireturn, 1) := by decide +kernel
theorem dX6_refuse_0 : decode cX6_refuse 0 = .ok (.aload_n 0, 1) := by decide +kernel
theorem dX6_refuse_1 : decode cX6_refuse 1 = .ok (.iload_n 1, 1) := by decide +kernel
theorem dX6_refuse_2 : decode cX6_refuse 2 = .ok (.putfield 50, 3) := by decide +kernel
theorem dX6_refuse_5 : decode cX6_refuse 5 = .ok (.aload_n 0, 1) := by decide +kernel
theorem dX6_refuse_6 : decode cX6_refuse 6 = .ok (.iload_n 2, 1) := by decide +kernel
theorem dX6_refuse_7 : decode cX6_refuse 7 = .ok (.putfield 54, 3) := by decide +kernel
theorem dX6_refuse_10 : decode cX6_refuse 10 = .ok (.sipush (-1014), 3) := by decide +kernel
theorem dX6_refuse_13 : decode cX6_refuse 13 = .ok (.ireturn, 1) := by decide +kernel
theorem dX6_areCoinsAccountedFor_0 : decode cX6_areCoinsAccountedFor 0 = .ok (.aload_n 0, 1) := by decide +kernel
theorem dX6_areCoinsAccountedFor_1 : decode cX6_areCoinsAccountedFor 1 = .ok (.getfield 10, 3) := by decide +kernel
theorem dX6_areCoinsAccountedFor_4 : decode cX6_areCoinsAccountedFor 4 = .ok (.getfield 259, 3) := by decide +kernel
theorem dX6_areCoinsAccountedFor_7 : decode cX6_areCoinsAccountedFor 7 = .ok (.aload_n 0, 1) := by decide +kernel
theorem dX6_areCoinsAccountedFor_8 : decode cX6_areCoinsAccountedFor 8 = .ok (.getfield 10, 3) := by decide +kernel
theorem dX6_areCoinsAccountedFor_11 : decode cX6_areCoinsAccountedFor 11 = .ok (.getfield 167, 3) := by decide +kernel
theorem dX6_areCoinsAccountedFor_14 : decode cX6_areCoinsAccountedFor 14 = .ok (.invokestatic 210, 3) := by decide +kernel
theorem dX6_areCoinsAccountedFor_17 : decode cX6_areCoinsAccountedFor 17 = .ok (.iadd, 1) := by decide +kernel
theorem dX6_areCoinsAccountedFor_18 : decode cX6_areCoinsAccountedFor 18 = .ok (.istore_n 1, 1) := by decide +kernel
theorem dX6_areCoinsAccountedFor_19 : decode cX6_areCoinsAccountedFor 19 = .ok (.aload_n 0, 1) := by decide +kernel
theorem dX6_areCoinsAccountedFor_20 : decode cX6_areCoinsAccountedFor 20 = .ok (.getfield 10, 3) := by decide +kernel
theorem dX6_areCoinsAccountedFor_23 : decode cX6_areCoinsAccountedFor 23 = .ok (.getfield 81, 3) := by decide +kernel
theorem dX6_areCoinsAccountedFor_26 : decode cX6_areCoinsAccountedFor 26 = .ok (.getfield 95, 3) := by decide +kernel
theorem dX6_areCoinsAccountedFor_29 : decode cX6_areCoinsAccountedFor 29 = .ok (.invokestatic 210, 3) := by decide +kernel
theorem dX6_areCoinsAccountedFor_32 : decode cX6_areCoinsAccountedFor 32 = .ok (.aload_n 0, 1) := by decide +kernel
theorem dX6_areCoinsAccountedFor_33 : decode cX6_areCoinsAccountedFor 33 = .ok (.getfield 10, 3) := by decide +kernel
theorem dX6_areCoinsAccountedFor_36 : decode cX6_areCoinsAccountedFor 36 = .ok (.getfield 262, 3) := by decide +kernel
theorem dX6_areCoinsAccountedFor_39 : decode cX6_areCoinsAccountedFor 39 = .ok (.iadd, 1) := by decide +kernel
theorem dX6_areCoinsAccountedFor_40 : decode cX6_areCoinsAccountedFor 40 = .ok (.aload_n 0, 1) := by decide +kernel
theorem dX6_areCoinsAccountedFor_41 : decode cX6_areCoinsAccountedFor 41 = .ok (.getfield 10, 3) := by decide +kernel
theorem dX6_areCoinsAccountedFor_44 : decode cX6_areCoinsAccountedFor 44 = .ok (.getfield 265, 3) := by decide +kernel
theorem dX6_areCoinsAccountedFor_47 : decode cX6_areCoinsAccountedFor 47 = .ok (.iadd, 1) := by decide +kernel
theorem dX6_areCoinsAccountedFor_48 : decode cX6_areCoinsAccountedFor 48 = .ok (.istore_n 2, 1) := by decide +kernel
theorem dX6_areCoinsAccountedFor_49 : decode cX6_areCoinsAccountedFor 49 = .ok (.iload_n 1, 1) := by decide +kernel
theorem dX6_areCoinsAccountedFor_50 : decode cX6_areCoinsAccountedFor 50 = .ok (.iload_n 2, 1) := by decide +kernel
theorem dX6_areCoinsAccountedFor_51 : decode cX6_areCoinsAccountedFor 51 = .ok (.if_icmp .ne 7, 3) := by decide +kernel
theorem dX6_areCoinsAccountedFor_54 : decode cX6_areCoinsAccountedFor 54 = .ok (.iconst 1, 1) := by decide +kernel
theorem dX6_areCoinsAccountedFor_55 : decode cX6_areCoinsAccountedFor 55 = .ok (.goto 4, 3) := by decide +kernel
theorem dX6_areCoinsAccountedFor_58 : decode cX6_areCoinsAccountedFor 58 = .ok (.iconst 0, 1) := by decide +kernel
theorem dX6_areCoinsAccountedFor_59 : decode cX6_areCoinsAccountedFor 59 = .ok (.ireturn, 1) := by decide +kernel
theorem dX6_areTellingsAccountedFor_0 : decode cX6_areTellingsAccountedFor 0 = .ok (.iconst 0, 1) := by decide +kernel
theorem dX6_areTellingsAccountedFor_1 : decode cX6_areTellingsAccountedFor 1 = .ok (.istore_n 1, 1) := by decide +kernel
theorem dX6_areTellingsAccountedFor_2 : decode cX6_areTellingsAccountedFor 2 = .ok (.iconst 0, 1) := by decide +kernel
theorem dX6_areTellingsAccountedFor_3 : decode cX6_areTellingsAccountedFor 3 = .ok (.istore_n 2, 1) := by decide +kernel
theorem dX6_areTellingsAccountedFor_4 : decode cX6_areTellingsAccountedFor 4 = .ok (.iload_n 2, 1) := by decide +kernel
theorem dX6_areTellingsAccountedFor_5 : decode cX6_areTellingsAccountedFor 5 = .ok (.iconst 4, 1) := by decide +kernel
theorem dX6_areTellingsAccountedFor_6 : decode cX6_areTellingsAccountedFor 6 = .ok (.if_icmp .ge 23, 3) := by decide +kernel
theorem dX6_areTellingsAccountedFor_9 : decode cX6_areTellingsAccountedFor 9 = .ok (.iload_n 1, 1) := by decide +kernel
theorem dX6_areTellingsAccountedFor_10 : decode cX6_areTellingsAccountedFor 10 = .ok (.aload_n 0, 1) := by decide +kernel
theorem dX6_areTellingsAccountedFor_11 : decode cX6_areTellingsAccountedFor 11 = .ok (.getfield 10, 3) := by decide +kernel
theorem dX6_areTellingsAccountedFor_14 : decode cX6_areTellingsAccountedFor 14 = .ok (.getfield 126, 3) := by decide +kernel
theorem dX6_areTellingsAccountedFor_17 : decode cX6_areTellingsAccountedFor 17 = .ok (.iload_n 2, 1) := by decide +kernel
theorem dX6_areTellingsAccountedFor_18 : decode cX6_areTellingsAccountedFor 18 = .ok (.invokevirtual 164, 3) := by decide +kernel
theorem dX6_areTellingsAccountedFor_21 : decode cX6_areTellingsAccountedFor 21 = .ok (.iadd, 1) := by decide +kernel
theorem dX6_areTellingsAccountedFor_22 : decode cX6_areTellingsAccountedFor 22 = .ok (.istore_n 1, 1) := by decide +kernel
theorem dX6_areTellingsAccountedFor_23 : decode cX6_areTellingsAccountedFor 23 = .ok (.iinc 2 1, 3) := by decide +kernel
theorem dX6_areTellingsAccountedFor_26 : decode cX6_areTellingsAccountedFor 26 = .ok (.goto (-22), 3) := by decide +kernel
theorem dX6_areTellingsAccountedFor_29 : decode cX6_areTellingsAccountedFor 29 = .ok (.aload_n 0, 1) := by decide +kernel
theorem dX6_areTellingsAccountedFor_30 : decode cX6_areTellingsAccountedFor 30 = .ok (.getfield 10, 3) := by decide +kernel
theorem dX6_areTellingsAccountedFor_33 : decode cX6_areTellingsAccountedFor 33 = .ok (.getfield 81, 3) := by decide +kernel
theorem dX6_areTellingsAccountedFor_36 : decode cX6_areTellingsAccountedFor 36 = .ok (.getfield 120, 3) := by decide +kernel
theorem dX6_areTellingsAccountedFor_39 : decode cX6_areTellingsAccountedFor 39 = .ok (.invokestatic 210, 3) := by decide +kernel
theorem dX6_areTellingsAccountedFor_42 : decode cX6_areTellingsAccountedFor 42 = .ok (.iload_n 1, 1) := by decide +kernel
theorem dX6_areTellingsAccountedFor_43 : decode cX6_areTellingsAccountedFor 43 = .ok (.if_icmp .ne 7, 3) := by decide +kernel
theorem dX6_areTellingsAccountedFor_46 : decode cX6_areTellingsAccountedFor 46 = .ok (.iconst 1, 1) := by decide +kernel
theorem dX6_areTellingsAccountedFor_47 : decode cX6_areTellingsAccountedFor 47 = .ok (.goto 4, 3) := by decide +kernel
theorem dX6_areTellingsAccountedFor_50 : decode cX6_areTellingsAccountedFor 50 = .ok (.iconst 0, 1) := by decide +kernel
theorem dX6_areTellingsAccountedFor_51 : decode cX6_areTellingsAccountedFor 51 = .ok (.ireturn, 1) := by decide +kernel
theorem dX6_areBestsTheSame_0 : decode cX6_areBestsTheSame 0 = .ok (.iconst 0, 1) := by decide +kernel
theorem dX6_areBestsTheSame_1 : decode cX6_areBestsTheSame 1 = .ok (.istore_n 1, 1) := by decide +kernel
theorem dX6_areBestsTheSame_2 : decode cX6_areBestsTheSame 2 = .ok (.iload_n 1, 1) := by decide +kernel
theorem dX6_areBestsTheSame_3 : decode cX6_areBestsTheSame 3 = .ok (.aload_n 0, 1) := by decide +kernel
theorem dX6_areBestsTheSame_4 : decode cX6_areBestsTheSame 4 = .ok (.getfield 10, 3) := by decide +kernel
theorem dX6_areBestsTheSame_7 : decode cX6_areBestsTheSame 7 = .ok (.getfield 81, 3) := by decide +kernel
theorem dX6_areBestsTheSame_10 : decode cX6_areBestsTheSame 10 = .ok (.getfield 257, 3) := by decide +kernel
theorem dX6_areBestsTheSame_13 : decode cX6_areBestsTheSame 13 = .ok (.if_icmp .ge 45, 3) := by decide +kernel
theorem dX6_areBestsTheSame_16 : decode cX6_areBestsTheSame 16 = .ok (.iconst 0, 1) := by decide +kernel
theorem dX6_areBestsTheSame_17 : decode cX6_areBestsTheSame 17 = .ok (.istore_n 2, 1) := by decide +kernel
theorem dX6_areBestsTheSame_18 : decode cX6_areBestsTheSame 18 = .ok (.iload_n 2, 1) := by decide +kernel
theorem dX6_areBestsTheSame_19 : decode cX6_areBestsTheSame 19 = .ok (.iconst 4, 1) := by decide +kernel
theorem dX6_areBestsTheSame_20 : decode cX6_areBestsTheSame 20 = .ok (.if_icmp .ge 32, 3) := by decide +kernel
theorem dX6_areBestsTheSame_23 : decode cX6_areBestsTheSame 23 = .ok (.aload_n 0, 1) := by decide +kernel
theorem dX6_areBestsTheSame_24 : decode cX6_areBestsTheSame 24 = .ok (.getfield 10, 3) := by decide +kernel
theorem dX6_areBestsTheSame_27 : decode cX6_areBestsTheSame 27 = .ok (.iload_n 1, 1) := by decide +kernel
theorem dX6_areBestsTheSame_28 : decode cX6_areBestsTheSame 28 = .ok (.iload_n 2, 1) := by decide +kernel
theorem dX6_areBestsTheSame_29 : decode cX6_areBestsTheSame 29 = .ok (.invokevirtual 195, 3) := by decide +kernel
theorem dX6_areBestsTheSame_32 : decode cX6_areBestsTheSame 32 = .ok (.aload_n 0, 1) := by decide +kernel
theorem dX6_areBestsTheSame_33 : decode cX6_areBestsTheSame 33 = .ok (.getfield 10, 3) := by decide +kernel
theorem dX6_areBestsTheSame_36 : decode cX6_areBestsTheSame 36 = .ok (.iload_n 1, 1) := by decide +kernel
theorem dX6_areBestsTheSame_37 : decode cX6_areBestsTheSame 37 = .ok (.iload_n 2, 1) := by decide +kernel
theorem dX6_areBestsTheSame_38 : decode cX6_areBestsTheSame 38 = .ok (.invokevirtual 198, 3) := by decide +kernel
theorem dX6_areBestsTheSame_41 : decode cX6_areBestsTheSame 41 = .ok (.if_icmp .eq 5, 3) := by decide +kernel
theorem dX6_areBestsTheSame_44 : decode cX6_areBestsTheSame 44 = .ok (.iconst 0, 1) := by decide +kernel
theorem dX6_areBestsTheSame_45 : decode cX6_areBestsTheSame 45 = .ok (.ireturn, 1) := by decide +kernel
theorem dX6_areBestsTheSame_46 : decode cX6_areBestsTheSame 46 = .ok (.iinc 2 1, 3) := by decide +kernel
theorem dX6_areBestsTheSame_49 : decode cX6_areBestsTheSame 49 = .ok (.goto (-31), 3) := by decide +kernel
theorem dX6_areBestsTheSame_52 : decode cX6_areBestsTheSame 52 = .ok (.iinc 1 1, 3) := by decide +kernel
theorem dX6_areBestsTheSame_55 : decode cX6_areBestsTheSame 55 = .ok (.goto (-53), 3) := by decide +kernel
theorem dX6_areBestsTheSame_58 : decode cX6_areBestsTheSame 58 = .ok (.iconst 1, 1) := by decide +kernel
theorem dX6_areBestsTheSame_59 : decode cX6_areBestsTheSame 59 = .ok (.ireturn, 1) := by decide +kernel
theorem dX6_write_0 : decode cX6_write 0 = .ok (.aload_n 0, 1) := by decide +kernel
theorem dX6_write_1 : decode cX6_write 1 = .ok (.getfield 42, 3) := by decide +kernel
theorem dX6_write_4 : decode cX6_write 4 = .ok (.iload_n 1, 1) := by decide +kernel
theorem dX6_write_5 : decode cX6_write 5 = .ok (.invokevirtual 224, 3) := by decide +kernel
theorem dX6_write_8 : decode cX6_write 8 = .ok (.pop, 1) := by decide +kernel
theorem dX6_write_9 : decode cX6_write 9 = .ok (.aload_n 0, 1) := by decide +kernel
theorem dX6_write_10 : decode cX6_write 10 = .ok (.getfield 42, 3) := by decide +kernel
theorem dX6_write_13 : decode cX6_write 13 = .ok (.iload_n 2, 1) := by decide +kernel
theorem dX6_write_14 : decode cX6_write 14 = .ok (.invokevirtual 246, 3) := by decide +kernel
theorem dX6_write_17 : decode cX6_write 17 = .ok (.pop, 1) := by decide +kernel
theorem dX6_write_18 : decode cX6_write 18 = .ok (.return_, 1) := by decide +kernel
theorem dX6_isThrone_0 : decode cX6_isThrone 0 = .ok (.iload_n 0, 1) := by decide +kernel
theorem dX6_isThrone_1 : decode cX6_isThrone 1 = .ok (.ifCond .lt 12, 3) := by decide +kernel
theorem dX6_isThrone_4 : decode cX6_isThrone 4 = .ok (.iload_n 0, 1) := by decide +kernel
theorem dX6_isThrone_5 : decode cX6_isThrone 5 = .ok (.iconst 4, 1) := by decide +kernel
theorem dX6_isThrone_6 : decode cX6_isThrone 6 = .ok (.if_icmp .ge 7, 3) := by decide +kernel
theorem dX6_isThrone_9 : decode cX6_isThrone 9 = .ok (.iconst 1, 1) := by decide +kernel
theorem dX6_isThrone_10 : decode cX6_isThrone 10 = .ok (.goto 4, 3) := by decide +kernel
theorem dX6_isThrone_13 : decode cX6_isThrone 13 = .ok (.iconst 0, 1) := by decide +kernel
theorem dX6_isThrone_14 : decode cX6_isThrone 14 = .ok (.ireturn, 1) := by decide +kernel
theorem dX6_sum_0 : decode cX6_sum 0 = .ok (.iconst 0, 1) := by decide +kernel
theorem dX6_sum_1 : decode cX6_sum 1 = .ok (.istore_n 1, 1) := by decide +kernel
theorem dX6_sum_2 : decode cX6_sum 2 = .ok (.aload_n 0, 1) := by decide +kernel
theorem dX6_sum_3 : decode cX6_sum 3 = .ok (.astore_n 2, 1) := by decide +kernel
theorem dX6_sum_4 : decode cX6_sum 4 = .ok (.aload_n 2, 1) := by decide +kernel
theorem dX6_sum_5 : decode cX6_sum 5 = .ok (.arraylength, 1) := by decide +kernel
theorem dX6_sum_6 : decode cX6_sum 6 = .ok (.istore_n 3, 1) := by decide +kernel
theorem dX6_sum_7 : decode cX6_sum 7 = .ok (.iconst 0, 1) := by decide +kernel
theorem dX6_sum_8 : decode cX6_sum 8 = .ok (.istore 4, 2) := by decide +kernel
theorem dX6_sum_10 : decode cX6_sum 10 = .ok (.iload 4, 2) := by decide +kernel
theorem dX6_sum_12 : decode cX6_sum 12 = .ok (.iload_n 3, 1) := by decide +kernel
theorem dX6_sum_13 : decode cX6_sum 13 = .ok (.if_icmp .ge 20, 3) := by decide +kernel
theorem dX6_sum_16 : decode cX6_sum 16 = .ok (.aload_n 2, 1) := by decide +kernel
theorem dX6_sum_17 : decode cX6_sum 17 = .ok (.iload 4, 2) := by decide +kernel
theorem dX6_sum_19 : decode cX6_sum 19 = .ok (.iaload, 1) := by decide +kernel
theorem dX6_sum_20 : decode cX6_sum 20 = .ok (.istore 5, 2) := by decide +kernel
theorem dX6_sum_22 : decode cX6_sum 22 = .ok (.iload_n 1, 1) := by decide +kernel
theorem dX6_sum_23 : decode cX6_sum 23 = .ok (.iload 5, 2) := by decide +kernel
theorem dX6_sum_25 : decode cX6_sum 25 = .ok (.iadd, 1) := by decide +kernel
theorem dX6_sum_26 : decode cX6_sum 26 = .ok (.istore_n 1, 1) := by decide +kernel
theorem dX6_sum_27 : decode cX6_sum 27 = .ok (.iinc 4 1, 3) := by decide +kernel
theorem dX6_sum_30 : decode cX6_sum 30 = .ok (.goto (-20), 3) := by decide +kernel
theorem dX6_sum_33 : decode cX6_sum 33 = .ok (.iload_n 1, 1) := by decide +kernel
theorem dX6_sum_34 : decode cX6_sum 34 = .ok (.ireturn, 1) := by decide +kernel
theorem dX6_copy_0 : decode cX6_copy 0 = .ok (.aload_n 0, 1) := by decide +kernel
theorem dX6_copy_1 : decode cX6_copy 1 = .ok (.iconst 0, 1) := by decide +kernel
theorem dX6_copy_2 : decode cX6_copy 2 = .ok (.aload_n 1, 1) := by decide +kernel
theorem dX6_copy_3 : decode cX6_copy 3 = .ok (.iconst 0, 1) := by decide +kernel
theorem dX6_copy_4 : decode cX6_copy 4 = .ok (.aload_n 0, 1) := by decide +kernel
theorem dX6_copy_5 : decode cX6_copy 5 = .ok (.arraylength, 1) := by decide +kernel
theorem dX6_copy_6 : decode cX6_copy 6 = .ok (.aload_n 1, 1) := by decide +kernel
theorem dX6_copy_7 : decode cX6_copy 7 = .ok (.arraylength, 1) := by decide +kernel
theorem dX6_copy_8 : decode cX6_copy 8 = .ok (.invokestatic 320, 3) := by decide +kernel
theorem dX6_copy_11 : decode cX6_copy 11 = .ok (.invokestatic 325, 3) := by decide +kernel
theorem dX6_copy_14 : decode cX6_copy 14 = .ok (.return_, 1) := by decide +kernel
