theorem dX9_isClubbed_16 : decode cX9_isClubbed 16 = .ok (.iconst 3, 1) := by decide +kernel
theorem dX9_isClubbed_17 : decode cX9_isClubbed 17 = .ok (.if_icmp .ne 7, 3) := by decide +kernel
theorem dX9_isClubbed_20 : decode cX9_isClubbed 20 = .ok (.iconst 1, 1) := by decide +kernel
theorem dX9_isClubbed_21 : decode cX9_isClubbed 21 = .ok (.goto 4, 3) := by decide +kernel
theorem dX9_isClubbed_24 : decode cX9_isClubbed 24 = .ok (.iconst 0, 1) := by decide +kernel
theorem dX9_isClubbed_25 : decode cX9_isClubbed 25 = .ok (.ireturn, 1) := by decide +kernel
theorem dX9_inSchool_0 : decode cX9_inSchool 0 = .ok (.iconst 0, 1) := by decide +kernel
theorem dX9_inSchool_1 : decode cX9_inSchool 1 = .ok (.istore_n 3, 1) := by decide +kernel
theorem dX9_inSchool_2 : decode cX9_inSchool 2 = .ok (.iconst 0, 1) := by decide +kernel
theorem dX9_inSchool_3 : decode cX9_inSchool 3 = .ok (.istore 4, 2) := by decide +kernel
theorem dX9_inSchool_5 : decode cX9_inSchool 5 = .ok (.iload 4, 2) := by decide +kernel
theorem dX9_inSchool_7 : decode cX9_inSchool 7 = .ok (.aload_n 0, 1) := by decide +kernel
theorem dX9_inSchool_8 : decode cX9_inSchool 8 = .ok (.getfield 145, 3) := by decide +kernel
theorem dX9_inSchool_11 : decode cX9_inSchool 11 = .ok (.if_icmp .ge 60, 3) := by decide +kernel
theorem dX9_inSchool_14 : decode cX9_inSchool 14 = .ok (.iload_n 3, 1) := by decide +kernel
theorem dX9_inSchool_15 : decode cX9_inSchool 15 = .ok (.aload_n 0, 1) := by decide +kernel
theorem dX9_inSchool_16 : decode cX9_inSchool 16 = .ok (.getfield 92, 3) := by decide +kernel
theorem dX9_inSchool_19 : decode cX9_inSchool 19 = .ok (.iload 4, 2) := by decide +kernel
theorem dX9_inSchool_21 : decode cX9_inSchool 21 = .ok (.baload, 1) := by decide +kernel
theorem dX9_inSchool_22 : decode cX9_inSchool 22 = .ok (.ifCond .eq 40, 3) := by decide +kernel
theorem dX9_inSchool_25 : decode cX9_inSchool 25 = .ok (.aload_n 0, 1) := by decide +kernel
theorem dX9_inSchool_26 : decode cX9_inSchool 26 = .ok (.getfield 77, 3) := by decide +kernel
theorem dX9_inSchool_29 : decode cX9_inSchool 29 = .ok (.iload 4, 2) := by decide +kernel
theorem dX9_inSchool_31 : decode cX9_inSchool 31 = .ok (.iaload, 1) := by decide +kernel
theorem dX9_inSchool_32 : decode cX9_inSchool 32 = .ok (.iconst 3, 1) := by decide +kernel
theorem dX9_inSchool_33 : decode cX9_inSchool 33 = .ok (.if_icmp .ne 29, 3) := by decide +kernel
theorem dX9_inSchool_36 : decode cX9_inSchool 36 = .ok (.aload_n 0, 1) := by decide +kernel
theorem dX9_inSchool_37 : decode cX9_inSchool 37 = .ok (.getfield 80, 3) := by decide +kernel
theorem dX9_inSchool_40 : decode cX9_inSchool 40 = .ok (.iload 4, 2) := by decide +kernel
theorem dX9_inSchool_42 : decode cX9_inSchool 42 = .ok (.iaload, 1) := by decide +kernel
theorem dX9_inSchool_43 : decode cX9_inSchool 43 = .ok (.iload_n 1, 1) := by decide +kernel
theorem dX9_inSchool_44 : decode cX9_inSchool 44 = .ok (.if_icmp .ne 18, 3) := by decide +kernel
theorem dX9_inSchool_47 : decode cX9_inSchool 47 = .ok (.aload_n 0, 1) := by decide +kernel
theorem dX9_inSchool_48 : decode cX9_inSchool 48 = .ok (.getfield 83, 3) := by decide +kernel
theorem dX9_inSchool_51 : decode cX9_inSchool 51 = .ok (.iload 4, 2) := by decide +kernel
theorem dX9_inSchool_53 : decode cX9_inSchool 53 = .ok (.baload, 1) := by decide +kernel
theorem dX9_inSchool_54 : decode cX9_inSchool 54 = .ok (.iload_n 2, 1) := by decide +kernel
theorem dX9_inSchool_55 : decode cX9_inSchool 55 = .ok (.if_icmp .ne 7, 3) := by decide +kernel
theorem dX9_inSchool_58 : decode cX9_inSchool 58 = .ok (.iconst 1, 1) := by decide +kernel
theorem dX9_inSchool_59 : decode cX9_inSchool 59 = .ok (.goto 4, 3) := by decide +kernel
theorem dX9_inSchool_62 : decode cX9_inSchool 62 = .ok (.iconst 0, 1) := by decide +kernel
theorem dX9_inSchool_63 : decode cX9_inSchool 63 = .ok (.iadd, 1) := by decide +kernel
theorem dX9_inSchool_64 : decode cX9_inSchool 64 = .ok (.istore_n 3, 1) := by decide +kernel
theorem dX9_inSchool_65 : decode cX9_inSchool 65 = .ok (.iinc 4 1, 3) := by decide +kernel
theorem dX9_inSchool_68 : decode cX9_inSchool 68 = .ok (.goto (-63), 3) := by decide +kernel
theorem dX9_inSchool_71 : decode cX9_inSchool 71 = .ok (.iload_n 3, 1) := by decide +kernel
theorem dX9_inSchool_72 : decode cX9_inSchool 72 = .ok (.ireturn, 1) := by decide +kernel
theorem dX9_may_0 : decode cX9_may 0 = .ok (.aload_n 0, 1) := by decide +kernel
theorem dX9_may_1 : decode cX9_may 1 = .ok (.iload_n 1, 1) := by decide +kernel
theorem dX9_may_2 : decode cX9_may 2 = .ok (.invokevirtual 185, 3) := by decide +kernel
theorem dX9_may_5 : decode cX9_may 5 = .ok (.ifCond .ne 5, 3) := by decide +kernel
theorem dX9_may_8 : decode cX9_may 8 = .ok (.iconst (-1), 1) := by decide +kernel
theorem dX9_may_9 : decode cX9_may 9 = .ok (.ireturn, 1) := by decide +kernel
theorem dX9_may_10 : decode cX9_may 10 = .ok (.aload_n 0, 1) := by decide +kernel
theorem dX9_may_11 : decode cX9_may 11 = .ok (.getfield 74, 3) := by decide +kernel
theorem dX9_may_14 : decode cX9_may 14 = .ok (.iload_n 1, 1) := by decide +kernel
theorem dX9_may_15 : decode cX9_may 15 = .ok (.iaload, 1) := by decide +kernel
theorem dX9_may_16 : decode cX9_may 16 = .ok (.istore_n 2, 1) := by decide +kernel
theorem dX9_may_17 : decode cX9_may 17 = .ok (.aload_n 0, 1) := by decide +kernel
theorem dX9_may_18 : decode cX9_may 18 = .ok (.getfield 77, 3) := by decide +kernel
theorem dX9_may_21 : decode cX9_may 21 = .ok (.iload_n 1, 1) := by decide +kernel
theorem dX9_may_22 : decode cX9_may 22 = .ok (.iaload, 1) := by decide +kernel
theorem dX9_may_23 : decode cX9_may 23 = .ok (.iconst 5, 1) := by decide +kernel
theorem dX9_may_24 : decode cX9_may 24 = .ok (.if_icmp .ne 7, 3) := by decide +kernel
theorem dX9_may_27 : decode cX9_may 27 = .ok (.iconst 1, 1) := by decide +kernel
theorem dX9_may_28 : decode cX9_may 28 = .ok (.goto 4, 3) := by decide +kernel
theorem dX9_may_31 : decode cX9_may 31 = .ok (.iconst 0, 1) := by decide +kernel
theorem dX9_may_32 : decode cX9_may 32 = .ok (.istore_n 3, 1) := by decide +kernel
theorem dX9_may_33 : decode cX9_may 33 = .ok (.aload_n 0, 1) := by decide +kernel
theorem dX9_may_34 : decode cX9_may 34 = .ok (.getfield 92, 3) := by decide +kernel
theorem dX9_may_37 : decode cX9_may 37 = .ok (.iload_n 1, 1) := by decide +kernel
theorem dX9_may_38 : decode cX9_may 38 = .ok (.baload, 1) := by decide +kernel
theorem dX9_may_39 : decode cX9_may 39 = .ok (.ifCond .eq 5, 3) := by decide +kernel
theorem dX9_may_42 : decode cX9_may 42 = .ok (.iconst 1, 1) := by decide +kernel
theorem dX9_may_43 : decode cX9_may 43 = .ok (.ireturn, 1) := by decide +kernel
theorem dX9_may_44 : decode cX9_may 44 = .ok (.aload_n 0, 1) := by decide +kernel
theorem dX9_may_45 : decode cX9_may 45 = .ok (.getfield 77, 3) := by decide +kernel
theorem dX9_may_48 : decode cX9_may 48 = .ok (.iload_n 1, 1) := by decide +kernel
theorem dX9_may_49 : decode cX9_may 49 = .ok (.iaload, 1) := by decide +kernel
theorem dX9_may_50 : decode cX9_may 50 = .ok (.iconst 4, 1) := by decide +kernel
theorem dX9_may_51 : decode cX9_may 51 = .ok (.if_icmp .ne 12, 3) := by decide +kernel
theorem dX9_may_54 : decode cX9_may 54 = .ok (.aload_n 0, 1) := by decide +kernel
theorem dX9_may_55 : decode cX9_may 55 = .ok (.getfield 98, 3) := by decide +kernel
theorem dX9_may_58 : decode cX9_may 58 = .ok (.iload_n 1, 1) := by decide +kernel
theorem dX9_may_59 : decode cX9_may 59 = .ok (.iaload, 1) := by decide +kernel
theorem dX9_may_60 : decode cX9_may 60 = .ok (.ifCond .gt 24, 3) := by decide +kernel
theorem dX9_may_63 : decode cX9_may 63 = .ok (.aload_n 0, 1) := by decide +kernel
theorem dX9_may_64 : decode cX9_may 64 = .ok (.iload_n 1, 1) := by decide +kernel
theorem dX9_may_65 : decode cX9_may 65 = .ok (.invokevirtual 188, 3) := by decide +kernel
theorem dX9_may_68 : decode cX9_may 68 = .ok (.ifCond .eq 18, 3) := by decide +kernel
theorem dX9_may_71 : decode cX9_may 71 = .ok (.aload_n 0, 1) := by decide +kernel
theorem dX9_may_72 : decode cX9_may 72 = .ok (.aload_n 0, 1) := by decide +kernel
theorem dX9_may_73 : decode cX9_may 73 = .ok (.getfield 80, 3) := by decide +kernel
theorem dX9_may_76 : decode cX9_may 76 = .ok (.iload_n 1, 1) := by decide +kernel
theorem dX9_may_77 : decode cX9_may 77 = .ok (.iaload, 1) := by decide +kernel
theorem dX9_may_78 : decode cX9_may 78 = .ok (.invokevirtual 191, 3) := by decide +kernel
theorem dX9_may_81 : decode cX9_may 81 = .ok (.ifCond .ne 5, 3) := by decide +kernel
theorem dX9_may_84 : decode cX9_may 84 = .ok (.iconst 2, 1) := by decide +kernel
theorem dX9_may_85 : decode cX9_may 85 = .ok (.ireturn, 1) := by decide +kernel
theorem dX9_may_86 : decode cX9_may 86 = .ok (.iload_n 3, 1) := by decide +kernel
theorem dX9_may_87 : decode cX9_may 87 = .ok (.ifCond .ne 13, 3) := by decide +kernel
theorem dX9_may_90 : decode cX9_may 90 = .ok (.aload_n 0, 1) := by decide +kernel
theorem dX9_may_91 : decode cX9_may 91 = .ok (.iload_n 2, 1) := by decide +kernel
theorem dX9_may_92 : decode cX9_may 92 = .ok (.invokevirtual 151, 3) := by decide +kernel
theorem dX9_may_95 : decode cX9_may 95 = .ok (.ifCond .le 5, 3) := by decide +kernel
theorem dX9_may_98 : decode cX9_may 98 = .ok (.iconst 3, 1) := by decide +kernel
theorem dX9_may_99 : decode cX9_may 99 = .ok (.ireturn, 1) := by decide +kernel
theorem dX9_may_100 : decode cX9_may 100 = .ok (.iload_n 3, 1) := by decide +kernel
theorem dX9_may_101 : decode cX9_may 101 = .ok (.ifCond .ne 19, 3) := by decide +kernel
theorem dX9_may_104 : decode cX9_may 104 = .ok (.aload_n 0, 1) := by decide +kernel
theorem dX9_may_105 : decode cX9_may 105 = .ok (.iload_n 2, 1) := by decide +kernel
theorem dX9_may_106 : decode cX9_may 106 = .ok (.invokevirtual 158, 3) := by decide +kernel
theorem dX9_may_109 : decode cX9_may 109 = .ok (.aload_n 0, 1) := by decide +kernel
theorem dX9_may_110 : decode cX9_may 110 = .ok (.getfield 13, 3) := by decide +kernel
theorem dX9_may_113 : decode cX9_may 113 = .ok (.iload_n 2, 1) := by decide +kernel
theorem dX9_may_114 : decode cX9_may 114 = .ok (.iaload, 1) := by decide +kernel
theorem dX9_may_115 : decode cX9_may 115 = .ok (.if_icmp .lt 5, 3) := by decide +kernel
theorem dX9_may_118 : decode cX9_may 118 = .ok (.iconst 4, 1) := by decide +kernel
theorem dX9_may_119 : decode cX9_may 119 = .ok (.ireturn, 1) := by decide +kernel
theorem dX9_may_120 : decode cX9_may 120 = .ok (.aload_n 0, 1) := by decide +kernel
theorem dX9_may_121 : decode cX9_may 121 = .ok (.getfield 77, 3) := by decide +kernel
theorem dX9_may_124 : decode cX9_may 124 = .ok (.iload_n 1, 1) := by decide +kernel
theorem dX9_may_125 : decode cX9_may 125 = .ok (.iaload, 1) := by decide +kernel
theorem dX9_may_126 : decode cX9_may 126 = .ok (.iconst 3, 1) := by decide +kernel
theorem dX9_may_127 : decode cX9_may 127 = .ok (.if_icmp .ne 53, 3) := by decide +kernel
theorem dX9_may_130 : decode cX9_may 130 = .ok (.aload_n 0, 1) := by decide +kernel
theorem dX9_may_131 : decode cX9_may 131 = .ok (.getfield 83, 3) := by decide +kernel
theorem dX9_may_134 : decode cX9_may 134 = .ok (.iload_n 1, 1) := by decide +kernel
theorem dX9_may_135 : decode cX9_may 135 = .ok (.baload, 1) := by decide +kernel
theorem dX9_may_136 : decode cX9_may 136 = .ok (.ifCond .ne 44, 3) := by decide +kernel
theorem dX9_may_139 : decode cX9_may 139 = .ok (.aload_n 0, 1) := by decide +kernel
theorem dX9_may_140 : decode cX9_may 140 = .ok (.aload_n 0, 1) := by decide +kernel
theorem dX9_may_141 : decode cX9_may 141 = .ok (.getfield 80, 3) := by decide +kernel
theorem dX9_may_144 : decode cX9_may 144 = .ok (.iload_n 1, 1) := by decide +kernel
theorem dX9_may_145 : decode cX9_may 145 = .ok (.iaload, 1) := by decide +kernel
theorem dX9_may_146 : decode cX9_may 146 = .ok (.iconst 0, 1) := by decide +kernel
theorem dX9_may_147 : decode cX9_may 147 = .ok (.invokevirtual 194, 3) := by decide +kernel
theorem dX9_may_150 : decode cX9_may 150 = .ok (.iconst 1, 1) := by decide +kernel
theorem dX9_may_151 : decode cX9_may 151 = .ok (.iadd, 1) := by decide +kernel
theorem dX9_may_152 : decode cX9_may 152 = .ok (.aload_n 0, 1) := by decide +kernel
theorem dX9_may_153 : decode cX9_may 153 = .ok (.getfield 126, 3) := by decide +kernel
theorem dX9_may_156 : decode cX9_may 156 = .ok (.aload_n 0, 1) := by decide +kernel
theorem dX9_may_157 : decode cX9_may 157 = .ok (.getfield 80, 3) := by decide +kernel
theorem dX9_may_160 : decode cX9_may 160 = .ok (.iload_n 1, 1) := by decide +kernel
theorem dX9_may_161 : decode cX9_may 161 = .ok (.iaload, 1) := by decide +kernel
theorem dX9_may_162 : decode cX9_may 162 = .ok (.iaload, 1) := by decide +kernel
theorem dX9_may_163 : decode cX9_may 163 = .ok (.aload_n 0, 1) := by decide +kernel
theorem dX9_may_164 : decode cX9_may 164 = .ok (.aload_n 0, 1) := by decide +kernel
theorem dX9_may_165 : decode cX9_may 165 = .ok (.getfield 80, 3) := by decide +kernel
theorem dX9_may_168 : decode cX9_may 168 = .ok (.iload_n 1, 1) := by decide +kernel
theorem dX9_may_169 : decode cX9_may 169 = .ok (.iaload, 1) := by decide +kernel
theorem dX9_may_170 : decode cX9_may 170 = .ok (.iconst 1, 1) := by decide +kernel
theorem dX9_may_171 : decode cX9_may 171 = .ok (.invokevirtual 194, 3) := by decide +kernel
theorem dX9_may_174 : decode cX9_may 174 = .ok (.imul, 1) := by decide +kernel
theorem dX9_may_175 : decode cX9_may 175 = .ok (.if_icmp .le 5, 3) := by decide +kernel
theorem dX9_may_178 : decode cX9_may 178 = .ok (.iconst 5, 1) := by decide +kernel
theorem dX9_may_179 : decode cX9_may 179 = .ok (.ireturn, 1) := by decide +kernel
theorem dX9_may_180 : decode cX9_may 180 = .ok (.aload_n 0, 1) := by decide +kernel
theorem dX9_may_181 : decode cX9_may 181 = .ok (.getfield 41, 3) := by decide +kernel
theorem dX9_may_184 : decode cX9_may 184 = .ok (.iload_n 2, 1) := by decide +kernel
theorem dX9_may_185 : decode cX9_may 185 = .ok (.iaload, 1) := by decide +kernel
theorem dX9_may_186 : decode cX9_may 186 = .ok (.iconst 3, 1) := by decide +kernel
theorem dX9_may_187 : decode cX9_may 187 = .ok (.if_icmp .ne 8, 3) := by decide +kernel
theorem dX9_may_190 : decode cX9_may 190 = .ok (.bipush 6, 2) := by decide +kernel
theorem dX9_may_192 : decode cX9_may 192 = .ok (.goto 4, 3) := by decide +kernel
theorem dX9_may_195 : decode cX9_may 195 = .ok (.iconst 0, 1) := by decide +kernel
theorem dX9_may_196 : decode cX9_may 196 = .ok (.ireturn, 1) := by decide +kernel
theorem dX9_in__0 : decode cX9_in_ 0 = .ok (.aload_n 0, 1) := by decide +kernel
theorem dX9_in__1 : decode cX9_in_ 1 = .ok (.iload_n 1, 1) := by decide +kernel
theorem dX9_in__2 : decode cX9_in_ 2 = .ok (.invokevirtual 197, 3) := by decide +kernel
theorem dX9_in__5 : decode cX9_in_ 5 = .ok (.istore_n 2, 1) := by decide +kernel
theorem dX9_in__6 : decode cX9_in_ 6 = .ok (.iload_n 2, 1) := by decide +kernel
theorem dX9_in__7 : decode cX9_in_ 7 = .ok (.ifCond .eq 5, 3) := by decide +kernel
theorem dX9_in__10 : decode cX9_in_ 10 = .ok (.iload_n 2, 1) := by decide +kernel
theorem dX9_in__11 : decode cX9_in_ 11 = .ok (.ireturn, 1) := by decide +kernel
theorem dX9_in__12 : decode cX9_in_ 12 = .ok (.aload_n 0, 1) := by decide +kernel
theorem dX9_in__13 : decode cX9_in_ 13 = .ok (.getfield 74, 3) := by decide +kernel
theorem dX9_in__16 : decode cX9_in_ 16 = .ok (.iload_n 1, 1) := by decide +kernel
theorem dX9_in__17 : decode cX9_in_ 17 = .ok (.iaload, 1) := by decide +kernel
theorem dX9_in__18 : decode cX9_in_ 18 = .ok (.istore_n 3, 1) := by decide +kernel
theorem dX9_in__19 : decode cX9_in_ 19 = .ok (.aload_n 0, 1) := by decide +kernel
theorem dX9_in__20 : decode cX9_in_ 20 = .ok (.getfield 92, 3) := by decide +kernel
theorem dX9_in__23 : decode cX9_in_ 23 = .ok (.iload_n 1, 1) := by decide +kernel
theorem dX9_in__24 : decode cX9_in_ 24 = .ok (.iconst 1, 1) := by decide +kernel
theorem dX9_in__25 : decode cX9_in_ 25 = .ok (.bastore, 1) := by decide +kernel
theorem dX9_in__26 : decode cX9_in_ 26 = .ok (.aload_n 0, 1) := by decide +kernel
theorem dX9_in__27 : decode cX9_in_ 27 = .ok (.getfield 86, 3) := by decide +kernel
theorem dX9_in__30 : decode cX9_in_ 30 = .ok (.iload_n 1, 1) := by decide +kernel
theorem dX9_in__31 : decode cX9_in_ 31 = .ok (.aload_n 0, 1) := by decide +kernel
theorem dX9_in__32 : decode cX9_in_ 32 = .ok (.getfield 148, 3) := by decide +kernel
theorem dX9_in__35 : decode cX9_in_ 35 = .ok (.iastore, 1) := by decide +kernel
theorem dX9_in__36 : decode cX9_in_ 36 = .ok (.aload_n 0, 1) := by decide +kernel
theorem dX9_in__37 : decode cX9_in_ 37 = .ok (.getfield 89, 3) := by decide +kernel
theorem dX9_in__40 : decode cX9_in_ 40 = .ok (.iload_n 1, 1) := by decide +kernel
theorem dX9_in__41 : decode cX9_in_ 41 = .ok (.aload_n 0, 1) := by decide +kernel
theorem dX9_in__42 : decode cX9_in_ 42 = .ok (.getfield 77, 3) := by decide +kernel
theorem dX9_in__45 : decode cX9_in_ 45 = .ok (.iload_n 1, 1) := by decide +kernel
theorem dX9_in__46 : decode cX9_in_ 46 = .ok (.iaload, 1) := by decide +kernel
theorem dX9_in__47 : decode cX9_in_ 47 = .ok (.iconst 1, 1) := by decide +kernel
theorem dX9_in__48 : decode cX9_in_ 48 = .ok (.if_icmp .ne 12, 3) := by decide +kernel
theorem dX9_in__51 : decode cX9_in_ 51 = .ok (.aload_n 0, 1) := by decide +kernel
theorem dX9_in__52 : decode cX9_in_ 52 = .ok (.getfield 80, 3) := by decide +kernel
theorem dX9_in__55 : decode cX9_in_ 55 = .ok (.iload_n 1, 1) := by decide +kernel
theorem dX9_in__56 : decode cX9_in_ 56 = .ok (.iaload, 1) := by decide +kernel
theorem dX9_in__57 : decode cX9_in_ 57 = .ok (.goto 31, 3) := by decide +kernel
theorem dX9_in__60 : decode cX9_in_ 60 = .ok (.aload_n 0, 1) := by decide +kernel
theorem dX9_in__61 : decode cX9_in_ 61 = .ok (.iload_n 1, 1) := by decide +kernel
theorem dX9_in__62 : decode cX9_in_ 62 = .ok (.invokevirtual 188, 3) := by decide +kernel
theorem dX9_in__65 : decode cX9_in_ 65 = .ok (.ifCond .eq 22, 3) := by decide +kernel
theorem dX9_in__68 : decode cX9_in_ 68 = .ok (.aload_n 0, 1) := by decide +kernel
theorem dX9_in__69 : decode cX9_in_ 69 = .ok (.getfield 123, 3) := by decide +kernel
theorem dX9_in__72 : decode cX9_in_ 72 = .ok (.aload_n 0, 1) := by decide +kernel
theorem dX9_in__73 : decode cX9_in_ 73 = .ok (.getfield 80, 3) := by decide +kernel
theorem dX9_in__76 : decode cX9_in_ 76 = .ok (.iload_n 1, 1) := by decide +kernel
theorem dX9_in__77 : decode cX9_in_ 77 = .ok (.iaload, 1) := by decide +kernel
theorem dX9_in__78 : decode cX9_in_ 78 = .ok (.iaload, 1) := by decide +kernel
theorem dX9_in__79 : decode cX9_in_ 79 = .ok (.aload_n 0, 1) := by decide +kernel
theorem dX9_in__80 : decode cX9_in_ 80 = .ok (.getfield 148, 3) := by decide +kernel
theorem dX9_in__83 : decode cX9_in_ 83 = .ok (.isub, 1) := by decide +kernel
theorem dX9_in__84 : decode cX9_in_ 84 = .ok (.goto 4, 3) := by decide +kernel
theorem dX9_in__87 : decode cX9_in_ 87 = .ok (.iconst 0, 1) := by decide +kernel
theorem dX9_in__88 : decode cX9_in_ 88 = .ok (.iastore, 1) := by decide +kernel
theorem dX9_in__89 : decode cX9_in_ 89 = .ok (.aload_n 0, 1) := by decide +kernel
theorem dX9_in__90 : decode cX9_in_ 90 = .ok (.getfield 98, 3) := by decide +kernel
theorem dX9_in__93 : decode cX9_in_ 93 = .ok (.iload_n 1, 1) := by decide +kernel
theorem dX9_in__94 : decode cX9_in_ 94 = .ok (.dup2, 1) := by decide +kernel
theorem dX9_in__95 : decode cX9_in_ 95 = .ok (.iaload, 1) := by decide +kernel
theorem dX9_in__96 : decode cX9_in_ 96 = .ok (.iconst 1, 1) := by decide +kernel
theorem dX9_in__97 : decode cX9_in_ 97 = .ok (.iadd, 1) := by decide +kernel
theorem dX9_in__98 : decode cX9_in_ 98 = .ok (.iastore, 1) := by decide +kernel
theorem dX9_in__99 : decode cX9_in_ 99 = .ok (.aload_n 0, 1) := by decide +kernel
theorem dX9_in__100 : decode cX9_in_ 100 = .ok (.getfield 41, 3) := by decide +kernel
theorem dX9_in__103 : decode cX9_in_ 103 = .ok (.iload_n 3, 1) := by decide +kernel
theorem dX9_in__104 : decode cX9_in_ 104 = .ok (.dup2, 1) := by decide +kernel
theorem dX9_in__105 : decode cX9_in_ 105 = .ok (.iaload, 1) := by decide +kernel
theorem dX9_in__106 : decode cX9_in_ 106 = .ok (.iconst 1, 1) := by decide +kernel
theorem dX9_in__107 : decode cX9_in_ 107 = .ok (.iadd, 1) := by decide +kernel
theorem dX9_in__108 : decode cX9_in_ 108 = .ok (.iastore, 1) := by decide +kernel
theorem dX9_in__109 : decode cX9_in_ 109 = .ok (.aload_n 0, 1) := by decide +kernel
theorem dX9_in__110 : decode cX9_in_ 110 = .ok (.getfield 29, 3) := by decide +kernel
theorem dX9_in__113 : decode cX9_in_ 113 = .ok (.iload_n 3, 1) := by decide +kernel
theorem dX9_in__114 : decode cX9_in_ 114 = .ok (.dup2, 1) := by decide +kernel
theorem dX9_in__115 : decode cX9_in_ 115 = .ok (.iaload, 1) := by decide +kernel
theorem dX9_in__116 : decode cX9_in_ 116 = .ok (.aload_n 0, 1) := by decide +kernel
theorem dX9_in__117 : decode cX9_in_ 117 = .ok (.getfield 38, 3) := by decide +kernel
theorem dX9_in__120 : decode cX9_in_ 120 = .ok (.iload_n 3, 1) := by decide +kernel
theorem dX9_in__121 : decode cX9_in_ 121 = .ok (.baload, 1) := by decide +kernel
theorem dX9_in__122 : decode cX9_in_ 122 = .ok (.ifCond .eq 7, 3) := by decide +kernel
theorem dX9_in__125 : decode cX9_in_ 125 = .ok (.iconst 1, 1) := by decide +kernel
theorem dX9_in__126 : decode cX9_in_ 126 = .ok (.goto 4, 3) := by decide +kernel
theorem dX9_in__129 : decode cX9_in_ 129 = .ok (.iconst 0, 1) := by decide +kernel
theorem dX9_in__130 : decode cX9_in_ 130 = .ok (.iadd, 1) := by decide +kernel
theorem dX9_in__131 : decode cX9_in_ 131 = .ok (.iastore, 1) := by decide +kernel
theorem dX9_in__132 : decode cX9_in_ 132 = .ok (.iconst 0, 1) := by decide +kernel
theorem dX9_in__133 : decode cX9_in_ 133 = .ok (.ireturn, 1) := by decide +kernel
theorem dX9_isTimed_0 : decode cX9_isTimed 0 = .ok (.aload_n 0, 1) := by decide +kernel
theorem dX9_isTimed_1 : decode cX9_isTimed 1 = .ok (.getfield 77, 3) := by decide +kernel
theorem dX9_isTimed_4 : decode cX9_isTimed 4 = .ok (.iload_n 1, 1) := by decide +kernel
theorem dX9_isTimed_5 : decode cX9_isTimed 5 = .ok (.iaload, 1) := by decide +kernel
theorem dX9_isTimed_6 : decode cX9_isTimed 6 = .ok (.iconst 1, 1) := by decide +kernel
theorem dX9_isTimed_7 : decode cX9_isTimed 7 = .ok (.if_icmp .eq 11, 3) := by decide +kernel
theorem dX9_isTimed_10 : decode cX9_isTimed 10 = .ok (.aload_n 0, 1) := by decide +kernel
theorem dX9_isTimed_11 : decode cX9_isTimed 11 = .ok (.iload_n 1, 1) := by decide +kernel
theorem dX9_isTimed_12 : decode cX9_isTimed 12 = .ok (.invokevirtual 188, 3) := by decide +kernel
theorem dX9_isTimed_15 : decode cX9_isTimed 15 = .ok (.ifCond .eq 7, 3) := by decide +kernel
theorem dX9_isTimed_18 : decode cX9_isTimed 18 = .ok (.iconst 1, 1) := by decide +kernel
theorem dX9_isTimed_19 : decode cX9_isTimed 19 = .ok (.goto 4, 3) := by decide +kernel
theorem dX9_isTimed_22 : decode cX9_isTimed 22 = .ok (.iconst 0, 1) := by decide +kernel
theorem dX9_isTimed_23 : decode cX9_isTimed 23 = .ok (.ireturn, 1) := by decide +kernel
theorem dX9_beyond_0 : decode cX9_beyond 0 = .ok (.aload_n 0, 1) := by decide +kernel
theorem dX9_beyond_1 : decode cX9_beyond 1 = .ok (.iload_n 1, 1) := by decide +kernel
theorem dX9_beyond_2 : decode cX9_beyond 2 = .ok (.invokevirtual 200, 3) := by decide +kernel
theorem dX9_beyond_5 : decode cX9_beyond 5 = .ok (.ifCond .eq 26, 3) := by decide +kernel
theorem dX9_beyond_8 : decode cX9_beyond 8 = .ok (.aload_n 0, 1) := by decide +kernel
theorem dX9_beyond_9 : decode cX9_beyond 9 = .ok (.getfield 148, 3) := by decide +kernel
theorem dX9_beyond_12 : decode cX9_beyond 12 = .ok (.aload_n 0, 1) := by decide +kernel
theorem dX9_beyond_13 : decode cX9_beyond 13 = .ok (.getfield 86, 3) := by decide +kernel
theorem dX9_beyond_16 : decode cX9_beyond 16 = .ok (.iload_n 1, 1) := by decide +kernel
theorem dX9_beyond_17 : decode cX9_beyond 17 = .ok (.iaload, 1) := by decide +kernel
theorem dX9_beyond_18 : decode cX9_beyond 18 = .ok (.isub, 1) := by decide +kernel
theorem dX9_beyond_19 : decode cX9_beyond 19 = .ok (.aload_n 0, 1) := by decide +kernel
theorem dX9_beyond_20 : decode cX9_beyond 20 = .ok (.getfield 89, 3) := by decide +kernel
theorem dX9_beyond_23 : decode cX9_beyond 23 = .ok (.iload_n 1, 1) := by decide +kernel
theorem dX9_beyond_24 : decode cX9_beyond 24 = .ok (.iaload, 1) := by decide +kernel
theorem dX9_beyond_25 : decode cX9_beyond 25 = .ok (.isub, 1) := by decide +kernel
theorem dX9_beyond_26 : decode cX9_beyond 26 = .ok (.iconst 1, 1) := by decide +kernel
theorem dX9_beyond_27 : decode cX9_beyond 27 = .ok (.iadd, 1) := by decide +kernel
theorem dX9_beyond_28 : decode cX9_beyond 28 = .ok (.goto 4, 3) := by decide +kernel
theorem dX9_beyond_31 : decode cX9_beyond 31 = .ok (.iconst 0, 1) := by decide +kernel
theorem dX9_beyond_32 : decode cX9_beyond 32 = .ok (.ireturn, 1) := by decide +kernel
theorem dX9_out_0 : decode cX9_out 0 = .ok (.aload_n 0, 1) := by decide +kernel
theorem dX9_out_1 : decode cX9_out 1 = .ok (.iload_n 1, 1) := by decide +kernel
theorem dX9_out_2 : decode cX9_out 2 = .ok (.invokevirtual 185, 3) := by decide +kernel
theorem dX9_out_5 : decode cX9_out 5 = .ok (.ifCond .eq 12, 3) := by decide +kernel
theorem dX9_out_8 : decode cX9_out 8 = .ok (.aload_n 0, 1) := by decide +kernel
theorem dX9_out_9 : decode cX9_out 9 = .ok (.getfield 92, 3) := by decide +kernel
theorem dX9_out_12 : decode cX9_out 12 = .ok (.iload_n 1, 1) := by decide +kernel
theorem dX9_out_13 : decode cX9_out 13 = .ok (.baload, 1) := by decide +kernel
theorem dX9_out_14 : decode cX9_out 14 = .ok (.ifCond .ne 5, 3) := by decide +kernel
theorem dX9_out_17 : decode cX9_out 17 = .ok (.iconst (-1), 1) := by decide +kernel
theorem dX9_out_18 : decode cX9_out 18 = .ok (.ireturn, 1) := by decide +kernel
theorem dX9_out_19 : decode cX9_out 19 = .ok (.aload_n 0, 1) := by decide +kernel
theorem dX9_out_20 : decode cX9_out 20 = .ok (.getfield 74, 3) := by decide +kernel
theorem dX9_out_23 : decode cX9_out 23 = .ok (.iload_n 1, 1) := by decide +kernel
theorem dX9_out_24 : decode cX9_out 24 = .ok (.iaload, 1) := by decide +kernel
theorem dX9_out_25 : decode cX9_out 25 = .ok (.istore_n 2, 1) := by decide +kernel
theorem dX9_out_26 : decode cX9_out 26 = .ok (.aload_n 0, 1) := by decide +kernel
theorem dX9_out_27 : decode cX9_out 27 = .ok (.getfield 44, 3) := by decide +kernel
theorem dX9_out_30 : decode cX9_out 30 = .ok (.iload_n 2, 1) := by decide +kernel
theorem dX9_out_31 : decode cX9_out 31 = .ok (.iaload, 1) := by decide +kernel
theorem dX9_out_32 : decode cX9_out 32 = .ok (.iconst 3, 1) := by decide +kernel
theorem dX9_out_33 : decode cX9_out 33 = .ok (.if_icmp .ne 6, 3) := by decide +kernel
theorem dX9_out_36 : decode cX9_out 36 = .ok (.bipush (-2), 2) := by decide +kernel
theorem dX9_out_38 : decode cX9_out 38 = .ok (.ireturn, 1) := by decide +kernel
theorem dX9_out_39 : decode cX9_out 39 = .ok (.aload_n 0, 1) := by decide +kernel
theorem dX9_out_40 : decode cX9_out 40 = .ok (.iload_n 1, 1) := by decide +kernel
theorem dX9_out_41 : decode cX9_out 41 = .ok (.invokevirtual 203, 3) := by decide +kernel
theorem dX9_out_44 : decode cX9_out 44 = .ok (.istore_n 3, 1) := by decide +kernel
theorem dX9_out_45 : decode cX9_out 45 = .ok (.iload_n 3, 1) := by decide +kernel
theorem dX9_out_46 : decode cX9_out 46 = .ok (.ifCond .le 16, 3) := by decide +kernel
theorem dX9_out_49 : decode cX9_out 49 = .ok (.bipush 20, 2) := by decide +kernel
theorem dX9_out_51 : decode cX9_out 51 = .ok (.iload_n 3, 1) := by decide +kernel
theorem dX9_out_52 : decode cX9_out 52 = .ok (.bipush 14, 2) := by decide +kernel
theorem dX9_out_54 : decode cX9_out 54 = .ok (.iadd, 1) := by decide +kernel
theorem dX9_out_55 : decode cX9_out 55 = .ok (.bipush 15, 2) := by decide +kernel
theorem dX9_out_57 : decode cX9_out 57 = .ok (.idiv, 1) := by decide +kernel
theorem dX9_out_58 : decode cX9_out 58 = .ok (.imul, 1) := by decide +kernel
theorem dX9_out_59 : decode cX9_out 59 = .ok (.goto 4, 3) := by decide +kernel
theorem dX9_out_62 : decode cX9_out 62 = .ok (.iconst 0, 1) := by decide +kernel
theorem dX9_out_63 : decode cX9_out 63 = .ok (.istore 4, 2) := by decide +kernel
theorem dX9_out_65 : decode cX9_out 65 = .ok (.aload_n 0, 1) := by decide +kernel
theorem dX9_out_66 : decode cX9_out 66 = .ok (.getfield 95, 3) := by decide +kernel
theorem dX9_out_69 : decode cX9_out 69 = .ok (.iload_n 1, 1) := by decide +kernel
theorem dX9_out_70 : decode cX9_out 70 = .ok (.dup2, 1) := by decide +kernel
theorem dX9_out_71 : decode cX9_out 71 = .ok (.iaload, 1) := by decide +kernel
theorem dX9_out_72 : decode cX9_out 72 = .ok (.iload 4, 2) := by decide +kernel
theorem dX9_out_74 : decode cX9_out 74 = .ok (.iadd, 1) := by decide +kernel
theorem dX9_out_75 : decode cX9_out 75 = .ok (.iastore, 1) := by decide +kernel
theorem dX9_out_76 : decode cX9_out 76 = .ok (.aload_n 0, 1) := by decide +kernel
theorem dX9_out_77 : decode cX9_out 77 = .ok (.getfield 92, 3) := by decide +kernel
theorem dX9_out_80 : decode cX9_out 80 = .ok (.iload_n 1, 1) := by decide +kernel
theorem dX9_out_81 : decode cX9_out 81 = .ok (.iconst 0, 1) := by decide +kernel
theorem dX9_out_82 : decode cX9_out 82 = .ok (.bastore, 1) := by decide +kernel
theorem dX9_out_83 : decode cX9_out 83 = .ok (.aload_n 0, 1) := by decide +kernel
theorem dX9_out_84 : decode cX9_out 84 = .ok (.getfield 44, 3) := by decide +kernel
theorem dX9_out_87 : decode cX9_out 87 = .ok (.iload_n 2, 1) := by decide +kernel
theorem dX9_out_88 : decode cX9_out 88 = .ok (.dup2, 1) := by decide +kernel
theorem dX9_out_89 : decode cX9_out 89 = .ok (.iaload, 1) := by decide +kernel
theorem dX9_out_90 : decode cX9_out 90 = .ok (.iconst 1, 1) := by decide +kernel
theorem dX9_out_91 : decode cX9_out 91 = .ok (.iadd, 1) := by decide +kernel
theorem dX9_out_92 : decode cX9_out 92 = .ok (.iastore, 1) := by decide +kernel
theorem dX9_out_93 : decode cX9_out 93 = .ok (.aload_n 0, 1) := by decide +kernel
theorem dX9_out_94 : decode cX9_out 94 = .ok (.getfield 32, 3) := by decide +kernel
theorem dX9_out_97 : decode cX9_out 97 = .ok (.iload_n 2, 1) := by decide +kernel
theorem dX9_out_98 : decode cX9_out 98 = .ok (.dup2, 1) := by decide +kernel
theorem dX9_out_99 : decode cX9_out 99 = .ok (.iaload, 1) := by decide +kernel
theorem dX9_out_100 : decode cX9_out 100 = .ok (.aload_n 0, 1) := by decide +kernel
theorem dX9_out_101 : decode cX9_out 101 = .ok (.getfield 38, 3) := by decide +kernel
theorem dX9_out_104 : decode cX9_out 104 = .ok (.iload_n 2, 1) := by decide +kernel
theorem dX9_out_105 : decode cX9_out 105 = .ok (.baload, 1) := by decide +kernel
theorem dX9_out_106 : decode cX9_out 106 = .ok (.ifCond .eq 7, 3) := by decide +kernel
theorem dX9_out_109 : decode cX9_out 109 = .ok (.iconst 1, 1) := by decide +kernel
theorem dX9_out_110 : decode cX9_out 110 = .ok (.goto 4, 3) := by decide +kernel
theorem dX9_out_113 : decode cX9_out 113 = .ok (.iconst 0, 1) := by decide +kernel
theorem dX9_out_114 : decode cX9_out 114 = .ok (.iadd, 1) := by decide +kernel
theorem dX9_out_115 : decode cX9_out 115 = .ok (.iastore, 1) := by decide +kernel
theorem dX9_out_116 : decode cX9_out 116 = .ok (.iconst 0, 1) := by decide +kernel
theorem dX9_out_117 : decode cX9_out 117 = .ok (.istore 5, 2) := by decide +kernel
theorem dX9_out_119 : decode cX9_out 119 = .ok (.iload 5, 2) := by decide +kernel
theorem dX9_out_121 : decode cX9_out 121 = .ok (.iconst 3, 1) := by decide +kernel
theorem dX9_out_122 : decode cX9_out 122 = .ok (.if_icmp .ge 34, 3) := by decide +kernel
theorem dX9_out_125 : decode cX9_out 125 = .ok (.aload_n 0, 1) := by decide +kernel
theorem dX9_out_126 : decode cX9_out 126 = .ok (.getfield 68, 3) := by decide +kernel
theorem dX9_out_129 : decode cX9_out 129 = .ok (.iconst 3, 1) := by decide +kernel
theorem dX9_out_130 : decode cX9_out 130 = .ok (.iload_n 2, 1) := by decide +kernel
theorem dX9_out_131 : decode cX9_out 131 = .ok (.imul, 1) := by decide +kernel
theorem dX9_out_132 : decode cX9_out 132 = .ok (.iload 5, 2) := by decide +kernel
theorem dX9_out_134 : decode cX9_out 134 = .ok (.iadd, 1) := by decide +kernel
theorem dX9_out_135 : decode cX9_out 135 = .ok (.iaload, 1) := by decide +kernel
theorem dX9_out_136 : decode cX9_out 136 = .ok (.iload_n 1, 1) := by decide +kernel
theorem dX9_out_137 : decode cX9_out 137 = .ok (.if_icmp .ne 13, 3) := by decide +kernel
theorem dX9_out_140 : decode cX9_out 140 = .ok (.aload_n 0, 1) := by decide +kernel
theorem dX9_out_141 : decode cX9_out 141 = .ok (.iconst 3, 1) := by decide +kernel
theorem dX9_out_142 : decode cX9_out 142 = .ok (.iload_n 2, 1) := by decide +kernel
theorem dX9_out_143 : decode cX9_out 143 = .ok (.imul, 1) := by decide +kernel
theorem dX9_out_144 : decode cX9_out 144 = .ok (.iload 5, 2) := by decide +kernel
theorem dX9_out_146 : decode cX9_out 146 = .ok (.iadd, 1) := by decide +kernel
theorem dX9_out_147 : decode cX9_out 147 = .ok (.invokevirtual 206, 3) := by decide +kernel
theorem dX9_out_150 : decode cX9_out 150 = .ok (.iinc 5 1, 3) := by decide +kernel
theorem dX9_out_153 : decode cX9_out 153 = .ok (.goto (-34), 3) := by decide +kernel
theorem dX9_out_156 : decode cX9_out 156 = .ok (.aload_n 0, 1) := by decide +kernel
theorem dX9_out_157 : decode cX9_out 157 = .ok (.iload_n 1, 1) := by decide +kernel
theorem dX9_out_158 : decode cX9_out 158 = .ok (.invokevirtual 210, 3) := by decide +kernel
theorem dX9_out_161 : decode cX9_out 161 = .ok (.istore 5, 2) := by decide +kernel
theorem dX9_out_163 : decode cX9_out 163 = .ok (.iload 5, 2) := by decide +kernel
theorem dX9_out_165 : decode cX9_out 165 = .ok (.iconst (-1), 1) := by decide +kernel
theorem dX9_out_166 : decode cX9_out 166 = .ok (.if_icmp .eq 19, 3) := by decide +kernel
theorem dX9_out_169 : decode cX9_out 169 = .ok (.aload_n 0, 1) := by decide +kernel
theorem dX9_out_170 : decode cX9_out 170 = .ok (.getfield 104, 3) := by decide +kernel
theorem dX9_out_173 : decode cX9_out 173 = .ok (.iload 5, 2) := by decide +kernel
theorem dX9_out_175 : decode cX9_out 175 = .ok (.iconst (-1), 1) := by decide +kernel
theorem dX9_out_176 : decode cX9_out 176 = .ok (.iastore, 1) := by decide +kernel
theorem dX9_out_177 : decode cX9_out 177 = .ok (.aload_n 0, 1) := by decide +kernel
theorem dX9_out_178 : decode cX9_out 178 = .ok (.getfield 107, 3) := by decide +kernel
theorem dX9_out_181 : decode cX9_out 181 = .ok (.iload 5, 2) := by decide +kernel
theorem dX9_out_183 : decode cX9_out 183 = .ok (.iload_n 1, 1) := by decide +kernel
theorem dX9_out_184 : decode cX9_out 184 = .ok (.iastore, 1) := by decide +kernel
theorem dX9_out_185 : decode cX9_out 185 = .ok (.iload 4, 2) := by decide +kernel
theorem dX9_out_187 : decode cX9_out 187 = .ok (.ireturn, 1) := by decide +kernel
theorem dX9_leaves_0 : decode cX9_leaves 0 = .ok (.aload_n 0, 1) := by decide +kernel
theorem dX9_leaves_1 : decode cX9_leaves 1 = .ok (.getfield 101, 3) := by decide +kernel
theorem dX9_leaves_4 : decode cX9_leaves 4 = .ok (.aload_n 0, 1) := by decide +kernel
theorem dX9_leaves_5 : decode cX9_leaves 5 = .ok (.getfield 68, 3) := by decide +kernel
theorem dX9_leaves_8 : decode cX9_leaves 8 = .ok (.iload_n 1, 1) := by decide +kernel
theorem dX9_leaves_9 : decode cX9_leaves 9 = .ok (.iaload, 1) := by decide +kernel
theorem dX9_leaves_10 : decode cX9_leaves 10 = .ok (.aload_n 0, 1) := by decide +kernel
theorem dX9_leaves_11 : decode cX9_leaves 11 = .ok (.getfield 148, 3) := by decide +kernel
theorem dX9_leaves_14 : decode cX9_leaves 14 = .ok (.iastore, 1) := by decide +kernel
theorem dX9_leaves_15 : decode cX9_leaves 15 = .ok (.aload_n 0, 1) := by decide +kernel
theorem dX9_leaves_16 : decode cX9_leaves 16 = .ok (.getfield 68, 3) := by decide +kernel
theorem dX9_leaves_19 : decode cX9_leaves 19 = .ok (.iload_n 1, 1) := by decide +kernel
theorem dX9_leaves_20 : decode cX9_leaves 20 = .ok (.iconst (-1), 1) := by decide +kernel
theorem dX9_leaves_21 : decode cX9_leaves 21 = .ok (.iastore, 1) := by decide +kernel
theorem dX9_leaves_22 : decode cX9_leaves 22 = .ok (.return_, 1) := by decide +kernel
theorem dX9_post_0 : decode cX9_post 0 = .ok (.aload_n 0, 1) := by decide +kernel
theorem dX9_post_1 : decode cX9_post 1 = .ok (.iload_n 1, 1) := by decide +kernel
theorem dX9_post_2 : decode cX9_post 2 = .ok (.invokevirtual 165, 3) := by decide +kernel
theorem dX9_post_5 : decode cX9_post 5 = .ok (.ifCond .eq 72, 3) := by decide +kernel
theorem dX9_post_8 : decode cX9_post 8 = .ok (.iload_n 2, 1) := by decide +kernel
theorem dX9_post_9 : decode cX9_post 9 = .ok (.iconst 0, 1) := by decide +kernel
theorem dX9_post_10 : decode cX9_post 10 = .ok (.aload_n 0, 1) := by decide +kernel
theorem dX9_post_11 : decode cX9_post 11 = .ok (.getfield 20, 3) := by decide +kernel
theorem dX9_post_14 : decode cX9_post 14 = .ok (.iload_n 1, 1) := by decide +kernel
theorem dX9_post_15 : decode cX9_post 15 = .ok (.iaload, 1) := by decide +kernel
theorem dX9_post_16 : decode cX9_post 16 = .ok (.iconst 1, 1) := by decide +kernel
theorem dX9_post_17 : decode cX9_post 17 = .ok (.isub, 1) := by decide +kernel
theorem dX9_post_18 : decode cX9_post 18 = .ok (.invokestatic 141, 3) := by decide +kernel
theorem dX9_post_21 : decode cX9_post 21 = .ok (.ifCond .eq 56, 3) := by decide +kernel
theorem dX9_post_24 : decode cX9_post 24 = .ok (.aload_n 0, 1) := by decide +kernel
theorem dX9_post_25 : decode cX9_post 25 = .ok (.iload_n 3, 1) := by decide +kernel
theorem dX9_post_26 : decode cX9_post 26 = .ok (.invokevirtual 185, 3) := by decide +kernel
theorem dX9_post_29 : decode cX9_post 29 = .ok (.ifCond .eq 48, 3) := by decide +kernel
theorem dX9_post_32 : decode cX9_post 32 = .ok (.aload_n 0, 1) := by decide +kernel
theorem dX9_post_33 : decode cX9_post 33 = .ok (.getfield 77, 3) := by decide +kernel
theorem dX9_post_36 : decode cX9_post 36 = .ok (.iload_n 3, 1) := by decide +kernel
theorem dX9_post_37 : decode cX9_post 37 = .ok (.iaload, 1) := by decide +kernel
theorem dX9_post_38 : decode cX9_post 38 = .ok (.iconst 5, 1) := by decide +kernel
theorem dX9_post_39 : decode cX9_post 39 = .ok (.if_icmp .ne 38, 3) := by decide +kernel
theorem dX9_post_42 : decode cX9_post 42 = .ok (.aload_n 0, 1) := by decide +kernel
theorem dX9_post_43 : decode cX9_post 43 = .ok (.getfield 92, 3) := by decide +kernel
theorem dX9_post_46 : decode cX9_post 46 = .ok (.iload_n 3, 1) := by decide +kernel
theorem dX9_post_47 : decode cX9_post 47 = .ok (.baload, 1) := by decide +kernel
theorem dX9_post_48 : decode cX9_post 48 = .ok (.ifCond .eq 29, 3) := by decide +kernel
theorem dX9_post_51 : decode cX9_post 51 = .ok (.aload_n 0, 1) := by decide +kernel
theorem dX9_post_52 : decode cX9_post 52 = .ok (.getfield 74, 3) := by decide +kernel
theorem dX9_post_55 : decode cX9_post 55 = .ok (.iload_n 3, 1) := by decide +kernel
theorem dX9_post_56 : decode cX9_post 56 = .ok (.iaload, 1) := by decide +kernel
theorem dX9_post_57 : decode cX9_post 57 = .ok (.iload_n 1, 1) := by decide +kernel
theorem dX9_post_58 : decode cX9_post 58 = .ok (.if_icmp .ne 19, 3) := by decide +kernel
theorem dX9_post_61 : decode cX9_post 61 = .ok (.aload_n 0, 1) := by decide +kernel
theorem dX9_post_62 : decode cX9_post 62 = .ok (.getfield 148, 3) := by decide +kernel
theorem dX9_post_65 : decode cX9_post 65 = .ok (.aload_n 0, 1) := by decide +kernel
theorem dX9_post_66 : decode cX9_post 66 = .ok (.getfield 101, 3) := by decide +kernel
theorem dX9_post_69 : decode cX9_post 69 = .ok (.iload_n 3, 1) := by decide +kernel
theorem dX9_post_70 : decode cX9_post 70 = .ok (.iaload, 1) := by decide +kernel
theorem dX9_post_71 : decode cX9_post 71 = .ok (.isub, 1) := by decide +kernel
theorem dX9_post_72 : decode cX9_post 72 = .ok (.bipush 20, 2) := by decide +kernel
theorem dX9_post_74 : decode cX9_post 74 = .ok (.if_icmp .ge 6, 3) := by decide +kernel
theorem dX9_post_77 : decode cX9_post 77 = .ok (.bipush (-2), 2) := by decide +kernel
theorem dX9_post_79 : decode cX9_post 79 = .ok (.ireturn, 1) := by decide +kernel
theorem dX9_post_80 : decode cX9_post 80 = .ok (.iconst 0, 1) := by decide +kernel
theorem dX9_post_81 : decode cX9_post 81 = .ok (.istore 4, 2) := by decide +kernel
theorem dX9_post_83 : decode cX9_post 83 = .ok (.iload 4, 2) := by decide +kernel
theorem dX9_post_85 : decode cX9_post 85 = .ok (.iconst 3, 1) := by decide +kernel
theorem dX9_post_86 : decode cX9_post 86 = .ok (.if_icmp .ge 27, 3) := by decide +kernel
theorem dX9_post_89 : decode cX9_post 89 = .ok (.aload_n 0, 1) := by decide +kernel
theorem dX9_post_90 : decode cX9_post 90 = .ok (.getfield 68, 3) := by decide +kernel
theorem dX9_post_93 : decode cX9_post 93 = .ok (.iconst 3, 1) := by decide +kernel
theorem dX9_post_94 : decode cX9_post 94 = .ok (.iload_n 1, 1) := by decide +kernel
theorem dX9_post_95 : decode cX9_post 95 = .ok (.imul, 1) := by decide +kernel
theorem dX9_post_96 : decode cX9_post 96 = .ok (.iload 4, 2) := by decide +kernel
theorem dX9_post_98 : decode cX9_post 98 = .ok (.iadd, 1) := by decide +kernel
theorem dX9_post_99 : decode cX9_post 99 = .ok (.iaload, 1) := by decide +kernel
theorem dX9_post_100 : decode cX9_post 100 = .ok (.iload_n 3, 1) := by decide +kernel
theorem dX9_post_101 : decode cX9_post 101 = .ok (.if_icmp .ne 6, 3) := by decide +kernel
theorem dX9_post_104 : decode cX9_post 104 = .ok (.bipush (-2), 2) := by decide +kernel
theorem dX9_post_106 : decode cX9_post 106 = .ok (.ireturn, 1) := by decide +kernel
theorem dX9_post_107 : decode cX9_post 107 = .ok (.iinc 4 1, 3) := by decide +kernel
theorem dX9_post_110 : decode cX9_post 110 = .ok (.goto (-27), 3) := by decide +kernel
theorem dX9_post_113 : decode cX9_post 113 = .ok (.iconst 3, 1) := by decide +kernel
theorem dX9_post_114 : decode cX9_post 114 = .ok (.iload_n 1, 1) := by decide +kernel
theorem dX9_post_115 : decode cX9_post 115 = .ok (.imul, 1) := by decide +kernel
theorem dX9_post_116 : decode cX9_post 116 = .ok (.iload_n 2, 1) := by decide +kernel
theorem dX9_post_117 : decode cX9_post 117 = .ok (.iadd, 1) := by decide +kernel
theorem dX9_post_118 : decode cX9_post 118 = .ok (.istore 4, 2) := by decide +kernel
theorem dX9_post_120 : decode cX9_post 120 = .ok (.aload_n 0, 1) := by decide +kernel
theorem dX9_post_121 : decode cX9_post 121 = .ok (.getfield 68, 3) := by decide +kernel
theorem dX9_post_124 : decode cX9_post 124 = .ok (.iload 4, 2) := by decide +kernel
theorem dX9_post_126 : decode cX9_post 126 = .ok (.iaload, 1) := by decide +kernel
theorem dX9_post_127 : decode cX9_post 127 = .ok (.istore 5, 2) := by decide +kernel
theorem dX9_post_129 : decode cX9_post 129 = .ok (.iload 5, 2) := by decide +kernel
theorem dX9_post_131 : decode cX9_post 131 = .ok (.iconst (-1), 1) := by decide +kernel
theorem dX9_post_132 : decode cX9_post 132 = .ok (.if_icmp .eq 9, 3) := by decide +kernel
theorem dX9_post_135 : decode cX9_post 135 = .ok (.aload_n 0, 1) := by decide +kernel
theorem dX9_post_136 : decode cX9_post 136 = .ok (.iload 4, 2) := by decide +kernel
theorem dX9_post_138 : decode cX9_post 138 = .ok (.invokevirtual 206, 3) := by decide +kernel
theorem dX9_post_141 : decode cX9_post 141 = .ok (.aload_n 0, 1) := by decide +kernel
theorem dX9_post_142 : decode cX9_post 142 = .ok (.getfield 68, 3) := by decide +kernel
theorem dX9_post_145 : decode cX9_post 145 = .ok (.iload 4, 2) := by decide +kernel
theorem dX9_post_147 : decode cX9_post 147 = .ok (.iload_n 3, 1) := by decide +kernel
theorem dX9_post_148 : decode cX9_post 148 = .ok (.iastore, 1) := by decide +kernel
theorem dX9_post_149 : decode cX9_post 149 = .ok (.aload_n 0, 1) := by decide +kernel
theorem dX9_post_150 : decode cX9_post 150 = .ok (.getfield 71, 3) := by decide +kernel
theorem dX9_post_153 : decode cX9_post 153 = .ok (.iload 4, 2) := by decide +kernel
theorem dX9_post_155 : decode cX9_post 155 = .ok (.aload_n 0, 1) := by decide +kernel
theorem dX9_post_156 : decode cX9_post 156 = .ok (.getfield 148, 3) := by decide +kernel
theorem dX9_post_159 : decode cX9_post 159 = .ok (.iastore, 1) := by decide +kernel
theorem dX9_post_160 : decode cX9_post 160 = .ok (.iload 5, 2) := by decide +kernel
theorem dX9_post_162 : decode cX9_post 162 = .ok (.ireturn, 1) := by decide +kernel
theorem dX9_watcher_0 : decode cX9_watcher 0 = .ok (.aload_n 0, 1) := by decide +kernel
theorem dX9_watcher_1 : decode cX9_watcher 1 = .ok (.iload_n 1, 1) := by decide +kernel
theorem dX9_watcher_2 : decode cX9_watcher 2 = .ok (.invokevirtual 165, 3) := by decide +kernel
theorem dX9_watcher_5 : decode cX9_watcher 5 = .ok (.ifCond .eq 32, 3) := by decide +kernel
theorem dX9_watcher_8 : decode cX9_watcher 8 = .ok (.iload_n 2, 1) := by decide +kernel
theorem dX9_watcher_9 : decode cX9_watcher 9 = .ok (.iconst 0, 1) := by decide +kernel
theorem dX9_watcher_10 : decode cX9_watcher 10 = .ok (.aload_n 0, 1) := by decide +kernel
theorem dX9_watcher_11 : decode cX9_watcher 11 = .ok (.getfield 20, 3) := by decide +kernel
theorem dX9_watcher_14 : decode cX9_watcher 14 = .ok (.iload_n 1, 1) := by decide +kernel
theorem dX9_watcher_15 : decode cX9_watcher 15 = .ok (.iaload, 1) := by decide +kernel
theorem dX9_watcher_16 : decode cX9_watcher 16 = .ok (.iconst 1, 1) := by decide +kernel
theorem dX9_watcher_17 : decode cX9_watcher 17 = .ok (.isub, 1) := by decide +kernel
theorem dX9_watcher_18 : decode cX9_watcher 18 = .ok (.invokestatic 141, 3) := by decide +kernel
theorem dX9_watcher_21 : decode cX9_watcher 21 = .ok (.ifCond .eq 16, 3) := by decide +kernel
theorem dX9_watcher_24 : decode cX9_watcher 24 = .ok (.aload_n 0, 1) := by decide +kernel
theorem dX9_watcher_25 : decode cX9_watcher 25 = .ok (.getfield 68, 3) := by decide +kernel
theorem dX9_watcher_28 : decode cX9_watcher 28 = .ok (.iconst 3, 1) := by decide +kernel
theorem dX9_watcher_29 : decode cX9_watcher 29 = .ok (.iload_n 1, 1) := by decide +kernel
theorem dX9_watcher_30 : decode cX9_watcher 30 = .ok (.imul, 1) := by decide +kernel
theorem dX9_watcher_31 : decode cX9_watcher 31 = .ok (.iload_n 2, 1) := by decide +kernel
theorem dX9_watcher_32 : decode cX9_watcher 32 = .ok (.iadd, 1) := by decide +kernel
theorem dX9_watcher_33 : decode cX9_watcher 33 = .ok (.iaload, 1) := by decide +kernel
theorem dX9_watcher_34 : decode cX9_watcher 34 = .ok (.goto 4, 3) := by decide +kernel
theorem dX9_watcher_37 : decode cX9_watcher 37 = .ok (.iconst (-1), 1) := by decide +kernel
theorem dX9_watcher_38 : decode cX9_watcher 38 = .ok (.ireturn, 1) := by decide +kernel
theorem dX9_lockerOf_0 : decode cX9_lockerOf 0 = .ok (.iconst 0, 1) := by decide +kernel
theorem dX9_lockerOf_1 : decode cX9_lockerOf 1 = .ok (.istore_n 2, 1) := by decide +kernel
theorem dX9_lockerOf_2 : decode cX9_lockerOf 2 = .ok (.iload_n 2, 1) := by decide +kernel
theorem dX9_lockerOf_3 : decode cX9_lockerOf 3 = .ok (.bipush 30, 2) := by decide +kernel
theorem dX9_lockerOf_5 : decode cX9_lockerOf 5 = .ok (.if_icmp .ge 21, 3) := by decide +kernel
theorem dX9_lockerOf_8 : decode cX9_lockerOf 8 = .ok (.aload_n 0, 1) := by decide +kernel
theorem dX9_lockerOf_9 : decode cX9_lockerOf 9 = .ok (.getfield 104, 3) := by decide +kernel
theorem dX9_lockerOf_12 : decode cX9_lockerOf 12 = .ok (.iload_n 2, 1) := by decide +kernel
theorem dX9_lockerOf_13 : decode cX9_lockerOf 13 = .ok (.iaload, 1) := by decide +kernel
theorem dX9_lockerOf_14 : decode cX9_lockerOf 14 = .ok (.iload_n 1, 1) := by decide +kernel
theorem dX9_lockerOf_15 : decode cX9_lockerOf 15 = .ok (.if_icmp .ne 5, 3) := by decide +kernel
theorem dX9_lockerOf_18 : decode cX9_lockerOf 18 = .ok (.iload_n 2, 1) := by decide +kernel
theorem dX9_lockerOf_19 : decode cX9_lockerOf 19 = .ok (.ireturn, 1) := by decide +kernel
theorem dX9_lockerOf_20 : decode cX9_lockerOf 20 = .ok (.iinc 2 1, 3) := by decide +kernel
theorem dX9_lockerOf_23 : decode cX9_lockerOf 23 = .ok (.goto (-21), 3) := by decide +kernel
theorem dX9_lockerOf_26 : decode cX9_lockerOf 26 = .ok (.iconst (-1), 1) := by decide +kernel
theorem dX9_lockerOf_27 : decode cX9_lockerOf 27 = .ok (.ireturn, 1) := by decide +kernel
theorem dX9_key_0 : decode cX9_key 0 = .ok (.aload_n 0, 1) := by decide +kernel
theorem dX9_key_1 : decode cX9_key 1 = .ok (.iload_n 1, 1) := by decide +kernel
theorem dX9_key_2 : decode cX9_key 2 = .ok (.invokevirtual 185, 3) := by decide +kernel
theorem dX9_key_5 : decode cX9_key 5 = .ok (.ifCond .eq 21, 3) := by decide +kernel
theorem dX9_key_8 : decode cX9_key 8 = .ok (.aload_n 0, 1) := by decide +kernel
theorem dX9_key_9 : decode cX9_key 9 = .ok (.getfield 92, 3) := by decide +kernel
theorem dX9_key_12 : decode cX9_key 12 = .ok (.iload_n 1, 1) := by decide +kernel
theorem dX9_key_13 : decode cX9_key 13 = .ok (.baload, 1) := by decide +kernel
theorem dX9_key_14 : decode cX9_key 14 = .ok (.ifCond .eq 12, 3) := by decide +kernel
theorem dX9_key_17 : decode cX9_key 17 = .ok (.aload_n 0, 1) := by decide +kernel
theorem dX9_key_18 : decode cX9_key 18 = .ok (.iload_n 1, 1) := by decide +kernel
theorem dX9_key_19 : decode cX9_key 19 = .ok (.invokevirtual 210, 3) := by decide +kernel
theorem dX9_key_22 : decode cX9_key 22 = .ok (.iconst (-1), 1) := by decide +kernel
theorem dX9_key_23 : decode cX9_key 23 = .ok (.if_icmp .eq 5, 3) := by decide +kernel
theorem dX9_key_26 : decode cX9_key 26 = .ok (.iconst (-1), 1) := by decide +kernel
theorem dX9_key_27 : decode cX9_key 27 = .ok (.ireturn, 1) := by decide +kernel
theorem dX9_key_28 : decode cX9_key 28 = .ok (.iconst 0, 1) := by decide +kernel
theorem dX9_key_29 : decode cX9_key 29 = .ok (.istore_n 2, 1) := by decide +kernel
theorem dX9_key_30 : decode cX9_key 30 = .ok (.iload_n 2, 1) := by decide +kernel
theorem dX9_key_31 : decode cX9_key 31 = .ok (.bipush 30, 2) := by decide +kernel
theorem dX9_key_33 : decode cX9_key 33 = .ok (.if_icmp .ge 41, 3) := by decide +kernel
theorem dX9_key_36 : decode cX9_key 36 = .ok (.aload_n 0, 1) := by decide +kernel
theorem dX9_key_37 : decode cX9_key 37 = .ok (.getfield 104, 3) := by decide +kernel
theorem dX9_key_40 : decode cX9_key 40 = .ok (.iload_n 2, 1) := by decide +kernel
theorem dX9_key_41 : decode cX9_key 41 = .ok (.iaload, 1) := by decide +kernel
theorem dX9_key_42 : decode cX9_key 42 = .ok (.iconst (-1), 1) := by decide +kernel
theorem dX9_key_43 : decode cX9_key 43 = .ok (.if_icmp .ne 25, 3) := by decide +kernel
theorem dX9_key_46 : decode cX9_key 46 = .ok (.aload_n 0, 1) := by decide +kernel
theorem dX9_key_47 : decode cX9_key 47 = .ok (.getfield 107, 3) := by decide +kernel
theorem dX9_key_50 : decode cX9_key 50 = .ok (.iload_n 2, 1) := by decide +kernel
theorem dX9_key_51 : decode cX9_key 51 = .ok (.iaload, 1) := by decide +kernel
theorem dX9_key_52 : decode cX9_key 52 = .ok (.iconst (-1), 1) := by decide +kernel
theorem dX9_key_53 : decode cX9_key 53 = .ok (.if_icmp .eq 6, 3) := by decide +kernel
theorem dX9_key_56 : decode cX9_key 56 = .ok (.goto 12, 3) := by decide +kernel
theorem dX9_key_59 : decode cX9_key 59 = .ok (.aload_n 0, 1) := by decide +kernel
theorem dX9_key_60 : decode cX9_key 60 = .ok (.getfield 104, 3) := by decide +kernel
theorem dX9_key_63 : decode cX9_key 63 = .ok (.iload_n 2, 1) := by decide +kernel
theorem dX9_key_64 : decode cX9_key 64 = .ok (.iload_n 1, 1) := by decide +kernel
theorem dX9_key_65 : decode cX9_key 65 = .ok (.iastore, 1) := by decide +kernel
theorem dX9_key_66 : decode cX9_key 66 = .ok (.iload_n 2, 1) := by decide +kernel
theorem dX9_key_67 : decode cX9_key 67 = .ok (.ireturn, 1) := by decide +kernel
theorem dX9_key_68 : decode cX9_key 68 = .ok (.iinc 2 1, 3) := by decide +kernel
theorem dX9_key_71 : decode cX9_key 71 = .ok (.goto (-41), 3) := by decide +kernel
theorem dX9_key_74 : decode cX9_key 74 = .ok (.iconst (-1), 1) := by decide +kernel
theorem dX9_key_75 : decode cX9_key 75 = .ok (.ireturn, 1) := by decide +kernel
theorem dX9_give_0 : decode cX9_give 0 = .ok (.aload_n 0, 1) := by decide +kernel
theorem dX9_give_1 : decode cX9_give 1 = .ok (.iload_n 1, 1) := by decide +kernel
theorem dX9_give_2 : decode cX9_give 2 = .ok (.invokevirtual 185, 3) := by decide +kernel
theorem dX9_give_5 : decode cX9_give 5 = .ok (.ifCond .eq 11, 3) := by decide +kernel
theorem dX9_give_8 : decode cX9_give 8 = .ok (.aload_n 0, 1) := by decide +kernel
theorem dX9_give_9 : decode cX9_give 9 = .ok (.iload_n 1, 1) := by decide +kernel
theorem dX9_give_10 : decode cX9_give 10 = .ok (.invokevirtual 210, 3) := by decide +kernel
theorem dX9_give_13 : decode cX9_give 13 = .ok (.goto 4, 3) := by decide +kernel
theorem dX9_give_16 : decode cX9_give 16 = .ok (.iconst (-1), 1) := by decide +kernel
theorem dX9_give_17 : decode cX9_give 17 = .ok (.istore_n 2, 1) := by decide +kernel
theorem dX9_give_18 : decode cX9_give 18 = .ok (.iload_n 2, 1) := by decide +kernel
theorem dX9_give_19 : decode cX9_give 19 = .ok (.iconst (-1), 1) := by decide +kernel
theorem dX9_give_20 : decode cX9_give 20 = .ok (.if_icmp .eq 10, 3) := by decide +kernel
theorem dX9_give_23 : decode cX9_give 23 = .ok (.aload_n 0, 1) := by decide +kernel
theorem dX9_give_24 : decode cX9_give 24 = .ok (.getfield 104, 3) := by decide +kernel
theorem dX9_give_27 : decode cX9_give 27 = .ok (.iload_n 2, 1) := by decide +kernel
theorem dX9_give_28 : decode cX9_give 28 = .ok (.iconst (-1), 1) := by decide +kernel
theorem dX9_give_29 : decode cX9_give 29 = .ok (.iastore, 1) := by decide +kernel
theorem dX9_give_30 : decode cX9_give 30 = .ok (.iload_n 2, 1) := by decide +kernel
theorem dX9_give_31 : decode cX9_give 31 = .ok (.ireturn, 1) := by decide +kernel
theorem dX9_mend_0 : decode cX9_mend 0 = .ok (.iload_n 1, 1) := by decide +kernel
theorem dX9_mend_1 : decode cX9_mend 1 = .ok (.iconst 0, 1) := by decide +kernel
theorem dX9_mend_2 : decode cX9_mend 2 = .ok (.bipush 29, 2) := by decide +kernel
theorem dX9_mend_4 : decode cX9_mend 4 = .ok (.invokestatic 141, 3) := by decide +kernel
theorem dX9_mend_7 : decode cX9_mend 7 = .ok (.ifCond .eq 13, 3) := by decide +kernel
theorem dX9_mend_10 : decode cX9_mend 10 = .ok (.aload_n 0, 1) := by decide +kernel
theorem dX9_mend_11 : decode cX9_mend 11 = .ok (.getfield 107, 3) := by decide +kernel
theorem dX9_mend_14 : decode cX9_mend 14 = .ok (.iload_n 1, 1) := by decide +kernel
theorem dX9_mend_15 : decode cX9_mend 15 = .ok (.iaload, 1) := by decide +kernel
theorem dX9_mend_16 : decode cX9_mend 16 = .ok (.iconst (-1), 1) := by decide +kernel
theorem dX9_mend_17 : decode cX9_mend 17 = .ok (.if_icmp .ne 5, 3) := by decide +kernel
theorem dX9_mend_20 : decode cX9_mend 20 = .ok (.iconst (-1), 1) := by decide +kernel
theorem dX9_mend_21 : decode cX9_mend 21 = .ok (.ireturn, 1) := by decide +kernel
theorem dX9_mend_22 : decode cX9_mend 22 = .ok (.aload_n 0, 1) := by decide +kernel
theorem dX9_mend_23 : decode cX9_mend 23 = .ok (.getfield 107, 3) := by decide +kernel
theorem dX9_mend_26 : decode cX9_mend 26 = .ok (.iload_n 1, 1) := by decide +kernel
theorem dX9_mend_27 : decode cX9_mend 27 = .ok (.iaload, 1) := by decide +kernel
theorem dX9_mend_28 : decode cX9_mend 28 = .ok (.istore_n 2, 1) := by decide +kernel
theorem dX9_mend_29 : decode cX9_mend 29 = .ok (.aload_n 0, 1) := by decide +kernel
theorem dX9_mend_30 : decode cX9_mend 30 = .ok (.getfield 107, 3) := by decide +kernel
theorem dX9_mend_33 : decode cX9_mend 33 = .ok (.iload_n 1, 1) := by decide +kernel
theorem dX9_mend_34 : decode cX9_mend 34 = .ok (.iconst (-1), 1) := by decide +kernel
theorem dX9_mend_35 : decode cX9_mend 35 = .ok (.iastore, 1) := by decide +kernel
theorem dX9_mend_36 : decode cX9_mend 36 = .ok (.iload_n 2, 1) := by decide +kernel
theorem dX9_mend_37 : decode cX9_mend 37 = .ok (.ireturn, 1) := by decide +kernel
theorem dX9_locker_0 : decode cX9_locker 0 = .ok (.iload_n 1, 1) := by decide +kernel
theorem dX9_locker_1 : decode cX9_locker 1 = .ok (.iconst 0, 1) := by decide +kernel
theorem dX9_locker_2 : decode cX9_locker 2 = .ok (.bipush 29, 2) := by decide +kernel
theorem dX9_locker_4 : decode cX9_locker 4 = .ok (.invokestatic 141, 3) := by decide +kernel
theorem dX9_locker_7 : decode cX9_locker 7 = .ok (.ifCond .ne 8, 3) := by decide +kernel
theorem dX9_locker_10 : decode cX9_locker 10 = .ok (.bipush (-3), 2) := by decide +kernel
theorem dX9_locker_12 : decode cX9_locker 12 = .ok (.goto 24, 3) := by decide +kernel
theorem dX9_locker_15 : decode cX9_locker 15 = .ok (.aload_n 0, 1) := by decide +kernel
theorem dX9_locker_16 : decode cX9_locker 16 = .ok (.getfield 107, 3) := by decide +kernel
theorem dX9_locker_19 : decode cX9_locker 19 = .ok (.iload_n 1, 1) := by decide +kernel
theorem dX9_locker_20 : decode cX9_locker 20 = .ok (.iaload, 1) := by decide +kernel
theorem dX9_locker_21 : decode cX9_locker 21 = .ok (.iconst (-1), 1) := by decide +kernel
theorem dX9_locker_22 : decode cX9_locker 22 = .ok (.if_icmp .eq 8, 3) := by decide +kernel
theorem dX9_locker_25 : decode cX9_locker 25 = .ok (.bipush (-2), 2) := by decide +kernel
theorem dX9_locker_27 : decode cX9_locker 27 = .ok (.goto 9, 3) := by decide +kernel
theorem dX9_locker_30 : decode cX9_locker 30 = .ok (.aload_n 0, 1) := by decide +kernel
theorem dX9_locker_31 : decode cX9_locker 31 = .ok (.getfield 104, 3) := by decide +kernel
theorem dX9_locker_34 : decode cX9_locker 34 = .ok (.iload_n 1, 1) := by decide +kernel
theorem dX9_locker_35 : decode cX9_locker 35 = .ok (.iaload, 1) := by decide +kernel
theorem dX9_locker_36 : decode cX9_locker 36 = .ok (.ireturn, 1) := by decide +kernel
theorem dX9_count_0 : decode cX9_count 0 = .ok (.aload_n 0, 1) := by decide +kernel
theorem dX9_count_1 : decode cX9_count 1 = .ok (.iload_n 1, 1) := by decide +kernel
theorem dX9_count_2 : decode cX9_count 2 = .ok (.invokevirtual 165, 3) := by decide +kernel
theorem dX9_count_5 : decode cX9_count 5 = .ok (.ifCond .ne 5, 3) := by decide +kernel
theorem dX9_count_8 : decode cX9_count 8 = .ok (.iconst (-1), 1) := by decide +kernel
theorem dX9_count_9 : decode cX9_count 9 = .ok (.ireturn, 1) := by decide +kernel
theorem dX9_count_10 : decode cX9_count 10 = .ok (.iconst 0, 1) := by decide +kernel
theorem dX9_count_11 : decode cX9_count 11 = .ok (.istore_n 3, 1) := by decide +kernel
theorem dX9_count_12 : decode cX9_count 12 = .ok (.iload_n 2, 1) := by decide +kernel
theorem dX9_count_13 : decode cX9_count 13 = .ok (.tableswitch 178 0 7 #[47, 53, 59, 66, 73, 80, 120, 163], 47) := by decide +kernel
theorem dX9_count_60 : decode cX9_count 60 = .ok (.aload_n 0, 1) := by decide +kernel
theorem dX9_count_61 : decode cX9_count 61 = .ok (.iload_n 1, 1) := by decide +kernel
theorem dX9_count_62 : decode cX9_count 62 = .ok (.invokevirtual 155, 3) := by decide +kernel
theorem dX9_count_65 : decode cX9_count 65 = .ok (.ireturn, 1) := by decide +kernel
theorem dX9_count_66 : decode cX9_count 66 = .ok (.aload_n 0, 1) := by decide +kernel
theorem dX9_count_67 : decode cX9_count 67 = .ok (.iload_n 1, 1) := by decide +kernel
theorem dX9_count_68 : decode cX9_count 68 = .ok (.invokevirtual 158, 3) := by decide +kernel
theorem dX9_count_71 : decode cX9_count 71 = .ok (.ireturn, 1) := by decide +kernel
theorem dX9_count_72 : decode cX9_count 72 = .ok (.aload_n 0, 1) := by decide +kernel
theorem dX9_count_73 : decode cX9_count 73 = .ok (.iload_n 1, 1) := by decide +kernel
theorem dX9_count_74 : decode cX9_count 74 = .ok (.iconst 0, 1) := by decide +kernel
theorem dX9_count_75 : decode cX9_count 75 = .ok (.invokevirtual 168, 3) := by decide +kernel
theorem dX9_count_78 : decode cX9_count 78 = .ok (.ireturn, 1) := by decide +kernel
theorem dX9_count_79 : decode cX9_count 79 = .ok (.aload_n 0, 1) := by decide +kernel
theorem dX9_count_80 : decode cX9_count 80 = .ok (.iload_n 1, 1) := by decide +kernel
theorem dX9_count_81 : decode cX9_count 81 = .ok (.iconst 1, 1) := by decide +kernel
theorem dX9_count_82 : decode cX9_count 82 = .ok (.invokevirtual 168, 3) := by decide +kernel
theorem dX9_count_85 : decode cX9_count 85 = .ok (.ireturn, 1) := by decide +kernel
theorem dX9_count_86 : decode cX9_count 86 = .ok (.aload_n 0, 1) := by decide +kernel
theorem dX9_count_87 : decode cX9_count 87 = .ok (.getfield 13, 3) := by decide +kernel
theorem dX9_count_90 : decode cX9_count 90 = .ok (.iload_n 1, 1) := by decide +kernel
theorem dX9_count_91 : decode cX9_count 91 = .ok (.iaload, 1) := by decide +kernel
theorem dX9_count_92 : decode cX9_count 92 = .ok (.ireturn, 1) := by decide +kernel
theorem dX9_count_93 : decode cX9_count 93 = .ok (.iconst 0, 1) := by decide +kernel
theorem dX9_count_94 : decode cX9_count 94 = .ok (.istore 4, 2) := by decide +kernel
theorem dX9_count_96 : decode cX9_count 96 = .ok (.iload 4, 2) := by decide +kernel
theorem dX9_count_98 : decode cX9_count 98 = .ok (.aload_n 0, 1) := by decide +kernel
theorem dX9_count_99 : decode cX9_count 99 = .ok (.getfield 17, 3) := by decide +kernel
theorem dX9_count_102 : decode cX9_count 102 = .ok (.iload_n 1, 1) := by decide +kernel
theorem dX9_count_103 : decode cX9_count 103 = .ok (.iaload, 1) := by decide +kernel
theorem dX9_count_104 : decode cX9_count 104 = .ok (.if_icmp .ge 27, 3) := by decide +kernel
theorem dX9_count_107 : decode cX9_count 107 = .ok (.iload_n 3, 1) := by decide +kernel
theorem dX9_count_108 : decode cX9_count 108 = .ok (.aload_n 0, 1) := by decide +kernel
theorem dX9_count_109 : decode cX9_count 109 = .ok (.iload_n 1, 1) := by decide +kernel
theorem dX9_count_110 : decode cX9_count 110 = .ok (.iload 4, 2) := by decide +kernel
theorem dX9_count_112 : decode cX9_count 112 = .ok (.invokevirtual 213, 3) := by decide +kernel
theorem dX9_count_115 : decode cX9_count 115 = .ok (.ifCond .eq 7, 3) := by decide +kernel
theorem dX9_count_118 : decode cX9_count 118 = .ok (.iconst 1, 1) := by decide +kernel
theorem dX9_count_119 : decode cX9_count 119 = .ok (.goto 4, 3) := by decide +kernel
theorem dX9_count_122 : decode cX9_count 122 = .ok (.iconst 0, 1) := by decide +kernel
theorem dX9_count_123 : decode cX9_count 123 = .ok (.iadd, 1) := by decide +kernel
theorem dX9_count_124 : decode cX9_count 124 = .ok (.istore_n 3, 1) := by decide +kernel
theorem dX9_count_125 : decode cX9_count 125 = .ok (.iinc 4 1, 3) := by decide +kernel
theorem dX9_count_128 : decode cX9_count 128 = .ok (.goto (-32), 3) := by decide +kernel
theorem dX9_count_131 : decode cX9_count 131 = .ok (.iload_n 3, 1) := by decide +kernel
theorem dX9_count_132 : decode cX9_count 132 = .ok (.ireturn, 1) := by decide +kernel
theorem dX9_count_133 : decode cX9_count 133 = .ok (.iconst 0, 1) := by decide +kernel
theorem dX9_count_134 : decode cX9_count 134 = .ok (.istore 4, 2) := by decide +kernel
theorem dX9_count_136 : decode cX9_count 136 = .ok (.iload 4, 2) := by decide +kernel
theorem dX9_count_138 : decode cX9_count 138 = .ok (.aload_n 0, 1) := by decide +kernel
theorem dX9_count_139 : decode cX9_count 139 = .ok (.getfield 20, 3) := by decide +kernel
theorem dX9_count_142 : decode cX9_count 142 = .ok (.iload_n 1, 1) := by decide +kernel
theorem dX9_count_143 : decode cX9_count 143 = .ok (.iaload, 1) := by decide +kernel
theorem dX9_count_144 : decode cX9_count 144 = .ok (.if_icmp .ge 30, 3) := by decide +kernel
theorem dX9_count_147 : decode cX9_count 147 = .ok (.iload_n 3, 1) := by decide +kernel
theorem dX9_count_148 : decode cX9_count 148 = .ok (.aload_n 0, 1) := by decide +kernel
theorem dX9_count_149 : decode cX9_count 149 = .ok (.iconst 3, 1) := by decide +kernel
theorem dX9_count_150 : decode cX9_count 150 = .ok (.iload_n 1, 1) := by decide +kernel
theorem dX9_count_151 : decode cX9_count 151 = .ok (.imul, 1) := by decide +kernel
theorem dX9_count_152 : decode cX9_count 152 = .ok (.iload 4, 2) := by decide +kernel
theorem dX9_count_154 : decode cX9_count 154 = .ok (.iadd, 1) := by decide +kernel
theorem dX9_count_155 : decode cX9_count 155 = .ok (.invokevirtual 175, 3) := by decide +kernel
theorem dX9_count_158 : decode cX9_count 158 = .ok (.ifCond .eq 7, 3) := by decide +kernel
theorem dX9_count_161 : decode cX9_count 161 = .ok (.iconst 1, 1) := by decide +kernel
theorem dX9_count_162 : decode cX9_count 162 = .ok (.goto 4, 3) := by decide +kernel
theorem dX9_count_165 : decode cX9_count 165 = .ok (.iconst 0, 1) := by decide +kernel
theorem dX9_count_166 : decode cX9_count 166 = .ok (.iadd, 1) := by decide +kernel
theorem dX9_count_167 : decode cX9_count 167 = .ok (.istore_n 3, 1) := by decide +kernel
theorem dX9_count_168 : decode cX9_count 168 = .ok (.iinc 4 1, 3) := by decide +kernel
theorem dX9_count_171 : decode cX9_count 171 = .ok (.goto (-35), 3) := by decide +kernel
theorem dX9_count_174 : decode cX9_count 174 = .ok (.iload_n 3, 1) := by decide +kernel
theorem dX9_count_175 : decode cX9_count 175 = .ok (.ireturn, 1) := by decide +kernel
theorem dX9_count_176 : decode cX9_count 176 = .ok (.aload_n 0, 1) := by decide +kernel
theorem dX9_count_177 : decode cX9_count 177 = .ok (.getfield 38, 3) := by decide +kernel
theorem dX9_count_180 : decode cX9_count 180 = .ok (.iload_n 1, 1) := by decide +kernel
theorem dX9_count_181 : decode cX9_count 181 = .ok (.baload, 1) := by decide +kernel
theorem dX9_count_182 : decode cX9_count 182 = .ok (.ifCond .eq 7, 3) := by decide +kernel
theorem dX9_count_185 : decode cX9_count 185 = .ok (.iconst 1, 1) := by decide +kernel
theorem dX9_count_186 : decode cX9_count 186 = .ok (.goto 4, 3) := by decide +kernel
theorem dX9_count_189 : decode cX9_count 189 = .ok (.iconst 0, 1) := by decide +kernel
theorem dX9_count_190 : decode cX9_count 190 = .ok (.ireturn, 1) := by decide +kernel
theorem dX9_count_191 : decode cX9_count 191 = .ok (.iconst (-1), 1) := by decide +kernel
theorem dX9_count_192 : decode cX9_count 192 = .ok (.ireturn, 1) := by decide +kernel
theorem dX9_isFree_0 : decode cX9_isFree 0 = .ok (.iconst 0, 1) := by decide +kernel
theorem dX9_isFree_1 : decode cX9_isFree 1 = .ok (.istore_n 3, 1) := by decide +kernel
theorem dX9_isFree_2 : decode cX9_isFree 2 = .ok (.iload_n 3, 1) := by decide +kernel
theorem dX9_isFree_3 : decode cX9_isFree 3 = .ok (.aload_n 0, 1) := by decide +kernel
theorem dX9_isFree_4 : decode cX9_isFree 4 = .ok (.getfield 172, 3) := by decide +kernel
theorem dX9_isFree_7 : decode cX9_isFree 7 = .ok (.if_icmp .ge 43, 3) := by decide +kernel
theorem dX9_isFree_10 : decode cX9_isFree 10 = .ok (.aload_n 0, 1) := by decide +kernel
theorem dX9_isFree_11 : decode cX9_isFree 11 = .ok (.getfield 114, 3) := by decide +kernel
theorem dX9_isFree_14 : decode cX9_isFree 14 = .ok (.iload_n 3, 1) := by decide +kernel
theorem dX9_isFree_15 : decode cX9_isFree 15 = .ok (.iaload, 1) := by decide +kernel
theorem dX9_isFree_16 : decode cX9_isFree 16 = .ok (.iload_n 1, 1) := by decide +kernel
theorem dX9_isFree_17 : decode cX9_isFree 17 = .ok (.if_icmp .ne 27, 3) := by decide +kernel
theorem dX9_isFree_20 : decode cX9_isFree 20 = .ok (.aload_n 0, 1) := by decide +kernel
theorem dX9_isFree_21 : decode cX9_isFree 21 = .ok (.iload_n 3, 1) := by decide +kernel
theorem dX9_isFree_22 : decode cX9_isFree 22 = .ok (.invokevirtual 191, 3) := by decide +kernel
theorem dX9_isFree_25 : decode cX9_isFree 25 = .ok (.ifCond .eq 19, 3) := by decide +kernel
theorem dX9_isFree_28 : decode cX9_isFree 28 = .ok (.aload_n 0, 1) := by decide +kernel
theorem dX9_isFree_29 : decode cX9_isFree 29 = .ok (.getfield 117, 3) := by decide +kernel
theorem dX9_isFree_32 : decode cX9_isFree 32 = .ok (.iload_n 3, 1) := by decide +kernel
theorem dX9_isFree_33 : decode cX9_isFree 33 = .ok (.iaload, 1) := by decide +kernel
theorem dX9_isFree_34 : decode cX9_isFree 34 = .ok (.iload_n 2, 1) := by decide +kernel
theorem dX9_isFree_35 : decode cX9_isFree 35 = .ok (.ishr, 1) := by decide +kernel
theorem dX9_isFree_36 : decode cX9_isFree 36 = .ok (.iconst 1, 1) := by decide +kernel
theorem dX9_isFree_37 : decode cX9_isFree 37 = .ok (.iand, 1) := by decide +kernel
theorem dX9_isFree_38 : decode cX9_isFree 38 = .ok (.iconst 1, 1) := by decide +kernel
theorem dX9_isFree_39 : decode cX9_isFree 39 = .ok (.if_icmp .ne 5, 3) := by decide +kernel
theorem dX9_isFree_42 : decode cX9_isFree 42 = .ok (.iconst 0, 1) := by decide +kernel
theorem dX9_isFree_43 : decode cX9_isFree 43 = .ok (.ireturn, 1) := by decide +kernel
theorem dX9_isFree_44 : decode cX9_isFree 44 = .ok (.iinc 3 1, 3) := by decide +kernel
theorem dX9_isFree_47 : decode cX9_isFree 47 = .ok (.goto (-45), 3) := by decide +kernel
theorem dX9_isFree_50 : decode cX9_isFree 50 = .ok (.iconst 1, 1) := by decide +kernel
theorem dX9_isFree_51 : decode cX9_isFree 51 = .ok (.ireturn, 1) := by decide +kernel
theorem dX9_told_0 : decode cX9_told 0 = .ok (.aload_n 0, 1) := by decide +kernel
theorem dX9_told_1 : decode cX9_told 1 = .ok (.iload_n 1, 1) := by decide +kernel
theorem dX9_told_2 : decode cX9_told 2 = .ok (.invokevirtual 185, 3) := by decide +kernel
theorem dX9_told_5 : decode cX9_told 5 = .ok (.ifCond .ne 5, 3) := by decide +kernel
theorem dX9_told_8 : decode cX9_told 8 = .ok (.iconst (-1), 1) := by decide +kernel
theorem dX9_told_9 : decode cX9_told 9 = .ok (.ireturn, 1) := by decide +kernel
theorem dX9_told_10 : decode cX9_told 10 = .ok (.iload_n 2, 1) := by decide +kernel
theorem dX9_told_11 : decode cX9_told 11 = .ok (.tableswitch 121 0 7 #[45, 52, 59, 66, 81, 87, 94, 101], 45) := by decide +kernel
theorem dX9_told_56 : decode cX9_told 56 = .ok (.aload_n 0, 1) := by decide +kernel
theorem dX9_told_57 : decode cX9_told 57 = .ok (.getfield 74, 3) := by decide +kernel
theorem dX9_told_60 : decode cX9_told 60 = .ok (.iload_n 1, 1) := by decide +kernel
theorem dX9_told_61 : decode cX9_told 61 = .ok (.iaload, 1) := by decide +kernel
theorem dX9_told_62 : decode cX9_told 62 = .ok (.ireturn, 1) := by decide +kernel
theorem dX9_told_63 : decode cX9_told 63 = .ok (.aload_n 0, 1) := by decide +kernel
theorem dX9_told_64 : decode cX9_told 64 = .ok (.getfield 77, 3) := by decide +kernel
theorem dX9_told_67 : decode cX9_told 67 = .ok (.iload_n 1, 1) := by decide +kernel
theorem dX9_told_68 : decode cX9_told 68 = .ok (.iaload, 1) := by decide +kernel
theorem dX9_told_69 : decode cX9_told 69 = .ok (.ireturn, 1) := by decide +kernel
theorem dX9_told_70 : decode cX9_told 70 = .ok (.aload_n 0, 1) := by decide +kernel
theorem dX9_told_71 : decode cX9_told 71 = .ok (.getfield 86, 3) := by decide +kernel
theorem dX9_told_74 : decode cX9_told 74 = .ok (.iload_n 1, 1) := by decide +kernel
theorem dX9_told_75 : decode cX9_told 75 = .ok (.iaload, 1) := by decide +kernel
theorem dX9_told_76 : decode cX9_told 76 = .ok (.ireturn, 1) := by decide +kernel
theorem dX9_told_77 : decode cX9_told 77 = .ok (.aload_n 0, 1) := by decide +kernel
theorem dX9_told_78 : decode cX9_told 78 = .ok (.getfield 92, 3) := by decide +kernel
theorem dX9_told_81 : decode cX9_told 81 = .ok (.iload_n 1, 1) := by decide +kernel
theorem dX9_told_82 : decode cX9_told 82 = .ok (.baload, 1) := by decide +kernel
theorem dX9_told_83 : decode cX9_told 83 = .ok (.ifCond .eq 7, 3) := by decide +kernel
theorem dX9_told_86 : decode cX9_told 86 = .ok (.iconst 1, 1) := by decide +kernel
theorem dX9_told_87 : decode cX9_told 87 = .ok (.goto 4, 3) := by decide +kernel
theorem dX9_told_90 : decode cX9_told 90 = .ok (.iconst 0, 1) := by decide +kernel
theorem dX9_told_91 : decode cX9_told 91 = .ok (.ireturn, 1) := by decide +kernel
theorem dX9_told_92 : decode cX9_told 92 = .ok (.aload_n 0, 1) := by decide +kernel
theorem dX9_told_93 : decode cX9_told 93 = .ok (.iload_n 1, 1) := by decide +kernel
theorem dX9_told_94 : decode cX9_told 94 = .ok (.invokevirtual 210, 3) := by decide +kernel
theorem dX9_told_97 : decode cX9_told 97 = .ok (.ireturn, 1) := by decide +kernel
theorem dX9_told_98 : decode cX9_told 98 = .ok (.aload_n 0, 1) := by decide +kernel
theorem dX9_told_99 : decode cX9_told 99 = .ok (.getfield 95, 3) := by decide +kernel
theorem dX9_told_102 : decode cX9_told 102 = .ok (.iload_n 1, 1) := by decide +kernel
theorem dX9_told_103 : decode cX9_told 103 = .ok (.iaload, 1) := by decide +kernel
theorem dX9_told_104 : decode cX9_told 104 = .ok (.ireturn, 1) := by decide +kernel
theorem dX9_told_105 : decode cX9_told 105 = .ok (.aload_n 0, 1) := by decide +kernel
theorem dX9_told_106 : decode cX9_told 106 = .ok (.getfield 98, 3) := by decide +kernel
theorem dX9_told_109 : decode cX9_told 109 = .ok (.iload_n 1, 1) := by decide +kernel
theorem dX9_told_110 : decode cX9_told 110 = .ok (.iaload, 1) := by decide +kernel
theorem dX9_told_111 : decode cX9_told 111 = .ok (.ireturn, 1) := by decide +kernel
theorem dX9_told_112 : decode cX9_told 112 = .ok (.aload_n 0, 1) := by decide +kernel
theorem dX9_told_113 : decode cX9_told 113 = .ok (.getfield 92, 3) := by decide +kernel
theorem dX9_told_116 : decode cX9_told 116 = .ok (.iload_n 1, 1) := by decide +kernel
theorem dX9_told_117 : decode cX9_told 117 = .ok (.baload, 1) := by decide +kernel
theorem dX9_told_118 : decode cX9_told 118 = .ok (.ifCond .eq 12, 3) := by decide +kernel
theorem dX9_told_121 : decode cX9_told 121 = .ok (.aload_n 0, 1) := by decide +kernel
theorem dX9_told_122 : decode cX9_told 122 = .ok (.iload_n 1, 1) := by decide +kernel
theorem dX9_told_123 : decode cX9_told 123 = .ok (.invokevirtual 203, 3) := by decide +kernel
theorem dX9_told_126 : decode cX9_told 126 = .ok (.ineg, 1) := by decide +kernel
theorem dX9_told_127 : decode cX9_told 127 = .ok (.goto 4, 3) := by decide +kernel
theorem dX9_told_130 : decode cX9_told 130 = .ok (.iconst 0, 1) := by decide +kernel
theorem dX9_told_131 : decode cX9_told 131 = .ok (.ireturn, 1) := by decide +kernel
theorem dX9_told_132 : decode cX9_told 132 = .ok (.iconst (-1), 1) := by decide +kernel
theorem dX9_told_133 : decode cX9_told 133 = .ok (.ireturn, 1) := by decide +kernel
theorem dX9_pump_0 : decode cX9_pump 0 = .ok (.aload_n 0, 1) := by decide +kernel
theorem dX9_pump_1 : decode cX9_pump 1 = .ok (.iload_n 1, 1) := by decide +kernel
theorem dX9_pump_2 : decode cX9_pump 2 = .ok (.invokevirtual 165, 3) := by decide +kernel
theorem dX9_pump_5 : decode cX9_pump 5 = .ok (.ifCond .eq 24, 3) := by decide +kernel
theorem dX9_pump_8 : decode cX9_pump 8 = .ok (.iload_n 2, 1) := by decide +kernel
theorem dX9_pump_9 : decode cX9_pump 9 = .ok (.iconst 1, 1) := by decide +kernel
theorem dX9_pump_10 : decode cX9_pump 10 = .ok (.ldc 179, 2) := by decide +kernel
theorem dX9_pump_12 : decode cX9_pump 12 = .ok (.invokestatic 141, 3) := by decide +kernel
theorem dX9_pump_15 : decode cX9_pump 15 = .ok (.ifCond .eq 14, 3) := by decide +kernel
theorem dX9_pump_18 : decode cX9_pump 18 = .ok (.iload_n 3, 1) := by decide +kernel
theorem dX9_pump_19 : decode cX9_pump 19 = .ok (.iconst 1, 1) := by decide +kernel
theorem dX9_pump_20 : decode cX9_pump 20 = .ok (.sipush 10000, 3) := by decide +kernel
theorem dX9_pump_23 : decode cX9_pump 23 = .ok (.invokestatic 141, 3) := by decide +kernel
theorem dX9_pump_26 : decode cX9_pump 26 = .ok (.ifCond .ne 5, 3) := by decide +kernel
theorem dX9_pump_29 : decode cX9_pump 29 = .ok (.iconst 0, 1) := by decide +kernel
theorem dX9_pump_30 : decode cX9_pump 30 = .ok (.ireturn, 1) := by decide +kernel
theorem dX9_pump_31 : decode cX9_pump 31 = .ok (.aload_n 0, 1) := by decide +kernel
theorem dX9_pump_32 : decode cX9_pump 32 = .ok (.getfield 129, 3) := by decide +kernel
theorem dX9_pump_35 : decode cX9_pump 35 = .ok (.iload_n 1, 1) := by decide +kernel
theorem dX9_pump_36 : decode cX9_pump 36 = .ok (.iload_n 2, 1) := by decide +kernel
theorem dX9_pump_37 : decode cX9_pump 37 = .ok (.iastore, 1) := by decide +kernel
theorem dX9_pump_38 : decode cX9_pump 38 = .ok (.aload_n 0, 1) := by decide +kernel
theorem dX9_pump_39 : decode cX9_pump 39 = .ok (.getfield 132, 3) := by decide +kernel
theorem dX9_pump_42 : decode cX9_pump 42 = .ok (.iload_n 1, 1) := by decide +kernel
theorem dX9_pump_43 : decode cX9_pump 43 = .ok (.iload_n 3, 1) := by decide +kernel
theorem dX9_pump_44 : decode cX9_pump 44 = .ok (.iastore, 1) := by decide +kernel
theorem dX9_pump_45 : decode cX9_pump 45 = .ok (.iconst 1, 1) := by decide +kernel
theorem dX9_pump_46 : decode cX9_pump 46 = .ok (.ireturn, 1) := by decide +kernel
theorem dX9_price_0 : decode cX9_price 0 = .ok (.iload_n 1, 1) := by decide +kernel
theorem dX9_price_1 : decode cX9_price 1 = .ok (.iconst 0, 1) := by decide +kernel
theorem dX9_price_2 : decode cX9_price 2 = .ok (.bipush 23, 2) := by decide +kernel
theorem dX9_price_4 : decode cX9_price 4 = .ok (.invokestatic 141, 3) := by decide +kernel
theorem dX9_price_7 : decode cX9_price 7 = .ok (.ifCond .eq 14, 3) := by decide +kernel
theorem dX9_price_10 : decode cX9_price 10 = .ok (.iload_n 2, 1) := by decide +kernel
theorem dX9_price_11 : decode cX9_price 11 = .ok (.iconst 0, 1) := by decide +kernel
theorem dX9_price_12 : decode cX9_price 12 = .ok (.sipush 10000, 3) := by decide +kernel
theorem dX9_price_15 : decode cX9_price 15 = .ok (.invokestatic 141, 3) := by decide +kernel
theorem dX9_price_18 : decode cX9_price 18 = .ok (.ifCond .ne 5, 3) := by decide +kernel
theorem dX9_price_21 : decode cX9_price 21 = .ok (.iconst 0, 1) := by decide +kernel
theorem dX9_price_22 : decode cX9_price 22 = .ok (.ireturn, 1) := by decide +kernel
theorem dX9_price_23 : decode cX9_price 23 = .ok (.aload_n 0, 1) := by decide +kernel
theorem dX9_price_24 : decode cX9_price 24 = .ok (.getfield 135, 3) := by decide +kernel
theorem dX9_price_27 : decode cX9_price 27 = .ok (.iload_n 1, 1) := by decide +kernel
theorem dX9_price_28 : decode cX9_price 28 = .ok (.iload_n 2, 1) := by decide +kernel
theorem dX9_price_29 : decode cX9_price 29 = .ok (.iastore, 1) := by decide +kernel
theorem dX9_price_30 : decode cX9_price 30 = .ok (.iconst 1, 1) := by decide +kernel
theorem dX9_price_31 : decode cX9_price 31 = .ok (.ireturn, 1) := by decide +kernel
theorem dX9_turn_0 : decode cX9_turn 0 = .ok (.aload_n 0, 1) := by decide +kernel
theorem dX9_turn_1 : decode cX9_turn 1 = .ok (.iload_n 1, 1) := by decide +kernel
theorem dX9_turn_2 : decode cX9_turn 2 = .ok (.invokevirtual 165, 3) := by decide +kernel
theorem dX9_turn_5 : decode cX9_turn 5 = .ok (.ifCond .eq 23, 3) := by decide +kernel
theorem dX9_turn_8 : decode cX9_turn 8 = .ok (.aload_n 0, 1) := by decide +kernel
theorem dX9_turn_9 : decode cX9_turn 9 = .ok (.getfield 129, 3) := by decide +kernel
theorem dX9_turn_12 : decode cX9_turn 12 = .ok (.iload_n 1, 1) := by decide +kernel
theorem dX9_turn_13 : decode cX9_turn 13 = .ok (.iaload, 1) := by decide +kernel
theorem dX9_turn_14 : decode cX9_turn 14 = .ok (.ifCond .eq 14, 3) := by decide +kernel
theorem dX9_turn_17 : decode cX9_turn 17 = .ok (.iload_n 2, 1) := by decide +kernel
theorem dX9_turn_18 : decode cX9_turn 18 = .ok (.iconst 0, 1) := by decide +kernel
theorem dX9_turn_19 : decode cX9_turn 19 = .ok (.sipush 1000, 3) := by decide +kernel
theorem dX9_turn_22 : decode cX9_turn 22 = .ok (.invokestatic 141, 3) := by decide +kernel
theorem dX9_turn_25 : decode cX9_turn 25 = .ok (.ifCond .ne 5, 3) := by decide +kernel
theorem dX9_turn_28 : decode cX9_turn 28 = .ok (.iconst (-1), 1) := by decide +kernel
theorem dX9_turn_29 : decode cX9_turn 29 = .ok (.ireturn, 1) := by decide +kernel
theorem dX9_turn_30 : decode cX9_turn 30 = .ok (.aload_n 0, 1) := by decide +kernel
theorem dX9_turn_31 : decode cX9_turn 31 = .ok (.getfield 129, 3) := by decide +kernel
theorem dX9_turn_34 : decode cX9_turn 34 = .ok (.iload_n 1, 1) := by decide +kernel
theorem dX9_turn_35 : decode cX9_turn 35 = .ok (.iaload, 1) := by decide +kernel
theorem dX9_turn_36 : decode cX9_turn 36 = .ok (.i2l, 1) := by decide +kernel
theorem dX9_turn_37 : decode cX9_turn 37 = .ok (.bipush 100, 2) := by decide +kernel
theorem dX9_turn_39 : decode cX9_turn 39 = .ok (.iload_n 2, 1) := by decide +kernel
theorem dX9_turn_40 : decode cX9_turn 40 = .ok (.iadd, 1) := by decide +kernel
theorem dX9_turn_41 : decode cX9_turn 41 = .ok (.i2l, 1) := by decide +kernel
theorem dX9_turn_42 : decode cX9_turn 42 = .ok (.lmul, 1) := by decide +kernel
theorem dX9_turn_43 : decode cX9_turn 43 = .ok (.lstore_n 3, 1) := by decide +kernel
theorem dX9_turn_44 : decode cX9_turn 44 = .ok (.iconst 0, 1) := by decide +kernel
theorem dX9_turn_45 : decode cX9_turn 45 = .ok (.istore 5, 2) := by decide +kernel
theorem dX9_turn_47 : decode cX9_turn 47 = .ok (.iload 5, 2) := by decide +kernel
theorem dX9_turn_49 : decode cX9_turn 49 = .ok (.bipush 24, 2) := by decide +kernel
theorem dX9_turn_51 : decode cX9_turn 51 = .ok (.if_icmp .gt 29, 3) := by decide +kernel
theorem dX9_turn_54 : decode cX9_turn 54 = .ok (.ldc2_w 217, 3) := by decide +kernel
theorem dX9_turn_57 : decode cX9_turn 57 = .ok (.aload_n 0, 1) := by decide +kernel
theorem dX9_turn_58 : decode cX9_turn 58 = .ok (.getfield 132, 3) := by decide +kernel
theorem dX9_turn_61 : decode cX9_turn 61 = .ok (.iload_n 1, 1) := by decide +kernel
theorem dX9_turn_62 : decode cX9_turn 62 = .ok (.iaload, 1) := by decide +kernel
theorem dX9_turn_63 : decode cX9_turn 63 = .ok (.i2l, 1) := by decide +kernel
theorem dX9_turn_64 : decode cX9_turn 64 = .ok (.lmul, 1) := by decide +kernel
theorem dX9_turn_65 : decode cX9_turn 65 = .ok (.iload 5, 2) := by decide +kernel
theorem dX9_turn_67 : decode cX9_turn 67 = .ok (.i2l, 1) := by decide +kernel
theorem dX9_turn_68 : decode cX9_turn 68 = .ok (.lmul, 1) := by decide +kernel
theorem dX9_turn_69 : decode cX9_turn 69 = .ok (.lload_n 3, 1) := by decide +kernel
theorem dX9_turn_70 : decode cX9_turn 70 = .ok (.lcmp, 1) := by decide +kernel
theorem dX9_turn_71 : decode cX9_turn 71 = .ok (.ifCond .ge 9, 3) := by decide +kernel
theorem dX9_turn_74 : decode cX9_turn 74 = .ok (.iinc 5 1, 3) := by decide +kernel
theorem dX9_turn_77 : decode cX9_turn 77 = .ok (.goto (-30), 3) := by decide +kernel
theorem dX9_turn_80 : decode cX9_turn 80 = .ok (.iload 5, 2) := by decide +kernel
theorem dX9_turn_82 : decode cX9_turn 82 = .ok (.bipush 24, 2) := by decide +kernel
theorem dX9_turn_84 : decode cX9_turn 84 = .ok (.if_icmp .le 6, 3) := by decide +kernel
theorem dX9_turn_87 : decode cX9_turn 87 = .ok (.bipush 25, 2) := by decide +kernel
theorem dX9_turn_89 : decode cX9_turn 89 = .ok (.ireturn, 1) := by decide +kernel
theorem dX9_turn_90 : decode cX9_turn 90 = .ok (.aload_n 0, 1) := by decide +kernel
theorem dX9_turn_91 : decode cX9_turn 91 = .ok (.iconst 1, 1) := by decide +kernel
theorem dX9_turn_92 : decode cX9_turn 92 = .ok (.putfield 219, 3) := by decide +kernel
theorem dX9_turn_95 : decode cX9_turn 95 = .ok (.aload_n 0, 1) := by decide +kernel
theorem dX9_turn_96 : decode cX9_turn 96 = .ok (.iconst 0, 1) := by decide +kernel
theorem dX9_turn_97 : decode cX9_turn 97 = .ok (.putfield 223, 3) := by decide +kernel
theorem dX9_turn_100 : decode cX9_turn 100 = .ok (.iconst 0, 1) := by decide +kernel
theorem dX9_turn_101 : decode cX9_turn 101 = .ok (.istore 6, 2) := by decide +kernel
theorem dX9_turn_103 : decode cX9_turn 103 = .ok (.iload 6, 2) := by decide +kernel
theorem dX9_turn_105 : decode cX9_turn 105 = .ok (.bipush 24, 2) := by decide +kernel
theorem dX9_turn_107 : decode cX9_turn 107 = .ok (.if_icmp .ge 17, 3) := by decide +kernel
theorem dX9_turn_110 : decode cX9_turn 110 = .ok (.aload_n 0, 1) := by decide +kernel
theorem dX9_turn_111 : decode cX9_turn 111 = .ok (.getfield 138, 3) := by decide +kernel
theorem dX9_turn_114 : decode cX9_turn 114 = .ok (.iload 6, 2) := by decide +kernel
theorem dX9_turn_116 : decode cX9_turn 116 = .ok (.iconst 0, 1) := by decide +kernel
theorem dX9_turn_117 : decode cX9_turn 117 = .ok (.bastore, 1) := by decide +kernel
theorem dX9_turn_118 : decode cX9_turn 118 = .ok (.iinc 6 1, 3) := by decide +kernel
theorem dX9_turn_121 : decode cX9_turn 121 = .ok (.goto (-18), 3) := by decide +kernel
theorem dX9_turn_124 : decode cX9_turn 124 = .ok (.iconst 0, 1) := by decide +kernel
theorem dX9_turn_125 : decode cX9_turn 125 = .ok (.istore 6, 2) := by decide +kernel
theorem dX9_turn_127 : decode cX9_turn 127 = .ok (.iload 6, 2) := by decide +kernel
theorem dX9_turn_129 : decode cX9_turn 129 = .ok (.iload 5, 2) := by decide +kernel
theorem dX9_turn_131 : decode cX9_turn 131 = .ok (.if_icmp .ge 89, 3) := by decide +kernel
theorem dX9_turn_134 : decode cX9_turn 134 = .ok (.iconst (-1), 1) := by decide +kernel
theorem dX9_turn_135 : decode cX9_turn 135 = .ok (.istore 7, 2) := by decide +kernel
theorem dX9_turn_137 : decode cX9_turn 137 = .ok (.iconst 0, 1) := by decide +kernel
theorem dX9_turn_138 : decode cX9_turn 138 = .ok (.istore 8, 2) := by decide +kernel
theorem dX9_turn_140 : decode cX9_turn 140 = .ok (.iload 8, 2) := by decide +kernel
theorem dX9_turn_142 : decode cX9_turn 142 = .ok (.bipush 24, 2) := by decide +kernel
theorem dX9_turn_144 : decode cX9_turn 144 = .ok (.if_icmp .ge 46, 3) := by decide +kernel
theorem dX9_turn_147 : decode cX9_turn 147 = .ok (.aload_n 0, 1) := by decide +kernel
theorem dX9_turn_148 : decode cX9_turn 148 = .ok (.getfield 138, 3) := by decide +kernel
theorem dX9_turn_151 : decode cX9_turn 151 = .ok (.iload 8, 2) := by decide +kernel
theorem dX9_turn_153 : decode cX9_turn 153 = .ok (.baload, 1) := by decide +kernel
theorem dX9_turn_154 : decode cX9_turn 154 = .ok (.ifCond .ne 30, 3) := by decide +kernel
theorem dX9_turn_157 : decode cX9_turn 157 = .ok (.iload 7, 2) := by decide +kernel
theorem dX9_turn_159 : decode cX9_turn 159 = .ok (.iconst (-1), 1) := by decide +kernel
theorem dX9_turn_160 : decode cX9_turn 160 = .ok (.if_icmp .eq 20, 3) := by decide +kernel
theorem dX9_turn_163 : decode cX9_turn 163 = .ok (.aload_n 0, 1) := by decide +kernel
theorem dX9_turn_164 : decode cX9_turn 164 = .ok (.getfield 135, 3) := by decide +kernel
theorem dX9_turn_167 : decode cX9_turn 167 = .ok (.iload 8, 2) := by decide +kernel
theorem dX9_turn_169 : decode cX9_turn 169 = .ok (.iaload, 1) := by decide +kernel
theorem dX9_turn_170 : decode cX9_turn 170 = .ok (.aload_n 0, 1) := by decide +kernel
theorem dX9_turn_171 : decode cX9_turn 171 = .ok (.getfield 135, 3) := by decide +kernel
theorem dX9_turn_174 : decode cX9_turn 174 = .ok (.iload 7, 2) := by decide +kernel
theorem dX9_turn_176 : decode cX9_turn 176 = .ok (.iaload, 1) := by decide +kernel
theorem dX9_turn_177 : decode cX9_turn 177 = .ok (.if_icmp .ge 7, 3) := by decide +kernel
theorem dX9_turn_180 : decode cX9_turn 180 = .ok (.iload 8, 2) := by decide +kernel
theorem dX9_turn_182 : decode cX9_turn 182 = .ok (.istore 7, 2) := by decide +kernel
theorem dX9_turn_184 : decode cX9_turn 184 = .ok (.iinc 8 1, 3) := by decide +kernel
theorem dX9_turn_187 : decode cX9_turn 187 = .ok (.goto (-47), 3) := by decide +kernel
theorem dX9_turn_190 : decode cX9_turn 190 = .ok (.aload_n 0, 1) := by decide +kernel
theorem dX9_turn_191 : decode cX9_turn 191 = .ok (.getfield 138, 3) := by decide +kernel
theorem dX9_turn_194 : decode cX9_turn 194 = .ok (.iload 7, 2) := by decide +kernel
theorem dX9_turn_196 : decode cX9_turn 196 = .ok (.iconst 1, 1) := by decide +kernel
theorem dX9_turn_197 : decode cX9_turn 197 = .ok (.bastore, 1) := by decide +kernel
theorem dX9_turn_198 : decode cX9_turn 198 = .ok (.aload_n 0, 1) := by decide +kernel
theorem dX9_turn_199 : decode cX9_turn 199 = .ok (.dup, 1) := by decide +kernel
theorem dX9_turn_200 : decode cX9_turn 200 = .ok (.getfield 223, 3) := by decide +kernel
theorem dX9_turn_203 : decode cX9_turn 203 = .ok (.aload_n 0, 1) := by decide +kernel
theorem dX9_turn_204 : decode cX9_turn 204 = .ok (.getfield 135, 3) := by decide +kernel
theorem dX9_turn_207 : decode cX9_turn 207 = .ok (.iload 7, 2) := by decide +kernel
theorem dX9_turn_209 : decode cX9_turn 209 = .ok (.iaload, 1) := by decide +kernel
theorem dX9_turn_210 : decode cX9_turn 210 = .ok (.iadd, 1) := by decide +kernel
theorem dX9_turn_211 : decode cX9_turn 211 = .ok (.putfield 223, 3) := by decide +kernel
theorem dX9_turn_214 : decode cX9_turn 214 = .ok (.iinc 6 1, 3) := by decide +kernel
theorem dX9_turn_217 : decode cX9_turn 217 = .ok (.goto (-90), 3) := by decide +kernel
theorem dX9_turn_220 : decode cX9_turn 220 = .ok (.iload 5, 2) := by decide +kernel
theorem dX9_turn_222 : decode cX9_turn 222 = .ok (.ireturn, 1) := by decide +kernel
theorem dX9_hour_0 : decode cX9_hour 0 = .ok (.aload_n 0, 1) := by decide +kernel
theorem dX9_hour_1 : decode cX9_hour 1 = .ok (.getfield 219, 3) := by decide +kernel
theorem dX9_hour_4 : decode cX9_hour 4 = .ok (.ifCond .eq 13, 3) := by decide +kernel
theorem dX9_hour_7 : decode cX9_hour 7 = .ok (.iload_n 1, 1) := by decide +kernel
theorem dX9_hour_8 : decode cX9_hour 8 = .ok (.iconst 0, 1) := by decide +kernel
theorem dX9_hour_9 : decode cX9_hour 9 = .ok (.bipush 24, 2) := by decide +kernel
theorem dX9_hour_11 : decode cX9_hour 11 = .ok (.invokestatic 141, 3) := by decide +kernel
theorem dX9_hour_14 : decode cX9_hour 14 = .ok (.ifCond .ne 5, 3) := by decide +kernel
theorem dX9_hour_17 : decode cX9_hour 17 = .ok (.iconst (-1), 1) := by decide +kernel
theorem dX9_hour_18 : decode cX9_hour 18 = .ok (.ireturn, 1) := by decide +kernel
theorem dX9_hour_19 : decode cX9_hour 19 = .ok (.iload_n 1, 1) := by decide +kernel
theorem dX9_hour_20 : decode cX9_hour 20 = .ok (.bipush 24, 2) := by decide +kernel
theorem dX9_hour_22 : decode cX9_hour 22 = .ok (.if_icmp .ne 10, 3) := by decide +kernel
theorem dX9_hour_25 : decode cX9_hour 25 = .ok (.aload_n 0, 1) := by decide +kernel
theorem dX9_hour_26 : decode cX9_hour 26 = .ok (.getfield 223, 3) := by decide +kernel
theorem dX9_hour_29 : decode cX9_hour 29 = .ok (.goto 17, 3) := by decide +kernel
theorem dX9_hour_32 : decode cX9_hour 32 = .ok (.aload_n 0, 1) := by decide +kernel
theorem dX9_hour_33 : decode cX9_hour 33 = .ok (.getfield 138, 3) := by decide +kernel
theorem dX9_hour_36 : decode cX9_hour 36 = .ok (.iload_n 1, 1) := by decide +kernel
theorem dX9_hour_37 : decode cX9_hour 37 = .ok (.baload, 1) := by decide +kernel
theorem dX9_hour_38 : decode cX9_hour 38 = .ok (.ifCond .eq 7, 3) := by decide +kernel
theorem dX9_hour_41 : decode cX9_hour 41 = .ok (.iconst 1, 1) := by decide +kernel
theorem dX9_hour_42 : decode cX9_hour 42 = .ok (.goto 4, 3) := by decide +kernel
theorem dX9_hour_45 : decode cX9_hour 45 = .ok (.iconst 0, 1) := by decide +kernel
theorem dX9_hour_46 : decode cX9_hour 46 = .ok (.ireturn, 1) := by decide +kernel
theorem dX9_all_0 : decode cX9_all 0 = .ok (.iconst 0, 1) := by decide +kernel
theorem dX9_all_1 : decode cX9_all 1 = .ok (.istore_n 2, 1) := by decide +kernel
theorem dX9_all_2 : decode cX9_all 2 = .ok (.iload_n 1, 1) := by decide +kernel
theorem dX9_all_3 : decode cX9_all 3 = .ok (.tableswitch 186 0 6 #[41, 46, 51, 56, 90, 117, 152], 41) := by decide +kernel
theorem dX9_all_44 : decode cX9_all 44 = .ok (.aload_n 0, 1) := by decide +kernel
theorem dX9_all_45 : decode cX9_all 45 = .ok (.getfield 148, 3) := by decide +kernel
theorem dX9_all_48 : decode cX9_all 48 = .ok (.ireturn, 1) := by decide +kernel
theorem dX9_all_49 : decode cX9_all 49 = .ok (.aload_n 0, 1) := by decide +kernel
theorem dX9_all_50 : decode cX9_all 50 = .ok (.getfield 145, 3) := by decide +kernel
theorem dX9_all_53 : decode cX9_all 53 = .ok (.ireturn, 1) := by decide +kernel
theorem dX9_all_54 : decode cX9_all 54 = .ok (.aload_n 0, 1) := by decide +kernel
theorem dX9_all_55 : decode cX9_all 55 = .ok (.getfield 172, 3) := by decide +kernel
theorem dX9_all_58 : decode cX9_all 58 = .ok (.ireturn, 1) := by decide +kernel
theorem dX9_all_59 : decode cX9_all 59 = .ok (.iconst 0, 1) := by decide +kernel
theorem dX9_all_60 : decode cX9_all 60 = .ok (.istore_n 3, 1) := by decide +kernel
theorem dX9_all_61 : decode cX9_all 61 = .ok (.iload_n 3, 1) := by decide +kernel
theorem dX9_all_62 : decode cX9_all 62 = .ok (.bipush 30, 2) := by decide +kernel
theorem dX9_all_64 : decode cX9_all 64 = .ok (.if_icmp .ge 27, 3) := by decide +kernel
theorem dX9_all_67 : decode cX9_all 67 = .ok (.iload_n 2, 1) := by decide +kernel
theorem dX9_all_68 : decode cX9_all 68 = .ok (.aload_n 0, 1) := by decide +kernel
theorem dX9_all_69 : decode cX9_all 69 = .ok (.getfield 107, 3) := by decide +kernel
theorem dX9_all_72 : decode cX9_all 72 = .ok (.iload_n 3, 1) := by decide +kernel
theorem dX9_all_73 : decode cX9_all 73 = .ok (.iaload, 1) := by decide +kernel
theorem dX9_all_74 : decode cX9_all 74 = .ok (.iconst (-1), 1) := by decide +kernel
theorem dX9_all_75 : decode cX9_all 75 = .ok (.if_icmp .eq 7, 3) := by decide +kernel
theorem dX9_all_78 : decode cX9_all 78 = .ok (.iconst 1, 1) := by decide +kernel
theorem dX9_all_79 : decode cX9_all 79 = .ok (.goto 4, 3) := by decide +kernel
theorem dX9_all_82 : decode cX9_all 82 = .ok (.iconst 0, 1) := by decide +kernel
theorem dX9_all_83 : decode cX9_all 83 = .ok (.iadd, 1) := by decide +kernel
theorem dX9_all_84 : decode cX9_all 84 = .ok (.istore_n 2, 1) := by decide +kernel
theorem dX9_all_85 : decode cX9_all 85 = .ok (.iinc 3 1, 3) := by decide +kernel
theorem dX9_all_88 : decode cX9_all 88 = .ok (.goto (-27), 3) := by decide +kernel
theorem dX9_all_91 : decode cX9_all 91 = .ok (.iload_n 2, 1) := by decide +kernel
theorem dX9_all_92 : decode cX9_all 92 = .ok (.ireturn, 1) := by decide +kernel
theorem dX9_all_93 : decode cX9_all 93 = .ok (.iconst 0, 1) := by decide +kernel
theorem dX9_all_94 : decode cX9_all 94 = .ok (.istore_n 3, 1) := by decide +kernel
theorem dX9_all_95 : decode cX9_all 95 = .ok (.iload_n 3, 1) := by decide +kernel
theorem dX9_all_96 : decode cX9_all 96 = .ok (.aload_n 0, 1) := by decide +kernel
theorem dX9_all_97 : decode cX9_all 97 = .ok (.getfield 145, 3) := by decide +kernel
theorem dX9_all_100 : decode cX9_all 100 = .ok (.if_icmp .ge 18, 3) := by decide +kernel
theorem dX9_all_103 : decode cX9_all 103 = .ok (.iload_n 2, 1) := by decide +kernel
theorem dX9_all_104 : decode cX9_all 104 = .ok (.aload_n 0, 1) := by decide +kernel
theorem dX9_all_105 : decode cX9_all 105 = .ok (.getfield 95, 3) := by decide +kernel
theorem dX9_all_108 : decode cX9_all 108 = .ok (.iload_n 3, 1) := by decide +kernel
theorem dX9_all_109 : decode cX9_all 109 = .ok (.iaload, 1) := by decide +kernel
theorem dX9_all_110 : decode cX9_all 110 = .ok (.iadd, 1) := by decide +kernel
theorem dX9_all_111 : decode cX9_all 111 = .ok (.istore_n 2, 1) := by decide +kernel
theorem dX9_all_112 : decode cX9_all 112 = .ok (.iinc 3 1, 3) := by decide +kernel
theorem dX9_all_115 : decode cX9_all 115 = .ok (.goto (-20), 3) := by decide +kernel
theorem dX9_all_118 : decode cX9_all 118 = .ok (.iload_n 2, 1) := by decide +kernel
theorem dX9_all_119 : decode cX9_all 119 = .ok (.ireturn, 1) := by decide +kernel
theorem dX9_all_120 : decode cX9_all 120 = .ok (.iconst 0, 1) := by decide +kernel
theorem dX9_all_121 : decode cX9_all 121 = .ok (.istore_n 3, 1) := by decide +kernel
theorem dX9_all_122 : decode cX9_all 122 = .ok (.iload_n 3, 1) := by decide +kernel
theorem dX9_all_123 : decode cX9_all 123 = .ok (.aload_n 0, 1) := by decide +kernel
theorem dX9_all_124 : decode cX9_all 124 = .ok (.getfield 145, 3) := by decide +kernel
theorem dX9_all_127 : decode cX9_all 127 = .ok (.if_icmp .ge 26, 3) := by decide +kernel
theorem dX9_all_130 : decode cX9_all 130 = .ok (.iload_n 2, 1) := by decide +kernel
theorem dX9_all_131 : decode cX9_all 131 = .ok (.aload_n 0, 1) := by decide +kernel
theorem dX9_all_132 : decode cX9_all 132 = .ok (.getfield 92, 3) := by decide +kernel
theorem dX9_all_135 : decode cX9_all 135 = .ok (.iload_n 3, 1) := by decide +kernel
theorem dX9_all_136 : decode cX9_all 136 = .ok (.baload, 1) := by decide +kernel
theorem dX9_all_137 : decode cX9_all 137 = .ok (.ifCond .eq 7, 3) := by decide +kernel
theorem dX9_all_140 : decode cX9_all 140 = .ok (.iconst 1, 1) := by decide +kernel
theorem dX9_all_141 : decode cX9_all 141 = .ok (.goto 4, 3) := by decide +kernel
theorem dX9_all_144 : decode cX9_all 144 = .ok (.iconst 0, 1) := by decide +kernel
theorem dX9_all_145 : decode cX9_all 145 = .ok (.iadd, 1) := by decide +kernel
theorem dX9_all_146 : decode cX9_all 146 = .ok (.istore_n 2, 1) := by decide +kernel
theorem dX9_all_147 : decode cX9_all 147 = .ok (.iinc 3 1, 3) := by decide +kernel
theorem dX9_all_150 : decode cX9_all 150 = .ok (.goto (-28), 3) := by decide +kernel
theorem dX9_all_153 : decode cX9_all 153 = .ok (.iload_n 2, 1) := by decide +kernel
theorem dX9_all_154 : decode cX9_all 154 = .ok (.ireturn, 1) := by decide +kernel
theorem dX9_all_155 : decode cX9_all 155 = .ok (.iconst 0, 1) := by decide +kernel
theorem dX9_all_156 : decode cX9_all 156 = .ok (.istore_n 3, 1) := by decide +kernel
theorem dX9_all_157 : decode cX9_all 157 = .ok (.iload_n 3, 1) := by decide +kernel
theorem dX9_all_158 : decode cX9_all 158 = .ok (.bipush 30, 2) := by decide +kernel
theorem dX9_all_160 : decode cX9_all 160 = .ok (.if_icmp .ge 27, 3) := by decide +kernel
theorem dX9_all_163 : decode cX9_all 163 = .ok (.iload_n 2, 1) := by decide +kernel
theorem dX9_all_164 : decode cX9_all 164 = .ok (.aload_n 0, 1) := by decide +kernel
theorem dX9_all_165 : decode cX9_all 165 = .ok (.getfield 104, 3) := by decide +kernel
theorem dX9_all_168 : decode cX9_all 168 = .ok (.iload_n 3, 1) := by decide +kernel
theorem dX9_all_169 : decode cX9_all 169 = .ok (.iaload, 1) := by decide +kernel
theorem dX9_all_170 : decode cX9_all 170 = .ok (.iconst (-1), 1) := by decide +kernel
theorem dX9_all_171 : decode cX9_all 171 = .ok (.if_icmp .eq 7, 3) := by decide +kernel
theorem dX9_all_174 : decode cX9_all 174 = .ok (.iconst 1, 1) := by decide +kernel
theorem dX9_all_175 : decode cX9_all 175 = .ok (.goto 4, 3) := by decide +kernel
theorem dX9_all_178 : decode cX9_all 178 = .ok (.iconst 0, 1) := by decide +kernel
theorem dX9_all_179 : decode cX9_all 179 = .ok (.iadd, 1) := by decide +kernel
theorem dX9_all_180 : decode cX9_all 180 = .ok (.istore_n 2, 1) := by decide +kernel
theorem dX9_all_181 : decode cX9_all 181 = .ok (.iinc 3 1, 3) := by decide +kernel
theorem dX9_all_184 : decode cX9_all 184 = .ok (.goto (-27), 3) := by decide +kernel
theorem dX9_all_187 : decode cX9_all 187 = .ok (.iload_n 2, 1) := by decide +kernel
theorem dX9_all_188 : decode cX9_all 188 = .ok (.ireturn, 1) := by decide +kernel
theorem dX9_all_189 : decode cX9_all 189 = .ok (.iconst (-1), 1) := by decide +kernel
theorem dX9_all_190 : decode cX9_all 190 = .ok (.ireturn, 1) := by decide +kernel
