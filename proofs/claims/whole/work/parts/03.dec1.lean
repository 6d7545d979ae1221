theorem dX12_paper_66 : decode cX12_paper 66 = .ok (.bipush 60, 2) := by decide +kernel
theorem dX12_paper_68 : decode cX12_paper 68 = .ok (.if_icmp .ne 5, 3) := by decide +kernel
theorem dX12_paper_71 : decode cX12_paper 71 = .ok (.iconst (-1), 1) := by decide +kernel
theorem dX12_paper_72 : decode cX12_paper 72 = .ok (.ireturn, 1) := by decide +kernel
theorem dX12_paper_73 : decode cX12_paper 73 = .ok (.aload_n 0, 1) := by decide +kernel
theorem dX12_paper_74 : decode cX12_paper 74 = .ok (.getfield 28, 3) := by decide +kernel
theorem dX12_paper_77 : decode cX12_paper 77 = .ok (.aload_n 0, 1) := by decide +kernel
theorem dX12_paper_78 : decode cX12_paper 78 = .ok (.getfield 152, 3) := by decide +kernel
theorem dX12_paper_81 : decode cX12_paper 81 = .ok (.iload_n 1, 1) := by decide +kernel
theorem dX12_paper_82 : decode cX12_paper 82 = .ok (.iastore, 1) := by decide +kernel
theorem dX12_paper_83 : decode cX12_paper 83 = .ok (.aload_n 0, 1) := by decide +kernel
theorem dX12_paper_84 : decode cX12_paper 84 = .ok (.getfield 31, 3) := by decide +kernel
theorem dX12_paper_87 : decode cX12_paper 87 = .ok (.aload_n 0, 1) := by decide +kernel
theorem dX12_paper_88 : decode cX12_paper 88 = .ok (.getfield 152, 3) := by decide +kernel
theorem dX12_paper_91 : decode cX12_paper 91 = .ok (.iload_n 2, 1) := by decide +kernel
theorem dX12_paper_92 : decode cX12_paper 92 = .ok (.iastore, 1) := by decide +kernel
theorem dX12_paper_93 : decode cX12_paper 93 = .ok (.aload_n 0, 1) := by decide +kernel
theorem dX12_paper_94 : decode cX12_paper 94 = .ok (.getfield 34, 3) := by decide +kernel
theorem dX12_paper_97 : decode cX12_paper 97 = .ok (.aload_n 0, 1) := by decide +kernel
theorem dX12_paper_98 : decode cX12_paper 98 = .ok (.getfield 152, 3) := by decide +kernel
theorem dX12_paper_101 : decode cX12_paper 101 = .ok (.iload_n 3, 1) := by decide +kernel
theorem dX12_paper_102 : decode cX12_paper 102 = .ok (.iastore, 1) := by decide +kernel
theorem dX12_paper_103 : decode cX12_paper 103 = .ok (.aload_n 0, 1) := by decide +kernel
theorem dX12_paper_104 : decode cX12_paper 104 = .ok (.getfield 37, 3) := by decide +kernel
theorem dX12_paper_107 : decode cX12_paper 107 = .ok (.aload_n 0, 1) := by decide +kernel
theorem dX12_paper_108 : decode cX12_paper 108 = .ok (.getfield 152, 3) := by decide +kernel
theorem dX12_paper_111 : decode cX12_paper 111 = .ok (.iload 4, 2) := by decide +kernel
theorem dX12_paper_113 : decode cX12_paper 113 = .ok (.iastore, 1) := by decide +kernel
theorem dX12_paper_114 : decode cX12_paper 114 = .ok (.aload_n 0, 1) := by decide +kernel
theorem dX12_paper_115 : decode cX12_paper 115 = .ok (.getfield 40, 3) := by decide +kernel
theorem dX12_paper_118 : decode cX12_paper 118 = .ok (.aload_n 0, 1) := by decide +kernel
theorem dX12_paper_119 : decode cX12_paper 119 = .ok (.getfield 152, 3) := by decide +kernel
theorem dX12_paper_122 : decode cX12_paper 122 = .ok (.iload 5, 2) := by decide +kernel
theorem dX12_paper_124 : decode cX12_paper 124 = .ok (.iastore, 1) := by decide +kernel
theorem dX12_paper_125 : decode cX12_paper 125 = .ok (.aload_n 0, 1) := by decide +kernel
theorem dX12_paper_126 : decode cX12_paper 126 = .ok (.getfield 43, 3) := by decide +kernel
theorem dX12_paper_129 : decode cX12_paper 129 = .ok (.aload_n 0, 1) := by decide +kernel
theorem dX12_paper_130 : decode cX12_paper 130 = .ok (.getfield 152, 3) := by decide +kernel
theorem dX12_paper_133 : decode cX12_paper 133 = .ok (.iload 6, 2) := by decide +kernel
theorem dX12_paper_135 : decode cX12_paper 135 = .ok (.iastore, 1) := by decide +kernel
theorem dX12_paper_136 : decode cX12_paper 136 = .ok (.aload_n 0, 1) := by decide +kernel
theorem dX12_paper_137 : decode cX12_paper 137 = .ok (.getfield 46, 3) := by decide +kernel
theorem dX12_paper_140 : decode cX12_paper 140 = .ok (.aload_n 0, 1) := by decide +kernel
theorem dX12_paper_141 : decode cX12_paper 141 = .ok (.getfield 152, 3) := by decide +kernel
theorem dX12_paper_144 : decode cX12_paper 144 = .ok (.aload_n 0, 1) := by decide +kernel
theorem dX12_paper_145 : decode cX12_paper 145 = .ok (.getfield 149, 3) := by decide +kernel
theorem dX12_paper_148 : decode cX12_paper 148 = .ok (.iastore, 1) := by decide +kernel
theorem dX12_paper_149 : decode cX12_paper 149 = .ok (.aload_n 0, 1) := by decide +kernel
theorem dX12_paper_150 : decode cX12_paper 150 = .ok (.getfield 49, 3) := by decide +kernel
theorem dX12_paper_153 : decode cX12_paper 153 = .ok (.aload_n 0, 1) := by decide +kernel
theorem dX12_paper_154 : decode cX12_paper 154 = .ok (.getfield 152, 3) := by decide +kernel
theorem dX12_paper_157 : decode cX12_paper 157 = .ok (.iconst (-1), 1) := by decide +kernel
theorem dX12_paper_158 : decode cX12_paper 158 = .ok (.iastore, 1) := by decide +kernel
theorem dX12_paper_159 : decode cX12_paper 159 = .ok (.aload_n 0, 1) := by decide +kernel
theorem dX12_paper_160 : decode cX12_paper 160 = .ok (.dup, 1) := by decide +kernel
theorem dX12_paper_161 : decode cX12_paper 161 = .ok (.getfield 152, 3) := by decide +kernel
theorem dX12_paper_164 : decode cX12_paper 164 = .ok (.iconst 1, 1) := by decide +kernel
theorem dX12_paper_165 : decode cX12_paper 165 = .ok (.iadd, 1) := by decide +kernel
theorem dX12_paper_166 : decode cX12_paper 166 = .ok (.putfield 152, 3) := by decide +kernel
theorem dX12_paper_169 : decode cX12_paper 169 = .ok (.aload_n 0, 1) := by decide +kernel
theorem dX12_paper_170 : decode cX12_paper 170 = .ok (.getfield 152, 3) := by decide +kernel
theorem dX12_paper_173 : decode cX12_paper 173 = .ok (.iconst 1, 1) := by decide +kernel
theorem dX12_paper_174 : decode cX12_paper 174 = .ok (.isub, 1) := by decide +kernel
theorem dX12_paper_175 : decode cX12_paper 175 = .ok (.ireturn, 1) := by decide +kernel
theorem dX12_isPaper_0 : decode cX12_isPaper 0 = .ok (.iload_n 1, 1) := by decide +kernel
theorem dX12_isPaper_1 : decode cX12_isPaper 1 = .ok (.ifCond .lt 15, 3) := by decide +kernel
theorem dX12_isPaper_4 : decode cX12_isPaper 4 = .ok (.iload_n 1, 1) := by decide +kernel
theorem dX12_isPaper_5 : decode cX12_isPaper 5 = .ok (.aload_n 0, 1) := by decide +kernel
theorem dX12_isPaper_6 : decode cX12_isPaper 6 = .ok (.getfield 152, 3) := by decide +kernel
theorem dX12_isPaper_9 : decode cX12_isPaper 9 = .ok (.if_icmp .ge 7, 3) := by decide +kernel
theorem dX12_isPaper_12 : decode cX12_isPaper 12 = .ok (.iconst 1, 1) := by decide +kernel
theorem dX12_isPaper_13 : decode cX12_isPaper 13 = .ok (.goto 4, 3) := by decide +kernel
theorem dX12_isPaper_16 : decode cX12_isPaper 16 = .ok (.iconst 0, 1) := by decide +kernel
theorem dX12_isPaper_17 : decode cX12_isPaper 17 = .ok (.ireturn, 1) := by decide +kernel
theorem dX12_isFalse_0 : decode cX12_isFalse 0 = .ok (.aload_n 0, 1) := by decide +kernel
theorem dX12_isFalse_1 : decode cX12_isFalse 1 = .ok (.iload_n 1, 1) := by decide +kernel
theorem dX12_isFalse_2 : decode cX12_isFalse 2 = .ok (.invokevirtual 155, 3) := by decide +kernel
theorem dX12_isFalse_5 : decode cX12_isFalse 5 = .ok (.ifCond .eq 12, 3) := by decide +kernel
theorem dX12_isFalse_8 : decode cX12_isFalse 8 = .ok (.aload_n 0, 1) := by decide +kernel
theorem dX12_isFalse_9 : decode cX12_isFalse 9 = .ok (.getfield 49, 3) := by decide +kernel
theorem dX12_isFalse_12 : decode cX12_isFalse 12 = .ok (.iload_n 1, 1) := by decide +kernel
theorem dX12_isFalse_13 : decode cX12_isFalse 13 = .ok (.iaload, 1) := by decide +kernel
theorem dX12_isFalse_14 : decode cX12_isFalse 14 = .ok (.ifCond .lt 5, 3) := by decide +kernel
theorem dX12_isFalse_17 : decode cX12_isFalse 17 = .ok (.iconst 0, 1) := by decide +kernel
theorem dX12_isFalse_18 : decode cX12_isFalse 18 = .ok (.ireturn, 1) := by decide +kernel
theorem dX12_isFalse_19 : decode cX12_isFalse 19 = .ok (.aload_n 0, 1) := by decide +kernel
theorem dX12_isFalse_20 : decode cX12_isFalse 20 = .ok (.getfield 49, 3) := by decide +kernel
theorem dX12_isFalse_23 : decode cX12_isFalse 23 = .ok (.iload_n 1, 1) := by decide +kernel
theorem dX12_isFalse_24 : decode cX12_isFalse 24 = .ok (.aload_n 0, 1) := by decide +kernel
theorem dX12_isFalse_25 : decode cX12_isFalse 25 = .ok (.getfield 149, 3) := by decide +kernel
theorem dX12_isFalse_28 : decode cX12_isFalse 28 = .ok (.iastore, 1) := by decide +kernel
theorem dX12_isFalse_29 : decode cX12_isFalse 29 = .ok (.iconst 1, 1) := by decide +kernel
theorem dX12_isFalse_30 : decode cX12_isFalse 30 = .ok (.ireturn, 1) := by decide +kernel
theorem dX12_later_0 : decode cX12_later 0 = .ok (.iload_n 1, 1) := by decide +kernel
theorem dX12_later_1 : decode cX12_later 1 = .ok (.ifCond .lt 21, 3) := by decide +kernel
theorem dX12_later_4 : decode cX12_later 4 = .ok (.iload_n 1, 1) := by decide +kernel
theorem dX12_later_5 : decode cX12_later 5 = .ok (.sipush 1000, 3) := by decide +kernel
theorem dX12_later_8 : decode cX12_later 8 = .ok (.if_icmp .gt 14, 3) := by decide +kernel
theorem dX12_later_11 : decode cX12_later 11 = .ok (.aload_n 0, 1) := by decide +kernel
theorem dX12_later_12 : decode cX12_later 12 = .ok (.getfield 149, 3) := by decide +kernel
theorem dX12_later_15 : decode cX12_later 15 = .ok (.iload_n 1, 1) := by decide +kernel
theorem dX12_later_16 : decode cX12_later 16 = .ok (.iadd, 1) := by decide +kernel
theorem dX12_later_17 : decode cX12_later 17 = .ok (.ldc 125, 2) := by decide +kernel
theorem dX12_later_19 : decode cX12_later 19 = .ok (.if_icmp .le 5, 3) := by decide +kernel
theorem dX12_later_22 : decode cX12_later 22 = .ok (.iconst (-1), 1) := by decide +kernel
theorem dX12_later_23 : decode cX12_later 23 = .ok (.ireturn, 1) := by decide +kernel
theorem dX12_later_24 : decode cX12_later 24 = .ok (.aload_n 0, 1) := by decide +kernel
theorem dX12_later_25 : decode cX12_later 25 = .ok (.dup, 1) := by decide +kernel
theorem dX12_later_26 : decode cX12_later 26 = .ok (.getfield 149, 3) := by decide +kernel
theorem dX12_later_29 : decode cX12_later 29 = .ok (.iload_n 1, 1) := by decide +kernel
theorem dX12_later_30 : decode cX12_later 30 = .ok (.iadd, 1) := by decide +kernel
theorem dX12_later_31 : decode cX12_later 31 = .ok (.putfield 149, 3) := by decide +kernel
theorem dX12_later_34 : decode cX12_later 34 = .ok (.aload_n 0, 1) := by decide +kernel
theorem dX12_later_35 : decode cX12_later 35 = .ok (.getfield 149, 3) := by decide +kernel
theorem dX12_later_38 : decode cX12_later 38 = .ok (.ireturn, 1) := by decide +kernel
theorem dX12_counts_0 : decode cX12_counts 0 = .ok (.aload_n 0, 1) := by decide +kernel
theorem dX12_counts_1 : decode cX12_counts 1 = .ok (.getfield 46, 3) := by decide +kernel
theorem dX12_counts_4 : decode cX12_counts 4 = .ok (.iload_n 1, 1) := by decide +kernel
theorem dX12_counts_5 : decode cX12_counts 5 = .ok (.iaload, 1) := by decide +kernel
theorem dX12_counts_6 : decode cX12_counts 6 = .ok (.iload_n 2, 1) := by decide +kernel
theorem dX12_counts_7 : decode cX12_counts 7 = .ok (.if_icmp .gt 26, 3) := by decide +kernel
theorem dX12_counts_10 : decode cX12_counts 10 = .ok (.aload_n 0, 1) := by decide +kernel
theorem dX12_counts_11 : decode cX12_counts 11 = .ok (.getfield 49, 3) := by decide +kernel
theorem dX12_counts_14 : decode cX12_counts 14 = .ok (.iload_n 1, 1) := by decide +kernel
theorem dX12_counts_15 : decode cX12_counts 15 = .ok (.iaload, 1) := by decide +kernel
theorem dX12_counts_16 : decode cX12_counts 16 = .ok (.ifCond .lt 13, 3) := by decide +kernel
theorem dX12_counts_19 : decode cX12_counts 19 = .ok (.aload_n 0, 1) := by decide +kernel
theorem dX12_counts_20 : decode cX12_counts 20 = .ok (.getfield 49, 3) := by decide +kernel
theorem dX12_counts_23 : decode cX12_counts 23 = .ok (.iload_n 1, 1) := by decide +kernel
theorem dX12_counts_24 : decode cX12_counts 24 = .ok (.iaload, 1) := by decide +kernel
theorem dX12_counts_25 : decode cX12_counts 25 = .ok (.iload_n 2, 1) := by decide +kernel
theorem dX12_counts_26 : decode cX12_counts 26 = .ok (.if_icmp .le 7, 3) := by decide +kernel
theorem dX12_counts_29 : decode cX12_counts 29 = .ok (.iconst 1, 1) := by decide +kernel
theorem dX12_counts_30 : decode cX12_counts 30 = .ok (.goto 4, 3) := by decide +kernel
theorem dX12_counts_33 : decode cX12_counts 33 = .ok (.iconst 0, 1) := by decide +kernel
theorem dX12_counts_34 : decode cX12_counts 34 = .ok (.ireturn, 1) := by decide +kernel
theorem dX12_follow_0 : decode cX12_follow 0 = .ok (.aload_n 0, 1) := by decide +kernel
theorem dX12_follow_1 : decode cX12_follow 1 = .ok (.iconst 0, 1) := by decide +kernel
theorem dX12_follow_2 : decode cX12_follow 2 = .ok (.putfield 158, 3) := by decide +kernel
theorem dX12_follow_5 : decode cX12_follow 5 = .ok (.iconst 0, 1) := by decide +kernel
theorem dX12_follow_6 : decode cX12_follow 6 = .ok (.istore 4, 2) := by decide +kernel
theorem dX12_follow_8 : decode cX12_follow 8 = .ok (.iload 4, 2) := by decide +kernel
theorem dX12_follow_10 : decode cX12_follow 10 = .ok (.aload_n 0, 1) := by decide +kernel
theorem dX12_follow_11 : decode cX12_follow 11 = .ok (.getfield 152, 3) := by decide +kernel
theorem dX12_follow_14 : decode cX12_follow 14 = .ok (.if_icmp .ge 109, 3) := by decide +kernel
theorem dX12_follow_17 : decode cX12_follow 17 = .ok (.aload_n 0, 1) := by decide +kernel
theorem dX12_follow_18 : decode cX12_follow 18 = .ok (.getfield 28, 3) := by decide +kernel
theorem dX12_follow_21 : decode cX12_follow 21 = .ok (.iload 4, 2) := by decide +kernel
theorem dX12_follow_23 : decode cX12_follow 23 = .ok (.iaload, 1) := by decide +kernel
theorem dX12_follow_24 : decode cX12_follow 24 = .ok (.iload_n 1, 1) := by decide +kernel
theorem dX12_follow_25 : decode cX12_follow 25 = .ok (.if_icmp .ne 92, 3) := by decide +kernel
theorem dX12_follow_28 : decode cX12_follow 28 = .ok (.aload_n 0, 1) := by decide +kernel
theorem dX12_follow_29 : decode cX12_follow 29 = .ok (.iload 4, 2) := by decide +kernel
theorem dX12_follow_31 : decode cX12_follow 31 = .ok (.iload_n 3, 1) := by decide +kernel
theorem dX12_follow_32 : decode cX12_follow 32 = .ok (.invokevirtual 161, 3) := by decide +kernel
theorem dX12_follow_35 : decode cX12_follow 35 = .ok (.ifCond .ne 6, 3) := by decide +kernel
theorem dX12_follow_38 : decode cX12_follow 38 = .ok (.goto 79, 3) := by decide +kernel
theorem dX12_follow_41 : decode cX12_follow 41 = .ok (.aload_n 0, 1) := by decide +kernel
theorem dX12_follow_42 : decode cX12_follow 42 = .ok (.getfield 158, 3) := by decide +kernel
theorem dX12_follow_45 : decode cX12_follow 45 = .ok (.istore 5, 2) := by decide +kernel
theorem dX12_follow_47 : decode cX12_follow 47 = .ok (.iload 5, 2) := by decide +kernel
theorem dX12_follow_49 : decode cX12_follow 49 = .ok (.ifCond .le 49, 3) := by decide +kernel
theorem dX12_follow_52 : decode cX12_follow 52 = .ok (.aload_n 0, 1) := by decide +kernel
theorem dX12_follow_53 : decode cX12_follow 53 = .ok (.getfield 37, 3) := by decide +kernel
theorem dX12_follow_56 : decode cX12_follow 56 = .ok (.aload_n 0, 1) := by decide +kernel
theorem dX12_follow_57 : decode cX12_follow 57 = .ok (.getfield 52, 3) := by decide +kernel
theorem dX12_follow_60 : decode cX12_follow 60 = .ok (.iload 5, 2) := by decide +kernel
theorem dX12_follow_62 : decode cX12_follow 62 = .ok (.iconst 1, 1) := by decide +kernel
theorem dX12_follow_63 : decode cX12_follow 63 = .ok (.isub, 1) := by decide +kernel
theorem dX12_follow_64 : decode cX12_follow 64 = .ok (.iaload, 1) := by decide +kernel
theorem dX12_follow_65 : decode cX12_follow 65 = .ok (.iaload, 1) := by decide +kernel
theorem dX12_follow_66 : decode cX12_follow 66 = .ok (.aload_n 0, 1) := by decide +kernel
theorem dX12_follow_67 : decode cX12_follow 67 = .ok (.getfield 37, 3) := by decide +kernel
theorem dX12_follow_70 : decode cX12_follow 70 = .ok (.iload 4, 2) := by decide +kernel
theorem dX12_follow_72 : decode cX12_follow 72 = .ok (.iaload, 1) := by decide +kernel
theorem dX12_follow_73 : decode cX12_follow 73 = .ok (.if_icmp .le 25, 3) := by decide +kernel
theorem dX12_follow_76 : decode cX12_follow 76 = .ok (.aload_n 0, 1) := by decide +kernel
theorem dX12_follow_77 : decode cX12_follow 77 = .ok (.getfield 52, 3) := by decide +kernel
theorem dX12_follow_80 : decode cX12_follow 80 = .ok (.iload 5, 2) := by decide +kernel
theorem dX12_follow_82 : decode cX12_follow 82 = .ok (.aload_n 0, 1) := by decide +kernel
theorem dX12_follow_83 : decode cX12_follow 83 = .ok (.getfield 52, 3) := by decide +kernel
theorem dX12_follow_86 : decode cX12_follow 86 = .ok (.iload 5, 2) := by decide +kernel
theorem dX12_follow_88 : decode cX12_follow 88 = .ok (.iconst 1, 1) := by decide +kernel
theorem dX12_follow_89 : decode cX12_follow 89 = .ok (.isub, 1) := by decide +kernel
theorem dX12_follow_90 : decode cX12_follow 90 = .ok (.iaload, 1) := by decide +kernel
theorem dX12_follow_91 : decode cX12_follow 91 = .ok (.iastore, 1) := by decide +kernel
theorem dX12_follow_92 : decode cX12_follow 92 = .ok (.iinc 5 (-1), 3) := by decide +kernel
theorem dX12_follow_95 : decode cX12_follow 95 = .ok (.goto (-48), 3) := by decide +kernel
theorem dX12_follow_98 : decode cX12_follow 98 = .ok (.aload_n 0, 1) := by decide +kernel
theorem dX12_follow_99 : decode cX12_follow 99 = .ok (.getfield 52, 3) := by decide +kernel
theorem dX12_follow_102 : decode cX12_follow 102 = .ok (.iload 5, 2) := by decide +kernel
theorem dX12_follow_104 : decode cX12_follow 104 = .ok (.iload 4, 2) := by decide +kernel
theorem dX12_follow_106 : decode cX12_follow 106 = .ok (.iastore, 1) := by decide +kernel
theorem dX12_follow_107 : decode cX12_follow 107 = .ok (.aload_n 0, 1) := by decide +kernel
theorem dX12_follow_108 : decode cX12_follow 108 = .ok (.dup, 1) := by decide +kernel
theorem dX12_follow_109 : decode cX12_follow 109 = .ok (.getfield 158, 3) := by decide +kernel
theorem dX12_follow_112 : decode cX12_follow 112 = .ok (.iconst 1, 1) := by decide +kernel
theorem dX12_follow_113 : decode cX12_follow 113 = .ok (.iadd, 1) := by decide +kernel
theorem dX12_follow_114 : decode cX12_follow 114 = .ok (.putfield 158, 3) := by decide +kernel
theorem dX12_follow_117 : decode cX12_follow 117 = .ok (.iinc 4 1, 3) := by decide +kernel
theorem dX12_follow_120 : decode cX12_follow 120 = .ok (.goto (-112), 3) := by decide +kernel
theorem dX12_follow_123 : decode cX12_follow 123 = .ok (.aload_n 0, 1) := by decide +kernel
theorem dX12_follow_124 : decode cX12_follow 124 = .ok (.getfield 19, 3) := by decide +kernel
theorem dX12_follow_127 : decode cX12_follow 127 = .ok (.iload_n 1, 1) := by decide +kernel
theorem dX12_follow_128 : decode cX12_follow 128 = .ok (.iaload, 1) := by decide +kernel
theorem dX12_follow_129 : decode cX12_follow 129 = .ok (.istore 4, 2) := by decide +kernel
theorem dX12_follow_131 : decode cX12_follow 131 = .ok (.iload 4, 2) := by decide +kernel
theorem dX12_follow_133 : decode cX12_follow 133 = .ok (.istore 5, 2) := by decide +kernel
theorem dX12_follow_135 : decode cX12_follow 135 = .ok (.iconst 0, 1) := by decide +kernel
theorem dX12_follow_136 : decode cX12_follow 136 = .ok (.istore 6, 2) := by decide +kernel
theorem dX12_follow_138 : decode cX12_follow 138 = .ok (.iload 6, 2) := by decide +kernel
theorem dX12_follow_140 : decode cX12_follow 140 = .ok (.aload_n 0, 1) := by decide +kernel
theorem dX12_follow_141 : decode cX12_follow 141 = .ok (.getfield 158, 3) := by decide +kernel
theorem dX12_follow_144 : decode cX12_follow 144 = .ok (.if_icmp .ge 76, 3) := by decide +kernel
theorem dX12_follow_147 : decode cX12_follow 147 = .ok (.aload_n 0, 1) := by decide +kernel
theorem dX12_follow_148 : decode cX12_follow 148 = .ok (.getfield 52, 3) := by decide +kernel
theorem dX12_follow_151 : decode cX12_follow 151 = .ok (.iload 6, 2) := by decide +kernel
theorem dX12_follow_153 : decode cX12_follow 153 = .ok (.iaload, 1) := by decide +kernel
theorem dX12_follow_154 : decode cX12_follow 154 = .ok (.istore 7, 2) := by decide +kernel
theorem dX12_follow_156 : decode cX12_follow 156 = .ok (.aload_n 0, 1) := by decide +kernel
theorem dX12_follow_157 : decode cX12_follow 157 = .ok (.getfield 55, 3) := by decide +kernel
theorem dX12_follow_160 : decode cX12_follow 160 = .ok (.iload 7, 2) := by decide +kernel
theorem dX12_follow_162 : decode cX12_follow 162 = .ok (.aload_n 0, 1) := by decide +kernel
theorem dX12_follow_163 : decode cX12_follow 163 = .ok (.getfield 31, 3) := by decide +kernel
theorem dX12_follow_166 : decode cX12_follow 166 = .ok (.iload 7, 2) := by decide +kernel
theorem dX12_follow_168 : decode cX12_follow 168 = .ok (.iaload, 1) := by decide +kernel
theorem dX12_follow_169 : decode cX12_follow 169 = .ok (.iload 4, 2) := by decide +kernel
theorem dX12_follow_171 : decode cX12_follow 171 = .ok (.if_icmp .eq 7, 3) := by decide +kernel
theorem dX12_follow_174 : decode cX12_follow 174 = .ok (.iconst 1, 1) := by decide +kernel
theorem dX12_follow_175 : decode cX12_follow 175 = .ok (.goto 4, 3) := by decide +kernel
theorem dX12_follow_178 : decode cX12_follow 178 = .ok (.iconst 0, 1) := by decide +kernel
theorem dX12_follow_179 : decode cX12_follow 179 = .ok (.bastore, 1) := by decide +kernel
theorem dX12_follow_180 : decode cX12_follow 180 = .ok (.aload_n 0, 1) := by decide +kernel
theorem dX12_follow_181 : decode cX12_follow 181 = .ok (.getfield 55, 3) := by decide +kernel
theorem dX12_follow_184 : decode cX12_follow 184 = .ok (.iload 7, 2) := by decide +kernel
theorem dX12_follow_186 : decode cX12_follow 186 = .ok (.baload, 1) := by decide +kernel
theorem dX12_follow_187 : decode cX12_follow 187 = .ok (.ifCond .ne 12, 3) := by decide +kernel
theorem dX12_follow_190 : decode cX12_follow 190 = .ok (.aload_n 0, 1) := by decide +kernel
theorem dX12_follow_191 : decode cX12_follow 191 = .ok (.getfield 34, 3) := by decide +kernel
theorem dX12_follow_194 : decode cX12_follow 194 = .ok (.iload 7, 2) := by decide +kernel
theorem dX12_follow_196 : decode cX12_follow 196 = .ok (.iaload, 1) := by decide +kernel
theorem dX12_follow_197 : decode cX12_follow 197 = .ok (.istore 4, 2) := by decide +kernel
theorem dX12_follow_199 : decode cX12_follow 199 = .ok (.aload_n 0, 1) := by decide +kernel
theorem dX12_follow_200 : decode cX12_follow 200 = .ok (.getfield 37, 3) := by decide +kernel
theorem dX12_follow_203 : decode cX12_follow 203 = .ok (.iload 7, 2) := by decide +kernel
theorem dX12_follow_205 : decode cX12_follow 205 = .ok (.iaload, 1) := by decide +kernel
theorem dX12_follow_206 : decode cX12_follow 206 = .ok (.iload_n 2, 1) := by decide +kernel
theorem dX12_follow_207 : decode cX12_follow 207 = .ok (.if_icmp .gt 7, 3) := by decide +kernel
theorem dX12_follow_210 : decode cX12_follow 210 = .ok (.iload 4, 2) := by decide +kernel
theorem dX12_follow_212 : decode cX12_follow 212 = .ok (.istore 5, 2) := by decide +kernel
theorem dX12_follow_214 : decode cX12_follow 214 = .ok (.iinc 6 1, 3) := by decide +kernel
theorem dX12_follow_217 : decode cX12_follow 217 = .ok (.goto (-79), 3) := by decide +kernel
theorem dX12_follow_220 : decode cX12_follow 220 = .ok (.iload 5, 2) := by decide +kernel
theorem dX12_follow_222 : decode cX12_follow 222 = .ok (.ireturn, 1) := by decide +kernel
theorem dX12_holder_0 : decode cX12_holder 0 = .ok (.aload_n 0, 1) := by decide +kernel
theorem dX12_holder_1 : decode cX12_holder 1 = .ok (.iload_n 1, 1) := by decide +kernel
theorem dX12_holder_2 : decode cX12_holder 2 = .ok (.invokevirtual 146, 3) := by decide +kernel
theorem dX12_holder_5 : decode cX12_holder 5 = .ok (.ifCond .eq 13, 3) := by decide +kernel
theorem dX12_holder_8 : decode cX12_holder 8 = .ok (.aload_n 0, 1) := by decide +kernel
theorem dX12_holder_9 : decode cX12_holder 9 = .ok (.iload_n 1, 1) := by decide +kernel
theorem dX12_holder_10 : decode cX12_holder 10 = .ok (.iload_n 2, 1) := by decide +kernel
theorem dX12_holder_11 : decode cX12_holder 11 = .ok (.iload_n 3, 1) := by decide +kernel
theorem dX12_holder_12 : decode cX12_holder 12 = .ok (.invokevirtual 165, 3) := by decide +kernel
theorem dX12_holder_15 : decode cX12_holder 15 = .ok (.goto 4, 3) := by decide +kernel
theorem dX12_holder_18 : decode cX12_holder 18 = .ok (.iconst (-1), 1) := by decide +kernel
theorem dX12_holder_19 : decode cX12_holder 19 = .ok (.ireturn, 1) := by decide +kernel
theorem dX12_loose_0 : decode cX12_loose 0 = .ok (.aload_n 0, 1) := by decide +kernel
theorem dX12_loose_1 : decode cX12_loose 1 = .ok (.iload_n 1, 1) := by decide +kernel
theorem dX12_loose_2 : decode cX12_loose 2 = .ok (.invokevirtual 155, 3) := by decide +kernel
theorem dX12_loose_5 : decode cX12_loose 5 = .ok (.ifCond .eq 12, 3) := by decide +kernel
theorem dX12_loose_8 : decode cX12_loose 8 = .ok (.aload_n 0, 1) := by decide +kernel
theorem dX12_loose_9 : decode cX12_loose 9 = .ok (.iload_n 1, 1) := by decide +kernel
theorem dX12_loose_10 : decode cX12_loose 10 = .ok (.iload_n 2, 1) := by decide +kernel
theorem dX12_loose_11 : decode cX12_loose 11 = .ok (.invokevirtual 161, 3) := by decide +kernel
theorem dX12_loose_14 : decode cX12_loose 14 = .ok (.ifCond .ne 5, 3) := by decide +kernel
theorem dX12_loose_17 : decode cX12_loose 17 = .ok (.iconst (-1), 1) := by decide +kernel
theorem dX12_loose_18 : decode cX12_loose 18 = .ok (.ireturn, 1) := by decide +kernel
theorem dX12_loose_19 : decode cX12_loose 19 = .ok (.aload_n 0, 1) := by decide +kernel
theorem dX12_loose_20 : decode cX12_loose 20 = .ok (.aload_n 0, 1) := by decide +kernel
theorem dX12_loose_21 : decode cX12_loose 21 = .ok (.getfield 28, 3) := by decide +kernel
theorem dX12_loose_24 : decode cX12_loose 24 = .ok (.iload_n 1, 1) := by decide +kernel
theorem dX12_loose_25 : decode cX12_loose 25 = .ok (.iaload, 1) := by decide +kernel
theorem dX12_loose_26 : decode cX12_loose 26 = .ok (.iconst 0, 1) := by decide +kernel
theorem dX12_loose_27 : decode cX12_loose 27 = .ok (.iload_n 2, 1) := by decide +kernel
theorem dX12_loose_28 : decode cX12_loose 28 = .ok (.invokevirtual 165, 3) := by decide +kernel
theorem dX12_loose_31 : decode cX12_loose 31 = .ok (.pop, 1) := by decide +kernel
theorem dX12_loose_32 : decode cX12_loose 32 = .ok (.aload_n 0, 1) := by decide +kernel
theorem dX12_loose_33 : decode cX12_loose 33 = .ok (.getfield 55, 3) := by decide +kernel
theorem dX12_loose_36 : decode cX12_loose 36 = .ok (.iload_n 1, 1) := by decide +kernel
theorem dX12_loose_37 : decode cX12_loose 37 = .ok (.baload, 1) := by decide +kernel
theorem dX12_loose_38 : decode cX12_loose 38 = .ok (.ifCond .eq 7, 3) := by decide +kernel
theorem dX12_loose_41 : decode cX12_loose 41 = .ok (.iconst 1, 1) := by decide +kernel
theorem dX12_loose_42 : decode cX12_loose 42 = .ok (.goto 4, 3) := by decide +kernel
theorem dX12_loose_45 : decode cX12_loose 45 = .ok (.iconst 0, 1) := by decide +kernel
theorem dX12_loose_46 : decode cX12_loose 46 = .ok (.ireturn, 1) := by decide +kernel
theorem dX12_sign_0 : decode cX12_sign 0 = .ok (.iload_n 1, 1) := by decide +kernel
theorem dX12_sign_1 : decode cX12_sign 1 = .ok (.aload_n 0, 1) := by decide +kernel
theorem dX12_sign_2 : decode cX12_sign 2 = .ok (.getfield 169, 3) := by decide +kernel
theorem dX12_sign_5 : decode cX12_sign 5 = .ok (.if_icmp .ge 16, 3) := by decide +kernel
theorem dX12_sign_8 : decode cX12_sign 8 = .ok (.aload_n 0, 1) := by decide +kernel
theorem dX12_sign_9 : decode cX12_sign 9 = .ok (.getfield 63, 3) := by decide +kernel
theorem dX12_sign_12 : decode cX12_sign 12 = .ok (.iload_n 1, 1) := by decide +kernel
theorem dX12_sign_13 : decode cX12_sign 13 = .ok (.baload, 1) := by decide +kernel
theorem dX12_sign_14 : decode cX12_sign 14 = .ok (.sipush 255, 3) := by decide +kernel
theorem dX12_sign_17 : decode cX12_sign 17 = .ok (.iand, 1) := by decide +kernel
theorem dX12_sign_18 : decode cX12_sign 18 = .ok (.goto 4, 3) := by decide +kernel
theorem dX12_sign_21 : decode cX12_sign 21 = .ok (.iconst 0, 1) := by decide +kernel
theorem dX12_sign_22 : decode cX12_sign 22 = .ok (.ireturn, 1) := by decide +kernel
theorem dX12_isLetter_0 : decode cX12_isLetter 0 = .ok (.iload_n 0, 1) := by decide +kernel
theorem dX12_isLetter_1 : decode cX12_isLetter 1 = .ok (.bipush 97, 2) := by decide +kernel
theorem dX12_isLetter_3 : decode cX12_isLetter 3 = .ok (.if_icmp .lt 13, 3) := by decide +kernel
theorem dX12_isLetter_6 : decode cX12_isLetter 6 = .ok (.iload_n 0, 1) := by decide +kernel
theorem dX12_isLetter_7 : decode cX12_isLetter 7 = .ok (.bipush 122, 2) := by decide +kernel
theorem dX12_isLetter_9 : decode cX12_isLetter 9 = .ok (.if_icmp .gt 7, 3) := by decide +kernel
theorem dX12_isLetter_12 : decode cX12_isLetter 12 = .ok (.iconst 1, 1) := by decide +kernel
theorem dX12_isLetter_13 : decode cX12_isLetter 13 = .ok (.goto 4, 3) := by decide +kernel
theorem dX12_isLetter_16 : decode cX12_isLetter 16 = .ok (.iconst 0, 1) := by decide +kernel
theorem dX12_isLetter_17 : decode cX12_isLetter 17 = .ok (.ireturn, 1) := by decide +kernel
theorem dX12_isDigit_0 : decode cX12_isDigit 0 = .ok (.iload_n 0, 1) := by decide +kernel
theorem dX12_isDigit_1 : decode cX12_isDigit 1 = .ok (.bipush 48, 2) := by decide +kernel
theorem dX12_isDigit_3 : decode cX12_isDigit 3 = .ok (.if_icmp .lt 13, 3) := by decide +kernel
theorem dX12_isDigit_6 : decode cX12_isDigit 6 = .ok (.iload_n 0, 1) := by decide +kernel
theorem dX12_isDigit_7 : decode cX12_isDigit 7 = .ok (.bipush 57, 2) := by decide +kernel
theorem dX12_isDigit_9 : decode cX12_isDigit 9 = .ok (.if_icmp .gt 7, 3) := by decide +kernel
theorem dX12_isDigit_12 : decode cX12_isDigit 12 = .ok (.iconst 1, 1) := by decide +kernel
theorem dX12_isDigit_13 : decode cX12_isDigit 13 = .ok (.goto 4, 3) := by decide +kernel
theorem dX12_isDigit_16 : decode cX12_isDigit 16 = .ok (.iconst 0, 1) := by decide +kernel
theorem dX12_isDigit_17 : decode cX12_isDigit 17 = .ok (.ireturn, 1) := by decide +kernel
theorem dX12_fails_0 : decode cX12_fails 0 = .ok (.aload_n 0, 1) := by decide +kernel
theorem dX12_fails_1 : decode cX12_fails 1 = .ok (.getfield 172, 3) := by decide +kernel
theorem dX12_fails_4 : decode cX12_fails 4 = .ok (.ifCond .le 4, 3) := by decide +kernel
theorem dX12_fails_7 : decode cX12_fails 7 = .ok (.return_, 1) := by decide +kernel
theorem dX12_fails_8 : decode cX12_fails 8 = .ok (.aload_n 0, 1) := by decide +kernel
theorem dX12_fails_9 : decode cX12_fails 9 = .ok (.iload_n 1, 1) := by decide +kernel
theorem dX12_fails_10 : decode cX12_fails 10 = .ok (.putfield 172, 3) := by decide +kernel
theorem dX12_fails_13 : decode cX12_fails 13 = .ok (.aload_n 0, 1) := by decide +kernel
theorem dX12_fails_14 : decode cX12_fails 14 = .ok (.iload_n 2, 1) := by decide +kernel
theorem dX12_fails_15 : decode cX12_fails 15 = .ok (.putfield 66, 3) := by decide +kernel
theorem dX12_fails_18 : decode cX12_fails 18 = .ok (.return_, 1) := by decide +kernel
theorem dX12_isGood_0 : decode cX12_isGood 0 = .ok (.aload_n 0, 1) := by decide +kernel
theorem dX12_isGood_1 : decode cX12_isGood 1 = .ok (.getfield 172, 3) := by decide +kernel
theorem dX12_isGood_4 : decode cX12_isGood 4 = .ok (.ifCond .ne 7, 3) := by decide +kernel
theorem dX12_isGood_7 : decode cX12_isGood 7 = .ok (.iconst 1, 1) := by decide +kernel
theorem dX12_isGood_8 : decode cX12_isGood 8 = .ok (.goto 4, 3) := by decide +kernel
theorem dX12_isGood_11 : decode cX12_isGood 11 = .ok (.iconst 0, 1) := by decide +kernel
theorem dX12_isGood_12 : decode cX12_isGood 12 = .ok (.ireturn, 1) := by decide +kernel
theorem dX12_next_0 : decode cX12_next 0 = .ok (.aload_n 0, 1) := by decide +kernel
theorem dX12_next_1 : decode cX12_next 1 = .ok (.aload_n 0, 1) := by decide +kernel
theorem dX12_next_2 : decode cX12_next 2 = .ok (.getfield 175, 3) := by decide +kernel
theorem dX12_next_5 : decode cX12_next 5 = .ok (.putfield 178, 3) := by decide +kernel
theorem dX12_next_8 : decode cX12_next 8 = .ok (.aload_n 0, 1) := by decide +kernel
theorem dX12_next_9 : decode cX12_next 9 = .ok (.getfield 178, 3) := by decide +kernel
theorem dX12_next_12 : decode cX12_next 12 = .ok (.aload_n 0, 1) := by decide +kernel
theorem dX12_next_13 : decode cX12_next 13 = .ok (.getfield 169, 3) := by decide +kernel
theorem dX12_next_16 : decode cX12_next 16 = .ok (.if_icmp .ge 42, 3) := by decide +kernel
theorem dX12_next_19 : decode cX12_next 19 = .ok (.aload_n 0, 1) := by decide +kernel
theorem dX12_next_20 : decode cX12_next 20 = .ok (.aload_n 0, 1) := by decide +kernel
theorem dX12_next_21 : decode cX12_next 21 = .ok (.getfield 178, 3) := by decide +kernel
theorem dX12_next_24 : decode cX12_next 24 = .ok (.invokevirtual 181, 3) := by decide +kernel
theorem dX12_next_27 : decode cX12_next 27 = .ok (.bipush 32, 2) := by decide +kernel
theorem dX12_next_29 : decode cX12_next 29 = .ok (.if_icmp .eq 16, 3) := by decide +kernel
theorem dX12_next_32 : decode cX12_next 32 = .ok (.aload_n 0, 1) := by decide +kernel
theorem dX12_next_33 : decode cX12_next 33 = .ok (.aload_n 0, 1) := by decide +kernel
theorem dX12_next_34 : decode cX12_next 34 = .ok (.getfield 178, 3) := by decide +kernel
theorem dX12_next_37 : decode cX12_next 37 = .ok (.invokevirtual 181, 3) := by decide +kernel
theorem dX12_next_40 : decode cX12_next 40 = .ok (.bipush 10, 2) := by decide +kernel
theorem dX12_next_42 : decode cX12_next 42 = .ok (.if_icmp .ne 16, 3) := by decide +kernel
theorem dX12_next_45 : decode cX12_next 45 = .ok (.aload_n 0, 1) := by decide +kernel
theorem dX12_next_46 : decode cX12_next 46 = .ok (.dup, 1) := by decide +kernel
theorem dX12_next_47 : decode cX12_next 47 = .ok (.getfield 178, 3) := by decide +kernel
theorem dX12_next_50 : decode cX12_next 50 = .ok (.iconst 1, 1) := by decide +kernel
theorem dX12_next_51 : decode cX12_next 51 = .ok (.iadd, 1) := by decide +kernel
theorem dX12_next_52 : decode cX12_next 52 = .ok (.putfield 178, 3) := by decide +kernel
theorem dX12_next_55 : decode cX12_next 55 = .ok (.goto (-47), 3) := by decide +kernel
theorem dX12_next_58 : decode cX12_next 58 = .ok (.aload_n 0, 1) := by decide +kernel
theorem dX12_next_59 : decode cX12_next 59 = .ok (.aload_n 0, 1) := by decide +kernel
theorem dX12_next_60 : decode cX12_next 60 = .ok (.getfield 178, 3) := by decide +kernel
theorem dX12_next_63 : decode cX12_next 63 = .ok (.invokevirtual 181, 3) := by decide +kernel
theorem dX12_next_66 : decode cX12_next 66 = .ok (.istore_n 1, 1) := by decide +kernel
theorem dX12_next_67 : decode cX12_next 67 = .ok (.aload_n 0, 1) := by decide +kernel
theorem dX12_next_68 : decode cX12_next 68 = .ok (.aload_n 0, 1) := by decide +kernel
theorem dX12_next_69 : decode cX12_next 69 = .ok (.getfield 178, 3) := by decide +kernel
theorem dX12_next_72 : decode cX12_next 72 = .ok (.iconst 1, 1) := by decide +kernel
theorem dX12_next_73 : decode cX12_next 73 = .ok (.iadd, 1) := by decide +kernel
theorem dX12_next_74 : decode cX12_next 74 = .ok (.putfield 175, 3) := by decide +kernel
theorem dX12_next_77 : decode cX12_next 77 = .ok (.aload_n 0, 1) := by decide +kernel
theorem dX12_next_78 : decode cX12_next 78 = .ok (.getfield 178, 3) := by decide +kernel
theorem dX12_next_81 : decode cX12_next 81 = .ok (.aload_n 0, 1) := by decide +kernel
theorem dX12_next_82 : decode cX12_next 82 = .ok (.getfield 169, 3) := by decide +kernel
theorem dX12_next_85 : decode cX12_next 85 = .ok (.if_icmp .lt 27, 3) := by decide +kernel
theorem dX12_next_88 : decode cX12_next 88 = .ok (.aload_n 0, 1) := by decide +kernel
theorem dX12_next_89 : decode cX12_next 89 = .ok (.iconst 0, 1) := by decide +kernel
theorem dX12_next_90 : decode cX12_next 90 = .ok (.putfield 185, 3) := by decide +kernel
theorem dX12_next_93 : decode cX12_next 93 = .ok (.aload_n 0, 1) := by decide +kernel
theorem dX12_next_94 : decode cX12_next 94 = .ok (.aload_n 0, 1) := by decide +kernel
theorem dX12_next_95 : decode cX12_next 95 = .ok (.getfield 169, 3) := by decide +kernel
theorem dX12_next_98 : decode cX12_next 98 = .ok (.putfield 178, 3) := by decide +kernel
theorem dX12_next_101 : decode cX12_next 101 = .ok (.aload_n 0, 1) := by decide +kernel
theorem dX12_next_102 : decode cX12_next 102 = .ok (.aload_n 0, 1) := by decide +kernel
theorem dX12_next_103 : decode cX12_next 103 = .ok (.getfield 169, 3) := by decide +kernel
theorem dX12_next_106 : decode cX12_next 106 = .ok (.putfield 175, 3) := by decide +kernel
theorem dX12_next_109 : decode cX12_next 109 = .ok (.goto 297, 3) := by decide +kernel
theorem dX12_next_112 : decode cX12_next 112 = .ok (.iload_n 1, 1) := by decide +kernel
theorem dX12_next_113 : decode cX12_next 113 = .ok (.invokestatic 188, 3) := by decide +kernel
theorem dX12_next_116 : decode cX12_next 116 = .ok (.ifCond .eq 109, 3) := by decide +kernel
theorem dX12_next_119 : decode cX12_next 119 = .ok (.aload_n 0, 1) := by decide +kernel
theorem dX12_next_120 : decode cX12_next 120 = .ok (.aload_n 0, 1) := by decide +kernel
theorem dX12_next_121 : decode cX12_next 121 = .ok (.getfield 175, 3) := by decide +kernel
theorem dX12_next_124 : decode cX12_next 124 = .ok (.invokevirtual 181, 3) := by decide +kernel
theorem dX12_next_127 : decode cX12_next 127 = .ok (.invokestatic 188, 3) := by decide +kernel
theorem dX12_next_130 : decode cX12_next 130 = .ok (.ifCond .eq 16, 3) := by decide +kernel
theorem dX12_next_133 : decode cX12_next 133 = .ok (.aload_n 0, 1) := by decide +kernel
theorem dX12_next_134 : decode cX12_next 134 = .ok (.dup, 1) := by decide +kernel
theorem dX12_next_135 : decode cX12_next 135 = .ok (.getfield 175, 3) := by decide +kernel
theorem dX12_next_138 : decode cX12_next 138 = .ok (.iconst 1, 1) := by decide +kernel
theorem dX12_next_139 : decode cX12_next 139 = .ok (.iadd, 1) := by decide +kernel
theorem dX12_next_140 : decode cX12_next 140 = .ok (.putfield 175, 3) := by decide +kernel
theorem dX12_next_143 : decode cX12_next 143 = .ok (.goto (-24), 3) := by decide +kernel
theorem dX12_next_146 : decode cX12_next 146 = .ok (.aload_n 0, 1) := by decide +kernel
theorem dX12_next_147 : decode cX12_next 147 = .ok (.lconst 0, 1) := by decide +kernel
theorem dX12_next_148 : decode cX12_next 148 = .ok (.putfield 191, 3) := by decide +kernel
theorem dX12_next_151 : decode cX12_next 151 = .ok (.aload_n 0, 1) := by decide +kernel
theorem dX12_next_152 : decode cX12_next 152 = .ok (.getfield 178, 3) := by decide +kernel
theorem dX12_next_155 : decode cX12_next 155 = .ok (.istore_n 2, 1) := by decide +kernel
theorem dX12_next_156 : decode cX12_next 156 = .ok (.iload_n 2, 1) := by decide +kernel
theorem dX12_next_157 : decode cX12_next 157 = .ok (.aload_n 0, 1) := by decide +kernel
theorem dX12_next_158 : decode cX12_next 158 = .ok (.getfield 175, 3) := by decide +kernel
theorem dX12_next_161 : decode cX12_next 161 = .ok (.if_icmp .ge 38, 3) := by decide +kernel
theorem dX12_next_164 : decode cX12_next 164 = .ok (.iload_n 2, 1) := by decide +kernel
theorem dX12_next_165 : decode cX12_next 165 = .ok (.aload_n 0, 1) := by decide +kernel
theorem dX12_next_166 : decode cX12_next 166 = .ok (.getfield 178, 3) := by decide +kernel
theorem dX12_next_169 : decode cX12_next 169 = .ok (.bipush 8, 2) := by decide +kernel
theorem dX12_next_171 : decode cX12_next 171 = .ok (.iadd, 1) := by decide +kernel
theorem dX12_next_172 : decode cX12_next 172 = .ok (.if_icmp .ge 27, 3) := by decide +kernel
theorem dX12_next_175 : decode cX12_next 175 = .ok (.aload_n 0, 1) := by decide +kernel
theorem dX12_next_176 : decode cX12_next 176 = .ok (.aload_n 0, 1) := by decide +kernel
theorem dX12_next_177 : decode cX12_next 177 = .ok (.getfield 191, 3) := by decide +kernel
theorem dX12_next_180 : decode cX12_next 180 = .ok (.bipush 8, 2) := by decide +kernel
theorem dX12_next_182 : decode cX12_next 182 = .ok (.lshl, 1) := by decide +kernel
theorem dX12_next_183 : decode cX12_next 183 = .ok (.aload_n 0, 1) := by decide +kernel
theorem dX12_next_184 : decode cX12_next 184 = .ok (.iload_n 2, 1) := by decide +kernel
theorem dX12_next_185 : decode cX12_next 185 = .ok (.invokevirtual 181, 3) := by decide +kernel
theorem dX12_next_188 : decode cX12_next 188 = .ok (.i2l, 1) := by decide +kernel
theorem dX12_next_189 : decode cX12_next 189 = .ok (.lor, 1) := by decide +kernel
theorem dX12_next_190 : decode cX12_next 190 = .ok (.putfield 191, 3) := by decide +kernel
theorem dX12_next_193 : decode cX12_next 193 = .ok (.iinc 2 1, 3) := by decide +kernel
theorem dX12_next_196 : decode cX12_next 196 = .ok (.goto (-40), 3) := by decide +kernel
theorem dX12_next_199 : decode cX12_next 199 = .ok (.aload_n 0, 1) := by decide +kernel
theorem dX12_next_200 : decode cX12_next 200 = .ok (.aload_n 0, 1) := by decide +kernel
theorem dX12_next_201 : decode cX12_next 201 = .ok (.getfield 175, 3) := by decide +kernel
theorem dX12_next_204 : decode cX12_next 204 = .ok (.aload_n 0, 1) := by decide +kernel
theorem dX12_next_205 : decode cX12_next 205 = .ok (.getfield 178, 3) := by decide +kernel
theorem dX12_next_208 : decode cX12_next 208 = .ok (.isub, 1) := by decide +kernel
theorem dX12_next_209 : decode cX12_next 209 = .ok (.bipush 8, 2) := by decide +kernel
theorem dX12_next_211 : decode cX12_next 211 = .ok (.if_icmp .le 7, 3) := by decide +kernel
theorem dX12_next_214 : decode cX12_next 214 = .ok (.iconst 1, 1) := by decide +kernel
theorem dX12_next_215 : decode cX12_next 215 = .ok (.goto 4, 3) := by decide +kernel
theorem dX12_next_218 : decode cX12_next 218 = .ok (.iconst 2, 1) := by decide +kernel
theorem dX12_next_219 : decode cX12_next 219 = .ok (.putfield 185, 3) := by decide +kernel
theorem dX12_next_222 : decode cX12_next 222 = .ok (.goto 184, 3) := by decide +kernel
theorem dX12_next_225 : decode cX12_next 225 = .ok (.iload_n 1, 1) := by decide +kernel
theorem dX12_next_226 : decode cX12_next 226 = .ok (.invokestatic 195, 3) := by decide +kernel
theorem dX12_next_229 : decode cX12_next 229 = .ok (.ifCond .eq 120, 3) := by decide +kernel
theorem dX12_next_232 : decode cX12_next 232 = .ok (.aload_n 0, 1) := by decide +kernel
theorem dX12_next_233 : decode cX12_next 233 = .ok (.iconst 0, 1) := by decide +kernel
theorem dX12_next_234 : decode cX12_next 234 = .ok (.putfield 198, 3) := by decide +kernel
theorem dX12_next_237 : decode cX12_next 237 = .ok (.aload_n 0, 1) := by decide +kernel
theorem dX12_next_238 : decode cX12_next 238 = .ok (.aload_n 0, 1) := by decide +kernel
theorem dX12_next_239 : decode cX12_next 239 = .ok (.getfield 178, 3) := by decide +kernel
theorem dX12_next_242 : decode cX12_next 242 = .ok (.putfield 175, 3) := by decide +kernel
theorem dX12_next_245 : decode cX12_next 245 = .ok (.aload_n 0, 1) := by decide +kernel
theorem dX12_next_246 : decode cX12_next 246 = .ok (.aload_n 0, 1) := by decide +kernel
theorem dX12_next_247 : decode cX12_next 247 = .ok (.getfield 175, 3) := by decide +kernel
theorem dX12_next_250 : decode cX12_next 250 = .ok (.invokevirtual 181, 3) := by decide +kernel
theorem dX12_next_253 : decode cX12_next 253 = .ok (.invokestatic 195, 3) := by decide +kernel
theorem dX12_next_256 : decode cX12_next 256 = .ok (.ifCond .eq 53, 3) := by decide +kernel
theorem dX12_next_259 : decode cX12_next 259 = .ok (.aload_n 0, 1) := by decide +kernel
theorem dX12_next_260 : decode cX12_next 260 = .ok (.getfield 175, 3) := by decide +kernel
theorem dX12_next_263 : decode cX12_next 263 = .ok (.aload_n 0, 1) := by decide +kernel
theorem dX12_next_264 : decode cX12_next 264 = .ok (.getfield 178, 3) := by decide +kernel
theorem dX12_next_267 : decode cX12_next 267 = .ok (.isub, 1) := by decide +kernel
theorem dX12_next_268 : decode cX12_next 268 = .ok (.bipush 7, 2) := by decide +kernel
theorem dX12_next_270 : decode cX12_next 270 = .ok (.if_icmp .ge 26, 3) := by decide +kernel
theorem dX12_next_273 : decode cX12_next 273 = .ok (.aload_n 0, 1) := by decide +kernel
theorem dX12_next_274 : decode cX12_next 274 = .ok (.bipush 10, 2) := by decide +kernel
theorem dX12_next_276 : decode cX12_next 276 = .ok (.aload_n 0, 1) := by decide +kernel
theorem dX12_next_277 : decode cX12_next 277 = .ok (.getfield 198, 3) := by decide +kernel
theorem dX12_next_280 : decode cX12_next 280 = .ok (.imul, 1) := by decide +kernel
theorem dX12_next_281 : decode cX12_next 281 = .ok (.aload_n 0, 1) := by decide +kernel
theorem dX12_next_282 : decode cX12_next 282 = .ok (.aload_n 0, 1) := by decide +kernel
theorem dX12_next_283 : decode cX12_next 283 = .ok (.getfield 175, 3) := by decide +kernel
theorem dX12_next_286 : decode cX12_next 286 = .ok (.invokevirtual 181, 3) := by decide +kernel
theorem dX12_next_289 : decode cX12_next 289 = .ok (.iadd, 1) := by decide +kernel
theorem dX12_next_290 : decode cX12_next 290 = .ok (.bipush 48, 2) := by decide +kernel
theorem dX12_next_292 : decode cX12_next 292 = .ok (.isub, 1) := by decide +kernel
theorem dX12_next_293 : decode cX12_next 293 = .ok (.putfield 198, 3) := by decide +kernel
theorem dX12_next_296 : decode cX12_next 296 = .ok (.aload_n 0, 1) := by decide +kernel
theorem dX12_next_297 : decode cX12_next 297 = .ok (.dup, 1) := by decide +kernel
theorem dX12_next_298 : decode cX12_next 298 = .ok (.getfield 175, 3) := by decide +kernel
theorem dX12_next_301 : decode cX12_next 301 = .ok (.iconst 1, 1) := by decide +kernel
theorem dX12_next_302 : decode cX12_next 302 = .ok (.iadd, 1) := by decide +kernel
theorem dX12_next_303 : decode cX12_next 303 = .ok (.putfield 175, 3) := by decide +kernel
theorem dX12_next_306 : decode cX12_next 306 = .ok (.goto (-61), 3) := by decide +kernel
theorem dX12_next_309 : decode cX12_next 309 = .ok (.aload_n 0, 1) := by decide +kernel
theorem dX12_next_310 : decode cX12_next 310 = .ok (.aload_n 0, 1) := by decide +kernel
theorem dX12_next_311 : decode cX12_next 311 = .ok (.getfield 175, 3) := by decide +kernel
theorem dX12_next_314 : decode cX12_next 314 = .ok (.aload_n 0, 1) := by decide +kernel
theorem dX12_next_315 : decode cX12_next 315 = .ok (.getfield 178, 3) := by decide +kernel
theorem dX12_next_318 : decode cX12_next 318 = .ok (.isub, 1) := by decide +kernel
theorem dX12_next_319 : decode cX12_next 319 = .ok (.bipush 7, 2) := by decide +kernel
theorem dX12_next_321 : decode cX12_next 321 = .ok (.if_icmp .gt 17, 3) := by decide +kernel
theorem dX12_next_324 : decode cX12_next 324 = .ok (.aload_n 0, 1) := by decide +kernel
theorem dX12_next_325 : decode cX12_next 325 = .ok (.aload_n 0, 1) := by decide +kernel
theorem dX12_next_326 : decode cX12_next 326 = .ok (.getfield 175, 3) := by decide +kernel
theorem dX12_next_329 : decode cX12_next 329 = .ok (.invokevirtual 181, 3) := by decide +kernel
theorem dX12_next_332 : decode cX12_next 332 = .ok (.invokestatic 188, 3) := by decide +kernel
theorem dX12_next_335 : decode cX12_next 335 = .ok (.ifCond .eq 7, 3) := by decide +kernel
theorem dX12_next_338 : decode cX12_next 338 = .ok (.iconst 1, 1) := by decide +kernel
theorem dX12_next_339 : decode cX12_next 339 = .ok (.goto 4, 3) := by decide +kernel
theorem dX12_next_342 : decode cX12_next 342 = .ok (.iconst 3, 1) := by decide +kernel
theorem dX12_next_343 : decode cX12_next 343 = .ok (.putfield 185, 3) := by decide +kernel
theorem dX12_next_346 : decode cX12_next 346 = .ok (.goto 60, 3) := by decide +kernel
theorem dX12_next_349 : decode cX12_next 349 = .ok (.aload_n 0, 1) := by decide +kernel
theorem dX12_next_350 : decode cX12_next 350 = .ok (.iload_n 1, 1) := by decide +kernel
theorem dX12_next_351 : decode cX12_next 351 = .ok (.bipush 59, 2) := by decide +kernel
theorem dX12_next_353 : decode cX12_next 353 = .ok (.if_icmp .eq 45, 3) := by decide +kernel
theorem dX12_next_356 : decode cX12_next 356 = .ok (.iload_n 1, 1) := by decide +kernel
theorem dX12_next_357 : decode cX12_next 357 = .ok (.bipush 40, 2) := by decide +kernel
theorem dX12_next_359 : decode cX12_next 359 = .ok (.if_icmp .eq 39, 3) := by decide +kernel
theorem dX12_next_362 : decode cX12_next 362 = .ok (.iload_n 1, 1) := by decide +kernel
theorem dX12_next_363 : decode cX12_next 363 = .ok (.bipush 41, 2) := by decide +kernel
theorem dX12_next_365 : decode cX12_next 365 = .ok (.if_icmp .eq 33, 3) := by decide +kernel
theorem dX12_next_368 : decode cX12_next 368 = .ok (.iload_n 1, 1) := by decide +kernel
theorem dX12_next_369 : decode cX12_next 369 = .ok (.bipush 60, 2) := by decide +kernel
theorem dX12_next_371 : decode cX12_next 371 = .ok (.if_icmp .eq 27, 3) := by decide +kernel
theorem dX12_next_374 : decode cX12_next 374 = .ok (.iload_n 1, 1) := by decide +kernel
theorem dX12_next_375 : decode cX12_next 375 = .ok (.bipush 62, 2) := by decide +kernel
theorem dX12_next_377 : decode cX12_next 377 = .ok (.if_icmp .eq 21, 3) := by decide +kernel
theorem dX12_next_380 : decode cX12_next 380 = .ok (.iload_n 1, 1) := by decide +kernel
theorem dX12_next_381 : decode cX12_next 381 = .ok (.bipush 61, 2) := by decide +kernel
theorem dX12_next_383 : decode cX12_next 383 = .ok (.if_icmp .eq 15, 3) := by decide +kernel
theorem dX12_next_386 : decode cX12_next 386 = .ok (.iload_n 1, 1) := by decide +kernel
theorem dX12_next_387 : decode cX12_next 387 = .ok (.bipush 43, 2) := by decide +kernel
theorem dX12_next_389 : decode cX12_next 389 = .ok (.if_icmp .eq 9, 3) := by decide +kernel
theorem dX12_next_392 : decode cX12_next 392 = .ok (.iload_n 1, 1) := by decide +kernel
theorem dX12_next_393 : decode cX12_next 393 = .ok (.bipush 45, 2) := by decide +kernel
theorem dX12_next_395 : decode cX12_next 395 = .ok (.if_icmp .ne 7, 3) := by decide +kernel
theorem dX12_next_398 : decode cX12_next 398 = .ok (.iconst 4, 1) := by decide +kernel
theorem dX12_next_399 : decode cX12_next 399 = .ok (.goto 4, 3) := by decide +kernel
theorem dX12_next_402 : decode cX12_next 402 = .ok (.iconst 1, 1) := by decide +kernel
theorem dX12_next_403 : decode cX12_next 403 = .ok (.putfield 185, 3) := by decide +kernel
theorem dX12_next_406 : decode cX12_next 406 = .ok (.return_, 1) := by decide +kernel
theorem dX12_is_0 : decode cX12_is 0 = .ok (.aload_n 0, 1) := by decide +kernel
theorem dX12_is_1 : decode cX12_is 1 = .ok (.getfield 185, 3) := by decide +kernel
theorem dX12_is_4 : decode cX12_is 4 = .ok (.iconst 4, 1) := by decide +kernel
theorem dX12_is_5 : decode cX12_is 5 = .ok (.if_icmp .ne 19, 3) := by decide +kernel
theorem dX12_is_8 : decode cX12_is 8 = .ok (.aload_n 0, 1) := by decide +kernel
theorem dX12_is_9 : decode cX12_is 9 = .ok (.aload_n 0, 1) := by decide +kernel
theorem dX12_is_10 : decode cX12_is 10 = .ok (.getfield 178, 3) := by decide +kernel
theorem dX12_is_13 : decode cX12_is 13 = .ok (.invokevirtual 181, 3) := by decide +kernel
theorem dX12_is_16 : decode cX12_is 16 = .ok (.iload_n 1, 1) := by decide +kernel
theorem dX12_is_17 : decode cX12_is 17 = .ok (.if_icmp .ne 7, 3) := by decide +kernel
theorem dX12_is_20 : decode cX12_is 20 = .ok (.iconst 1, 1) := by decide +kernel
theorem dX12_is_21 : decode cX12_is 21 = .ok (.goto 4, 3) := by decide +kernel
theorem dX12_is_24 : decode cX12_is 24 = .ok (.iconst 0, 1) := by decide +kernel
theorem dX12_is_25 : decode cX12_is 25 = .ok (.ireturn, 1) := by decide +kernel
theorem dX12_isWord_0 : decode cX12_isWord 0 = .ok (.aload_n 0, 1) := by decide +kernel
theorem dX12_isWord_1 : decode cX12_isWord 1 = .ok (.getfield 185, 3) := by decide +kernel
theorem dX12_isWord_4 : decode cX12_isWord 4 = .ok (.iconst 2, 1) := by decide +kernel
theorem dX12_isWord_5 : decode cX12_isWord 5 = .ok (.if_icmp .ne 16, 3) := by decide +kernel
theorem dX12_isWord_8 : decode cX12_isWord 8 = .ok (.aload_n 0, 1) := by decide +kernel
theorem dX12_isWord_9 : decode cX12_isWord 9 = .ok (.getfield 191, 3) := by decide +kernel
theorem dX12_isWord_12 : decode cX12_isWord 12 = .ok (.lload_n 1, 1) := by decide +kernel
theorem dX12_isWord_13 : decode cX12_isWord 13 = .ok (.lcmp, 1) := by decide +kernel
theorem dX12_isWord_14 : decode cX12_isWord 14 = .ok (.ifCond .ne 7, 3) := by decide +kernel
theorem dX12_isWord_17 : decode cX12_isWord 17 = .ok (.iconst 1, 1) := by decide +kernel
theorem dX12_isWord_18 : decode cX12_isWord 18 = .ok (.goto 4, 3) := by decide +kernel
theorem dX12_isWord_21 : decode cX12_isWord 21 = .ok (.iconst 0, 1) := by decide +kernel
theorem dX12_isWord_22 : decode cX12_isWord 22 = .ok (.ireturn, 1) := by decide +kernel
theorem dX12_wrong_0 : decode cX12_wrong 0 = .ok (.aload_n 0, 1) := by decide +kernel
theorem dX12_wrong_1 : decode cX12_wrong 1 = .ok (.aload_n 0, 1) := by decide +kernel
theorem dX12_wrong_2 : decode cX12_wrong 2 = .ok (.getfield 185, 3) := by decide +kernel
theorem dX12_wrong_5 : decode cX12_wrong 5 = .ok (.iconst 1, 1) := by decide +kernel
theorem dX12_wrong_6 : decode cX12_wrong 6 = .ok (.if_icmp .ne 7, 3) := by decide +kernel
theorem dX12_wrong_9 : decode cX12_wrong 9 = .ok (.iconst 1, 1) := by decide +kernel
theorem dX12_wrong_10 : decode cX12_wrong 10 = .ok (.goto 4, 3) := by decide +kernel
theorem dX12_wrong_13 : decode cX12_wrong 13 = .ok (.iconst 2, 1) := by decide +kernel
theorem dX12_wrong_14 : decode cX12_wrong 14 = .ok (.aload_n 0, 1) := by decide +kernel
theorem dX12_wrong_15 : decode cX12_wrong 15 = .ok (.getfield 178, 3) := by decide +kernel
theorem dX12_wrong_18 : decode cX12_wrong 18 = .ok (.invokevirtual 201, 3) := by decide +kernel
theorem dX12_wrong_21 : decode cX12_wrong 21 = .ok (.return_, 1) := by decide +kernel
theorem dX12_must_0 : decode cX12_must 0 = .ok (.aload_n 0, 1) := by decide +kernel
theorem dX12_must_1 : decode cX12_must 1 = .ok (.invokevirtual 205, 3) := by decide +kernel
theorem dX12_must_4 : decode cX12_must 4 = .ok (.ifCond .ne 4, 3) := by decide +kernel
theorem dX12_must_7 : decode cX12_must 7 = .ok (.return_, 1) := by decide +kernel
theorem dX12_must_8 : decode cX12_must 8 = .ok (.iload_n 1, 1) := by decide +kernel
theorem dX12_must_9 : decode cX12_must 9 = .ok (.ifCond .eq 10, 3) := by decide +kernel
theorem dX12_must_12 : decode cX12_must 12 = .ok (.aload_n 0, 1) := by decide +kernel
theorem dX12_must_13 : decode cX12_must 13 = .ok (.invokevirtual 209, 3) := by decide +kernel
theorem dX12_must_16 : decode cX12_must 16 = .ok (.goto 7, 3) := by decide +kernel
theorem dX12_must_19 : decode cX12_must 19 = .ok (.aload_n 0, 1) := by decide +kernel
theorem dX12_must_20 : decode cX12_must 20 = .ok (.invokevirtual 212, 3) := by decide +kernel
theorem dX12_must_23 : decode cX12_must 23 = .ok (.return_, 1) := by decide +kernel
theorem dX12_termHere_0 : decode cX12_termHere 0 = .ok (.aload_n 0, 1) := by decide +kernel
theorem dX12_termHere_1 : decode cX12_termHere 1 = .ok (.getfield 185, 3) := by decide +kernel
theorem dX12_termHere_4 : decode cX12_termHere 4 = .ok (.iconst 2, 1) := by decide +kernel
theorem dX12_termHere_5 : decode cX12_termHere 5 = .ok (.if_icmp .eq 5, 3) := by decide +kernel
theorem dX12_termHere_8 : decode cX12_termHere 8 = .ok (.iconst (-1), 1) := by decide +kernel
theorem dX12_termHere_9 : decode cX12_termHere 9 = .ok (.ireturn, 1) := by decide +kernel
theorem dX12_termHere_10 : decode cX12_termHere 10 = .ok (.aload_n 0, 1) := by decide +kernel
theorem dX12_termHere_11 : decode cX12_termHere 11 = .ok (.getfield 191, 3) := by decide +kernel
theorem dX12_termHere_14 : decode cX12_termHere 14 = .ok (.ldc2_w 215, 3) := by decide +kernel
theorem dX12_termHere_17 : decode cX12_termHere 17 = .ok (.lcmp, 1) := by decide +kernel
theorem dX12_termHere_18 : decode cX12_termHere 18 = .ok (.ifCond .ne 7, 3) := by decide +kernel
theorem dX12_termHere_21 : decode cX12_termHere 21 = .ok (.iconst 0, 1) := by decide +kernel
theorem dX12_termHere_22 : decode cX12_termHere 22 = .ok (.goto 64, 3) := by decide +kernel
theorem dX12_termHere_25 : decode cX12_termHere 25 = .ok (.aload_n 0, 1) := by decide +kernel
theorem dX12_termHere_26 : decode cX12_termHere 26 = .ok (.getfield 191, 3) := by decide +kernel
theorem dX12_termHere_29 : decode cX12_termHere 29 = .ok (.ldc2_w 217, 3) := by decide +kernel
theorem dX12_termHere_32 : decode cX12_termHere 32 = .ok (.lcmp, 1) := by decide +kernel
theorem dX12_termHere_33 : decode cX12_termHere 33 = .ok (.ifCond .ne 7, 3) := by decide +kernel
theorem dX12_termHere_36 : decode cX12_termHere 36 = .ok (.iconst 1, 1) := by decide +kernel
theorem dX12_termHere_37 : decode cX12_termHere 37 = .ok (.goto 49, 3) := by decide +kernel
theorem dX12_termHere_40 : decode cX12_termHere 40 = .ok (.aload_n 0, 1) := by decide +kernel
theorem dX12_termHere_41 : decode cX12_termHere 41 = .ok (.getfield 191, 3) := by decide +kernel
theorem dX12_termHere_44 : decode cX12_termHere 44 = .ok (.ldc2_w 219, 3) := by decide +kernel
theorem dX12_termHere_47 : decode cX12_termHere 47 = .ok (.lcmp, 1) := by decide +kernel
theorem dX12_termHere_48 : decode cX12_termHere 48 = .ok (.ifCond .ne 7, 3) := by decide +kernel
theorem dX12_termHere_51 : decode cX12_termHere 51 = .ok (.iconst 2, 1) := by decide +kernel
theorem dX12_termHere_52 : decode cX12_termHere 52 = .ok (.goto 34, 3) := by decide +kernel
theorem dX12_termHere_55 : decode cX12_termHere 55 = .ok (.aload_n 0, 1) := by decide +kernel
theorem dX12_termHere_56 : decode cX12_termHere 56 = .ok (.getfield 191, 3) := by decide +kernel
theorem dX12_termHere_59 : decode cX12_termHere 59 = .ok (.ldc2_w 221, 3) := by decide +kernel
theorem dX12_termHere_62 : decode cX12_termHere 62 = .ok (.lcmp, 1) := by decide +kernel
theorem dX12_termHere_63 : decode cX12_termHere 63 = .ok (.ifCond .ne 7, 3) := by decide +kernel
theorem dX12_termHere_66 : decode cX12_termHere 66 = .ok (.iconst 3, 1) := by decide +kernel
theorem dX12_termHere_67 : decode cX12_termHere 67 = .ok (.goto 19, 3) := by decide +kernel
theorem dX12_termHere_70 : decode cX12_termHere 70 = .ok (.aload_n 0, 1) := by decide +kernel
theorem dX12_termHere_71 : decode cX12_termHere 71 = .ok (.getfield 191, 3) := by decide +kernel
theorem dX12_termHere_74 : decode cX12_termHere 74 = .ok (.ldc2_w 223, 3) := by decide +kernel
theorem dX12_termHere_77 : decode cX12_termHere 77 = .ok (.lcmp, 1) := by decide +kernel
theorem dX12_termHere_78 : decode cX12_termHere 78 = .ok (.ifCond .ne 7, 3) := by decide +kernel
theorem dX12_termHere_81 : decode cX12_termHere 81 = .ok (.iconst 4, 1) := by decide +kernel
theorem dX12_termHere_82 : decode cX12_termHere 82 = .ok (.goto 4, 3) := by decide +kernel
theorem dX12_termHere_85 : decode cX12_termHere 85 = .ok (.iconst (-1), 1) := by decide +kernel
theorem dX12_termHere_86 : decode cX12_termHere 86 = .ok (.istore_n 1, 1) := by decide +kernel
theorem dX12_termHere_87 : decode cX12_termHere 87 = .ok (.iload_n 1, 1) := by decide +kernel
theorem dX12_termHere_88 : decode cX12_termHere 88 = .ok (.ifCond .lt 7, 3) := by decide +kernel
theorem dX12_termHere_91 : decode cX12_termHere 91 = .ok (.iload_n 1, 1) := by decide +kernel
theorem dX12_termHere_92 : decode cX12_termHere 92 = .ok (.goto 67, 3) := by decide +kernel
theorem dX12_termHere_95 : decode cX12_termHere 95 = .ok (.aload_n 0, 1) := by decide +kernel
theorem dX12_termHere_96 : decode cX12_termHere 96 = .ok (.getfield 191, 3) := by decide +kernel
theorem dX12_termHere_99 : decode cX12_termHere 99 = .ok (.ldc2_w 225, 3) := by decide +kernel
theorem dX12_termHere_102 : decode cX12_termHere 102 = .ok (.lcmp, 1) := by decide +kernel
theorem dX12_termHere_103 : decode cX12_termHere 103 = .ok (.ifCond .ne 7, 3) := by decide +kernel
theorem dX12_termHere_106 : decode cX12_termHere 106 = .ok (.iconst 5, 1) := by decide +kernel
theorem dX12_termHere_107 : decode cX12_termHere 107 = .ok (.goto 52, 3) := by decide +kernel
theorem dX12_termHere_110 : decode cX12_termHere 110 = .ok (.aload_n 0, 1) := by decide +kernel
theorem dX12_termHere_111 : decode cX12_termHere 111 = .ok (.getfield 191, 3) := by decide +kernel
theorem dX12_termHere_114 : decode cX12_termHere 114 = .ok (.ldc2_w 227, 3) := by decide +kernel
theorem dX12_termHere_117 : decode cX12_termHere 117 = .ok (.lcmp, 1) := by decide +kernel
theorem dX12_termHere_118 : decode cX12_termHere 118 = .ok (.ifCond .ne 8, 3) := by decide +kernel
theorem dX12_termHere_121 : decode cX12_termHere 121 = .ok (.bipush 6, 2) := by decide +kernel
theorem dX12_termHere_123 : decode cX12_termHere 123 = .ok (.goto 36, 3) := by decide +kernel
theorem dX12_termHere_126 : decode cX12_termHere 126 = .ok (.aload_n 0, 1) := by decide +kernel
theorem dX12_termHere_127 : decode cX12_termHere 127 = .ok (.getfield 191, 3) := by decide +kernel
theorem dX12_termHere_130 : decode cX12_termHere 130 = .ok (.ldc2_w 229, 3) := by decide +kernel
theorem dX12_termHere_133 : decode cX12_termHere 133 = .ok (.lcmp, 1) := by decide +kernel
theorem dX12_termHere_134 : decode cX12_termHere 134 = .ok (.ifCond .ne 8, 3) := by decide +kernel
theorem dX12_termHere_137 : decode cX12_termHere 137 = .ok (.bipush 7, 2) := by decide +kernel
theorem dX12_termHere_139 : decode cX12_termHere 139 = .ok (.goto 20, 3) := by decide +kernel
theorem dX12_termHere_142 : decode cX12_termHere 142 = .ok (.aload_n 0, 1) := by decide +kernel
theorem dX12_termHere_143 : decode cX12_termHere 143 = .ok (.getfield 191, 3) := by decide +kernel
theorem dX12_termHere_146 : decode cX12_termHere 146 = .ok (.ldc2_w 231, 3) := by decide +kernel
theorem dX12_termHere_149 : decode cX12_termHere 149 = .ok (.lcmp, 1) := by decide +kernel
theorem dX12_termHere_150 : decode cX12_termHere 150 = .ok (.ifCond .ne 8, 3) := by decide +kernel
theorem dX12_termHere_153 : decode cX12_termHere 153 = .ok (.bipush 8, 2) := by decide +kernel
theorem dX12_termHere_155 : decode cX12_termHere 155 = .ok (.goto 4, 3) := by decide +kernel
theorem dX12_termHere_158 : decode cX12_termHere 158 = .ok (.iconst (-1), 1) := by decide +kernel
theorem dX12_termHere_159 : decode cX12_termHere 159 = .ok (.ireturn, 1) := by decide +kernel
theorem dX12_law_0 : decode cX12_law 0 = .ok (.aload_n 0, 1) := by decide +kernel
theorem dX12_law_1 : decode cX12_law 1 = .ok (.iconst 0, 1) := by decide +kernel
theorem dX12_law_2 : decode cX12_law 2 = .ok (.putfield 172, 3) := by decide +kernel
theorem dX12_law_5 : decode cX12_law 5 = .ok (.aload_n 0, 1) := by decide +kernel
theorem dX12_law_6 : decode cX12_law 6 = .ok (.iconst (-1), 1) := by decide +kernel
theorem dX12_law_7 : decode cX12_law 7 = .ok (.putfield 66, 3) := by decide +kernel
theorem dX12_law_10 : decode cX12_law 10 = .ok (.aload_n 0, 1) := by decide +kernel
theorem dX12_law_11 : decode cX12_law 11 = .ok (.aload_n 0, 1) := by decide +kernel
theorem dX12_law_12 : decode cX12_law 12 = .ok (.getfield 233, 3) := by decide +kernel
theorem dX12_law_15 : decode cX12_law 15 = .ok (.putfield 169, 3) := by decide +kernel
theorem dX12_law_18 : decode cX12_law 18 = .ok (.iconst 0, 1) := by decide +kernel
theorem dX12_law_19 : decode cX12_law 19 = .ok (.istore_n 1, 1) := by decide +kernel
theorem dX12_law_20 : decode cX12_law 20 = .ok (.iload_n 1, 1) := by decide +kernel
theorem dX12_law_21 : decode cX12_law 21 = .ok (.aload_n 0, 1) := by decide +kernel
theorem dX12_law_22 : decode cX12_law 22 = .ok (.getfield 169, 3) := by decide +kernel
theorem dX12_law_25 : decode cX12_law 25 = .ok (.if_icmp .ge 21, 3) := by decide +kernel
theorem dX12_law_28 : decode cX12_law 28 = .ok (.aload_n 0, 1) := by decide +kernel
theorem dX12_law_29 : decode cX12_law 29 = .ok (.getfield 63, 3) := by decide +kernel
theorem dX12_law_32 : decode cX12_law 32 = .ok (.iload_n 1, 1) := by decide +kernel
theorem dX12_law_33 : decode cX12_law 33 = .ok (.aload_n 0, 1) := by decide +kernel
theorem dX12_law_34 : decode cX12_law 34 = .ok (.getfield 59, 3) := by decide +kernel
theorem dX12_law_37 : decode cX12_law 37 = .ok (.iload_n 1, 1) := by decide +kernel
theorem dX12_law_38 : decode cX12_law 38 = .ok (.baload, 1) := by decide +kernel
theorem dX12_law_39 : decode cX12_law 39 = .ok (.bastore, 1) := by decide +kernel
theorem dX12_law_40 : decode cX12_law 40 = .ok (.iinc 1 1, 3) := by decide +kernel
theorem dX12_law_43 : decode cX12_law 43 = .ok (.goto (-23), 3) := by decide +kernel
theorem dX12_law_46 : decode cX12_law 46 = .ok (.aload_n 0, 1) := by decide +kernel
theorem dX12_law_47 : decode cX12_law 47 = .ok (.iconst 0, 1) := by decide +kernel
theorem dX12_law_48 : decode cX12_law 48 = .ok (.putfield 233, 3) := by decide +kernel
theorem dX12_law_51 : decode cX12_law 51 = .ok (.aload_n 0, 1) := by decide +kernel
theorem dX12_law_52 : decode cX12_law 52 = .ok (.iconst 0, 1) := by decide +kernel
theorem dX12_law_53 : decode cX12_law 53 = .ok (.putfield 175, 3) := by decide +kernel
theorem dX12_law_56 : decode cX12_law 56 = .ok (.aload_n 0, 1) := by decide +kernel
theorem dX12_law_57 : decode cX12_law 57 = .ok (.iconst 1, 1) := by decide +kernel
theorem dX12_law_58 : decode cX12_law 58 = .ok (.aload_n 0, 1) := by decide +kernel
theorem dX12_law_59 : decode cX12_law 59 = .ok (.getfield 236, 3) := by decide +kernel
theorem dX12_law_62 : decode cX12_law 62 = .ok (.isub, 1) := by decide +kernel
theorem dX12_law_63 : decode cX12_law 63 = .ok (.putfield 239, 3) := by decide +kernel
theorem dX12_law_66 : decode cX12_law 66 = .ok (.aload_n 0, 1) := by decide +kernel
theorem dX12_law_67 : decode cX12_law 67 = .ok (.getfield 70, 3) := by decide +kernel
theorem dX12_law_70 : decode cX12_law 70 = .ok (.aload_n 0, 1) := by decide +kernel
theorem dX12_law_71 : decode cX12_law 71 = .ok (.getfield 239, 3) := by decide +kernel
theorem dX12_law_74 : decode cX12_law 74 = .ok (.iconst 0, 1) := by decide +kernel
theorem dX12_law_75 : decode cX12_law 75 = .ok (.iastore, 1) := by decide +kernel
theorem dX12_law_76 : decode cX12_law 76 = .ok (.aload_n 0, 1) := by decide +kernel
theorem dX12_law_77 : decode cX12_law 77 = .ok (.iconst 0, 1) := by decide +kernel
theorem dX12_law_78 : decode cX12_law 78 = .ok (.putfield 242, 3) := by decide +kernel
theorem dX12_law_81 : decode cX12_law 81 = .ok (.aload_n 0, 1) := by decide +kernel
theorem dX12_law_82 : decode cX12_law 82 = .ok (.iconst 0, 1) := by decide +kernel
theorem dX12_law_83 : decode cX12_law 83 = .ok (.putfield 245, 3) := by decide +kernel
theorem dX12_law_86 : decode cX12_law 86 = .ok (.aload_n 0, 1) := by decide +kernel
theorem dX12_law_87 : decode cX12_law 87 = .ok (.invokevirtual 209, 3) := by decide +kernel
theorem dX12_law_90 : decode cX12_law 90 = .ok (.aload_n 0, 1) := by decide +kernel
theorem dX12_law_91 : decode cX12_law 91 = .ok (.invokevirtual 205, 3) := by decide +kernel
theorem dX12_law_94 : decode cX12_law 94 = .ok (.ifCond .eq 17, 3) := by decide +kernel
theorem dX12_law_97 : decode cX12_law 97 = .ok (.aload_n 0, 1) := by decide +kernel
theorem dX12_law_98 : decode cX12_law 98 = .ok (.getfield 185, 3) := by decide +kernel
theorem dX12_law_101 : decode cX12_law 101 = .ok (.ifCond .eq 10, 3) := by decide +kernel
theorem dX12_law_104 : decode cX12_law 104 = .ok (.aload_n 0, 1) := by decide +kernel
theorem dX12_law_105 : decode cX12_law 105 = .ok (.invokevirtual 248, 3) := by decide +kernel
theorem dX12_law_108 : decode cX12_law 108 = .ok (.goto (-18), 3) := by decide +kernel
theorem dX12_law_111 : decode cX12_law 111 = .ok (.aload_n 0, 1) := by decide +kernel
theorem dX12_law_112 : decode cX12_law 112 = .ok (.invokevirtual 205, 3) := by decide +kernel
theorem dX12_law_115 : decode cX12_law 115 = .ok (.ifCond .ne 5, 3) := by decide +kernel
theorem dX12_law_118 : decode cX12_law 118 = .ok (.iconst (-1), 1) := by decide +kernel
theorem dX12_law_119 : decode cX12_law 119 = .ok (.ireturn, 1) := by decide +kernel
theorem dX12_law_120 : decode cX12_law 120 = .ok (.aload_n 0, 1) := by decide +kernel
theorem dX12_law_121 : decode cX12_law 121 = .ok (.aload_n 0, 1) := by decide +kernel
theorem dX12_law_122 : decode cX12_law 122 = .ok (.getfield 239, 3) := by decide +kernel
theorem dX12_law_125 : decode cX12_law 125 = .ok (.putfield 236, 3) := by decide +kernel
theorem dX12_law_128 : decode cX12_law 128 = .ok (.aload_n 0, 1) := by decide +kernel
theorem dX12_law_129 : decode cX12_law 129 = .ok (.getfield 70, 3) := by decide +kernel
theorem dX12_law_132 : decode cX12_law 132 = .ok (.aload_n 0, 1) := by decide +kernel
theorem dX12_law_133 : decode cX12_law 133 = .ok (.getfield 236, 3) := by decide +kernel
theorem dX12_law_136 : decode cX12_law 136 = .ok (.iaload, 1) := by decide +kernel
theorem dX12_law_137 : decode cX12_law 137 = .ok (.ireturn, 1) := by decide +kernel
theorem dX12_readLine_0 : decode cX12_readLine 0 = .ok (.aload_n 0, 1) := by decide +kernel
theorem dX12_readLine_1 : decode cX12_readLine 1 = .ok (.ldc2_w 251, 3) := by decide +kernel
theorem dX12_readLine_4 : decode cX12_readLine 4 = .ok (.invokevirtual 253, 3) := by decide +kernel
theorem dX12_readLine_7 : decode cX12_readLine 7 = .ok (.ifCond .eq 17, 3) := by decide +kernel
theorem dX12_readLine_10 : decode cX12_readLine 10 = .ok (.aload_n 0, 1) := by decide +kernel
theorem dX12_readLine_11 : decode cX12_readLine 11 = .ok (.getfield 70, 3) := by decide +kernel
theorem dX12_readLine_14 : decode cX12_readLine 14 = .ok (.aload_n 0, 1) := by decide +kernel
theorem dX12_readLine_15 : decode cX12_readLine 15 = .ok (.getfield 239, 3) := by decide +kernel
theorem dX12_readLine_18 : decode cX12_readLine 18 = .ok (.iaload, 1) := by decide +kernel
theorem dX12_readLine_19 : decode cX12_readLine 19 = .ok (.bipush 16, 2) := by decide +kernel
theorem dX12_readLine_21 : decode cX12_readLine 21 = .ok (.if_icmp .ne 7, 3) := by decide +kernel
theorem dX12_readLine_24 : decode cX12_readLine 24 = .ok (.aload_n 0, 1) := by decide +kernel
theorem dX12_readLine_25 : decode cX12_readLine 25 = .ok (.invokevirtual 212, 3) := by decide +kernel
theorem dX12_readLine_28 : decode cX12_readLine 28 = .ok (.aload_n 0, 1) := by decide +kernel
theorem dX12_readLine_29 : decode cX12_readLine 29 = .ok (.invokevirtual 205, 3) := by decide +kernel
theorem dX12_readLine_32 : decode cX12_readLine 32 = .ok (.ifCond .ne 4, 3) := by decide +kernel
theorem dX12_readLine_35 : decode cX12_readLine 35 = .ok (.return_, 1) := by decide +kernel
theorem dX12_readLine_36 : decode cX12_readLine 36 = .ok (.bipush 16, 2) := by decide +kernel
theorem dX12_readLine_38 : decode cX12_readLine 38 = .ok (.aload_n 0, 1) := by decide +kernel
theorem dX12_readLine_39 : decode cX12_readLine 39 = .ok (.getfield 239, 3) := by decide +kernel
theorem dX12_readLine_42 : decode cX12_readLine 42 = .ok (.imul, 1) := by decide +kernel
theorem dX12_readLine_43 : decode cX12_readLine 43 = .ok (.aload_n 0, 1) := by decide +kernel
theorem dX12_readLine_44 : decode cX12_readLine 44 = .ok (.getfield 70, 3) := by decide +kernel
theorem dX12_readLine_47 : decode cX12_readLine 47 = .ok (.aload_n 0, 1) := by decide +kernel
theorem dX12_readLine_48 : decode cX12_readLine 48 = .ok (.getfield 239, 3) := by decide +kernel
theorem dX12_readLine_51 : decode cX12_readLine 51 = .ok (.iaload, 1) := by decide +kernel
theorem dX12_readLine_52 : decode cX12_readLine 52 = .ok (.iadd, 1) := by decide +kernel
theorem dX12_readLine_53 : decode cX12_readLine 53 = .ok (.istore_n 1, 1) := by decide +kernel
theorem dX12_readLine_54 : decode cX12_readLine 54 = .ok (.aload_n 0, 1) := by decide +kernel
theorem dX12_readLine_55 : decode cX12_readLine 55 = .ok (.invokevirtual 209, 3) := by decide +kernel
theorem dX12_readLine_58 : decode cX12_readLine 58 = .ok (.aload_n 0, 1) := by decide +kernel
theorem dX12_readLine_59 : decode cX12_readLine 59 = .ok (.getfield 79, 3) := by decide +kernel
theorem dX12_readLine_62 : decode cX12_readLine 62 = .ok (.iload_n 1, 1) := by decide +kernel
theorem dX12_readLine_63 : decode cX12_readLine 63 = .ok (.aload_n 0, 1) := by decide +kernel
theorem dX12_readLine_64 : decode cX12_readLine 64 = .ok (.getfield 242, 3) := by decide +kernel
theorem dX12_readLine_67 : decode cX12_readLine 67 = .ok (.iastore, 1) := by decide +kernel
theorem dX12_readLine_68 : decode cX12_readLine 68 = .ok (.aload_n 0, 1) := by decide +kernel
theorem dX12_readLine_69 : decode cX12_readLine 69 = .ok (.invokevirtual 257, 3) := by decide +kernel
theorem dX12_readLine_72 : decode cX12_readLine 72 = .ok (.aload_n 0, 1) := by decide +kernel
theorem dX12_readLine_73 : decode cX12_readLine 73 = .ok (.getfield 82, 3) := by decide +kernel
theorem dX12_readLine_76 : decode cX12_readLine 76 = .ok (.iload_n 1, 1) := by decide +kernel
theorem dX12_readLine_77 : decode cX12_readLine 77 = .ok (.aload_n 0, 1) := by decide +kernel
theorem dX12_readLine_78 : decode cX12_readLine 78 = .ok (.getfield 242, 3) := by decide +kernel
theorem dX12_readLine_81 : decode cX12_readLine 81 = .ok (.iastore, 1) := by decide +kernel
theorem dX12_readLine_82 : decode cX12_readLine 82 = .ok (.aload_n 0, 1) := by decide +kernel
theorem dX12_readLine_83 : decode cX12_readLine 83 = .ok (.aload_n 0, 1) := by decide +kernel
theorem dX12_readLine_84 : decode cX12_readLine 84 = .ok (.ldc2_w 260, 3) := by decide +kernel
theorem dX12_readLine_87 : decode cX12_readLine 87 = .ok (.invokevirtual 253, 3) := by decide +kernel
theorem dX12_readLine_90 : decode cX12_readLine 90 = .ok (.invokevirtual 262, 3) := by decide +kernel
theorem dX12_readLine_93 : decode cX12_readLine 93 = .ok (.aload_n 0, 1) := by decide +kernel
theorem dX12_readLine_94 : decode cX12_readLine 94 = .ok (.invokevirtual 205, 3) := by decide +kernel
theorem dX12_readLine_97 : decode cX12_readLine 97 = .ok (.ifCond .ne 4, 3) := by decide +kernel
theorem dX12_readLine_100 : decode cX12_readLine 100 = .ok (.return_, 1) := by decide +kernel
theorem dX12_readLine_101 : decode cX12_readLine 101 = .ok (.aload_n 0, 1) := by decide +kernel
theorem dX12_readLine_102 : decode cX12_readLine 102 = .ok (.getfield 73, 3) := by decide +kernel
theorem dX12_readLine_105 : decode cX12_readLine 105 = .ok (.iload_n 1, 1) := by decide +kernel
theorem dX12_readLine_106 : decode cX12_readLine 106 = .ok (.aload_n 0, 1) := by decide +kernel
theorem dX12_readLine_107 : decode cX12_readLine 107 = .ok (.ldc2_w 266, 3) := by decide +kernel
theorem dX12_readLine_110 : decode cX12_readLine 110 = .ok (.invokevirtual 253, 3) := by decide +kernel
theorem dX12_readLine_113 : decode cX12_readLine 113 = .ok (.ifCond .eq 7, 3) := by decide +kernel
theorem dX12_readLine_116 : decode cX12_readLine 116 = .ok (.iconst 1, 1) := by decide +kernel
theorem dX12_readLine_117 : decode cX12_readLine 117 = .ok (.goto 46, 3) := by decide +kernel
theorem dX12_readLine_120 : decode cX12_readLine 120 = .ok (.aload_n 0, 1) := by decide +kernel
theorem dX12_readLine_121 : decode cX12_readLine 121 = .ok (.ldc2_w 268, 3) := by decide +kernel
theorem dX12_readLine_124 : decode cX12_readLine 124 = .ok (.invokevirtual 253, 3) := by decide +kernel
theorem dX12_readLine_127 : decode cX12_readLine 127 = .ok (.ifCond .eq 7, 3) := by decide +kernel
theorem dX12_readLine_130 : decode cX12_readLine 130 = .ok (.iconst 2, 1) := by decide +kernel
theorem dX12_readLine_131 : decode cX12_readLine 131 = .ok (.goto 32, 3) := by decide +kernel
theorem dX12_readLine_134 : decode cX12_readLine 134 = .ok (.aload_n 0, 1) := by decide +kernel
theorem dX12_readLine_135 : decode cX12_readLine 135 = .ok (.ldc2_w 270, 3) := by decide +kernel
theorem dX12_readLine_138 : decode cX12_readLine 138 = .ok (.invokevirtual 253, 3) := by decide +kernel
theorem dX12_readLine_141 : decode cX12_readLine 141 = .ok (.ifCond .eq 7, 3) := by decide +kernel
theorem dX12_readLine_144 : decode cX12_readLine 144 = .ok (.iconst 3, 1) := by decide +kernel
theorem dX12_readLine_145 : decode cX12_readLine 145 = .ok (.goto 18, 3) := by decide +kernel
theorem dX12_readLine_148 : decode cX12_readLine 148 = .ok (.aload_n 0, 1) := by decide +kernel
theorem dX12_readLine_149 : decode cX12_readLine 149 = .ok (.ldc2_w 272, 3) := by decide +kernel
theorem dX12_readLine_152 : decode cX12_readLine 152 = .ok (.invokevirtual 253, 3) := by decide +kernel
theorem dX12_readLine_155 : decode cX12_readLine 155 = .ok (.ifCond .eq 7, 3) := by decide +kernel
theorem dX12_readLine_158 : decode cX12_readLine 158 = .ok (.iconst 4, 1) := by decide +kernel
theorem dX12_readLine_159 : decode cX12_readLine 159 = .ok (.goto 4, 3) := by decide +kernel
theorem dX12_readLine_162 : decode cX12_readLine 162 = .ok (.iconst 0, 1) := by decide +kernel
theorem dX12_readLine_163 : decode cX12_readLine 163 = .ok (.iastore, 1) := by decide +kernel
theorem dX12_readLine_164 : decode cX12_readLine 164 = .ok (.aload_n 0, 1) := by decide +kernel
theorem dX12_readLine_165 : decode cX12_readLine 165 = .ok (.getfield 76, 3) := by decide +kernel
theorem dX12_readLine_168 : decode cX12_readLine 168 = .ok (.iload_n 1, 1) := by decide +kernel
theorem dX12_readLine_169 : decode cX12_readLine 169 = .ok (.iconst 0, 1) := by decide +kernel
theorem dX12_readLine_170 : decode cX12_readLine 170 = .ok (.iastore, 1) := by decide +kernel
theorem dX12_readLine_171 : decode cX12_readLine 171 = .ok (.aload_n 0, 1) := by decide +kernel
theorem dX12_readLine_172 : decode cX12_readLine 172 = .ok (.aload_n 0, 1) := by decide +kernel
theorem dX12_readLine_173 : decode cX12_readLine 173 = .ok (.getfield 73, 3) := by decide +kernel
theorem dX12_readLine_176 : decode cX12_readLine 176 = .ok (.iload_n 1, 1) := by decide +kernel
theorem dX12_readLine_177 : decode cX12_readLine 177 = .ok (.iaload, 1) := by decide +kernel
theorem dX12_readLine_178 : decode cX12_readLine 178 = .ok (.ifCond .le 7, 3) := by decide +kernel
theorem dX12_readLine_181 : decode cX12_readLine 181 = .ok (.iconst 1, 1) := by decide +kernel
theorem dX12_readLine_182 : decode cX12_readLine 182 = .ok (.goto 4, 3) := by decide +kernel
theorem dX12_readLine_185 : decode cX12_readLine 185 = .ok (.iconst 0, 1) := by decide +kernel
theorem dX12_readLine_186 : decode cX12_readLine 186 = .ok (.invokevirtual 262, 3) := by decide +kernel
theorem dX12_readLine_189 : decode cX12_readLine 189 = .ok (.aload_n 0, 1) := by decide +kernel
theorem dX12_readLine_190 : decode cX12_readLine 190 = .ok (.invokevirtual 205, 3) := by decide +kernel
theorem dX12_readLine_193 : decode cX12_readLine 193 = .ok (.ifCond .eq 66, 3) := by decide +kernel
theorem dX12_readLine_196 : decode cX12_readLine 196 = .ok (.aload_n 0, 1) := by decide +kernel
theorem dX12_readLine_197 : decode cX12_readLine 197 = .ok (.getfield 73, 3) := by decide +kernel
theorem dX12_readLine_200 : decode cX12_readLine 200 = .ok (.iload_n 1, 1) := by decide +kernel
theorem dX12_readLine_201 : decode cX12_readLine 201 = .ok (.iaload, 1) := by decide +kernel
theorem dX12_readLine_202 : decode cX12_readLine 202 = .ok (.iconst 3, 1) := by decide +kernel
theorem dX12_readLine_203 : decode cX12_readLine 203 = .ok (.if_icmp .ne 56, 3) := by decide +kernel
theorem dX12_readLine_206 : decode cX12_readLine 206 = .ok (.aload_n 0, 1) := by decide +kernel
theorem dX12_readLine_207 : decode cX12_readLine 207 = .ok (.getfield 185, 3) := by decide +kernel
theorem dX12_readLine_210 : decode cX12_readLine 210 = .ok (.iconst 3, 1) := by decide +kernel
theorem dX12_readLine_211 : decode cX12_readLine 211 = .ok (.if_icmp .ne 21, 3) := by decide +kernel
theorem dX12_readLine_214 : decode cX12_readLine 214 = .ok (.aload_n 0, 1) := by decide +kernel
theorem dX12_readLine_215 : decode cX12_readLine 215 = .ok (.getfield 198, 3) := by decide +kernel
theorem dX12_readLine_218 : decode cX12_readLine 218 = .ok (.bipush 100, 2) := by decide +kernel
theorem dX12_readLine_220 : decode cX12_readLine 220 = .ok (.if_icmp .le 12, 3) := by decide +kernel
theorem dX12_readLine_223 : decode cX12_readLine 223 = .ok (.aload_n 0, 1) := by decide +kernel
theorem dX12_readLine_224 : decode cX12_readLine 224 = .ok (.iconst 3, 1) := by decide +kernel
theorem dX12_readLine_225 : decode cX12_readLine 225 = .ok (.aload_n 0, 1) := by decide +kernel
theorem dX12_readLine_226 : decode cX12_readLine 226 = .ok (.getfield 178, 3) := by decide +kernel
theorem dX12_readLine_229 : decode cX12_readLine 229 = .ok (.invokevirtual 201, 3) := by decide +kernel
theorem dX12_readLine_232 : decode cX12_readLine 232 = .ok (.aload_n 0, 1) := by decide +kernel
theorem dX12_readLine_233 : decode cX12_readLine 233 = .ok (.getfield 76, 3) := by decide +kernel
theorem dX12_readLine_236 : decode cX12_readLine 236 = .ok (.iload_n 1, 1) := by decide +kernel
theorem dX12_readLine_237 : decode cX12_readLine 237 = .ok (.aload_n 0, 1) := by decide +kernel
theorem dX12_readLine_238 : decode cX12_readLine 238 = .ok (.getfield 198, 3) := by decide +kernel
theorem dX12_readLine_241 : decode cX12_readLine 241 = .ok (.iastore, 1) := by decide +kernel
theorem dX12_readLine_242 : decode cX12_readLine 242 = .ok (.aload_n 0, 1) := by decide +kernel
theorem dX12_readLine_243 : decode cX12_readLine 243 = .ok (.aload_n 0, 1) := by decide +kernel
theorem dX12_readLine_244 : decode cX12_readLine 244 = .ok (.getfield 185, 3) := by decide +kernel
theorem dX12_readLine_247 : decode cX12_readLine 247 = .ok (.iconst 3, 1) := by decide +kernel
theorem dX12_readLine_248 : decode cX12_readLine 248 = .ok (.if_icmp .ne 7, 3) := by decide +kernel
theorem dX12_readLine_251 : decode cX12_readLine 251 = .ok (.iconst 1, 1) := by decide +kernel
theorem dX12_readLine_252 : decode cX12_readLine 252 = .ok (.goto 4, 3) := by decide +kernel
theorem dX12_readLine_255 : decode cX12_readLine 255 = .ok (.iconst 0, 1) := by decide +kernel
theorem dX12_readLine_256 : decode cX12_readLine 256 = .ok (.invokevirtual 262, 3) := by decide +kernel
theorem dX12_readLine_259 : decode cX12_readLine 259 = .ok (.aload_n 0, 1) := by decide +kernel
theorem dX12_readLine_260 : decode cX12_readLine 260 = .ok (.aload_n 0, 1) := by decide +kernel
theorem dX12_readLine_261 : decode cX12_readLine 261 = .ok (.bipush 59, 2) := by decide +kernel
theorem dX12_readLine_263 : decode cX12_readLine 263 = .ok (.invokevirtual 274, 3) := by decide +kernel
theorem dX12_readLine_266 : decode cX12_readLine 266 = .ok (.invokevirtual 262, 3) := by decide +kernel
theorem dX12_readLine_269 : decode cX12_readLine 269 = .ok (.aload_n 0, 1) := by decide +kernel
theorem dX12_readLine_270 : decode cX12_readLine 270 = .ok (.getfield 70, 3) := by decide +kernel
theorem dX12_readLine_273 : decode cX12_readLine 273 = .ok (.aload_n 0, 1) := by decide +kernel
theorem dX12_readLine_274 : decode cX12_readLine 274 = .ok (.getfield 239, 3) := by decide +kernel
theorem dX12_readLine_277 : decode cX12_readLine 277 = .ok (.dup2, 1) := by decide +kernel
theorem dX12_readLine_278 : decode cX12_readLine 278 = .ok (.iaload, 1) := by decide +kernel
theorem dX12_readLine_279 : decode cX12_readLine 279 = .ok (.iconst 1, 1) := by decide +kernel
theorem dX12_readLine_280 : decode cX12_readLine 280 = .ok (.iadd, 1) := by decide +kernel
theorem dX12_readLine_281 : decode cX12_readLine 281 = .ok (.iastore, 1) := by decide +kernel
theorem dX12_readLine_282 : decode cX12_readLine 282 = .ok (.return_, 1) := by decide +kernel
theorem dX12_step_0 : decode cX12_step 0 = .ok (.aload_n 0, 1) := by decide +kernel
theorem dX12_step_1 : decode cX12_step 1 = .ok (.getfield 85, 3) := by decide +kernel
theorem dX12_step_4 : decode cX12_step 4 = .ok (.sipush 600, 3) := by decide +kernel
theorem dX12_step_7 : decode cX12_step 7 = .ok (.aload_n 0, 1) := by decide +kernel
theorem dX12_step_8 : decode cX12_step 8 = .ok (.getfield 239, 3) := by decide +kernel
theorem dX12_step_11 : decode cX12_step 11 = .ok (.imul, 1) := by decide +kernel
theorem dX12_step_12 : decode cX12_step 12 = .ok (.aload_n 0, 1) := by decide +kernel
theorem dX12_step_13 : decode cX12_step 13 = .ok (.getfield 242, 3) := by decide +kernel
theorem dX12_step_16 : decode cX12_step 16 = .ok (.iadd, 1) := by decide +kernel
theorem dX12_step_17 : decode cX12_step 17 = .ok (.iload_n 1, 1) := by decide +kernel
theorem dX12_step_18 : decode cX12_step 18 = .ok (.iastore, 1) := by decide +kernel
theorem dX12_step_19 : decode cX12_step 19 = .ok (.aload_n 0, 1) := by decide +kernel
theorem dX12_step_20 : decode cX12_step 20 = .ok (.getfield 88, 3) := by decide +kernel
theorem dX12_step_23 : decode cX12_step 23 = .ok (.sipush 600, 3) := by decide +kernel
theorem dX12_step_26 : decode cX12_step 26 = .ok (.aload_n 0, 1) := by decide +kernel
theorem dX12_step_27 : decode cX12_step 27 = .ok (.getfield 239, 3) := by decide +kernel
theorem dX12_step_30 : decode cX12_step 30 = .ok (.imul, 1) := by decide +kernel
theorem dX12_step_31 : decode cX12_step 31 = .ok (.aload_n 0, 1) := by decide +kernel
theorem dX12_step_32 : decode cX12_step 32 = .ok (.getfield 242, 3) := by decide +kernel
theorem dX12_step_35 : decode cX12_step 35 = .ok (.iadd, 1) := by decide +kernel
theorem dX12_step_36 : decode cX12_step 36 = .ok (.iload_n 2, 1) := by decide +kernel
theorem dX12_step_37 : decode cX12_step 37 = .ok (.iastore, 1) := by decide +kernel
theorem dX12_step_38 : decode cX12_step 38 = .ok (.aload_n 0, 1) := by decide +kernel
theorem dX12_step_39 : decode cX12_step 39 = .ok (.dup, 1) := by decide +kernel
theorem dX12_step_40 : decode cX12_step 40 = .ok (.getfield 242, 3) := by decide +kernel
theorem dX12_step_43 : decode cX12_step 43 = .ok (.iconst 1, 1) := by decide +kernel
theorem dX12_step_44 : decode cX12_step 44 = .ok (.iadd, 1) := by decide +kernel
theorem dX12_step_45 : decode cX12_step 45 = .ok (.putfield 242, 3) := by decide +kernel
theorem dX12_step_48 : decode cX12_step 48 = .ok (.return_, 1) := by decide +kernel
theorem dX12_pile_0 : decode cX12_pile 0 = .ok (.aload_n 0, 1) := by decide +kernel
theorem dX12_pile_1 : decode cX12_pile 1 = .ok (.getfield 91, 3) := by decide +kernel
theorem dX12_pile_4 : decode cX12_pile 4 = .ok (.aload_n 0, 1) := by decide +kernel
theorem dX12_pile_5 : decode cX12_pile 5 = .ok (.getfield 277, 3) := by decide +kernel
theorem dX12_pile_8 : decode cX12_pile 8 = .ok (.iload_n 1, 1) := by decide +kernel
theorem dX12_pile_9 : decode cX12_pile 9 = .ok (.iastore, 1) := by decide +kernel
theorem dX12_pile_10 : decode cX12_pile 10 = .ok (.aload_n 0, 1) := by decide +kernel
theorem dX12_pile_11 : decode cX12_pile 11 = .ok (.dup, 1) := by decide +kernel
theorem dX12_pile_12 : decode cX12_pile 12 = .ok (.getfield 277, 3) := by decide +kernel
theorem dX12_pile_15 : decode cX12_pile 15 = .ok (.iconst 1, 1) := by decide +kernel
theorem dX12_pile_16 : decode cX12_pile 16 = .ok (.iadd, 1) := by decide +kernel
theorem dX12_pile_17 : decode cX12_pile 17 = .ok (.putfield 277, 3) := by decide +kernel
theorem dX12_pile_20 : decode cX12_pile 20 = .ok (.return_, 1) := by decide +kernel
theorem dX12_e_0 : decode cX12_e 0 = .ok (.aload_n 0, 1) := by decide +kernel
theorem dX12_e_1 : decode cX12_e 1 = .ok (.iconst 0, 1) := by decide +kernel
theorem dX12_e_2 : decode cX12_e 2 = .ok (.putfield 277, 3) := by decide +kernel
theorem dX12_e_5 : decode cX12_e 5 = .ok (.aload_n 0, 1) := by decide +kernel
theorem dX12_e_6 : decode cX12_e 6 = .ok (.iconst 0, 1) := by decide +kernel
theorem dX12_e_7 : decode cX12_e 7 = .ok (.putfield 280, 3) := by decide +kernel
theorem dX12_e_10 : decode cX12_e 10 = .ok (.aload_n 0, 1) := by decide +kernel
theorem dX12_e_11 : decode cX12_e 11 = .ok (.iconst 5, 1) := by decide +kernel
theorem dX12_e_12 : decode cX12_e 12 = .ok (.invokevirtual 283, 3) := by decide +kernel
theorem dX12_e_15 : decode cX12_e 15 = .ok (.iconst 1, 1) := by decide +kernel
theorem dX12_e_16 : decode cX12_e 16 = .ok (.istore_n 1, 1) := by decide +kernel
theorem dX12_e_17 : decode cX12_e 17 = .ok (.aload_n 0, 1) := by decide +kernel
theorem dX12_e_18 : decode cX12_e 18 = .ok (.invokevirtual 205, 3) := by decide +kernel
theorem dX12_e_21 : decode cX12_e 21 = .ok (.ifCond .eq 29, 3) := by decide +kernel
theorem dX12_e_24 : decode cX12_e 24 = .ok (.aload_n 0, 1) := by decide +kernel
theorem dX12_e_25 : decode cX12_e 25 = .ok (.getfield 277, 3) := by decide +kernel
theorem dX12_e_28 : decode cX12_e 28 = .ok (.ifCond .le 22, 3) := by decide +kernel
theorem dX12_e_31 : decode cX12_e 31 = .ok (.iload_n 1, 1) := by decide +kernel
theorem dX12_e_32 : decode cX12_e 32 = .ok (.ifCond .eq 10, 3) := by decide +kernel
theorem dX12_e_35 : decode cX12_e 35 = .ok (.aload_n 0, 1) := by decide +kernel
theorem dX12_e_36 : decode cX12_e 36 = .ok (.invokevirtual 287, 3) := by decide +kernel
theorem dX12_e_39 : decode cX12_e 39 = .ok (.goto 7, 3) := by decide +kernel
theorem dX12_e_42 : decode cX12_e 42 = .ok (.aload_n 0, 1) := by decide +kernel
theorem dX12_e_43 : decode cX12_e 43 = .ok (.invokevirtual 290, 3) := by decide +kernel
theorem dX12_e_46 : decode cX12_e 46 = .ok (.istore_n 1, 1) := by decide +kernel
theorem dX12_e_47 : decode cX12_e 47 = .ok (.goto (-30), 3) := by decide +kernel
theorem dX12_e_50 : decode cX12_e 50 = .ok (.return_, 1) := by decide +kernel
theorem dX12_one_0 : decode cX12_one 0 = .ok (.aload_n 0, 1) := by decide +kernel
theorem dX12_one_1 : decode cX12_one 1 = .ok (.bipush 40, 2) := by decide +kernel
theorem dX12_one_3 : decode cX12_one 3 = .ok (.invokevirtual 274, 3) := by decide +kernel
theorem dX12_one_6 : decode cX12_one 6 = .ok (.ifCond .ne 13, 3) := by decide +kernel
theorem dX12_one_9 : decode cX12_one 9 = .ok (.aload_n 0, 1) := by decide +kernel
theorem dX12_one_10 : decode cX12_one 10 = .ok (.ldc2_w 293, 3) := by decide +kernel
theorem dX12_one_13 : decode cX12_one 13 = .ok (.invokevirtual 253, 3) := by decide +kernel
theorem dX12_one_16 : decode cX12_one 16 = .ok (.ifCond .eq 50, 3) := by decide +kernel
theorem dX12_one_19 : decode cX12_one 19 = .ok (.aload_n 0, 1) := by decide +kernel
theorem dX12_one_20 : decode cX12_one 20 = .ok (.aload_n 0, 1) := by decide +kernel
theorem dX12_one_21 : decode cX12_one 21 = .ok (.bipush 40, 2) := by decide +kernel
theorem dX12_one_23 : decode cX12_one 23 = .ok (.invokevirtual 274, 3) := by decide +kernel
theorem dX12_one_26 : decode cX12_one 26 = .ok (.ifCond .eq 7, 3) := by decide +kernel
theorem dX12_one_29 : decode cX12_one 29 = .ok (.iconst 4, 1) := by decide +kernel
theorem dX12_one_30 : decode cX12_one 30 = .ok (.goto 4, 3) := by decide +kernel
theorem dX12_one_33 : decode cX12_one 33 = .ok (.iconst 3, 1) := by decide +kernel
theorem dX12_one_34 : decode cX12_one 34 = .ok (.invokevirtual 283, 3) := by decide +kernel
theorem dX12_one_37 : decode cX12_one 37 = .ok (.aload_n 0, 1) := by decide +kernel
theorem dX12_one_38 : decode cX12_one 38 = .ok (.invokevirtual 209, 3) := by decide +kernel
theorem dX12_one_41 : decode cX12_one 41 = .ok (.aload_n 0, 1) := by decide +kernel
theorem dX12_one_42 : decode cX12_one 42 = .ok (.dup, 1) := by decide +kernel
theorem dX12_one_43 : decode cX12_one 43 = .ok (.getfield 280, 3) := by decide +kernel
theorem dX12_one_46 : decode cX12_one 46 = .ok (.iconst 1, 1) := by decide +kernel
theorem dX12_one_47 : decode cX12_one 47 = .ok (.iadd, 1) := by decide +kernel
theorem dX12_one_48 : decode cX12_one 48 = .ok (.putfield 280, 3) := by decide +kernel
theorem dX12_one_51 : decode cX12_one 51 = .ok (.aload_n 0, 1) := by decide +kernel
theorem dX12_one_52 : decode cX12_one 52 = .ok (.getfield 280, 3) := by decide +kernel
theorem dX12_one_55 : decode cX12_one 55 = .ok (.bipush 6, 2) := by decide +kernel
theorem dX12_one_57 : decode cX12_one 57 = .ok (.if_icmp .lt 7, 3) := by decide +kernel
theorem dX12_one_60 : decode cX12_one 60 = .ok (.aload_n 0, 1) := by decide +kernel
theorem dX12_one_61 : decode cX12_one 61 = .ok (.invokevirtual 212, 3) := by decide +kernel
theorem dX12_one_64 : decode cX12_one 64 = .ok (.iconst 1, 1) := by decide +kernel
theorem dX12_one_65 : decode cX12_one 65 = .ok (.ireturn, 1) := by decide +kernel
theorem dX12_one_66 : decode cX12_one 66 = .ok (.aload_n 0, 1) := by decide +kernel
theorem dX12_one_67 : decode cX12_one 67 = .ok (.invokevirtual 295, 3) := by decide +kernel
theorem dX12_one_70 : decode cX12_one 70 = .ok (.aload_n 0, 1) := by decide +kernel
theorem dX12_one_71 : decode cX12_one 71 = .ok (.invokevirtual 205, 3) := by decide +kernel
theorem dX12_one_74 : decode cX12_one 74 = .ok (.ifCond .ne 5, 3) := by decide +kernel
theorem dX12_one_77 : decode cX12_one 77 = .ok (.iconst 1, 1) := by decide +kernel
theorem dX12_one_78 : decode cX12_one 78 = .ok (.ireturn, 1) := by decide +kernel
theorem dX12_one_79 : decode cX12_one 79 = .ok (.aload_n 0, 1) := by decide +kernel
theorem dX12_one_80 : decode cX12_one 80 = .ok (.bipush 60, 2) := by decide +kernel
theorem dX12_one_82 : decode cX12_one 82 = .ok (.invokevirtual 274, 3) := by decide +kernel
theorem dX12_one_85 : decode cX12_one 85 = .ok (.ifCond .ne 23, 3) := by decide +kernel
theorem dX12_one_88 : decode cX12_one 88 = .ok (.aload_n 0, 1) := by decide +kernel
theorem dX12_one_89 : decode cX12_one 89 = .ok (.bipush 62, 2) := by decide +kernel
theorem dX12_one_91 : decode cX12_one 91 = .ok (.invokevirtual 274, 3) := by decide +kernel
theorem dX12_one_94 : decode cX12_one 94 = .ok (.ifCond .ne 14, 3) := by decide +kernel
theorem dX12_one_97 : decode cX12_one 97 = .ok (.aload_n 0, 1) := by decide +kernel
theorem dX12_one_98 : decode cX12_one 98 = .ok (.bipush 61, 2) := by decide +kernel
theorem dX12_one_100 : decode cX12_one 100 = .ok (.invokevirtual 274, 3) := by decide +kernel
theorem dX12_one_103 : decode cX12_one 103 = .ok (.ifCond .ne 5, 3) := by decide +kernel
theorem dX12_one_106 : decode cX12_one 106 = .ok (.iconst 0, 1) := by decide +kernel
theorem dX12_one_107 : decode cX12_one 107 = .ok (.ireturn, 1) := by decide +kernel
theorem dX12_one_108 : decode cX12_one 108 = .ok (.aload_n 0, 1) := by decide +kernel
theorem dX12_one_109 : decode cX12_one 109 = .ok (.aload_n 0, 1) := by decide +kernel
theorem dX12_one_110 : decode cX12_one 110 = .ok (.getfield 178, 3) := by decide +kernel
theorem dX12_one_113 : decode cX12_one 113 = .ok (.invokevirtual 181, 3) := by decide +kernel
theorem dX12_one_116 : decode cX12_one 116 = .ok (.istore_n 1, 1) := by decide +kernel
theorem dX12_one_117 : decode cX12_one 117 = .ok (.aload_n 0, 1) := by decide +kernel
theorem dX12_one_118 : decode cX12_one 118 = .ok (.invokevirtual 209, 3) := by decide +kernel
theorem dX12_one_121 : decode cX12_one 121 = .ok (.aload_n 0, 1) := by decide +kernel
theorem dX12_one_122 : decode cX12_one 122 = .ok (.invokevirtual 295, 3) := by decide +kernel
theorem dX12_one_125 : decode cX12_one 125 = .ok (.aload_n 0, 1) := by decide +kernel
theorem dX12_one_126 : decode cX12_one 126 = .ok (.invokevirtual 205, 3) := by decide +kernel
theorem dX12_one_129 : decode cX12_one 129 = .ok (.ifCond .eq 9, 3) := by decide +kernel
theorem dX12_one_132 : decode cX12_one 132 = .ok (.aload_n 0, 1) := by decide +kernel
theorem dX12_one_133 : decode cX12_one 133 = .ok (.iload_n 1, 1) := by decide +kernel
theorem dX12_one_134 : decode cX12_one 134 = .ok (.iconst 0, 1) := by decide +kernel
theorem dX12_one_135 : decode cX12_one 135 = .ok (.invokevirtual 298, 3) := by decide +kernel
theorem dX12_one_138 : decode cX12_one 138 = .ok (.iconst 0, 1) := by decide +kernel
theorem dX12_one_139 : decode cX12_one 139 = .ok (.ireturn, 1) := by decide +kernel
theorem dX12_readSum_0 : decode cX12_readSum 0 = .ok (.aload_n 0, 1) := by decide +kernel
theorem dX12_readSum_1 : decode cX12_readSum 1 = .ok (.invokevirtual 301, 3) := by decide +kernel
theorem dX12_readSum_4 : decode cX12_readSum 4 = .ok (.aload_n 0, 1) := by decide +kernel
theorem dX12_readSum_5 : decode cX12_readSum 5 = .ok (.invokevirtual 205, 3) := by decide +kernel
theorem dX12_readSum_8 : decode cX12_readSum 8 = .ok (.ifCond .eq 54, 3) := by decide +kernel
theorem dX12_readSum_11 : decode cX12_readSum 11 = .ok (.aload_n 0, 1) := by decide +kernel
theorem dX12_readSum_12 : decode cX12_readSum 12 = .ok (.bipush 43, 2) := by decide +kernel
theorem dX12_readSum_14 : decode cX12_readSum 14 = .ok (.invokevirtual 274, 3) := by decide +kernel
theorem dX12_readSum_17 : decode cX12_readSum 17 = .ok (.ifCond .ne 12, 3) := by decide +kernel
theorem dX12_readSum_20 : decode cX12_readSum 20 = .ok (.aload_n 0, 1) := by decide +kernel
theorem dX12_readSum_21 : decode cX12_readSum 21 = .ok (.bipush 45, 2) := by decide +kernel
theorem dX12_readSum_23 : decode cX12_readSum 23 = .ok (.invokevirtual 274, 3) := by decide +kernel
theorem dX12_readSum_26 : decode cX12_readSum 26 = .ok (.ifCond .eq 36, 3) := by decide +kernel
theorem dX12_readSum_29 : decode cX12_readSum 29 = .ok (.aload_n 0, 1) := by decide +kernel
theorem dX12_readSum_30 : decode cX12_readSum 30 = .ok (.aload_n 0, 1) := by decide +kernel
theorem dX12_readSum_31 : decode cX12_readSum 31 = .ok (.getfield 178, 3) := by decide +kernel
theorem dX12_readSum_34 : decode cX12_readSum 34 = .ok (.invokevirtual 181, 3) := by decide +kernel
theorem dX12_readSum_37 : decode cX12_readSum 37 = .ok (.istore_n 1, 1) := by decide +kernel
theorem dX12_readSum_38 : decode cX12_readSum 38 = .ok (.aload_n 0, 1) := by decide +kernel
theorem dX12_readSum_39 : decode cX12_readSum 39 = .ok (.invokevirtual 209, 3) := by decide +kernel
theorem dX12_readSum_42 : decode cX12_readSum 42 = .ok (.aload_n 0, 1) := by decide +kernel
theorem dX12_readSum_43 : decode cX12_readSum 43 = .ok (.invokevirtual 301, 3) := by decide +kernel
theorem dX12_readSum_46 : decode cX12_readSum 46 = .ok (.aload_n 0, 1) := by decide +kernel
theorem dX12_readSum_47 : decode cX12_readSum 47 = .ok (.invokevirtual 205, 3) := by decide +kernel
theorem dX12_readSum_50 : decode cX12_readSum 50 = .ok (.ifCond .eq 9, 3) := by decide +kernel
theorem dX12_readSum_53 : decode cX12_readSum 53 = .ok (.aload_n 0, 1) := by decide +kernel
theorem dX12_readSum_54 : decode cX12_readSum 54 = .ok (.iload_n 1, 1) := by decide +kernel
theorem dX12_readSum_55 : decode cX12_readSum 55 = .ok (.iconst 0, 1) := by decide +kernel
theorem dX12_readSum_56 : decode cX12_readSum 56 = .ok (.invokevirtual 298, 3) := by decide +kernel
theorem dX12_readSum_59 : decode cX12_readSum 59 = .ok (.goto (-55), 3) := by decide +kernel
theorem dX12_readSum_62 : decode cX12_readSum 62 = .ok (.return_, 1) := by decide +kernel
theorem dX12_readTerm_0 : decode cX12_readTerm 0 = .ok (.aload_n 0, 1) := by decide +kernel
theorem dX12_readTerm_1 : decode cX12_readTerm 1 = .ok (.invokevirtual 304, 3) := by decide +kernel
theorem dX12_readTerm_4 : decode cX12_readTerm 4 = .ok (.istore_n 1, 1) := by decide +kernel
theorem dX12_readTerm_5 : decode cX12_readTerm 5 = .ok (.aload_n 0, 1) := by decide +kernel
theorem dX12_readTerm_6 : decode cX12_readTerm 6 = .ok (.getfield 185, 3) := by decide +kernel
theorem dX12_readTerm_9 : decode cX12_readTerm 9 = .ok (.iconst 3, 1) := by decide +kernel
theorem dX12_readTerm_10 : decode cX12_readTerm 10 = .ok (.if_icmp .eq 7, 3) := by decide +kernel
theorem dX12_readTerm_13 : decode cX12_readTerm 13 = .ok (.iload_n 1, 1) := by decide +kernel
theorem dX12_readTerm_14 : decode cX12_readTerm 14 = .ok (.ifCond .lt 12, 3) := by decide +kernel
theorem dX12_readTerm_17 : decode cX12_readTerm 17 = .ok (.aload_n 0, 1) := by decide +kernel
theorem dX12_readTerm_18 : decode cX12_readTerm 18 = .ok (.getfield 245, 3) := by decide +kernel
theorem dX12_readTerm_21 : decode cX12_readTerm 21 = .ok (.bipush 80, 2) := by decide +kernel
theorem dX12_readTerm_23 : decode cX12_readTerm 23 = .ok (.if_icmp .ne 7, 3) := by decide +kernel
theorem dX12_readTerm_26 : decode cX12_readTerm 26 = .ok (.aload_n 0, 1) := by decide +kernel
theorem dX12_readTerm_27 : decode cX12_readTerm 27 = .ok (.invokevirtual 212, 3) := by decide +kernel
theorem dX12_readTerm_30 : decode cX12_readTerm 30 = .ok (.aload_n 0, 1) := by decide +kernel
theorem dX12_readTerm_31 : decode cX12_readTerm 31 = .ok (.invokevirtual 205, 3) := by decide +kernel
theorem dX12_readTerm_34 : decode cX12_readTerm 34 = .ok (.ifCond .ne 4, 3) := by decide +kernel
theorem dX12_readTerm_37 : decode cX12_readTerm 37 = .ok (.return_, 1) := by decide +kernel
theorem dX12_readTerm_38 : decode cX12_readTerm 38 = .ok (.aload_n 0, 1) := by decide +kernel
theorem dX12_readTerm_39 : decode cX12_readTerm 39 = .ok (.dup, 1) := by decide +kernel
theorem dX12_readTerm_40 : decode cX12_readTerm 40 = .ok (.getfield 245, 3) := by decide +kernel
theorem dX12_readTerm_43 : decode cX12_readTerm 43 = .ok (.iconst 1, 1) := by decide +kernel
theorem dX12_readTerm_44 : decode cX12_readTerm 44 = .ok (.iadd, 1) := by decide +kernel
theorem dX12_readTerm_45 : decode cX12_readTerm 45 = .ok (.putfield 245, 3) := by decide +kernel
theorem dX12_readTerm_48 : decode cX12_readTerm 48 = .ok (.aload_n 0, 1) := by decide +kernel
theorem dX12_readTerm_49 : decode cX12_readTerm 49 = .ok (.iload_n 1, 1) := by decide +kernel
theorem dX12_readTerm_50 : decode cX12_readTerm 50 = .ok (.ifCond .ge 8, 3) := by decide +kernel
theorem dX12_readTerm_53 : decode cX12_readTerm 53 = .ok (.bipush 110, 2) := by decide +kernel
theorem dX12_readTerm_55 : decode cX12_readTerm 55 = .ok (.goto 5, 3) := by decide +kernel
theorem dX12_readTerm_58 : decode cX12_readTerm 58 = .ok (.bipush 116, 2) := by decide +kernel
theorem dX12_readTerm_60 : decode cX12_readTerm 60 = .ok (.iload_n 1, 1) := by decide +kernel
theorem dX12_readTerm_61 : decode cX12_readTerm 61 = .ok (.ifCond .ge 10, 3) := by decide +kernel
theorem dX12_readTerm_64 : decode cX12_readTerm 64 = .ok (.aload_n 0, 1) := by decide +kernel
theorem dX12_readTerm_65 : decode cX12_readTerm 65 = .ok (.getfield 198, 3) := by decide +kernel
theorem dX12_readTerm_68 : decode cX12_readTerm 68 = .ok (.goto 4, 3) := by decide +kernel
theorem dX12_readTerm_71 : decode cX12_readTerm 71 = .ok (.iload_n 1, 1) := by decide +kernel
theorem dX12_readTerm_72 : decode cX12_readTerm 72 = .ok (.invokevirtual 298, 3) := by decide +kernel
theorem dX12_readTerm_75 : decode cX12_readTerm 75 = .ok (.aload_n 0, 1) := by decide +kernel
theorem dX12_readTerm_76 : decode cX12_readTerm 76 = .ok (.invokevirtual 209, 3) := by decide +kernel
theorem dX12_readTerm_79 : decode cX12_readTerm 79 = .ok (.return_, 1) := by decide +kernel
theorem dX12_behind_0 : decode cX12_behind 0 = .ok (.aload_n 0, 1) := by decide +kernel
theorem dX12_behind_1 : decode cX12_behind 1 = .ok (.ldc2_w 308, 3) := by decide +kernel
theorem dX12_behind_4 : decode cX12_behind 4 = .ok (.invokevirtual 253, 3) := by decide +kernel
theorem dX12_behind_7 : decode cX12_behind 7 = .ok (.ifCond .eq 7, 3) := by decide +kernel
theorem dX12_behind_10 : decode cX12_behind 10 = .ok (.iconst 2, 1) := by decide +kernel
theorem dX12_behind_11 : decode cX12_behind 11 = .ok (.goto 18, 3) := by decide +kernel
theorem dX12_behind_14 : decode cX12_behind 14 = .ok (.aload_n 0, 1) := by decide +kernel
theorem dX12_behind_15 : decode cX12_behind 15 = .ok (.ldc2_w 310, 3) := by decide +kernel
theorem dX12_behind_18 : decode cX12_behind 18 = .ok (.invokevirtual 253, 3) := by decide +kernel
theorem dX12_behind_21 : decode cX12_behind 21 = .ok (.ifCond .eq 7, 3) := by decide +kernel
theorem dX12_behind_24 : decode cX12_behind 24 = .ok (.iconst 1, 1) := by decide +kernel
theorem dX12_behind_25 : decode cX12_behind 25 = .ok (.goto 4, 3) := by decide +kernel
theorem dX12_behind_28 : decode cX12_behind 28 = .ok (.iconst 0, 1) := by decide +kernel
theorem dX12_behind_29 : decode cX12_behind 29 = .ok (.istore_n 1, 1) := by decide +kernel
theorem dX12_behind_30 : decode cX12_behind 30 = .ok (.aload_n 0, 1) := by decide +kernel
theorem dX12_behind_31 : decode cX12_behind 31 = .ok (.getfield 91, 3) := by decide +kernel
theorem dX12_behind_34 : decode cX12_behind 34 = .ok (.aload_n 0, 1) := by decide +kernel
theorem dX12_behind_35 : decode cX12_behind 35 = .ok (.getfield 277, 3) := by decide +kernel
theorem dX12_behind_38 : decode cX12_behind 38 = .ok (.iconst 1, 1) := by decide +kernel
theorem dX12_behind_39 : decode cX12_behind 39 = .ok (.isub, 1) := by decide +kernel
theorem dX12_behind_40 : decode cX12_behind 40 = .ok (.iaload, 1) := by decide +kernel
theorem dX12_behind_41 : decode cX12_behind 41 = .ok (.iconst 3, 1) := by decide +kernel
theorem dX12_behind_42 : decode cX12_behind 42 = .ok (.if_icmp .gt 97, 3) := by decide +kernel
theorem dX12_behind_45 : decode cX12_behind 45 = .ok (.aload_n 0, 1) := by decide +kernel
theorem dX12_behind_46 : decode cX12_behind 46 = .ok (.getfield 91, 3) := by decide +kernel
theorem dX12_behind_49 : decode cX12_behind 49 = .ok (.aload_n 0, 1) := by decide +kernel
theorem dX12_behind_50 : decode cX12_behind 50 = .ok (.getfield 277, 3) := by decide +kernel
theorem dX12_behind_53 : decode cX12_behind 53 = .ok (.iconst 1, 1) := by decide +kernel
theorem dX12_behind_54 : decode cX12_behind 54 = .ok (.isub, 1) := by decide +kernel
theorem dX12_behind_55 : decode cX12_behind 55 = .ok (.iaload, 1) := by decide +kernel
theorem dX12_behind_56 : decode cX12_behind 56 = .ok (.iload_n 1, 1) := by decide +kernel
theorem dX12_behind_57 : decode cX12_behind 57 = .ok (.if_icmp .lt 82, 3) := by decide +kernel
theorem dX12_behind_60 : decode cX12_behind 60 = .ok (.aload_n 0, 1) := by decide +kernel
theorem dX12_behind_61 : decode cX12_behind 61 = .ok (.dup, 1) := by decide +kernel
theorem dX12_behind_62 : decode cX12_behind 62 = .ok (.getfield 277, 3) := by decide +kernel
theorem dX12_behind_65 : decode cX12_behind 65 = .ok (.iconst 1, 1) := by decide +kernel
theorem dX12_behind_66 : decode cX12_behind 66 = .ok (.isub, 1) := by decide +kernel
theorem dX12_behind_67 : decode cX12_behind 67 = .ok (.putfield 277, 3) := by decide +kernel
theorem dX12_behind_70 : decode cX12_behind 70 = .ok (.aload_n 0, 1) := by decide +kernel
theorem dX12_behind_71 : decode cX12_behind 71 = .ok (.getfield 91, 3) := by decide +kernel
theorem dX12_behind_74 : decode cX12_behind 74 = .ok (.aload_n 0, 1) := by decide +kernel
theorem dX12_behind_75 : decode cX12_behind 75 = .ok (.getfield 277, 3) := by decide +kernel
theorem dX12_behind_78 : decode cX12_behind 78 = .ok (.iaload, 1) := by decide +kernel
theorem dX12_behind_79 : decode cX12_behind 79 = .ok (.iconst 3, 1) := by decide +kernel
theorem dX12_behind_80 : decode cX12_behind 80 = .ok (.if_icmp .ne 13, 3) := by decide +kernel
theorem dX12_behind_83 : decode cX12_behind 83 = .ok (.aload_n 0, 1) := by decide +kernel
theorem dX12_behind_84 : decode cX12_behind 84 = .ok (.dup, 1) := by decide +kernel
theorem dX12_behind_85 : decode cX12_behind 85 = .ok (.getfield 280, 3) := by decide +kernel
theorem dX12_behind_88 : decode cX12_behind 88 = .ok (.iconst 1, 1) := by decide +kernel
theorem dX12_behind_89 : decode cX12_behind 89 = .ok (.isub, 1) := by decide +kernel
theorem dX12_behind_90 : decode cX12_behind 90 = .ok (.putfield 280, 3) := by decide +kernel
theorem dX12_behind_93 : decode cX12_behind 93 = .ok (.aload_n 0, 1) := by decide +kernel
theorem dX12_behind_94 : decode cX12_behind 94 = .ok (.aload_n 0, 1) := by decide +kernel
theorem dX12_behind_95 : decode cX12_behind 95 = .ok (.getfield 91, 3) := by decide +kernel
theorem dX12_behind_98 : decode cX12_behind 98 = .ok (.aload_n 0, 1) := by decide +kernel
theorem dX12_behind_99 : decode cX12_behind 99 = .ok (.getfield 277, 3) := by decide +kernel
theorem dX12_behind_102 : decode cX12_behind 102 = .ok (.iaload, 1) := by decide +kernel
theorem dX12_behind_103 : decode cX12_behind 103 = .ok (.iconst 3, 1) := by decide +kernel
theorem dX12_behind_104 : decode cX12_behind 104 = .ok (.if_icmp .ne 8, 3) := by decide +kernel
theorem dX12_behind_107 : decode cX12_behind 107 = .ok (.bipush 126, 2) := by decide +kernel
theorem dX12_behind_109 : decode cX12_behind 109 = .ok (.goto 23, 3) := by decide +kernel
theorem dX12_behind_112 : decode cX12_behind 112 = .ok (.aload_n 0, 1) := by decide +kernel
theorem dX12_behind_113 : decode cX12_behind 113 = .ok (.getfield 91, 3) := by decide +kernel
theorem dX12_behind_116 : decode cX12_behind 116 = .ok (.aload_n 0, 1) := by decide +kernel
theorem dX12_behind_117 : decode cX12_behind 117 = .ok (.getfield 277, 3) := by decide +kernel
theorem dX12_behind_120 : decode cX12_behind 120 = .ok (.iaload, 1) := by decide +kernel
theorem dX12_behind_121 : decode cX12_behind 121 = .ok (.iconst 2, 1) := by decide +kernel
theorem dX12_behind_122 : decode cX12_behind 122 = .ok (.if_icmp .ne 8, 3) := by decide +kernel
theorem dX12_behind_125 : decode cX12_behind 125 = .ok (.bipush 38, 2) := by decide +kernel
theorem dX12_behind_127 : decode cX12_behind 127 = .ok (.goto 5, 3) := by decide +kernel
theorem dX12_behind_130 : decode cX12_behind 130 = .ok (.bipush 124, 2) := by decide +kernel
theorem dX12_behind_132 : decode cX12_behind 132 = .ok (.iconst 0, 1) := by decide +kernel
theorem dX12_behind_133 : decode cX12_behind 133 = .ok (.invokevirtual 298, 3) := by decide +kernel
theorem dX12_behind_136 : decode cX12_behind 136 = .ok (.goto (-106), 3) := by decide +kernel
theorem dX12_behind_139 : decode cX12_behind 139 = .ok (.iload_n 1, 1) := by decide +kernel
theorem dX12_behind_140 : decode cX12_behind 140 = .ok (.ifCond .le 14, 3) := by decide +kernel
theorem dX12_behind_143 : decode cX12_behind 143 = .ok (.aload_n 0, 1) := by decide +kernel
theorem dX12_behind_144 : decode cX12_behind 144 = .ok (.iload_n 1, 1) := by decide +kernel
theorem dX12_behind_145 : decode cX12_behind 145 = .ok (.invokevirtual 283, 3) := by decide +kernel
theorem dX12_behind_148 : decode cX12_behind 148 = .ok (.aload_n 0, 1) := by decide +kernel
theorem dX12_behind_149 : decode cX12_behind 149 = .ok (.invokevirtual 209, 3) := by decide +kernel
theorem dX12_behind_152 : decode cX12_behind 152 = .ok (.iconst 1, 1) := by decide +kernel
theorem dX12_behind_153 : decode cX12_behind 153 = .ok (.ireturn, 1) := by decide +kernel
theorem dX12_behind_154 : decode cX12_behind 154 = .ok (.aload_n 0, 1) := by decide +kernel
theorem dX12_behind_155 : decode cX12_behind 155 = .ok (.dup, 1) := by decide +kernel
theorem dX12_behind_156 : decode cX12_behind 156 = .ok (.getfield 277, 3) := by decide +kernel
theorem dX12_behind_159 : decode cX12_behind 159 = .ok (.iconst 1, 1) := by decide +kernel
theorem dX12_behind_160 : decode cX12_behind 160 = .ok (.isub, 1) := by decide +kernel
theorem dX12_behind_161 : decode cX12_behind 161 = .ok (.putfield 277, 3) := by decide +kernel
theorem dX12_behind_164 : decode cX12_behind 164 = .ok (.aload_n 0, 1) := by decide +kernel
theorem dX12_behind_165 : decode cX12_behind 165 = .ok (.getfield 91, 3) := by decide +kernel
theorem dX12_behind_168 : decode cX12_behind 168 = .ok (.aload_n 0, 1) := by decide +kernel
theorem dX12_behind_169 : decode cX12_behind 169 = .ok (.getfield 277, 3) := by decide +kernel
theorem dX12_behind_172 : decode cX12_behind 172 = .ok (.iaload, 1) := by decide +kernel
theorem dX12_behind_173 : decode cX12_behind 173 = .ok (.iconst 4, 1) := by decide +kernel
theorem dX12_behind_174 : decode cX12_behind 174 = .ok (.if_icmp .ne 23, 3) := by decide +kernel
theorem dX12_behind_177 : decode cX12_behind 177 = .ok (.aload_n 0, 1) := by decide +kernel
theorem dX12_behind_178 : decode cX12_behind 178 = .ok (.dup, 1) := by decide +kernel
theorem dX12_behind_179 : decode cX12_behind 179 = .ok (.getfield 280, 3) := by decide +kernel
theorem dX12_behind_182 : decode cX12_behind 182 = .ok (.iconst 1, 1) := by decide +kernel
theorem dX12_behind_183 : decode cX12_behind 183 = .ok (.isub, 1) := by decide +kernel
theorem dX12_behind_184 : decode cX12_behind 184 = .ok (.putfield 280, 3) := by decide +kernel
theorem dX12_behind_187 : decode cX12_behind 187 = .ok (.aload_n 0, 1) := by decide +kernel
theorem dX12_behind_188 : decode cX12_behind 188 = .ok (.aload_n 0, 1) := by decide +kernel
theorem dX12_behind_189 : decode cX12_behind 189 = .ok (.bipush 41, 2) := by decide +kernel
theorem dX12_behind_191 : decode cX12_behind 191 = .ok (.invokevirtual 274, 3) := by decide +kernel
theorem dX12_behind_194 : decode cX12_behind 194 = .ok (.invokevirtual 262, 3) := by decide +kernel
theorem dX12_behind_197 : decode cX12_behind 197 = .ok (.iconst 0, 1) := by decide +kernel
theorem dX12_behind_198 : decode cX12_behind 198 = .ok (.ireturn, 1) := by decide +kernel
theorem dX12_fault_0 : decode cX12_fault 0 = .ok (.iload_n 1, 1) := by decide +kernel
theorem dX12_fault_1 : decode cX12_fault 1 = .ok (.ifCond .ne 10, 3) := by decide +kernel
theorem dX12_fault_4 : decode cX12_fault 4 = .ok (.aload_n 0, 1) := by decide +kernel
theorem dX12_fault_5 : decode cX12_fault 5 = .ok (.getfield 172, 3) := by decide +kernel
theorem dX12_fault_8 : decode cX12_fault 8 = .ok (.goto 16, 3) := by decide +kernel
theorem dX12_fault_11 : decode cX12_fault 11 = .ok (.iload_n 1, 1) := by decide +kernel
theorem dX12_fault_12 : decode cX12_fault 12 = .ok (.iconst 1, 1) := by decide +kernel
theorem dX12_fault_13 : decode cX12_fault 13 = .ok (.if_icmp .ne 10, 3) := by decide +kernel
theorem dX12_fault_16 : decode cX12_fault 16 = .ok (.aload_n 0, 1) := by decide +kernel
theorem dX12_fault_17 : decode cX12_fault 17 = .ok (.getfield 66, 3) := by decide +kernel
theorem dX12_fault_20 : decode cX12_fault 20 = .ok (.goto 4, 3) := by decide +kernel
theorem dX12_fault_23 : decode cX12_fault 23 = .ok (.iconst (-1), 1) := by decide +kernel
theorem dX12_fault_24 : decode cX12_fault 24 = .ok (.ireturn, 1) := by decide +kernel
theorem dX12_two_0 : decode cX12_two 0 = .ok (.iload_n 0, 1) := by decide +kernel
theorem dX12_two_1 : decode cX12_two 1 = .ok (.lookupswitch 114 #[(38, 100), (43, 59), (45, 63), (60, 67), (61, 89), (62, 78)], 59) := by decide +kernel
theorem dX12_two_60 : decode cX12_two 60 = .ok (.iload_n 1, 1) := by decide +kernel
theorem dX12_two_61 : decode cX12_two 61 = .ok (.iload_n 2, 1) := by decide +kernel
theorem dX12_two_62 : decode cX12_two 62 = .ok (.iadd, 1) := by decide +kernel
theorem dX12_two_63 : decode cX12_two 63 = .ok (.ireturn, 1) := by decide +kernel
theorem dX12_two_64 : decode cX12_two 64 = .ok (.iload_n 1, 1) := by decide +kernel
theorem dX12_two_65 : decode cX12_two 65 = .ok (.iload_n 2, 1) := by decide +kernel
theorem dX12_two_66 : decode cX12_two 66 = .ok (.isub, 1) := by decide +kernel
theorem dX12_two_67 : decode cX12_two 67 = .ok (.ireturn, 1) := by decide +kernel
theorem dX12_two_68 : decode cX12_two 68 = .ok (.iload_n 1, 1) := by decide +kernel
theorem dX12_two_69 : decode cX12_two 69 = .ok (.iload_n 2, 1) := by decide +kernel
theorem dX12_two_70 : decode cX12_two 70 = .ok (.if_icmp .ge 7, 3) := by decide +kernel
theorem dX12_two_73 : decode cX12_two 73 = .ok (.iconst 1, 1) := by decide +kernel
theorem dX12_two_74 : decode cX12_two 74 = .ok (.goto 4, 3) := by decide +kernel
theorem dX12_two_77 : decode cX12_two 77 = .ok (.iconst 0, 1) := by decide +kernel
theorem dX12_two_78 : decode cX12_two 78 = .ok (.ireturn, 1) := by decide +kernel
theorem dX12_two_79 : decode cX12_two 79 = .ok (.iload_n 1, 1) := by decide +kernel
theorem dX12_two_80 : decode cX12_two 80 = .ok (.iload_n 2, 1) := by decide +kernel
theorem dX12_two_81 : decode cX12_two 81 = .ok (.if_icmp .le 7, 3) := by decide +kernel
theorem dX12_two_84 : decode cX12_two 84 = .ok (.iconst 1, 1) := by decide +kernel
theorem dX12_two_85 : decode cX12_two 85 = .ok (.goto 4, 3) := by decide +kernel
theorem dX12_two_88 : decode cX12_two 88 = .ok (.iconst 0, 1) := by decide +kernel
theorem dX12_two_89 : decode cX12_two 89 = .ok (.ireturn, 1) := by decide +kernel
theorem dX12_two_90 : decode cX12_two 90 = .ok (.iload_n 1, 1) := by decide +kernel
theorem dX12_two_91 : decode cX12_two 91 = .ok (.iload_n 2, 1) := by decide +kernel
theorem dX12_two_92 : decode cX12_two 92 = .ok (.if_icmp .ne 7, 3) := by decide +kernel
theorem dX12_two_95 : decode cX12_two 95 = .ok (.iconst 1, 1) := by decide +kernel
theorem dX12_two_96 : decode cX12_two 96 = .ok (.goto 4, 3) := by decide +kernel
theorem dX12_two_99 : decode cX12_two 99 = .ok (.iconst 0, 1) := by decide +kernel
theorem dX12_two_100 : decode cX12_two 100 = .ok (.ireturn, 1) := by decide +kernel
theorem dX12_two_101 : decode cX12_two 101 = .ok (.iload_n 1, 1) := by decide +kernel
theorem dX12_two_102 : decode cX12_two 102 = .ok (.ifCond .eq 11, 3) := by decide +kernel
theorem dX12_two_105 : decode cX12_two 105 = .ok (.iload_n 2, 1) := by decide +kernel
theorem dX12_two_106 : decode cX12_two 106 = .ok (.ifCond .eq 7, 3) := by decide +kernel
theorem dX12_two_109 : decode cX12_two 109 = .ok (.iconst 1, 1) := by decide +kernel
theorem dX12_two_110 : decode cX12_two 110 = .ok (.goto 4, 3) := by decide +kernel
theorem dX12_two_113 : decode cX12_two 113 = .ok (.iconst 0, 1) := by decide +kernel
theorem dX12_two_114 : decode cX12_two 114 = .ok (.ireturn, 1) := by decide +kernel
theorem dX12_two_115 : decode cX12_two 115 = .ok (.iload_n 1, 1) := by decide +kernel
theorem dX12_two_116 : decode cX12_two 116 = .ok (.ifCond .ne 7, 3) := by decide +kernel
theorem dX12_two_119 : decode cX12_two 119 = .ok (.iload_n 2, 1) := by decide +kernel
theorem dX12_two_120 : decode cX12_two 120 = .ok (.ifCond .eq 7, 3) := by decide +kernel
theorem dX12_two_123 : decode cX12_two 123 = .ok (.iconst 1, 1) := by decide +kernel
theorem dX12_two_124 : decode cX12_two 124 = .ok (.goto 4, 3) := by decide +kernel
theorem dX12_two_127 : decode cX12_two 127 = .ok (.iconst 0, 1) := by decide +kernel
theorem dX12_two_128 : decode cX12_two 128 = .ok (.ireturn, 1) := by decide +kernel
theorem dX12_holds_0 : decode cX12_holds 0 = .ok (.iconst 0, 1) := by decide +kernel
theorem dX12_holds_1 : decode cX12_holds 1 = .ok (.istore_n 2, 1) := by decide +kernel
theorem dX12_holds_2 : decode cX12_holds 2 = .ok (.sipush 600, 3) := by decide +kernel
theorem dX12_holds_5 : decode cX12_holds 5 = .ok (.aload_n 0, 1) := by decide +kernel
theorem dX12_holds_6 : decode cX12_holds 6 = .ok (.getfield 236, 3) := by decide +kernel
theorem dX12_holds_9 : decode cX12_holds 9 = .ok (.imul, 1) := by decide +kernel
theorem dX12_holds_10 : decode cX12_holds 10 = .ok (.aload_n 0, 1) := by decide +kernel
theorem dX12_holds_11 : decode cX12_holds 11 = .ok (.getfield 79, 3) := by decide +kernel
theorem dX12_holds_14 : decode cX12_holds 14 = .ok (.iload_n 1, 1) := by decide +kernel
theorem dX12_holds_15 : decode cX12_holds 15 = .ok (.iaload, 1) := by decide +kernel
theorem dX12_holds_16 : decode cX12_holds 16 = .ok (.iadd, 1) := by decide +kernel
theorem dX12_holds_17 : decode cX12_holds 17 = .ok (.istore_n 3, 1) := by decide +kernel
theorem dX12_holds_18 : decode cX12_holds 18 = .ok (.iload_n 3, 1) := by decide +kernel
theorem dX12_holds_19 : decode cX12_holds 19 = .ok (.sipush 600, 3) := by decide +kernel
theorem dX12_holds_22 : decode cX12_holds 22 = .ok (.aload_n 0, 1) := by decide +kernel
theorem dX12_holds_23 : decode cX12_holds 23 = .ok (.getfield 236, 3) := by decide +kernel
theorem dX12_holds_26 : decode cX12_holds 26 = .ok (.imul, 1) := by decide +kernel
theorem dX12_holds_27 : decode cX12_holds 27 = .ok (.aload_n 0, 1) := by decide +kernel
theorem dX12_holds_28 : decode cX12_holds 28 = .ok (.getfield 82, 3) := by decide +kernel
theorem dX12_holds_31 : decode cX12_holds 31 = .ok (.iload_n 1, 1) := by decide +kernel
theorem dX12_holds_32 : decode cX12_holds 32 = .ok (.iaload, 1) := by decide +kernel
theorem dX12_holds_33 : decode cX12_holds 33 = .ok (.iadd, 1) := by decide +kernel
theorem dX12_holds_34 : decode cX12_holds 34 = .ok (.if_icmp .ge 134, 3) := by decide +kernel
theorem dX12_holds_37 : decode cX12_holds 37 = .ok (.aload_n 0, 1) := by decide +kernel
theorem dX12_holds_38 : decode cX12_holds 38 = .ok (.getfield 85, 3) := by decide +kernel
theorem dX12_holds_41 : decode cX12_holds 41 = .ok (.iload_n 3, 1) := by decide +kernel
theorem dX12_holds_42 : decode cX12_holds 42 = .ok (.iaload, 1) := by decide +kernel
theorem dX12_holds_43 : decode cX12_holds 43 = .ok (.istore 4, 2) := by decide +kernel
theorem dX12_holds_45 : decode cX12_holds 45 = .ok (.iload 4, 2) := by decide +kernel
theorem dX12_holds_47 : decode cX12_holds 47 = .ok (.bipush 126, 2) := by decide +kernel
theorem dX12_holds_49 : decode cX12_holds 49 = .ok (.if_icmp .ne 30, 3) := by decide +kernel
theorem dX12_holds_52 : decode cX12_holds 52 = .ok (.aload_n 0, 1) := by decide +kernel
theorem dX12_holds_53 : decode cX12_holds 53 = .ok (.getfield 94, 3) := by decide +kernel
theorem dX12_holds_56 : decode cX12_holds 56 = .ok (.iload_n 2, 1) := by decide +kernel
theorem dX12_holds_57 : decode cX12_holds 57 = .ok (.iconst 1, 1) := by decide +kernel
theorem dX12_holds_58 : decode cX12_holds 58 = .ok (.isub, 1) := by decide +kernel
theorem dX12_holds_59 : decode cX12_holds 59 = .ok (.aload_n 0, 1) := by decide +kernel
theorem dX12_holds_60 : decode cX12_holds 60 = .ok (.getfield 94, 3) := by decide +kernel
theorem dX12_holds_63 : decode cX12_holds 63 = .ok (.iload_n 2, 1) := by decide +kernel
theorem dX12_holds_64 : decode cX12_holds 64 = .ok (.iconst 1, 1) := by decide +kernel
theorem dX12_holds_65 : decode cX12_holds 65 = .ok (.isub, 1) := by decide +kernel
theorem dX12_holds_66 : decode cX12_holds 66 = .ok (.iaload, 1) := by decide +kernel
theorem dX12_holds_67 : decode cX12_holds 67 = .ok (.ifCond .ne 7, 3) := by decide +kernel
theorem dX12_holds_70 : decode cX12_holds 70 = .ok (.iconst 1, 1) := by decide +kernel
theorem dX12_holds_71 : decode cX12_holds 71 = .ok (.goto 4, 3) := by decide +kernel
theorem dX12_holds_74 : decode cX12_holds 74 = .ok (.iconst 0, 1) := by decide +kernel
theorem dX12_holds_75 : decode cX12_holds 75 = .ok (.iastore, 1) := by decide +kernel
theorem dX12_holds_76 : decode cX12_holds 76 = .ok (.goto 86, 3) := by decide +kernel
theorem dX12_holds_79 : decode cX12_holds 79 = .ok (.iload 4, 2) := by decide +kernel
theorem dX12_holds_81 : decode cX12_holds 81 = .ok (.bipush 110, 2) := by decide +kernel
theorem dX12_holds_83 : decode cX12_holds 83 = .ok (.if_icmp .eq 10, 3) := by decide +kernel
theorem dX12_holds_86 : decode cX12_holds 86 = .ok (.iload 4, 2) := by decide +kernel
theorem dX12_holds_88 : decode cX12_holds 88 = .ok (.bipush 116, 2) := by decide +kernel
theorem dX12_holds_90 : decode cX12_holds 90 = .ok (.if_icmp .ne 42, 3) := by decide +kernel
theorem dX12_holds_93 : decode cX12_holds 93 = .ok (.aload_n 0, 1) := by decide +kernel
theorem dX12_holds_94 : decode cX12_holds 94 = .ok (.getfield 94, 3) := by decide +kernel
theorem dX12_holds_97 : decode cX12_holds 97 = .ok (.iload_n 2, 1) := by decide +kernel
theorem dX12_holds_98 : decode cX12_holds 98 = .ok (.iload 4, 2) := by decide +kernel
theorem dX12_holds_100 : decode cX12_holds 100 = .ok (.bipush 110, 2) := by decide +kernel
theorem dX12_holds_102 : decode cX12_holds 102 = .ok (.if_icmp .ne 12, 3) := by decide +kernel
theorem dX12_holds_105 : decode cX12_holds 105 = .ok (.aload_n 0, 1) := by decide +kernel
theorem dX12_holds_106 : decode cX12_holds 106 = .ok (.getfield 88, 3) := by decide +kernel
theorem dX12_holds_109 : decode cX12_holds 109 = .ok (.iload_n 3, 1) := by decide +kernel
theorem dX12_holds_110 : decode cX12_holds 110 = .ok (.iaload, 1) := by decide +kernel
theorem dX12_holds_111 : decode cX12_holds 111 = .ok (.goto 14, 3) := by decide +kernel
theorem dX12_holds_114 : decode cX12_holds 114 = .ok (.aload_n 0, 1) := by decide +kernel
theorem dX12_holds_115 : decode cX12_holds 115 = .ok (.getfield 97, 3) := by decide +kernel
theorem dX12_holds_118 : decode cX12_holds 118 = .ok (.aload_n 0, 1) := by decide +kernel
theorem dX12_holds_119 : decode cX12_holds 119 = .ok (.getfield 88, 3) := by decide +kernel
theorem dX12_holds_122 : decode cX12_holds 122 = .ok (.iload_n 3, 1) := by decide +kernel
theorem dX12_holds_123 : decode cX12_holds 123 = .ok (.iaload, 1) := by decide +kernel
theorem dX12_holds_124 : decode cX12_holds 124 = .ok (.iaload, 1) := by decide +kernel
theorem dX12_holds_125 : decode cX12_holds 125 = .ok (.iastore, 1) := by decide +kernel
theorem dX12_holds_126 : decode cX12_holds 126 = .ok (.iinc 2 1, 3) := by decide +kernel
theorem dX12_holds_129 : decode cX12_holds 129 = .ok (.goto 33, 3) := by decide +kernel
theorem dX12_holds_132 : decode cX12_holds 132 = .ok (.iinc 2 (-1), 3) := by decide +kernel
theorem dX12_holds_135 : decode cX12_holds 135 = .ok (.aload_n 0, 1) := by decide +kernel
theorem dX12_holds_136 : decode cX12_holds 136 = .ok (.getfield 94, 3) := by decide +kernel
theorem dX12_holds_139 : decode cX12_holds 139 = .ok (.iload_n 2, 1) := by decide +kernel
theorem dX12_holds_140 : decode cX12_holds 140 = .ok (.iconst 1, 1) := by decide +kernel
theorem dX12_holds_141 : decode cX12_holds 141 = .ok (.isub, 1) := by decide +kernel
theorem dX12_holds_142 : decode cX12_holds 142 = .ok (.iload 4, 2) := by decide +kernel
theorem dX12_holds_144 : decode cX12_holds 144 = .ok (.aload_n 0, 1) := by decide +kernel
theorem dX12_holds_145 : decode cX12_holds 145 = .ok (.getfield 94, 3) := by decide +kernel
theorem dX12_holds_148 : decode cX12_holds 148 = .ok (.iload_n 2, 1) := by decide +kernel
theorem dX12_holds_149 : decode cX12_holds 149 = .ok (.iconst 1, 1) := by decide +kernel
theorem dX12_holds_150 : decode cX12_holds 150 = .ok (.isub, 1) := by decide +kernel
theorem dX12_holds_151 : decode cX12_holds 151 = .ok (.iaload, 1) := by decide +kernel
theorem dX12_holds_152 : decode cX12_holds 152 = .ok (.aload_n 0, 1) := by decide +kernel
theorem dX12_holds_153 : decode cX12_holds 153 = .ok (.getfield 94, 3) := by decide +kernel
theorem dX12_holds_156 : decode cX12_holds 156 = .ok (.iload_n 2, 1) := by decide +kernel
theorem dX12_holds_157 : decode cX12_holds 157 = .ok (.iaload, 1) := by decide +kernel
theorem dX12_holds_158 : decode cX12_holds 158 = .ok (.invokestatic 312, 3) := by decide +kernel
theorem dX12_holds_161 : decode cX12_holds 161 = .ok (.iastore, 1) := by decide +kernel
theorem dX12_holds_162 : decode cX12_holds 162 = .ok (.iinc 3 1, 3) := by decide +kernel
theorem dX12_holds_165 : decode cX12_holds 165 = .ok (.goto (-147), 3) := by decide +kernel
theorem dX12_holds_168 : decode cX12_holds 168 = .ok (.aload_n 0, 1) := by decide +kernel
theorem dX12_holds_169 : decode cX12_holds 169 = .ok (.getfield 94, 3) := by decide +kernel
theorem dX12_holds_172 : decode cX12_holds 172 = .ok (.iconst 0, 1) := by decide +kernel
theorem dX12_holds_173 : decode cX12_holds 173 = .ok (.iaload, 1) := by decide +kernel
theorem dX12_holds_174 : decode cX12_holds 174 = .ok (.ifCond .eq 7, 3) := by decide +kernel
theorem dX12_holds_177 : decode cX12_holds 177 = .ok (.iconst 1, 1) := by decide +kernel
theorem dX12_holds_178 : decode cX12_holds 178 = .ok (.goto 4, 3) := by decide +kernel
theorem dX12_holds_181 : decode cX12_holds 181 = .ok (.iconst 0, 1) := by decide +kernel
theorem dX12_holds_182 : decode cX12_holds 182 = .ok (.ireturn, 1) := by decide +kernel
theorem dX12_claim_0 : decode cX12_claim 0 = .ok (.aload_n 0, 1) := by decide +kernel
theorem dX12_claim_1 : decode cX12_claim 1 = .ok (.iload_n 1, 1) := by decide +kernel
theorem dX12_claim_2 : decode cX12_claim 2 = .ok (.invokevirtual 155, 3) := by decide +kernel
theorem dX12_claim_5 : decode cX12_claim 5 = .ok (.ifCond .eq 12, 3) := by decide +kernel
theorem dX12_claim_8 : decode cX12_claim 8 = .ok (.aload_n 0, 1) := by decide +kernel
theorem dX12_claim_9 : decode cX12_claim 9 = .ok (.getfield 315, 3) := by decide +kernel
theorem dX12_claim_12 : decode cX12_claim 12 = .ok (.bipush 30, 2) := by decide +kernel
theorem dX12_claim_14 : decode cX12_claim 14 = .ok (.if_icmp .ne 5, 3) := by decide +kernel
theorem dX12_claim_17 : decode cX12_claim 17 = .ok (.iconst (-1), 1) := by decide +kernel
theorem dX12_claim_18 : decode cX12_claim 18 = .ok (.ireturn, 1) := by decide +kernel
theorem dX12_claim_19 : decode cX12_claim 19 = .ok (.iconst 0, 1) := by decide +kernel
theorem dX12_claim_20 : decode cX12_claim 20 = .ok (.istore_n 2, 1) := by decide +kernel
theorem dX12_claim_21 : decode cX12_claim 21 = .ok (.iload_n 2, 1) := by decide +kernel
theorem dX12_claim_22 : decode cX12_claim 22 = .ok (.aload_n 0, 1) := by decide +kernel
theorem dX12_claim_23 : decode cX12_claim 23 = .ok (.getfield 315, 3) := by decide +kernel
theorem dX12_claim_26 : decode cX12_claim 26 = .ok (.if_icmp .ge 21, 3) := by decide +kernel
theorem dX12_claim_29 : decode cX12_claim 29 = .ok (.aload_n 0, 1) := by decide +kernel
theorem dX12_claim_30 : decode cX12_claim 30 = .ok (.getfield 100, 3) := by decide +kernel
theorem dX12_claim_33 : decode cX12_claim 33 = .ok (.iload_n 2, 1) := by decide +kernel
theorem dX12_claim_34 : decode cX12_claim 34 = .ok (.iaload, 1) := by decide +kernel
theorem dX12_claim_35 : decode cX12_claim 35 = .ok (.iload_n 1, 1) := by decide +kernel
theorem dX12_claim_36 : decode cX12_claim 36 = .ok (.if_icmp .ne 5, 3) := by decide +kernel
theorem dX12_claim_39 : decode cX12_claim 39 = .ok (.iconst (-1), 1) := by decide +kernel
theorem dX12_claim_40 : decode cX12_claim 40 = .ok (.ireturn, 1) := by decide +kernel
theorem dX12_claim_41 : decode cX12_claim 41 = .ok (.iinc 2 1, 3) := by decide +kernel
theorem dX12_claim_44 : decode cX12_claim 44 = .ok (.goto (-23), 3) := by decide +kernel
theorem dX12_claim_47 : decode cX12_claim 47 = .ok (.aload_n 0, 1) := by decide +kernel
theorem dX12_claim_48 : decode cX12_claim 48 = .ok (.getfield 100, 3) := by decide +kernel
theorem dX12_claim_51 : decode cX12_claim 51 = .ok (.aload_n 0, 1) := by decide +kernel
theorem dX12_claim_52 : decode cX12_claim 52 = .ok (.getfield 315, 3) := by decide +kernel
theorem dX12_claim_55 : decode cX12_claim 55 = .ok (.iload_n 1, 1) := by decide +kernel
theorem dX12_claim_56 : decode cX12_claim 56 = .ok (.iastore, 1) := by decide +kernel
theorem dX12_claim_57 : decode cX12_claim 57 = .ok (.aload_n 0, 1) := by decide +kernel
theorem dX12_claim_58 : decode cX12_claim 58 = .ok (.dup, 1) := by decide +kernel
theorem dX12_claim_59 : decode cX12_claim 59 = .ok (.getfield 315, 3) := by decide +kernel
theorem dX12_claim_62 : decode cX12_claim 62 = .ok (.iconst 1, 1) := by decide +kernel
theorem dX12_claim_63 : decode cX12_claim 63 = .ok (.iadd, 1) := by decide +kernel
theorem dX12_claim_64 : decode cX12_claim 64 = .ok (.putfield 315, 3) := by decide +kernel
theorem dX12_claim_67 : decode cX12_claim 67 = .ok (.aload_n 0, 1) := by decide +kernel
theorem dX12_claim_68 : decode cX12_claim 68 = .ok (.getfield 315, 3) := by decide +kernel
theorem dX12_claim_71 : decode cX12_claim 71 = .ok (.iconst 1, 1) := by decide +kernel
theorem dX12_claim_72 : decode cX12_claim 72 = .ok (.isub, 1) := by decide +kernel
theorem dX12_claim_73 : decode cX12_claim 73 = .ok (.ireturn, 1) := by decide +kernel
theorem dX12_look_0 : decode cX12_look 0 = .ok (.iload_n 1, 1) := by decide +kernel
theorem dX12_look_1 : decode cX12_look 1 = .ok (.ifCond .lt 25, 3) := by decide +kernel
theorem dX12_look_4 : decode cX12_look 4 = .ok (.iload_n 1, 1) := by decide +kernel
theorem dX12_look_5 : decode cX12_look 5 = .ok (.aload_n 0, 1) := by decide +kernel
theorem dX12_look_6 : decode cX12_look 6 = .ok (.getfield 315, 3) := by decide +kernel
theorem dX12_look_9 : decode cX12_look 9 = .ok (.if_icmp .ge 17, 3) := by decide +kernel
theorem dX12_look_12 : decode cX12_look 12 = .ok (.aload_n 0, 1) := by decide +kernel
theorem dX12_look_13 : decode cX12_look 13 = .ok (.aload_n 0, 1) := by decide +kernel
theorem dX12_look_14 : decode cX12_look 14 = .ok (.getfield 100, 3) := by decide +kernel
theorem dX12_look_17 : decode cX12_look 17 = .ok (.iload_n 1, 1) := by decide +kernel
theorem dX12_look_18 : decode cX12_look 18 = .ok (.iaload, 1) := by decide +kernel
theorem dX12_look_19 : decode cX12_look 19 = .ok (.iload_n 2, 1) := by decide +kernel
theorem dX12_look_20 : decode cX12_look 20 = .ok (.invokevirtual 318, 3) := by decide +kernel
theorem dX12_look_23 : decode cX12_look 23 = .ok (.ifCond .eq 5, 3) := by decide +kernel
theorem dX12_look_26 : decode cX12_look 26 = .ok (.iconst 0, 1) := by decide +kernel
theorem dX12_look_27 : decode cX12_look 27 = .ok (.ireturn, 1) := by decide +kernel
theorem dX12_look_28 : decode cX12_look 28 = .ok (.aload_n 0, 1) := by decide +kernel
theorem dX12_look_29 : decode cX12_look 29 = .ok (.getfield 100, 3) := by decide +kernel
theorem dX12_look_32 : decode cX12_look 32 = .ok (.iload_n 1, 1) := by decide +kernel
theorem dX12_look_33 : decode cX12_look 33 = .ok (.iaload, 1) := by decide +kernel
theorem dX12_look_34 : decode cX12_look 34 = .ok (.istore_n 3, 1) := by decide +kernel
theorem dX12_look_35 : decode cX12_look 35 = .ok (.aload_n 0, 1) := by decide +kernel
theorem dX12_look_36 : decode cX12_look 36 = .ok (.getfield 28, 3) := by decide +kernel
theorem dX12_look_39 : decode cX12_look 39 = .ok (.iload_n 3, 1) := by decide +kernel
theorem dX12_look_40 : decode cX12_look 40 = .ok (.iaload, 1) := by decide +kernel
theorem dX12_look_41 : decode cX12_look 41 = .ok (.istore 4, 2) := by decide +kernel
theorem dX12_look_43 : decode cX12_look 43 = .ok (.aload_n 0, 1) := by decide +kernel
theorem dX12_look_44 : decode cX12_look 44 = .ok (.iload 4, 2) := by decide +kernel
theorem dX12_look_46 : decode cX12_look 46 = .ok (.iload_n 2, 1) := by decide +kernel
theorem dX12_look_47 : decode cX12_look 47 = .ok (.iload_n 2, 1) := by decide +kernel
theorem dX12_look_48 : decode cX12_look 48 = .ok (.invokevirtual 165, 3) := by decide +kernel
theorem dX12_look_51 : decode cX12_look 51 = .ok (.istore 5, 2) := by decide +kernel
theorem dX12_look_53 : decode cX12_look 53 = .ok (.iconst 0, 1) := by decide +kernel
theorem dX12_look_54 : decode cX12_look 54 = .ok (.istore 6, 2) := by decide +kernel
theorem dX12_look_56 : decode cX12_look 56 = .ok (.iconst 0, 1) := by decide +kernel
theorem dX12_look_57 : decode cX12_look 57 = .ok (.istore 7, 2) := by decide +kernel
theorem dX12_look_59 : decode cX12_look 59 = .ok (.iconst 0, 1) := by decide +kernel
theorem dX12_look_60 : decode cX12_look 60 = .ok (.istore 8, 2) := by decide +kernel
theorem dX12_look_62 : decode cX12_look 62 = .ok (.iconst 0, 1) := by decide +kernel
theorem dX12_look_63 : decode cX12_look 63 = .ok (.istore 9, 2) := by decide +kernel
theorem dX12_look_65 : decode cX12_look 65 = .ok (.iload 9, 2) := by decide +kernel
theorem dX12_look_67 : decode cX12_look 67 = .ok (.aload_n 0, 1) := by decide +kernel
theorem dX12_look_68 : decode cX12_look 68 = .ok (.getfield 158, 3) := by decide +kernel
theorem dX12_look_71 : decode cX12_look 71 = .ok (.if_icmp .ge 102, 3) := by decide +kernel
theorem dX12_look_74 : decode cX12_look 74 = .ok (.aload_n 0, 1) := by decide +kernel
theorem dX12_look_75 : decode cX12_look 75 = .ok (.getfield 52, 3) := by decide +kernel
theorem dX12_look_78 : decode cX12_look 78 = .ok (.iload 9, 2) := by decide +kernel
theorem dX12_look_80 : decode cX12_look 80 = .ok (.iaload, 1) := by decide +kernel
theorem dX12_look_81 : decode cX12_look 81 = .ok (.istore 10, 2) := by decide +kernel
theorem dX12_look_83 : decode cX12_look 83 = .ok (.iload 10, 2) := by decide +kernel
theorem dX12_look_85 : decode cX12_look 85 = .ok (.iload_n 3, 1) := by decide +kernel
theorem dX12_look_86 : decode cX12_look 86 = .ok (.if_icmp .ne 9, 3) := by decide +kernel
theorem dX12_look_89 : decode cX12_look 89 = .ok (.iconst 1, 1) := by decide +kernel
theorem dX12_look_90 : decode cX12_look 90 = .ok (.istore 8, 2) := by decide +kernel
theorem dX12_look_92 : decode cX12_look 92 = .ok (.goto 75, 3) := by decide +kernel
theorem dX12_look_95 : decode cX12_look 95 = .ok (.iload 8, 2) := by decide +kernel
theorem dX12_look_97 : decode cX12_look 97 = .ok (.ifCond .ne 41, 3) := by decide +kernel
theorem dX12_look_100 : decode cX12_look 100 = .ok (.aload_n 0, 1) := by decide +kernel
theorem dX12_look_101 : decode cX12_look 101 = .ok (.getfield 55, 3) := by decide +kernel
theorem dX12_look_104 : decode cX12_look 104 = .ok (.iload 10, 2) := by decide +kernel
theorem dX12_look_106 : decode cX12_look 106 = .ok (.baload, 1) := by decide +kernel
theorem dX12_look_107 : decode cX12_look 107 = .ok (.ifCond .ne 31, 3) := by decide +kernel
theorem dX12_look_110 : decode cX12_look 110 = .ok (.aload_n 0, 1) := by decide +kernel
theorem dX12_look_111 : decode cX12_look 111 = .ok (.getfield 34, 3) := by decide +kernel
theorem dX12_look_114 : decode cX12_look 114 = .ok (.iload 10, 2) := by decide +kernel
theorem dX12_look_116 : decode cX12_look 116 = .ok (.iaload, 1) := by decide +kernel
theorem dX12_look_117 : decode cX12_look 117 = .ok (.aload_n 0, 1) := by decide +kernel
theorem dX12_look_118 : decode cX12_look 118 = .ok (.getfield 31, 3) := by decide +kernel
theorem dX12_look_121 : decode cX12_look 121 = .ok (.iload_n 3, 1) := by decide +kernel
theorem dX12_look_122 : decode cX12_look 122 = .ok (.iaload, 1) := by decide +kernel
theorem dX12_look_123 : decode cX12_look 123 = .ok (.if_icmp .ne 15, 3) := by decide +kernel
theorem dX12_look_126 : decode cX12_look 126 = .ok (.aload_n 0, 1) := by decide +kernel
theorem dX12_look_127 : decode cX12_look 127 = .ok (.getfield 37, 3) := by decide +kernel
theorem dX12_look_130 : decode cX12_look 130 = .ok (.iload 10, 2) := by decide +kernel
theorem dX12_look_132 : decode cX12_look 132 = .ok (.iaload, 1) := by decide +kernel
theorem dX12_look_133 : decode cX12_look 133 = .ok (.istore 6, 2) := by decide +kernel
theorem dX12_look_135 : decode cX12_look 135 = .ok (.goto 32, 3) := by decide +kernel
theorem dX12_look_138 : decode cX12_look 138 = .ok (.iload 8, 2) := by decide +kernel
theorem dX12_look_140 : decode cX12_look 140 = .ok (.ifCond .eq 27, 3) := by decide +kernel
theorem dX12_look_143 : decode cX12_look 143 = .ok (.aload_n 0, 1) := by decide +kernel
theorem dX12_look_144 : decode cX12_look 144 = .ok (.getfield 55, 3) := by decide +kernel
theorem dX12_look_147 : decode cX12_look 147 = .ok (.iload 10, 2) := by decide +kernel
theorem dX12_look_149 : decode cX12_look 149 = .ok (.baload, 1) := by decide +kernel
theorem dX12_look_150 : decode cX12_look 150 = .ok (.ifCond .ne 17, 3) := by decide +kernel
theorem dX12_look_153 : decode cX12_look 153 = .ok (.aload_n 0, 1) := by decide +kernel
theorem dX12_look_154 : decode cX12_look 154 = .ok (.getfield 37, 3) := by decide +kernel
theorem dX12_look_157 : decode cX12_look 157 = .ok (.iload 10, 2) := by decide +kernel
theorem dX12_look_159 : decode cX12_look 159 = .ok (.iaload, 1) := by decide +kernel
theorem dX12_look_160 : decode cX12_look 160 = .ok (.iload_n 2, 1) := by decide +kernel
theorem dX12_look_161 : decode cX12_look 161 = .ok (.if_icmp .gt 6, 3) := by decide +kernel
theorem dX12_look_164 : decode cX12_look 164 = .ok (.iinc 7 1, 3) := by decide +kernel
theorem dX12_look_167 : decode cX12_look 167 = .ok (.iinc 9 1, 3) := by decide +kernel
theorem dX12_look_170 : decode cX12_look 170 = .ok (.goto (-105), 3) := by decide +kernel
theorem dX12_look_173 : decode cX12_look 173 = .ok (.aload_n 0, 1) := by decide +kernel
theorem dX12_look_174 : decode cX12_look 174 = .ok (.getfield 97, 3) := by decide +kernel
theorem dX12_look_177 : decode cX12_look 177 = .ok (.iconst 0, 1) := by decide +kernel
theorem dX12_look_178 : decode cX12_look 178 = .ok (.aload_n 0, 1) := by decide +kernel
theorem dX12_look_179 : decode cX12_look 179 = .ok (.getfield 40, 3) := by decide +kernel
theorem dX12_look_182 : decode cX12_look 182 = .ok (.iload_n 3, 1) := by decide +kernel
theorem dX12_look_183 : decode cX12_look 183 = .ok (.iaload, 1) := by decide +kernel
theorem dX12_look_184 : decode cX12_look 184 = .ok (.iconst 1, 1) := by decide +kernel
theorem dX12_look_185 : decode cX12_look 185 = .ok (.if_icmp .ne 7, 3) := by decide +kernel
theorem dX12_look_188 : decode cX12_look 188 = .ok (.iconst 1, 1) := by decide +kernel
theorem dX12_look_189 : decode cX12_look 189 = .ok (.goto 4, 3) := by decide +kernel
theorem dX12_look_192 : decode cX12_look 192 = .ok (.iconst 0, 1) := by decide +kernel
theorem dX12_look_193 : decode cX12_look 193 = .ok (.iastore, 1) := by decide +kernel
theorem dX12_look_194 : decode cX12_look 194 = .ok (.aload_n 0, 1) := by decide +kernel
theorem dX12_look_195 : decode cX12_look 195 = .ok (.getfield 97, 3) := by decide +kernel
theorem dX12_look_198 : decode cX12_look 198 = .ok (.iconst 1, 1) := by decide +kernel
theorem dX12_look_199 : decode cX12_look 199 = .ok (.aload_n 0, 1) := by decide +kernel
theorem dX12_look_200 : decode cX12_look 200 = .ok (.getfield 40, 3) := by decide +kernel
theorem dX12_look_203 : decode cX12_look 203 = .ok (.iload_n 3, 1) := by decide +kernel
theorem dX12_look_204 : decode cX12_look 204 = .ok (.iaload, 1) := by decide +kernel
theorem dX12_look_205 : decode cX12_look 205 = .ok (.iconst 2, 1) := by decide +kernel
theorem dX12_look_206 : decode cX12_look 206 = .ok (.if_icmp .ne 7, 3) := by decide +kernel
theorem dX12_look_209 : decode cX12_look 209 = .ok (.iconst 1, 1) := by decide +kernel
theorem dX12_look_210 : decode cX12_look 210 = .ok (.goto 4, 3) := by decide +kernel
theorem dX12_look_213 : decode cX12_look 213 = .ok (.iconst 0, 1) := by decide +kernel
theorem dX12_look_214 : decode cX12_look 214 = .ok (.iastore, 1) := by decide +kernel
theorem dX12_look_215 : decode cX12_look 215 = .ok (.aload_n 0, 1) := by decide +kernel
theorem dX12_look_216 : decode cX12_look 216 = .ok (.aload_n 0, 1) := by decide +kernel
theorem dX12_look_217 : decode cX12_look 217 = .ok (.getfield 43, 3) := by decide +kernel
theorem dX12_look_220 : decode cX12_look 220 = .ok (.iload_n 3, 1) := by decide +kernel
theorem dX12_look_221 : decode cX12_look 221 = .ok (.iaload, 1) := by decide +kernel
theorem dX12_look_222 : decode cX12_look 222 = .ok (.aload_n 0, 1) := by decide +kernel
theorem dX12_look_223 : decode cX12_look 223 = .ok (.getfield 37, 3) := by decide +kernel
theorem dX12_look_226 : decode cX12_look 226 = .ok (.iload_n 3, 1) := by decide +kernel
theorem dX12_look_227 : decode cX12_look 227 = .ok (.iaload, 1) := by decide +kernel
theorem dX12_look_228 : decode cX12_look 228 = .ok (.sipush 365, 3) := by decide +kernel
theorem dX12_look_231 : decode cX12_look 231 = .ok (.idiv, 1) := by decide +kernel
theorem dX12_look_232 : decode cX12_look 232 = .ok (.bipush 99, 2) := by decide +kernel
theorem dX12_look_234 : decode cX12_look 234 = .ok (.invokevirtual 140, 3) := by decide +kernel
theorem dX12_look_237 : decode cX12_look 237 = .ok (.lstore 9, 2) := by decide +kernel
theorem dX12_look_239 : decode cX12_look 239 = .ok (.aload_n 0, 1) := by decide +kernel
theorem dX12_look_240 : decode cX12_look 240 = .ok (.getfield 97, 3) := by decide +kernel
theorem dX12_look_243 : decode cX12_look 243 = .ok (.iconst 2, 1) := by decide +kernel
theorem dX12_look_244 : decode cX12_look 244 = .ok (.lload 9, 2) := by decide +kernel
theorem dX12_look_246 : decode cX12_look 246 = .ok (.ldc2_w 322, 3) := by decide +kernel
theorem dX12_look_249 : decode cX12_look 249 = .ok (.lcmp, 1) := by decide +kernel
theorem dX12_look_250 : decode cX12_look 250 = .ok (.ifCond .le 9, 3) := by decide +kernel
theorem dX12_look_253 : decode cX12_look 253 = .ok (.ldc_w 324, 3) := by decide +kernel
theorem dX12_look_256 : decode cX12_look 256 = .ok (.goto 6, 3) := by decide +kernel
theorem dX12_look_259 : decode cX12_look 259 = .ok (.lload 9, 2) := by decide +kernel
theorem dX12_look_261 : decode cX12_look 261 = .ok (.l2i, 1) := by decide +kernel
theorem dX12_look_262 : decode cX12_look 262 = .ok (.iastore, 1) := by decide +kernel
theorem dX12_look_263 : decode cX12_look 263 = .ok (.aload_n 0, 1) := by decide +kernel
theorem dX12_look_264 : decode cX12_look 264 = .ok (.getfield 97, 3) := by decide +kernel
theorem dX12_look_267 : decode cX12_look 267 = .ok (.iconst 3, 1) := by decide +kernel
theorem dX12_look_268 : decode cX12_look 268 = .ok (.aload_n 0, 1) := by decide +kernel
theorem dX12_look_269 : decode cX12_look 269 = .ok (.getfield 22, 3) := by decide +kernel
theorem dX12_look_272 : decode cX12_look 272 = .ok (.iload 4, 2) := by decide +kernel
theorem dX12_look_274 : decode cX12_look 274 = .ok (.iaload, 1) := by decide +kernel
theorem dX12_look_275 : decode cX12_look 275 = .ok (.iastore, 1) := by decide +kernel
theorem dX12_look_276 : decode cX12_look 276 = .ok (.aload_n 0, 1) := by decide +kernel
theorem dX12_look_277 : decode cX12_look 277 = .ok (.getfield 97, 3) := by decide +kernel
theorem dX12_look_280 : decode cX12_look 280 = .ok (.iconst 4, 1) := by decide +kernel
theorem dX12_look_281 : decode cX12_look 281 = .ok (.aload_n 0, 1) := by decide +kernel
theorem dX12_look_282 : decode cX12_look 282 = .ok (.getfield 37, 3) := by decide +kernel
theorem dX12_look_285 : decode cX12_look 285 = .ok (.iload_n 3, 1) := by decide +kernel
theorem dX12_look_286 : decode cX12_look 286 = .ok (.iaload, 1) := by decide +kernel
theorem dX12_look_287 : decode cX12_look 287 = .ok (.sipush 365, 3) := by decide +kernel
theorem dX12_look_290 : decode cX12_look 290 = .ok (.idiv, 1) := by decide +kernel
theorem dX12_look_291 : decode cX12_look 291 = .ok (.iastore, 1) := by decide +kernel
theorem dX12_look_292 : decode cX12_look 292 = .ok (.aload_n 0, 1) := by decide +kernel
theorem dX12_look_293 : decode cX12_look 293 = .ok (.getfield 97, 3) := by decide +kernel
theorem dX12_look_296 : decode cX12_look 296 = .ok (.iconst 5, 1) := by decide +kernel
theorem dX12_look_297 : decode cX12_look 297 = .ok (.aload_n 0, 1) := by decide +kernel
theorem dX12_look_298 : decode cX12_look 298 = .ok (.getfield 37, 3) := by decide +kernel
theorem dX12_look_301 : decode cX12_look 301 = .ok (.iload_n 3, 1) := by decide +kernel
theorem dX12_look_302 : decode cX12_look 302 = .ok (.iaload, 1) := by decide +kernel
theorem dX12_look_303 : decode cX12_look 303 = .ok (.iload 6, 2) := by decide +kernel
theorem dX12_look_305 : decode cX12_look 305 = .ok (.isub, 1) := by decide +kernel
theorem dX12_look_306 : decode cX12_look 306 = .ok (.sipush 365, 3) := by decide +kernel
theorem dX12_look_309 : decode cX12_look 309 = .ok (.idiv, 1) := by decide +kernel
theorem dX12_look_310 : decode cX12_look 310 = .ok (.iastore, 1) := by decide +kernel
theorem dX12_look_311 : decode cX12_look 311 = .ok (.aload_n 0, 1) := by decide +kernel
theorem dX12_look_312 : decode cX12_look 312 = .ok (.getfield 97, 3) := by decide +kernel
theorem dX12_look_315 : decode cX12_look 315 = .ok (.bipush 6, 2) := by decide +kernel
theorem dX12_look_317 : decode cX12_look 317 = .ok (.iload 7, 2) := by decide +kernel
theorem dX12_look_319 : decode cX12_look 319 = .ok (.iastore, 1) := by decide +kernel
theorem dX12_look_320 : decode cX12_look 320 = .ok (.aload_n 0, 1) := by decide +kernel
theorem dX12_look_321 : decode cX12_look 321 = .ok (.getfield 97, 3) := by decide +kernel
theorem dX12_look_324 : decode cX12_look 324 = .ok (.bipush 7, 2) := by decide +kernel
theorem dX12_look_326 : decode cX12_look 326 = .ok (.iload 5, 2) := by decide +kernel
theorem dX12_look_328 : decode cX12_look 328 = .ok (.aload_n 0, 1) := by decide +kernel
theorem dX12_look_329 : decode cX12_look 329 = .ok (.getfield 34, 3) := by decide +kernel
theorem dX12_look_332 : decode cX12_look 332 = .ok (.iload_n 3, 1) := by decide +kernel
theorem dX12_look_333 : decode cX12_look 333 = .ok (.iaload, 1) := by decide +kernel
theorem dX12_look_334 : decode cX12_look 334 = .ok (.if_icmp .ne 7, 3) := by decide +kernel
theorem dX12_look_337 : decode cX12_look 337 = .ok (.iconst 1, 1) := by decide +kernel
theorem dX12_look_338 : decode cX12_look 338 = .ok (.goto 4, 3) := by decide +kernel
theorem dX12_look_341 : decode cX12_look 341 = .ok (.iconst 0, 1) := by decide +kernel
theorem dX12_look_342 : decode cX12_look 342 = .ok (.iastore, 1) := by decide +kernel
theorem dX12_look_343 : decode cX12_look 343 = .ok (.aload_n 0, 1) := by decide +kernel
theorem dX12_look_344 : decode cX12_look 344 = .ok (.getfield 97, 3) := by decide +kernel
theorem dX12_look_347 : decode cX12_look 347 = .ok (.bipush 8, 2) := by decide +kernel
theorem dX12_look_349 : decode cX12_look 349 = .ok (.aload_n 0, 1) := by decide +kernel
theorem dX12_look_350 : decode cX12_look 350 = .ok (.aload_n 0, 1) := by decide +kernel
theorem dX12_look_351 : decode cX12_look 351 = .ok (.getfield 31, 3) := by decide +kernel
theorem dX12_look_354 : decode cX12_look 354 = .ok (.iload_n 3, 1) := by decide +kernel
theorem dX12_look_355 : decode cX12_look 355 = .ok (.iaload, 1) := by decide +kernel
theorem dX12_look_356 : decode cX12_look 356 = .ok (.iload_n 2, 1) := by decide +kernel
theorem dX12_look_357 : decode cX12_look 357 = .ok (.invokevirtual 325, 3) := by decide +kernel
theorem dX12_look_360 : decode cX12_look 360 = .ok (.ifCond .eq 7, 3) := by decide +kernel
theorem dX12_look_363 : decode cX12_look 363 = .ok (.iconst 1, 1) := by decide +kernel
theorem dX12_look_364 : decode cX12_look 364 = .ok (.goto 4, 3) := by decide +kernel
theorem dX12_look_367 : decode cX12_look 367 = .ok (.iconst 0, 1) := by decide +kernel
theorem dX12_look_368 : decode cX12_look 368 = .ok (.iastore, 1) := by decide +kernel
theorem dX12_look_369 : decode cX12_look 369 = .ok (.iconst 1, 1) := by decide +kernel
theorem dX12_look_370 : decode cX12_look 370 = .ok (.ireturn, 1) := by decide +kernel
theorem dX12_lineFor_0 : decode cX12_lineFor 0 = .ok (.bipush 16, 2) := by decide +kernel
theorem dX12_lineFor_2 : decode cX12_lineFor 2 = .ok (.aload_n 0, 1) := by decide +kernel
theorem dX12_lineFor_3 : decode cX12_lineFor 3 = .ok (.getfield 236, 3) := by decide +kernel
theorem dX12_lineFor_6 : decode cX12_lineFor 6 = .ok (.imul, 1) := by decide +kernel
theorem dX12_lineFor_7 : decode cX12_lineFor 7 = .ok (.istore_n 1, 1) := by decide +kernel
theorem dX12_lineFor_8 : decode cX12_lineFor 8 = .ok (.iload_n 1, 1) := by decide +kernel
theorem dX12_lineFor_9 : decode cX12_lineFor 9 = .ok (.bipush 16, 2) := by decide +kernel
theorem dX12_lineFor_11 : decode cX12_lineFor 11 = .ok (.aload_n 0, 1) := by decide +kernel
theorem dX12_lineFor_12 : decode cX12_lineFor 12 = .ok (.getfield 236, 3) := by decide +kernel
theorem dX12_lineFor_15 : decode cX12_lineFor 15 = .ok (.imul, 1) := by decide +kernel
theorem dX12_lineFor_16 : decode cX12_lineFor 16 = .ok (.aload_n 0, 1) := by decide +kernel
theorem dX12_lineFor_17 : decode cX12_lineFor 17 = .ok (.getfield 70, 3) := by decide +kernel
theorem dX12_lineFor_20 : decode cX12_lineFor 20 = .ok (.aload_n 0, 1) := by decide +kernel
theorem dX12_lineFor_21 : decode cX12_lineFor 21 = .ok (.getfield 236, 3) := by decide +kernel
theorem dX12_lineFor_24 : decode cX12_lineFor 24 = .ok (.iaload, 1) := by decide +kernel
theorem dX12_lineFor_25 : decode cX12_lineFor 25 = .ok (.iadd, 1) := by decide +kernel
theorem dX12_lineFor_26 : decode cX12_lineFor 26 = .ok (.if_icmp .ge 19, 3) := by decide +kernel
theorem dX12_lineFor_29 : decode cX12_lineFor 29 = .ok (.aload_n 0, 1) := by decide +kernel
theorem dX12_lineFor_30 : decode cX12_lineFor 30 = .ok (.iload_n 1, 1) := by decide +kernel
theorem dX12_lineFor_31 : decode cX12_lineFor 31 = .ok (.invokevirtual 328, 3) := by decide +kernel
theorem dX12_lineFor_34 : decode cX12_lineFor 34 = .ok (.ifCond .eq 5, 3) := by decide +kernel
theorem dX12_lineFor_37 : decode cX12_lineFor 37 = .ok (.iload_n 1, 1) := by decide +kernel
theorem dX12_lineFor_38 : decode cX12_lineFor 38 = .ok (.ireturn, 1) := by decide +kernel
theorem dX12_lineFor_39 : decode cX12_lineFor 39 = .ok (.iinc 1 1, 3) := by decide +kernel
theorem dX12_lineFor_42 : decode cX12_lineFor 42 = .ok (.goto (-34), 3) := by decide +kernel
theorem dX12_lineFor_45 : decode cX12_lineFor 45 = .ok (.iconst (-1), 1) := by decide +kernel
theorem dX12_lineFor_46 : decode cX12_lineFor 46 = .ok (.ireturn, 1) := by decide +kernel
theorem dX12_ruling_0 : decode cX12_ruling 0 = .ok (.aload_n 0, 1) := by decide +kernel
theorem dX12_ruling_1 : decode cX12_ruling 1 = .ok (.iload_n 1, 1) := by decide +kernel
theorem dX12_ruling_2 : decode cX12_ruling 2 = .ok (.iload_n 2, 1) := by decide +kernel
theorem dX12_ruling_3 : decode cX12_ruling 3 = .ok (.invokevirtual 331, 3) := by decide +kernel
theorem dX12_ruling_6 : decode cX12_ruling 6 = .ok (.ifCond .ne 5, 3) := by decide +kernel
theorem dX12_ruling_9 : decode cX12_ruling 9 = .ok (.iconst (-1), 1) := by decide +kernel
theorem dX12_ruling_10 : decode cX12_ruling 10 = .ok (.ireturn, 1) := by decide +kernel
theorem dX12_ruling_11 : decode cX12_ruling 11 = .ok (.aload_n 0, 1) := by decide +kernel
theorem dX12_ruling_12 : decode cX12_ruling 12 = .ok (.invokevirtual 334, 3) := by decide +kernel
theorem dX12_ruling_15 : decode cX12_ruling 15 = .ok (.istore_n 3, 1) := by decide +kernel
theorem dX12_ruling_16 : decode cX12_ruling 16 = .ok (.iload_n 3, 1) := by decide +kernel
theorem dX12_ruling_17 : decode cX12_ruling 17 = .ok (.ifCond .ge 7, 3) := by decide +kernel
theorem dX12_ruling_20 : decode cX12_ruling 20 = .ok (.iconst 4, 1) := by decide +kernel
theorem dX12_ruling_21 : decode cX12_ruling 21 = .ok (.goto 9, 3) := by decide +kernel
theorem dX12_ruling_24 : decode cX12_ruling 24 = .ok (.aload_n 0, 1) := by decide +kernel
theorem dX12_ruling_25 : decode cX12_ruling 25 = .ok (.getfield 73, 3) := by decide +kernel
theorem dX12_ruling_28 : decode cX12_ruling 28 = .ok (.iload_n 3, 1) := by decide +kernel
theorem dX12_ruling_29 : decode cX12_ruling 29 = .ok (.iaload, 1) := by decide +kernel
theorem dX12_ruling_30 : decode cX12_ruling 30 = .ok (.ireturn, 1) := by decide +kernel
theorem dX12_sum_0 : decode cX12_sum 0 = .ok (.aload_n 0, 1) := by decide +kernel
theorem dX12_sum_1 : decode cX12_sum 1 = .ok (.iload_n 1, 1) := by decide +kernel
theorem dX12_sum_2 : decode cX12_sum 2 = .ok (.iload_n 2, 1) := by decide +kernel
theorem dX12_sum_3 : decode cX12_sum 3 = .ok (.invokevirtual 331, 3) := by decide +kernel
theorem dX12_sum_6 : decode cX12_sum 6 = .ok (.ifCond .ne 5, 3) := by decide +kernel
theorem dX12_sum_9 : decode cX12_sum 9 = .ok (.iconst (-1), 1) := by decide +kernel
theorem dX12_sum_10 : decode cX12_sum 10 = .ok (.ireturn, 1) := by decide +kernel
theorem dX12_sum_11 : decode cX12_sum 11 = .ok (.aload_n 0, 1) := by decide +kernel
theorem dX12_sum_12 : decode cX12_sum 12 = .ok (.invokevirtual 334, 3) := by decide +kernel
theorem dX12_sum_15 : decode cX12_sum 15 = .ok (.istore_n 3, 1) := by decide +kernel
theorem dX12_sum_16 : decode cX12_sum 16 = .ok (.iload_n 3, 1) := by decide +kernel
theorem dX12_sum_17 : decode cX12_sum 17 = .ok (.ifCond .ge 7, 3) := by decide +kernel
theorem dX12_sum_20 : decode cX12_sum 20 = .ok (.iconst 0, 1) := by decide +kernel
theorem dX12_sum_21 : decode cX12_sum 21 = .ok (.goto 23, 3) := by decide +kernel
theorem dX12_sum_24 : decode cX12_sum 24 = .ok (.aload_n 0, 1) := by decide +kernel
theorem dX12_sum_25 : decode cX12_sum 25 = .ok (.getfield 97, 3) := by decide +kernel
theorem dX12_sum_28 : decode cX12_sum 28 = .ok (.iconst 3, 1) := by decide +kernel
theorem dX12_sum_29 : decode cX12_sum 29 = .ok (.iaload, 1) := by decide +kernel
theorem dX12_sum_30 : decode cX12_sum 30 = .ok (.i2l, 1) := by decide +kernel
theorem dX12_sum_31 : decode cX12_sum 31 = .ok (.aload_n 0, 1) := by decide +kernel
theorem dX12_sum_32 : decode cX12_sum 32 = .ok (.getfield 76, 3) := by decide +kernel
theorem dX12_sum_35 : decode cX12_sum 35 = .ok (.iload_n 3, 1) := by decide +kernel
theorem dX12_sum_36 : decode cX12_sum 36 = .ok (.iaload, 1) := by decide +kernel
theorem dX12_sum_37 : decode cX12_sum 37 = .ok (.i2l, 1) := by decide +kernel
theorem dX12_sum_38 : decode cX12_sum 38 = .ok (.lmul, 1) := by decide +kernel
theorem dX12_sum_39 : decode cX12_sum 39 = .ok (.ldc2_w 337, 3) := by decide +kernel
theorem dX12_sum_42 : decode cX12_sum 42 = .ok (.ldiv, 1) := by decide +kernel
theorem dX12_sum_43 : decode cX12_sum 43 = .ok (.l2i, 1) := by decide +kernel
theorem dX12_sum_44 : decode cX12_sum 44 = .ok (.ireturn, 1) := by decide +kernel
theorem dX12_term_0 : decode cX12_term 0 = .ok (.iload_n 2, 1) := by decide +kernel
theorem dX12_term_1 : decode cX12_term 1 = .ok (.ifCond .lt 18, 3) := by decide +kernel
theorem dX12_term_4 : decode cX12_term 4 = .ok (.iload_n 2, 1) := by decide +kernel
theorem dX12_term_5 : decode cX12_term 5 = .ok (.bipush 8, 2) := by decide +kernel
theorem dX12_term_7 : decode cX12_term 7 = .ok (.if_icmp .gt 12, 3) := by decide +kernel
theorem dX12_term_10 : decode cX12_term 10 = .ok (.aload_n 0, 1) := by decide +kernel
theorem dX12_term_11 : decode cX12_term 11 = .ok (.iload_n 1, 1) := by decide +kernel
theorem dX12_term_12 : decode cX12_term 12 = .ok (.iload_n 3, 1) := by decide +kernel
theorem dX12_term_13 : decode cX12_term 13 = .ok (.invokevirtual 331, 3) := by decide +kernel
theorem dX12_term_16 : decode cX12_term 16 = .ok (.ifCond .ne 7, 3) := by decide +kernel
theorem dX12_term_19 : decode cX12_term 19 = .ok (.iconst (-1), 1) := by decide +kernel
theorem dX12_term_20 : decode cX12_term 20 = .ok (.goto 9, 3) := by decide +kernel
theorem dX12_term_23 : decode cX12_term 23 = .ok (.aload_n 0, 1) := by decide +kernel
theorem dX12_term_24 : decode cX12_term 24 = .ok (.getfield 97, 3) := by decide +kernel
theorem dX12_term_27 : decode cX12_term 27 = .ok (.iload_n 2, 1) := by decide +kernel
theorem dX12_term_28 : decode cX12_term 28 = .ok (.iaload, 1) := by decide +kernel
theorem dX12_term_29 : decode cX12_term 29 = .ok (.ireturn, 1) := by decide +kernel
theorem dX12_divisor_0 : decode cX12_divisor 0 = .ok (.lload_n 0, 1) := by decide +kernel
theorem dX12_divisor_1 : decode cX12_divisor 1 = .ok (.lstore 4, 2) := by decide +kernel
theorem dX12_divisor_3 : decode cX12_divisor 3 = .ok (.lload_n 2, 1) := by decide +kernel
theorem dX12_divisor_4 : decode cX12_divisor 4 = .ok (.lstore 6, 2) := by decide +kernel
theorem dX12_divisor_6 : decode cX12_divisor 6 = .ok (.lload 6, 2) := by decide +kernel
theorem dX12_divisor_8 : decode cX12_divisor 8 = .ok (.lconst 0, 1) := by decide +kernel
theorem dX12_divisor_9 : decode cX12_divisor 9 = .ok (.lcmp, 1) := by decide +kernel
theorem dX12_divisor_10 : decode cX12_divisor 10 = .ok (.ifCond .eq 21, 3) := by decide +kernel
theorem dX12_divisor_13 : decode cX12_divisor 13 = .ok (.lload 4, 2) := by decide +kernel
theorem dX12_divisor_15 : decode cX12_divisor 15 = .ok (.lload 6, 2) := by decide +kernel
theorem dX12_divisor_17 : decode cX12_divisor 17 = .ok (.lrem, 1) := by decide +kernel
theorem dX12_divisor_18 : decode cX12_divisor 18 = .ok (.lstore 8, 2) := by decide +kernel
theorem dX12_divisor_20 : decode cX12_divisor 20 = .ok (.lload 6, 2) := by decide +kernel
theorem dX12_divisor_22 : decode cX12_divisor 22 = .ok (.lstore 4, 2) := by decide +kernel
theorem dX12_divisor_24 : decode cX12_divisor 24 = .ok (.lload 8, 2) := by decide +kernel
theorem dX12_divisor_26 : decode cX12_divisor 26 = .ok (.lstore 6, 2) := by decide +kernel
theorem dX12_divisor_28 : decode cX12_divisor 28 = .ok (.goto (-22), 3) := by decide +kernel
theorem dX12_divisor_31 : decode cX12_divisor 31 = .ok (.lload 4, 2) := by decide +kernel
theorem dX12_divisor_33 : decode cX12_divisor 33 = .ok (.lreturn, 1) := by decide +kernel
theorem dX12_isChild_0 : decode cX12_isChild 0 = .ok (.aload_n 0, 1) := by decide +kernel
theorem dX12_isChild_1 : decode cX12_isChild 1 = .ok (.getfield 7, 3) := by decide +kernel
theorem dX12_isChild_4 : decode cX12_isChild 4 = .ok (.iload_n 1, 1) := by decide +kernel
theorem dX12_isChild_5 : decode cX12_isChild 5 = .ok (.iaload, 1) := by decide +kernel
theorem dX12_isChild_6 : decode cX12_isChild 6 = .ok (.iload_n 2, 1) := by decide +kernel
theorem dX12_isChild_7 : decode cX12_isChild 7 = .ok (.if_icmp .eq 13, 3) := by decide +kernel
theorem dX12_isChild_10 : decode cX12_isChild 10 = .ok (.aload_n 0, 1) := by decide +kernel
theorem dX12_isChild_11 : decode cX12_isChild 11 = .ok (.getfield 13, 3) := by decide +kernel
theorem dX12_isChild_14 : decode cX12_isChild 14 = .ok (.iload_n 1, 1) := by decide +kernel
theorem dX12_isChild_15 : decode cX12_isChild 15 = .ok (.iaload, 1) := by decide +kernel
theorem dX12_isChild_16 : decode cX12_isChild 16 = .ok (.iload_n 2, 1) := by decide +kernel
theorem dX12_isChild_17 : decode cX12_isChild 17 = .ok (.if_icmp .ne 7, 3) := by decide +kernel
theorem dX12_isChild_20 : decode cX12_isChild 20 = .ok (.iconst 1, 1) := by decide +kernel
theorem dX12_isChild_21 : decode cX12_isChild 21 = .ok (.goto 4, 3) := by decide +kernel
theorem dX12_isChild_24 : decode cX12_isChild 24 = .ok (.iconst 0, 1) := by decide +kernel
theorem dX12_isChild_25 : decode cX12_isChild 25 = .ok (.ireturn, 1) := by decide +kernel
theorem dX12_gets_0 : decode cX12_gets 0 = .ok (.aload_n 0, 1) := by decide +kernel
theorem dX12_gets_1 : decode cX12_gets 1 = .ok (.getfield 103, 3) := by decide +kernel
theorem dX12_gets_4 : decode cX12_gets 4 = .ok (.iload_n 1, 1) := by decide +kernel
theorem dX12_gets_5 : decode cX12_gets 5 = .ok (.laload, 1) := by decide +kernel
theorem dX12_gets_6 : decode cX12_gets 6 = .ok (.lload 4, 2) := by decide +kernel
theorem dX12_gets_8 : decode cX12_gets 8 = .ok (.lmul, 1) := by decide +kernel
theorem dX12_gets_9 : decode cX12_gets 9 = .ok (.lload_n 2, 1) := by decide +kernel
theorem dX12_gets_10 : decode cX12_gets 10 = .ok (.aload_n 0, 1) := by decide +kernel
theorem dX12_gets_11 : decode cX12_gets 11 = .ok (.getfield 107, 3) := by decide +kernel
theorem dX12_gets_14 : decode cX12_gets 14 = .ok (.iload_n 1, 1) := by decide +kernel
theorem dX12_gets_15 : decode cX12_gets 15 = .ok (.laload, 1) := by decide +kernel
theorem dX12_gets_16 : decode cX12_gets 16 = .ok (.lmul, 1) := by decide +kernel
theorem dX12_gets_17 : decode cX12_gets 17 = .ok (.ladd, 1) := by decide +kernel
theorem dX12_gets_18 : decode cX12_gets 18 = .ok (.lstore 6, 2) := by decide +kernel
theorem dX12_gets_20 : decode cX12_gets 20 = .ok (.aload_n 0, 1) := by decide +kernel
theorem dX12_gets_21 : decode cX12_gets 21 = .ok (.getfield 107, 3) := by decide +kernel
theorem dX12_gets_24 : decode cX12_gets 24 = .ok (.iload_n 1, 1) := by decide +kernel
theorem dX12_gets_25 : decode cX12_gets 25 = .ok (.laload, 1) := by decide +kernel
theorem dX12_gets_26 : decode cX12_gets 26 = .ok (.lload 4, 2) := by decide +kernel
theorem dX12_gets_28 : decode cX12_gets 28 = .ok (.lmul, 1) := by decide +kernel
theorem dX12_gets_29 : decode cX12_gets 29 = .ok (.lstore 8, 2) := by decide +kernel
theorem dX12_gets_31 : decode cX12_gets 31 = .ok (.lload 6, 2) := by decide +kernel
theorem dX12_gets_33 : decode cX12_gets 33 = .ok (.lload 8, 2) := by decide +kernel
theorem dX12_gets_35 : decode cX12_gets 35 = .ok (.invokestatic 339, 3) := by decide +kernel
theorem dX12_gets_38 : decode cX12_gets 38 = .ok (.lstore 10, 2) := by decide +kernel
theorem dX12_gets_40 : decode cX12_gets 40 = .ok (.aload_n 0, 1) := by decide +kernel
theorem dX12_gets_41 : decode cX12_gets 41 = .ok (.getfield 103, 3) := by decide +kernel
theorem dX12_gets_44 : decode cX12_gets 44 = .ok (.iload_n 1, 1) := by decide +kernel
theorem dX12_gets_45 : decode cX12_gets 45 = .ok (.lload 6, 2) := by decide +kernel
theorem dX12_gets_47 : decode cX12_gets 47 = .ok (.lload 10, 2) := by decide +kernel
theorem dX12_gets_49 : decode cX12_gets 49 = .ok (.ldiv, 1) := by decide +kernel
theorem dX12_gets_50 : decode cX12_gets 50 = .ok (.lastore, 1) := by decide +kernel
theorem dX12_gets_51 : decode cX12_gets 51 = .ok (.aload_n 0, 1) := by decide +kernel
theorem dX12_gets_52 : decode cX12_gets 52 = .ok (.getfield 107, 3) := by decide +kernel
theorem dX12_gets_55 : decode cX12_gets 55 = .ok (.iload_n 1, 1) := by decide +kernel
theorem dX12_gets_56 : decode cX12_gets 56 = .ok (.lload 8, 2) := by decide +kernel
theorem dX12_gets_58 : decode cX12_gets 58 = .ok (.lload 10, 2) := by decide +kernel
theorem dX12_gets_60 : decode cX12_gets 60 = .ok (.ldiv, 1) := by decide +kernel
theorem dX12_gets_61 : decode cX12_gets 61 = .ok (.lastore, 1) := by decide +kernel
theorem dX12_gets_62 : decode cX12_gets 62 = .ok (.return_, 1) := by decide +kernel
theorem dX12_handDown_0 : decode cX12_handDown 0 = .ok (.aload_n 0, 1) := by decide +kernel
theorem dX12_handDown_1 : decode cX12_handDown 1 = .ok (.getfield 119, 3) := by decide +kernel
theorem dX12_handDown_4 : decode cX12_handDown 4 = .ok (.iconst 1, 1) := by decide +kernel
theorem dX12_handDown_5 : decode cX12_handDown 5 = .ok (.isub, 1) := by decide +kernel
theorem dX12_handDown_6 : decode cX12_handDown 6 = .ok (.istore_n 3, 1) := by decide +kernel
theorem dX12_handDown_7 : decode cX12_handDown 7 = .ok (.iload_n 3, 1) := by decide +kernel
theorem dX12_handDown_8 : decode cX12_handDown 8 = .ok (.ifCond .lt 103, 3) := by decide +kernel
theorem dX12_handDown_11 : decode cX12_handDown 11 = .ok (.aload_n 0, 1) := by decide +kernel
theorem dX12_handDown_12 : decode cX12_handDown 12 = .ok (.getfield 110, 3) := by decide +kernel
theorem dX12_handDown_15 : decode cX12_handDown 15 = .ok (.iload_n 3, 1) := by decide +kernel
theorem dX12_handDown_16 : decode cX12_handDown 16 = .ok (.aload_n 0, 1) := by decide +kernel
theorem dX12_handDown_17 : decode cX12_handDown 17 = .ok (.iload_n 3, 1) := by decide +kernel
theorem dX12_handDown_18 : decode cX12_handDown 18 = .ok (.iload_n 2, 1) := by decide +kernel
theorem dX12_handDown_19 : decode cX12_handDown 19 = .ok (.invokevirtual 325, 3) := by decide +kernel
theorem dX12_handDown_22 : decode cX12_handDown 22 = .ok (.ifCond .ne 7, 3) := by decide +kernel
theorem dX12_handDown_25 : decode cX12_handDown 25 = .ok (.iconst 1, 1) := by decide +kernel
theorem dX12_handDown_26 : decode cX12_handDown 26 = .ok (.goto 4, 3) := by decide +kernel
theorem dX12_handDown_29 : decode cX12_handDown 29 = .ok (.iconst 0, 1) := by decide +kernel
theorem dX12_handDown_30 : decode cX12_handDown 30 = .ok (.bastore, 1) := by decide +kernel
theorem dX12_handDown_31 : decode cX12_handDown 31 = .ok (.iload_n 3, 1) := by decide +kernel
theorem dX12_handDown_32 : decode cX12_handDown 32 = .ok (.iconst 1, 1) := by decide +kernel
theorem dX12_handDown_33 : decode cX12_handDown 33 = .ok (.iadd, 1) := by decide +kernel
theorem dX12_handDown_34 : decode cX12_handDown 34 = .ok (.istore 4, 2) := by decide +kernel
theorem dX12_handDown_36 : decode cX12_handDown 36 = .ok (.iload 4, 2) := by decide +kernel
theorem dX12_handDown_38 : decode cX12_handDown 38 = .ok (.aload_n 0, 1) := by decide +kernel
theorem dX12_handDown_39 : decode cX12_handDown 39 = .ok (.getfield 119, 3) := by decide +kernel
theorem dX12_handDown_42 : decode cX12_handDown 42 = .ok (.if_icmp .ge 49, 3) := by decide +kernel
theorem dX12_handDown_45 : decode cX12_handDown 45 = .ok (.aload_n 0, 1) := by decide +kernel
theorem dX12_handDown_46 : decode cX12_handDown 46 = .ok (.getfield 110, 3) := by decide +kernel
theorem dX12_handDown_49 : decode cX12_handDown 49 = .ok (.iload_n 3, 1) := by decide +kernel
theorem dX12_handDown_50 : decode cX12_handDown 50 = .ok (.aload_n 0, 1) := by decide +kernel
theorem dX12_handDown_51 : decode cX12_handDown 51 = .ok (.getfield 110, 3) := by decide +kernel
theorem dX12_handDown_54 : decode cX12_handDown 54 = .ok (.iload_n 3, 1) := by decide +kernel
theorem dX12_handDown_55 : decode cX12_handDown 55 = .ok (.baload, 1) := by decide +kernel
theorem dX12_handDown_56 : decode cX12_handDown 56 = .ok (.ifCond .ne 23, 3) := by decide +kernel
theorem dX12_handDown_59 : decode cX12_handDown 59 = .ok (.aload_n 0, 1) := by decide +kernel
theorem dX12_handDown_60 : decode cX12_handDown 60 = .ok (.iload 4, 2) := by decide +kernel
theorem dX12_handDown_62 : decode cX12_handDown 62 = .ok (.iload_n 3, 1) := by decide +kernel
theorem dX12_handDown_63 : decode cX12_handDown 63 = .ok (.invokevirtual 343, 3) := by decide +kernel
theorem dX12_handDown_66 : decode cX12_handDown 66 = .ok (.ifCond .eq 17, 3) := by decide +kernel
theorem dX12_handDown_69 : decode cX12_handDown 69 = .ok (.aload_n 0, 1) := by decide +kernel
theorem dX12_handDown_70 : decode cX12_handDown 70 = .ok (.getfield 110, 3) := by decide +kernel
theorem dX12_handDown_73 : decode cX12_handDown 73 = .ok (.iload 4, 2) := by decide +kernel
theorem dX12_handDown_75 : decode cX12_handDown 75 = .ok (.baload, 1) := by decide +kernel
theorem dX12_handDown_76 : decode cX12_handDown 76 = .ok (.ifCond .eq 7, 3) := by decide +kernel
theorem dX12_handDown_79 : decode cX12_handDown 79 = .ok (.iconst 1, 1) := by decide +kernel
theorem dX12_handDown_80 : decode cX12_handDown 80 = .ok (.goto 4, 3) := by decide +kernel
theorem dX12_handDown_83 : decode cX12_handDown 83 = .ok (.iconst 0, 1) := by decide +kernel
theorem dX12_handDown_84 : decode cX12_handDown 84 = .ok (.bastore, 1) := by decide +kernel
theorem dX12_handDown_85 : decode cX12_handDown 85 = .ok (.iinc 4 1, 3) := by decide +kernel
theorem dX12_handDown_88 : decode cX12_handDown 88 = .ok (.goto (-52), 3) := by decide +kernel
theorem dX12_handDown_91 : decode cX12_handDown 91 = .ok (.aload_n 0, 1) := by decide +kernel
theorem dX12_handDown_92 : decode cX12_handDown 92 = .ok (.getfield 103, 3) := by decide +kernel
theorem dX12_handDown_95 : decode cX12_handDown 95 = .ok (.iload_n 3, 1) := by decide +kernel
theorem dX12_handDown_96 : decode cX12_handDown 96 = .ok (.lconst 0, 1) := by decide +kernel
theorem dX12_handDown_97 : decode cX12_handDown 97 = .ok (.lastore, 1) := by decide +kernel
theorem dX12_handDown_98 : decode cX12_handDown 98 = .ok (.aload_n 0, 1) := by decide +kernel
theorem dX12_handDown_99 : decode cX12_handDown 99 = .ok (.getfield 107, 3) := by decide +kernel
theorem dX12_handDown_102 : decode cX12_handDown 102 = .ok (.iload_n 3, 1) := by decide +kernel
theorem dX12_handDown_103 : decode cX12_handDown 103 = .ok (.lconst 1, 1) := by decide +kernel
theorem dX12_handDown_104 : decode cX12_handDown 104 = .ok (.lastore, 1) := by decide +kernel
theorem dX12_handDown_105 : decode cX12_handDown 105 = .ok (.iinc 3 (-1), 3) := by decide +kernel
theorem dX12_handDown_108 : decode cX12_handDown 108 = .ok (.goto (-101), 3) := by decide +kernel
theorem dX12_handDown_111 : decode cX12_handDown 111 = .ok (.aload_n 0, 1) := by decide +kernel
theorem dX12_handDown_112 : decode cX12_handDown 112 = .ok (.getfield 103, 3) := by decide +kernel
theorem dX12_handDown_115 : decode cX12_handDown 115 = .ok (.iload_n 1, 1) := by decide +kernel
theorem dX12_handDown_116 : decode cX12_handDown 116 = .ok (.lconst 1, 1) := by decide +kernel
theorem dX12_handDown_117 : decode cX12_handDown 117 = .ok (.lastore, 1) := by decide +kernel
theorem dX12_handDown_118 : decode cX12_handDown 118 = .ok (.iload_n 1, 1) := by decide +kernel
theorem dX12_handDown_119 : decode cX12_handDown 119 = .ok (.istore_n 3, 1) := by decide +kernel
theorem dX12_handDown_120 : decode cX12_handDown 120 = .ok (.iload_n 3, 1) := by decide +kernel
theorem dX12_handDown_121 : decode cX12_handDown 121 = .ok (.aload_n 0, 1) := by decide +kernel
theorem dX12_handDown_122 : decode cX12_handDown 122 = .ok (.getfield 119, 3) := by decide +kernel
theorem dX12_handDown_125 : decode cX12_handDown 125 = .ok (.if_icmp .ge 161, 3) := by decide +kernel
theorem dX12_handDown_128 : decode cX12_handDown 128 = .ok (.aload_n 0, 1) := by decide +kernel
theorem dX12_handDown_129 : decode cX12_handDown 129 = .ok (.getfield 103, 3) := by decide +kernel
theorem dX12_handDown_132 : decode cX12_handDown 132 = .ok (.iload_n 3, 1) := by decide +kernel
theorem dX12_handDown_133 : decode cX12_handDown 133 = .ok (.laload, 1) := by decide +kernel
theorem dX12_handDown_134 : decode cX12_handDown 134 = .ok (.lconst 0, 1) := by decide +kernel
theorem dX12_handDown_135 : decode cX12_handDown 135 = .ok (.lcmp, 1) := by decide +kernel
theorem dX12_handDown_136 : decode cX12_handDown 136 = .ok (.ifCond .eq 144, 3) := by decide +kernel
theorem dX12_handDown_139 : decode cX12_handDown 139 = .ok (.aload_n 0, 1) := by decide +kernel
theorem dX12_handDown_140 : decode cX12_handDown 140 = .ok (.iload_n 3, 1) := by decide +kernel
theorem dX12_handDown_141 : decode cX12_handDown 141 = .ok (.iload_n 2, 1) := by decide +kernel
theorem dX12_handDown_142 : decode cX12_handDown 142 = .ok (.invokevirtual 325, 3) := by decide +kernel
theorem dX12_handDown_145 : decode cX12_handDown 145 = .ok (.ifCond .ne 6, 3) := by decide +kernel
theorem dX12_handDown_148 : decode cX12_handDown 148 = .ok (.goto 132, 3) := by decide +kernel
theorem dX12_handDown_151 : decode cX12_handDown 151 = .ok (.iconst 0, 1) := by decide +kernel
theorem dX12_handDown_152 : decode cX12_handDown 152 = .ok (.istore 4, 2) := by decide +kernel
theorem dX12_handDown_154 : decode cX12_handDown 154 = .ok (.iload_n 3, 1) := by decide +kernel
theorem dX12_handDown_155 : decode cX12_handDown 155 = .ok (.iconst 1, 1) := by decide +kernel
theorem dX12_handDown_156 : decode cX12_handDown 156 = .ok (.iadd, 1) := by decide +kernel
theorem dX12_handDown_157 : decode cX12_handDown 157 = .ok (.istore 5, 2) := by decide +kernel
theorem dX12_handDown_159 : decode cX12_handDown 159 = .ok (.iload 5, 2) := by decide +kernel
theorem dX12_handDown_161 : decode cX12_handDown 161 = .ok (.aload_n 0, 1) := by decide +kernel
theorem dX12_handDown_162 : decode cX12_handDown 162 = .ok (.getfield 119, 3) := by decide +kernel
theorem dX12_handDown_165 : decode cX12_handDown 165 = .ok (.if_icmp .ge 39, 3) := by decide +kernel
theorem dX12_handDown_168 : decode cX12_handDown 168 = .ok (.iload 4, 2) := by decide +kernel
theorem dX12_handDown_170 : decode cX12_handDown 170 = .ok (.aload_n 0, 1) := by decide +kernel
theorem dX12_handDown_171 : decode cX12_handDown 171 = .ok (.iload 5, 2) := by decide +kernel
theorem dX12_handDown_173 : decode cX12_handDown 173 = .ok (.iload_n 3, 1) := by decide +kernel
theorem dX12_handDown_174 : decode cX12_handDown 174 = .ok (.invokevirtual 343, 3) := by decide +kernel
theorem dX12_handDown_177 : decode cX12_handDown 177 = .ok (.ifCond .eq 17, 3) := by decide +kernel
theorem dX12_handDown_180 : decode cX12_handDown 180 = .ok (.aload_n 0, 1) := by decide +kernel
theorem dX12_handDown_181 : decode cX12_handDown 181 = .ok (.getfield 110, 3) := by decide +kernel
theorem dX12_handDown_184 : decode cX12_handDown 184 = .ok (.iload 5, 2) := by decide +kernel
theorem dX12_handDown_186 : decode cX12_handDown 186 = .ok (.baload, 1) := by decide +kernel
theorem dX12_handDown_187 : decode cX12_handDown 187 = .ok (.ifCond .eq 7, 3) := by decide +kernel
theorem dX12_handDown_190 : decode cX12_handDown 190 = .ok (.iconst 1, 1) := by decide +kernel
theorem dX12_handDown_191 : decode cX12_handDown 191 = .ok (.goto 4, 3) := by decide +kernel
theorem dX12_handDown_194 : decode cX12_handDown 194 = .ok (.iconst 0, 1) := by decide +kernel
theorem dX12_handDown_195 : decode cX12_handDown 195 = .ok (.iadd, 1) := by decide +kernel
theorem dX12_handDown_196 : decode cX12_handDown 196 = .ok (.istore 4, 2) := by decide +kernel
theorem dX12_handDown_198 : decode cX12_handDown 198 = .ok (.iinc 5 1, 3) := by decide +kernel
theorem dX12_handDown_201 : decode cX12_handDown 201 = .ok (.goto (-42), 3) := by decide +kernel
theorem dX12_handDown_204 : decode cX12_handDown 204 = .ok (.iload_n 3, 1) := by decide +kernel
theorem dX12_handDown_205 : decode cX12_handDown 205 = .ok (.iconst 1, 1) := by decide +kernel
theorem dX12_handDown_206 : decode cX12_handDown 206 = .ok (.iadd, 1) := by decide +kernel
theorem dX12_handDown_207 : decode cX12_handDown 207 = .ok (.istore 5, 2) := by decide +kernel
theorem dX12_handDown_209 : decode cX12_handDown 209 = .ok (.iload 5, 2) := by decide +kernel
theorem dX12_handDown_211 : decode cX12_handDown 211 = .ok (.aload_n 0, 1) := by decide +kernel
theorem dX12_handDown_212 : decode cX12_handDown 212 = .ok (.getfield 119, 3) := by decide +kernel
theorem dX12_handDown_215 : decode cX12_handDown 215 = .ok (.if_icmp .ge 51, 3) := by decide +kernel
theorem dX12_handDown_218 : decode cX12_handDown 218 = .ok (.aload_n 0, 1) := by decide +kernel
theorem dX12_handDown_219 : decode cX12_handDown 219 = .ok (.iload 5, 2) := by decide +kernel
theorem dX12_handDown_221 : decode cX12_handDown 221 = .ok (.iload_n 3, 1) := by decide +kernel
theorem dX12_handDown_222 : decode cX12_handDown 222 = .ok (.invokevirtual 343, 3) := by decide +kernel
theorem dX12_handDown_225 : decode cX12_handDown 225 = .ok (.ifCond .eq 35, 3) := by decide +kernel
theorem dX12_handDown_228 : decode cX12_handDown 228 = .ok (.aload_n 0, 1) := by decide +kernel
theorem dX12_handDown_229 : decode cX12_handDown 229 = .ok (.getfield 110, 3) := by decide +kernel
theorem dX12_handDown_232 : decode cX12_handDown 232 = .ok (.iload 5, 2) := by decide +kernel
theorem dX12_handDown_234 : decode cX12_handDown 234 = .ok (.baload, 1) := by decide +kernel
theorem dX12_handDown_235 : decode cX12_handDown 235 = .ok (.ifCond .eq 25, 3) := by decide +kernel
theorem dX12_handDown_238 : decode cX12_handDown 238 = .ok (.aload_n 0, 1) := by decide +kernel
theorem dX12_handDown_239 : decode cX12_handDown 239 = .ok (.iload 5, 2) := by decide +kernel
theorem dX12_handDown_241 : decode cX12_handDown 241 = .ok (.aload_n 0, 1) := by decide +kernel
theorem dX12_handDown_242 : decode cX12_handDown 242 = .ok (.getfield 103, 3) := by decide +kernel
theorem dX12_handDown_245 : decode cX12_handDown 245 = .ok (.iload_n 3, 1) := by decide +kernel
theorem dX12_handDown_246 : decode cX12_handDown 246 = .ok (.laload, 1) := by decide +kernel
theorem dX12_handDown_247 : decode cX12_handDown 247 = .ok (.aload_n 0, 1) := by decide +kernel
theorem dX12_handDown_248 : decode cX12_handDown 248 = .ok (.getfield 107, 3) := by decide +kernel
theorem dX12_handDown_251 : decode cX12_handDown 251 = .ok (.iload_n 3, 1) := by decide +kernel
theorem dX12_handDown_252 : decode cX12_handDown 252 = .ok (.laload, 1) := by decide +kernel
theorem dX12_handDown_253 : decode cX12_handDown 253 = .ok (.iload 4, 2) := by decide +kernel
theorem dX12_handDown_255 : decode cX12_handDown 255 = .ok (.i2l, 1) := by decide +kernel
theorem dX12_handDown_256 : decode cX12_handDown 256 = .ok (.lmul, 1) := by decide +kernel
theorem dX12_handDown_257 : decode cX12_handDown 257 = .ok (.invokevirtual 346, 3) := by decide +kernel
theorem dX12_handDown_260 : decode cX12_handDown 260 = .ok (.iinc 5 1, 3) := by decide +kernel
theorem dX12_handDown_263 : decode cX12_handDown 263 = .ok (.goto (-54), 3) := by decide +kernel
theorem dX12_handDown_266 : decode cX12_handDown 266 = .ok (.aload_n 0, 1) := by decide +kernel
theorem dX12_handDown_267 : decode cX12_handDown 267 = .ok (.getfield 103, 3) := by decide +kernel
theorem dX12_handDown_270 : decode cX12_handDown 270 = .ok (.iload_n 3, 1) := by decide +kernel
theorem dX12_handDown_271 : decode cX12_handDown 271 = .ok (.lconst 0, 1) := by decide +kernel
theorem dX12_handDown_272 : decode cX12_handDown 272 = .ok (.lastore, 1) := by decide +kernel
theorem dX12_handDown_273 : decode cX12_handDown 273 = .ok (.aload_n 0, 1) := by decide +kernel
theorem dX12_handDown_274 : decode cX12_handDown 274 = .ok (.getfield 107, 3) := by decide +kernel
theorem dX12_handDown_277 : decode cX12_handDown 277 = .ok (.iload_n 3, 1) := by decide +kernel
theorem dX12_handDown_278 : decode cX12_handDown 278 = .ok (.lconst 1, 1) := by decide +kernel
theorem dX12_handDown_279 : decode cX12_handDown 279 = .ok (.lastore, 1) := by decide +kernel
theorem dX12_handDown_280 : decode cX12_handDown 280 = .ok (.iinc 3 1, 3) := by decide +kernel
theorem dX12_handDown_283 : decode cX12_handDown 283 = .ok (.goto (-163), 3) := by decide +kernel
theorem dX12_handDown_286 : decode cX12_handDown 286 = .ok (.return_, 1) := by decide +kernel
theorem dX12_share_0 : decode cX12_share 0 = .ok (.aload_n 0, 1) := by decide +kernel
theorem dX12_share_1 : decode cX12_share 1 = .ok (.iload_n 1, 1) := by decide +kernel
theorem dX12_share_2 : decode cX12_share 2 = .ok (.invokevirtual 127, 3) := by decide +kernel
theorem dX12_share_5 : decode cX12_share 5 = .ok (.ifCond .eq 29, 3) := by decide +kernel
theorem dX12_share_8 : decode cX12_share 8 = .ok (.aload_n 0, 1) := by decide +kernel
theorem dX12_share_9 : decode cX12_share 9 = .ok (.iload_n 2, 1) := by decide +kernel
theorem dX12_share_10 : decode cX12_share 10 = .ok (.invokevirtual 127, 3) := by decide +kernel
theorem dX12_share_13 : decode cX12_share 13 = .ok (.ifCond .eq 21, 3) := by decide +kernel
theorem dX12_share_16 : decode cX12_share 16 = .ok (.iload_n 3, 1) := by decide +kernel
theorem dX12_share_17 : decode cX12_share 17 = .ok (.invokestatic 131, 3) := by decide +kernel
theorem dX12_share_20 : decode cX12_share 20 = .ok (.ifCond .eq 14, 3) := by decide +kernel
theorem dX12_share_23 : decode cX12_share 23 = .ok (.iload 4, 2) := by decide +kernel
theorem dX12_share_25 : decode cX12_share 25 = .ok (.ifCond .lt 9, 3) := by decide +kernel
theorem dX12_share_28 : decode cX12_share 28 = .ok (.iload 4, 2) := by decide +kernel
theorem dX12_share_30 : decode cX12_share 30 = .ok (.iconst 1, 1) := by decide +kernel
theorem dX12_share_31 : decode cX12_share 31 = .ok (.if_icmp .le 7, 3) := by decide +kernel
theorem dX12_share_34 : decode cX12_share 34 = .ok (.ldc2_w 144, 3) := by decide +kernel
theorem dX12_share_37 : decode cX12_share 37 = .ok (.lreturn, 1) := by decide +kernel
theorem dX12_share_38 : decode cX12_share 38 = .ok (.aload_n 0, 1) := by decide +kernel
theorem dX12_share_39 : decode cX12_share 39 = .ok (.iload_n 1, 1) := by decide +kernel
theorem dX12_share_40 : decode cX12_share 40 = .ok (.iload_n 3, 1) := by decide +kernel
theorem dX12_share_41 : decode cX12_share 41 = .ok (.invokevirtual 350, 3) := by decide +kernel
theorem dX12_share_44 : decode cX12_share 44 = .ok (.iload 4, 2) := by decide +kernel
theorem dX12_share_46 : decode cX12_share 46 = .ok (.ifCond .ne 12, 3) := by decide +kernel
theorem dX12_share_49 : decode cX12_share 49 = .ok (.aload_n 0, 1) := by decide +kernel
theorem dX12_share_50 : decode cX12_share 50 = .ok (.getfield 103, 3) := by decide +kernel
theorem dX12_share_53 : decode cX12_share 53 = .ok (.iload_n 2, 1) := by decide +kernel
theorem dX12_share_54 : decode cX12_share 54 = .ok (.laload, 1) := by decide +kernel
theorem dX12_share_55 : decode cX12_share 55 = .ok (.goto 9, 3) := by decide +kernel
theorem dX12_share_58 : decode cX12_share 58 = .ok (.aload_n 0, 1) := by decide +kernel
theorem dX12_share_59 : decode cX12_share 59 = .ok (.getfield 107, 3) := by decide +kernel
theorem dX12_share_62 : decode cX12_share 62 = .ok (.iload_n 2, 1) := by decide +kernel
theorem dX12_share_63 : decode cX12_share 63 = .ok (.laload, 1) := by decide +kernel
theorem dX12_share_64 : decode cX12_share 64 = .ok (.lreturn, 1) := by decide +kernel
theorem dX12_want_0 : decode cX12_want 0 = .ok (.aload_n 0, 1) := by decide +kernel
theorem dX12_want_1 : decode cX12_want 1 = .ok (.iload_n 1, 1) := by decide +kernel
theorem dX12_want_2 : decode cX12_want 2 = .ok (.invokevirtual 146, 3) := by decide +kernel
theorem dX12_want_5 : decode cX12_want 5 = .ok (.ifCond .eq 36, 3) := by decide +kernel
theorem dX12_want_8 : decode cX12_want 8 = .ok (.aload_n 0, 1) := by decide +kernel
theorem dX12_want_9 : decode cX12_want 9 = .ok (.iload_n 2, 1) := by decide +kernel
theorem dX12_want_10 : decode cX12_want 10 = .ok (.invokevirtual 146, 3) := by decide +kernel
theorem dX12_want_13 : decode cX12_want 13 = .ok (.ifCond .eq 28, 3) := by decide +kernel
theorem dX12_want_16 : decode cX12_want 16 = .ok (.iload_n 1, 1) := by decide +kernel
theorem dX12_want_17 : decode cX12_want 17 = .ok (.iload_n 2, 1) := by decide +kernel
theorem dX12_want_18 : decode cX12_want 18 = .ok (.if_icmp .eq 23, 3) := by decide +kernel
theorem dX12_want_21 : decode cX12_want 21 = .ok (.iload_n 3, 1) := by decide +kernel
theorem dX12_want_22 : decode cX12_want 22 = .ok (.ifCond .lt 19, 3) := by decide +kernel
theorem dX12_want_25 : decode cX12_want 25 = .ok (.iload_n 3, 1) := by decide +kernel
theorem dX12_want_26 : decode cX12_want 26 = .ok (.sipush 1000, 3) := by decide +kernel
theorem dX12_want_29 : decode cX12_want 29 = .ok (.if_icmp .gt 12, 3) := by decide +kernel
theorem dX12_want_32 : decode cX12_want 32 = .ok (.aload_n 0, 1) := by decide +kernel
theorem dX12_want_33 : decode cX12_want 33 = .ok (.getfield 353, 3) := by decide +kernel
theorem dX12_want_36 : decode cX12_want 36 = .ok (.bipush 40, 2) := by decide +kernel
theorem dX12_want_38 : decode cX12_want 38 = .ok (.if_icmp .ne 5, 3) := by decide +kernel
theorem dX12_want_41 : decode cX12_want 41 = .ok (.iconst (-1), 1) := by decide +kernel
theorem dX12_want_42 : decode cX12_want 42 = .ok (.ireturn, 1) := by decide +kernel
theorem dX12_want_43 : decode cX12_want 43 = .ok (.aload_n 0, 1) := by decide +kernel
theorem dX12_want_44 : decode cX12_want 44 = .ok (.getfield 113, 3) := by decide +kernel
theorem dX12_want_47 : decode cX12_want 47 = .ok (.bipush 8, 2) := by decide +kernel
theorem dX12_want_49 : decode cX12_want 49 = .ok (.iload_n 1, 1) := by decide +kernel
theorem dX12_want_50 : decode cX12_want 50 = .ok (.imul, 1) := by decide +kernel
theorem dX12_want_51 : decode cX12_want 51 = .ok (.iload_n 2, 1) := by decide +kernel
theorem dX12_want_52 : decode cX12_want 52 = .ok (.iadd, 1) := by decide +kernel
theorem dX12_want_53 : decode cX12_want 53 = .ok (.iload_n 3, 1) := by decide +kernel
theorem dX12_want_54 : decode cX12_want 54 = .ok (.iastore, 1) := by decide +kernel
theorem dX12_want_55 : decode cX12_want 55 = .ok (.aload_n 0, 1) := by decide +kernel
theorem dX12_want_56 : decode cX12_want 56 = .ok (.dup, 1) := by decide +kernel
theorem dX12_want_57 : decode cX12_want 57 = .ok (.getfield 353, 3) := by decide +kernel
theorem dX12_want_60 : decode cX12_want 60 = .ok (.iconst 1, 1) := by decide +kernel
theorem dX12_want_61 : decode cX12_want 61 = .ok (.iadd, 1) := by decide +kernel
theorem dX12_want_62 : decode cX12_want 62 = .ok (.putfield 353, 3) := by decide +kernel
theorem dX12_want_65 : decode cX12_want 65 = .ok (.aload_n 0, 1) := by decide +kernel
theorem dX12_want_66 : decode cX12_want 66 = .ok (.getfield 353, 3) := by decide +kernel
theorem dX12_want_69 : decode cX12_want 69 = .ok (.ireturn, 1) := by decide +kernel
theorem dX12_mayGet_0 : decode cX12_mayGet 0 = .ok (.iload_n 1, 1) := by decide +kernel
theorem dX12_mayGet_1 : decode cX12_mayGet 1 = .ok (.iload_n 2, 1) := by decide +kernel
theorem dX12_mayGet_2 : decode cX12_mayGet 2 = .ok (.if_icmp .eq 17, 3) := by decide +kernel
theorem dX12_mayGet_5 : decode cX12_mayGet 5 = .ok (.aload_n 0, 1) := by decide +kernel
theorem dX12_mayGet_6 : decode cX12_mayGet 6 = .ok (.getfield 113, 3) := by decide +kernel
theorem dX12_mayGet_9 : decode cX12_mayGet 9 = .ok (.bipush 8, 2) := by decide +kernel
theorem dX12_mayGet_11 : decode cX12_mayGet 11 = .ok (.iload_n 1, 1) := by decide +kernel
theorem dX12_mayGet_12 : decode cX12_mayGet 12 = .ok (.imul, 1) := by decide +kernel
theorem dX12_mayGet_13 : decode cX12_mayGet 13 = .ok (.iload_n 2, 1) := by decide +kernel
theorem dX12_mayGet_14 : decode cX12_mayGet 14 = .ok (.iadd, 1) := by decide +kernel
theorem dX12_mayGet_15 : decode cX12_mayGet 15 = .ok (.iaload, 1) := by decide +kernel
theorem dX12_mayGet_16 : decode cX12_mayGet 16 = .ok (.ifCond .le 7, 3) := by decide +kernel
theorem dX12_mayGet_19 : decode cX12_mayGet 19 = .ok (.iconst 1, 1) := by decide +kernel
theorem dX12_mayGet_20 : decode cX12_mayGet 20 = .ok (.goto 4, 3) := by decide +kernel
theorem dX12_mayGet_23 : decode cX12_mayGet 23 = .ok (.iconst 0, 1) := by decide +kernel
theorem dX12_mayGet_24 : decode cX12_mayGet 24 = .ok (.ireturn, 1) := by decide +kernel
theorem dX12_solve_0 : decode cX12_solve 0 = .ok (.aload_n 0, 1) := by decide +kernel
theorem dX12_solve_1 : decode cX12_solve 1 = .ok (.getfield 122, 3) := by decide +kernel
theorem dX12_solve_4 : decode cX12_solve 4 = .ok (.istore_n 1, 1) := by decide +kernel
theorem dX12_solve_5 : decode cX12_solve 5 = .ok (.iload_n 1, 1) := by decide +kernel
theorem dX12_solve_6 : decode cX12_solve 6 = .ok (.ifCond .lt 172, 3) := by decide +kernel
theorem dX12_solve_9 : decode cX12_solve 9 = .ok (.iconst 0, 1) := by decide +kernel
theorem dX12_solve_10 : decode cX12_solve 10 = .ok (.istore_n 2, 1) := by decide +kernel
theorem dX12_solve_11 : decode cX12_solve 11 = .ok (.iload_n 2, 1) := by decide +kernel
theorem dX12_solve_12 : decode cX12_solve 12 = .ok (.iconst 1, 1) := by decide +kernel
theorem dX12_solve_13 : decode cX12_solve 13 = .ok (.aload_n 0, 1) := by decide +kernel
theorem dX12_solve_14 : decode cX12_solve 14 = .ok (.getfield 122, 3) := by decide +kernel
theorem dX12_solve_17 : decode cX12_solve 17 = .ok (.ishl, 1) := by decide +kernel
theorem dX12_solve_18 : decode cX12_solve 18 = .ok (.if_icmp .ge 154, 3) := by decide +kernel
theorem dX12_solve_21 : decode cX12_solve 21 = .ok (.iload_n 1, 1) := by decide +kernel
theorem dX12_solve_22 : decode cX12_solve 22 = .ok (.aload_n 0, 1) := by decide +kernel
theorem dX12_solve_23 : decode cX12_solve 23 = .ok (.getfield 122, 3) := by decide +kernel
theorem dX12_solve_26 : decode cX12_solve 26 = .ok (.if_icmp .ne 7, 3) := by decide +kernel
theorem dX12_solve_29 : decode cX12_solve 29 = .ok (.iconst 0, 1) := by decide +kernel
theorem dX12_solve_30 : decode cX12_solve 30 = .ok (.goto 4, 3) := by decide +kernel
theorem dX12_solve_33 : decode cX12_solve 33 = .ok (.iconst (-1), 1) := by decide +kernel
theorem dX12_solve_34 : decode cX12_solve 34 = .ok (.istore_n 3, 1) := by decide +kernel
theorem dX12_solve_35 : decode cX12_solve 35 = .ok (.iconst 0, 1) := by decide +kernel
theorem dX12_solve_36 : decode cX12_solve 36 = .ok (.istore 4, 2) := by decide +kernel
theorem dX12_solve_38 : decode cX12_solve 38 = .ok (.iload 4, 2) := by decide +kernel
theorem dX12_solve_40 : decode cX12_solve 40 = .ok (.aload_n 0, 1) := by decide +kernel
theorem dX12_solve_41 : decode cX12_solve 41 = .ok (.getfield 122, 3) := by decide +kernel
theorem dX12_solve_44 : decode cX12_solve 44 = .ok (.if_icmp .ge 109, 3) := by decide +kernel
theorem dX12_solve_47 : decode cX12_solve 47 = .ok (.iload_n 1, 1) := by decide +kernel
theorem dX12_solve_48 : decode cX12_solve 48 = .ok (.aload_n 0, 1) := by decide +kernel
theorem dX12_solve_49 : decode cX12_solve 49 = .ok (.getfield 122, 3) := by decide +kernel
theorem dX12_solve_52 : decode cX12_solve 52 = .ok (.if_icmp .ge 101, 3) := by decide +kernel
theorem dX12_solve_55 : decode cX12_solve 55 = .ok (.iload_n 2, 1) := by decide +kernel
theorem dX12_solve_56 : decode cX12_solve 56 = .ok (.iload 4, 2) := by decide +kernel
theorem dX12_solve_58 : decode cX12_solve 58 = .ok (.ishr, 1) := by decide +kernel
theorem dX12_solve_59 : decode cX12_solve 59 = .ok (.iconst 1, 1) := by decide +kernel
theorem dX12_solve_60 : decode cX12_solve 60 = .ok (.iand, 1) := by decide +kernel
theorem dX12_solve_61 : decode cX12_solve 61 = .ok (.iconst 1, 1) := by decide +kernel
theorem dX12_solve_62 : decode cX12_solve 62 = .ok (.if_icmp .eq 85, 3) := by decide +kernel
theorem dX12_solve_65 : decode cX12_solve 65 = .ok (.aload_n 0, 1) := by decide +kernel
theorem dX12_solve_66 : decode cX12_solve 66 = .ok (.iload_n 1, 1) := by decide +kernel
theorem dX12_solve_67 : decode cX12_solve 67 = .ok (.iload 4, 2) := by decide +kernel
theorem dX12_solve_69 : decode cX12_solve 69 = .ok (.invokevirtual 356, 3) := by decide +kernel
theorem dX12_solve_72 : decode cX12_solve 72 = .ok (.ifCond .eq 75, 3) := by decide +kernel
theorem dX12_solve_75 : decode cX12_solve 75 = .ok (.aload_n 0, 1) := by decide +kernel
theorem dX12_solve_76 : decode cX12_solve 76 = .ok (.getfield 116, 3) := by decide +kernel
theorem dX12_solve_79 : decode cX12_solve 79 = .ok (.sipush 256, 3) := by decide +kernel
theorem dX12_solve_82 : decode cX12_solve 82 = .ok (.iload_n 1, 1) := by decide +kernel
theorem dX12_solve_83 : decode cX12_solve 83 = .ok (.iconst 1, 1) := by decide +kernel
theorem dX12_solve_84 : decode cX12_solve 84 = .ok (.iadd, 1) := by decide +kernel
theorem dX12_solve_85 : decode cX12_solve 85 = .ok (.imul, 1) := by decide +kernel
theorem dX12_solve_86 : decode cX12_solve 86 = .ok (.iload_n 2, 1) := by decide +kernel
theorem dX12_solve_87 : decode cX12_solve 87 = .ok (.iconst 1, 1) := by decide +kernel
theorem dX12_solve_88 : decode cX12_solve 88 = .ok (.iload 4, 2) := by decide +kernel
theorem dX12_solve_90 : decode cX12_solve 90 = .ok (.ishl, 1) := by decide +kernel
theorem dX12_solve_91 : decode cX12_solve 91 = .ok (.ior, 1) := by decide +kernel
theorem dX12_solve_92 : decode cX12_solve 92 = .ok (.iadd, 1) := by decide +kernel
theorem dX12_solve_93 : decode cX12_solve 93 = .ok (.iaload, 1) := by decide +kernel
theorem dX12_solve_94 : decode cX12_solve 94 = .ok (.ifCond .ge 6, 3) := by decide +kernel
theorem dX12_solve_97 : decode cX12_solve 97 = .ok (.goto 50, 3) := by decide +kernel
theorem dX12_solve_100 : decode cX12_solve 100 = .ok (.aload_n 0, 1) := by decide +kernel
theorem dX12_solve_101 : decode cX12_solve 101 = .ok (.getfield 113, 3) := by decide +kernel
theorem dX12_solve_104 : decode cX12_solve 104 = .ok (.bipush 8, 2) := by decide +kernel
theorem dX12_solve_106 : decode cX12_solve 106 = .ok (.iload_n 1, 1) := by decide +kernel
theorem dX12_solve_107 : decode cX12_solve 107 = .ok (.imul, 1) := by decide +kernel
theorem dX12_solve_108 : decode cX12_solve 108 = .ok (.iload 4, 2) := by decide +kernel
theorem dX12_solve_110 : decode cX12_solve 110 = .ok (.iadd, 1) := by decide +kernel
theorem dX12_solve_111 : decode cX12_solve 111 = .ok (.iaload, 1) := by decide +kernel
theorem dX12_solve_112 : decode cX12_solve 112 = .ok (.aload_n 0, 1) := by decide +kernel
theorem dX12_solve_113 : decode cX12_solve 113 = .ok (.getfield 116, 3) := by decide +kernel
theorem dX12_solve_116 : decode cX12_solve 116 = .ok (.sipush 256, 3) := by decide +kernel
theorem dX12_solve_119 : decode cX12_solve 119 = .ok (.iload_n 1, 1) := by decide +kernel
theorem dX12_solve_120 : decode cX12_solve 120 = .ok (.iconst 1, 1) := by decide +kernel
theorem dX12_solve_121 : decode cX12_solve 121 = .ok (.iadd, 1) := by decide +kernel
theorem dX12_solve_122 : decode cX12_solve 122 = .ok (.imul, 1) := by decide +kernel
theorem dX12_solve_123 : decode cX12_solve 123 = .ok (.iload_n 2, 1) := by decide +kernel
theorem dX12_solve_124 : decode cX12_solve 124 = .ok (.iconst 1, 1) := by decide +kernel
theorem dX12_solve_125 : decode cX12_solve 125 = .ok (.iload 4, 2) := by decide +kernel
theorem dX12_solve_127 : decode cX12_solve 127 = .ok (.ishl, 1) := by decide +kernel
theorem dX12_solve_128 : decode cX12_solve 128 = .ok (.ior, 1) := by decide +kernel
theorem dX12_solve_129 : decode cX12_solve 129 = .ok (.iadd, 1) := by decide +kernel
theorem dX12_solve_130 : decode cX12_solve 130 = .ok (.iaload, 1) := by decide +kernel
theorem dX12_solve_131 : decode cX12_solve 131 = .ok (.iadd, 1) := by decide +kernel
theorem dX12_solve_132 : decode cX12_solve 132 = .ok (.istore 5, 2) := by decide +kernel
theorem dX12_solve_134 : decode cX12_solve 134 = .ok (.iload 5, 2) := by decide +kernel
theorem dX12_solve_136 : decode cX12_solve 136 = .ok (.iload_n 3, 1) := by decide +kernel
theorem dX12_solve_137 : decode cX12_solve 137 = .ok (.if_icmp .le 8, 3) := by decide +kernel
theorem dX12_solve_140 : decode cX12_solve 140 = .ok (.iload 5, 2) := by decide +kernel
theorem dX12_solve_142 : decode cX12_solve 142 = .ok (.goto 4, 3) := by decide +kernel
theorem dX12_solve_145 : decode cX12_solve 145 = .ok (.iload_n 3, 1) := by decide +kernel
theorem dX12_solve_146 : decode cX12_solve 146 = .ok (.istore_n 3, 1) := by decide +kernel
theorem dX12_solve_147 : decode cX12_solve 147 = .ok (.iinc 4 1, 3) := by decide +kernel
theorem dX12_solve_150 : decode cX12_solve 150 = .ok (.goto (-112), 3) := by decide +kernel
theorem dX12_solve_153 : decode cX12_solve 153 = .ok (.aload_n 0, 1) := by decide +kernel
theorem dX12_solve_154 : decode cX12_solve 154 = .ok (.getfield 116, 3) := by decide +kernel
theorem dX12_solve_157 : decode cX12_solve 157 = .ok (.sipush 256, 3) := by decide +kernel
theorem dX12_solve_160 : decode cX12_solve 160 = .ok (.iload_n 1, 1) := by decide +kernel
theorem dX12_solve_161 : decode cX12_solve 161 = .ok (.imul, 1) := by decide +kernel
theorem dX12_solve_162 : decode cX12_solve 162 = .ok (.iload_n 2, 1) := by decide +kernel
theorem dX12_solve_163 : decode cX12_solve 163 = .ok (.iadd, 1) := by decide +kernel
theorem dX12_solve_164 : decode cX12_solve 164 = .ok (.iload_n 3, 1) := by decide +kernel
theorem dX12_solve_165 : decode cX12_solve 165 = .ok (.iastore, 1) := by decide +kernel
theorem dX12_solve_166 : decode cX12_solve 166 = .ok (.iinc 2 1, 3) := by decide +kernel
theorem dX12_solve_169 : decode cX12_solve 169 = .ok (.goto (-158), 3) := by decide +kernel
theorem dX12_solve_172 : decode cX12_solve 172 = .ok (.iinc 1 (-1), 3) := by decide +kernel
theorem dX12_solve_175 : decode cX12_solve 175 = .ok (.goto (-170), 3) := by decide +kernel
theorem dX12_solve_178 : decode cX12_solve 178 = .ok (.aload_n 0, 1) := by decide +kernel
theorem dX12_solve_179 : decode cX12_solve 179 = .ok (.getfield 116, 3) := by decide +kernel
theorem dX12_solve_182 : decode cX12_solve 182 = .ok (.iconst 0, 1) := by decide +kernel
theorem dX12_solve_183 : decode cX12_solve 183 = .ok (.iaload, 1) := by decide +kernel
theorem dX12_solve_184 : decode cX12_solve 184 = .ok (.ireturn, 1) := by decide +kernel
theorem dX12_joy_0 : decode cX12_joy 0 = .ok (.aload_n 0, 1) := by decide +kernel
theorem dX12_joy_1 : decode cX12_joy 1 = .ok (.invokevirtual 359, 3) := by decide +kernel
theorem dX12_joy_4 : decode cX12_joy 4 = .ok (.ireturn, 1) := by decide +kernel
theorem dX12_swap_0 : decode cX12_swap 0 = .ok (.aload_n 0, 1) := by decide +kernel
theorem dX12_swap_1 : decode cX12_swap 1 = .ok (.iload_n 1, 1) := by decide +kernel
theorem dX12_swap_2 : decode cX12_swap 2 = .ok (.invokevirtual 146, 3) := by decide +kernel
theorem dX12_swap_5 : decode cX12_swap 5 = .ok (.ifCond .ne 5, 3) := by decide +kernel
theorem dX12_swap_8 : decode cX12_swap 8 = .ok (.iconst (-1), 1) := by decide +kernel
theorem dX12_swap_9 : decode cX12_swap 9 = .ok (.ireturn, 1) := by decide +kernel
theorem dX12_swap_10 : decode cX12_swap 10 = .ok (.aload_n 0, 1) := by decide +kernel
theorem dX12_swap_11 : decode cX12_swap 11 = .ok (.invokevirtual 359, 3) := by decide +kernel
theorem dX12_swap_14 : decode cX12_swap 14 = .ok (.istore_n 2, 1) := by decide +kernel
theorem dX12_swap_15 : decode cX12_swap 15 = .ok (.iconst 0, 1) := by decide +kernel
theorem dX12_swap_16 : decode cX12_swap 16 = .ok (.istore_n 3, 1) := by decide +kernel
theorem dX12_swap_17 : decode cX12_swap 17 = .ok (.iconst (-1), 1) := by decide +kernel
theorem dX12_swap_18 : decode cX12_swap 18 = .ok (.istore 4, 2) := by decide +kernel
theorem dX12_swap_20 : decode cX12_swap 20 = .ok (.iconst 0, 1) := by decide +kernel
theorem dX12_swap_21 : decode cX12_swap 21 = .ok (.istore 5, 2) := by decide +kernel
theorem dX12_swap_23 : decode cX12_swap 23 = .ok (.iload 5, 2) := by decide +kernel
theorem dX12_swap_25 : decode cX12_swap 25 = .ok (.iload_n 1, 1) := by decide +kernel
theorem dX12_swap_26 : decode cX12_swap 26 = .ok (.if_icmp .gt 123, 3) := by decide +kernel
theorem dX12_swap_29 : decode cX12_swap 29 = .ok (.iconst 0, 1) := by decide +kernel
theorem dX12_swap_30 : decode cX12_swap 30 = .ok (.istore 4, 2) := by decide +kernel
theorem dX12_swap_32 : decode cX12_swap 32 = .ok (.iload_n 3, 1) := by decide +kernel
theorem dX12_swap_33 : decode cX12_swap 33 = .ok (.iload 4, 2) := by decide +kernel
theorem dX12_swap_35 : decode cX12_swap 35 = .ok (.ishr, 1) := by decide +kernel
theorem dX12_swap_36 : decode cX12_swap 36 = .ok (.iconst 1, 1) := by decide +kernel
theorem dX12_swap_37 : decode cX12_swap 37 = .ok (.iand, 1) := by decide +kernel
theorem dX12_swap_38 : decode cX12_swap 38 = .ok (.iconst 1, 1) := by decide +kernel
theorem dX12_swap_39 : decode cX12_swap 39 = .ok (.if_icmp .eq 75, 3) := by decide +kernel
theorem dX12_swap_42 : decode cX12_swap 42 = .ok (.aload_n 0, 1) := by decide +kernel
theorem dX12_swap_43 : decode cX12_swap 43 = .ok (.iload 5, 2) := by decide +kernel
theorem dX12_swap_45 : decode cX12_swap 45 = .ok (.iload 4, 2) := by decide +kernel
theorem dX12_swap_47 : decode cX12_swap 47 = .ok (.invokevirtual 356, 3) := by decide +kernel
theorem dX12_swap_50 : decode cX12_swap 50 = .ok (.ifCond .eq 64, 3) := by decide +kernel
theorem dX12_swap_53 : decode cX12_swap 53 = .ok (.aload_n 0, 1) := by decide +kernel
theorem dX12_swap_54 : decode cX12_swap 54 = .ok (.getfield 116, 3) := by decide +kernel
theorem dX12_swap_57 : decode cX12_swap 57 = .ok (.sipush 256, 3) := by decide +kernel
theorem dX12_swap_60 : decode cX12_swap 60 = .ok (.iload 5, 2) := by decide +kernel
theorem dX12_swap_62 : decode cX12_swap 62 = .ok (.iconst 1, 1) := by decide +kernel
theorem dX12_swap_63 : decode cX12_swap 63 = .ok (.iadd, 1) := by decide +kernel
theorem dX12_swap_64 : decode cX12_swap 64 = .ok (.imul, 1) := by decide +kernel
theorem dX12_swap_65 : decode cX12_swap 65 = .ok (.iload_n 3, 1) := by decide +kernel
theorem dX12_swap_66 : decode cX12_swap 66 = .ok (.iconst 1, 1) := by decide +kernel
theorem dX12_swap_67 : decode cX12_swap 67 = .ok (.iload 4, 2) := by decide +kernel
theorem dX12_swap_69 : decode cX12_swap 69 = .ok (.ishl, 1) := by decide +kernel
theorem dX12_swap_70 : decode cX12_swap 70 = .ok (.ior, 1) := by decide +kernel
theorem dX12_swap_71 : decode cX12_swap 71 = .ok (.iadd, 1) := by decide +kernel
theorem dX12_swap_72 : decode cX12_swap 72 = .ok (.iaload, 1) := by decide +kernel
theorem dX12_swap_73 : decode cX12_swap 73 = .ok (.ifCond .lt 41, 3) := by decide +kernel
theorem dX12_swap_76 : decode cX12_swap 76 = .ok (.aload_n 0, 1) := by decide +kernel
theorem dX12_swap_77 : decode cX12_swap 77 = .ok (.getfield 113, 3) := by decide +kernel
theorem dX12_swap_80 : decode cX12_swap 80 = .ok (.bipush 8, 2) := by decide +kernel
theorem dX12_swap_82 : decode cX12_swap 82 = .ok (.iload 5, 2) := by decide +kernel
theorem dX12_swap_84 : decode cX12_swap 84 = .ok (.imul, 1) := by decide +kernel
theorem dX12_swap_85 : decode cX12_swap 85 = .ok (.iload 4, 2) := by decide +kernel
theorem dX12_swap_87 : decode cX12_swap 87 = .ok (.iadd, 1) := by decide +kernel
theorem dX12_swap_88 : decode cX12_swap 88 = .ok (.iaload, 1) := by decide +kernel
theorem dX12_swap_89 : decode cX12_swap 89 = .ok (.aload_n 0, 1) := by decide +kernel
theorem dX12_swap_90 : decode cX12_swap 90 = .ok (.getfield 116, 3) := by decide +kernel
theorem dX12_swap_93 : decode cX12_swap 93 = .ok (.sipush 256, 3) := by decide +kernel
theorem dX12_swap_96 : decode cX12_swap 96 = .ok (.iload 5, 2) := by decide +kernel
theorem dX12_swap_98 : decode cX12_swap 98 = .ok (.iconst 1, 1) := by decide +kernel
theorem dX12_swap_99 : decode cX12_swap 99 = .ok (.iadd, 1) := by decide +kernel
theorem dX12_swap_100 : decode cX12_swap 100 = .ok (.imul, 1) := by decide +kernel
theorem dX12_swap_101 : decode cX12_swap 101 = .ok (.iload_n 3, 1) := by decide +kernel
theorem dX12_swap_102 : decode cX12_swap 102 = .ok (.iconst 1, 1) := by decide +kernel
theorem dX12_swap_103 : decode cX12_swap 103 = .ok (.iload 4, 2) := by decide +kernel
theorem dX12_swap_105 : decode cX12_swap 105 = .ok (.ishl, 1) := by decide +kernel
theorem dX12_swap_106 : decode cX12_swap 106 = .ok (.ior, 1) := by decide +kernel
theorem dX12_swap_107 : decode cX12_swap 107 = .ok (.iadd, 1) := by decide +kernel
theorem dX12_swap_108 : decode cX12_swap 108 = .ok (.iaload, 1) := by decide +kernel
theorem dX12_swap_109 : decode cX12_swap 109 = .ok (.iadd, 1) := by decide +kernel
theorem dX12_swap_110 : decode cX12_swap 110 = .ok (.iload_n 2, 1) := by decide +kernel
theorem dX12_swap_111 : decode cX12_swap 111 = .ok (.if_icmp .eq 9, 3) := by decide +kernel
theorem dX12_swap_114 : decode cX12_swap 114 = .ok (.iinc 4 1, 3) := by decide +kernel
theorem dX12_swap_117 : decode cX12_swap 117 = .ok (.goto (-85), 3) := by decide +kernel
theorem dX12_swap_120 : decode cX12_swap 120 = .ok (.iload_n 2, 1) := by decide +kernel
theorem dX12_swap_121 : decode cX12_swap 121 = .ok (.aload_n 0, 1) := by decide +kernel
theorem dX12_swap_122 : decode cX12_swap 122 = .ok (.getfield 113, 3) := by decide +kernel
theorem dX12_swap_125 : decode cX12_swap 125 = .ok (.bipush 8, 2) := by decide +kernel
theorem dX12_swap_127 : decode cX12_swap 127 = .ok (.iload 5, 2) := by decide +kernel
theorem dX12_swap_129 : decode cX12_swap 129 = .ok (.imul, 1) := by decide +kernel
theorem dX12_swap_130 : decode cX12_swap 130 = .ok (.iload 4, 2) := by decide +kernel
theorem dX12_swap_132 : decode cX12_swap 132 = .ok (.iadd, 1) := by decide +kernel
theorem dX12_swap_133 : decode cX12_swap 133 = .ok (.iaload, 1) := by decide +kernel
theorem dX12_swap_134 : decode cX12_swap 134 = .ok (.isub, 1) := by decide +kernel
theorem dX12_swap_135 : decode cX12_swap 135 = .ok (.istore_n 2, 1) := by decide +kernel
theorem dX12_swap_136 : decode cX12_swap 136 = .ok (.iload_n 3, 1) := by decide +kernel
theorem dX12_swap_137 : decode cX12_swap 137 = .ok (.iconst 1, 1) := by decide +kernel
theorem dX12_swap_138 : decode cX12_swap 138 = .ok (.iload 4, 2) := by decide +kernel
theorem dX12_swap_140 : decode cX12_swap 140 = .ok (.ishl, 1) := by decide +kernel
theorem dX12_swap_141 : decode cX12_swap 141 = .ok (.ior, 1) := by decide +kernel
theorem dX12_swap_142 : decode cX12_swap 142 = .ok (.istore_n 3, 1) := by decide +kernel
theorem dX12_swap_143 : decode cX12_swap 143 = .ok (.iinc 5 1, 3) := by decide +kernel
theorem dX12_swap_146 : decode cX12_swap 146 = .ok (.goto (-123), 3) := by decide +kernel
theorem dX12_swap_149 : decode cX12_swap 149 = .ok (.iload 4, 2) := by decide +kernel
theorem dX12_swap_151 : decode cX12_swap 151 = .ok (.ireturn, 1) := by decide +kernel
theorem dX12_about_0 : decode cX12_about 0 = .ok (.iload_n 1, 1) := by decide +kernel
theorem dX12_about_1 : decode cX12_about 1 = .ok (.tableswitch 92 0 7 #[47, 52, 57, 62, 67, 77, 82, 87], 47) := by decide +kernel
theorem dX12_about_48 : decode cX12_about 48 = .ok (.aload_n 0, 1) := by decide +kernel
theorem dX12_about_49 : decode cX12_about 49 = .ok (.getfield 119, 3) := by decide +kernel
theorem dX12_about_52 : decode cX12_about 52 = .ok (.ireturn, 1) := by decide +kernel
theorem dX12_about_53 : decode cX12_about 53 = .ok (.aload_n 0, 1) := by decide +kernel
theorem dX12_about_54 : decode cX12_about 54 = .ok (.getfield 122, 3) := by decide +kernel
theorem dX12_about_57 : decode cX12_about 57 = .ok (.ireturn, 1) := by decide +kernel
theorem dX12_about_58 : decode cX12_about 58 = .ok (.aload_n 0, 1) := by decide +kernel
theorem dX12_about_59 : decode cX12_about 59 = .ok (.getfield 152, 3) := by decide +kernel
theorem dX12_about_62 : decode cX12_about 62 = .ok (.ireturn, 1) := by decide +kernel
theorem dX12_about_63 : decode cX12_about 63 = .ok (.aload_n 0, 1) := by decide +kernel
theorem dX12_about_64 : decode cX12_about 64 = .ok (.getfield 149, 3) := by decide +kernel
theorem dX12_about_67 : decode cX12_about 67 = .ok (.ireturn, 1) := by decide +kernel
theorem dX12_about_68 : decode cX12_about 68 = .ok (.aload_n 0, 1) := by decide +kernel
theorem dX12_about_69 : decode cX12_about 69 = .ok (.getfield 70, 3) := by decide +kernel
theorem dX12_about_72 : decode cX12_about 72 = .ok (.aload_n 0, 1) := by decide +kernel
theorem dX12_about_73 : decode cX12_about 73 = .ok (.getfield 236, 3) := by decide +kernel
theorem dX12_about_76 : decode cX12_about 76 = .ok (.iaload, 1) := by decide +kernel
theorem dX12_about_77 : decode cX12_about 77 = .ok (.ireturn, 1) := by decide +kernel
theorem dX12_about_78 : decode cX12_about 78 = .ok (.aload_n 0, 1) := by decide +kernel
theorem dX12_about_79 : decode cX12_about 79 = .ok (.getfield 315, 3) := by decide +kernel
theorem dX12_about_82 : decode cX12_about 82 = .ok (.ireturn, 1) := by decide +kernel
theorem dX12_about_83 : decode cX12_about 83 = .ok (.aload_n 0, 1) := by decide +kernel
theorem dX12_about_84 : decode cX12_about 84 = .ok (.getfield 353, 3) := by decide +kernel
theorem dX12_about_87 : decode cX12_about 87 = .ok (.ireturn, 1) := by decide +kernel
theorem dX12_about_88 : decode cX12_about 88 = .ok (.aload_n 0, 1) := by decide +kernel
theorem dX12_about_89 : decode cX12_about 89 = .ok (.getfield 233, 3) := by decide +kernel
theorem dX12_about_92 : decode cX12_about 92 = .ok (.ireturn, 1) := by decide +kernel
theorem dX12_about_93 : decode cX12_about 93 = .ok (.iconst (-1), 1) := by decide +kernel
theorem dX12_about_94 : decode cX12_about 94 = .ok (.ireturn, 1) := by decide +kernel
theorem dX12_feed_0 : decode cX12_feed 0 = .ok (.aload_n 0, 1) := by decide +kernel
theorem dX12_feed_1 : decode cX12_feed 1 = .ok (.getfield 233, 3) := by decide +kernel
theorem dX12_feed_4 : decode cX12_feed 4 = .ok (.bipush 20, 2) := by decide +kernel
theorem dX12_feed_6 : decode cX12_feed 6 = .ok (.iadd, 1) := by decide +kernel
theorem dX12_feed_7 : decode cX12_feed 7 = .ok (.sipush 600, 3) := by decide +kernel
theorem dX12_feed_10 : decode cX12_feed 10 = .ok (.if_icmp .le 5, 3) := by decide +kernel
theorem dX12_feed_13 : decode cX12_feed 13 = .ok (.iconst (-1), 1) := by decide +kernel
theorem dX12_feed_14 : decode cX12_feed 14 = .ok (.ireturn, 1) := by decide +kernel
theorem dX12_feed_15 : decode cX12_feed 15 = .ok (.iconst 0, 1) := by decide +kernel
theorem dX12_feed_16 : decode cX12_feed 16 = .ok (.istore 6, 2) := by decide +kernel
theorem dX12_feed_18 : decode cX12_feed 18 = .ok (.iload 6, 2) := by decide +kernel
theorem dX12_feed_20 : decode cX12_feed 20 = .ok (.bipush 20, 2) := by decide +kernel
theorem dX12_feed_22 : decode cX12_feed 22 = .ok (.if_icmp .ge 83, 3) := by decide +kernel
theorem dX12_feed_25 : decode cX12_feed 25 = .ok (.iload 6, 2) := by decide +kernel
theorem dX12_feed_27 : decode cX12_feed 27 = .ok (.iconst 4, 1) := by decide +kernel
theorem dX12_feed_28 : decode cX12_feed 28 = .ok (.if_icmp .ge 7, 3) := by decide +kernel
theorem dX12_feed_31 : decode cX12_feed 31 = .ok (.iload_n 1, 1) := by decide +kernel
theorem dX12_feed_32 : decode cX12_feed 32 = .ok (.goto 39, 3) := by decide +kernel
theorem dX12_feed_35 : decode cX12_feed 35 = .ok (.iload 6, 2) := by decide +kernel
theorem dX12_feed_37 : decode cX12_feed 37 = .ok (.bipush 8, 2) := by decide +kernel
theorem dX12_feed_39 : decode cX12_feed 39 = .ok (.if_icmp .ge 7, 3) := by decide +kernel
theorem dX12_feed_42 : decode cX12_feed 42 = .ok (.iload_n 2, 1) := by decide +kernel
theorem dX12_feed_43 : decode cX12_feed 43 = .ok (.goto 28, 3) := by decide +kernel
theorem dX12_feed_46 : decode cX12_feed 46 = .ok (.iload 6, 2) := by decide +kernel
theorem dX12_feed_48 : decode cX12_feed 48 = .ok (.bipush 12, 2) := by decide +kernel
theorem dX12_feed_50 : decode cX12_feed 50 = .ok (.if_icmp .ge 7, 3) := by decide +kernel
theorem dX12_feed_53 : decode cX12_feed 53 = .ok (.iload_n 3, 1) := by decide +kernel
theorem dX12_feed_54 : decode cX12_feed 54 = .ok (.goto 17, 3) := by decide +kernel
theorem dX12_feed_57 : decode cX12_feed 57 = .ok (.iload 6, 2) := by decide +kernel
theorem dX12_feed_59 : decode cX12_feed 59 = .ok (.bipush 16, 2) := by decide +kernel
theorem dX12_feed_61 : decode cX12_feed 61 = .ok (.if_icmp .ge 8, 3) := by decide +kernel
theorem dX12_feed_64 : decode cX12_feed 64 = .ok (.iload 4, 2) := by decide +kernel
theorem dX12_feed_66 : decode cX12_feed 66 = .ok (.goto 5, 3) := by decide +kernel
theorem dX12_feed_69 : decode cX12_feed 69 = .ok (.iload 5, 2) := by decide +kernel
theorem dX12_feed_71 : decode cX12_feed 71 = .ok (.istore 7, 2) := by decide +kernel
theorem dX12_feed_73 : decode cX12_feed 73 = .ok (.aload_n 0, 1) := by decide +kernel
theorem dX12_feed_74 : decode cX12_feed 74 = .ok (.getfield 59, 3) := by decide +kernel
theorem dX12_feed_77 : decode cX12_feed 77 = .ok (.aload_n 0, 1) := by decide +kernel
theorem dX12_feed_78 : decode cX12_feed 78 = .ok (.getfield 233, 3) := by decide +kernel
theorem dX12_feed_81 : decode cX12_feed 81 = .ok (.iload 6, 2) := by decide +kernel
theorem dX12_feed_83 : decode cX12_feed 83 = .ok (.iadd, 1) := by decide +kernel
theorem dX12_feed_84 : decode cX12_feed 84 = .ok (.iload 7, 2) := by decide +kernel
theorem dX12_feed_86 : decode cX12_feed 86 = .ok (.bipush 24, 2) := by decide +kernel
theorem dX12_feed_88 : decode cX12_feed 88 = .ok (.bipush 8, 2) := by decide +kernel
theorem dX12_feed_90 : decode cX12_feed 90 = .ok (.iload 6, 2) := by decide +kernel
theorem dX12_feed_92 : decode cX12_feed 92 = .ok (.iconst 3, 1) := by decide +kernel
theorem dX12_feed_93 : decode cX12_feed 93 = .ok (.iand, 1) := by decide +kernel
theorem dX12_feed_94 : decode cX12_feed 94 = .ok (.imul, 1) := by decide +kernel
theorem dX12_feed_95 : decode cX12_feed 95 = .ok (.isub, 1) := by decide +kernel
theorem dX12_feed_96 : decode cX12_feed 96 = .ok (.ishr, 1) := by decide +kernel
theorem dX12_feed_97 : decode cX12_feed 97 = .ok (.i2b, 1) := by decide +kernel
theorem dX12_feed_98 : decode cX12_feed 98 = .ok (.bastore, 1) := by decide +kernel
theorem dX12_feed_99 : decode cX12_feed 99 = .ok (.iinc 6 1, 3) := by decide +kernel
theorem dX12_feed_102 : decode cX12_feed 102 = .ok (.goto (-84), 3) := by decide +kernel
theorem dX12_feed_105 : decode cX12_feed 105 = .ok (.aload_n 0, 1) := by decide +kernel
theorem dX12_feed_106 : decode cX12_feed 106 = .ok (.dup, 1) := by decide +kernel
theorem dX12_feed_107 : decode cX12_feed 107 = .ok (.getfield 233, 3) := by decide +kernel
theorem dX12_feed_110 : decode cX12_feed 110 = .ok (.bipush 20, 2) := by decide +kernel
theorem dX12_feed_112 : decode cX12_feed 112 = .ok (.iadd, 1) := by decide +kernel
theorem dX12_feed_113 : decode cX12_feed 113 = .ok (.putfield 233, 3) := by decide +kernel
theorem dX12_feed_116 : decode cX12_feed 116 = .ok (.aload_n 0, 1) := by decide +kernel
theorem dX12_feed_117 : decode cX12_feed 117 = .ok (.getfield 233, 3) := by decide +kernel
theorem dX12_feed_120 : decode cX12_feed 120 = .ok (.ireturn, 1) := by decide +kernel
theorem dX12_end_0 : decode cX12_end 0 = .ok (.iload_n 1, 1) := by decide +kernel
theorem dX12_end_1 : decode cX12_end 1 = .ok (.ifCond .lt 11, 3) := by decide +kernel
theorem dX12_end_4 : decode cX12_end 4 = .ok (.iload_n 1, 1) := by decide +kernel
theorem dX12_end_5 : decode cX12_end 5 = .ok (.aload_n 0, 1) := by decide +kernel
theorem dX12_end_6 : decode cX12_end 6 = .ok (.getfield 233, 3) := by decide +kernel
theorem dX12_end_9 : decode cX12_end 9 = .ok (.if_icmp .le 5, 3) := by decide +kernel
theorem dX12_end_12 : decode cX12_end 12 = .ok (.iconst (-1), 1) := by decide +kernel
theorem dX12_end_13 : decode cX12_end 13 = .ok (.ireturn, 1) := by decide +kernel
theorem dX12_end_14 : decode cX12_end 14 = .ok (.aload_n 0, 1) := by decide +kernel
theorem dX12_end_15 : decode cX12_end 15 = .ok (.iload_n 1, 1) := by decide +kernel
theorem dX12_end_16 : decode cX12_end 16 = .ok (.putfield 233, 3) := by decide +kernel
theorem dX12_end_19 : decode cX12_end 19 = .ok (.iload_n 1, 1) := by decide +kernel
theorem dX12_end_20 : decode cX12_end 20 = .ok (.ireturn, 1) := by decide +kernel
theorem dJ11_isValidCodePoint_9a6ad_0 : decode cJ11_isValidCodePoint_9a6ad 0 = .ok (.iload_n 0, 1) := by decide +kernel
theorem dJ11_isValidCodePoint_9a6ad_1 : decode cJ11_isValidCodePoint_9a6ad 1 = .ok (.bipush 16, 2) := by decide +kernel
theorem dJ11_isValidCodePoint_9a6ad_3 : decode cJ11_isValidCodePoint_9a6ad 3 = .ok (.iushr, 1) := by decide +kernel
theorem dJ11_isValidCodePoint_9a6ad_4 : decode cJ11_isValidCodePoint_9a6ad 4 = .ok (.istore_n 1, 1) := by decide +kernel
theorem dJ11_isValidCodePoint_9a6ad_5 : decode cJ11_isValidCodePoint_9a6ad 5 = .ok (.iload_n 1, 1) := by decide +kernel
theorem dJ11_isValidCodePoint_9a6ad_6 : decode cJ11_isValidCodePoint_9a6ad 6 = .ok (.bipush 17, 2) := by decide +kernel
theorem dJ11_isValidCodePoint_9a6ad_8 : decode cJ11_isValidCodePoint_9a6ad 8 = .ok (.if_icmp .ge 7, 3) := by decide +kernel
theorem dJ11_isValidCodePoint_9a6ad_11 : decode cJ11_isValidCodePoint_9a6ad 11 = .ok (.iconst 1, 1) := by decide +kernel
theorem dJ11_isValidCodePoint_9a6ad_12 : decode cJ11_isValidCodePoint_9a6ad 12 = .ok (.goto 4, 3) := by decide +kernel
theorem dJ11_isValidCodePoint_9a6ad_15 : decode cJ11_isValidCodePoint_9a6ad 15 = .ok (.iconst 0, 1) := by decide +kernel
theorem dJ11_isValidCodePoint_9a6ad_16 : decode cJ11_isValidCodePoint_9a6ad 16 = .ok (.ireturn, 1) := by decide +kernel
theorem dJ11_highSurrogate_5068e_0 : decode cJ11_highSurrogate_5068e 0 = .ok (.iload_n 0, 1) := by decide +kernel
theorem dJ11_highSurrogate_5068e_1 : decode cJ11_highSurrogate_5068e 1 = .ok (.bipush 10, 2) := by decide +kernel
theorem dJ11_highSurrogate_5068e_3 : decode cJ11_highSurrogate_5068e 3 = .ok (.iushr, 1) := by decide +kernel
theorem dJ11_highSurrogate_5068e_4 : decode cJ11_highSurrogate_5068e 4 = .ok (.ldc 110, 2) := by decide +kernel
theorem dJ11_highSurrogate_5068e_6 : decode cJ11_highSurrogate_5068e 6 = .ok (.iadd, 1) := by decide +kernel
theorem dJ11_highSurrogate_5068e_7 : decode cJ11_highSurrogate_5068e 7 = .ok (.i2c, 1) := by decide +kernel
theorem dJ11_highSurrogate_5068e_8 : decode cJ11_highSurrogate_5068e 8 = .ok (.ireturn, 1) := by decide +kernel
theorem dJ11_lowSurrogate_5068e_0 : decode cJ11_lowSurrogate_5068e 0 = .ok (.iload_n 0, 1) := by decide +kernel
theorem dJ11_lowSurrogate_5068e_1 : decode cJ11_lowSurrogate_5068e 1 = .ok (.sipush 1023, 3) := by decide +kernel
theorem dJ11_lowSurrogate_5068e_4 : decode cJ11_lowSurrogate_5068e 4 = .ok (.iand, 1) := by decide +kernel
theorem dJ11_lowSurrogate_5068e_5 : decode cJ11_lowSurrogate_5068e 5 = .ok (.ldc 76, 2) := by decide +kernel
theorem dJ11_lowSurrogate_5068e_7 : decode cJ11_lowSurrogate_5068e 7 = .ok (.iadd, 1) := by decide +kernel
theorem dJ11_lowSurrogate_5068e_8 : decode cJ11_lowSurrogate_5068e 8 = .ok (.i2c, 1) := by decide +kernel
theorem dJ11_lowSurrogate_5068e_9 : decode cJ11_lowSurrogate_5068e 9 = .ok (.ireturn, 1) := by decide +kernel
theorem dJ6_bitCount_0f7a4_0 : decode cJ6_bitCount_0f7a4 0 = .ok (.iload_n 0, 1) := by decide +kernel
theorem dJ6_bitCount_0f7a4_1 : decode cJ6_bitCount_0f7a4 1 = .ok (.iload_n 0, 1) := by decide +kernel
theorem dJ6_bitCount_0f7a4_2 : decode cJ6_bitCount_0f7a4 2 = .ok (.iconst 1, 1) := by decide +kernel
theorem dJ6_bitCount_0f7a4_3 : decode cJ6_bitCount_0f7a4 3 = .ok (.iushr, 1) := by decide +kernel
theorem dJ6_bitCount_0f7a4_4 : decode cJ6_bitCount_0f7a4 4 = .ok (.ldc_w 265, 3) := by decide +kernel
theorem dJ6_bitCount_0f7a4_7 : decode cJ6_bitCount_0f7a4 7 = .ok (.iand, 1) := by decide +kernel
theorem dJ6_bitCount_0f7a4_8 : decode cJ6_bitCount_0f7a4 8 = .ok (.isub, 1) := by decide +kernel
theorem dJ6_bitCount_0f7a4_9 : decode cJ6_bitCount_0f7a4 9 = .ok (.istore_n 0, 1) := by decide +kernel
theorem dJ6_bitCount_0f7a4_10 : decode cJ6_bitCount_0f7a4 10 = .ok (.iload_n 0, 1) := by decide +kernel
theorem dJ6_bitCount_0f7a4_11 : decode cJ6_bitCount_0f7a4 11 = .ok (.ldc_w 266, 3) := by decide +kernel
theorem dJ6_bitCount_0f7a4_14 : decode cJ6_bitCount_0f7a4 14 = .ok (.iand, 1) := by decide +kernel
theorem dJ6_bitCount_0f7a4_15 : decode cJ6_bitCount_0f7a4 15 = .ok (.iload_n 0, 1) := by decide +kernel
theorem dJ6_bitCount_0f7a4_16 : decode cJ6_bitCount_0f7a4 16 = .ok (.iconst 2, 1) := by decide +kernel
theorem dJ6_bitCount_0f7a4_17 : decode cJ6_bitCount_0f7a4 17 = .ok (.iushr, 1) := by decide +kernel
theorem dJ6_bitCount_0f7a4_18 : decode cJ6_bitCount_0f7a4 18 = .ok (.ldc_w 266, 3) := by decide +kernel
theorem dJ6_bitCount_0f7a4_21 : decode cJ6_bitCount_0f7a4 21 = .ok (.iand, 1) := by decide +kernel
theorem dJ6_bitCount_0f7a4_22 : decode cJ6_bitCount_0f7a4 22 = .ok (.iadd, 1) := by decide +kernel
theorem dJ6_bitCount_0f7a4_23 : decode cJ6_bitCount_0f7a4 23 = .ok (.istore_n 0, 1) := by decide +kernel
theorem dJ6_bitCount_0f7a4_24 : decode cJ6_bitCount_0f7a4 24 = .ok (.iload_n 0, 1) := by decide +kernel
theorem dJ6_bitCount_0f7a4_25 : decode cJ6_bitCount_0f7a4 25 = .ok (.iload_n 0, 1) := by decide +kernel
theorem dJ6_bitCount_0f7a4_26 : decode cJ6_bitCount_0f7a4 26 = .ok (.iconst 4, 1) := by decide +kernel
theorem dJ6_bitCount_0f7a4_27 : decode cJ6_bitCount_0f7a4 27 = .ok (.iushr, 1) := by decide +kernel
theorem dJ6_bitCount_0f7a4_28 : decode cJ6_bitCount_0f7a4 28 = .ok (.iadd, 1) := by decide +kernel
theorem dJ6_bitCount_0f7a4_29 : decode cJ6_bitCount_0f7a4 29 = .ok (.ldc_w 267, 3) := by decide +kernel
theorem dJ6_bitCount_0f7a4_32 : decode cJ6_bitCount_0f7a4 32 = .ok (.iand, 1) := by decide +kernel
theorem dJ6_bitCount_0f7a4_33 : decode cJ6_bitCount_0f7a4 33 = .ok (.istore_n 0, 1) := by decide +kernel
theorem dJ6_bitCount_0f7a4_34 : decode cJ6_bitCount_0f7a4 34 = .ok (.iload_n 0, 1) := by decide +kernel
theorem dJ6_bitCount_0f7a4_35 : decode cJ6_bitCount_0f7a4 35 = .ok (.iload_n 0, 1) := by decide +kernel
theorem dJ6_bitCount_0f7a4_36 : decode cJ6_bitCount_0f7a4 36 = .ok (.bipush 8, 2) := by decide +kernel
theorem dJ6_bitCount_0f7a4_38 : decode cJ6_bitCount_0f7a4 38 = .ok (.iushr, 1) := by decide +kernel
theorem dJ6_bitCount_0f7a4_39 : decode cJ6_bitCount_0f7a4 39 = .ok (.iadd, 1) := by decide +kernel
theorem dJ6_bitCount_0f7a4_40 : decode cJ6_bitCount_0f7a4 40 = .ok (.istore_n 0, 1) := by decide +kernel
theorem dJ6_bitCount_0f7a4_41 : decode cJ6_bitCount_0f7a4 41 = .ok (.iload_n 0, 1) := by decide +kernel
theorem dJ6_bitCount_0f7a4_42 : decode cJ6_bitCount_0f7a4 42 = .ok (.iload_n 0, 1) := by decide +kernel
theorem dJ6_bitCount_0f7a4_43 : decode cJ6_bitCount_0f7a4 43 = .ok (.bipush 16, 2) := by decide +kernel
theorem dJ6_bitCount_0f7a4_45 : decode cJ6_bitCount_0f7a4 45 = .ok (.iushr, 1) := by decide +kernel
theorem dJ6_bitCount_0f7a4_46 : decode cJ6_bitCount_0f7a4 46 = .ok (.iadd, 1) := by decide +kernel
theorem dJ6_bitCount_0f7a4_47 : decode cJ6_bitCount_0f7a4 47 = .ok (.istore_n 0, 1) := by decide +kernel
theorem dJ6_bitCount_0f7a4_48 : decode cJ6_bitCount_0f7a4 48 = .ok (.iload_n 0, 1) := by decide +kernel
theorem dJ6_bitCount_0f7a4_49 : decode cJ6_bitCount_0f7a4 49 = .ok (.bipush 63, 2) := by decide +kernel
theorem dJ6_bitCount_0f7a4_51 : decode cJ6_bitCount_0f7a4 51 = .ok (.iand, 1) := by decide +kernel
theorem dJ6_bitCount_0f7a4_52 : decode cJ6_bitCount_0f7a4 52 = .ok (.ireturn, 1) := by decide +kernel
theorem dJ9_max_7cf53_0 : decode cJ9_max_7cf53 0 = .ok (.iload_n 0, 1) := by decide +kernel
theorem dJ9_max_7cf53_1 : decode cJ9_max_7cf53 1 = .ok (.iload_n 1, 1) := by decide +kernel
theorem dJ9_max_7cf53_2 : decode cJ9_max_7cf53 2 = .ok (.if_icmp .lt 7, 3) := by decide +kernel
theorem dJ9_max_7cf53_5 : decode cJ9_max_7cf53 5 = .ok (.iload_n 0, 1) := by decide +kernel
theorem dJ9_max_7cf53_6 : decode cJ9_max_7cf53 6 = .ok (.goto 4, 3) := by decide +kernel
theorem dJ9_max_7cf53_9 : decode cJ9_max_7cf53 9 = .ok (.iload_n 1, 1) := by decide +kernel
theorem dJ9_max_7cf53_10 : decode cJ9_max_7cf53 10 = .ok (.ireturn, 1) := by decide +kernel
theorem dJ9_min_7cf53_0 : decode cJ9_min_7cf53 0 = .ok (.iload_n 0, 1) := by decide +kernel
theorem dJ9_min_7cf53_1 : decode cJ9_min_7cf53 1 = .ok (.iload_n 1, 1) := by decide +kernel
theorem dJ9_min_7cf53_2 : decode cJ9_min_7cf53 2 = .ok (.if_icmp .gt 7, 3) := by decide +kernel
theorem dJ9_min_7cf53_5 : decode cJ9_min_7cf53 5 = .ok (.iload_n 0, 1) := by decide +kernel
theorem dJ9_min_7cf53_6 : decode cJ9_min_7cf53 6 = .ok (.goto 4, 3) := by decide +kernel
theorem dJ9_min_7cf53_9 : decode cJ9_min_7cf53 9 = .ok (.iload_n 1, 1) := by decide +kernel
theorem dJ9_min_7cf53_10 : decode cJ9_min_7cf53 10 = .ok (.ireturn, 1) := by decide +kernel
theorem dJ9_min_f86c9_0 : decode cJ9_min_f86c9 0 = .ok (.lload_n 0, 1) := by decide +kernel
theorem dJ9_min_f86c9_1 : decode cJ9_min_f86c9 1 = .ok (.lload_n 2, 1) := by decide +kernel
theorem dJ9_min_f86c9_2 : decode cJ9_min_f86c9 2 = .ok (.lcmp, 1) := by decide +kernel
theorem dJ9_min_f86c9_3 : decode cJ9_min_f86c9 3 = .ok (.ifCond .gt 7, 3) := by decide +kernel
theorem dJ9_min_f86c9_6 : decode cJ9_min_f86c9 6 = .ok (.lload_n 0, 1) := by decide +kernel
theorem dJ9_min_f86c9_7 : decode cJ9_min_f86c9 7 = .ok (.goto 4, 3) := by decide +kernel
theorem dJ9_min_f86c9_10 : decode cJ9_min_f86c9 10 = .ok (.lload_n 2, 1) := by decide +kernel
theorem dJ9_min_f86c9_11 : decode cJ9_min_f86c9 11 = .ok (.lreturn, 1) := by decide +kernel
theorem dJ0_length_8abf5_0 : decode cJ0_length_8abf5 0 = .ok (.aload_n 0, 1) := by decide +kernel
theorem dJ0_length_8abf5_1 : decode cJ0_length_8abf5 1 = .ok (.getfield 9, 3) := by decide +kernel
theorem dJ0_length_8abf5_4 : decode cJ0_length_8abf5 4 = .ok (.arraylength, 1) := by decide +kernel
theorem dJ0_length_8abf5_5 : decode cJ0_length_8abf5 5 = .ok (.aload_n 0, 1) := by decide +kernel
theorem dJ0_length_8abf5_6 : decode cJ0_length_8abf5 6 = .ok (.invokevirtual 335, 3) := by decide +kernel
theorem dJ0_length_8abf5_9 : decode cJ0_length_8abf5 9 = .ok (.ishr, 1) := by decide +kernel
theorem dJ0_length_8abf5_10 : decode cJ0_length_8abf5 10 = .ok (.ireturn, 1) := by decide +kernel
theorem dJ0_charAt_5068e_0 : decode cJ0_charAt_5068e 0 = .ok (.aload_n 0, 1) := by decide +kernel
theorem dJ0_charAt_5068e_1 : decode cJ0_charAt_5068e 1 = .ok (.invokevirtual 492, 3) := by decide +kernel
theorem dJ0_charAt_5068e_4 : decode cJ0_charAt_5068e 4 = .ok (.ifCond .eq 12, 3) := by decide +kernel
theorem dJ0_charAt_5068e_7 : decode cJ0_charAt_5068e 7 = .ok (.aload_n 0, 1) := by decide +kernel
theorem dJ0_charAt_5068e_8 : decode cJ0_charAt_5068e 8 = .ok (.getfield 9, 3) := by decide +kernel
theorem dJ0_charAt_5068e_11 : decode cJ0_charAt_5068e 11 = .ok (.iload_n 1, 1) := by decide +kernel
theorem dJ0_charAt_5068e_12 : decode cJ0_charAt_5068e 12 = .ok (.invokestatic 495, 3) := by decide +kernel
theorem dJ0_charAt_5068e_15 : decode cJ0_charAt_5068e 15 = .ok (.ireturn, 1) := by decide +kernel
theorem dJ0_charAt_5068e_16 : decode cJ0_charAt_5068e 16 = .ok (.aload_n 0, 1) := by decide +kernel
theorem dJ0_charAt_5068e_17 : decode cJ0_charAt_5068e 17 = .ok (.getfield 9, 3) := by decide +kernel
theorem dJ0_charAt_5068e_20 : decode cJ0_charAt_5068e 20 = .ok (.iload_n 1, 1) := by decide +kernel
theorem dJ0_charAt_5068e_21 : decode cJ0_charAt_5068e 21 = .ok (.invokestatic 498, 3) := by decide +kernel
theorem dJ0_charAt_5068e_24 : decode cJ0_charAt_5068e 24 = .ok (.ireturn, 1) := by decide +kernel
theorem dJ0_indexOf_0f7a4_0 : decode cJ0_indexOf_0f7a4 0 = .ok (.aload_n 0, 1) := by decide +kernel
theorem dJ0_indexOf_0f7a4_1 : decode cJ0_indexOf_0f7a4 1 = .ok (.iload_n 1, 1) := by decide +kernel
theorem dJ0_indexOf_0f7a4_2 : decode cJ0_indexOf_0f7a4 2 = .ok (.iconst 0, 1) := by decide +kernel
theorem dJ0_indexOf_0f7a4_3 : decode cJ0_indexOf_0f7a4 3 = .ok (.invokevirtual 633, 3) := by decide +kernel
theorem dJ0_indexOf_0f7a4_6 : decode cJ0_indexOf_0f7a4 6 = .ok (.ireturn, 1) := by decide +kernel
theorem dJ0_indexOf_7cf53_0 : decode cJ0_indexOf_7cf53 0 = .ok (.aload_n 0, 1) := by decide +kernel
theorem dJ0_indexOf_7cf53_1 : decode cJ0_indexOf_7cf53 1 = .ok (.invokevirtual 492, 3) := by decide +kernel
theorem dJ0_indexOf_7cf53_4 : decode cJ0_indexOf_7cf53 4 = .ok (.ifCond .eq 19, 3) := by decide +kernel
theorem dJ0_indexOf_7cf53_7 : decode cJ0_indexOf_7cf53 7 = .ok (.aload_n 0, 1) := by decide +kernel
theorem dJ0_indexOf_7cf53_8 : decode cJ0_indexOf_7cf53 8 = .ok (.getfield 9, 3) := by decide +kernel
theorem dJ0_indexOf_7cf53_11 : decode cJ0_indexOf_7cf53 11 = .ok (.iload_n 1, 1) := by decide +kernel
theorem dJ0_indexOf_7cf53_12 : decode cJ0_indexOf_7cf53 12 = .ok (.iload_n 2, 1) := by decide +kernel
theorem dJ0_indexOf_7cf53_13 : decode cJ0_indexOf_7cf53 13 = .ok (.aload_n 0, 1) := by decide +kernel
theorem dJ0_indexOf_7cf53_14 : decode cJ0_indexOf_7cf53 14 = .ok (.invokevirtual 505, 3) := by decide +kernel
theorem dJ0_indexOf_7cf53_17 : decode cJ0_indexOf_7cf53 17 = .ok (.invokestatic 637, 3) := by decide +kernel
theorem dJ0_indexOf_7cf53_20 : decode cJ0_indexOf_7cf53 20 = .ok (.goto 16, 3) := by decide +kernel
theorem dJ0_indexOf_7cf53_23 : decode cJ0_indexOf_7cf53 23 = .ok (.aload_n 0, 1) := by decide +kernel
theorem dJ0_indexOf_7cf53_24 : decode cJ0_indexOf_7cf53 24 = .ok (.getfield 9, 3) := by decide +kernel
theorem dJ0_indexOf_7cf53_27 : decode cJ0_indexOf_7cf53 27 = .ok (.iload_n 1, 1) := by decide +kernel
theorem dJ0_indexOf_7cf53_28 : decode cJ0_indexOf_7cf53 28 = .ok (.iload_n 2, 1) := by decide +kernel
theorem dJ0_indexOf_7cf53_29 : decode cJ0_indexOf_7cf53 29 = .ok (.aload_n 0, 1) := by decide +kernel
theorem dJ0_indexOf_7cf53_30 : decode cJ0_indexOf_7cf53 30 = .ok (.invokevirtual 505, 3) := by decide +kernel
theorem dJ0_indexOf_7cf53_33 : decode cJ0_indexOf_7cf53 33 = .ok (.invokestatic 640, 3) := by decide +kernel
theorem dJ0_indexOf_7cf53_36 : decode cJ0_indexOf_7cf53 36 = .ok (.ireturn, 1) := by decide +kernel
theorem dJ0_coder_7d493_0 : decode cJ0_coder_7d493 0 = .ok (.getstatic 38, 3) := by decide +kernel
theorem dJ0_coder_7d493_3 : decode cJ0_coder_7d493 3 = .ok (.ifCond .eq 10, 3) := by decide +kernel
theorem dJ0_coder_7d493_6 : decode cJ0_coder_7d493 6 = .ok (.aload_n 0, 1) := by decide +kernel
theorem dJ0_coder_7d493_7 : decode cJ0_coder_7d493 7 = .ok (.getfield 15, 3) := by decide +kernel
theorem dJ0_coder_7d493_10 : decode cJ0_coder_7d493 10 = .ok (.goto 4, 3) := by decide +kernel
theorem dJ0_coder_7d493_13 : decode cJ0_coder_7d493 13 = .ok (.iconst 1, 1) := by decide +kernel
theorem dJ0_coder_7d493_14 : decode cJ0_coder_7d493 14 = .ok (.ireturn, 1) := by decide +kernel
theorem dJ0_isLatin1_aae02_0 : decode cJ0_isLatin1_aae02 0 = .ok (.getstatic 38, 3) := by decide +kernel
theorem dJ0_isLatin1_aae02_3 : decode cJ0_isLatin1_aae02 3 = .ok (.ifCond .eq 14, 3) := by decide +kernel
theorem dJ0_isLatin1_aae02_6 : decode cJ0_isLatin1_aae02 6 = .ok (.aload_n 0, 1) := by decide +kernel
theorem dJ0_isLatin1_aae02_7 : decode cJ0_isLatin1_aae02 7 = .ok (.getfield 15, 3) := by decide +kernel
theorem dJ0_isLatin1_aae02_10 : decode cJ0_isLatin1_aae02 10 = .ok (.ifCond .ne 7, 3) := by decide +kernel
theorem dJ0_isLatin1_aae02_13 : decode cJ0_isLatin1_aae02 13 = .ok (.iconst 1, 1) := by decide +kernel
theorem dJ0_isLatin1_aae02_14 : decode cJ0_isLatin1_aae02 14 = .ok (.goto 4, 3) := by decide +kernel
theorem dJ0_isLatin1_aae02_17 : decode cJ0_isLatin1_aae02 17 = .ok (.iconst 0, 1) := by decide +kernel
theorem dJ0_isLatin1_aae02_18 : decode cJ0_isLatin1_aae02 18 = .ok (.ireturn, 1) := by decide +kernel
theorem dJ0_checkIndex_df160_0 : decode cJ0_checkIndex_df160 0 = .ok (.iload_n 0, 1) := by decide +kernel
theorem dJ0_checkIndex_df160_1 : decode cJ0_checkIndex_df160 1 = .ok (.iload_n 1, 1) := by decide +kernel
theorem dJ0_checkIndex_df160_2 : decode cJ0_checkIndex_df160 2 = .ok (.getstatic 1053, 3) := by decide +kernel
theorem dJ0_checkIndex_df160_5 : decode cJ0_checkIndex_df160 5 = .ok (.invokestatic 1059, 3) := by decide +kernel
theorem dJ0_checkIndex_df160_8 : decode cJ0_checkIndex_df160 8 = .ok (.pop, 1) := by decide +kernel
theorem dJ0_checkIndex_df160_9 : decode cJ0_checkIndex_df160 9 = .ok (.return_, 1) := by decide +kernel
theorem dJ0_checkBoundsBeginEnd_23922_0 : decode cJ0_checkBoundsBeginEnd_23922 0 = .ok (.iload_n 0, 1) := by decide +kernel
theorem dJ0_checkBoundsBeginEnd_23922_1 : decode cJ0_checkBoundsBeginEnd_23922 1 = .ok (.iload_n 1, 1) := by decide +kernel
theorem dJ0_checkBoundsBeginEnd_23922_2 : decode cJ0_checkBoundsBeginEnd_23922 2 = .ok (.iload_n 2, 1) := by decide +kernel
theorem dJ0_checkBoundsBeginEnd_23922_3 : decode cJ0_checkBoundsBeginEnd_23922 3 = .ok (.getstatic 1053, 3) := by decide +kernel
theorem dJ0_checkBoundsBeginEnd_23922_6 : decode cJ0_checkBoundsBeginEnd_23922 6 = .ok (.invokestatic 1062, 3) := by decide +kernel
theorem dJ0_checkBoundsBeginEnd_23922_9 : decode cJ0_checkBoundsBeginEnd_23922 9 = .ok (.pop, 1) := by decide +kernel
theorem dJ0_checkBoundsBeginEnd_23922_10 : decode cJ0_checkBoundsBeginEnd_23922 10 = .ok (.return_, 1) := by decide +kernel
theorem dJ1_charAt_3b067_0 : decode cJ1_charAt_3b067 0 = .ok (.iload_n 1, 1) := by decide +kernel
theorem dJ1_charAt_3b067_1 : decode cJ1_charAt_3b067 1 = .ok (.aload_n 0, 1) := by decide +kernel
theorem dJ1_charAt_3b067_2 : decode cJ1_charAt_3b067 2 = .ok (.arraylength, 1) := by decide +kernel
theorem dJ1_charAt_3b067_3 : decode cJ1_charAt_3b067 3 = .ok (.invokestatic 9, 3) := by decide +kernel
theorem dJ1_charAt_3b067_6 : decode cJ1_charAt_3b067 6 = .ok (.aload_n 0, 1) := by decide +kernel
theorem dJ1_charAt_3b067_7 : decode cJ1_charAt_3b067 7 = .ok (.iload_n 1, 1) := by decide +kernel
theorem dJ1_charAt_3b067_8 : decode cJ1_charAt_3b067 8 = .ok (.baload, 1) := by decide +kernel
theorem dJ1_charAt_3b067_9 : decode cJ1_charAt_3b067 9 = .ok (.sipush 255, 3) := by decide +kernel
theorem dJ1_charAt_3b067_12 : decode cJ1_charAt_3b067 12 = .ok (.iand, 1) := by decide +kernel
theorem dJ1_charAt_3b067_13 : decode cJ1_charAt_3b067 13 = .ok (.i2c, 1) := by decide +kernel
theorem dJ1_charAt_3b067_14 : decode cJ1_charAt_3b067 14 = .ok (.ireturn, 1) := by decide +kernel
theorem dJ1_canEncode_9a6ad_0 : decode cJ1_canEncode_9a6ad 0 = .ok (.iload_n 0, 1) := by decide +kernel
theorem dJ1_canEncode_9a6ad_1 : decode cJ1_canEncode_9a6ad 1 = .ok (.ifCond .lt 14, 3) := by decide +kernel
theorem dJ1_canEncode_9a6ad_4 : decode cJ1_canEncode_9a6ad 4 = .ok (.iload_n 0, 1) := by decide +kernel
theorem dJ1_canEncode_9a6ad_5 : decode cJ1_canEncode_9a6ad 5 = .ok (.sipush 255, 3) := by decide +kernel
theorem dJ1_canEncode_9a6ad_8 : decode cJ1_canEncode_9a6ad 8 = .ok (.if_icmp .gt 7, 3) := by decide +kernel
theorem dJ1_canEncode_9a6ad_11 : decode cJ1_canEncode_9a6ad 11 = .ok (.iconst 1, 1) := by decide +kernel
theorem dJ1_canEncode_9a6ad_12 : decode cJ1_canEncode_9a6ad 12 = .ok (.goto 4, 3) := by decide +kernel
theorem dJ1_canEncode_9a6ad_15 : decode cJ1_canEncode_9a6ad 15 = .ok (.iconst 0, 1) := by decide +kernel
theorem dJ1_canEncode_9a6ad_16 : decode cJ1_canEncode_9a6ad 16 = .ok (.ireturn, 1) := by decide +kernel
theorem dJ1_indexOf_4cfef_0 : decode cJ1_indexOf_4cfef 0 = .ok (.iload_n 1, 1) := by decide +kernel
theorem dJ1_indexOf_4cfef_1 : decode cJ1_indexOf_4cfef 1 = .ok (.invokestatic 88, 3) := by decide +kernel
theorem dJ1_indexOf_4cfef_4 : decode cJ1_indexOf_4cfef 4 = .ok (.ifCond .ne 5, 3) := by decide +kernel
theorem dJ1_indexOf_4cfef_7 : decode cJ1_indexOf_4cfef 7 = .ok (.iconst (-1), 1) := by decide +kernel
theorem dJ1_indexOf_4cfef_8 : decode cJ1_indexOf_4cfef 8 = .ok (.ireturn, 1) := by decide +kernel
theorem dJ1_indexOf_4cfef_9 : decode cJ1_indexOf_4cfef 9 = .ok (.iload_n 2, 1) := by decide +kernel
theorem dJ1_indexOf_4cfef_10 : decode cJ1_indexOf_4cfef 10 = .ok (.iconst 0, 1) := by decide +kernel
theorem dJ1_indexOf_4cfef_11 : decode cJ1_indexOf_4cfef 11 = .ok (.invokestatic 92, 3) := by decide +kernel
theorem dJ1_indexOf_4cfef_14 : decode cJ1_indexOf_4cfef 14 = .ok (.istore_n 2, 1) := by decide +kernel
theorem dJ1_indexOf_4cfef_15 : decode cJ1_indexOf_4cfef 15 = .ok (.iload_n 3, 1) := by decide +kernel
theorem dJ1_indexOf_4cfef_16 : decode cJ1_indexOf_4cfef 16 = .ok (.aload_n 0, 1) := by decide +kernel
theorem dJ1_indexOf_4cfef_17 : decode cJ1_indexOf_4cfef 17 = .ok (.arraylength, 1) := by decide +kernel
theorem dJ1_indexOf_4cfef_18 : decode cJ1_indexOf_4cfef 18 = .ok (.invokestatic 38, 3) := by decide +kernel
theorem dJ1_indexOf_4cfef_21 : decode cJ1_indexOf_4cfef 21 = .ok (.istore_n 3, 1) := by decide +kernel
theorem dJ1_indexOf_4cfef_22 : decode cJ1_indexOf_4cfef 22 = .ok (.iload_n 2, 1) := by decide +kernel
theorem dJ1_indexOf_4cfef_23 : decode cJ1_indexOf_4cfef 23 = .ok (.iload_n 3, 1) := by decide +kernel
theorem dJ1_indexOf_4cfef_24 : decode cJ1_indexOf_4cfef 24 = .ok (.if_icmp .lt 5, 3) := by decide +kernel
theorem dJ1_indexOf_4cfef_27 : decode cJ1_indexOf_4cfef 27 = .ok (.iconst (-1), 1) := by decide +kernel
theorem dJ1_indexOf_4cfef_28 : decode cJ1_indexOf_4cfef 28 = .ok (.ireturn, 1) := by decide +kernel
theorem dJ1_indexOf_4cfef_29 : decode cJ1_indexOf_4cfef 29 = .ok (.aload_n 0, 1) := by decide +kernel
theorem dJ1_indexOf_4cfef_30 : decode cJ1_indexOf_4cfef 30 = .ok (.iload_n 1, 1) := by decide +kernel
theorem dJ1_indexOf_4cfef_31 : decode cJ1_indexOf_4cfef 31 = .ok (.iload_n 2, 1) := by decide +kernel
theorem dJ1_indexOf_4cfef_32 : decode cJ1_indexOf_4cfef 32 = .ok (.iload_n 3, 1) := by decide +kernel
theorem dJ1_indexOf_4cfef_33 : decode cJ1_indexOf_4cfef 33 = .ok (.invokestatic 95, 3) := by decide +kernel
theorem dJ1_indexOf_4cfef_36 : decode cJ1_indexOf_4cfef 36 = .ok (.ireturn, 1) := by decide +kernel
theorem dJ1_indexOfChar_4cfef_0 : decode cJ1_indexOfChar_4cfef 0 = .ok (.iload_n 1, 1) := by decide +kernel
theorem dJ1_indexOfChar_4cfef_1 : decode cJ1_indexOfChar_4cfef 1 = .ok (.i2b, 1) := by decide +kernel
theorem dJ1_indexOfChar_4cfef_2 : decode cJ1_indexOfChar_4cfef 2 = .ok (.istore 4, 2) := by decide +kernel
theorem dJ1_indexOfChar_4cfef_4 : decode cJ1_indexOfChar_4cfef 4 = .ok (.iload_n 2, 1) := by decide +kernel
theorem dJ1_indexOfChar_4cfef_5 : decode cJ1_indexOfChar_4cfef 5 = .ok (.istore 5, 2) := by decide +kernel
theorem dJ1_indexOfChar_4cfef_7 : decode cJ1_indexOfChar_4cfef 7 = .ok (.iload 5, 2) := by decide +kernel
theorem dJ1_indexOfChar_4cfef_9 : decode cJ1_indexOfChar_4cfef 9 = .ok (.iload_n 3, 1) := by decide +kernel
theorem dJ1_indexOfChar_4cfef_10 : decode cJ1_indexOfChar_4cfef 10 = .ok (.if_icmp .ge 21, 3) := by decide +kernel
theorem dJ1_indexOfChar_4cfef_13 : decode cJ1_indexOfChar_4cfef 13 = .ok (.aload_n 0, 1) := by decide +kernel
theorem dJ1_indexOfChar_4cfef_14 : decode cJ1_indexOfChar_4cfef 14 = .ok (.iload 5, 2) := by decide +kernel
theorem dJ1_indexOfChar_4cfef_16 : decode cJ1_indexOfChar_4cfef 16 = .ok (.baload, 1) := by decide +kernel
theorem dJ1_indexOfChar_4cfef_17 : decode cJ1_indexOfChar_4cfef 17 = .ok (.iload 4, 2) := by decide +kernel
theorem dJ1_indexOfChar_4cfef_19 : decode cJ1_indexOfChar_4cfef 19 = .ok (.if_icmp .ne 6, 3) := by decide +kernel
theorem dJ1_indexOfChar_4cfef_22 : decode cJ1_indexOfChar_4cfef 22 = .ok (.iload 5, 2) := by decide +kernel
theorem dJ1_indexOfChar_4cfef_24 : decode cJ1_indexOfChar_4cfef 24 = .ok (.ireturn, 1) := by decide +kernel
theorem dJ1_indexOfChar_4cfef_25 : decode cJ1_indexOfChar_4cfef 25 = .ok (.iinc 5 1, 3) := by decide +kernel
theorem dJ1_indexOfChar_4cfef_28 : decode cJ1_indexOfChar_4cfef 28 = .ok (.goto (-21), 3) := by decide +kernel
theorem dJ1_indexOfChar_4cfef_31 : decode cJ1_indexOfChar_4cfef 31 = .ok (.iconst (-1), 1) := by decide +kernel
theorem dJ1_indexOfChar_4cfef_32 : decode cJ1_indexOfChar_4cfef 32 = .ok (.ireturn, 1) := by decide +kernel
theorem dJ2_getChar_3b067_0 : decode cJ2_getChar_3b067 0 = .ok (.getstatic 44, 3) := by decide +kernel
theorem dJ2_getChar_3b067_3 : decode cJ2_getChar_3b067 3 = .ok (.ifCond .ne 25, 3) := by decide +kernel
theorem dJ2_getChar_3b067_6 : decode cJ2_getChar_3b067 6 = .ok (.iload_n 1, 1) := by decide +kernel
theorem dJ2_getChar_3b067_7 : decode cJ2_getChar_3b067 7 = .ok (.ifCond .lt 11, 3) := by decide +kernel
theorem dJ2_getChar_3b067_10 : decode cJ2_getChar_3b067 10 = .ok (.iload_n 1, 1) := by decide +kernel
theorem dJ2_getChar_3b067_11 : decode cJ2_getChar_3b067 11 = .ok (.aload_n 0, 1) := by decide +kernel
theorem dJ2_getChar_3b067_12 : decode cJ2_getChar_3b067 12 = .ok (.invokestatic 48, 3) := by decide +kernel
theorem dJ2_getChar_3b067_15 : decode cJ2_getChar_3b067 15 = .ok (.if_icmp .lt 13, 3) := by decide +kernel
theorem dJ2_getChar_3b067_18 : decode cJ2_getChar_3b067 18 = .ok (.new 52, 3) := by decide +kernel
theorem dJ2_getChar_3b067_21 : decode cJ2_getChar_3b067 21 = .ok (.dup, 1) := by decide +kernel
theorem dJ2_getChar_3b067_22 : decode cJ2_getChar_3b067 22 = .ok (.ldc 54, 2) := by decide +kernel
theorem dJ2_getChar_3b067_24 : decode cJ2_getChar_3b067 24 = .ok (.invokespecial 56, 3) := by decide +kernel
theorem dJ2_getChar_3b067_27 : decode cJ2_getChar_3b067 27 = .ok (.athrow, 1) := by decide +kernel
theorem dJ2_getChar_3b067_28 : decode cJ2_getChar_3b067 28 = .ok (.iload_n 1, 1) := by decide +kernel
theorem dJ2_getChar_3b067_29 : decode cJ2_getChar_3b067 29 = .ok (.iconst 1, 1) := by decide +kernel
theorem dJ2_getChar_3b067_30 : decode cJ2_getChar_3b067 30 = .ok (.ishl, 1) := by decide +kernel
theorem dJ2_getChar_3b067_31 : decode cJ2_getChar_3b067 31 = .ok (.istore_n 1, 1) := by decide +kernel
theorem dJ2_getChar_3b067_32 : decode cJ2_getChar_3b067 32 = .ok (.aload_n 0, 1) := by decide +kernel
theorem dJ2_getChar_3b067_33 : decode cJ2_getChar_3b067 33 = .ok (.iload_n 1, 1) := by decide +kernel
theorem dJ2_getChar_3b067_34 : decode cJ2_getChar_3b067 34 = .ok (.iinc 1 1, 3) := by decide +kernel
theorem dJ2_getChar_3b067_37 : decode cJ2_getChar_3b067 37 = .ok (.baload, 1) := by decide +kernel
theorem dJ2_getChar_3b067_38 : decode cJ2_getChar_3b067 38 = .ok (.sipush 255, 3) := by decide +kernel
theorem dJ2_getChar_3b067_41 : decode cJ2_getChar_3b067 41 = .ok (.iand, 1) := by decide +kernel
theorem dJ2_getChar_3b067_42 : decode cJ2_getChar_3b067 42 = .ok (.getstatic 59, 3) := by decide +kernel
theorem dJ2_getChar_3b067_45 : decode cJ2_getChar_3b067 45 = .ok (.ishl, 1) := by decide +kernel
theorem dJ2_getChar_3b067_46 : decode cJ2_getChar_3b067 46 = .ok (.aload_n 0, 1) := by decide +kernel
theorem dJ2_getChar_3b067_47 : decode cJ2_getChar_3b067 47 = .ok (.iload_n 1, 1) := by decide +kernel
theorem dJ2_getChar_3b067_48 : decode cJ2_getChar_3b067 48 = .ok (.baload, 1) := by decide +kernel
theorem dJ2_getChar_3b067_49 : decode cJ2_getChar_3b067 49 = .ok (.sipush 255, 3) := by decide +kernel
theorem dJ2_getChar_3b067_52 : decode cJ2_getChar_3b067 52 = .ok (.iand, 1) := by decide +kernel
theorem dJ2_getChar_3b067_53 : decode cJ2_getChar_3b067 53 = .ok (.getstatic 63, 3) := by decide +kernel
theorem dJ2_getChar_3b067_56 : decode cJ2_getChar_3b067 56 = .ok (.ishl, 1) := by decide +kernel
theorem dJ2_getChar_3b067_57 : decode cJ2_getChar_3b067 57 = .ok (.ior, 1) := by decide +kernel
theorem dJ2_getChar_3b067_58 : decode cJ2_getChar_3b067 58 = .ok (.i2c, 1) := by decide +kernel
theorem dJ2_getChar_3b067_59 : decode cJ2_getChar_3b067 59 = .ok (.ireturn, 1) := by decide +kernel
theorem dJ2_length_9d52b_0 : decode cJ2_length_9d52b 0 = .ok (.aload_n 0, 1) := by decide +kernel
theorem dJ2_length_9d52b_1 : decode cJ2_length_9d52b 1 = .ok (.arraylength, 1) := by decide +kernel
theorem dJ2_length_9d52b_2 : decode cJ2_length_9d52b 2 = .ok (.iconst 1, 1) := by decide +kernel
theorem dJ2_length_9d52b_3 : decode cJ2_length_9d52b 3 = .ok (.ishr, 1) := by decide +kernel
theorem dJ2_length_9d52b_4 : decode cJ2_length_9d52b 4 = .ok (.ireturn, 1) := by decide +kernel
theorem dJ2_indexOf_4cfef_0 : decode cJ2_indexOf_4cfef 0 = .ok (.iload_n 2, 1) := by decide +kernel
theorem dJ2_indexOf_4cfef_1 : decode cJ2_indexOf_4cfef 1 = .ok (.iconst 0, 1) := by decide +kernel
theorem dJ2_indexOf_4cfef_2 : decode cJ2_indexOf_4cfef 2 = .ok (.invokestatic 224, 3) := by decide +kernel
theorem dJ2_indexOf_4cfef_5 : decode cJ2_indexOf_4cfef 5 = .ok (.istore_n 2, 1) := by decide +kernel
theorem dJ2_indexOf_4cfef_6 : decode cJ2_indexOf_4cfef 6 = .ok (.iload_n 3, 1) := by decide +kernel
theorem dJ2_indexOf_4cfef_7 : decode cJ2_indexOf_4cfef 7 = .ok (.aload_n 0, 1) := by decide +kernel
theorem dJ2_indexOf_4cfef_8 : decode cJ2_indexOf_4cfef 8 = .ok (.arraylength, 1) := by decide +kernel
theorem dJ2_indexOf_4cfef_9 : decode cJ2_indexOf_4cfef 9 = .ok (.iconst 1, 1) := by decide +kernel
theorem dJ2_indexOf_4cfef_10 : decode cJ2_indexOf_4cfef 10 = .ok (.ishr, 1) := by decide +kernel
theorem dJ2_indexOf_4cfef_11 : decode cJ2_indexOf_4cfef 11 = .ok (.invokestatic 183, 3) := by decide +kernel
theorem dJ2_indexOf_4cfef_14 : decode cJ2_indexOf_4cfef 14 = .ok (.istore_n 3, 1) := by decide +kernel
theorem dJ2_indexOf_4cfef_15 : decode cJ2_indexOf_4cfef 15 = .ok (.iload_n 2, 1) := by decide +kernel
theorem dJ2_indexOf_4cfef_16 : decode cJ2_indexOf_4cfef 16 = .ok (.iload_n 3, 1) := by decide +kernel
theorem dJ2_indexOf_4cfef_17 : decode cJ2_indexOf_4cfef 17 = .ok (.if_icmp .lt 5, 3) := by decide +kernel
theorem dJ2_indexOf_4cfef_20 : decode cJ2_indexOf_4cfef 20 = .ok (.iconst (-1), 1) := by decide +kernel
theorem dJ2_indexOf_4cfef_21 : decode cJ2_indexOf_4cfef 21 = .ok (.ireturn, 1) := by decide +kernel
theorem dJ2_indexOf_4cfef_22 : decode cJ2_indexOf_4cfef 22 = .ok (.iload_n 1, 1) := by decide +kernel
theorem dJ2_indexOf_4cfef_23 : decode cJ2_indexOf_4cfef 23 = .ok (.ldc 227, 2) := by decide +kernel
theorem dJ2_indexOf_4cfef_25 : decode cJ2_indexOf_4cfef 25 = .ok (.if_icmp .ge 11, 3) := by decide +kernel
theorem dJ2_indexOf_4cfef_28 : decode cJ2_indexOf_4cfef 28 = .ok (.aload_n 0, 1) := by decide +kernel
theorem dJ2_indexOf_4cfef_29 : decode cJ2_indexOf_4cfef 29 = .ok (.iload_n 1, 1) := by decide +kernel
theorem dJ2_indexOf_4cfef_30 : decode cJ2_indexOf_4cfef 30 = .ok (.iload_n 2, 1) := by decide +kernel
theorem dJ2_indexOf_4cfef_31 : decode cJ2_indexOf_4cfef 31 = .ok (.iload_n 3, 1) := by decide +kernel
theorem dJ2_indexOf_4cfef_32 : decode cJ2_indexOf_4cfef 32 = .ok (.invokestatic 228, 3) := by decide +kernel
theorem dJ2_indexOf_4cfef_35 : decode cJ2_indexOf_4cfef 35 = .ok (.ireturn, 1) := by decide +kernel
theorem dJ2_indexOf_4cfef_36 : decode cJ2_indexOf_4cfef 36 = .ok (.aload_n 0, 1) := by decide +kernel
theorem dJ2_indexOf_4cfef_37 : decode cJ2_indexOf_4cfef 37 = .ok (.iload_n 1, 1) := by decide +kernel
theorem dJ2_indexOf_4cfef_38 : decode cJ2_indexOf_4cfef 38 = .ok (.iload_n 2, 1) := by decide +kernel
theorem dJ2_indexOf_4cfef_39 : decode cJ2_indexOf_4cfef 39 = .ok (.iload_n 3, 1) := by decide +kernel
theorem dJ2_indexOf_4cfef_40 : decode cJ2_indexOf_4cfef 40 = .ok (.invokestatic 232, 3) := by decide +kernel
theorem dJ2_indexOf_4cfef_43 : decode cJ2_indexOf_4cfef 43 = .ok (.ireturn, 1) := by decide +kernel
theorem dJ2_indexOfChar_4cfef_0 : decode cJ2_indexOfChar_4cfef 0 = .ok (.iload_n 2, 1) := by decide +kernel
theorem dJ2_indexOfChar_4cfef_1 : decode cJ2_indexOfChar_4cfef 1 = .ok (.iload_n 3, 1) := by decide +kernel
theorem dJ2_indexOfChar_4cfef_2 : decode cJ2_indexOfChar_4cfef 2 = .ok (.aload_n 0, 1) := by decide +kernel
theorem dJ2_indexOfChar_4cfef_3 : decode cJ2_indexOfChar_4cfef 3 = .ok (.invokestatic 96, 3) := by decide +kernel
theorem dJ2_indexOfChar_4cfef_6 : decode cJ2_indexOfChar_4cfef 6 = .ok (.aload_n 0, 1) := by decide +kernel
theorem dJ2_indexOfChar_4cfef_7 : decode cJ2_indexOfChar_4cfef 7 = .ok (.iload_n 1, 1) := by decide +kernel
theorem dJ2_indexOfChar_4cfef_8 : decode cJ2_indexOfChar_4cfef 8 = .ok (.iload_n 2, 1) := by decide +kernel
theorem dJ2_indexOfChar_4cfef_9 : decode cJ2_indexOfChar_4cfef 9 = .ok (.iload_n 3, 1) := by decide +kernel
theorem dJ2_indexOfChar_4cfef_10 : decode cJ2_indexOfChar_4cfef 10 = .ok (.invokestatic 244, 3) := by decide +kernel
theorem dJ2_indexOfChar_4cfef_13 : decode cJ2_indexOfChar_4cfef 13 = .ok (.ireturn, 1) := by decide +kernel
theorem dJ2_indexOfCharUnsafe_4cfef_0 : decode cJ2_indexOfCharUnsafe_4cfef 0 = .ok (.iload_n 2, 1) := by decide +kernel
theorem dJ2_indexOfCharUnsafe_4cfef_1 : decode cJ2_indexOfCharUnsafe_4cfef 1 = .ok (.istore 4, 2) := by decide +kernel
theorem dJ2_indexOfCharUnsafe_4cfef_3 : decode cJ2_indexOfCharUnsafe_4cfef 3 = .ok (.iload 4, 2) := by decide +kernel
theorem dJ2_indexOfCharUnsafe_4cfef_5 : decode cJ2_indexOfCharUnsafe_4cfef 5 = .ok (.iload_n 3, 1) := by decide +kernel
theorem dJ2_indexOfCharUnsafe_4cfef_6 : decode cJ2_indexOfCharUnsafe_4cfef 6 = .ok (.if_icmp .ge 22, 3) := by decide +kernel
theorem dJ2_indexOfCharUnsafe_4cfef_9 : decode cJ2_indexOfCharUnsafe_4cfef 9 = .ok (.aload_n 0, 1) := by decide +kernel
theorem dJ2_indexOfCharUnsafe_4cfef_10 : decode cJ2_indexOfCharUnsafe_4cfef 10 = .ok (.iload 4, 2) := by decide +kernel
theorem dJ2_indexOfCharUnsafe_4cfef_12 : decode cJ2_indexOfCharUnsafe_4cfef 12 = .ok (.invokestatic 71, 3) := by decide +kernel
theorem dJ2_indexOfCharUnsafe_4cfef_15 : decode cJ2_indexOfCharUnsafe_4cfef 15 = .ok (.iload_n 1, 1) := by decide +kernel
theorem dJ2_indexOfCharUnsafe_4cfef_16 : decode cJ2_indexOfCharUnsafe_4cfef 16 = .ok (.if_icmp .ne 6, 3) := by decide +kernel
theorem dJ2_indexOfCharUnsafe_4cfef_19 : decode cJ2_indexOfCharUnsafe_4cfef 19 = .ok (.iload 4, 2) := by decide +kernel
theorem dJ2_indexOfCharUnsafe_4cfef_21 : decode cJ2_indexOfCharUnsafe_4cfef 21 = .ok (.ireturn, 1) := by decide +kernel
theorem dJ2_indexOfCharUnsafe_4cfef_22 : decode cJ2_indexOfCharUnsafe_4cfef 22 = .ok (.iinc 4 1, 3) := by decide +kernel
theorem dJ2_indexOfCharUnsafe_4cfef_25 : decode cJ2_indexOfCharUnsafe_4cfef 25 = .ok (.goto (-22), 3) := by decide +kernel
theorem dJ2_indexOfCharUnsafe_4cfef_28 : decode cJ2_indexOfCharUnsafe_4cfef 28 = .ok (.iconst (-1), 1) := by decide +kernel
theorem dJ2_indexOfCharUnsafe_4cfef_29 : decode cJ2_indexOfCharUnsafe_4cfef 29 = .ok (.ireturn, 1) := by decide +kernel
theorem dJ2_indexOfSupplementary_4cfef_0 : decode cJ2_indexOfSupplementary_4cfef 0 = .ok (.iload_n 1, 1) := by decide +kernel
theorem dJ2_indexOfSupplementary_4cfef_1 : decode cJ2_indexOfSupplementary_4cfef 1 = .ok (.invokestatic 164, 3) := by decide +kernel
theorem dJ2_indexOfSupplementary_4cfef_4 : decode cJ2_indexOfSupplementary_4cfef 4 = .ok (.ifCond .eq 65, 3) := by decide +kernel
theorem dJ2_indexOfSupplementary_4cfef_7 : decode cJ2_indexOfSupplementary_4cfef 7 = .ok (.iload_n 1, 1) := by decide +kernel
theorem dJ2_indexOfSupplementary_4cfef_8 : decode cJ2_indexOfSupplementary_4cfef 8 = .ok (.invokestatic 157, 3) := by decide +kernel
theorem dJ2_indexOfSupplementary_4cfef_11 : decode cJ2_indexOfSupplementary_4cfef 11 = .ok (.istore 4, 2) := by decide +kernel
theorem dJ2_indexOfSupplementary_4cfef_13 : decode cJ2_indexOfSupplementary_4cfef 13 = .ok (.iload_n 1, 1) := by decide +kernel
theorem dJ2_indexOfSupplementary_4cfef_14 : decode cJ2_indexOfSupplementary_4cfef 14 = .ok (.invokestatic 161, 3) := by decide +kernel
theorem dJ2_indexOfSupplementary_4cfef_17 : decode cJ2_indexOfSupplementary_4cfef 17 = .ok (.istore 5, 2) := by decide +kernel
theorem dJ2_indexOfSupplementary_4cfef_19 : decode cJ2_indexOfSupplementary_4cfef 19 = .ok (.iload_n 2, 1) := by decide +kernel
theorem dJ2_indexOfSupplementary_4cfef_20 : decode cJ2_indexOfSupplementary_4cfef 20 = .ok (.iload_n 3, 1) := by decide +kernel
theorem dJ2_indexOfSupplementary_4cfef_21 : decode cJ2_indexOfSupplementary_4cfef 21 = .ok (.aload_n 0, 1) := by decide +kernel
theorem dJ2_indexOfSupplementary_4cfef_22 : decode cJ2_indexOfSupplementary_4cfef 22 = .ok (.invokestatic 96, 3) := by decide +kernel
theorem dJ2_indexOfSupplementary_4cfef_25 : decode cJ2_indexOfSupplementary_4cfef 25 = .ok (.iload_n 2, 1) := by decide +kernel
theorem dJ2_indexOfSupplementary_4cfef_26 : decode cJ2_indexOfSupplementary_4cfef 26 = .ok (.istore 6, 2) := by decide +kernel
theorem dJ2_indexOfSupplementary_4cfef_28 : decode cJ2_indexOfSupplementary_4cfef 28 = .ok (.iload 6, 2) := by decide +kernel
theorem dJ2_indexOfSupplementary_4cfef_30 : decode cJ2_indexOfSupplementary_4cfef 30 = .ok (.iload_n 3, 1) := by decide +kernel
theorem dJ2_indexOfSupplementary_4cfef_31 : decode cJ2_indexOfSupplementary_4cfef 31 = .ok (.iconst 1, 1) := by decide +kernel
theorem dJ2_indexOfSupplementary_4cfef_32 : decode cJ2_indexOfSupplementary_4cfef 32 = .ok (.isub, 1) := by decide +kernel
theorem dJ2_indexOfSupplementary_4cfef_33 : decode cJ2_indexOfSupplementary_4cfef 33 = .ok (.if_icmp .ge 36, 3) := by decide +kernel
theorem dJ2_indexOfSupplementary_4cfef_36 : decode cJ2_indexOfSupplementary_4cfef 36 = .ok (.aload_n 0, 1) := by decide +kernel
theorem dJ2_indexOfSupplementary_4cfef_37 : decode cJ2_indexOfSupplementary_4cfef 37 = .ok (.iload 6, 2) := by decide +kernel
theorem dJ2_indexOfSupplementary_4cfef_39 : decode cJ2_indexOfSupplementary_4cfef 39 = .ok (.invokestatic 71, 3) := by decide +kernel
theorem dJ2_indexOfSupplementary_4cfef_42 : decode cJ2_indexOfSupplementary_4cfef 42 = .ok (.iload 4, 2) := by decide +kernel
theorem dJ2_indexOfSupplementary_4cfef_44 : decode cJ2_indexOfSupplementary_4cfef 44 = .ok (.if_icmp .ne 19, 3) := by decide +kernel
theorem dJ2_indexOfSupplementary_4cfef_47 : decode cJ2_indexOfSupplementary_4cfef 47 = .ok (.aload_n 0, 1) := by decide +kernel
theorem dJ2_indexOfSupplementary_4cfef_48 : decode cJ2_indexOfSupplementary_4cfef 48 = .ok (.iload 6, 2) := by decide +kernel
theorem dJ2_indexOfSupplementary_4cfef_50 : decode cJ2_indexOfSupplementary_4cfef 50 = .ok (.iconst 1, 1) := by decide +kernel
theorem dJ2_indexOfSupplementary_4cfef_51 : decode cJ2_indexOfSupplementary_4cfef 51 = .ok (.iadd, 1) := by decide +kernel
theorem dJ2_indexOfSupplementary_4cfef_52 : decode cJ2_indexOfSupplementary_4cfef 52 = .ok (.invokestatic 71, 3) := by decide +kernel
theorem dJ2_indexOfSupplementary_4cfef_55 : decode cJ2_indexOfSupplementary_4cfef 55 = .ok (.iload 5, 2) := by decide +kernel
theorem dJ2_indexOfSupplementary_4cfef_57 : decode cJ2_indexOfSupplementary_4cfef 57 = .ok (.if_icmp .ne 6, 3) := by decide +kernel
theorem dJ2_indexOfSupplementary_4cfef_60 : decode cJ2_indexOfSupplementary_4cfef 60 = .ok (.iload 6, 2) := by decide +kernel
theorem dJ2_indexOfSupplementary_4cfef_62 : decode cJ2_indexOfSupplementary_4cfef 62 = .ok (.ireturn, 1) := by decide +kernel
theorem dJ2_indexOfSupplementary_4cfef_63 : decode cJ2_indexOfSupplementary_4cfef 63 = .ok (.iinc 6 1, 3) := by decide +kernel
theorem dJ2_indexOfSupplementary_4cfef_66 : decode cJ2_indexOfSupplementary_4cfef 66 = .ok (.goto (-38), 3) := by decide +kernel
theorem dJ2_indexOfSupplementary_4cfef_69 : decode cJ2_indexOfSupplementary_4cfef 69 = .ok (.iconst (-1), 1) := by decide +kernel
theorem dJ2_indexOfSupplementary_4cfef_70 : decode cJ2_indexOfSupplementary_4cfef 70 = .ok (.ireturn, 1) := by decide +kernel
theorem dJ2_charAt_3b067_0 : decode cJ2_charAt_3b067 0 = .ok (.iload_n 1, 1) := by decide +kernel
theorem dJ2_charAt_3b067_1 : decode cJ2_charAt_3b067 1 = .ok (.aload_n 0, 1) := by decide +kernel
theorem dJ2_charAt_3b067_2 : decode cJ2_charAt_3b067 2 = .ok (.invokestatic 67, 3) := by decide +kernel
theorem dJ2_charAt_3b067_5 : decode cJ2_charAt_3b067 5 = .ok (.aload_n 0, 1) := by decide +kernel
theorem dJ2_charAt_3b067_6 : decode cJ2_charAt_3b067 6 = .ok (.iload_n 1, 1) := by decide +kernel
theorem dJ2_charAt_3b067_7 : decode cJ2_charAt_3b067 7 = .ok (.invokestatic 71, 3) := by decide +kernel
theorem dJ2_charAt_3b067_10 : decode cJ2_charAt_3b067 10 = .ok (.ireturn, 1) := by decide +kernel
theorem dJ2_checkIndex_2214a_0 : decode cJ2_checkIndex_2214a 0 = .ok (.iload_n 0, 1) := by decide +kernel
theorem dJ2_checkIndex_2214a_1 : decode cJ2_checkIndex_2214a 1 = .ok (.aload_n 1, 1) := by decide +kernel
theorem dJ2_checkIndex_2214a_2 : decode cJ2_checkIndex_2214a 2 = .ok (.invokestatic 48, 3) := by decide +kernel
theorem dJ2_checkIndex_2214a_5 : decode cJ2_checkIndex_2214a 5 = .ok (.invokestatic 414, 3) := by decide +kernel
theorem dJ2_checkIndex_2214a_8 : decode cJ2_checkIndex_2214a 8 = .ok (.return_, 1) := by decide +kernel
theorem dJ2_checkBoundsBeginEnd_d044e_0 : decode cJ2_checkBoundsBeginEnd_d044e 0 = .ok (.iload_n 0, 1) := by decide +kernel
theorem dJ2_checkBoundsBeginEnd_d044e_1 : decode cJ2_checkBoundsBeginEnd_d044e 1 = .ok (.iload_n 1, 1) := by decide +kernel
theorem dJ2_checkBoundsBeginEnd_d044e_2 : decode cJ2_checkBoundsBeginEnd_d044e 2 = .ok (.aload_n 2, 1) := by decide +kernel
theorem dJ2_checkBoundsBeginEnd_d044e_3 : decode cJ2_checkBoundsBeginEnd_d044e 3 = .ok (.invokestatic 48, 3) := by decide +kernel
theorem dJ2_checkBoundsBeginEnd_d044e_6 : decode cJ2_checkBoundsBeginEnd_d044e 6 = .ok (.invokestatic 241, 3) := by decide +kernel
theorem dJ2_checkBoundsBeginEnd_d044e_9 : decode cJ2_checkBoundsBeginEnd_d044e 9 = .ok (.return_, 1) := by decide +kernel
theorem dJ3_checkIndex_8e157_0 : decode cJ3_checkIndex_8e157 0 = .ok (.iload_n 0, 1) := by decide +kernel
theorem dJ3_checkIndex_8e157_1 : decode cJ3_checkIndex_8e157 1 = .ok (.ifCond .lt 8, 3) := by decide +kernel
theorem dJ3_checkIndex_8e157_4 : decode cJ3_checkIndex_8e157 4 = .ok (.iload_n 0, 1) := by decide +kernel
theorem dJ3_checkIndex_8e157_5 : decode cJ3_checkIndex_8e157 5 = .ok (.iload_n 1, 1) := by decide +kernel
theorem dJ3_checkIndex_8e157_6 : decode cJ3_checkIndex_8e157 6 = .ok (.if_icmp .lt 10, 3) := by decide +kernel
theorem dJ3_checkIndex_8e157_9 : decode cJ3_checkIndex_8e157 9 = .ok (.aload_n 2, 1) := by decide +kernel
theorem dJ3_checkIndex_8e157_10 : decode cJ3_checkIndex_8e157 10 = .ok (.iload_n 0, 1) := by decide +kernel
theorem dJ3_checkIndex_8e157_11 : decode cJ3_checkIndex_8e157 11 = .ok (.iload_n 1, 1) := by decide +kernel
theorem dJ3_checkIndex_8e157_12 : decode cJ3_checkIndex_8e157 12 = .ok (.invokestatic 95, 3) := by decide +kernel
theorem dJ3_checkIndex_8e157_15 : decode cJ3_checkIndex_8e157 15 = .ok (.athrow, 1) := by decide +kernel
theorem dJ3_checkIndex_8e157_16 : decode cJ3_checkIndex_8e157 16 = .ok (.iload_n 0, 1) := by decide +kernel
theorem dJ3_checkIndex_8e157_17 : decode cJ3_checkIndex_8e157 17 = .ok (.ireturn, 1) := by decide +kernel
theorem dJ3_checkFromToIndex_8c36e_0 : decode cJ3_checkFromToIndex_8c36e 0 = .ok (.iload_n 0, 1) := by decide +kernel
theorem dJ3_checkFromToIndex_8c36e_1 : decode cJ3_checkFromToIndex_8c36e 1 = .ok (.ifCond .lt 13, 3) := by decide +kernel
theorem dJ3_checkFromToIndex_8c36e_4 : decode cJ3_checkFromToIndex_8c36e 4 = .ok (.iload_n 0, 1) := by decide +kernel
theorem dJ3_checkFromToIndex_8c36e_5 : decode cJ3_checkFromToIndex_8c36e 5 = .ok (.iload_n 1, 1) := by decide +kernel
theorem dJ3_checkFromToIndex_8c36e_6 : decode cJ3_checkFromToIndex_8c36e 6 = .ok (.if_icmp .gt 8, 3) := by decide +kernel
theorem dJ3_checkFromToIndex_8c36e_9 : decode cJ3_checkFromToIndex_8c36e 9 = .ok (.iload_n 1, 1) := by decide +kernel
theorem dJ3_checkFromToIndex_8c36e_10 : decode cJ3_checkFromToIndex_8c36e 10 = .ok (.iload_n 2, 1) := by decide +kernel
theorem dJ3_checkFromToIndex_8c36e_11 : decode cJ3_checkFromToIndex_8c36e 11 = .ok (.if_icmp .le 11, 3) := by decide +kernel
theorem dJ3_checkFromToIndex_8c36e_14 : decode cJ3_checkFromToIndex_8c36e 14 = .ok (.aload_n 3, 1) := by decide +kernel
theorem dJ3_checkFromToIndex_8c36e_15 : decode cJ3_checkFromToIndex_8c36e 15 = .ok (.iload_n 0, 1) := by decide +kernel
theorem dJ3_checkFromToIndex_8c36e_16 : decode cJ3_checkFromToIndex_8c36e 16 = .ok (.iload_n 1, 1) := by decide +kernel
theorem dJ3_checkFromToIndex_8c36e_17 : decode cJ3_checkFromToIndex_8c36e 17 = .ok (.iload_n 2, 1) := by decide +kernel
theorem dJ3_checkFromToIndex_8c36e_18 : decode cJ3_checkFromToIndex_8c36e 18 = .ok (.invokestatic 99, 3) := by decide +kernel
theorem dJ3_checkFromToIndex_8c36e_21 : decode cJ3_checkFromToIndex_8c36e 21 = .ok (.athrow, 1) := by decide +kernel
theorem dJ3_checkFromToIndex_8c36e_22 : decode cJ3_checkFromToIndex_8c36e 22 = .ok (.iload_n 0, 1) := by decide +kernel
theorem dJ3_checkFromToIndex_8c36e_23 : decode cJ3_checkFromToIndex_8c36e 23 = .ok (.ireturn, 1) := by decide +kernel
theorem dL_law_0 : decode cL_law 0 = .ok (.new 7, 3) := by decide +kernel
theorem dL_law_3 : decode cL_law 3 = .ok (.dup, 1) := by decide +kernel
theorem dL_law_4 : decode cL_law 4 = .ok (.invokespecial 9, 3) := by decide +kernel
theorem dL_law_7 : decode cL_law 7 = .ok (.astore_n 1, 1) := by decide +kernel
theorem dL_law_8 : decode cL_law 8 = .ok (.new 10, 3) := by decide +kernel
theorem dL_law_11 : decode cL_law 11 = .ok (.dup, 1) := by decide +kernel
theorem dL_law_12 : decode cL_law 12 = .ok (.invokespecial 12, 3) := by decide +kernel
theorem dL_law_15 : decode cL_law 15 = .ok (.astore_n 2, 1) := by decide +kernel
theorem dL_law_16 : decode cL_law 16 = .ok (.iconst 0, 1) := by decide +kernel
theorem dL_law_17 : decode cL_law 17 = .ok (.istore_n 3, 1) := by decide +kernel
theorem dL_law_18 : decode cL_law 18 = .ok (.iload_n 3, 1) := by decide +kernel
theorem dL_law_19 : decode cL_law 19 = .ok (.aload_n 0, 1) := by decide +kernel
theorem dL_law_20 : decode cL_law 20 = .ok (.arraylength, 1) := by decide +kernel
theorem dL_law_21 : decode cL_law 21 = .ok (.bipush 7, 2) := by decide +kernel
theorem dL_law_23 : decode cL_law 23 = .ok (.isub, 1) := by decide +kernel
theorem dL_law_24 : decode cL_law 24 = .ok (.if_icmp .gt 905, 3) := by decide +kernel
theorem dL_law_27 : decode cL_law 27 = .ok (.aload_n 0, 1) := by decide +kernel
theorem dL_law_28 : decode cL_law 28 = .ok (.iload_n 3, 1) := by decide +kernel
theorem dL_law_29 : decode cL_law 29 = .ok (.iaload, 1) := by decide +kernel
theorem dL_law_30 : decode cL_law 30 = .ok (.bipush 31, 2) := by decide +kernel
theorem dL_law_32 : decode cL_law 32 = .ok (.iand, 1) := by decide +kernel
theorem dL_law_33 : decode cL_law 33 = .ok (.tableswitch 890 0 22 #[107, 140, 173, 206, 239, 283, 358, 381, 404, 447, 480, 543, 566, 579, 602, 625, 658, 691, 734, 788, 831, 844, 867], 107) := by decide +kernel
theorem dL_law_140 : decode cL_law 140 = .ok (.aload_n 1, 1) := by decide +kernel
theorem dL_law_141 : decode cL_law 141 = .ok (.aload_n 0, 1) := by decide +kernel
theorem dL_law_142 : decode cL_law 142 = .ok (.iload_n 3, 1) := by decide +kernel
theorem dL_law_143 : decode cL_law 143 = .ok (.iconst 1, 1) := by decide +kernel
theorem dL_law_144 : decode cL_law 144 = .ok (.iadd, 1) := by decide +kernel
theorem dL_law_145 : decode cL_law 145 = .ok (.iaload, 1) := by decide +kernel
theorem dL_law_146 : decode cL_law 146 = .ok (.aload_n 0, 1) := by decide +kernel
theorem dL_law_147 : decode cL_law 147 = .ok (.iload_n 3, 1) := by decide +kernel
theorem dL_law_148 : decode cL_law 148 = .ok (.iconst 2, 1) := by decide +kernel
theorem dL_law_149 : decode cL_law 149 = .ok (.iadd, 1) := by decide +kernel
theorem dL_law_150 : decode cL_law 150 = .ok (.iaload, 1) := by decide +kernel
theorem dL_law_151 : decode cL_law 151 = .ok (.invokevirtual 13, 3) := by decide +kernel
theorem dL_law_154 : decode cL_law 154 = .ok (.aload_n 2, 1) := by decide +kernel
theorem dL_law_155 : decode cL_law 155 = .ok (.aload_n 0, 1) := by decide +kernel
theorem dL_law_156 : decode cL_law 156 = .ok (.iload_n 3, 1) := by decide +kernel
theorem dL_law_157 : decode cL_law 157 = .ok (.iconst 1, 1) := by decide +kernel
theorem dL_law_158 : decode cL_law 158 = .ok (.iadd, 1) := by decide +kernel
theorem dL_law_159 : decode cL_law 159 = .ok (.iaload, 1) := by decide +kernel
theorem dL_law_160 : decode cL_law 160 = .ok (.aload_n 0, 1) := by decide +kernel
theorem dL_law_161 : decode cL_law 161 = .ok (.iload_n 3, 1) := by decide +kernel
theorem dL_law_162 : decode cL_law 162 = .ok (.iconst 2, 1) := by decide +kernel
theorem dL_law_163 : decode cL_law 163 = .ok (.iadd, 1) := by decide +kernel
theorem dL_law_164 : decode cL_law 164 = .ok (.iaload, 1) := by decide +kernel
theorem dL_law_165 : decode cL_law 165 = .ok (.invokevirtual 17, 3) := by decide +kernel
theorem dL_law_168 : decode cL_law 168 = .ok (.if_icmp .eq 755, 3) := by decide +kernel
theorem dL_law_171 : decode cL_law 171 = .ok (.iconst 0, 1) := by decide +kernel
theorem dL_law_172 : decode cL_law 172 = .ok (.ireturn, 1) := by decide +kernel
theorem dL_law_173 : decode cL_law 173 = .ok (.aload_n 1, 1) := by decide +kernel
theorem dL_law_174 : decode cL_law 174 = .ok (.aload_n 0, 1) := by decide +kernel
theorem dL_law_175 : decode cL_law 175 = .ok (.iload_n 3, 1) := by decide +kernel
theorem dL_law_176 : decode cL_law 176 = .ok (.iconst 1, 1) := by decide +kernel
theorem dL_law_177 : decode cL_law 177 = .ok (.iadd, 1) := by decide +kernel
theorem dL_law_178 : decode cL_law 178 = .ok (.iaload, 1) := by decide +kernel
theorem dL_law_179 : decode cL_law 179 = .ok (.aload_n 0, 1) := by decide +kernel
theorem dL_law_180 : decode cL_law 180 = .ok (.iload_n 3, 1) := by decide +kernel
theorem dL_law_181 : decode cL_law 181 = .ok (.iconst 2, 1) := by decide +kernel
theorem dL_law_182 : decode cL_law 182 = .ok (.iadd, 1) := by decide +kernel
theorem dL_law_183 : decode cL_law 183 = .ok (.iaload, 1) := by decide +kernel
theorem dL_law_184 : decode cL_law 184 = .ok (.invokevirtual 18, 3) := by decide +kernel
theorem dL_law_187 : decode cL_law 187 = .ok (.aload_n 2, 1) := by decide +kernel
theorem dL_law_188 : decode cL_law 188 = .ok (.aload_n 0, 1) := by decide +kernel
theorem dL_law_189 : decode cL_law 189 = .ok (.iload_n 3, 1) := by decide +kernel
theorem dL_law_190 : decode cL_law 190 = .ok (.iconst 1, 1) := by decide +kernel
theorem dL_law_191 : decode cL_law 191 = .ok (.iadd, 1) := by decide +kernel
theorem dL_law_192 : decode cL_law 192 = .ok (.iaload, 1) := by decide +kernel
theorem dL_law_193 : decode cL_law 193 = .ok (.aload_n 0, 1) := by decide +kernel
theorem dL_law_194 : decode cL_law 194 = .ok (.iload_n 3, 1) := by decide +kernel
theorem dL_law_195 : decode cL_law 195 = .ok (.iconst 2, 1) := by decide +kernel
theorem dL_law_196 : decode cL_law 196 = .ok (.iadd, 1) := by decide +kernel
theorem dL_law_197 : decode cL_law 197 = .ok (.iaload, 1) := by decide +kernel
theorem dL_law_198 : decode cL_law 198 = .ok (.invokevirtual 22, 3) := by decide +kernel
theorem dL_law_201 : decode cL_law 201 = .ok (.if_icmp .eq 722, 3) := by decide +kernel
theorem dL_law_204 : decode cL_law 204 = .ok (.iconst 0, 1) := by decide +kernel
theorem dL_law_205 : decode cL_law 205 = .ok (.ireturn, 1) := by decide +kernel
theorem dL_law_206 : decode cL_law 206 = .ok (.aload_n 1, 1) := by decide +kernel
theorem dL_law_207 : decode cL_law 207 = .ok (.aload_n 0, 1) := by decide +kernel
theorem dL_law_208 : decode cL_law 208 = .ok (.iload_n 3, 1) := by decide +kernel
theorem dL_law_209 : decode cL_law 209 = .ok (.iconst 1, 1) := by decide +kernel
theorem dL_law_210 : decode cL_law 210 = .ok (.iadd, 1) := by decide +kernel
theorem dL_law_211 : decode cL_law 211 = .ok (.iaload, 1) := by decide +kernel
theorem dL_law_212 : decode cL_law 212 = .ok (.aload_n 0, 1) := by decide +kernel
theorem dL_law_213 : decode cL_law 213 = .ok (.iload_n 3, 1) := by decide +kernel
theorem dL_law_214 : decode cL_law 214 = .ok (.iconst 2, 1) := by decide +kernel
theorem dL_law_215 : decode cL_law 215 = .ok (.iadd, 1) := by decide +kernel
theorem dL_law_216 : decode cL_law 216 = .ok (.iaload, 1) := by decide +kernel
theorem dL_law_217 : decode cL_law 217 = .ok (.invokevirtual 23, 3) := by decide +kernel
theorem dL_law_220 : decode cL_law 220 = .ok (.aload_n 2, 1) := by decide +kernel
theorem dL_law_221 : decode cL_law 221 = .ok (.aload_n 0, 1) := by decide +kernel
theorem dL_law_222 : decode cL_law 222 = .ok (.iload_n 3, 1) := by decide +kernel
theorem dL_law_223 : decode cL_law 223 = .ok (.iconst 1, 1) := by decide +kernel
theorem dL_law_224 : decode cL_law 224 = .ok (.iadd, 1) := by decide +kernel
theorem dL_law_225 : decode cL_law 225 = .ok (.iaload, 1) := by decide +kernel
theorem dL_law_226 : decode cL_law 226 = .ok (.aload_n 0, 1) := by decide +kernel
theorem dL_law_227 : decode cL_law 227 = .ok (.iload_n 3, 1) := by decide +kernel
theorem dL_law_228 : decode cL_law 228 = .ok (.iconst 2, 1) := by decide +kernel
theorem dL_law_229 : decode cL_law 229 = .ok (.iadd, 1) := by decide +kernel
theorem dL_law_230 : decode cL_law 230 = .ok (.iaload, 1) := by decide +kernel
theorem dL_law_231 : decode cL_law 231 = .ok (.invokevirtual 26, 3) := by decide +kernel
theorem dL_law_234 : decode cL_law 234 = .ok (.if_icmp .eq 689, 3) := by decide +kernel
theorem dL_law_237 : decode cL_law 237 = .ok (.iconst 0, 1) := by decide +kernel
theorem dL_law_238 : decode cL_law 238 = .ok (.ireturn, 1) := by decide +kernel
theorem dL_law_239 : decode cL_law 239 = .ok (.aload_n 1, 1) := by decide +kernel
theorem dL_law_240 : decode cL_law 240 = .ok (.aload_n 0, 1) := by decide +kernel
theorem dL_law_241 : decode cL_law 241 = .ok (.iload_n 3, 1) := by decide +kernel
theorem dL_law_242 : decode cL_law 242 = .ok (.iconst 1, 1) := by decide +kernel
theorem dL_law_243 : decode cL_law 243 = .ok (.iadd, 1) := by decide +kernel
theorem dL_law_244 : decode cL_law 244 = .ok (.iaload, 1) := by decide +kernel
theorem dL_law_245 : decode cL_law 245 = .ok (.aload_n 0, 1) := by decide +kernel
theorem dL_law_246 : decode cL_law 246 = .ok (.iload_n 3, 1) := by decide +kernel
theorem dL_law_247 : decode cL_law 247 = .ok (.iconst 2, 1) := by decide +kernel
theorem dL_law_248 : decode cL_law 248 = .ok (.iadd, 1) := by decide +kernel
theorem dL_law_249 : decode cL_law 249 = .ok (.iaload, 1) := by decide +kernel
theorem dL_law_250 : decode cL_law 250 = .ok (.invokevirtual 27, 3) := by decide +kernel
theorem dL_law_253 : decode cL_law 253 = .ok (.aload_n 2, 1) := by decide +kernel
theorem dL_law_254 : decode cL_law 254 = .ok (.aload_n 0, 1) := by decide +kernel
theorem dL_law_255 : decode cL_law 255 = .ok (.iload_n 3, 1) := by decide +kernel
theorem dL_law_256 : decode cL_law 256 = .ok (.iconst 1, 1) := by decide +kernel
theorem dL_law_257 : decode cL_law 257 = .ok (.iadd, 1) := by decide +kernel
theorem dL_law_258 : decode cL_law 258 = .ok (.iaload, 1) := by decide +kernel
theorem dL_law_259 : decode cL_law 259 = .ok (.aload_n 0, 1) := by decide +kernel
theorem dL_law_260 : decode cL_law 260 = .ok (.iload_n 3, 1) := by decide +kernel
theorem dL_law_261 : decode cL_law 261 = .ok (.iconst 2, 1) := by decide +kernel
theorem dL_law_262 : decode cL_law 262 = .ok (.iadd, 1) := by decide +kernel
theorem dL_law_263 : decode cL_law 263 = .ok (.iaload, 1) := by decide +kernel
theorem dL_law_264 : decode cL_law 264 = .ok (.invokevirtual 30, 3) := by decide +kernel
theorem dL_law_267 : decode cL_law 267 = .ok (.if_icmp .eq 656, 3) := by decide +kernel
theorem dL_law_270 : decode cL_law 270 = .ok (.iconst 0, 1) := by decide +kernel
theorem dL_law_271 : decode cL_law 271 = .ok (.ireturn, 1) := by decide +kernel
theorem dL_law_272 : decode cL_law 272 = .ok (.aload_n 1, 1) := by decide +kernel
theorem dL_law_273 : decode cL_law 273 = .ok (.aload_n 0, 1) := by decide +kernel
theorem dL_law_274 : decode cL_law 274 = .ok (.iload_n 3, 1) := by decide +kernel
theorem dL_law_275 : decode cL_law 275 = .ok (.iconst 1, 1) := by decide +kernel
theorem dL_law_276 : decode cL_law 276 = .ok (.iadd, 1) := by decide +kernel
theorem dL_law_277 : decode cL_law 277 = .ok (.iaload, 1) := by decide +kernel
theorem dL_law_278 : decode cL_law 278 = .ok (.aload_n 0, 1) := by decide +kernel
theorem dL_law_279 : decode cL_law 279 = .ok (.iload_n 3, 1) := by decide +kernel
theorem dL_law_280 : decode cL_law 280 = .ok (.iconst 2, 1) := by decide +kernel
theorem dL_law_281 : decode cL_law 281 = .ok (.iadd, 1) := by decide +kernel
theorem dL_law_282 : decode cL_law 282 = .ok (.iaload, 1) := by decide +kernel
theorem dL_law_283 : decode cL_law 283 = .ok (.aload_n 0, 1) := by decide +kernel
theorem dL_law_284 : decode cL_law 284 = .ok (.iload_n 3, 1) := by decide +kernel
theorem dL_law_285 : decode cL_law 285 = .ok (.iconst 3, 1) := by decide +kernel
theorem dL_law_286 : decode cL_law 286 = .ok (.iadd, 1) := by decide +kernel
theorem dL_law_287 : decode cL_law 287 = .ok (.iaload, 1) := by decide +kernel
theorem dL_law_288 : decode cL_law 288 = .ok (.invokevirtual 31, 3) := by decide +kernel
theorem dL_law_291 : decode cL_law 291 = .ok (.aload_n 2, 1) := by decide +kernel
theorem dL_law_292 : decode cL_law 292 = .ok (.aload_n 0, 1) := by decide +kernel
theorem dL_law_293 : decode cL_law 293 = .ok (.iload_n 3, 1) := by decide +kernel
theorem dL_law_294 : decode cL_law 294 = .ok (.iconst 1, 1) := by decide +kernel
theorem dL_law_295 : decode cL_law 295 = .ok (.iadd, 1) := by decide +kernel
theorem dL_law_296 : decode cL_law 296 = .ok (.iaload, 1) := by decide +kernel
theorem dL_law_297 : decode cL_law 297 = .ok (.aload_n 0, 1) := by decide +kernel
theorem dL_law_298 : decode cL_law 298 = .ok (.iload_n 3, 1) := by decide +kernel
theorem dL_law_299 : decode cL_law 299 = .ok (.iconst 2, 1) := by decide +kernel
theorem dL_law_300 : decode cL_law 300 = .ok (.iadd, 1) := by decide +kernel
theorem dL_law_301 : decode cL_law 301 = .ok (.iaload, 1) := by decide +kernel
theorem dL_law_302 : decode cL_law 302 = .ok (.aload_n 0, 1) := by decide +kernel
theorem dL_law_303 : decode cL_law 303 = .ok (.iload_n 3, 1) := by decide +kernel
theorem dL_law_304 : decode cL_law 304 = .ok (.iconst 3, 1) := by decide +kernel
theorem dL_law_305 : decode cL_law 305 = .ok (.iadd, 1) := by decide +kernel
theorem dL_law_306 : decode cL_law 306 = .ok (.iaload, 1) := by decide +kernel
theorem dL_law_307 : decode cL_law 307 = .ok (.invokevirtual 35, 3) := by decide +kernel
theorem dL_law_310 : decode cL_law 310 = .ok (.lcmp, 1) := by decide +kernel
theorem dL_law_311 : decode cL_law 311 = .ok (.ifCond .eq 612, 3) := by decide +kernel
theorem dL_law_314 : decode cL_law 314 = .ok (.iconst 0, 1) := by decide +kernel
theorem dL_law_315 : decode cL_law 315 = .ok (.ireturn, 1) := by decide +kernel
theorem dL_law_316 : decode cL_law 316 = .ok (.aload_n 1, 1) := by decide +kernel
theorem dL_law_317 : decode cL_law 317 = .ok (.aload_n 0, 1) := by decide +kernel
theorem dL_law_318 : decode cL_law 318 = .ok (.iload_n 3, 1) := by decide +kernel
theorem dL_law_319 : decode cL_law 319 = .ok (.iconst 1, 1) := by decide +kernel
theorem dL_law_320 : decode cL_law 320 = .ok (.iadd, 1) := by decide +kernel
theorem dL_law_321 : decode cL_law 321 = .ok (.iaload, 1) := by decide +kernel
theorem dL_law_322 : decode cL_law 322 = .ok (.aload_n 0, 1) := by decide +kernel
theorem dL_law_323 : decode cL_law 323 = .ok (.iload_n 3, 1) := by decide +kernel
theorem dL_law_324 : decode cL_law 324 = .ok (.iconst 2, 1) := by decide +kernel
theorem dL_law_325 : decode cL_law 325 = .ok (.iadd, 1) := by decide +kernel
theorem dL_law_326 : decode cL_law 326 = .ok (.iaload, 1) := by decide +kernel
theorem dL_law_327 : decode cL_law 327 = .ok (.aload_n 0, 1) := by decide +kernel
theorem dL_law_328 : decode cL_law 328 = .ok (.iload_n 3, 1) := by decide +kernel
theorem dL_law_329 : decode cL_law 329 = .ok (.iconst 3, 1) := by decide +kernel
theorem dL_law_330 : decode cL_law 330 = .ok (.iadd, 1) := by decide +kernel
theorem dL_law_331 : decode cL_law 331 = .ok (.iaload, 1) := by decide +kernel
theorem dL_law_332 : decode cL_law 332 = .ok (.aload_n 0, 1) := by decide +kernel
theorem dL_law_333 : decode cL_law 333 = .ok (.iload_n 3, 1) := by decide +kernel
theorem dL_law_334 : decode cL_law 334 = .ok (.iconst 4, 1) := by decide +kernel
theorem dL_law_335 : decode cL_law 335 = .ok (.iadd, 1) := by decide +kernel
theorem dL_law_336 : decode cL_law 336 = .ok (.iaload, 1) := by decide +kernel
theorem dL_law_337 : decode cL_law 337 = .ok (.aload_n 0, 1) := by decide +kernel
theorem dL_law_338 : decode cL_law 338 = .ok (.iload_n 3, 1) := by decide +kernel
theorem dL_law_339 : decode cL_law 339 = .ok (.iconst 5, 1) := by decide +kernel
theorem dL_law_340 : decode cL_law 340 = .ok (.iadd, 1) := by decide +kernel
theorem dL_law_341 : decode cL_law 341 = .ok (.iaload, 1) := by decide +kernel
theorem dL_law_342 : decode cL_law 342 = .ok (.aload_n 0, 1) := by decide +kernel
theorem dL_law_343 : decode cL_law 343 = .ok (.iload_n 3, 1) := by decide +kernel
theorem dL_law_344 : decode cL_law 344 = .ok (.bipush 6, 2) := by decide +kernel
theorem dL_law_346 : decode cL_law 346 = .ok (.iadd, 1) := by decide +kernel
theorem dL_law_347 : decode cL_law 347 = .ok (.iaload, 1) := by decide +kernel
theorem dL_law_348 : decode cL_law 348 = .ok (.invokevirtual 36, 3) := by decide +kernel
theorem dL_law_351 : decode cL_law 351 = .ok (.aload_n 2, 1) := by decide +kernel
theorem dL_law_352 : decode cL_law 352 = .ok (.aload_n 0, 1) := by decide +kernel
theorem dL_law_353 : decode cL_law 353 = .ok (.iload_n 3, 1) := by decide +kernel
theorem dL_law_354 : decode cL_law 354 = .ok (.iconst 1, 1) := by decide +kernel
theorem dL_law_355 : decode cL_law 355 = .ok (.iadd, 1) := by decide +kernel
theorem dL_law_356 : decode cL_law 356 = .ok (.iaload, 1) := by decide +kernel
theorem dL_law_357 : decode cL_law 357 = .ok (.aload_n 0, 1) := by decide +kernel
theorem dL_law_358 : decode cL_law 358 = .ok (.iload_n 3, 1) := by decide +kernel
theorem dL_law_359 : decode cL_law 359 = .ok (.iconst 2, 1) := by decide +kernel
theorem dL_law_360 : decode cL_law 360 = .ok (.iadd, 1) := by decide +kernel
theorem dL_law_361 : decode cL_law 361 = .ok (.iaload, 1) := by decide +kernel
theorem dL_law_362 : decode cL_law 362 = .ok (.aload_n 0, 1) := by decide +kernel
theorem dL_law_363 : decode cL_law 363 = .ok (.iload_n 3, 1) := by decide +kernel
theorem dL_law_364 : decode cL_law 364 = .ok (.iconst 3, 1) := by decide +kernel
theorem dL_law_365 : decode cL_law 365 = .ok (.iadd, 1) := by decide +kernel
theorem dL_law_366 : decode cL_law 366 = .ok (.iaload, 1) := by decide +kernel
theorem dL_law_367 : decode cL_law 367 = .ok (.aload_n 0, 1) := by decide +kernel
theorem dL_law_368 : decode cL_law 368 = .ok (.iload_n 3, 1) := by decide +kernel
theorem dL_law_369 : decode cL_law 369 = .ok (.iconst 4, 1) := by decide +kernel
theorem dL_law_370 : decode cL_law 370 = .ok (.iadd, 1) := by decide +kernel
theorem dL_law_371 : decode cL_law 371 = .ok (.iaload, 1) := by decide +kernel
theorem dL_law_372 : decode cL_law 372 = .ok (.aload_n 0, 1) := by decide +kernel
theorem dL_law_373 : decode cL_law 373 = .ok (.iload_n 3, 1) := by decide +kernel
theorem dL_law_374 : decode cL_law 374 = .ok (.iconst 5, 1) := by decide +kernel
theorem dL_law_375 : decode cL_law 375 = .ok (.iadd, 1) := by decide +kernel
theorem dL_law_376 : decode cL_law 376 = .ok (.iaload, 1) := by decide +kernel
theorem dL_law_377 : decode cL_law 377 = .ok (.aload_n 0, 1) := by decide +kernel
theorem dL_law_378 : decode cL_law 378 = .ok (.iload_n 3, 1) := by decide +kernel
theorem dL_law_379 : decode cL_law 379 = .ok (.bipush 6, 2) := by decide +kernel
theorem dL_law_381 : decode cL_law 381 = .ok (.iadd, 1) := by decide +kernel
theorem dL_law_382 : decode cL_law 382 = .ok (.iaload, 1) := by decide +kernel
theorem dL_law_383 : decode cL_law 383 = .ok (.invokevirtual 40, 3) := by decide +kernel
theorem dL_law_386 : decode cL_law 386 = .ok (.if_icmp .eq 537, 3) := by decide +kernel
theorem dL_law_389 : decode cL_law 389 = .ok (.iconst 0, 1) := by decide +kernel
theorem dL_law_390 : decode cL_law 390 = .ok (.ireturn, 1) := by decide +kernel
theorem dL_law_391 : decode cL_law 391 = .ok (.aload_n 1, 1) := by decide +kernel
theorem dL_law_392 : decode cL_law 392 = .ok (.aload_n 0, 1) := by decide +kernel
theorem dL_law_393 : decode cL_law 393 = .ok (.iload_n 3, 1) := by decide +kernel
theorem dL_law_394 : decode cL_law 394 = .ok (.iconst 1, 1) := by decide +kernel
theorem dL_law_395 : decode cL_law 395 = .ok (.iadd, 1) := by decide +kernel
theorem dL_law_396 : decode cL_law 396 = .ok (.iaload, 1) := by decide +kernel
theorem dL_law_397 : decode cL_law 397 = .ok (.invokevirtual 41, 3) := by decide +kernel
theorem dL_law_400 : decode cL_law 400 = .ok (.aload_n 2, 1) := by decide +kernel
theorem dL_law_401 : decode cL_law 401 = .ok (.aload_n 0, 1) := by decide +kernel
theorem dL_law_402 : decode cL_law 402 = .ok (.iload_n 3, 1) := by decide +kernel
theorem dL_law_403 : decode cL_law 403 = .ok (.iconst 1, 1) := by decide +kernel
theorem dL_law_404 : decode cL_law 404 = .ok (.iadd, 1) := by decide +kernel
theorem dL_law_405 : decode cL_law 405 = .ok (.iaload, 1) := by decide +kernel
theorem dL_law_406 : decode cL_law 406 = .ok (.invokevirtual 45, 3) := by decide +kernel
theorem dL_law_409 : decode cL_law 409 = .ok (.if_icmp .eq 514, 3) := by decide +kernel
theorem dL_law_412 : decode cL_law 412 = .ok (.iconst 0, 1) := by decide +kernel
theorem dL_law_413 : decode cL_law 413 = .ok (.ireturn, 1) := by decide +kernel
theorem dL_law_414 : decode cL_law 414 = .ok (.aload_n 1, 1) := by decide +kernel
theorem dL_law_415 : decode cL_law 415 = .ok (.aload_n 0, 1) := by decide +kernel
theorem dL_law_416 : decode cL_law 416 = .ok (.iload_n 3, 1) := by decide +kernel
theorem dL_law_417 : decode cL_law 417 = .ok (.iconst 1, 1) := by decide +kernel
theorem dL_law_418 : decode cL_law 418 = .ok (.iadd, 1) := by decide +kernel
theorem dL_law_419 : decode cL_law 419 = .ok (.iaload, 1) := by decide +kernel
theorem dL_law_420 : decode cL_law 420 = .ok (.invokevirtual 46, 3) := by decide +kernel
theorem dL_law_423 : decode cL_law 423 = .ok (.aload_n 2, 1) := by decide +kernel
theorem dL_law_424 : decode cL_law 424 = .ok (.aload_n 0, 1) := by decide +kernel
theorem dL_law_425 : decode cL_law 425 = .ok (.iload_n 3, 1) := by decide +kernel
theorem dL_law_426 : decode cL_law 426 = .ok (.iconst 1, 1) := by decide +kernel
theorem dL_law_427 : decode cL_law 427 = .ok (.iadd, 1) := by decide +kernel
theorem dL_law_428 : decode cL_law 428 = .ok (.iaload, 1) := by decide +kernel
theorem dL_law_429 : decode cL_law 429 = .ok (.invokevirtual 50, 3) := by decide +kernel
theorem dL_law_432 : decode cL_law 432 = .ok (.if_icmp .eq 491, 3) := by decide +kernel
theorem dL_law_435 : decode cL_law 435 = .ok (.iconst 0, 1) := by decide +kernel
theorem dL_law_436 : decode cL_law 436 = .ok (.ireturn, 1) := by decide +kernel
theorem dL_law_437 : decode cL_law 437 = .ok (.aload_n 1, 1) := by decide +kernel
theorem dL_law_438 : decode cL_law 438 = .ok (.aload_n 0, 1) := by decide +kernel
theorem dL_law_439 : decode cL_law 439 = .ok (.iload_n 3, 1) := by decide +kernel
theorem dL_law_440 : decode cL_law 440 = .ok (.iconst 1, 1) := by decide +kernel
theorem dL_law_441 : decode cL_law 441 = .ok (.iadd, 1) := by decide +kernel
theorem dL_law_442 : decode cL_law 442 = .ok (.iaload, 1) := by decide +kernel
theorem dL_law_443 : decode cL_law 443 = .ok (.aload_n 0, 1) := by decide +kernel
theorem dL_law_444 : decode cL_law 444 = .ok (.iload_n 3, 1) := by decide +kernel
theorem dL_law_445 : decode cL_law 445 = .ok (.iconst 2, 1) := by decide +kernel
theorem dL_law_446 : decode cL_law 446 = .ok (.iadd, 1) := by decide +kernel
theorem dL_law_447 : decode cL_law 447 = .ok (.iaload, 1) := by decide +kernel
theorem dL_law_448 : decode cL_law 448 = .ok (.aload_n 0, 1) := by decide +kernel
theorem dL_law_449 : decode cL_law 449 = .ok (.iload_n 3, 1) := by decide +kernel
theorem dL_law_450 : decode cL_law 450 = .ok (.iconst 3, 1) := by decide +kernel
theorem dL_law_451 : decode cL_law 451 = .ok (.iadd, 1) := by decide +kernel
theorem dL_law_452 : decode cL_law 452 = .ok (.iaload, 1) := by decide +kernel
theorem dL_law_453 : decode cL_law 453 = .ok (.invokevirtual 51, 3) := by decide +kernel
theorem dL_law_456 : decode cL_law 456 = .ok (.aload_n 2, 1) := by decide +kernel
theorem dL_law_457 : decode cL_law 457 = .ok (.aload_n 0, 1) := by decide +kernel
theorem dL_law_458 : decode cL_law 458 = .ok (.iload_n 3, 1) := by decide +kernel
theorem dL_law_459 : decode cL_law 459 = .ok (.iconst 1, 1) := by decide +kernel
theorem dL_law_460 : decode cL_law 460 = .ok (.iadd, 1) := by decide +kernel
theorem dL_law_461 : decode cL_law 461 = .ok (.iaload, 1) := by decide +kernel
theorem dL_law_462 : decode cL_law 462 = .ok (.aload_n 0, 1) := by decide +kernel
theorem dL_law_463 : decode cL_law 463 = .ok (.iload_n 3, 1) := by decide +kernel
theorem dL_law_464 : decode cL_law 464 = .ok (.iconst 2, 1) := by decide +kernel
theorem dL_law_465 : decode cL_law 465 = .ok (.iadd, 1) := by decide +kernel
theorem dL_law_466 : decode cL_law 466 = .ok (.iaload, 1) := by decide +kernel
theorem dL_law_467 : decode cL_law 467 = .ok (.aload_n 0, 1) := by decide +kernel
theorem dL_law_468 : decode cL_law 468 = .ok (.iload_n 3, 1) := by decide +kernel
theorem dL_law_469 : decode cL_law 469 = .ok (.iconst 3, 1) := by decide +kernel
theorem dL_law_470 : decode cL_law 470 = .ok (.iadd, 1) := by decide +kernel
theorem dL_law_471 : decode cL_law 471 = .ok (.iaload, 1) := by decide +kernel
theorem dL_law_472 : decode cL_law 472 = .ok (.invokevirtual 55, 3) := by decide +kernel
theorem dL_law_475 : decode cL_law 475 = .ok (.if_icmp .eq 448, 3) := by decide +kernel
theorem dL_law_478 : decode cL_law 478 = .ok (.iconst 0, 1) := by decide +kernel
theorem dL_law_479 : decode cL_law 479 = .ok (.ireturn, 1) := by decide +kernel
theorem dL_law_480 : decode cL_law 480 = .ok (.aload_n 1, 1) := by decide +kernel
theorem dL_law_481 : decode cL_law 481 = .ok (.aload_n 0, 1) := by decide +kernel
theorem dL_law_482 : decode cL_law 482 = .ok (.iload_n 3, 1) := by decide +kernel
theorem dL_law_483 : decode cL_law 483 = .ok (.iconst 1, 1) := by decide +kernel
theorem dL_law_484 : decode cL_law 484 = .ok (.iadd, 1) := by decide +kernel
theorem dL_law_485 : decode cL_law 485 = .ok (.iaload, 1) := by decide +kernel
theorem dL_law_486 : decode cL_law 486 = .ok (.aload_n 0, 1) := by decide +kernel
theorem dL_law_487 : decode cL_law 487 = .ok (.iload_n 3, 1) := by decide +kernel
theorem dL_law_488 : decode cL_law 488 = .ok (.iconst 2, 1) := by decide +kernel
theorem dL_law_489 : decode cL_law 489 = .ok (.iadd, 1) := by decide +kernel
theorem dL_law_490 : decode cL_law 490 = .ok (.iaload, 1) := by decide +kernel
theorem dL_law_491 : decode cL_law 491 = .ok (.invokevirtual 56, 3) := by decide +kernel
theorem dL_law_494 : decode cL_law 494 = .ok (.aload_n 2, 1) := by decide +kernel
theorem dL_law_495 : decode cL_law 495 = .ok (.aload_n 0, 1) := by decide +kernel
theorem dL_law_496 : decode cL_law 496 = .ok (.iload_n 3, 1) := by decide +kernel
theorem dL_law_497 : decode cL_law 497 = .ok (.iconst 1, 1) := by decide +kernel
theorem dL_law_498 : decode cL_law 498 = .ok (.iadd, 1) := by decide +kernel
theorem dL_law_499 : decode cL_law 499 = .ok (.iaload, 1) := by decide +kernel
theorem dL_law_500 : decode cL_law 500 = .ok (.aload_n 0, 1) := by decide +kernel
theorem dL_law_501 : decode cL_law 501 = .ok (.iload_n 3, 1) := by decide +kernel
theorem dL_law_502 : decode cL_law 502 = .ok (.iconst 2, 1) := by decide +kernel
theorem dL_law_503 : decode cL_law 503 = .ok (.iadd, 1) := by decide +kernel
theorem dL_law_504 : decode cL_law 504 = .ok (.iaload, 1) := by decide +kernel
theorem dL_law_505 : decode cL_law 505 = .ok (.invokevirtual 59, 3) := by decide +kernel
theorem dL_law_508 : decode cL_law 508 = .ok (.if_icmp .eq 415, 3) := by decide +kernel
theorem dL_law_511 : decode cL_law 511 = .ok (.iconst 0, 1) := by decide +kernel
theorem dL_law_512 : decode cL_law 512 = .ok (.ireturn, 1) := by decide +kernel
theorem dL_law_513 : decode cL_law 513 = .ok (.aload_n 1, 1) := by decide +kernel
theorem dL_law_514 : decode cL_law 514 = .ok (.aload_n 0, 1) := by decide +kernel
theorem dL_law_515 : decode cL_law 515 = .ok (.iload_n 3, 1) := by decide +kernel
theorem dL_law_516 : decode cL_law 516 = .ok (.iconst 1, 1) := by decide +kernel
theorem dL_law_517 : decode cL_law 517 = .ok (.iadd, 1) := by decide +kernel
theorem dL_law_518 : decode cL_law 518 = .ok (.iaload, 1) := by decide +kernel
theorem dL_law_519 : decode cL_law 519 = .ok (.aload_n 0, 1) := by decide +kernel
theorem dL_law_520 : decode cL_law 520 = .ok (.iload_n 3, 1) := by decide +kernel
theorem dL_law_521 : decode cL_law 521 = .ok (.iconst 2, 1) := by decide +kernel
theorem dL_law_522 : decode cL_law 522 = .ok (.iadd, 1) := by decide +kernel
theorem dL_law_523 : decode cL_law 523 = .ok (.iaload, 1) := by decide +kernel
theorem dL_law_524 : decode cL_law 524 = .ok (.aload_n 0, 1) := by decide +kernel
theorem dL_law_525 : decode cL_law 525 = .ok (.iload_n 3, 1) := by decide +kernel
theorem dL_law_526 : decode cL_law 526 = .ok (.iconst 3, 1) := by decide +kernel
theorem dL_law_527 : decode cL_law 527 = .ok (.iadd, 1) := by decide +kernel
theorem dL_law_528 : decode cL_law 528 = .ok (.iaload, 1) := by decide +kernel
theorem dL_law_529 : decode cL_law 529 = .ok (.aload_n 0, 1) := by decide +kernel
theorem dL_law_530 : decode cL_law 530 = .ok (.iload_n 3, 1) := by decide +kernel
theorem dL_law_531 : decode cL_law 531 = .ok (.iconst 4, 1) := by decide +kernel
theorem dL_law_532 : decode cL_law 532 = .ok (.iadd, 1) := by decide +kernel
theorem dL_law_533 : decode cL_law 533 = .ok (.iaload, 1) := by decide +kernel
theorem dL_law_534 : decode cL_law 534 = .ok (.aload_n 0, 1) := by decide +kernel
theorem dL_law_535 : decode cL_law 535 = .ok (.iload_n 3, 1) := by decide +kernel
theorem dL_law_536 : decode cL_law 536 = .ok (.iconst 5, 1) := by decide +kernel
theorem dL_law_537 : decode cL_law 537 = .ok (.iadd, 1) := by decide +kernel
theorem dL_law_538 : decode cL_law 538 = .ok (.iaload, 1) := by decide +kernel
theorem dL_law_539 : decode cL_law 539 = .ok (.invokevirtual 60, 3) := by decide +kernel
theorem dL_law_542 : decode cL_law 542 = .ok (.aload_n 2, 1) := by decide +kernel
theorem dL_law_543 : decode cL_law 543 = .ok (.aload_n 0, 1) := by decide +kernel
theorem dL_law_544 : decode cL_law 544 = .ok (.iload_n 3, 1) := by decide +kernel
theorem dL_law_545 : decode cL_law 545 = .ok (.iconst 1, 1) := by decide +kernel
theorem dL_law_546 : decode cL_law 546 = .ok (.iadd, 1) := by decide +kernel
theorem dL_law_547 : decode cL_law 547 = .ok (.iaload, 1) := by decide +kernel
theorem dL_law_548 : decode cL_law 548 = .ok (.aload_n 0, 1) := by decide +kernel
theorem dL_law_549 : decode cL_law 549 = .ok (.iload_n 3, 1) := by decide +kernel
theorem dL_law_550 : decode cL_law 550 = .ok (.iconst 2, 1) := by decide +kernel
theorem dL_law_551 : decode cL_law 551 = .ok (.iadd, 1) := by decide +kernel
theorem dL_law_552 : decode cL_law 552 = .ok (.iaload, 1) := by decide +kernel
theorem dL_law_553 : decode cL_law 553 = .ok (.aload_n 0, 1) := by decide +kernel
theorem dL_law_554 : decode cL_law 554 = .ok (.iload_n 3, 1) := by decide +kernel
theorem dL_law_555 : decode cL_law 555 = .ok (.iconst 3, 1) := by decide +kernel
theorem dL_law_556 : decode cL_law 556 = .ok (.iadd, 1) := by decide +kernel
theorem dL_law_557 : decode cL_law 557 = .ok (.iaload, 1) := by decide +kernel
theorem dL_law_558 : decode cL_law 558 = .ok (.aload_n 0, 1) := by decide +kernel
theorem dL_law_559 : decode cL_law 559 = .ok (.iload_n 3, 1) := by decide +kernel
theorem dL_law_560 : decode cL_law 560 = .ok (.iconst 4, 1) := by decide +kernel
theorem dL_law_561 : decode cL_law 561 = .ok (.iadd, 1) := by decide +kernel
theorem dL_law_562 : decode cL_law 562 = .ok (.iaload, 1) := by decide +kernel
theorem dL_law_563 : decode cL_law 563 = .ok (.aload_n 0, 1) := by decide +kernel
theorem dL_law_564 : decode cL_law 564 = .ok (.iload_n 3, 1) := by decide +kernel
theorem dL_law_565 : decode cL_law 565 = .ok (.iconst 5, 1) := by decide +kernel
theorem dL_law_566 : decode cL_law 566 = .ok (.iadd, 1) := by decide +kernel
theorem dL_law_567 : decode cL_law 567 = .ok (.iaload, 1) := by decide +kernel
theorem dL_law_568 : decode cL_law 568 = .ok (.invokevirtual 64, 3) := by decide +kernel
theorem dL_law_571 : decode cL_law 571 = .ok (.if_icmp .eq 352, 3) := by decide +kernel
theorem dL_law_574 : decode cL_law 574 = .ok (.iconst 0, 1) := by decide +kernel
theorem dL_law_575 : decode cL_law 575 = .ok (.ireturn, 1) := by decide +kernel
theorem dL_law_576 : decode cL_law 576 = .ok (.aload_n 1, 1) := by decide +kernel
theorem dL_law_577 : decode cL_law 577 = .ok (.aload_n 0, 1) := by decide +kernel
theorem dL_law_578 : decode cL_law 578 = .ok (.iload_n 3, 1) := by decide +kernel
theorem dL_law_579 : decode cL_law 579 = .ok (.iconst 1, 1) := by decide +kernel
theorem dL_law_580 : decode cL_law 580 = .ok (.iadd, 1) := by decide +kernel
theorem dL_law_581 : decode cL_law 581 = .ok (.iaload, 1) := by decide +kernel
theorem dL_law_582 : decode cL_law 582 = .ok (.invokevirtual 65, 3) := by decide +kernel
theorem dL_law_585 : decode cL_law 585 = .ok (.aload_n 2, 1) := by decide +kernel
theorem dL_law_586 : decode cL_law 586 = .ok (.aload_n 0, 1) := by decide +kernel
theorem dL_law_587 : decode cL_law 587 = .ok (.iload_n 3, 1) := by decide +kernel
theorem dL_law_588 : decode cL_law 588 = .ok (.iconst 1, 1) := by decide +kernel
theorem dL_law_589 : decode cL_law 589 = .ok (.iadd, 1) := by decide +kernel
theorem dL_law_590 : decode cL_law 590 = .ok (.iaload, 1) := by decide +kernel
theorem dL_law_591 : decode cL_law 591 = .ok (.invokevirtual 68, 3) := by decide +kernel
theorem dL_law_594 : decode cL_law 594 = .ok (.if_icmp .eq 329, 3) := by decide +kernel
theorem dL_law_597 : decode cL_law 597 = .ok (.iconst 0, 1) := by decide +kernel
theorem dL_law_598 : decode cL_law 598 = .ok (.ireturn, 1) := by decide +kernel
theorem dL_law_599 : decode cL_law 599 = .ok (.aload_n 1, 1) := by decide +kernel
theorem dL_law_600 : decode cL_law 600 = .ok (.invokevirtual 69, 3) := by decide +kernel
theorem dL_law_603 : decode cL_law 603 = .ok (.aload_n 2, 1) := by decide +kernel
theorem dL_law_604 : decode cL_law 604 = .ok (.invokevirtual 73, 3) := by decide +kernel
theorem dL_law_607 : decode cL_law 607 = .ok (.if_icmp .eq 316, 3) := by decide +kernel
theorem dL_law_610 : decode cL_law 610 = .ok (.iconst 0, 1) := by decide +kernel
theorem dL_law_611 : decode cL_law 611 = .ok (.ireturn, 1) := by decide +kernel
theorem dL_law_612 : decode cL_law 612 = .ok (.aload_n 1, 1) := by decide +kernel
theorem dL_law_613 : decode cL_law 613 = .ok (.aload_n 0, 1) := by decide +kernel
theorem dL_law_614 : decode cL_law 614 = .ok (.iload_n 3, 1) := by decide +kernel
theorem dL_law_615 : decode cL_law 615 = .ok (.iconst 1, 1) := by decide +kernel
theorem dL_law_616 : decode cL_law 616 = .ok (.iadd, 1) := by decide +kernel
theorem dL_law_617 : decode cL_law 617 = .ok (.iaload, 1) := by decide +kernel
theorem dL_law_618 : decode cL_law 618 = .ok (.invokevirtual 74, 3) := by decide +kernel
theorem dL_law_621 : decode cL_law 621 = .ok (.aload_n 2, 1) := by decide +kernel
theorem dL_law_622 : decode cL_law 622 = .ok (.aload_n 0, 1) := by decide +kernel
theorem dL_law_623 : decode cL_law 623 = .ok (.iload_n 3, 1) := by decide +kernel
theorem dL_law_624 : decode cL_law 624 = .ok (.iconst 1, 1) := by decide +kernel
theorem dL_law_625 : decode cL_law 625 = .ok (.iadd, 1) := by decide +kernel
theorem dL_law_626 : decode cL_law 626 = .ok (.iaload, 1) := by decide +kernel
theorem dL_law_627 : decode cL_law 627 = .ok (.invokevirtual 77, 3) := by decide +kernel
theorem dL_law_630 : decode cL_law 630 = .ok (.if_icmp .eq 293, 3) := by decide +kernel
theorem dL_law_633 : decode cL_law 633 = .ok (.iconst 0, 1) := by decide +kernel
theorem dL_law_634 : decode cL_law 634 = .ok (.ireturn, 1) := by decide +kernel
theorem dL_law_635 : decode cL_law 635 = .ok (.aload_n 1, 1) := by decide +kernel
theorem dL_law_636 : decode cL_law 636 = .ok (.aload_n 0, 1) := by decide +kernel
theorem dL_law_637 : decode cL_law 637 = .ok (.iload_n 3, 1) := by decide +kernel
theorem dL_law_638 : decode cL_law 638 = .ok (.iconst 1, 1) := by decide +kernel
theorem dL_law_639 : decode cL_law 639 = .ok (.iadd, 1) := by decide +kernel
theorem dL_law_640 : decode cL_law 640 = .ok (.iaload, 1) := by decide +kernel
theorem dL_law_641 : decode cL_law 641 = .ok (.invokevirtual 78, 3) := by decide +kernel
theorem dL_law_644 : decode cL_law 644 = .ok (.aload_n 2, 1) := by decide +kernel
theorem dL_law_645 : decode cL_law 645 = .ok (.aload_n 0, 1) := by decide +kernel
theorem dL_law_646 : decode cL_law 646 = .ok (.iload_n 3, 1) := by decide +kernel
theorem dL_law_647 : decode cL_law 647 = .ok (.iconst 1, 1) := by decide +kernel
theorem dL_law_648 : decode cL_law 648 = .ok (.iadd, 1) := by decide +kernel
theorem dL_law_649 : decode cL_law 649 = .ok (.iaload, 1) := by decide +kernel
theorem dL_law_650 : decode cL_law 650 = .ok (.invokevirtual 81, 3) := by decide +kernel
theorem dL_law_653 : decode cL_law 653 = .ok (.if_icmp .eq 270, 3) := by decide +kernel
theorem dL_law_656 : decode cL_law 656 = .ok (.iconst 0, 1) := by decide +kernel
theorem dL_law_657 : decode cL_law 657 = .ok (.ireturn, 1) := by decide +kernel
theorem dL_law_658 : decode cL_law 658 = .ok (.aload_n 1, 1) := by decide +kernel
theorem dL_law_659 : decode cL_law 659 = .ok (.aload_n 0, 1) := by decide +kernel
theorem dL_law_660 : decode cL_law 660 = .ok (.iload_n 3, 1) := by decide +kernel
theorem dL_law_661 : decode cL_law 661 = .ok (.iconst 1, 1) := by decide +kernel
theorem dL_law_662 : decode cL_law 662 = .ok (.iadd, 1) := by decide +kernel
theorem dL_law_663 : decode cL_law 663 = .ok (.iaload, 1) := by decide +kernel
theorem dL_law_664 : decode cL_law 664 = .ok (.aload_n 0, 1) := by decide +kernel
theorem dL_law_665 : decode cL_law 665 = .ok (.iload_n 3, 1) := by decide +kernel
theorem dL_law_666 : decode cL_law 666 = .ok (.iconst 2, 1) := by decide +kernel
theorem dL_law_667 : decode cL_law 667 = .ok (.iadd, 1) := by decide +kernel
theorem dL_law_668 : decode cL_law 668 = .ok (.iaload, 1) := by decide +kernel
theorem dL_law_669 : decode cL_law 669 = .ok (.invokevirtual 82, 3) := by decide +kernel
theorem dL_law_672 : decode cL_law 672 = .ok (.aload_n 2, 1) := by decide +kernel
theorem dL_law_673 : decode cL_law 673 = .ok (.aload_n 0, 1) := by decide +kernel
theorem dL_law_674 : decode cL_law 674 = .ok (.iload_n 3, 1) := by decide +kernel
theorem dL_law_675 : decode cL_law 675 = .ok (.iconst 1, 1) := by decide +kernel
theorem dL_law_676 : decode cL_law 676 = .ok (.iadd, 1) := by decide +kernel
theorem dL_law_677 : decode cL_law 677 = .ok (.iaload, 1) := by decide +kernel
theorem dL_law_678 : decode cL_law 678 = .ok (.aload_n 0, 1) := by decide +kernel
theorem dL_law_679 : decode cL_law 679 = .ok (.iload_n 3, 1) := by decide +kernel
theorem dL_law_680 : decode cL_law 680 = .ok (.iconst 2, 1) := by decide +kernel
theorem dL_law_681 : decode cL_law 681 = .ok (.iadd, 1) := by decide +kernel
theorem dL_law_682 : decode cL_law 682 = .ok (.iaload, 1) := by decide +kernel
theorem dL_law_683 : decode cL_law 683 = .ok (.invokevirtual 85, 3) := by decide +kernel
theorem dL_law_686 : decode cL_law 686 = .ok (.if_icmp .eq 237, 3) := by decide +kernel
theorem dL_law_689 : decode cL_law 689 = .ok (.iconst 0, 1) := by decide +kernel
theorem dL_law_690 : decode cL_law 690 = .ok (.ireturn, 1) := by decide +kernel
theorem dL_law_691 : decode cL_law 691 = .ok (.aload_n 1, 1) := by decide +kernel
theorem dL_law_692 : decode cL_law 692 = .ok (.aload_n 0, 1) := by decide +kernel
theorem dL_law_693 : decode cL_law 693 = .ok (.iload_n 3, 1) := by decide +kernel
theorem dL_law_694 : decode cL_law 694 = .ok (.iconst 1, 1) := by decide +kernel
theorem dL_law_695 : decode cL_law 695 = .ok (.iadd, 1) := by decide +kernel
theorem dL_law_696 : decode cL_law 696 = .ok (.iaload, 1) := by decide +kernel
theorem dL_law_697 : decode cL_law 697 = .ok (.aload_n 0, 1) := by decide +kernel
theorem dL_law_698 : decode cL_law 698 = .ok (.iload_n 3, 1) := by decide +kernel
theorem dL_law_699 : decode cL_law 699 = .ok (.iconst 2, 1) := by decide +kernel
theorem dL_law_700 : decode cL_law 700 = .ok (.iadd, 1) := by decide +kernel
theorem dL_law_701 : decode cL_law 701 = .ok (.iaload, 1) := by decide +kernel
theorem dL_law_702 : decode cL_law 702 = .ok (.invokevirtual 86, 3) := by decide +kernel
theorem dL_law_705 : decode cL_law 705 = .ok (.aload_n 2, 1) := by decide +kernel
theorem dL_law_706 : decode cL_law 706 = .ok (.aload_n 0, 1) := by decide +kernel
theorem dL_law_707 : decode cL_law 707 = .ok (.iload_n 3, 1) := by decide +kernel
theorem dL_law_708 : decode cL_law 708 = .ok (.iconst 1, 1) := by decide +kernel
theorem dL_law_709 : decode cL_law 709 = .ok (.iadd, 1) := by decide +kernel
theorem dL_law_710 : decode cL_law 710 = .ok (.iaload, 1) := by decide +kernel
theorem dL_law_711 : decode cL_law 711 = .ok (.aload_n 0, 1) := by decide +kernel
theorem dL_law_712 : decode cL_law 712 = .ok (.iload_n 3, 1) := by decide +kernel
theorem dL_law_713 : decode cL_law 713 = .ok (.iconst 2, 1) := by decide +kernel
theorem dL_law_714 : decode cL_law 714 = .ok (.iadd, 1) := by decide +kernel
theorem dL_law_715 : decode cL_law 715 = .ok (.iaload, 1) := by decide +kernel
theorem dL_law_716 : decode cL_law 716 = .ok (.invokevirtual 89, 3) := by decide +kernel
theorem dL_law_719 : decode cL_law 719 = .ok (.if_icmp .eq 204, 3) := by decide +kernel
theorem dL_law_722 : decode cL_law 722 = .ok (.iconst 0, 1) := by decide +kernel
theorem dL_law_723 : decode cL_law 723 = .ok (.ireturn, 1) := by decide +kernel
theorem dL_law_724 : decode cL_law 724 = .ok (.aload_n 1, 1) := by decide +kernel
theorem dL_law_725 : decode cL_law 725 = .ok (.aload_n 0, 1) := by decide +kernel
theorem dL_law_726 : decode cL_law 726 = .ok (.iload_n 3, 1) := by decide +kernel
theorem dL_law_727 : decode cL_law 727 = .ok (.iconst 1, 1) := by decide +kernel
theorem dL_law_728 : decode cL_law 728 = .ok (.iadd, 1) := by decide +kernel
theorem dL_law_729 : decode cL_law 729 = .ok (.iaload, 1) := by decide +kernel
theorem dL_law_730 : decode cL_law 730 = .ok (.aload_n 0, 1) := by decide +kernel
theorem dL_law_731 : decode cL_law 731 = .ok (.iload_n 3, 1) := by decide +kernel
theorem dL_law_732 : decode cL_law 732 = .ok (.iconst 2, 1) := by decide +kernel
theorem dL_law_733 : decode cL_law 733 = .ok (.iadd, 1) := by decide +kernel
theorem dL_law_734 : decode cL_law 734 = .ok (.iaload, 1) := by decide +kernel
theorem dL_law_735 : decode cL_law 735 = .ok (.aload_n 0, 1) := by decide +kernel
theorem dL_law_736 : decode cL_law 736 = .ok (.iload_n 3, 1) := by decide +kernel
theorem dL_law_737 : decode cL_law 737 = .ok (.iconst 3, 1) := by decide +kernel
theorem dL_law_738 : decode cL_law 738 = .ok (.iadd, 1) := by decide +kernel
theorem dL_law_739 : decode cL_law 739 = .ok (.iaload, 1) := by decide +kernel
theorem dL_law_740 : decode cL_law 740 = .ok (.invokevirtual 90, 3) := by decide +kernel
theorem dL_law_743 : decode cL_law 743 = .ok (.aload_n 2, 1) := by decide +kernel
theorem dL_law_744 : decode cL_law 744 = .ok (.aload_n 0, 1) := by decide +kernel
theorem dL_law_745 : decode cL_law 745 = .ok (.iload_n 3, 1) := by decide +kernel
theorem dL_law_746 : decode cL_law 746 = .ok (.iconst 1, 1) := by decide +kernel
theorem dL_law_747 : decode cL_law 747 = .ok (.iadd, 1) := by decide +kernel
theorem dL_law_748 : decode cL_law 748 = .ok (.iaload, 1) := by decide +kernel
theorem dL_law_749 : decode cL_law 749 = .ok (.aload_n 0, 1) := by decide +kernel
theorem dL_law_750 : decode cL_law 750 = .ok (.iload_n 3, 1) := by decide +kernel
theorem dL_law_751 : decode cL_law 751 = .ok (.iconst 2, 1) := by decide +kernel
theorem dL_law_752 : decode cL_law 752 = .ok (.iadd, 1) := by decide +kernel
theorem dL_law_753 : decode cL_law 753 = .ok (.iaload, 1) := by decide +kernel
theorem dL_law_754 : decode cL_law 754 = .ok (.aload_n 0, 1) := by decide +kernel
theorem dL_law_755 : decode cL_law 755 = .ok (.iload_n 3, 1) := by decide +kernel
theorem dL_law_756 : decode cL_law 756 = .ok (.iconst 3, 1) := by decide +kernel
theorem dL_law_757 : decode cL_law 757 = .ok (.iadd, 1) := by decide +kernel
theorem dL_law_758 : decode cL_law 758 = .ok (.iaload, 1) := by decide +kernel
theorem dL_law_759 : decode cL_law 759 = .ok (.invokevirtual 93, 3) := by decide +kernel
theorem dL_law_762 : decode cL_law 762 = .ok (.if_icmp .eq 161, 3) := by decide +kernel
theorem dL_law_765 : decode cL_law 765 = .ok (.iconst 0, 1) := by decide +kernel
theorem dL_law_766 : decode cL_law 766 = .ok (.ireturn, 1) := by decide +kernel
theorem dL_law_767 : decode cL_law 767 = .ok (.aload_n 1, 1) := by decide +kernel
theorem dL_law_768 : decode cL_law 768 = .ok (.aload_n 0, 1) := by decide +kernel
theorem dL_law_769 : decode cL_law 769 = .ok (.iload_n 3, 1) := by decide +kernel
theorem dL_law_770 : decode cL_law 770 = .ok (.iconst 1, 1) := by decide +kernel
theorem dL_law_771 : decode cL_law 771 = .ok (.iadd, 1) := by decide +kernel
theorem dL_law_772 : decode cL_law 772 = .ok (.iaload, 1) := by decide +kernel
theorem dL_law_773 : decode cL_law 773 = .ok (.aload_n 0, 1) := by decide +kernel
theorem dL_law_774 : decode cL_law 774 = .ok (.iload_n 3, 1) := by decide +kernel
theorem dL_law_775 : decode cL_law 775 = .ok (.iconst 2, 1) := by decide +kernel
theorem dL_law_776 : decode cL_law 776 = .ok (.iadd, 1) := by decide +kernel
theorem dL_law_777 : decode cL_law 777 = .ok (.iaload, 1) := by decide +kernel
theorem dL_law_778 : decode cL_law 778 = .ok (.aload_n 0, 1) := by decide +kernel
theorem dL_law_779 : decode cL_law 779 = .ok (.iload_n 3, 1) := by decide +kernel
theorem dL_law_780 : decode cL_law 780 = .ok (.iconst 3, 1) := by decide +kernel
theorem dL_law_781 : decode cL_law 781 = .ok (.iadd, 1) := by decide +kernel
theorem dL_law_782 : decode cL_law 782 = .ok (.iaload, 1) := by decide +kernel
theorem dL_law_783 : decode cL_law 783 = .ok (.aload_n 0, 1) := by decide +kernel
theorem dL_law_784 : decode cL_law 784 = .ok (.iload_n 3, 1) := by decide +kernel
theorem dL_law_785 : decode cL_law 785 = .ok (.iconst 4, 1) := by decide +kernel
theorem dL_law_786 : decode cL_law 786 = .ok (.iadd, 1) := by decide +kernel
theorem dL_law_787 : decode cL_law 787 = .ok (.iaload, 1) := by decide +kernel
theorem dL_law_788 : decode cL_law 788 = .ok (.invokevirtual 94, 3) := by decide +kernel
theorem dL_law_791 : decode cL_law 791 = .ok (.aload_n 2, 1) := by decide +kernel
theorem dL_law_792 : decode cL_law 792 = .ok (.aload_n 0, 1) := by decide +kernel
theorem dL_law_793 : decode cL_law 793 = .ok (.iload_n 3, 1) := by decide +kernel
theorem dL_law_794 : decode cL_law 794 = .ok (.iconst 1, 1) := by decide +kernel
theorem dL_law_795 : decode cL_law 795 = .ok (.iadd, 1) := by decide +kernel
theorem dL_law_796 : decode cL_law 796 = .ok (.iaload, 1) := by decide +kernel
theorem dL_law_797 : decode cL_law 797 = .ok (.aload_n 0, 1) := by decide +kernel
theorem dL_law_798 : decode cL_law 798 = .ok (.iload_n 3, 1) := by decide +kernel
theorem dL_law_799 : decode cL_law 799 = .ok (.iconst 2, 1) := by decide +kernel
theorem dL_law_800 : decode cL_law 800 = .ok (.iadd, 1) := by decide +kernel
theorem dL_law_801 : decode cL_law 801 = .ok (.iaload, 1) := by decide +kernel
theorem dL_law_802 : decode cL_law 802 = .ok (.aload_n 0, 1) := by decide +kernel
theorem dL_law_803 : decode cL_law 803 = .ok (.iload_n 3, 1) := by decide +kernel
theorem dL_law_804 : decode cL_law 804 = .ok (.iconst 3, 1) := by decide +kernel
theorem dL_law_805 : decode cL_law 805 = .ok (.iadd, 1) := by decide +kernel
theorem dL_law_806 : decode cL_law 806 = .ok (.iaload, 1) := by decide +kernel
theorem dL_law_807 : decode cL_law 807 = .ok (.aload_n 0, 1) := by decide +kernel
theorem dL_law_808 : decode cL_law 808 = .ok (.iload_n 3, 1) := by decide +kernel
theorem dL_law_809 : decode cL_law 809 = .ok (.iconst 4, 1) := by decide +kernel
theorem dL_law_810 : decode cL_law 810 = .ok (.iadd, 1) := by decide +kernel
theorem dL_law_811 : decode cL_law 811 = .ok (.iaload, 1) := by decide +kernel
theorem dL_law_812 : decode cL_law 812 = .ok (.invokevirtual 98, 3) := by decide +kernel
theorem dL_law_815 : decode cL_law 815 = .ok (.lcmp, 1) := by decide +kernel
theorem dL_law_816 : decode cL_law 816 = .ok (.ifCond .eq 107, 3) := by decide +kernel
theorem dL_law_819 : decode cL_law 819 = .ok (.iconst 0, 1) := by decide +kernel
theorem dL_law_820 : decode cL_law 820 = .ok (.ireturn, 1) := by decide +kernel
theorem dL_law_821 : decode cL_law 821 = .ok (.aload_n 1, 1) := by decide +kernel
theorem dL_law_822 : decode cL_law 822 = .ok (.aload_n 0, 1) := by decide +kernel
theorem dL_law_823 : decode cL_law 823 = .ok (.iload_n 3, 1) := by decide +kernel
theorem dL_law_824 : decode cL_law 824 = .ok (.iconst 1, 1) := by decide +kernel
theorem dL_law_825 : decode cL_law 825 = .ok (.iadd, 1) := by decide +kernel
theorem dL_law_826 : decode cL_law 826 = .ok (.iaload, 1) := by decide +kernel
theorem dL_law_827 : decode cL_law 827 = .ok (.aload_n 0, 1) := by decide +kernel
theorem dL_law_828 : decode cL_law 828 = .ok (.iload_n 3, 1) := by decide +kernel
theorem dL_law_829 : decode cL_law 829 = .ok (.iconst 2, 1) := by decide +kernel
theorem dL_law_830 : decode cL_law 830 = .ok (.iadd, 1) := by decide +kernel
theorem dL_law_831 : decode cL_law 831 = .ok (.iaload, 1) := by decide +kernel
theorem dL_law_832 : decode cL_law 832 = .ok (.aload_n 0, 1) := by decide +kernel
theorem dL_law_833 : decode cL_law 833 = .ok (.iload_n 3, 1) := by decide +kernel
theorem dL_law_834 : decode cL_law 834 = .ok (.iconst 3, 1) := by decide +kernel
theorem dL_law_835 : decode cL_law 835 = .ok (.iadd, 1) := by decide +kernel
theorem dL_law_836 : decode cL_law 836 = .ok (.iaload, 1) := by decide +kernel
theorem dL_law_837 : decode cL_law 837 = .ok (.invokevirtual 99, 3) := by decide +kernel
theorem dL_law_840 : decode cL_law 840 = .ok (.aload_n 2, 1) := by decide +kernel
theorem dL_law_841 : decode cL_law 841 = .ok (.aload_n 0, 1) := by decide +kernel
theorem dL_law_842 : decode cL_law 842 = .ok (.iload_n 3, 1) := by decide +kernel
theorem dL_law_843 : decode cL_law 843 = .ok (.iconst 1, 1) := by decide +kernel
theorem dL_law_844 : decode cL_law 844 = .ok (.iadd, 1) := by decide +kernel
theorem dL_law_845 : decode cL_law 845 = .ok (.iaload, 1) := by decide +kernel
theorem dL_law_846 : decode cL_law 846 = .ok (.aload_n 0, 1) := by decide +kernel
theorem dL_law_847 : decode cL_law 847 = .ok (.iload_n 3, 1) := by decide +kernel
theorem dL_law_848 : decode cL_law 848 = .ok (.iconst 2, 1) := by decide +kernel
theorem dL_law_849 : decode cL_law 849 = .ok (.iadd, 1) := by decide +kernel
theorem dL_law_850 : decode cL_law 850 = .ok (.iaload, 1) := by decide +kernel
theorem dL_law_851 : decode cL_law 851 = .ok (.aload_n 0, 1) := by decide +kernel
theorem dL_law_852 : decode cL_law 852 = .ok (.iload_n 3, 1) := by decide +kernel
theorem dL_law_853 : decode cL_law 853 = .ok (.iconst 3, 1) := by decide +kernel
theorem dL_law_854 : decode cL_law 854 = .ok (.iadd, 1) := by decide +kernel
theorem dL_law_855 : decode cL_law 855 = .ok (.iaload, 1) := by decide +kernel
theorem dL_law_856 : decode cL_law 856 = .ok (.invokevirtual 102, 3) := by decide +kernel
theorem dL_law_859 : decode cL_law 859 = .ok (.if_icmp .eq 64, 3) := by decide +kernel
theorem dL_law_862 : decode cL_law 862 = .ok (.iconst 0, 1) := by decide +kernel
theorem dL_law_863 : decode cL_law 863 = .ok (.ireturn, 1) := by decide +kernel
theorem dL_law_864 : decode cL_law 864 = .ok (.aload_n 1, 1) := by decide +kernel
theorem dL_law_865 : decode cL_law 865 = .ok (.invokevirtual 103, 3) := by decide +kernel
theorem dL_law_868 : decode cL_law 868 = .ok (.aload_n 2, 1) := by decide +kernel
theorem dL_law_869 : decode cL_law 869 = .ok (.invokevirtual 106, 3) := by decide +kernel
theorem dL_law_872 : decode cL_law 872 = .ok (.if_icmp .eq 51, 3) := by decide +kernel
theorem dL_law_875 : decode cL_law 875 = .ok (.iconst 0, 1) := by decide +kernel
theorem dL_law_876 : decode cL_law 876 = .ok (.ireturn, 1) := by decide +kernel
theorem dL_law_877 : decode cL_law 877 = .ok (.aload_n 1, 1) := by decide +kernel
theorem dL_law_878 : decode cL_law 878 = .ok (.aload_n 0, 1) := by decide +kernel
theorem dL_law_879 : decode cL_law 879 = .ok (.iload_n 3, 1) := by decide +kernel
theorem dL_law_880 : decode cL_law 880 = .ok (.iconst 1, 1) := by decide +kernel
theorem dL_law_881 : decode cL_law 881 = .ok (.iadd, 1) := by decide +kernel
theorem dL_law_882 : decode cL_law 882 = .ok (.iaload, 1) := by decide +kernel
theorem dL_law_883 : decode cL_law 883 = .ok (.invokevirtual 107, 3) := by decide +kernel
theorem dL_law_886 : decode cL_law 886 = .ok (.aload_n 2, 1) := by decide +kernel
theorem dL_law_887 : decode cL_law 887 = .ok (.aload_n 0, 1) := by decide +kernel
theorem dL_law_888 : decode cL_law 888 = .ok (.iload_n 3, 1) := by decide +kernel
theorem dL_law_889 : decode cL_law 889 = .ok (.iconst 1, 1) := by decide +kernel
theorem dL_law_890 : decode cL_law 890 = .ok (.iadd, 1) := by decide +kernel
theorem dL_law_891 : decode cL_law 891 = .ok (.iaload, 1) := by decide +kernel
theorem dL_law_892 : decode cL_law 892 = .ok (.invokevirtual 110, 3) := by decide +kernel
theorem dL_law_895 : decode cL_law 895 = .ok (.if_icmp .eq 28, 3) := by decide +kernel
theorem dL_law_898 : decode cL_law 898 = .ok (.iconst 0, 1) := by decide +kernel
theorem dL_law_899 : decode cL_law 899 = .ok (.ireturn, 1) := by decide +kernel
theorem dL_law_900 : decode cL_law 900 = .ok (.aload_n 1, 1) := by decide +kernel
theorem dL_law_901 : decode cL_law 901 = .ok (.aload_n 0, 1) := by decide +kernel
theorem dL_law_902 : decode cL_law 902 = .ok (.iload_n 3, 1) := by decide +kernel
theorem dL_law_903 : decode cL_law 903 = .ok (.iconst 1, 1) := by decide +kernel
theorem dL_law_904 : decode cL_law 904 = .ok (.iadd, 1) := by decide +kernel
theorem dL_law_905 : decode cL_law 905 = .ok (.iaload, 1) := by decide +kernel
theorem dL_law_906 : decode cL_law 906 = .ok (.invokevirtual 111, 3) := by decide +kernel
theorem dL_law_909 : decode cL_law 909 = .ok (.aload_n 2, 1) := by decide +kernel
theorem dL_law_910 : decode cL_law 910 = .ok (.aload_n 0, 1) := by decide +kernel
theorem dL_law_911 : decode cL_law 911 = .ok (.iload_n 3, 1) := by decide +kernel
theorem dL_law_912 : decode cL_law 912 = .ok (.iconst 1, 1) := by decide +kernel
theorem dL_law_913 : decode cL_law 913 = .ok (.iadd, 1) := by decide +kernel
theorem dL_law_914 : decode cL_law 914 = .ok (.iaload, 1) := by decide +kernel
theorem dL_law_915 : decode cL_law 915 = .ok (.invokevirtual 114, 3) := by decide +kernel
theorem dL_law_918 : decode cL_law 918 = .ok (.if_icmp .eq 5, 3) := by decide +kernel
theorem dL_law_921 : decode cL_law 921 = .ok (.iconst 0, 1) := by decide +kernel
theorem dL_law_922 : decode cL_law 922 = .ok (.ireturn, 1) := by decide +kernel
theorem dL_law_923 : decode cL_law 923 = .ok (.iinc 3 7, 3) := by decide +kernel
theorem dL_law_926 : decode cL_law 926 = .ok (.goto (-908), 3) := by decide +kernel
theorem dL_law_929 : decode cL_law 929 = .ok (.iconst 1, 1) := by decide +kernel
theorem dL_law_930 : decode cL_law 930 = .ok (.ireturn, 1) := by decide +kernel
