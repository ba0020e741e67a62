theorem dX3_round_60 : decode cX3_round 60 = .ok (.getfield 73, 3) := by decide +kernel
theorem dX3_round_63 : decode cX3_round 63 = .ok (.iaload, 1) := by decide +kernel
theorem dX3_round_64 : decode cX3_round 64 = .ok (.istore_n 3, 1) := by decide +kernel
theorem dX3_round_65 : decode cX3_round 65 = .ok (.iconst 0, 1) := by decide +kernel
theorem dX3_round_66 : decode cX3_round 66 = .ok (.istore 4, 2) := by decide +kernel
theorem dX3_round_68 : decode cX3_round 68 = .ok (.iload 4, 2) := by decide +kernel
theorem dX3_round_70 : decode cX3_round 70 = .ok (.iload_n 3, 1) := by decide +kernel
theorem dX3_round_71 : decode cX3_round 71 = .ok (.if_icmp .ge 33, 3) := by decide +kernel
theorem dX3_round_74 : decode cX3_round 74 = .ok (.aload_n 0, 1) := by decide +kernel
theorem dX3_round_75 : decode cX3_round 75 = .ok (.getfield 36, 3) := by decide +kernel
theorem dX3_round_78 : decode cX3_round 78 = .ok (.iload 4, 2) := by decide +kernel
theorem dX3_round_80 : decode cX3_round 80 = .ok (.aload_n 0, 1) := by decide +kernel
theorem dX3_round_81 : decode cX3_round 81 = .ok (.iload_n 2, 1) := by decide +kernel
theorem dX3_round_82 : decode cX3_round 82 = .ok (.invokevirtual 96, 3) := by decide +kernel
theorem dX3_round_85 : decode cX3_round 85 = .ok (.iastore, 1) := by decide +kernel
theorem dX3_round_86 : decode cX3_round 86 = .ok (.aload_n 0, 1) := by decide +kernel
theorem dX3_round_87 : decode cX3_round 87 = .ok (.aload_n 0, 1) := by decide +kernel
theorem dX3_round_88 : decode cX3_round 88 = .ok (.getfield 36, 3) := by decide +kernel
theorem dX3_round_91 : decode cX3_round 91 = .ok (.iload 4, 2) := by decide +kernel
theorem dX3_round_93 : decode cX3_round 93 = .ok (.iaload, 1) := by decide +kernel
theorem dX3_round_94 : decode cX3_round 94 = .ok (.invokevirtual 86, 3) := by decide +kernel
theorem dX3_round_97 : decode cX3_round 97 = .ok (.istore_n 2, 1) := by decide +kernel
theorem dX3_round_98 : decode cX3_round 98 = .ok (.iinc 4 1, 3) := by decide +kernel
theorem dX3_round_101 : decode cX3_round 101 = .ok (.goto (-33), 3) := by decide +kernel
theorem dX3_round_104 : decode cX3_round 104 = .ok (.iconst 0, 1) := by decide +kernel
theorem dX3_round_105 : decode cX3_round 105 = .ok (.istore 4, 2) := by decide +kernel
theorem dX3_round_107 : decode cX3_round 107 = .ok (.iload 4, 2) := by decide +kernel
theorem dX3_round_109 : decode cX3_round 109 = .ok (.iload_n 3, 1) := by decide +kernel
theorem dX3_round_110 : decode cX3_round 110 = .ok (.if_icmp .ge 44, 3) := by decide +kernel
theorem dX3_round_113 : decode cX3_round 113 = .ok (.aload_n 0, 1) := by decide +kernel
theorem dX3_round_114 : decode cX3_round 114 = .ok (.getfield 22, 3) := by decide +kernel
theorem dX3_round_117 : decode cX3_round 117 = .ok (.aload_n 0, 1) := by decide +kernel
theorem dX3_round_118 : decode cX3_round 118 = .ok (.getfield 36, 3) := by decide +kernel
theorem dX3_round_121 : decode cX3_round 121 = .ok (.iload 4, 2) := by decide +kernel
theorem dX3_round_123 : decode cX3_round 123 = .ok (.iaload, 1) := by decide +kernel
theorem dX3_round_124 : decode cX3_round 124 = .ok (.iconst 2, 1) := by decide +kernel
theorem dX3_round_125 : decode cX3_round 125 = .ok (.idiv, 1) := by decide +kernel
theorem dX3_round_126 : decode cX3_round 126 = .ok (.dup2, 1) := by decide +kernel
theorem dX3_round_127 : decode cX3_round 127 = .ok (.iaload, 1) := by decide +kernel
theorem dX3_round_128 : decode cX3_round 128 = .ok (.aload_n 0, 1) := by decide +kernel
theorem dX3_round_129 : decode cX3_round 129 = .ok (.getfield 36, 3) := by decide +kernel
theorem dX3_round_132 : decode cX3_round 132 = .ok (.iload 4, 2) := by decide +kernel
theorem dX3_round_134 : decode cX3_round 134 = .ok (.iaload, 1) := by decide +kernel
theorem dX3_round_135 : decode cX3_round 135 = .ok (.iconst 2, 1) := by decide +kernel
theorem dX3_round_136 : decode cX3_round 136 = .ok (.irem, 1) := by decide +kernel
theorem dX3_round_137 : decode cX3_round 137 = .ok (.ifCond .ne 7, 3) := by decide +kernel
theorem dX3_round_140 : decode cX3_round 140 = .ok (.iload_n 1, 1) := by decide +kernel
theorem dX3_round_141 : decode cX3_round 141 = .ok (.goto 5, 3) := by decide +kernel
theorem dX3_round_144 : decode cX3_round 144 = .ok (.iload_n 1, 1) := by decide +kernel
theorem dX3_round_145 : decode cX3_round 145 = .ok (.ineg, 1) := by decide +kernel
theorem dX3_round_146 : decode cX3_round 146 = .ok (.iadd, 1) := by decide +kernel
theorem dX3_round_147 : decode cX3_round 147 = .ok (.iastore, 1) := by decide +kernel
theorem dX3_round_148 : decode cX3_round 148 = .ok (.iinc 4 1, 3) := by decide +kernel
theorem dX3_round_151 : decode cX3_round 151 = .ok (.goto (-44), 3) := by decide +kernel
theorem dX3_round_154 : decode cX3_round 154 = .ok (.aload_n 0, 1) := by decide +kernel
theorem dX3_round_155 : decode cX3_round 155 = .ok (.dup, 1) := by decide +kernel
theorem dX3_round_156 : decode cX3_round 156 = .ok (.getfield 53, 3) := by decide +kernel
theorem dX3_round_159 : decode cX3_round 159 = .ok (.iload_n 1, 1) := by decide +kernel
theorem dX3_round_160 : decode cX3_round 160 = .ok (.iadd, 1) := by decide +kernel
theorem dX3_round_161 : decode cX3_round 161 = .ok (.putfield 53, 3) := by decide +kernel
theorem dX3_round_164 : decode cX3_round 164 = .ok (.aload_n 0, 1) := by decide +kernel
theorem dX3_round_165 : decode cX3_round 165 = .ok (.dup, 1) := by decide +kernel
theorem dX3_round_166 : decode cX3_round 166 = .ok (.getfield 50, 3) := by decide +kernel
theorem dX3_round_169 : decode cX3_round 169 = .ok (.iconst 1, 1) := by decide +kernel
theorem dX3_round_170 : decode cX3_round 170 = .ok (.iadd, 1) := by decide +kernel
theorem dX3_round_171 : decode cX3_round 171 = .ok (.putfield 50, 3) := by decide +kernel
theorem dX3_round_174 : decode cX3_round 174 = .ok (.return_, 1) := by decide +kernel
theorem dX3_run_0 : decode cX3_run 0 = .ok (.iload_n 1, 1) := by decide +kernel
theorem dX3_run_1 : decode cX3_run 1 = .ok (.ifCond .lt 10, 3) := by decide +kernel
theorem dX3_run_4 : decode cX3_run 4 = .ok (.iload_n 1, 1) := by decide +kernel
theorem dX3_run_5 : decode cX3_run 5 = .ok (.sipush 10000, 3) := by decide +kernel
theorem dX3_run_8 : decode cX3_run 8 = .ok (.if_icmp .le 5, 3) := by decide +kernel
theorem dX3_run_11 : decode cX3_run 11 = .ok (.iconst (-1), 1) := by decide +kernel
theorem dX3_run_12 : decode cX3_run 12 = .ok (.ireturn, 1) := by decide +kernel
theorem dX3_run_13 : decode cX3_run 13 = .ok (.aload_n 0, 1) := by decide +kernel
theorem dX3_run_14 : decode cX3_run 14 = .ok (.getfield 79, 3) := by decide +kernel
theorem dX3_run_17 : decode cX3_run 17 = .ok (.ifCond .ne 5, 3) := by decide +kernel
theorem dX3_run_20 : decode cX3_run 20 = .ok (.iconst 2, 1) := by decide +kernel
theorem dX3_run_21 : decode cX3_run 21 = .ok (.ireturn, 1) := by decide +kernel
theorem dX3_run_22 : decode cX3_run 22 = .ok (.aload_n 0, 1) := by decide +kernel
theorem dX3_run_23 : decode cX3_run 23 = .ok (.getfield 46, 3) := by decide +kernel
theorem dX3_run_26 : decode cX3_run 26 = .ok (.ifCond .eq 5, 3) := by decide +kernel
theorem dX3_run_29 : decode cX3_run 29 = .ok (.iconst 0, 1) := by decide +kernel
theorem dX3_run_30 : decode cX3_run 30 = .ok (.ireturn, 1) := by decide +kernel
theorem dX3_run_31 : decode cX3_run 31 = .ok (.aload_n 0, 1) := by decide +kernel
theorem dX3_run_32 : decode cX3_run 32 = .ok (.invokevirtual 99, 3) := by decide +kernel
theorem dX3_run_35 : decode cX3_run 35 = .ok (.ifCond .eq 5, 3) := by decide +kernel
theorem dX3_run_38 : decode cX3_run 38 = .ok (.iconst 3, 1) := by decide +kernel
theorem dX3_run_39 : decode cX3_run 39 = .ok (.ireturn, 1) := by decide +kernel
theorem dX3_run_40 : decode cX3_run 40 = .ok (.iconst 0, 1) := by decide +kernel
theorem dX3_run_41 : decode cX3_run 41 = .ok (.istore_n 2, 1) := by decide +kernel
theorem dX3_run_42 : decode cX3_run 42 = .ok (.aload_n 0, 1) := by decide +kernel
theorem dX3_run_43 : decode cX3_run 43 = .ok (.invokevirtual 103, 3) := by decide +kernel
theorem dX3_run_46 : decode cX3_run 46 = .ok (.istore_n 3, 1) := by decide +kernel
theorem dX3_run_47 : decode cX3_run 47 = .ok (.iload_n 3, 1) := by decide +kernel
theorem dX3_run_48 : decode cX3_run 48 = .ok (.ifCond .eq 23, 3) := by decide +kernel
theorem dX3_run_51 : decode cX3_run 51 = .ok (.iload_n 2, 1) := by decide +kernel
theorem dX3_run_52 : decode cX3_run 52 = .ok (.iload_n 1, 1) := by decide +kernel
theorem dX3_run_53 : decode cX3_run 53 = .ok (.if_icmp .ge 18, 3) := by decide +kernel
theorem dX3_run_56 : decode cX3_run 56 = .ok (.aload_n 0, 1) := by decide +kernel
theorem dX3_run_57 : decode cX3_run 57 = .ok (.invokevirtual 106, 3) := by decide +kernel
theorem dX3_run_60 : decode cX3_run 60 = .ok (.iinc 2 1, 3) := by decide +kernel
theorem dX3_run_63 : decode cX3_run 63 = .ok (.aload_n 0, 1) := by decide +kernel
theorem dX3_run_64 : decode cX3_run 64 = .ok (.invokevirtual 103, 3) := by decide +kernel
theorem dX3_run_67 : decode cX3_run 67 = .ok (.istore_n 3, 1) := by decide +kernel
theorem dX3_run_68 : decode cX3_run 68 = .ok (.goto (-21), 3) := by decide +kernel
theorem dX3_run_71 : decode cX3_run 71 = .ok (.aload_n 0, 1) := by decide +kernel
theorem dX3_run_72 : decode cX3_run 72 = .ok (.iload_n 3, 1) := by decide +kernel
theorem dX3_run_73 : decode cX3_run 73 = .ok (.ifCond .ne 7, 3) := by decide +kernel
theorem dX3_run_76 : decode cX3_run 76 = .ok (.iconst 1, 1) := by decide +kernel
theorem dX3_run_77 : decode cX3_run 77 = .ok (.goto 4, 3) := by decide +kernel
theorem dX3_run_80 : decode cX3_run 80 = .ok (.iconst 0, 1) := by decide +kernel
theorem dX3_run_81 : decode cX3_run 81 = .ok (.putfield 46, 3) := by decide +kernel
theorem dX3_run_84 : decode cX3_run 84 = .ok (.iload_n 3, 1) := by decide +kernel
theorem dX3_run_85 : decode cX3_run 85 = .ok (.ifCond .eq 7, 3) := by decide +kernel
theorem dX3_run_88 : decode cX3_run 88 = .ok (.iconst 1, 1) := by decide +kernel
theorem dX3_run_89 : decode cX3_run 89 = .ok (.goto 4, 3) := by decide +kernel
theorem dX3_run_92 : decode cX3_run 92 = .ok (.iconst 0, 1) := by decide +kernel
theorem dX3_run_93 : decode cX3_run 93 = .ok (.ireturn, 1) := by decide +kernel
theorem dX3_value_0 : decode cX3_value 0 = .ok (.aload_n 0, 1) := by decide +kernel
theorem dX3_value_1 : decode cX3_value 1 = .ok (.getfield 46, 3) := by decide +kernel
theorem dX3_value_4 : decode cX3_value 4 = .ok (.ifCond .eq 10, 3) := by decide +kernel
theorem dX3_value_7 : decode cX3_value 7 = .ok (.aload_n 0, 1) := by decide +kernel
theorem dX3_value_8 : decode cX3_value 8 = .ok (.getfield 53, 3) := by decide +kernel
theorem dX3_value_11 : decode cX3_value 11 = .ok (.goto 4, 3) := by decide +kernel
theorem dX3_value_14 : decode cX3_value 14 = .ok (.iconst (-1), 1) := by decide +kernel
theorem dX3_value_15 : decode cX3_value 15 = .ok (.ireturn, 1) := by decide +kernel
theorem dX3_cost_0 : decode cX3_cost 0 = .ok (.lconst 0, 1) := by decide +kernel
theorem dX3_cost_1 : decode cX3_cost 1 = .ok (.lstore_n 1, 1) := by decide +kernel
theorem dX3_cost_2 : decode cX3_cost 2 = .ok (.iconst 0, 1) := by decide +kernel
theorem dX3_cost_3 : decode cX3_cost 3 = .ok (.istore_n 3, 1) := by decide +kernel
theorem dX3_cost_4 : decode cX3_cost 4 = .ok (.iload_n 3, 1) := by decide +kernel
theorem dX3_cost_5 : decode cX3_cost 5 = .ok (.aload_n 0, 1) := by decide +kernel
theorem dX3_cost_6 : decode cX3_cost 6 = .ok (.getfield 56, 3) := by decide +kernel
theorem dX3_cost_9 : decode cX3_cost 9 = .ok (.if_icmp .ge 34, 3) := by decide +kernel
theorem dX3_cost_12 : decode cX3_cost 12 = .ok (.aload_n 0, 1) := by decide +kernel
theorem dX3_cost_13 : decode cX3_cost 13 = .ok (.getfield 46, 3) := by decide +kernel
theorem dX3_cost_16 : decode cX3_cost 16 = .ok (.ifCond .eq 27, 3) := by decide +kernel
theorem dX3_cost_19 : decode cX3_cost 19 = .ok (.lload_n 1, 1) := by decide +kernel
theorem dX3_cost_20 : decode cX3_cost 20 = .ok (.aload_n 0, 1) := by decide +kernel
theorem dX3_cost_21 : decode cX3_cost 21 = .ok (.getfield 22, 3) := by decide +kernel
theorem dX3_cost_24 : decode cX3_cost 24 = .ok (.iload_n 3, 1) := by decide +kernel
theorem dX3_cost_25 : decode cX3_cost 25 = .ok (.iaload, 1) := by decide +kernel
theorem dX3_cost_26 : decode cX3_cost 26 = .ok (.i2l, 1) := by decide +kernel
theorem dX3_cost_27 : decode cX3_cost 27 = .ok (.aload_n 0, 1) := by decide +kernel
theorem dX3_cost_28 : decode cX3_cost 28 = .ok (.getfield 19, 3) := by decide +kernel
theorem dX3_cost_31 : decode cX3_cost 31 = .ok (.iload_n 3, 1) := by decide +kernel
theorem dX3_cost_32 : decode cX3_cost 32 = .ok (.iaload, 1) := by decide +kernel
theorem dX3_cost_33 : decode cX3_cost 33 = .ok (.i2l, 1) := by decide +kernel
theorem dX3_cost_34 : decode cX3_cost 34 = .ok (.lmul, 1) := by decide +kernel
theorem dX3_cost_35 : decode cX3_cost 35 = .ok (.ladd, 1) := by decide +kernel
theorem dX3_cost_36 : decode cX3_cost 36 = .ok (.lstore_n 1, 1) := by decide +kernel
theorem dX3_cost_37 : decode cX3_cost 37 = .ok (.iinc 3 1, 3) := by decide +kernel
theorem dX3_cost_40 : decode cX3_cost 40 = .ok (.goto (-36), 3) := by decide +kernel
theorem dX3_cost_43 : decode cX3_cost 43 = .ok (.lload_n 1, 1) := by decide +kernel
theorem dX3_cost_44 : decode cX3_cost 44 = .ok (.lreturn, 1) := by decide +kernel
theorem dX3_flow_0 : decode cX3_flow 0 = .ok (.iload_n 1, 1) := by decide +kernel
theorem dX3_flow_1 : decode cX3_flow 1 = .ok (.ifCond .lt 20, 3) := by decide +kernel
theorem dX3_flow_4 : decode cX3_flow 4 = .ok (.iload_n 1, 1) := by decide +kernel
theorem dX3_flow_5 : decode cX3_flow 5 = .ok (.aload_n 0, 1) := by decide +kernel
theorem dX3_flow_6 : decode cX3_flow 6 = .ok (.getfield 56, 3) := by decide +kernel
theorem dX3_flow_9 : decode cX3_flow 9 = .ok (.if_icmp .ge 12, 3) := by decide +kernel
theorem dX3_flow_12 : decode cX3_flow 12 = .ok (.aload_n 0, 1) := by decide +kernel
theorem dX3_flow_13 : decode cX3_flow 13 = .ok (.getfield 22, 3) := by decide +kernel
theorem dX3_flow_16 : decode cX3_flow 16 = .ok (.iload_n 1, 1) := by decide +kernel
theorem dX3_flow_17 : decode cX3_flow 17 = .ok (.iaload, 1) := by decide +kernel
theorem dX3_flow_18 : decode cX3_flow 18 = .ok (.goto 4, 3) := by decide +kernel
theorem dX3_flow_21 : decode cX3_flow 21 = .ok (.iconst (-1), 1) := by decide +kernel
theorem dX3_flow_22 : decode cX3_flow 22 = .ok (.ireturn, 1) := by decide +kernel
theorem dX3_findCosts_0 : decode cX3_findCosts 0 = .ok (.iconst 0, 1) := by decide +kernel
theorem dX3_findCosts_1 : decode cX3_findCosts 1 = .ok (.istore_n 1, 1) := by decide +kernel
theorem dX3_findCosts_2 : decode cX3_findCosts 2 = .ok (.iload_n 1, 1) := by decide +kernel
theorem dX3_findCosts_3 : decode cX3_findCosts 3 = .ok (.aload_n 0, 1) := by decide +kernel
theorem dX3_findCosts_4 : decode cX3_findCosts 4 = .ok (.getfield 39, 3) := by decide +kernel
theorem dX3_findCosts_7 : decode cX3_findCosts 7 = .ok (.if_icmp .ge 35, 3) := by decide +kernel
theorem dX3_findCosts_10 : decode cX3_findCosts 10 = .ok (.aload_n 0, 1) := by decide +kernel
theorem dX3_findCosts_11 : decode cX3_findCosts 11 = .ok (.getfield 32, 3) := by decide +kernel
theorem dX3_findCosts_14 : decode cX3_findCosts 14 = .ok (.iload_n 1, 1) := by decide +kernel
theorem dX3_findCosts_15 : decode cX3_findCosts 15 = .ok (.iload_n 1, 1) := by decide +kernel
theorem dX3_findCosts_16 : decode cX3_findCosts 16 = .ok (.aload_n 0, 1) := by decide +kernel
theorem dX3_findCosts_17 : decode cX3_findCosts 17 = .ok (.getfield 73, 3) := by decide +kernel
theorem dX3_findCosts_20 : decode cX3_findCosts 20 = .ok (.if_icmp .ne 7, 3) := by decide +kernel
theorem dX3_findCosts_23 : decode cX3_findCosts 23 = .ok (.iconst 1, 1) := by decide +kernel
theorem dX3_findCosts_24 : decode cX3_findCosts 24 = .ok (.goto 4, 3) := by decide +kernel
theorem dX3_findCosts_27 : decode cX3_findCosts 27 = .ok (.iconst 0, 1) := by decide +kernel
theorem dX3_findCosts_28 : decode cX3_findCosts 28 = .ok (.bastore, 1) := by decide +kernel
theorem dX3_findCosts_29 : decode cX3_findCosts 29 = .ok (.aload_n 0, 1) := by decide +kernel
theorem dX3_findCosts_30 : decode cX3_findCosts 30 = .ok (.getfield 25, 3) := by decide +kernel
theorem dX3_findCosts_33 : decode cX3_findCosts 33 = .ok (.iload_n 1, 1) := by decide +kernel
theorem dX3_findCosts_34 : decode cX3_findCosts 34 = .ok (.lconst 0, 1) := by decide +kernel
theorem dX3_findCosts_35 : decode cX3_findCosts 35 = .ok (.lastore, 1) := by decide +kernel
theorem dX3_findCosts_36 : decode cX3_findCosts 36 = .ok (.iinc 1 1, 3) := by decide +kernel
theorem dX3_findCosts_39 : decode cX3_findCosts 39 = .ok (.goto (-37), 3) := by decide +kernel
theorem dX3_findCosts_42 : decode cX3_findCosts 42 = .ok (.iconst 1, 1) := by decide +kernel
theorem dX3_findCosts_43 : decode cX3_findCosts 43 = .ok (.istore_n 1, 1) := by decide +kernel
theorem dX3_findCosts_44 : decode cX3_findCosts 44 = .ok (.iload_n 1, 1) := by decide +kernel
theorem dX3_findCosts_45 : decode cX3_findCosts 45 = .ok (.ifCond .eq 129, 3) := by decide +kernel
theorem dX3_findCosts_48 : decode cX3_findCosts 48 = .ok (.iconst 0, 1) := by decide +kernel
theorem dX3_findCosts_49 : decode cX3_findCosts 49 = .ok (.istore_n 1, 1) := by decide +kernel
theorem dX3_findCosts_50 : decode cX3_findCosts 50 = .ok (.iconst 0, 1) := by decide +kernel
theorem dX3_findCosts_51 : decode cX3_findCosts 51 = .ok (.istore_n 2, 1) := by decide +kernel
theorem dX3_findCosts_52 : decode cX3_findCosts 52 = .ok (.iload_n 2, 1) := by decide +kernel
theorem dX3_findCosts_53 : decode cX3_findCosts 53 = .ok (.iconst 2, 1) := by decide +kernel
theorem dX3_findCosts_54 : decode cX3_findCosts 54 = .ok (.aload_n 0, 1) := by decide +kernel
theorem dX3_findCosts_55 : decode cX3_findCosts 55 = .ok (.getfield 56, 3) := by decide +kernel
theorem dX3_findCosts_58 : decode cX3_findCosts 58 = .ok (.imul, 1) := by decide +kernel
theorem dX3_findCosts_59 : decode cX3_findCosts 59 = .ok (.if_icmp .ge 112, 3) := by decide +kernel
theorem dX3_findCosts_62 : decode cX3_findCosts 62 = .ok (.aload_n 0, 1) := by decide +kernel
theorem dX3_findCosts_63 : decode cX3_findCosts 63 = .ok (.iload_n 2, 1) := by decide +kernel
theorem dX3_findCosts_64 : decode cX3_findCosts 64 = .ok (.invokevirtual 82, 3) := by decide +kernel
theorem dX3_findCosts_67 : decode cX3_findCosts 67 = .ok (.istore_n 3, 1) := by decide +kernel
theorem dX3_findCosts_68 : decode cX3_findCosts 68 = .ok (.aload_n 0, 1) := by decide +kernel
theorem dX3_findCosts_69 : decode cX3_findCosts 69 = .ok (.iload_n 2, 1) := by decide +kernel
theorem dX3_findCosts_70 : decode cX3_findCosts 70 = .ok (.invokevirtual 86, 3) := by decide +kernel
theorem dX3_findCosts_73 : decode cX3_findCosts 73 = .ok (.istore 4, 2) := by decide +kernel
theorem dX3_findCosts_75 : decode cX3_findCosts 75 = .ok (.aload_n 0, 1) := by decide +kernel
theorem dX3_findCosts_76 : decode cX3_findCosts 76 = .ok (.iload_n 2, 1) := by decide +kernel
theorem dX3_findCosts_77 : decode cX3_findCosts 77 = .ok (.invokevirtual 89, 3) := by decide +kernel
theorem dX3_findCosts_80 : decode cX3_findCosts 80 = .ok (.ifCond .le 85, 3) := by decide +kernel
theorem dX3_findCosts_83 : decode cX3_findCosts 83 = .ok (.aload_n 0, 1) := by decide +kernel
theorem dX3_findCosts_84 : decode cX3_findCosts 84 = .ok (.getfield 32, 3) := by decide +kernel
theorem dX3_findCosts_87 : decode cX3_findCosts 87 = .ok (.iload_n 3, 1) := by decide +kernel
theorem dX3_findCosts_88 : decode cX3_findCosts 88 = .ok (.baload, 1) := by decide +kernel
theorem dX3_findCosts_89 : decode cX3_findCosts 89 = .ok (.ifCond .eq 76, 3) := by decide +kernel
theorem dX3_findCosts_92 : decode cX3_findCosts 92 = .ok (.iload 4, 2) := by decide +kernel
theorem dX3_findCosts_94 : decode cX3_findCosts 94 = .ok (.aload_n 0, 1) := by decide +kernel
theorem dX3_findCosts_95 : decode cX3_findCosts 95 = .ok (.getfield 73, 3) := by decide +kernel
theorem dX3_findCosts_98 : decode cX3_findCosts 98 = .ok (.if_icmp .eq 67, 3) := by decide +kernel
theorem dX3_findCosts_101 : decode cX3_findCosts 101 = .ok (.aload_n 0, 1) := by decide +kernel
theorem dX3_findCosts_102 : decode cX3_findCosts 102 = .ok (.getfield 32, 3) := by decide +kernel
theorem dX3_findCosts_105 : decode cX3_findCosts 105 = .ok (.iload 4, 2) := by decide +kernel
theorem dX3_findCosts_107 : decode cX3_findCosts 107 = .ok (.baload, 1) := by decide +kernel
theorem dX3_findCosts_108 : decode cX3_findCosts 108 = .ok (.ifCond .eq 27, 3) := by decide +kernel
theorem dX3_findCosts_111 : decode cX3_findCosts 111 = .ok (.aload_n 0, 1) := by decide +kernel
theorem dX3_findCosts_112 : decode cX3_findCosts 112 = .ok (.getfield 25, 3) := by decide +kernel
theorem dX3_findCosts_115 : decode cX3_findCosts 115 = .ok (.iload_n 3, 1) := by decide +kernel
theorem dX3_findCosts_116 : decode cX3_findCosts 116 = .ok (.laload, 1) := by decide +kernel
theorem dX3_findCosts_117 : decode cX3_findCosts 117 = .ok (.aload_n 0, 1) := by decide +kernel
theorem dX3_findCosts_118 : decode cX3_findCosts 118 = .ok (.iload_n 2, 1) := by decide +kernel
theorem dX3_findCosts_119 : decode cX3_findCosts 119 = .ok (.invokevirtual 92, 3) := by decide +kernel
theorem dX3_findCosts_122 : decode cX3_findCosts 122 = .ok (.i2l, 1) := by decide +kernel
theorem dX3_findCosts_123 : decode cX3_findCosts 123 = .ok (.ladd, 1) := by decide +kernel
theorem dX3_findCosts_124 : decode cX3_findCosts 124 = .ok (.aload_n 0, 1) := by decide +kernel
theorem dX3_findCosts_125 : decode cX3_findCosts 125 = .ok (.getfield 25, 3) := by decide +kernel
theorem dX3_findCosts_128 : decode cX3_findCosts 128 = .ok (.iload 4, 2) := by decide +kernel
theorem dX3_findCosts_130 : decode cX3_findCosts 130 = .ok (.laload, 1) := by decide +kernel
theorem dX3_findCosts_131 : decode cX3_findCosts 131 = .ok (.lcmp, 1) := by decide +kernel
theorem dX3_findCosts_132 : decode cX3_findCosts 132 = .ok (.ifCond .ge 33, 3) := by decide +kernel
theorem dX3_findCosts_135 : decode cX3_findCosts 135 = .ok (.aload_n 0, 1) := by decide +kernel
theorem dX3_findCosts_136 : decode cX3_findCosts 136 = .ok (.getfield 32, 3) := by decide +kernel
theorem dX3_findCosts_139 : decode cX3_findCosts 139 = .ok (.iload 4, 2) := by decide +kernel
theorem dX3_findCosts_141 : decode cX3_findCosts 141 = .ok (.iconst 1, 1) := by decide +kernel
theorem dX3_findCosts_142 : decode cX3_findCosts 142 = .ok (.bastore, 1) := by decide +kernel
theorem dX3_findCosts_143 : decode cX3_findCosts 143 = .ok (.aload_n 0, 1) := by decide +kernel
theorem dX3_findCosts_144 : decode cX3_findCosts 144 = .ok (.getfield 25, 3) := by decide +kernel
theorem dX3_findCosts_147 : decode cX3_findCosts 147 = .ok (.iload 4, 2) := by decide +kernel
theorem dX3_findCosts_149 : decode cX3_findCosts 149 = .ok (.aload_n 0, 1) := by decide +kernel
theorem dX3_findCosts_150 : decode cX3_findCosts 150 = .ok (.getfield 25, 3) := by decide +kernel
theorem dX3_findCosts_153 : decode cX3_findCosts 153 = .ok (.iload_n 3, 1) := by decide +kernel
theorem dX3_findCosts_154 : decode cX3_findCosts 154 = .ok (.laload, 1) := by decide +kernel
theorem dX3_findCosts_155 : decode cX3_findCosts 155 = .ok (.aload_n 0, 1) := by decide +kernel
theorem dX3_findCosts_156 : decode cX3_findCosts 156 = .ok (.iload_n 2, 1) := by decide +kernel
theorem dX3_findCosts_157 : decode cX3_findCosts 157 = .ok (.invokevirtual 92, 3) := by decide +kernel
theorem dX3_findCosts_160 : decode cX3_findCosts 160 = .ok (.i2l, 1) := by decide +kernel
theorem dX3_findCosts_161 : decode cX3_findCosts 161 = .ok (.ladd, 1) := by decide +kernel
theorem dX3_findCosts_162 : decode cX3_findCosts 162 = .ok (.lastore, 1) := by decide +kernel
theorem dX3_findCosts_163 : decode cX3_findCosts 163 = .ok (.iconst 1, 1) := by decide +kernel
theorem dX3_findCosts_164 : decode cX3_findCosts 164 = .ok (.istore_n 1, 1) := by decide +kernel
theorem dX3_findCosts_165 : decode cX3_findCosts 165 = .ok (.iinc 2 1, 3) := by decide +kernel
theorem dX3_findCosts_168 : decode cX3_findCosts 168 = .ok (.goto (-116), 3) := by decide +kernel
theorem dX3_findCosts_171 : decode cX3_findCosts 171 = .ok (.goto (-127), 3) := by decide +kernel
theorem dX3_findCosts_174 : decode cX3_findCosts 174 = .ok (.return_, 1) := by decide +kernel
theorem dX3_potential_0 : decode cX3_potential 0 = .ok (.aload_n 0, 1) := by decide +kernel
theorem dX3_potential_1 : decode cX3_potential 1 = .ok (.getfield 46, 3) := by decide +kernel
theorem dX3_potential_4 : decode cX3_potential 4 = .ok (.ifCond .eq 11, 3) := by decide +kernel
theorem dX3_potential_7 : decode cX3_potential 7 = .ok (.aload_n 0, 1) := by decide +kernel
theorem dX3_potential_8 : decode cX3_potential 8 = .ok (.iload_n 1, 1) := by decide +kernel
theorem dX3_potential_9 : decode cX3_potential 9 = .ok (.invokevirtual 59, 3) := by decide +kernel
theorem dX3_potential_12 : decode cX3_potential 12 = .ok (.ifCond .ne 5, 3) := by decide +kernel
theorem dX3_potential_15 : decode cX3_potential 15 = .ok (.iconst (-1), 1) := by decide +kernel
theorem dX3_potential_16 : decode cX3_potential 16 = .ok (.ireturn, 1) := by decide +kernel
theorem dX3_potential_17 : decode cX3_potential 17 = .ok (.aload_n 0, 1) := by decide +kernel
theorem dX3_potential_18 : decode cX3_potential 18 = .ok (.invokevirtual 109, 3) := by decide +kernel
theorem dX3_potential_21 : decode cX3_potential 21 = .ok (.aload_n 0, 1) := by decide +kernel
theorem dX3_potential_22 : decode cX3_potential 22 = .ok (.getfield 32, 3) := by decide +kernel
theorem dX3_potential_25 : decode cX3_potential 25 = .ok (.iload_n 1, 1) := by decide +kernel
theorem dX3_potential_26 : decode cX3_potential 26 = .ok (.baload, 1) := by decide +kernel
theorem dX3_potential_27 : decode cX3_potential 27 = .ok (.ifCond .eq 13, 3) := by decide +kernel
theorem dX3_potential_30 : decode cX3_potential 30 = .ok (.aload_n 0, 1) := by decide +kernel
theorem dX3_potential_31 : decode cX3_potential 31 = .ok (.getfield 25, 3) := by decide +kernel
theorem dX3_potential_34 : decode cX3_potential 34 = .ok (.iload_n 1, 1) := by decide +kernel
theorem dX3_potential_35 : decode cX3_potential 35 = .ok (.laload, 1) := by decide +kernel
theorem dX3_potential_36 : decode cX3_potential 36 = .ok (.l2i, 1) := by decide +kernel
theorem dX3_potential_37 : decode cX3_potential 37 = .ok (.goto 5, 3) := by decide +kernel
theorem dX3_potential_40 : decode cX3_potential 40 = .ok (.ldc 95, 2) := by decide +kernel
theorem dX3_potential_42 : decode cX3_potential 42 = .ok (.ireturn, 1) := by decide +kernel
theorem dX3_inCut_0 : decode cX3_inCut 0 = .ok (.aload_n 0, 1) := by decide +kernel
theorem dX3_inCut_1 : decode cX3_inCut 1 = .ok (.getfield 46, 3) := by decide +kernel
theorem dX3_inCut_4 : decode cX3_inCut 4 = .ok (.ifCond .eq 11, 3) := by decide +kernel
theorem dX3_inCut_7 : decode cX3_inCut 7 = .ok (.aload_n 0, 1) := by decide +kernel
theorem dX3_inCut_8 : decode cX3_inCut 8 = .ok (.iload_n 1, 1) := by decide +kernel
theorem dX3_inCut_9 : decode cX3_inCut 9 = .ok (.invokevirtual 59, 3) := by decide +kernel
theorem dX3_inCut_12 : decode cX3_inCut 12 = .ok (.ifCond .ne 5, 3) := by decide +kernel
theorem dX3_inCut_15 : decode cX3_inCut 15 = .ok (.iconst 0, 1) := by decide +kernel
theorem dX3_inCut_16 : decode cX3_inCut 16 = .ok (.ireturn, 1) := by decide +kernel
theorem dX3_inCut_17 : decode cX3_inCut 17 = .ok (.aload_n 0, 1) := by decide +kernel
theorem dX3_inCut_18 : decode cX3_inCut 18 = .ok (.invokevirtual 109, 3) := by decide +kernel
theorem dX3_inCut_21 : decode cX3_inCut 21 = .ok (.aload_n 0, 1) := by decide +kernel
theorem dX3_inCut_22 : decode cX3_inCut 22 = .ok (.getfield 32, 3) := by decide +kernel
theorem dX3_inCut_25 : decode cX3_inCut 25 = .ok (.iload_n 1, 1) := by decide +kernel
theorem dX3_inCut_26 : decode cX3_inCut 26 = .ok (.baload, 1) := by decide +kernel
theorem dX3_inCut_27 : decode cX3_inCut 27 = .ok (.ireturn, 1) := by decide +kernel
theorem dX3_check_0 : decode cX3_check 0 = .ok (.aload_n 0, 1) := by decide +kernel
theorem dX3_check_1 : decode cX3_check 1 = .ok (.getfield 46, 3) := by decide +kernel
theorem dX3_check_4 : decode cX3_check 4 = .ok (.ifCond .ne 5, 3) := by decide +kernel
theorem dX3_check_7 : decode cX3_check 7 = .ok (.iconst 0, 1) := by decide +kernel
theorem dX3_check_8 : decode cX3_check 8 = .ok (.ireturn, 1) := by decide +kernel
theorem dX3_check_9 : decode cX3_check 9 = .ok (.aload_n 0, 1) := by decide +kernel
theorem dX3_check_10 : decode cX3_check 10 = .ok (.invokevirtual 109, 3) := by decide +kernel
theorem dX3_check_13 : decode cX3_check 13 = .ok (.iconst 1, 1) := by decide +kernel
theorem dX3_check_14 : decode cX3_check 14 = .ok (.istore_n 1, 1) := by decide +kernel
theorem dX3_check_15 : decode cX3_check 15 = .ok (.lconst 0, 1) := by decide +kernel
theorem dX3_check_16 : decode cX3_check 16 = .ok (.lstore_n 2, 1) := by decide +kernel
theorem dX3_check_17 : decode cX3_check 17 = .ok (.iconst 0, 1) := by decide +kernel
theorem dX3_check_18 : decode cX3_check 18 = .ok (.istore 4, 2) := by decide +kernel
theorem dX3_check_20 : decode cX3_check 20 = .ok (.iload 4, 2) := by decide +kernel
theorem dX3_check_22 : decode cX3_check 22 = .ok (.aload_n 0, 1) := by decide +kernel
theorem dX3_check_23 : decode cX3_check 23 = .ok (.getfield 56, 3) := by decide +kernel
theorem dX3_check_26 : decode cX3_check 26 = .ok (.if_icmp .ge 156, 3) := by decide +kernel
theorem dX3_check_29 : decode cX3_check 29 = .ok (.iload_n 1, 1) := by decide +kernel
theorem dX3_check_30 : decode cX3_check 30 = .ok (.ifCond .eq 34, 3) := by decide +kernel
theorem dX3_check_33 : decode cX3_check 33 = .ok (.aload_n 0, 1) := by decide +kernel
theorem dX3_check_34 : decode cX3_check 34 = .ok (.getfield 22, 3) := by decide +kernel
theorem dX3_check_37 : decode cX3_check 37 = .ok (.iload 4, 2) := by decide +kernel
theorem dX3_check_39 : decode cX3_check 39 = .ok (.iaload, 1) := by decide +kernel
theorem dX3_check_40 : decode cX3_check 40 = .ok (.ifCond .lt 24, 3) := by decide +kernel
theorem dX3_check_43 : decode cX3_check 43 = .ok (.aload_n 0, 1) := by decide +kernel
theorem dX3_check_44 : decode cX3_check 44 = .ok (.getfield 22, 3) := by decide +kernel
theorem dX3_check_47 : decode cX3_check 47 = .ok (.iload 4, 2) := by decide +kernel
theorem dX3_check_49 : decode cX3_check 49 = .ok (.iaload, 1) := by decide +kernel
theorem dX3_check_50 : decode cX3_check 50 = .ok (.aload_n 0, 1) := by decide +kernel
theorem dX3_check_51 : decode cX3_check 51 = .ok (.getfield 16, 3) := by decide +kernel
theorem dX3_check_54 : decode cX3_check 54 = .ok (.iload 4, 2) := by decide +kernel
theorem dX3_check_56 : decode cX3_check 56 = .ok (.iaload, 1) := by decide +kernel
theorem dX3_check_57 : decode cX3_check 57 = .ok (.if_icmp .gt 7, 3) := by decide +kernel
theorem dX3_check_60 : decode cX3_check 60 = .ok (.iconst 1, 1) := by decide +kernel
theorem dX3_check_61 : decode cX3_check 61 = .ok (.goto 4, 3) := by decide +kernel
theorem dX3_check_64 : decode cX3_check 64 = .ok (.iconst 0, 1) := by decide +kernel
theorem dX3_check_65 : decode cX3_check 65 = .ok (.istore_n 1, 1) := by decide +kernel
theorem dX3_check_66 : decode cX3_check 66 = .ok (.aload_n 0, 1) := by decide +kernel
theorem dX3_check_67 : decode cX3_check 67 = .ok (.getfield 32, 3) := by decide +kernel
theorem dX3_check_70 : decode cX3_check 70 = .ok (.aload_n 0, 1) := by decide +kernel
theorem dX3_check_71 : decode cX3_check 71 = .ok (.getfield 7, 3) := by decide +kernel
theorem dX3_check_74 : decode cX3_check 74 = .ok (.iload 4, 2) := by decide +kernel
theorem dX3_check_76 : decode cX3_check 76 = .ok (.iaload, 1) := by decide +kernel
theorem dX3_check_77 : decode cX3_check 77 = .ok (.baload, 1) := by decide +kernel
theorem dX3_check_78 : decode cX3_check 78 = .ok (.istore 5, 2) := by decide +kernel
theorem dX3_check_80 : decode cX3_check 80 = .ok (.aload_n 0, 1) := by decide +kernel
theorem dX3_check_81 : decode cX3_check 81 = .ok (.getfield 32, 3) := by decide +kernel
theorem dX3_check_84 : decode cX3_check 84 = .ok (.aload_n 0, 1) := by decide +kernel
theorem dX3_check_85 : decode cX3_check 85 = .ok (.getfield 13, 3) := by decide +kernel
theorem dX3_check_88 : decode cX3_check 88 = .ok (.iload 4, 2) := by decide +kernel
theorem dX3_check_90 : decode cX3_check 90 = .ok (.iaload, 1) := by decide +kernel
theorem dX3_check_91 : decode cX3_check 91 = .ok (.baload, 1) := by decide +kernel
theorem dX3_check_92 : decode cX3_check 92 = .ok (.istore 6, 2) := by decide +kernel
theorem dX3_check_94 : decode cX3_check 94 = .ok (.iload_n 1, 1) := by decide +kernel
theorem dX3_check_95 : decode cX3_check 95 = .ok (.ifCond .eq 54, 3) := by decide +kernel
theorem dX3_check_98 : decode cX3_check 98 = .ok (.iload 5, 2) := by decide +kernel
theorem dX3_check_100 : decode cX3_check 100 = .ok (.ifCond .eq 25, 3) := by decide +kernel
theorem dX3_check_103 : decode cX3_check 103 = .ok (.iload 6, 2) := by decide +kernel
theorem dX3_check_105 : decode cX3_check 105 = .ok (.ifCond .ne 20, 3) := by decide +kernel
theorem dX3_check_108 : decode cX3_check 108 = .ok (.aload_n 0, 1) := by decide +kernel
theorem dX3_check_109 : decode cX3_check 109 = .ok (.getfield 22, 3) := by decide +kernel
theorem dX3_check_112 : decode cX3_check 112 = .ok (.iload 4, 2) := by decide +kernel
theorem dX3_check_114 : decode cX3_check 114 = .ok (.iaload, 1) := by decide +kernel
theorem dX3_check_115 : decode cX3_check 115 = .ok (.aload_n 0, 1) := by decide +kernel
theorem dX3_check_116 : decode cX3_check 116 = .ok (.getfield 16, 3) := by decide +kernel
theorem dX3_check_119 : decode cX3_check 119 = .ok (.iload 4, 2) := by decide +kernel
theorem dX3_check_121 : decode cX3_check 121 = .ok (.iaload, 1) := by decide +kernel
theorem dX3_check_122 : decode cX3_check 122 = .ok (.if_icmp .ne 27, 3) := by decide +kernel
theorem dX3_check_125 : decode cX3_check 125 = .ok (.iload 5, 2) := by decide +kernel
theorem dX3_check_127 : decode cX3_check 127 = .ok (.ifCond .ne 18, 3) := by decide +kernel
theorem dX3_check_130 : decode cX3_check 130 = .ok (.iload 6, 2) := by decide +kernel
theorem dX3_check_132 : decode cX3_check 132 = .ok (.ifCond .eq 13, 3) := by decide +kernel
theorem dX3_check_135 : decode cX3_check 135 = .ok (.aload_n 0, 1) := by decide +kernel
theorem dX3_check_136 : decode cX3_check 136 = .ok (.getfield 22, 3) := by decide +kernel
theorem dX3_check_139 : decode cX3_check 139 = .ok (.iload 4, 2) := by decide +kernel
theorem dX3_check_141 : decode cX3_check 141 = .ok (.iaload, 1) := by decide +kernel
theorem dX3_check_142 : decode cX3_check 142 = .ok (.ifCond .ne 7, 3) := by decide +kernel
theorem dX3_check_145 : decode cX3_check 145 = .ok (.iconst 1, 1) := by decide +kernel
theorem dX3_check_146 : decode cX3_check 146 = .ok (.goto 4, 3) := by decide +kernel
theorem dX3_check_149 : decode cX3_check 149 = .ok (.iconst 0, 1) := by decide +kernel
theorem dX3_check_150 : decode cX3_check 150 = .ok (.istore_n 1, 1) := by decide +kernel
theorem dX3_check_151 : decode cX3_check 151 = .ok (.lload_n 2, 1) := by decide +kernel
theorem dX3_check_152 : decode cX3_check 152 = .ok (.iload 5, 2) := by decide +kernel
theorem dX3_check_154 : decode cX3_check 154 = .ok (.ifCond .eq 19, 3) := by decide +kernel
theorem dX3_check_157 : decode cX3_check 157 = .ok (.iload 6, 2) := by decide +kernel
theorem dX3_check_159 : decode cX3_check 159 = .ok (.ifCond .ne 14, 3) := by decide +kernel
theorem dX3_check_162 : decode cX3_check 162 = .ok (.aload_n 0, 1) := by decide +kernel
theorem dX3_check_163 : decode cX3_check 163 = .ok (.getfield 16, 3) := by decide +kernel
theorem dX3_check_166 : decode cX3_check 166 = .ok (.iload 4, 2) := by decide +kernel
theorem dX3_check_168 : decode cX3_check 168 = .ok (.iaload, 1) := by decide +kernel
theorem dX3_check_169 : decode cX3_check 169 = .ok (.i2l, 1) := by decide +kernel
theorem dX3_check_170 : decode cX3_check 170 = .ok (.goto 4, 3) := by decide +kernel
theorem dX3_check_173 : decode cX3_check 173 = .ok (.lconst 0, 1) := by decide +kernel
theorem dX3_check_174 : decode cX3_check 174 = .ok (.ladd, 1) := by decide +kernel
theorem dX3_check_175 : decode cX3_check 175 = .ok (.lstore_n 2, 1) := by decide +kernel
theorem dX3_check_176 : decode cX3_check 176 = .ok (.iinc 4 1, 3) := by decide +kernel
theorem dX3_check_179 : decode cX3_check 179 = .ok (.goto (-159), 3) := by decide +kernel
theorem dX3_check_182 : decode cX3_check 182 = .ok (.iconst 0, 1) := by decide +kernel
theorem dX3_check_183 : decode cX3_check 183 = .ok (.istore 4, 2) := by decide +kernel
theorem dX3_check_185 : decode cX3_check 185 = .ok (.iload 4, 2) := by decide +kernel
theorem dX3_check_187 : decode cX3_check 187 = .ok (.aload_n 0, 1) := by decide +kernel
theorem dX3_check_188 : decode cX3_check 188 = .ok (.getfield 39, 3) := by decide +kernel
theorem dX3_check_191 : decode cX3_check 191 = .ok (.if_icmp .ge 118, 3) := by decide +kernel
theorem dX3_check_194 : decode cX3_check 194 = .ok (.lconst 0, 1) := by decide +kernel
theorem dX3_check_195 : decode cX3_check 195 = .ok (.lstore 5, 2) := by decide +kernel
theorem dX3_check_197 : decode cX3_check 197 = .ok (.iconst 0, 1) := by decide +kernel
theorem dX3_check_198 : decode cX3_check 198 = .ok (.istore 7, 2) := by decide +kernel
theorem dX3_check_200 : decode cX3_check 200 = .ok (.iload 7, 2) := by decide +kernel
theorem dX3_check_202 : decode cX3_check 202 = .ok (.aload_n 0, 1) := by decide +kernel
theorem dX3_check_203 : decode cX3_check 203 = .ok (.getfield 56, 3) := by decide +kernel
theorem dX3_check_206 : decode cX3_check 206 = .ok (.if_icmp .ge 62, 3) := by decide +kernel
theorem dX3_check_209 : decode cX3_check 209 = .ok (.lload 5, 2) := by decide +kernel
theorem dX3_check_211 : decode cX3_check 211 = .ok (.aload_n 0, 1) := by decide +kernel
theorem dX3_check_212 : decode cX3_check 212 = .ok (.getfield 13, 3) := by decide +kernel
theorem dX3_check_215 : decode cX3_check 215 = .ok (.iload 7, 2) := by decide +kernel
theorem dX3_check_217 : decode cX3_check 217 = .ok (.iaload, 1) := by decide +kernel
theorem dX3_check_218 : decode cX3_check 218 = .ok (.iload 4, 2) := by decide +kernel
theorem dX3_check_220 : decode cX3_check 220 = .ok (.if_icmp .ne 14, 3) := by decide +kernel
theorem dX3_check_223 : decode cX3_check 223 = .ok (.aload_n 0, 1) := by decide +kernel
theorem dX3_check_224 : decode cX3_check 224 = .ok (.getfield 22, 3) := by decide +kernel
theorem dX3_check_227 : decode cX3_check 227 = .ok (.iload 7, 2) := by decide +kernel
theorem dX3_check_229 : decode cX3_check 229 = .ok (.iaload, 1) := by decide +kernel
theorem dX3_check_230 : decode cX3_check 230 = .ok (.i2l, 1) := by decide +kernel
theorem dX3_check_231 : decode cX3_check 231 = .ok (.goto 28, 3) := by decide +kernel
theorem dX3_check_234 : decode cX3_check 234 = .ok (.aload_n 0, 1) := by decide +kernel
theorem dX3_check_235 : decode cX3_check 235 = .ok (.getfield 7, 3) := by decide +kernel
theorem dX3_check_238 : decode cX3_check 238 = .ok (.iload 7, 2) := by decide +kernel
theorem dX3_check_240 : decode cX3_check 240 = .ok (.iaload, 1) := by decide +kernel
theorem dX3_check_241 : decode cX3_check 241 = .ok (.iload 4, 2) := by decide +kernel
theorem dX3_check_243 : decode cX3_check 243 = .ok (.if_icmp .ne 15, 3) := by decide +kernel
theorem dX3_check_246 : decode cX3_check 246 = .ok (.aload_n 0, 1) := by decide +kernel
theorem dX3_check_247 : decode cX3_check 247 = .ok (.getfield 22, 3) := by decide +kernel
theorem dX3_check_250 : decode cX3_check 250 = .ok (.iload 7, 2) := by decide +kernel
theorem dX3_check_252 : decode cX3_check 252 = .ok (.iaload, 1) := by decide +kernel
theorem dX3_check_253 : decode cX3_check 253 = .ok (.ineg, 1) := by decide +kernel
theorem dX3_check_254 : decode cX3_check 254 = .ok (.i2l, 1) := by decide +kernel
theorem dX3_check_255 : decode cX3_check 255 = .ok (.goto 4, 3) := by decide +kernel
theorem dX3_check_258 : decode cX3_check 258 = .ok (.lconst 0, 1) := by decide +kernel
theorem dX3_check_259 : decode cX3_check 259 = .ok (.ladd, 1) := by decide +kernel
theorem dX3_check_260 : decode cX3_check 260 = .ok (.lstore 5, 2) := by decide +kernel
theorem dX3_check_262 : decode cX3_check 262 = .ok (.iinc 7 1, 3) := by decide +kernel
theorem dX3_check_265 : decode cX3_check 265 = .ok (.goto (-65), 3) := by decide +kernel
theorem dX3_check_268 : decode cX3_check 268 = .ok (.iload_n 1, 1) := by decide +kernel
theorem dX3_check_269 : decode cX3_check 269 = .ok (.ifCond .eq 32, 3) := by decide +kernel
theorem dX3_check_272 : decode cX3_check 272 = .ok (.iload 4, 2) := by decide +kernel
theorem dX3_check_274 : decode cX3_check 274 = .ok (.aload_n 0, 1) := by decide +kernel
theorem dX3_check_275 : decode cX3_check 275 = .ok (.getfield 73, 3) := by decide +kernel
theorem dX3_check_278 : decode cX3_check 278 = .ok (.if_icmp .eq 19, 3) := by decide +kernel
theorem dX3_check_281 : decode cX3_check 281 = .ok (.iload 4, 2) := by decide +kernel
theorem dX3_check_283 : decode cX3_check 283 = .ok (.aload_n 0, 1) := by decide +kernel
theorem dX3_check_284 : decode cX3_check 284 = .ok (.getfield 76, 3) := by decide +kernel
theorem dX3_check_287 : decode cX3_check 287 = .ok (.if_icmp .eq 10, 3) := by decide +kernel
theorem dX3_check_290 : decode cX3_check 290 = .ok (.lload 5, 2) := by decide +kernel
theorem dX3_check_292 : decode cX3_check 292 = .ok (.lconst 0, 1) := by decide +kernel
theorem dX3_check_293 : decode cX3_check 293 = .ok (.lcmp, 1) := by decide +kernel
theorem dX3_check_294 : decode cX3_check 294 = .ok (.ifCond .ne 7, 3) := by decide +kernel
theorem dX3_check_297 : decode cX3_check 297 = .ok (.iconst 1, 1) := by decide +kernel
theorem dX3_check_298 : decode cX3_check 298 = .ok (.goto 4, 3) := by decide +kernel
theorem dX3_check_301 : decode cX3_check 301 = .ok (.iconst 0, 1) := by decide +kernel
theorem dX3_check_302 : decode cX3_check 302 = .ok (.istore_n 1, 1) := by decide +kernel
theorem dX3_check_303 : decode cX3_check 303 = .ok (.iinc 4 1, 3) := by decide +kernel
theorem dX3_check_306 : decode cX3_check 306 = .ok (.goto (-121), 3) := by decide +kernel
theorem dX3_check_309 : decode cX3_check 309 = .ok (.iconst 0, 1) := by decide +kernel
theorem dX3_check_310 : decode cX3_check 310 = .ok (.istore 4, 2) := by decide +kernel
theorem dX3_check_312 : decode cX3_check 312 = .ok (.iload 4, 2) := by decide +kernel
theorem dX3_check_314 : decode cX3_check 314 = .ok (.iconst 2, 1) := by decide +kernel
theorem dX3_check_315 : decode cX3_check 315 = .ok (.aload_n 0, 1) := by decide +kernel
theorem dX3_check_316 : decode cX3_check 316 = .ok (.getfield 56, 3) := by decide +kernel
theorem dX3_check_319 : decode cX3_check 319 = .ok (.imul, 1) := by decide +kernel
theorem dX3_check_320 : decode cX3_check 320 = .ok (.if_icmp .ge 102, 3) := by decide +kernel
theorem dX3_check_323 : decode cX3_check 323 = .ok (.aload_n 0, 1) := by decide +kernel
theorem dX3_check_324 : decode cX3_check 324 = .ok (.iload 4, 2) := by decide +kernel
theorem dX3_check_326 : decode cX3_check 326 = .ok (.invokevirtual 89, 3) := by decide +kernel
theorem dX3_check_329 : decode cX3_check 329 = .ok (.ifCond .le 35, 3) := by decide +kernel
theorem dX3_check_332 : decode cX3_check 332 = .ok (.aload_n 0, 1) := by decide +kernel
theorem dX3_check_333 : decode cX3_check 333 = .ok (.getfield 32, 3) := by decide +kernel
theorem dX3_check_336 : decode cX3_check 336 = .ok (.aload_n 0, 1) := by decide +kernel
theorem dX3_check_337 : decode cX3_check 337 = .ok (.iload 4, 2) := by decide +kernel
theorem dX3_check_339 : decode cX3_check 339 = .ok (.invokevirtual 82, 3) := by decide +kernel
theorem dX3_check_342 : decode cX3_check 342 = .ok (.baload, 1) := by decide +kernel
theorem dX3_check_343 : decode cX3_check 343 = .ok (.ifCond .eq 21, 3) := by decide +kernel
theorem dX3_check_346 : decode cX3_check 346 = .ok (.aload_n 0, 1) := by decide +kernel
theorem dX3_check_347 : decode cX3_check 347 = .ok (.getfield 32, 3) := by decide +kernel
theorem dX3_check_350 : decode cX3_check 350 = .ok (.aload_n 0, 1) := by decide +kernel
theorem dX3_check_351 : decode cX3_check 351 = .ok (.iload 4, 2) := by decide +kernel
theorem dX3_check_353 : decode cX3_check 353 = .ok (.invokevirtual 86, 3) := by decide +kernel
theorem dX3_check_356 : decode cX3_check 356 = .ok (.baload, 1) := by decide +kernel
theorem dX3_check_357 : decode cX3_check 357 = .ok (.ifCond .eq 7, 3) := by decide +kernel
theorem dX3_check_360 : decode cX3_check 360 = .ok (.iconst 1, 1) := by decide +kernel
theorem dX3_check_361 : decode cX3_check 361 = .ok (.goto 4, 3) := by decide +kernel
theorem dX3_check_364 : decode cX3_check 364 = .ok (.iconst 0, 1) := by decide +kernel
theorem dX3_check_365 : decode cX3_check 365 = .ok (.istore 5, 2) := by decide +kernel
theorem dX3_check_367 : decode cX3_check 367 = .ok (.iload_n 1, 1) := by decide +kernel
theorem dX3_check_368 : decode cX3_check 368 = .ok (.ifCond .eq 46, 3) := by decide +kernel
theorem dX3_check_371 : decode cX3_check 371 = .ok (.iload 5, 2) := by decide +kernel
theorem dX3_check_373 : decode cX3_check 373 = .ok (.ifCond .eq 37, 3) := by decide +kernel
theorem dX3_check_376 : decode cX3_check 376 = .ok (.aload_n 0, 1) := by decide +kernel
theorem dX3_check_377 : decode cX3_check 377 = .ok (.getfield 25, 3) := by decide +kernel
theorem dX3_check_380 : decode cX3_check 380 = .ok (.aload_n 0, 1) := by decide +kernel
theorem dX3_check_381 : decode cX3_check 381 = .ok (.iload 4, 2) := by decide +kernel
theorem dX3_check_383 : decode cX3_check 383 = .ok (.invokevirtual 82, 3) := by decide +kernel
theorem dX3_check_386 : decode cX3_check 386 = .ok (.laload, 1) := by decide +kernel
theorem dX3_check_387 : decode cX3_check 387 = .ok (.aload_n 0, 1) := by decide +kernel
theorem dX3_check_388 : decode cX3_check 388 = .ok (.iload 4, 2) := by decide +kernel
theorem dX3_check_390 : decode cX3_check 390 = .ok (.invokevirtual 92, 3) := by decide +kernel
theorem dX3_check_393 : decode cX3_check 393 = .ok (.i2l, 1) := by decide +kernel
theorem dX3_check_394 : decode cX3_check 394 = .ok (.ladd, 1) := by decide +kernel
theorem dX3_check_395 : decode cX3_check 395 = .ok (.aload_n 0, 1) := by decide +kernel
theorem dX3_check_396 : decode cX3_check 396 = .ok (.getfield 25, 3) := by decide +kernel
theorem dX3_check_399 : decode cX3_check 399 = .ok (.aload_n 0, 1) := by decide +kernel
theorem dX3_check_400 : decode cX3_check 400 = .ok (.iload 4, 2) := by decide +kernel
theorem dX3_check_402 : decode cX3_check 402 = .ok (.invokevirtual 86, 3) := by decide +kernel
theorem dX3_check_405 : decode cX3_check 405 = .ok (.laload, 1) := by decide +kernel
theorem dX3_check_406 : decode cX3_check 406 = .ok (.lcmp, 1) := by decide +kernel
theorem dX3_check_407 : decode cX3_check 407 = .ok (.ifCond .lt 7, 3) := by decide +kernel
theorem dX3_check_410 : decode cX3_check 410 = .ok (.iconst 1, 1) := by decide +kernel
theorem dX3_check_411 : decode cX3_check 411 = .ok (.goto 4, 3) := by decide +kernel
theorem dX3_check_414 : decode cX3_check 414 = .ok (.iconst 0, 1) := by decide +kernel
theorem dX3_check_415 : decode cX3_check 415 = .ok (.istore_n 1, 1) := by decide +kernel
theorem dX3_check_416 : decode cX3_check 416 = .ok (.iinc 4 1, 3) := by decide +kernel
theorem dX3_check_419 : decode cX3_check 419 = .ok (.goto (-107), 3) := by decide +kernel
theorem dX3_check_422 : decode cX3_check 422 = .ok (.iload_n 1, 1) := by decide +kernel
theorem dX3_check_423 : decode cX3_check 423 = .ok (.ifCond .eq 17, 3) := by decide +kernel
theorem dX3_check_426 : decode cX3_check 426 = .ok (.lload_n 2, 1) := by decide +kernel
theorem dX3_check_427 : decode cX3_check 427 = .ok (.aload_n 0, 1) := by decide +kernel
theorem dX3_check_428 : decode cX3_check 428 = .ok (.getfield 53, 3) := by decide +kernel
theorem dX3_check_431 : decode cX3_check 431 = .ok (.i2l, 1) := by decide +kernel
theorem dX3_check_432 : decode cX3_check 432 = .ok (.lcmp, 1) := by decide +kernel
theorem dX3_check_433 : decode cX3_check 433 = .ok (.ifCond .ne 7, 3) := by decide +kernel
theorem dX3_check_436 : decode cX3_check 436 = .ok (.iconst 1, 1) := by decide +kernel
theorem dX3_check_437 : decode cX3_check 437 = .ok (.goto 4, 3) := by decide +kernel
theorem dX3_check_440 : decode cX3_check 440 = .ok (.iconst 0, 1) := by decide +kernel
theorem dX3_check_441 : decode cX3_check 441 = .ok (.ireturn, 1) := by decide +kernel
theorem dX3_next_0 : decode cX3_next 0 = .ok (.aload_n 0, 1) := by decide +kernel
theorem dX3_next_1 : decode cX3_next 1 = .ok (.getfield 79, 3) := by decide +kernel
theorem dX3_next_4 : decode cX3_next 4 = .ok (.ifCond .eq 24, 3) := by decide +kernel
theorem dX3_next_7 : decode cX3_next 7 = .ok (.aload_n 0, 1) := by decide +kernel
theorem dX3_next_8 : decode cX3_next 8 = .ok (.getfield 46, 3) := by decide +kernel
theorem dX3_next_11 : decode cX3_next 11 = .ok (.ifCond .ne 17, 3) := by decide +kernel
theorem dX3_next_14 : decode cX3_next 14 = .ok (.aload_n 0, 1) := by decide +kernel
theorem dX3_next_15 : decode cX3_next 15 = .ok (.invokevirtual 99, 3) := by decide +kernel
theorem dX3_next_18 : decode cX3_next 18 = .ok (.ifCond .ne 10, 3) := by decide +kernel
theorem dX3_next_21 : decode cX3_next 21 = .ok (.aload_n 0, 1) := by decide +kernel
theorem dX3_next_22 : decode cX3_next 22 = .ok (.invokevirtual 103, 3) := by decide +kernel
theorem dX3_next_25 : decode cX3_next 25 = .ok (.ifCond .ne 5, 3) := by decide +kernel
theorem dX3_next_28 : decode cX3_next 28 = .ok (.iconst (-1), 1) := by decide +kernel
theorem dX3_next_29 : decode cX3_next 29 = .ok (.ireturn, 1) := by decide +kernel
theorem dX3_next_30 : decode cX3_next 30 = .ok (.aload_n 0, 1) := by decide +kernel
theorem dX3_next_31 : decode cX3_next 31 = .ok (.getfield 25, 3) := by decide +kernel
theorem dX3_next_34 : decode cX3_next 34 = .ok (.aload_n 0, 1) := by decide +kernel
theorem dX3_next_35 : decode cX3_next 35 = .ok (.getfield 73, 3) := by decide +kernel
theorem dX3_next_38 : decode cX3_next 38 = .ok (.laload, 1) := by decide +kernel
theorem dX3_next_39 : decode cX3_next 39 = .ok (.l2i, 1) := by decide +kernel
theorem dX3_next_40 : decode cX3_next 40 = .ok (.ireturn, 1) := by decide +kernel
theorem dX3_count_0 : decode cX3_count 0 = .ok (.iload_n 1, 1) := by decide +kernel
theorem dX3_count_1 : decode cX3_count 1 = .ok (.ifCond .ne 10, 3) := by decide +kernel
theorem dX3_count_4 : decode cX3_count 4 = .ok (.aload_n 0, 1) := by decide +kernel
theorem dX3_count_5 : decode cX3_count 5 = .ok (.getfield 39, 3) := by decide +kernel
theorem dX3_count_8 : decode cX3_count 8 = .ok (.goto 40, 3) := by decide +kernel
theorem dX3_count_11 : decode cX3_count 11 = .ok (.iload_n 1, 1) := by decide +kernel
theorem dX3_count_12 : decode cX3_count 12 = .ok (.iconst 1, 1) := by decide +kernel
theorem dX3_count_13 : decode cX3_count 13 = .ok (.if_icmp .ne 10, 3) := by decide +kernel
theorem dX3_count_16 : decode cX3_count 16 = .ok (.aload_n 0, 1) := by decide +kernel
theorem dX3_count_17 : decode cX3_count 17 = .ok (.getfield 56, 3) := by decide +kernel
theorem dX3_count_20 : decode cX3_count 20 = .ok (.goto 28, 3) := by decide +kernel
theorem dX3_count_23 : decode cX3_count 23 = .ok (.iload_n 1, 1) := by decide +kernel
theorem dX3_count_24 : decode cX3_count 24 = .ok (.iconst 2, 1) := by decide +kernel
theorem dX3_count_25 : decode cX3_count 25 = .ok (.if_icmp .ne 10, 3) := by decide +kernel
theorem dX3_count_28 : decode cX3_count 28 = .ok (.aload_n 0, 1) := by decide +kernel
theorem dX3_count_29 : decode cX3_count 29 = .ok (.getfield 50, 3) := by decide +kernel
theorem dX3_count_32 : decode cX3_count 32 = .ok (.goto 16, 3) := by decide +kernel
theorem dX3_count_35 : decode cX3_count 35 = .ok (.iload_n 1, 1) := by decide +kernel
theorem dX3_count_36 : decode cX3_count 36 = .ok (.iconst 3, 1) := by decide +kernel
theorem dX3_count_37 : decode cX3_count 37 = .ok (.if_icmp .ne 10, 3) := by decide +kernel
theorem dX3_count_40 : decode cX3_count 40 = .ok (.aload_n 0, 1) := by decide +kernel
theorem dX3_count_41 : decode cX3_count 41 = .ok (.getfield 53, 3) := by decide +kernel
theorem dX3_count_44 : decode cX3_count 44 = .ok (.goto 4, 3) := by decide +kernel
theorem dX3_count_47 : decode cX3_count 47 = .ok (.iconst (-1), 1) := by decide +kernel
theorem dX3_count_48 : decode cX3_count 48 = .ok (.ireturn, 1) := by decide +kernel
