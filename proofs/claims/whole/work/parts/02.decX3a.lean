theorem dX3_init_0 : decode cX3_init 0 = .ok (.aload_n 0, 1) := by decide +kernel
theorem dX3_init_1 : decode cX3_init 1 = .ok (.invokespecial 1, 3) := by decide +kernel
theorem dX3_init_4 : decode cX3_init 4 = .ok (.aload_n 0, 1) := by decide +kernel
theorem dX3_init_5 : decode cX3_init 5 = .ok (.bipush 40, 2) := by decide +kernel
theorem dX3_init_7 : decode cX3_init 7 = .ok (.newarray .int, 2) := by decide +kernel
theorem dX3_init_9 : decode cX3_init 9 = .ok (.putfield 7, 3) := by decide +kernel
theorem dX3_init_12 : decode cX3_init 12 = .ok (.aload_n 0, 1) := by decide +kernel
theorem dX3_init_13 : decode cX3_init 13 = .ok (.bipush 40, 2) := by decide +kernel
theorem dX3_init_15 : decode cX3_init 15 = .ok (.newarray .int, 2) := by decide +kernel
theorem dX3_init_17 : decode cX3_init 17 = .ok (.putfield 13, 3) := by decide +kernel
theorem dX3_init_20 : decode cX3_init 20 = .ok (.aload_n 0, 1) := by decide +kernel
theorem dX3_init_21 : decode cX3_init 21 = .ok (.bipush 40, 2) := by decide +kernel
theorem dX3_init_23 : decode cX3_init 23 = .ok (.newarray .int, 2) := by decide +kernel
theorem dX3_init_25 : decode cX3_init 25 = .ok (.putfield 16, 3) := by decide +kernel
theorem dX3_init_28 : decode cX3_init 28 = .ok (.aload_n 0, 1) := by decide +kernel
theorem dX3_init_29 : decode cX3_init 29 = .ok (.bipush 40, 2) := by decide +kernel
theorem dX3_init_31 : decode cX3_init 31 = .ok (.newarray .int, 2) := by decide +kernel
theorem dX3_init_33 : decode cX3_init 33 = .ok (.putfield 19, 3) := by decide +kernel
theorem dX3_init_36 : decode cX3_init 36 = .ok (.aload_n 0, 1) := by decide +kernel
theorem dX3_init_37 : decode cX3_init 37 = .ok (.bipush 40, 2) := by decide +kernel
theorem dX3_init_39 : decode cX3_init 39 = .ok (.newarray .int, 2) := by decide +kernel
theorem dX3_init_41 : decode cX3_init 41 = .ok (.putfield 22, 3) := by decide +kernel
theorem dX3_init_44 : decode cX3_init 44 = .ok (.aload_n 0, 1) := by decide +kernel
theorem dX3_init_45 : decode cX3_init 45 = .ok (.bipush 12, 2) := by decide +kernel
theorem dX3_init_47 : decode cX3_init 47 = .ok (.newarray .long, 2) := by decide +kernel
theorem dX3_init_49 : decode cX3_init 49 = .ok (.putfield 25, 3) := by decide +kernel
theorem dX3_init_52 : decode cX3_init 52 = .ok (.aload_n 0, 1) := by decide +kernel
theorem dX3_init_53 : decode cX3_init 53 = .ok (.bipush 12, 2) := by decide +kernel
theorem dX3_init_55 : decode cX3_init 55 = .ok (.newarray .int, 2) := by decide +kernel
theorem dX3_init_57 : decode cX3_init 57 = .ok (.putfield 29, 3) := by decide +kernel
theorem dX3_init_60 : decode cX3_init 60 = .ok (.aload_n 0, 1) := by decide +kernel
theorem dX3_init_61 : decode cX3_init 61 = .ok (.bipush 12, 2) := by decide +kernel
theorem dX3_init_63 : decode cX3_init 63 = .ok (.newarray .boolean, 2) := by decide +kernel
theorem dX3_init_65 : decode cX3_init 65 = .ok (.putfield 32, 3) := by decide +kernel
theorem dX3_init_68 : decode cX3_init 68 = .ok (.aload_n 0, 1) := by decide +kernel
theorem dX3_init_69 : decode cX3_init 69 = .ok (.bipush 12, 2) := by decide +kernel
theorem dX3_init_71 : decode cX3_init 71 = .ok (.newarray .int, 2) := by decide +kernel
theorem dX3_init_73 : decode cX3_init 73 = .ok (.putfield 36, 3) := by decide +kernel
theorem dX3_init_76 : decode cX3_init 76 = .ok (.aload_n 0, 1) := by decide +kernel
theorem dX3_init_77 : decode cX3_init 77 = .ok (.iload_n 1, 1) := by decide +kernel
theorem dX3_init_78 : decode cX3_init 78 = .ok (.iconst 2, 1) := by decide +kernel
theorem dX3_init_79 : decode cX3_init 79 = .ok (.if_icmp .ge 7, 3) := by decide +kernel
theorem dX3_init_82 : decode cX3_init 82 = .ok (.iconst 2, 1) := by decide +kernel
theorem dX3_init_83 : decode cX3_init 83 = .ok (.goto 15, 3) := by decide +kernel
theorem dX3_init_86 : decode cX3_init 86 = .ok (.iload_n 1, 1) := by decide +kernel
theorem dX3_init_87 : decode cX3_init 87 = .ok (.bipush 12, 2) := by decide +kernel
theorem dX3_init_89 : decode cX3_init 89 = .ok (.if_icmp .le 8, 3) := by decide +kernel
theorem dX3_init_92 : decode cX3_init 92 = .ok (.bipush 12, 2) := by decide +kernel
theorem dX3_init_94 : decode cX3_init 94 = .ok (.goto 4, 3) := by decide +kernel
theorem dX3_init_97 : decode cX3_init 97 = .ok (.iload_n 1, 1) := by decide +kernel
theorem dX3_init_98 : decode cX3_init 98 = .ok (.putfield 39, 3) := by decide +kernel
theorem dX3_init_101 : decode cX3_init 101 = .ok (.aload_n 0, 1) := by decide +kernel
theorem dX3_init_102 : decode cX3_init 102 = .ok (.iload_n 2, 1) := by decide +kernel
theorem dX3_init_103 : decode cX3_init 103 = .ok (.iconst 1, 1) := by decide +kernel
theorem dX3_init_104 : decode cX3_init 104 = .ok (.if_icmp .ge 7, 3) := by decide +kernel
theorem dX3_init_107 : decode cX3_init 107 = .ok (.iconst 1, 1) := by decide +kernel
theorem dX3_init_108 : decode cX3_init 108 = .ok (.goto 15, 3) := by decide +kernel
theorem dX3_init_111 : decode cX3_init 111 = .ok (.iload_n 2, 1) := by decide +kernel
theorem dX3_init_112 : decode cX3_init 112 = .ok (.bipush 40, 2) := by decide +kernel
theorem dX3_init_114 : decode cX3_init 114 = .ok (.if_icmp .le 8, 3) := by decide +kernel
theorem dX3_init_117 : decode cX3_init 117 = .ok (.bipush 40, 2) := by decide +kernel
theorem dX3_init_119 : decode cX3_init 119 = .ok (.goto 4, 3) := by decide +kernel
theorem dX3_init_122 : decode cX3_init 122 = .ok (.iload_n 2, 1) := by decide +kernel
theorem dX3_init_123 : decode cX3_init 123 = .ok (.putfield 43, 3) := by decide +kernel
theorem dX3_init_126 : decode cX3_init 126 = .ok (.return_, 1) := by decide +kernel
theorem dX3_isNode_0 : decode cX3_isNode 0 = .ok (.iload_n 1, 1) := by decide +kernel
theorem dX3_isNode_1 : decode cX3_isNode 1 = .ok (.ifCond .lt 15, 3) := by decide +kernel
theorem dX3_isNode_4 : decode cX3_isNode 4 = .ok (.iload_n 1, 1) := by decide +kernel
theorem dX3_isNode_5 : decode cX3_isNode 5 = .ok (.aload_n 0, 1) := by decide +kernel
theorem dX3_isNode_6 : decode cX3_isNode 6 = .ok (.getfield 39, 3) := by decide +kernel
theorem dX3_isNode_9 : decode cX3_isNode 9 = .ok (.if_icmp .ge 7, 3) := by decide +kernel
theorem dX3_isNode_12 : decode cX3_isNode 12 = .ok (.iconst 1, 1) := by decide +kernel
theorem dX3_isNode_13 : decode cX3_isNode 13 = .ok (.goto 4, 3) := by decide +kernel
theorem dX3_isNode_16 : decode cX3_isNode 16 = .ok (.iconst 0, 1) := by decide +kernel
theorem dX3_isNode_17 : decode cX3_isNode 17 = .ok (.ireturn, 1) := by decide +kernel
theorem dX3_gone_0 : decode cX3_gone 0 = .ok (.aload_n 0, 1) := by decide +kernel
theorem dX3_gone_1 : decode cX3_gone 1 = .ok (.iconst 0, 1) := by decide +kernel
theorem dX3_gone_2 : decode cX3_gone 2 = .ok (.putfield 46, 3) := by decide +kernel
theorem dX3_gone_5 : decode cX3_gone 5 = .ok (.aload_n 0, 1) := by decide +kernel
theorem dX3_gone_6 : decode cX3_gone 6 = .ok (.iconst 0, 1) := by decide +kernel
theorem dX3_gone_7 : decode cX3_gone 7 = .ok (.putfield 50, 3) := by decide +kernel
theorem dX3_gone_10 : decode cX3_gone 10 = .ok (.aload_n 0, 1) := by decide +kernel
theorem dX3_gone_11 : decode cX3_gone 11 = .ok (.iconst 0, 1) := by decide +kernel
theorem dX3_gone_12 : decode cX3_gone 12 = .ok (.putfield 53, 3) := by decide +kernel
theorem dX3_gone_15 : decode cX3_gone 15 = .ok (.iconst 0, 1) := by decide +kernel
theorem dX3_gone_16 : decode cX3_gone 16 = .ok (.istore_n 1, 1) := by decide +kernel
theorem dX3_gone_17 : decode cX3_gone 17 = .ok (.iload_n 1, 1) := by decide +kernel
theorem dX3_gone_18 : decode cX3_gone 18 = .ok (.aload_n 0, 1) := by decide +kernel
theorem dX3_gone_19 : decode cX3_gone 19 = .ok (.getfield 56, 3) := by decide +kernel
theorem dX3_gone_22 : decode cX3_gone 22 = .ok (.if_icmp .ge 16, 3) := by decide +kernel
theorem dX3_gone_25 : decode cX3_gone 25 = .ok (.aload_n 0, 1) := by decide +kernel
theorem dX3_gone_26 : decode cX3_gone 26 = .ok (.getfield 22, 3) := by decide +kernel
theorem dX3_gone_29 : decode cX3_gone 29 = .ok (.iload_n 1, 1) := by decide +kernel
theorem dX3_gone_30 : decode cX3_gone 30 = .ok (.iconst 0, 1) := by decide +kernel
theorem dX3_gone_31 : decode cX3_gone 31 = .ok (.iastore, 1) := by decide +kernel
theorem dX3_gone_32 : decode cX3_gone 32 = .ok (.iinc 1 1, 3) := by decide +kernel
theorem dX3_gone_35 : decode cX3_gone 35 = .ok (.goto (-18), 3) := by decide +kernel
theorem dX3_gone_38 : decode cX3_gone 38 = .ok (.return_, 1) := by decide +kernel
theorem dX3_edge_0 : decode cX3_edge 0 = .ok (.aload_n 0, 1) := by decide +kernel
theorem dX3_edge_1 : decode cX3_edge 1 = .ok (.iload_n 1, 1) := by decide +kernel
theorem dX3_edge_2 : decode cX3_edge 2 = .ok (.invokevirtual 59, 3) := by decide +kernel
theorem dX3_edge_5 : decode cX3_edge 5 = .ok (.ifCond .eq 46, 3) := by decide +kernel
theorem dX3_edge_8 : decode cX3_edge 8 = .ok (.aload_n 0, 1) := by decide +kernel
theorem dX3_edge_9 : decode cX3_edge 9 = .ok (.iload_n 2, 1) := by decide +kernel
theorem dX3_edge_10 : decode cX3_edge 10 = .ok (.invokevirtual 59, 3) := by decide +kernel
theorem dX3_edge_13 : decode cX3_edge 13 = .ok (.ifCond .eq 38, 3) := by decide +kernel
theorem dX3_edge_16 : decode cX3_edge 16 = .ok (.iload_n 1, 1) := by decide +kernel
theorem dX3_edge_17 : decode cX3_edge 17 = .ok (.iload_n 2, 1) := by decide +kernel
theorem dX3_edge_18 : decode cX3_edge 18 = .ok (.if_icmp .eq 33, 3) := by decide +kernel
theorem dX3_edge_21 : decode cX3_edge 21 = .ok (.iload_n 3, 1) := by decide +kernel
theorem dX3_edge_22 : decode cX3_edge 22 = .ok (.ifCond .lt 29, 3) := by decide +kernel
theorem dX3_edge_25 : decode cX3_edge 25 = .ok (.iload_n 3, 1) := by decide +kernel
theorem dX3_edge_26 : decode cX3_edge 26 = .ok (.ldc 63, 2) := by decide +kernel
theorem dX3_edge_28 : decode cX3_edge 28 = .ok (.if_icmp .gt 23, 3) := by decide +kernel
theorem dX3_edge_31 : decode cX3_edge 31 = .ok (.iload 4, 2) := by decide +kernel
theorem dX3_edge_33 : decode cX3_edge 33 = .ok (.sipush (-10000), 3) := by decide +kernel
theorem dX3_edge_36 : decode cX3_edge 36 = .ok (.if_icmp .lt 15, 3) := by decide +kernel
theorem dX3_edge_39 : decode cX3_edge 39 = .ok (.iload 4, 2) := by decide +kernel
theorem dX3_edge_41 : decode cX3_edge 41 = .ok (.sipush 10000, 3) := by decide +kernel
theorem dX3_edge_44 : decode cX3_edge 44 = .ok (.if_icmp .gt 7, 3) := by decide +kernel
theorem dX3_edge_47 : decode cX3_edge 47 = .ok (.iconst 1, 1) := by decide +kernel
theorem dX3_edge_48 : decode cX3_edge 48 = .ok (.goto 4, 3) := by decide +kernel
theorem dX3_edge_51 : decode cX3_edge 51 = .ok (.iconst 0, 1) := by decide +kernel
theorem dX3_edge_52 : decode cX3_edge 52 = .ok (.istore 5, 2) := by decide +kernel
theorem dX3_edge_54 : decode cX3_edge 54 = .ok (.iload 5, 2) := by decide +kernel
theorem dX3_edge_56 : decode cX3_edge 56 = .ok (.ifCond .eq 28, 3) := by decide +kernel
theorem dX3_edge_59 : decode cX3_edge 59 = .ok (.aload_n 0, 1) := by decide +kernel
theorem dX3_edge_60 : decode cX3_edge 60 = .ok (.getfield 56, 3) := by decide +kernel
theorem dX3_edge_63 : decode cX3_edge 63 = .ok (.aload_n 0, 1) := by decide +kernel
theorem dX3_edge_64 : decode cX3_edge 64 = .ok (.getfield 43, 3) := by decide +kernel
theorem dX3_edge_67 : decode cX3_edge 67 = .ok (.if_icmp .eq 17, 3) := by decide +kernel
theorem dX3_edge_70 : decode cX3_edge 70 = .ok (.aload_n 0, 1) := by decide +kernel
theorem dX3_edge_71 : decode cX3_edge 71 = .ok (.getfield 64, 3) := by decide +kernel
theorem dX3_edge_74 : decode cX3_edge 74 = .ok (.iload_n 3, 1) := by decide +kernel
theorem dX3_edge_75 : decode cX3_edge 75 = .ok (.i2l, 1) := by decide +kernel
theorem dX3_edge_76 : decode cX3_edge 76 = .ok (.ladd, 1) := by decide +kernel
theorem dX3_edge_77 : decode cX3_edge 77 = .ok (.ldc2_w 68, 3) := by decide +kernel
theorem dX3_edge_80 : decode cX3_edge 80 = .ok (.lcmp, 1) := by decide +kernel
theorem dX3_edge_81 : decode cX3_edge 81 = .ok (.ifCond .le 5, 3) := by decide +kernel
theorem dX3_edge_84 : decode cX3_edge 84 = .ok (.iconst (-1), 1) := by decide +kernel
theorem dX3_edge_85 : decode cX3_edge 85 = .ok (.ireturn, 1) := by decide +kernel
theorem dX3_edge_86 : decode cX3_edge 86 = .ok (.aload_n 0, 1) := by decide +kernel
theorem dX3_edge_87 : decode cX3_edge 87 = .ok (.getfield 7, 3) := by decide +kernel
theorem dX3_edge_90 : decode cX3_edge 90 = .ok (.aload_n 0, 1) := by decide +kernel
theorem dX3_edge_91 : decode cX3_edge 91 = .ok (.getfield 56, 3) := by decide +kernel
theorem dX3_edge_94 : decode cX3_edge 94 = .ok (.iload_n 1, 1) := by decide +kernel
theorem dX3_edge_95 : decode cX3_edge 95 = .ok (.iastore, 1) := by decide +kernel
theorem dX3_edge_96 : decode cX3_edge 96 = .ok (.aload_n 0, 1) := by decide +kernel
theorem dX3_edge_97 : decode cX3_edge 97 = .ok (.getfield 13, 3) := by decide +kernel
theorem dX3_edge_100 : decode cX3_edge 100 = .ok (.aload_n 0, 1) := by decide +kernel
theorem dX3_edge_101 : decode cX3_edge 101 = .ok (.getfield 56, 3) := by decide +kernel
theorem dX3_edge_104 : decode cX3_edge 104 = .ok (.iload_n 2, 1) := by decide +kernel
theorem dX3_edge_105 : decode cX3_edge 105 = .ok (.iastore, 1) := by decide +kernel
theorem dX3_edge_106 : decode cX3_edge 106 = .ok (.aload_n 0, 1) := by decide +kernel
theorem dX3_edge_107 : decode cX3_edge 107 = .ok (.getfield 16, 3) := by decide +kernel
theorem dX3_edge_110 : decode cX3_edge 110 = .ok (.aload_n 0, 1) := by decide +kernel
theorem dX3_edge_111 : decode cX3_edge 111 = .ok (.getfield 56, 3) := by decide +kernel
theorem dX3_edge_114 : decode cX3_edge 114 = .ok (.iload_n 3, 1) := by decide +kernel
theorem dX3_edge_115 : decode cX3_edge 115 = .ok (.iastore, 1) := by decide +kernel
theorem dX3_edge_116 : decode cX3_edge 116 = .ok (.aload_n 0, 1) := by decide +kernel
theorem dX3_edge_117 : decode cX3_edge 117 = .ok (.getfield 19, 3) := by decide +kernel
theorem dX3_edge_120 : decode cX3_edge 120 = .ok (.aload_n 0, 1) := by decide +kernel
theorem dX3_edge_121 : decode cX3_edge 121 = .ok (.getfield 56, 3) := by decide +kernel
theorem dX3_edge_124 : decode cX3_edge 124 = .ok (.iload 4, 2) := by decide +kernel
theorem dX3_edge_126 : decode cX3_edge 126 = .ok (.iastore, 1) := by decide +kernel
theorem dX3_edge_127 : decode cX3_edge 127 = .ok (.aload_n 0, 1) := by decide +kernel
theorem dX3_edge_128 : decode cX3_edge 128 = .ok (.dup, 1) := by decide +kernel
theorem dX3_edge_129 : decode cX3_edge 129 = .ok (.getfield 64, 3) := by decide +kernel
theorem dX3_edge_132 : decode cX3_edge 132 = .ok (.iload_n 3, 1) := by decide +kernel
theorem dX3_edge_133 : decode cX3_edge 133 = .ok (.i2l, 1) := by decide +kernel
theorem dX3_edge_134 : decode cX3_edge 134 = .ok (.ladd, 1) := by decide +kernel
theorem dX3_edge_135 : decode cX3_edge 135 = .ok (.putfield 64, 3) := by decide +kernel
theorem dX3_edge_138 : decode cX3_edge 138 = .ok (.aload_n 0, 1) := by decide +kernel
theorem dX3_edge_139 : decode cX3_edge 139 = .ok (.dup, 1) := by decide +kernel
theorem dX3_edge_140 : decode cX3_edge 140 = .ok (.getfield 56, 3) := by decide +kernel
theorem dX3_edge_143 : decode cX3_edge 143 = .ok (.iconst 1, 1) := by decide +kernel
theorem dX3_edge_144 : decode cX3_edge 144 = .ok (.iadd, 1) := by decide +kernel
theorem dX3_edge_145 : decode cX3_edge 145 = .ok (.putfield 56, 3) := by decide +kernel
theorem dX3_edge_148 : decode cX3_edge 148 = .ok (.aload_n 0, 1) := by decide +kernel
theorem dX3_edge_149 : decode cX3_edge 149 = .ok (.invokevirtual 70, 3) := by decide +kernel
theorem dX3_edge_152 : decode cX3_edge 152 = .ok (.aload_n 0, 1) := by decide +kernel
theorem dX3_edge_153 : decode cX3_edge 153 = .ok (.getfield 56, 3) := by decide +kernel
theorem dX3_edge_156 : decode cX3_edge 156 = .ok (.iconst 1, 1) := by decide +kernel
theorem dX3_edge_157 : decode cX3_edge 157 = .ok (.isub, 1) := by decide +kernel
theorem dX3_edge_158 : decode cX3_edge 158 = .ok (.ireturn, 1) := by decide +kernel
theorem dX3_ends_0 : decode cX3_ends 0 = .ok (.aload_n 0, 1) := by decide +kernel
theorem dX3_ends_1 : decode cX3_ends 1 = .ok (.iload_n 1, 1) := by decide +kernel
theorem dX3_ends_2 : decode cX3_ends 2 = .ok (.invokevirtual 59, 3) := by decide +kernel
theorem dX3_ends_5 : decode cX3_ends 5 = .ok (.ifCond .eq 16, 3) := by decide +kernel
theorem dX3_ends_8 : decode cX3_ends 8 = .ok (.aload_n 0, 1) := by decide +kernel
theorem dX3_ends_9 : decode cX3_ends 9 = .ok (.iload_n 2, 1) := by decide +kernel
theorem dX3_ends_10 : decode cX3_ends 10 = .ok (.invokevirtual 59, 3) := by decide +kernel
theorem dX3_ends_13 : decode cX3_ends 13 = .ok (.ifCond .eq 8, 3) := by decide +kernel
theorem dX3_ends_16 : decode cX3_ends 16 = .ok (.iload_n 1, 1) := by decide +kernel
theorem dX3_ends_17 : decode cX3_ends 17 = .ok (.iload_n 2, 1) := by decide +kernel
theorem dX3_ends_18 : decode cX3_ends 18 = .ok (.if_icmp .ne 5, 3) := by decide +kernel
theorem dX3_ends_21 : decode cX3_ends 21 = .ok (.iconst 0, 1) := by decide +kernel
theorem dX3_ends_22 : decode cX3_ends 22 = .ok (.ireturn, 1) := by decide +kernel
theorem dX3_ends_23 : decode cX3_ends 23 = .ok (.aload_n 0, 1) := by decide +kernel
theorem dX3_ends_24 : decode cX3_ends 24 = .ok (.iload_n 1, 1) := by decide +kernel
theorem dX3_ends_25 : decode cX3_ends 25 = .ok (.putfield 73, 3) := by decide +kernel
theorem dX3_ends_28 : decode cX3_ends 28 = .ok (.aload_n 0, 1) := by decide +kernel
theorem dX3_ends_29 : decode cX3_ends 29 = .ok (.iload_n 2, 1) := by decide +kernel
theorem dX3_ends_30 : decode cX3_ends 30 = .ok (.putfield 76, 3) := by decide +kernel
theorem dX3_ends_33 : decode cX3_ends 33 = .ok (.aload_n 0, 1) := by decide +kernel
theorem dX3_ends_34 : decode cX3_ends 34 = .ok (.iconst 1, 1) := by decide +kernel
theorem dX3_ends_35 : decode cX3_ends 35 = .ok (.putfield 79, 3) := by decide +kernel
theorem dX3_ends_38 : decode cX3_ends 38 = .ok (.aload_n 0, 1) := by decide +kernel
theorem dX3_ends_39 : decode cX3_ends 39 = .ok (.invokevirtual 70, 3) := by decide +kernel
theorem dX3_ends_42 : decode cX3_ends 42 = .ok (.iconst 1, 1) := by decide +kernel
theorem dX3_ends_43 : decode cX3_ends 43 = .ok (.ireturn, 1) := by decide +kernel
theorem dX3_left_0 : decode cX3_left 0 = .ok (.iload_n 1, 1) := by decide +kernel
theorem dX3_left_1 : decode cX3_left 1 = .ok (.iconst 2, 1) := by decide +kernel
theorem dX3_left_2 : decode cX3_left 2 = .ok (.idiv, 1) := by decide +kernel
theorem dX3_left_3 : decode cX3_left 3 = .ok (.istore_n 2, 1) := by decide +kernel
theorem dX3_left_4 : decode cX3_left 4 = .ok (.iload_n 1, 1) := by decide +kernel
theorem dX3_left_5 : decode cX3_left 5 = .ok (.iconst 2, 1) := by decide +kernel
theorem dX3_left_6 : decode cX3_left 6 = .ok (.irem, 1) := by decide +kernel
theorem dX3_left_7 : decode cX3_left 7 = .ok (.ifCond .ne 19, 3) := by decide +kernel
theorem dX3_left_10 : decode cX3_left 10 = .ok (.aload_n 0, 1) := by decide +kernel
theorem dX3_left_11 : decode cX3_left 11 = .ok (.getfield 16, 3) := by decide +kernel
theorem dX3_left_14 : decode cX3_left 14 = .ok (.iload_n 2, 1) := by decide +kernel
theorem dX3_left_15 : decode cX3_left 15 = .ok (.iaload, 1) := by decide +kernel
theorem dX3_left_16 : decode cX3_left 16 = .ok (.aload_n 0, 1) := by decide +kernel
theorem dX3_left_17 : decode cX3_left 17 = .ok (.getfield 22, 3) := by decide +kernel
theorem dX3_left_20 : decode cX3_left 20 = .ok (.iload_n 2, 1) := by decide +kernel
theorem dX3_left_21 : decode cX3_left 21 = .ok (.iaload, 1) := by decide +kernel
theorem dX3_left_22 : decode cX3_left 22 = .ok (.isub, 1) := by decide +kernel
theorem dX3_left_23 : decode cX3_left 23 = .ok (.goto 9, 3) := by decide +kernel
theorem dX3_left_26 : decode cX3_left 26 = .ok (.aload_n 0, 1) := by decide +kernel
theorem dX3_left_27 : decode cX3_left 27 = .ok (.getfield 22, 3) := by decide +kernel
theorem dX3_left_30 : decode cX3_left 30 = .ok (.iload_n 2, 1) := by decide +kernel
theorem dX3_left_31 : decode cX3_left 31 = .ok (.iaload, 1) := by decide +kernel
theorem dX3_left_32 : decode cX3_left 32 = .ok (.ireturn, 1) := by decide +kernel
theorem dX3_begin_0 : decode cX3_begin 0 = .ok (.iload_n 1, 1) := by decide +kernel
theorem dX3_begin_1 : decode cX3_begin 1 = .ok (.iconst 2, 1) := by decide +kernel
theorem dX3_begin_2 : decode cX3_begin 2 = .ok (.irem, 1) := by decide +kernel
theorem dX3_begin_3 : decode cX3_begin 3 = .ok (.ifCond .ne 14, 3) := by decide +kernel
theorem dX3_begin_6 : decode cX3_begin 6 = .ok (.aload_n 0, 1) := by decide +kernel
theorem dX3_begin_7 : decode cX3_begin 7 = .ok (.getfield 7, 3) := by decide +kernel
theorem dX3_begin_10 : decode cX3_begin 10 = .ok (.iload_n 1, 1) := by decide +kernel
theorem dX3_begin_11 : decode cX3_begin 11 = .ok (.iconst 2, 1) := by decide +kernel
theorem dX3_begin_12 : decode cX3_begin 12 = .ok (.idiv, 1) := by decide +kernel
theorem dX3_begin_13 : decode cX3_begin 13 = .ok (.iaload, 1) := by decide +kernel
theorem dX3_begin_14 : decode cX3_begin 14 = .ok (.goto 11, 3) := by decide +kernel
theorem dX3_begin_17 : decode cX3_begin 17 = .ok (.aload_n 0, 1) := by decide +kernel
theorem dX3_begin_18 : decode cX3_begin 18 = .ok (.getfield 13, 3) := by decide +kernel
theorem dX3_begin_21 : decode cX3_begin 21 = .ok (.iload_n 1, 1) := by decide +kernel
theorem dX3_begin_22 : decode cX3_begin 22 = .ok (.iconst 2, 1) := by decide +kernel
theorem dX3_begin_23 : decode cX3_begin 23 = .ok (.idiv, 1) := by decide +kernel
theorem dX3_begin_24 : decode cX3_begin 24 = .ok (.iaload, 1) := by decide +kernel
theorem dX3_begin_25 : decode cX3_begin 25 = .ok (.ireturn, 1) := by decide +kernel
theorem dX3_end_0 : decode cX3_end 0 = .ok (.iload_n 1, 1) := by decide +kernel
theorem dX3_end_1 : decode cX3_end 1 = .ok (.iconst 2, 1) := by decide +kernel
theorem dX3_end_2 : decode cX3_end 2 = .ok (.irem, 1) := by decide +kernel
theorem dX3_end_3 : decode cX3_end 3 = .ok (.ifCond .ne 14, 3) := by decide +kernel
theorem dX3_end_6 : decode cX3_end 6 = .ok (.aload_n 0, 1) := by decide +kernel
theorem dX3_end_7 : decode cX3_end 7 = .ok (.getfield 13, 3) := by decide +kernel
theorem dX3_end_10 : decode cX3_end 10 = .ok (.iload_n 1, 1) := by decide +kernel
theorem dX3_end_11 : decode cX3_end 11 = .ok (.iconst 2, 1) := by decide +kernel
theorem dX3_end_12 : decode cX3_end 12 = .ok (.idiv, 1) := by decide +kernel
theorem dX3_end_13 : decode cX3_end 13 = .ok (.iaload, 1) := by decide +kernel
theorem dX3_end_14 : decode cX3_end 14 = .ok (.goto 11, 3) := by decide +kernel
theorem dX3_end_17 : decode cX3_end 17 = .ok (.aload_n 0, 1) := by decide +kernel
theorem dX3_end_18 : decode cX3_end 18 = .ok (.getfield 7, 3) := by decide +kernel
theorem dX3_end_21 : decode cX3_end 21 = .ok (.iload_n 1, 1) := by decide +kernel
theorem dX3_end_22 : decode cX3_end 22 = .ok (.iconst 2, 1) := by decide +kernel
theorem dX3_end_23 : decode cX3_end 23 = .ok (.idiv, 1) := by decide +kernel
theorem dX3_end_24 : decode cX3_end 24 = .ok (.iaload, 1) := by decide +kernel
theorem dX3_end_25 : decode cX3_end 25 = .ok (.ireturn, 1) := by decide +kernel
theorem dX3_costOf_0 : decode cX3_costOf 0 = .ok (.iload_n 1, 1) := by decide +kernel
theorem dX3_costOf_1 : decode cX3_costOf 1 = .ok (.iconst 2, 1) := by decide +kernel
theorem dX3_costOf_2 : decode cX3_costOf 2 = .ok (.irem, 1) := by decide +kernel
theorem dX3_costOf_3 : decode cX3_costOf 3 = .ok (.ifCond .ne 14, 3) := by decide +kernel
theorem dX3_costOf_6 : decode cX3_costOf 6 = .ok (.aload_n 0, 1) := by decide +kernel
theorem dX3_costOf_7 : decode cX3_costOf 7 = .ok (.getfield 19, 3) := by decide +kernel
theorem dX3_costOf_10 : decode cX3_costOf 10 = .ok (.iload_n 1, 1) := by decide +kernel
theorem dX3_costOf_11 : decode cX3_costOf 11 = .ok (.iconst 2, 1) := by decide +kernel
theorem dX3_costOf_12 : decode cX3_costOf 12 = .ok (.idiv, 1) := by decide +kernel
theorem dX3_costOf_13 : decode cX3_costOf 13 = .ok (.iaload, 1) := by decide +kernel
theorem dX3_costOf_14 : decode cX3_costOf 14 = .ok (.goto 12, 3) := by decide +kernel
theorem dX3_costOf_17 : decode cX3_costOf 17 = .ok (.aload_n 0, 1) := by decide +kernel
theorem dX3_costOf_18 : decode cX3_costOf 18 = .ok (.getfield 19, 3) := by decide +kernel
theorem dX3_costOf_21 : decode cX3_costOf 21 = .ok (.iload_n 1, 1) := by decide +kernel
theorem dX3_costOf_22 : decode cX3_costOf 22 = .ok (.iconst 2, 1) := by decide +kernel
theorem dX3_costOf_23 : decode cX3_costOf 23 = .ok (.idiv, 1) := by decide +kernel
theorem dX3_costOf_24 : decode cX3_costOf 24 = .ok (.iaload, 1) := by decide +kernel
theorem dX3_costOf_25 : decode cX3_costOf 25 = .ok (.ineg, 1) := by decide +kernel
theorem dX3_costOf_26 : decode cX3_costOf 26 = .ok (.ireturn, 1) := by decide +kernel
theorem dX3_hasCircle_0 : decode cX3_hasCircle 0 = .ok (.iconst 0, 1) := by decide +kernel
theorem dX3_hasCircle_1 : decode cX3_hasCircle 1 = .ok (.istore_n 1, 1) := by decide +kernel
theorem dX3_hasCircle_2 : decode cX3_hasCircle 2 = .ok (.iload_n 1, 1) := by decide +kernel
theorem dX3_hasCircle_3 : decode cX3_hasCircle 3 = .ok (.aload_n 0, 1) := by decide +kernel
theorem dX3_hasCircle_4 : decode cX3_hasCircle 4 = .ok (.getfield 39, 3) := by decide +kernel
theorem dX3_hasCircle_7 : decode cX3_hasCircle 7 = .ok (.if_icmp .ge 16, 3) := by decide +kernel
theorem dX3_hasCircle_10 : decode cX3_hasCircle 10 = .ok (.aload_n 0, 1) := by decide +kernel
theorem dX3_hasCircle_11 : decode cX3_hasCircle 11 = .ok (.getfield 25, 3) := by decide +kernel
theorem dX3_hasCircle_14 : decode cX3_hasCircle 14 = .ok (.iload_n 1, 1) := by decide +kernel
theorem dX3_hasCircle_15 : decode cX3_hasCircle 15 = .ok (.lconst 0, 1) := by decide +kernel
theorem dX3_hasCircle_16 : decode cX3_hasCircle 16 = .ok (.lastore, 1) := by decide +kernel
theorem dX3_hasCircle_17 : decode cX3_hasCircle 17 = .ok (.iinc 1 1, 3) := by decide +kernel
theorem dX3_hasCircle_20 : decode cX3_hasCircle 20 = .ok (.goto (-18), 3) := by decide +kernel
theorem dX3_hasCircle_23 : decode cX3_hasCircle 23 = .ok (.iconst 1, 1) := by decide +kernel
theorem dX3_hasCircle_24 : decode cX3_hasCircle 24 = .ok (.istore_n 1, 1) := by decide +kernel
theorem dX3_hasCircle_25 : decode cX3_hasCircle 25 = .ok (.iconst 0, 1) := by decide +kernel
theorem dX3_hasCircle_26 : decode cX3_hasCircle 26 = .ok (.istore_n 2, 1) := by decide +kernel
theorem dX3_hasCircle_27 : decode cX3_hasCircle 27 = .ok (.iload_n 2, 1) := by decide +kernel
theorem dX3_hasCircle_28 : decode cX3_hasCircle 28 = .ok (.aload_n 0, 1) := by decide +kernel
theorem dX3_hasCircle_29 : decode cX3_hasCircle 29 = .ok (.getfield 39, 3) := by decide +kernel
theorem dX3_hasCircle_32 : decode cX3_hasCircle 32 = .ok (.if_icmp .gt 106, 3) := by decide +kernel
theorem dX3_hasCircle_35 : decode cX3_hasCircle 35 = .ok (.iload_n 1, 1) := by decide +kernel
theorem dX3_hasCircle_36 : decode cX3_hasCircle 36 = .ok (.ifCond .eq 102, 3) := by decide +kernel
theorem dX3_hasCircle_39 : decode cX3_hasCircle 39 = .ok (.iconst 0, 1) := by decide +kernel
theorem dX3_hasCircle_40 : decode cX3_hasCircle 40 = .ok (.istore_n 1, 1) := by decide +kernel
theorem dX3_hasCircle_41 : decode cX3_hasCircle 41 = .ok (.iconst 0, 1) := by decide +kernel
theorem dX3_hasCircle_42 : decode cX3_hasCircle 42 = .ok (.istore_n 3, 1) := by decide +kernel
theorem dX3_hasCircle_43 : decode cX3_hasCircle 43 = .ok (.iload_n 3, 1) := by decide +kernel
theorem dX3_hasCircle_44 : decode cX3_hasCircle 44 = .ok (.aload_n 0, 1) := by decide +kernel
theorem dX3_hasCircle_45 : decode cX3_hasCircle 45 = .ok (.getfield 56, 3) := by decide +kernel
theorem dX3_hasCircle_48 : decode cX3_hasCircle 48 = .ok (.if_icmp .ge 84, 3) := by decide +kernel
theorem dX3_hasCircle_51 : decode cX3_hasCircle 51 = .ok (.aload_n 0, 1) := by decide +kernel
theorem dX3_hasCircle_52 : decode cX3_hasCircle 52 = .ok (.getfield 16, 3) := by decide +kernel
theorem dX3_hasCircle_55 : decode cX3_hasCircle 55 = .ok (.iload_n 3, 1) := by decide +kernel
theorem dX3_hasCircle_56 : decode cX3_hasCircle 56 = .ok (.iaload, 1) := by decide +kernel
theorem dX3_hasCircle_57 : decode cX3_hasCircle 57 = .ok (.ifCond .le 69, 3) := by decide +kernel
theorem dX3_hasCircle_60 : decode cX3_hasCircle 60 = .ok (.aload_n 0, 1) := by decide +kernel
theorem dX3_hasCircle_61 : decode cX3_hasCircle 61 = .ok (.getfield 25, 3) := by decide +kernel
theorem dX3_hasCircle_64 : decode cX3_hasCircle 64 = .ok (.aload_n 0, 1) := by decide +kernel
theorem dX3_hasCircle_65 : decode cX3_hasCircle 65 = .ok (.getfield 7, 3) := by decide +kernel
theorem dX3_hasCircle_68 : decode cX3_hasCircle 68 = .ok (.iload_n 3, 1) := by decide +kernel
theorem dX3_hasCircle_69 : decode cX3_hasCircle 69 = .ok (.iaload, 1) := by decide +kernel
theorem dX3_hasCircle_70 : decode cX3_hasCircle 70 = .ok (.laload, 1) := by decide +kernel
theorem dX3_hasCircle_71 : decode cX3_hasCircle 71 = .ok (.aload_n 0, 1) := by decide +kernel
theorem dX3_hasCircle_72 : decode cX3_hasCircle 72 = .ok (.getfield 19, 3) := by decide +kernel
theorem dX3_hasCircle_75 : decode cX3_hasCircle 75 = .ok (.iload_n 3, 1) := by decide +kernel
theorem dX3_hasCircle_76 : decode cX3_hasCircle 76 = .ok (.iaload, 1) := by decide +kernel
theorem dX3_hasCircle_77 : decode cX3_hasCircle 77 = .ok (.i2l, 1) := by decide +kernel
theorem dX3_hasCircle_78 : decode cX3_hasCircle 78 = .ok (.ladd, 1) := by decide +kernel
theorem dX3_hasCircle_79 : decode cX3_hasCircle 79 = .ok (.aload_n 0, 1) := by decide +kernel
theorem dX3_hasCircle_80 : decode cX3_hasCircle 80 = .ok (.getfield 25, 3) := by decide +kernel
theorem dX3_hasCircle_83 : decode cX3_hasCircle 83 = .ok (.aload_n 0, 1) := by decide +kernel
theorem dX3_hasCircle_84 : decode cX3_hasCircle 84 = .ok (.getfield 13, 3) := by decide +kernel
theorem dX3_hasCircle_87 : decode cX3_hasCircle 87 = .ok (.iload_n 3, 1) := by decide +kernel
theorem dX3_hasCircle_88 : decode cX3_hasCircle 88 = .ok (.iaload, 1) := by decide +kernel
theorem dX3_hasCircle_89 : decode cX3_hasCircle 89 = .ok (.laload, 1) := by decide +kernel
theorem dX3_hasCircle_90 : decode cX3_hasCircle 90 = .ok (.lcmp, 1) := by decide +kernel
theorem dX3_hasCircle_91 : decode cX3_hasCircle 91 = .ok (.ifCond .ge 35, 3) := by decide +kernel
theorem dX3_hasCircle_94 : decode cX3_hasCircle 94 = .ok (.aload_n 0, 1) := by decide +kernel
theorem dX3_hasCircle_95 : decode cX3_hasCircle 95 = .ok (.getfield 25, 3) := by decide +kernel
theorem dX3_hasCircle_98 : decode cX3_hasCircle 98 = .ok (.aload_n 0, 1) := by decide +kernel
theorem dX3_hasCircle_99 : decode cX3_hasCircle 99 = .ok (.getfield 13, 3) := by decide +kernel
theorem dX3_hasCircle_102 : decode cX3_hasCircle 102 = .ok (.iload_n 3, 1) := by decide +kernel
theorem dX3_hasCircle_103 : decode cX3_hasCircle 103 = .ok (.iaload, 1) := by decide +kernel
theorem dX3_hasCircle_104 : decode cX3_hasCircle 104 = .ok (.aload_n 0, 1) := by decide +kernel
theorem dX3_hasCircle_105 : decode cX3_hasCircle 105 = .ok (.getfield 25, 3) := by decide +kernel
theorem dX3_hasCircle_108 : decode cX3_hasCircle 108 = .ok (.aload_n 0, 1) := by decide +kernel
theorem dX3_hasCircle_109 : decode cX3_hasCircle 109 = .ok (.getfield 7, 3) := by decide +kernel
theorem dX3_hasCircle_112 : decode cX3_hasCircle 112 = .ok (.iload_n 3, 1) := by decide +kernel
theorem dX3_hasCircle_113 : decode cX3_hasCircle 113 = .ok (.iaload, 1) := by decide +kernel
theorem dX3_hasCircle_114 : decode cX3_hasCircle 114 = .ok (.laload, 1) := by decide +kernel
theorem dX3_hasCircle_115 : decode cX3_hasCircle 115 = .ok (.aload_n 0, 1) := by decide +kernel
theorem dX3_hasCircle_116 : decode cX3_hasCircle 116 = .ok (.getfield 19, 3) := by decide +kernel
theorem dX3_hasCircle_119 : decode cX3_hasCircle 119 = .ok (.iload_n 3, 1) := by decide +kernel
theorem dX3_hasCircle_120 : decode cX3_hasCircle 120 = .ok (.iaload, 1) := by decide +kernel
theorem dX3_hasCircle_121 : decode cX3_hasCircle 121 = .ok (.i2l, 1) := by decide +kernel
theorem dX3_hasCircle_122 : decode cX3_hasCircle 122 = .ok (.ladd, 1) := by decide +kernel
theorem dX3_hasCircle_123 : decode cX3_hasCircle 123 = .ok (.lastore, 1) := by decide +kernel
theorem dX3_hasCircle_124 : decode cX3_hasCircle 124 = .ok (.iconst 1, 1) := by decide +kernel
theorem dX3_hasCircle_125 : decode cX3_hasCircle 125 = .ok (.istore_n 1, 1) := by decide +kernel
theorem dX3_hasCircle_126 : decode cX3_hasCircle 126 = .ok (.iinc 3 1, 3) := by decide +kernel
theorem dX3_hasCircle_129 : decode cX3_hasCircle 129 = .ok (.goto (-86), 3) := by decide +kernel
theorem dX3_hasCircle_132 : decode cX3_hasCircle 132 = .ok (.iinc 2 1, 3) := by decide +kernel
theorem dX3_hasCircle_135 : decode cX3_hasCircle 135 = .ok (.goto (-108), 3) := by decide +kernel
theorem dX3_hasCircle_138 : decode cX3_hasCircle 138 = .ok (.iload_n 1, 1) := by decide +kernel
theorem dX3_hasCircle_139 : decode cX3_hasCircle 139 = .ok (.ireturn, 1) := by decide +kernel
theorem dX3_findWays_0 : decode cX3_findWays 0 = .ok (.iconst 0, 1) := by decide +kernel
theorem dX3_findWays_1 : decode cX3_findWays 1 = .ok (.istore_n 1, 1) := by decide +kernel
theorem dX3_findWays_2 : decode cX3_findWays 2 = .ok (.iload_n 1, 1) := by decide +kernel
theorem dX3_findWays_3 : decode cX3_findWays 3 = .ok (.aload_n 0, 1) := by decide +kernel
theorem dX3_findWays_4 : decode cX3_findWays 4 = .ok (.getfield 39, 3) := by decide +kernel
theorem dX3_findWays_7 : decode cX3_findWays 7 = .ok (.if_icmp .ge 42, 3) := by decide +kernel
theorem dX3_findWays_10 : decode cX3_findWays 10 = .ok (.aload_n 0, 1) := by decide +kernel
theorem dX3_findWays_11 : decode cX3_findWays 11 = .ok (.getfield 32, 3) := by decide +kernel
theorem dX3_findWays_14 : decode cX3_findWays 14 = .ok (.iload_n 1, 1) := by decide +kernel
theorem dX3_findWays_15 : decode cX3_findWays 15 = .ok (.iload_n 1, 1) := by decide +kernel
theorem dX3_findWays_16 : decode cX3_findWays 16 = .ok (.aload_n 0, 1) := by decide +kernel
theorem dX3_findWays_17 : decode cX3_findWays 17 = .ok (.getfield 76, 3) := by decide +kernel
theorem dX3_findWays_20 : decode cX3_findWays 20 = .ok (.if_icmp .ne 7, 3) := by decide +kernel
theorem dX3_findWays_23 : decode cX3_findWays 23 = .ok (.iconst 1, 1) := by decide +kernel
theorem dX3_findWays_24 : decode cX3_findWays 24 = .ok (.goto 4, 3) := by decide +kernel
theorem dX3_findWays_27 : decode cX3_findWays 27 = .ok (.iconst 0, 1) := by decide +kernel
theorem dX3_findWays_28 : decode cX3_findWays 28 = .ok (.bastore, 1) := by decide +kernel
theorem dX3_findWays_29 : decode cX3_findWays 29 = .ok (.aload_n 0, 1) := by decide +kernel
theorem dX3_findWays_30 : decode cX3_findWays 30 = .ok (.getfield 25, 3) := by decide +kernel
theorem dX3_findWays_33 : decode cX3_findWays 33 = .ok (.iload_n 1, 1) := by decide +kernel
theorem dX3_findWays_34 : decode cX3_findWays 34 = .ok (.lconst 0, 1) := by decide +kernel
theorem dX3_findWays_35 : decode cX3_findWays 35 = .ok (.lastore, 1) := by decide +kernel
theorem dX3_findWays_36 : decode cX3_findWays 36 = .ok (.aload_n 0, 1) := by decide +kernel
theorem dX3_findWays_37 : decode cX3_findWays 37 = .ok (.getfield 29, 3) := by decide +kernel
theorem dX3_findWays_40 : decode cX3_findWays 40 = .ok (.iload_n 1, 1) := by decide +kernel
theorem dX3_findWays_41 : decode cX3_findWays 41 = .ok (.iconst 0, 1) := by decide +kernel
theorem dX3_findWays_42 : decode cX3_findWays 42 = .ok (.iastore, 1) := by decide +kernel
theorem dX3_findWays_43 : decode cX3_findWays 43 = .ok (.iinc 1 1, 3) := by decide +kernel
theorem dX3_findWays_46 : decode cX3_findWays 46 = .ok (.goto (-44), 3) := by decide +kernel
theorem dX3_findWays_49 : decode cX3_findWays 49 = .ok (.iconst 1, 1) := by decide +kernel
theorem dX3_findWays_50 : decode cX3_findWays 50 = .ok (.istore_n 1, 1) := by decide +kernel
theorem dX3_findWays_51 : decode cX3_findWays 51 = .ok (.iload_n 1, 1) := by decide +kernel
theorem dX3_findWays_52 : decode cX3_findWays 52 = .ok (.ifCond .eq 161, 3) := by decide +kernel
theorem dX3_findWays_55 : decode cX3_findWays 55 = .ok (.iconst 0, 1) := by decide +kernel
theorem dX3_findWays_56 : decode cX3_findWays 56 = .ok (.istore_n 1, 1) := by decide +kernel
theorem dX3_findWays_57 : decode cX3_findWays 57 = .ok (.iconst 0, 1) := by decide +kernel
theorem dX3_findWays_58 : decode cX3_findWays 58 = .ok (.istore_n 2, 1) := by decide +kernel
theorem dX3_findWays_59 : decode cX3_findWays 59 = .ok (.iload_n 2, 1) := by decide +kernel
theorem dX3_findWays_60 : decode cX3_findWays 60 = .ok (.iconst 2, 1) := by decide +kernel
theorem dX3_findWays_61 : decode cX3_findWays 61 = .ok (.aload_n 0, 1) := by decide +kernel
theorem dX3_findWays_62 : decode cX3_findWays 62 = .ok (.getfield 56, 3) := by decide +kernel
theorem dX3_findWays_65 : decode cX3_findWays 65 = .ok (.imul, 1) := by decide +kernel
theorem dX3_findWays_66 : decode cX3_findWays 66 = .ok (.if_icmp .ge 144, 3) := by decide +kernel
theorem dX3_findWays_69 : decode cX3_findWays 69 = .ok (.aload_n 0, 1) := by decide +kernel
theorem dX3_findWays_70 : decode cX3_findWays 70 = .ok (.iload_n 2, 1) := by decide +kernel
theorem dX3_findWays_71 : decode cX3_findWays 71 = .ok (.invokevirtual 82, 3) := by decide +kernel
theorem dX3_findWays_74 : decode cX3_findWays 74 = .ok (.istore_n 3, 1) := by decide +kernel
theorem dX3_findWays_75 : decode cX3_findWays 75 = .ok (.aload_n 0, 1) := by decide +kernel
theorem dX3_findWays_76 : decode cX3_findWays 76 = .ok (.iload_n 2, 1) := by decide +kernel
theorem dX3_findWays_77 : decode cX3_findWays 77 = .ok (.invokevirtual 86, 3) := by decide +kernel
theorem dX3_findWays_80 : decode cX3_findWays 80 = .ok (.istore 4, 2) := by decide +kernel
theorem dX3_findWays_82 : decode cX3_findWays 82 = .ok (.aload_n 0, 1) := by decide +kernel
theorem dX3_findWays_83 : decode cX3_findWays 83 = .ok (.iload_n 2, 1) := by decide +kernel
theorem dX3_findWays_84 : decode cX3_findWays 84 = .ok (.invokevirtual 89, 3) := by decide +kernel
theorem dX3_findWays_87 : decode cX3_findWays 87 = .ok (.ifCond .le 117, 3) := by decide +kernel
theorem dX3_findWays_90 : decode cX3_findWays 90 = .ok (.aload_n 0, 1) := by decide +kernel
theorem dX3_findWays_91 : decode cX3_findWays 91 = .ok (.getfield 32, 3) := by decide +kernel
theorem dX3_findWays_94 : decode cX3_findWays 94 = .ok (.iload 4, 2) := by decide +kernel
theorem dX3_findWays_96 : decode cX3_findWays 96 = .ok (.baload, 1) := by decide +kernel
theorem dX3_findWays_97 : decode cX3_findWays 97 = .ok (.ifCond .eq 107, 3) := by decide +kernel
theorem dX3_findWays_100 : decode cX3_findWays 100 = .ok (.iload_n 3, 1) := by decide +kernel
theorem dX3_findWays_101 : decode cX3_findWays 101 = .ok (.aload_n 0, 1) := by decide +kernel
theorem dX3_findWays_102 : decode cX3_findWays 102 = .ok (.getfield 76, 3) := by decide +kernel
theorem dX3_findWays_105 : decode cX3_findWays 105 = .ok (.if_icmp .eq 99, 3) := by decide +kernel
theorem dX3_findWays_108 : decode cX3_findWays 108 = .ok (.aload_n 0, 1) := by decide +kernel
theorem dX3_findWays_109 : decode cX3_findWays 109 = .ok (.getfield 25, 3) := by decide +kernel
theorem dX3_findWays_112 : decode cX3_findWays 112 = .ok (.iload 4, 2) := by decide +kernel
theorem dX3_findWays_114 : decode cX3_findWays 114 = .ok (.laload, 1) := by decide +kernel
theorem dX3_findWays_115 : decode cX3_findWays 115 = .ok (.aload_n 0, 1) := by decide +kernel
theorem dX3_findWays_116 : decode cX3_findWays 116 = .ok (.iload_n 2, 1) := by decide +kernel
theorem dX3_findWays_117 : decode cX3_findWays 117 = .ok (.invokevirtual 92, 3) := by decide +kernel
theorem dX3_findWays_120 : decode cX3_findWays 120 = .ok (.i2l, 1) := by decide +kernel
theorem dX3_findWays_121 : decode cX3_findWays 121 = .ok (.ladd, 1) := by decide +kernel
theorem dX3_findWays_122 : decode cX3_findWays 122 = .ok (.lstore 5, 2) := by decide +kernel
theorem dX3_findWays_124 : decode cX3_findWays 124 = .ok (.aload_n 0, 1) := by decide +kernel
theorem dX3_findWays_125 : decode cX3_findWays 125 = .ok (.getfield 29, 3) := by decide +kernel
theorem dX3_findWays_128 : decode cX3_findWays 128 = .ok (.iload 4, 2) := by decide +kernel
theorem dX3_findWays_130 : decode cX3_findWays 130 = .ok (.iaload, 1) := by decide +kernel
theorem dX3_findWays_131 : decode cX3_findWays 131 = .ok (.iconst 1, 1) := by decide +kernel
theorem dX3_findWays_132 : decode cX3_findWays 132 = .ok (.iadd, 1) := by decide +kernel
theorem dX3_findWays_133 : decode cX3_findWays 133 = .ok (.istore 7, 2) := by decide +kernel
theorem dX3_findWays_135 : decode cX3_findWays 135 = .ok (.aload_n 0, 1) := by decide +kernel
theorem dX3_findWays_136 : decode cX3_findWays 136 = .ok (.getfield 32, 3) := by decide +kernel
theorem dX3_findWays_139 : decode cX3_findWays 139 = .ok (.iload_n 3, 1) := by decide +kernel
theorem dX3_findWays_140 : decode cX3_findWays 140 = .ok (.baload, 1) := by decide +kernel
theorem dX3_findWays_141 : decode cX3_findWays 141 = .ok (.ifCond .eq 38, 3) := by decide +kernel
theorem dX3_findWays_144 : decode cX3_findWays 144 = .ok (.lload 5, 2) := by decide +kernel
theorem dX3_findWays_146 : decode cX3_findWays 146 = .ok (.aload_n 0, 1) := by decide +kernel
theorem dX3_findWays_147 : decode cX3_findWays 147 = .ok (.getfield 25, 3) := by decide +kernel
theorem dX3_findWays_150 : decode cX3_findWays 150 = .ok (.iload_n 3, 1) := by decide +kernel
theorem dX3_findWays_151 : decode cX3_findWays 151 = .ok (.laload, 1) := by decide +kernel
theorem dX3_findWays_152 : decode cX3_findWays 152 = .ok (.lcmp, 1) := by decide +kernel
theorem dX3_findWays_153 : decode cX3_findWays 153 = .ok (.ifCond .lt 26, 3) := by decide +kernel
theorem dX3_findWays_156 : decode cX3_findWays 156 = .ok (.lload 5, 2) := by decide +kernel
theorem dX3_findWays_158 : decode cX3_findWays 158 = .ok (.aload_n 0, 1) := by decide +kernel
theorem dX3_findWays_159 : decode cX3_findWays 159 = .ok (.getfield 25, 3) := by decide +kernel
theorem dX3_findWays_162 : decode cX3_findWays 162 = .ok (.iload_n 3, 1) := by decide +kernel
theorem dX3_findWays_163 : decode cX3_findWays 163 = .ok (.laload, 1) := by decide +kernel
theorem dX3_findWays_164 : decode cX3_findWays 164 = .ok (.lcmp, 1) := by decide +kernel
theorem dX3_findWays_165 : decode cX3_findWays 165 = .ok (.ifCond .ne 39, 3) := by decide +kernel
theorem dX3_findWays_168 : decode cX3_findWays 168 = .ok (.iload 7, 2) := by decide +kernel
theorem dX3_findWays_170 : decode cX3_findWays 170 = .ok (.aload_n 0, 1) := by decide +kernel
theorem dX3_findWays_171 : decode cX3_findWays 171 = .ok (.getfield 29, 3) := by decide +kernel
theorem dX3_findWays_174 : decode cX3_findWays 174 = .ok (.iload_n 3, 1) := by decide +kernel
theorem dX3_findWays_175 : decode cX3_findWays 175 = .ok (.iaload, 1) := by decide +kernel
theorem dX3_findWays_176 : decode cX3_findWays 176 = .ok (.if_icmp .ge 28, 3) := by decide +kernel
theorem dX3_findWays_179 : decode cX3_findWays 179 = .ok (.aload_n 0, 1) := by decide +kernel
theorem dX3_findWays_180 : decode cX3_findWays 180 = .ok (.getfield 32, 3) := by decide +kernel
theorem dX3_findWays_183 : decode cX3_findWays 183 = .ok (.iload_n 3, 1) := by decide +kernel
theorem dX3_findWays_184 : decode cX3_findWays 184 = .ok (.iconst 1, 1) := by decide +kernel
theorem dX3_findWays_185 : decode cX3_findWays 185 = .ok (.bastore, 1) := by decide +kernel
theorem dX3_findWays_186 : decode cX3_findWays 186 = .ok (.aload_n 0, 1) := by decide +kernel
theorem dX3_findWays_187 : decode cX3_findWays 187 = .ok (.getfield 25, 3) := by decide +kernel
theorem dX3_findWays_190 : decode cX3_findWays 190 = .ok (.iload_n 3, 1) := by decide +kernel
theorem dX3_findWays_191 : decode cX3_findWays 191 = .ok (.lload 5, 2) := by decide +kernel
theorem dX3_findWays_193 : decode cX3_findWays 193 = .ok (.lastore, 1) := by decide +kernel
theorem dX3_findWays_194 : decode cX3_findWays 194 = .ok (.aload_n 0, 1) := by decide +kernel
theorem dX3_findWays_195 : decode cX3_findWays 195 = .ok (.getfield 29, 3) := by decide +kernel
theorem dX3_findWays_198 : decode cX3_findWays 198 = .ok (.iload_n 3, 1) := by decide +kernel
theorem dX3_findWays_199 : decode cX3_findWays 199 = .ok (.iload 7, 2) := by decide +kernel
theorem dX3_findWays_201 : decode cX3_findWays 201 = .ok (.iastore, 1) := by decide +kernel
theorem dX3_findWays_202 : decode cX3_findWays 202 = .ok (.iconst 1, 1) := by decide +kernel
theorem dX3_findWays_203 : decode cX3_findWays 203 = .ok (.istore_n 1, 1) := by decide +kernel
theorem dX3_findWays_204 : decode cX3_findWays 204 = .ok (.iinc 2 1, 3) := by decide +kernel
theorem dX3_findWays_207 : decode cX3_findWays 207 = .ok (.goto (-148), 3) := by decide +kernel
theorem dX3_findWays_210 : decode cX3_findWays 210 = .ok (.goto (-159), 3) := by decide +kernel
theorem dX3_findWays_213 : decode cX3_findWays 213 = .ok (.aload_n 0, 1) := by decide +kernel
theorem dX3_findWays_214 : decode cX3_findWays 214 = .ok (.getfield 32, 3) := by decide +kernel
theorem dX3_findWays_217 : decode cX3_findWays 217 = .ok (.aload_n 0, 1) := by decide +kernel
theorem dX3_findWays_218 : decode cX3_findWays 218 = .ok (.getfield 73, 3) := by decide +kernel
theorem dX3_findWays_221 : decode cX3_findWays 221 = .ok (.baload, 1) := by decide +kernel
theorem dX3_findWays_222 : decode cX3_findWays 222 = .ok (.ireturn, 1) := by decide +kernel
theorem dX3_nextArc_0 : decode cX3_nextArc 0 = .ok (.iconst 0, 1) := by decide +kernel
theorem dX3_nextArc_1 : decode cX3_nextArc 1 = .ok (.istore_n 2, 1) := by decide +kernel
theorem dX3_nextArc_2 : decode cX3_nextArc 2 = .ok (.iload_n 2, 1) := by decide +kernel
theorem dX3_nextArc_3 : decode cX3_nextArc 3 = .ok (.iconst 2, 1) := by decide +kernel
theorem dX3_nextArc_4 : decode cX3_nextArc 4 = .ok (.aload_n 0, 1) := by decide +kernel
theorem dX3_nextArc_5 : decode cX3_nextArc 5 = .ok (.getfield 56, 3) := by decide +kernel
theorem dX3_nextArc_8 : decode cX3_nextArc 8 = .ok (.imul, 1) := by decide +kernel
theorem dX3_nextArc_9 : decode cX3_nextArc 9 = .ok (.if_icmp .ge 83, 3) := by decide +kernel
theorem dX3_nextArc_12 : decode cX3_nextArc 12 = .ok (.aload_n 0, 1) := by decide +kernel
theorem dX3_nextArc_13 : decode cX3_nextArc 13 = .ok (.iload_n 2, 1) := by decide +kernel
theorem dX3_nextArc_14 : decode cX3_nextArc 14 = .ok (.invokevirtual 86, 3) := by decide +kernel
theorem dX3_nextArc_17 : decode cX3_nextArc 17 = .ok (.istore_n 3, 1) := by decide +kernel
theorem dX3_nextArc_18 : decode cX3_nextArc 18 = .ok (.aload_n 0, 1) := by decide +kernel
theorem dX3_nextArc_19 : decode cX3_nextArc 19 = .ok (.iload_n 2, 1) := by decide +kernel
theorem dX3_nextArc_20 : decode cX3_nextArc 20 = .ok (.invokevirtual 82, 3) := by decide +kernel
theorem dX3_nextArc_23 : decode cX3_nextArc 23 = .ok (.iload_n 1, 1) := by decide +kernel
theorem dX3_nextArc_24 : decode cX3_nextArc 24 = .ok (.if_icmp .ne 62, 3) := by decide +kernel
theorem dX3_nextArc_27 : decode cX3_nextArc 27 = .ok (.aload_n 0, 1) := by decide +kernel
theorem dX3_nextArc_28 : decode cX3_nextArc 28 = .ok (.iload_n 2, 1) := by decide +kernel
theorem dX3_nextArc_29 : decode cX3_nextArc 29 = .ok (.invokevirtual 89, 3) := by decide +kernel
theorem dX3_nextArc_32 : decode cX3_nextArc 32 = .ok (.ifCond .le 54, 3) := by decide +kernel
theorem dX3_nextArc_35 : decode cX3_nextArc 35 = .ok (.aload_n 0, 1) := by decide +kernel
theorem dX3_nextArc_36 : decode cX3_nextArc 36 = .ok (.getfield 32, 3) := by decide +kernel
theorem dX3_nextArc_39 : decode cX3_nextArc 39 = .ok (.iload_n 3, 1) := by decide +kernel
theorem dX3_nextArc_40 : decode cX3_nextArc 40 = .ok (.baload, 1) := by decide +kernel
theorem dX3_nextArc_41 : decode cX3_nextArc 41 = .ok (.ifCond .eq 45, 3) := by decide +kernel
theorem dX3_nextArc_44 : decode cX3_nextArc 44 = .ok (.aload_n 0, 1) := by decide +kernel
theorem dX3_nextArc_45 : decode cX3_nextArc 45 = .ok (.getfield 25, 3) := by decide +kernel
theorem dX3_nextArc_48 : decode cX3_nextArc 48 = .ok (.iload_n 3, 1) := by decide +kernel
theorem dX3_nextArc_49 : decode cX3_nextArc 49 = .ok (.laload, 1) := by decide +kernel
theorem dX3_nextArc_50 : decode cX3_nextArc 50 = .ok (.aload_n 0, 1) := by decide +kernel
theorem dX3_nextArc_51 : decode cX3_nextArc 51 = .ok (.iload_n 2, 1) := by decide +kernel
theorem dX3_nextArc_52 : decode cX3_nextArc 52 = .ok (.invokevirtual 92, 3) := by decide +kernel
theorem dX3_nextArc_55 : decode cX3_nextArc 55 = .ok (.i2l, 1) := by decide +kernel
theorem dX3_nextArc_56 : decode cX3_nextArc 56 = .ok (.ladd, 1) := by decide +kernel
theorem dX3_nextArc_57 : decode cX3_nextArc 57 = .ok (.aload_n 0, 1) := by decide +kernel
theorem dX3_nextArc_58 : decode cX3_nextArc 58 = .ok (.getfield 25, 3) := by decide +kernel
theorem dX3_nextArc_61 : decode cX3_nextArc 61 = .ok (.iload_n 1, 1) := by decide +kernel
theorem dX3_nextArc_62 : decode cX3_nextArc 62 = .ok (.laload, 1) := by decide +kernel
theorem dX3_nextArc_63 : decode cX3_nextArc 63 = .ok (.lcmp, 1) := by decide +kernel
theorem dX3_nextArc_64 : decode cX3_nextArc 64 = .ok (.ifCond .ne 22, 3) := by decide +kernel
theorem dX3_nextArc_67 : decode cX3_nextArc 67 = .ok (.aload_n 0, 1) := by decide +kernel
theorem dX3_nextArc_68 : decode cX3_nextArc 68 = .ok (.getfield 29, 3) := by decide +kernel
theorem dX3_nextArc_71 : decode cX3_nextArc 71 = .ok (.iload_n 3, 1) := by decide +kernel
theorem dX3_nextArc_72 : decode cX3_nextArc 72 = .ok (.iaload, 1) := by decide +kernel
theorem dX3_nextArc_73 : decode cX3_nextArc 73 = .ok (.iconst 1, 1) := by decide +kernel
theorem dX3_nextArc_74 : decode cX3_nextArc 74 = .ok (.iadd, 1) := by decide +kernel
theorem dX3_nextArc_75 : decode cX3_nextArc 75 = .ok (.aload_n 0, 1) := by decide +kernel
theorem dX3_nextArc_76 : decode cX3_nextArc 76 = .ok (.getfield 29, 3) := by decide +kernel
theorem dX3_nextArc_79 : decode cX3_nextArc 79 = .ok (.iload_n 1, 1) := by decide +kernel
theorem dX3_nextArc_80 : decode cX3_nextArc 80 = .ok (.iaload, 1) := by decide +kernel
theorem dX3_nextArc_81 : decode cX3_nextArc 81 = .ok (.if_icmp .ne 5, 3) := by decide +kernel
theorem dX3_nextArc_84 : decode cX3_nextArc 84 = .ok (.iload_n 2, 1) := by decide +kernel
theorem dX3_nextArc_85 : decode cX3_nextArc 85 = .ok (.ireturn, 1) := by decide +kernel
theorem dX3_nextArc_86 : decode cX3_nextArc 86 = .ok (.iinc 2 1, 3) := by decide +kernel
theorem dX3_nextArc_89 : decode cX3_nextArc 89 = .ok (.goto (-87), 3) := by decide +kernel
theorem dX3_nextArc_92 : decode cX3_nextArc 92 = .ok (.iconst (-1), 1) := by decide +kernel
theorem dX3_nextArc_93 : decode cX3_nextArc 93 = .ok (.ireturn, 1) := by decide +kernel
theorem dX3_round_0 : decode cX3_round 0 = .ok (.ldc 95, 2) := by decide +kernel
theorem dX3_round_2 : decode cX3_round 2 = .ok (.istore_n 1, 1) := by decide +kernel
theorem dX3_round_3 : decode cX3_round 3 = .ok (.aload_n 0, 1) := by decide +kernel
theorem dX3_round_4 : decode cX3_round 4 = .ok (.getfield 73, 3) := by decide +kernel
theorem dX3_round_7 : decode cX3_round 7 = .ok (.istore_n 2, 1) := by decide +kernel
theorem dX3_round_8 : decode cX3_round 8 = .ok (.iload_n 2, 1) := by decide +kernel
theorem dX3_round_9 : decode cX3_round 9 = .ok (.aload_n 0, 1) := by decide +kernel
theorem dX3_round_10 : decode cX3_round 10 = .ok (.getfield 76, 3) := by decide +kernel
theorem dX3_round_13 : decode cX3_round 13 = .ok (.if_icmp .eq 37, 3) := by decide +kernel
theorem dX3_round_16 : decode cX3_round 16 = .ok (.aload_n 0, 1) := by decide +kernel
theorem dX3_round_17 : decode cX3_round 17 = .ok (.aload_n 0, 1) := by decide +kernel
theorem dX3_round_18 : decode cX3_round 18 = .ok (.iload_n 2, 1) := by decide +kernel
theorem dX3_round_19 : decode cX3_round 19 = .ok (.invokevirtual 96, 3) := by decide +kernel
theorem dX3_round_22 : decode cX3_round 22 = .ok (.invokevirtual 89, 3) := by decide +kernel
theorem dX3_round_25 : decode cX3_round 25 = .ok (.istore_n 3, 1) := by decide +kernel
theorem dX3_round_26 : decode cX3_round 26 = .ok (.iload_n 3, 1) := by decide +kernel
theorem dX3_round_27 : decode cX3_round 27 = .ok (.iload_n 1, 1) := by decide +kernel
theorem dX3_round_28 : decode cX3_round 28 = .ok (.if_icmp .ge 7, 3) := by decide +kernel
theorem dX3_round_31 : decode cX3_round 31 = .ok (.iload_n 3, 1) := by decide +kernel
theorem dX3_round_32 : decode cX3_round 32 = .ok (.goto 4, 3) := by decide +kernel
theorem dX3_round_35 : decode cX3_round 35 = .ok (.iload_n 1, 1) := by decide +kernel
theorem dX3_round_36 : decode cX3_round 36 = .ok (.istore_n 1, 1) := by decide +kernel
theorem dX3_round_37 : decode cX3_round 37 = .ok (.aload_n 0, 1) := by decide +kernel
theorem dX3_round_38 : decode cX3_round 38 = .ok (.aload_n 0, 1) := by decide +kernel
theorem dX3_round_39 : decode cX3_round 39 = .ok (.iload_n 2, 1) := by decide +kernel
theorem dX3_round_40 : decode cX3_round 40 = .ok (.invokevirtual 96, 3) := by decide +kernel
theorem dX3_round_43 : decode cX3_round 43 = .ok (.invokevirtual 86, 3) := by decide +kernel
theorem dX3_round_46 : decode cX3_round 46 = .ok (.istore_n 2, 1) := by decide +kernel
theorem dX3_round_47 : decode cX3_round 47 = .ok (.goto (-39), 3) := by decide +kernel
theorem dX3_round_50 : decode cX3_round 50 = .ok (.aload_n 0, 1) := by decide +kernel
theorem dX3_round_51 : decode cX3_round 51 = .ok (.getfield 73, 3) := by decide +kernel
theorem dX3_round_54 : decode cX3_round 54 = .ok (.istore_n 2, 1) := by decide +kernel
theorem dX3_round_55 : decode cX3_round 55 = .ok (.aload_n 0, 1) := by decide +kernel
theorem dX3_round_56 : decode cX3_round 56 = .ok (.getfield 29, 3) := by decide +kernel
theorem dX3_round_59 : decode cX3_round 59 = .ok (.aload_n 0, 1) := by decide +kernel
